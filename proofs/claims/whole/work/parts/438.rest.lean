section
/-! shift, count, cause, image, undo, judge -/
theorem room_ok {a : Nat} {i n : Int} {sz : Nat} {M : Mem} (h1 : M a 1 = sz) (hs : sz ≤ 60) : fX5_hasRoom a i n M = some (if 0 ≤ i ∧ i ≤ sz ∧ n ≤ sz - i then 1 else 0, M) := by
  apply ok_eq
  unfold fX5_hasRoom
  rw [h1]
  refine ok_bi (ok_ite (fun h => ?_) (fun h => ok_ite (fun h2 => ?_) (fun h2 => ok_chk (by omega) (ok_ite (fun h3 => ?_) (fun h3 => ?_)))))
  · rw [if_neg (show ¬ (0 ≤ i ∧ i ≤ (sz : Int) ∧ n ≤ sz - i) by omega)]; exact ok_some (ok_chk (Or.inl rfl) (ok_some rfl))
  · rw [if_neg (show ¬ (0 ≤ i ∧ i ≤ (sz : Int) ∧ n ≤ sz - i) by omega)]; exact ok_some (ok_chk (Or.inl rfl) (ok_some rfl))
  · rw [if_neg (show ¬ (0 ≤ i ∧ i ≤ (sz : Int) ∧ n ≤ sz - i) by omega)]; exact ok_some (ok_chk (Or.inl rfl) (ok_some rfl))
  · rw [if_pos (show (0 ≤ i ∧ i ≤ (sz : Int) ∧ n ≤ sz - i) by omega)]; exact ok_some (ok_chk (Or.inr rfl) (ok_some rfl))
/-- moved: n items of f from i on, to j -/
def mvd (f g : Vec) (i j n : Nat) : Vec := fun k => if j ≤ k ∧ k < j + n then f (i + (k - j)) else g k
theorem op_shift {s : SS} (hs : GS s) (t i u j n : Int) (hn : n ≤ 2147483647) : Op s (fX8_shift 10 t i u j n) (fX9_shift 20000 t i u j n) := by
  unfold fX8_shift fX9_shift
  simp only [Nat.reduceAdd]
  have one0 : ¬ ((1 : Int) = 0) := by decide
  by_cases ht : 0 ≤ t ∧ t < 6
  · by_cases hu : 0 ≤ u ∧ u < 6
    · obtain ⟨a, rfl⟩ := Int.eq_ofNat_of_zero_le ht.1
      obtain ⟨b, rfl⟩ := Int.eq_ofNat_of_zero_le hu.1
      have ha : a < 6 := by omega
      have hb : b < 6 := by omega
      have ga := hs.2.2.2.2.2 a ha
      have gb := hs.2.2.2.2.2 b hb
      have ga2 := ga.2
      have gb2 := gb.2
      have va := fun (M : Mem) (hC : CI M s) => hC.1.2.2.2.2 a ha
      have vb := fun (M : Mem) (hC : CI M s) => hC.1.2.2.2.2 b hb
      have wa := fun (M : Mem) (hD : DI M s) => hD.2.2.2.2.2 a ha
      have wb := fun (M : Mem) (hD : DI M s) => hD.2.2.2.2.2 b hb
      have clsK : ∀ (M : Mem) (P : Int × Mem → Prop) (no1 : (Option Nat × Mem) → Option (Int × Mem)) (K : Nat → Nat → (Option Nat × Mem) → Option (Int × Mem)), Ok (K (56 + 16 * a) (56 + 16 * b) (some (56 + 16 * b), M)) P → Ok (Option.bind (fX8_tapeAt 10 (a : Int) M) (fun q1 => oc q1.1 (no1 q1) (fun a2 => if Sh a2 = (14, 3) then Option.bind (fX8_tapeAt 10 (b : Int) q1.2) (fun q7 => oc q7.1 (some ((-1), q7.2)) (fun a8 => if Sh a8 = (14, 3) then K a2 a8 q7 else none)) else none))) P := fun M P no1 K h => by
        refine ok_bs tapeAt_ok (oc_tp (fun e => absurd ht e) (fun k hk _ => ok_bs tapeAt_ok ?_))
        have e1 : k = a := by omega
        subst e1
        dsimp only
        rw [if_pos hu, tn]
        show Ok (if Sh (56 + 16 * b) = (14, 3) then K (56 + 16 * k) (56 + 16 * b) (some (56 + 16 * b), M) else none) P
        exact ok_if (Sh_tp b hb) h
      by_cases h1 : (s.tp a).1 = -1
      · refine ⟨-11, s, hs, fun M hC => clsK M _ _ _ (ok_if (by (try dsimp only); rw [(va M hC).1]; exact h1) (ok_some (PC.self hC))), fun M hD => ok_bs isTape_ok (ok_el (by rw [if_pos ht]; exact one0) (ok_bs isTape_ok (ok_el (by rw [if_pos hu]; exact one0) (ok_chk ht (ok_if ?_ (ok_some (PD.self hD)))))))⟩
        have e66 : M 20066 a = (s.tp a).1 := (wa M hD).1
        dsimp only
        rw [tn, e66]; omega
      · have h1' : 0 ≤ (s.tp a).1 := by rcases ga.1 with h | h <;> omega
        by_cases h2 : (s.tp b).1 = -1
        · refine ⟨-11, s, hs, fun M hC => clsK M _ _ _ (ok_el (by (try dsimp only); rw [(va M hC).1]; exact h1) (ok_if (by (try dsimp only); rw [(vb M hC).1]; exact h2) (ok_some (PC.self hC)))), fun M hD => ok_bs isTape_ok (ok_el (by rw [if_pos ht]; exact one0) (ok_bs isTape_ok (ok_el (by rw [if_pos hu]; exact one0) (ok_chk ht (ok_el ?_ (ok_chk hu (ok_el ?_ (ok_some (PD.self hD)))))))))⟩
          · have e66 : M 20066 a = (s.tp a).1 := (wa M hD).1
            dsimp only
            rw [tn, e66]; omega
          · have e66 : M 20066 b = (s.tp b).1 := (wb M hD).1
            dsimp only
            rw [tn, e66]; omega
        · have h2' : 0 ≤ (s.tp b).1 := by rcases gb.1 with h | h <;> omega
          have mdl : ∀ (M : Mem), DI M s → ∀ (P : Int × Mem → Prop) (K1 K2 : Option (Int × Mem)) (no1 no2 : Option (Int × Mem)), (((s.tp a).1 = (s.tp b).1 → Ok K1 P) ∧ ((s.tp a).1 ≠ (s.tp b).1 → Ok K2 P)) → Ok (if M 20066 (a : Int).toNat < 0 then no1 else if 0 ≤ (b : Int) ∧ (b : Int) < 6 then (if 0 ≤ M 20066 (b : Int).toNat then if 0 ≤ (a : Int) ∧ (a : Int) < 6 then if 0 ≤ (b : Int) ∧ (b : Int) < 6 then (if M 20066 (a : Int).toNat = M 20066 (b : Int).toNat then K1 else K2) else none else none else no2) else none) P := fun M hD P K1 K2 no1 no2 h => by
            have ea : M 20066 a = (s.tp a).1 := (wa M hD).1
            have eb : M 20066 b = (s.tp b).1 := (wb M hD).1
            simp only [tn, ea, eb]
            exact ok_el (by omega) (ok_chk hu (ok_if h2' (ok_chk ht (ok_chk hu (ok_ite h.1 h.2)))))
          by_cases h3 : (s.tp a).1 = (s.tp b).1
          · by_cases h4 : 0 ≤ n ∧ 0 ≤ i ∧ 0 ≤ j ∧ i + n ≤ (s.tp a).2.1 ∧ j + n ≤ (s.tp b).2.1
            · obtain ⟨n0, i0, j0, hin, hjn⟩ := h4
              obtain ⟨n, rfl⟩ := Int.eq_ofNat_of_zero_le n0
              obtain ⟨i, rfl⟩ := Int.eq_ofNat_of_zero_le i0
              obtain ⟨j, rfl⟩ := Int.eq_ofNat_of_zero_le j0
              have hv : TPok ((s.tp b).1, (s.tp b).2.1, mvd (s.tp a).2.2 (s.tp b).2.2 i j n) := ⟨gb.1, gb.2⟩
              refine ⟨n, wP s (upT s.tp b ((s.tp b).1, (s.tp b).2.1, mvd (s.tp a).2.2 (s.tp b).2.2 i j n)), wP_GS hs hv, fun M hC => clsK M _ _ _ (ok_el (by (try dsimp only); rw [(va M hC).1]; exact h1) (ok_el (by (try dsimp only); rw [(vb M hC).1]; exact h2) (ok_if (by (try dsimp only); rw [(va M hC).1, (vb M hC).1]; exact h3) (ok_el (by omega) (ok_bs (room_ok (va M hC).2.1 ga2) (ok_el (by (try dsimp only); rw [if_pos (by omega)]; exact one0) (ok_bs (room_ok (vb M hC).2.1 gb2) (ok_el (by (try dsimp only); rw [if_pos (by omega)]; exact one0) (ok_chk (by omega) (ok_nm0 (ok_some ?_))))))))))), fun M hD => ok_bs isTape_ok (ok_el (by rw [if_pos ht]; exact one0) (ok_bs isTape_ok (ok_el (by rw [if_pos hu]; exact one0) (ok_chk ht (mdl M hD _ _ _ _ _ ⟨fun _ => ?_, fun e => absurd h3 e⟩)))))⟩
              · simp only [tn]
                have e59 : ∀ x, 56 + 16 * x + 3 = 59 + 16 * x := fun x => by omega
                rw [e59, e59]
                have fx : ∀ x, x ≠ 59 + 16 * b → cpM M (59 + 16 * a) i (59 + 16 * b) j n x = M x := fun x hx => by funext k; simp [cpM, hx]
                refine PC.mk' (hC.tp hs (fun u hu => ?_) (fun x hx => fx x (by omega))) (fun x hx => fx x (by omega))
                rw [fx (56 + 16 * u) (by omega)]
                by_cases e : u = b
                · subst e
                  rw [upT_same]
                  refine ⟨(vb M hC).1, (vb M hC).2.1, fun x hx => ?_⟩
                  have hx' : x < (s.tp u).2.1 := hx
                  show cpM M (59 + 16 * a) i (59 + 16 * u) j n (59 + 16 * u) x = mvd (s.tp a).2.2 (s.tp u).2.2 i j n x
                  unfold mvd cpM
                  by_cases e2 : j ≤ x ∧ x < j + n
                  · rw [if_pos e2, if_pos ⟨rfl, e2⟩]; exact (va M hC).2.2 _ (by omega)
                  · rw [if_neg e2, if_neg (fun h => e2 h.2)]; exact (vb M hC).2.2 x hx'
                · rw [upT_ne e, fx _ (by omega)]; exact hC.1.2.2.2.2 u hu
              · have ea : M 20067 a = (s.tp a).2.1 := (wa M hD).2.1
                have eb : M 20067 b = (s.tp b).2.1 := (wb M hD).2.1
                simp only [tn, ea, eb]
                refine ok_el (by omega) (ok_el (by omega) (ok_el (by omega) (ok_chk ht (ok_chk (by omega) (ok_el (by omega) (ok_chk hu (ok_chk (by omega) (ok_if (by omega) (ok_chk ht (ok_chk (by omega) (ok_nm0 (ok_chk hu (ok_chk (by omega) (ok_nm0 (ok_some ?_)))))))))))))))
                have t0 : Int.toNat 0 = 0 := rfl
                rw [t0]
                have e104 : ∀ x, 20068 + 36 + 16 * x = 20104 + 16 * x := fun x => by omega
                try simp only [Nat.reduceAdd]
                generalize eN : cpM (cpM M (20104 + 16 * a) i 20069 0 n) 20069 0 (20104 + 16 * b) j n = N
                have fx : ∀ x, x ≠ 20069 → x ≠ 20104 + 16 * b → N x = M x := fun x x1 x2 => by rw [← eN]; funext k; simp [cpM, x1, x2]
                refine PD.mk' (hD.tp (fun u hu => ?_) (fun x _ hx => fx x (by omega) (by omega))) (fun x hx => fx x (by omega) (by omega))
                show N 20066 u = _ ∧ N 20067 u = _ ∧ ∀ i, i < _ → N (20104 + 16 * u) i = _
                rw [fx 20066 (by omega) (by omega), fx 20067 (by omega) (by omega)]
                by_cases e : u = b
                · subst e
                  rw [upT_same]
                  refine ⟨(wb M hD).1, (wb M hD).2.1, fun x hx => ?_⟩
                  have hx' : x < (s.tp u).2.1 := hx
                  show N (20104 + 16 * u) x = mvd (s.tp a).2.2 (s.tp u).2.2 i j n x
                  rw [← eN]
                  unfold mvd cpM
                  by_cases e2 : j ≤ x ∧ x < j + n
                  · rw [if_pos e2, if_pos ⟨rfl, e2⟩, if_pos ⟨rfl, by omega, by omega⟩]
                    have := (wa M hD).2.2 (i + (x - j)) (by omega)
                    rw [show 0 + (x - j) - 0 = x - j by omega]
                    exact this
                  · rw [if_neg e2, if_neg (fun h => e2 h.2), if_neg (fun h => by omega)]; exact (wb M hD).2.2 x hx'
                · rw [upT_ne e, fx _ (by omega) (by omega)]; exact hD.2.2.2.2.2 u hu
            · refine ⟨-13, s, hs, fun M hC => clsK M _ _ _ (ok_el (by (try dsimp only); rw [(va M hC).1]; exact h1) (ok_el (by (try dsimp only); rw [(vb M hC).1]; exact h2) (ok_if (by (try dsimp only); rw [(va M hC).1, (vb M hC).1]; exact h3) (ok_ite (fun _ => ok_some (PC.self hC)) (fun h5 => ok_bs (room_ok (va M hC).2.1 ga2) (ok_ite (fun _ => ok_some (PC.self hC)) (fun h6 => ok_bs (room_ok (vb M hC).2.1 gb2) (ok_if ?_ (ok_some (PC.self hC)))))))))), fun M hD => ok_bs isTape_ok (ok_el (by rw [if_pos ht]; exact one0) (ok_bs isTape_ok (ok_el (by rw [if_pos hu]; exact one0) (ok_chk ht (mdl M hD _ _ _ _ _ ⟨fun _ => ?_, fun e => absurd h3 e⟩)))))⟩
              · dsimp only at h6 ⊢
                have : 0 ≤ i ∧ i ≤ ((s.tp a).2.1 : Int) ∧ n ≤ (s.tp a).2.1 - i := by
                  by_cases e : 0 ≤ i ∧ i ≤ ((s.tp a).2.1 : Int) ∧ n ≤ (s.tp a).2.1 - i
                  · exact e
                  · rw [if_neg e] at h6; exact absurd rfl h6
                rw [if_neg (by omega)]
              · have ea : M 20067 a = (s.tp a).2.1 := (wa M hD).2.1
                have eb : M 20067 b = (s.tp b).2.1 := (wb M hD).2.1
                simp only [tn, ea, eb]
                refine ok_ite (fun _ => ok_some (PD.self hD)) (fun h5 => ok_ite (fun _ => ok_some (PD.self hD)) (fun h6 => ok_ite (fun _ => ok_some (PD.self hD)) (fun h7 => ok_chk ht (ok_chk (by omega) (ok_ite (fun _ => ok_some (PD.self hD)) (fun h8 => ok_chk hu (ok_chk (by omega) (ok_el (by omega) (ok_some (PD.self hD))))))))))
          · refine ⟨-12, s, hs, fun M hC => clsK M _ _ _ (ok_el (by (try dsimp only); rw [(va M hC).1]; exact h1) (ok_el (by (try dsimp only); rw [(vb M hC).1]; exact h2) (ok_el (by (try dsimp only); rw [(va M hC).1, (vb M hC).1]; exact h3) (ok_some (PC.self hC))))), fun M hD => ok_bs isTape_ok (ok_el (by rw [if_pos ht]; exact one0) (ok_bs isTape_ok (ok_el (by rw [if_pos hu]; exact one0) (ok_chk ht (mdl M hD _ _ _ _ _ ⟨fun e => absurd e h3, fun _ => ok_some (PD.self hD)⟩)))))⟩
    · obtain ⟨a, rfl⟩ := Int.eq_ofNat_of_zero_le ht.1
      refine ⟨-1, s, hs, fun M hC => ok_bs tapeAt_ok (oc_tp (fun e => absurd ht e) (fun k hk _ => ok_bs tapeAt_ok (oc_tp (fun _ => ok_some (PC.self hC)) (fun k2 hk2 h6 => absurd ⟨by omega, by omega⟩ hu)))), fun M hD => ok_bs isTape_ok (ok_el (by rw [if_pos ht]; exact one0) (ok_bs isTape_ok (ok_if (by rw [if_neg hu]) (ok_some (PD.self hD)))))⟩
  · refine ⟨-1, s, hs, fun M hC => ok_bs tapeAt_ok (oc_tp (fun _ => ok_bs tapeAt_ok (oc_tp (fun _ => ok_some (PC.self hC)) (fun k2 hk2 h6 => ok_some (PC.self hC)))) (fun k hk h6 => absurd ⟨by omega, by omega⟩ ht)), fun M hD => ok_bs isTape_ok (ok_if (by rw [if_neg ht]) (ok_some (PD.self hD)))⟩
theorem op_count {s : SS} (hs : GS s) (w : Int) : Op s (fX8_count 10 w) (fX9_count 20000 w) := by
  unfold fX8_count fX9_count
  simp only [Nat.reduceAdd]
  by_cases w0 : w = 0
  · refine ⟨s.e.ns, s, hs, fun M hC => ok_if w0 (ok_some ?_), fun M hD => ok_bi (ok_if w0 (ok_some (ok_some ?_)))⟩
    · have e : M 11000 9 = s.e.ns := hC.1.1.2.1.1
      rw [e]; exact PC.self hC
    · rw [hD.2.1.1]; exact PD.self hD
  · by_cases w1 : w = 1
    · refine ⟨s.e.ne, s, hs, fun M hC => ok_el w0 (ok_if w1 (ok_some ?_)), fun M hD => ok_bi (ok_el w0 (ok_if w1 (ok_some (ok_some ?_))))⟩
      · have e : M 11000 12 = s.e.ne := hC.1.1.2.1.2.1
        rw [e]; exact PC.self hC
      · rw [hD.2.1.2.1]; exact PD.self hD
    · by_cases w2 : w = 2
      · refine ⟨s.x.1, s, hs, fun M hC => ok_el w0 (ok_el w1 (ok_if w2 (ok_some ?_))), fun M hD => ok_bi (ok_el w0 (ok_el w1 (ok_if w2 (ok_some (ok_some ?_)))))⟩
        · rw [hC.1.2.2.1.1]; exact PC.self hC
        · rw [hD.2.2.2.1.1]; exact PD.self hD
      · exact ⟨-2, s, hs, fun M hC => ok_el w0 (ok_el w1 (ok_el w2 (ok_some (PC.self hC)))), fun M hD => ok_bi (ok_el w0 (ok_el w1 (ok_el w2 (ok_some (ok_some (PD.self hD))))))⟩
theorem op_cause {s : SS} (hs : GS s) (i w : Int) : Op s (fX8_cause 10 i w) (fX9_cause 20000 i w) := by
  unfold fX8_cause fX9_cause
  simp only [Nat.reduceAdd]
  have h3 := hs.2.2.2.2.1
  have lc := fun (M : Mem) (hC : CI M s) => hC.1.2.2.2.1
  have ld := fun (M : Mem) (hD : DI M s) => hD.2.2.2.2.1
  by_cases hi : i < 0
  · exact ⟨-1, s, hs, fun M hC => ok_if hi (ok_some (PC.self hC)), fun M hD => ok_if hi (ok_some (PD.self hD))⟩
  · by_cases hw : 0 ≤ w ∧ w ≤ 1
    · by_cases hl : i < s.t.length
      · obtain ⟨k, rfl⟩ := Int.eq_ofNat_of_zero_le (show 0 ≤ i by omega)
        obtain ⟨q, hq⟩ := getq (pl := s.t) (j := k) (by omega)
        have md : ∀ M, DI M s → (M 20000 15 = s.t.length ∧ M 20017 k = q.1 ∧ M 20018 k = q.2) := fun M hD => ⟨(ld M hD).1, ((ld M hD).2 k q hq).1, ((ld M hD).2 k q hq).2⟩
        by_cases w0 : w = 0
        · refine ⟨q.1, s, hs, fun M hC => ok_el hi (ok_el (by omega) (ok_if (by omega) (ok_if (by rw [(lc M hC).1]; exact hl) (ok_bi (ok_if w0 (ok_chk (by omega) (ok_some (ok_some ?_)))))))), fun M hD => ok_el hi (ok_bs in_ok (ok_el (by (try dsimp only); rw [if_pos hw]; decide) (ok_if (by (try dsimp only); rw [(md M hD).1]; exact hl) (ok_bi (ok_if w0 (ok_chk (by omega) (ok_some (ok_some ?_))))))))⟩
          · rw [tn, ((lc M hC).2 k q hq).1]; exact PC.self hC
          · (try dsimp only); rw [tn, (md M hD).2.1]; exact PD.self hD
        · refine ⟨q.2, s, hs, fun M hC => ok_el hi (ok_el (by omega) (ok_if (by omega) (ok_if (by rw [(lc M hC).1]; exact hl) (ok_bi (ok_el w0 (ok_chk (by omega) (ok_some (ok_some ?_)))))))), fun M hD => ok_el hi (ok_bs in_ok (ok_el (by (try dsimp only); rw [if_pos hw]; decide) (ok_if (by (try dsimp only); rw [(md M hD).1]; exact hl) (ok_bi (ok_el w0 (ok_chk (by omega) (ok_some (ok_some ?_))))))))⟩
          · rw [tn, ((lc M hC).2 k q hq).2]; exact PC.self hC
          · (try dsimp only); rw [tn, (md M hD).2.2]; exact PD.self hD
      · exact ⟨-5, s, hs, fun M hC => ok_el hi (ok_el (by omega) (ok_if (by omega) (ok_el (by rw [(lc M hC).1]; exact hl) (ok_some (PC.self hC))))), fun M hD => ok_el hi (ok_bs in_ok (ok_el (by (try dsimp only); rw [if_pos hw]; decide) (ok_el (by (try dsimp only); rw [(ld M hD).1]; exact hl) (ok_some (PD.self hD)))))⟩
    · exact ⟨-1, s, hs, fun M hC => ok_el hi (ok_ite (fun _ => ok_some (PC.self hC)) (fun h0 => ok_el (by omega) (ok_some (PC.self hC)))), fun M hD => ok_el hi (ok_bs in_ok (ok_if (by (try dsimp only); rw [if_neg hw]) (ok_some (PD.self hD))))⟩
/-! the image -/
abbrev wI (s : SS) : SS := (s.1, s.2.1, some (s.1, s.2.1), s.2.2.2)
theorem op_image {s : SS} (hs : GS s) : Op s (fX8_image 10) (fX9_image 20000) := by
  refine ⟨s.p.nb, wI s, ⟨hs.1, hs.2.1, fun q hq => ?_, hs.2.2.2.1, hs.2.2.2.2.1, hs.2.2.2.2.2⟩, fun M hC => ?_, fun M hD => ?_⟩
  · have : some (s.1, s.2.1) = some q := hq
    cases this
    exact ⟨hs.1, hs.2.1⟩
  · unfold fX8_image
    simp only [Nat.reduceAdd]
    refine ok_by (copy_ok (o := 13000) (q := 11000) (by omega) hs.1.1.1 hs.1.2 hs.2.1.1 hs.2.1.2.2.1 hC.1.1) (fun z hz => ok_nm0 (ok_some ?_))
    obtain ⟨z1, z2⟩ := hz
    have fx : ∀ x, x ≠ 10 → (x < 13000 ∨ 13016 ≤ x) → wr z.2 10 3 1 x = M x := fun x x1 x2 => by rw [wrn x1]; exact z2 x x2
    have e3 : wr z.2 10 3 1 11000 3 = s.p.nb := by rw [fx 11000 (by omega) (by omega)]; exact hC.1.1.1.2.1
    rw [e3]
    obtain ⟨⟨a1, a2, a3, a4, a5⟩, a6⟩ := hC
    refine PC.mk' ⟨⟨a1.same (fun x _ _ => fx x (by omega) (by omega)), ⟨by rw [wra], z1.same (fun x _ _ => wrn (by omega))⟩, ?_, ?_, fun t ht => ?_⟩, a6.same hs.1.1 (by rw [wrk _ (by decide), z2 10 (by omega)]) (fun x hx => fx x (by omega) (by omega))⟩ (fun x hx => fx x (by omega) (by omega))
    · show TXc _ s.x
      unfold TXc at *
      rw [fx 210 (by omega) (by omega), fx 212 (by omega) (by omega)]; exact a3
    · show TRc _ s.t
      unfold TRc at *
      rw [fx 310 (by omega) (by omega), fx 312 (by omega) (by omega), fx 313 (by omega) (by omega)]; exact a4
    · rw [fx (56 + 16 * t) (by omega) (by omega), fx (59 + 16 * t) (by omega) (by omega)]; exact a5 t ht
  · unfold fX9_image
    simp only [Nat.reduceAdd]
    have t0 : Int.toNat 0 = 0 := rfl
    have t1 : Int.toNat 1 = 1 := rfl
    have t2 : Int.toNat 2 = 2 := rfl
    have t3 : Int.toNat 3 = 3 := rfl
    have t4 : Int.toNat 4 = 4 := rfl
    have t5 : Int.toNat 5 = 5 := rfl
    have t6 : Int.toNat 6 = 6 := rfl
    have t8 : Int.toNat 8 = 8 := rfl
    have t24 : Int.toNat 24 = 24 := rfl
    simp only [t0, t1, t2, t3, t4, t5, t6, t8, t24]
    refine ok_nm0 (ok_nm0 (ok_nm0 (ok_nm0 (ok_nm0 (ok_nm0 (ok_nm0 (ok_nm0 ?_)))))))
    refine ok_chk (by omega) (ok_nm0 (ok_chk (by omega) (ok_nm0 (ok_chk (by omega) (ok_nm0 (ok_chk (by omega) (ok_nm0 (ok_chk (by omega) (ok_nm0 (ok_chk (by omega) (ok_nm0 (ok_chk (by omega) (ok_nm0 (ok_chk (by omega) (ok_nm0 (ok_some ?_))))))))))))))))
    obtain ⟨⟨b1, b2, b3, b4, b5, b6, b7⟩, ⟨d1, d2, d3, d4⟩, a3, a4, a5, a6⟩ := hD
    simp only [Nat.reduceAdd] at b3 b4 d3 d4
    generalize eN : cpM (cpM (cpM (cpM (cpM (cpM (cpM (cpM (wr _ 20057 6 _) 20004 0 20058 0 8) 20005 0 20059 0 24) 20006 0 20060 0 24) 20012 0 20061 0 5) 20013 0 20062 0 8) 20014 0 20063 0 8) 20003 0 20064 0 8) 20015 0 20065 0 5 = N
    have fx : ∀ x, x ≠ 20000 → (x < 20057 ∨ 20065 < x) → N x = M x := fun x x1 x2 => by
      rw [← eN]
      funext k
      have c57 : ¬ x = 20057 := by omega
      have c58 : ¬ x = 20058 := by omega
      have c59 : ¬ x = 20059 := by omega
      have c60 : ¬ x = 20060 := by omega
      have c61 : ¬ x = 20061 := by omega
      have c62 : ¬ x = 20062 := by omega
      have c63 : ¬ x = 20063 := by omega
      have c64 : ¬ x = 20064 := by omega
      have c65 : ¬ x = 20065 := by omega
      simp [cpM, wr, x1, c57, c58, c59, c60, c61, c62, c63, c64, c65]
    have fa : ∀ j, j ≠ 55 → N 20000 j = M 20000 j := fun j hj => by rw [← eN]; simp [cpM, wr, hj]
    have f55 : N 20000 55 = 1 := by rw [← eN]; simp [cpM, wr]
    have h24 := hs.1.2
    have h8 := hs.1.1.1
    have h5 := hs.2.1.1
    have he8 := hs.2.1.2.2.1
    have eb : N 20000 1 = s.p.nb := by rw [fa 1 (by omega)]; exact b2
    rw [eb]
    refine PD.mk' ⟨?_, ?_, ⟨f55, ⟨?_, ?_, ?_, ?_, ?_, ?_, ?_⟩, fun c hc => ?_, fun b hb => ?_, fun k hk => ?_, fun k hk => ?_⟩, ?_, ?_, fun t ht => ?_⟩ (fun x hx => fx x (by omega) (by omega))
    · refine ⟨by rw [fa 0 (by omega)]; exact b1, eb, fun c hc => ?_, fun b hb => ?_, by rw [fa 6 (by omega)]; exact b5, by rw [fa 7 (by omega)]; exact b6, by rw [fa 8 (by omega)]; exact b7⟩
      · show N 20003 c = _ ∧ N 20004 c = _
        rw [fx 20003 (by omega) (by omega), fx 20004 (by omega) (by omega)]; exact b3 c hc
      · show N 20005 b = _ ∧ N 20006 b = _
        rw [fx 20005 (by omega) (by omega), fx 20006 (by omega) (by omega)]; exact b4 b hb
    · refine ⟨by rw [fa 9 (by omega)]; exact d1, by rw [fa 10 (by omega)]; exact d2, fun k hk => ?_, fun k hk => ?_⟩
      · show N 20012 k = _ ∧ N 20015 k = _
        rw [fx 20012 (by omega) (by omega), fx 20015 (by omega) (by omega)]; exact d3 k hk
      · show N 20013 k = _ ∧ N 20014 k = _
        rw [fx 20013 (by omega) (by omega), fx 20014 (by omega) (by omega)]; exact d4 k hk
    · rw [← eN]; simpa [cpM, wr] using b1
    · rw [← eN]; simpa [cpM, wr] using b2
    · rw [← eN]; simpa [cpM, wr] using b5
    · rw [← eN]; simpa [cpM, wr] using b6
    · rw [← eN]; simpa [cpM, wr] using b7
    · rw [← eN]; simpa [cpM, wr] using d1
    · rw [← eN]; simpa [cpM, wr] using d2
    · have hc' : c < s.p.n := hc
      rw [← eN]; simpa [cpM, wr, show c < 8 by omega] using b3 c hc
    · have hb' : b < s.p.nb := hb
      rw [← eN]; simpa [cpM, wr, show b < 24 by omega] using b4 b hb
    · have hk' : k < s.e.ns := hk
      rw [← eN]; simpa [cpM, wr, show k < 5 by omega] using d3 k hk
    · have hk' : k < s.e.ne := hk
      rw [← eN]; simpa [cpM, wr, show k < 8 by omega] using d4 k hk
    · show TXm N 20000 s.x
      unfold TXm at *
      rw [fa 46 (by omega), fx (20000 + 46) (by omega) (by omega)]; exact a4
    · show TRm N 20000 s.t
      unfold TRm at *
      rw [fa 15 (by omega), fx (20000 + 17) (by omega) (by omega), fx (20000 + 18) (by omega) (by omega)]; exact a5
    · rw [fx (20000 + 66) (by omega) (by omega), fx (20000 + 67) (by omega) (by omega), fx (20000 + 68 + 36 + 16 * t) (by omega) (by omega)]; exact a6 t ht
theorem op_undo {s : SS} (hs : GS s) : Op s (fX8_undo 10) (fX9_undo 20000) := by
  unfold fX8_undo fX9_undo
  simp only [Nat.reduceAdd]
  cases hi : s.i with
  | none =>
    refine ⟨-3, s, hs, fun M hC => ?_, fun M hD => ?_⟩
    · have h := hC.1.2.1
      rw [hi] at h
      exact ok_if h (ok_some (PC.self hC))
    · have h := hD.2.2.1
      rw [hi] at h
      exact ok_if h (ok_some (PD.self hD))
  | some q =>
    obtain ⟨w1, w2⟩ := hs.2.2.1 q hi
    refine ⟨q.1.nb, (q.1, q.2, s.2.2), ⟨w1, w2, hs.2.2.1, hs.2.2.2.1, hs.2.2.2.2.1, hs.2.2.2.2.2⟩, fun M hC => ?_, fun M hD => ?_⟩
    · have h := hC.1.2.1
      rw [hi] at h
      refine ok_el (by rw [h.1]; decide) (ok_by (copy_ok (o := 11000) (q := 13000) (by omega) w1.1.1 w1.2 w2.1 w2.2.2.1 h.2) (fun z hz => ok_nm0 (ok_some ?_)))
      obtain ⟨z1, z2⟩ := hz
      have fx : ∀ x, x ≠ 10 → (x < 11000 ∨ 11016 ≤ x) → wr z.2 10 6 0 x = M x := fun x x1 x2 => by rw [wrn x1]; exact z2 x x2
      have e3 : wr z.2 10 6 0 11000 3 = q.1.nb := by rw [wrn (by omega)]; exact z1.1.2.1
      rw [e3]
      exact PC.mk' (hC.mut (z1.same (fun x _ _ => wrn (by omega))) (by rw [wra]) (by rw [wrk _ (by decide), z2 10 (by omega)]) (fun x hx => fx x (by omega) (by omega))) (fun x hx => fx x (by omega) (by omega))
    · have h := hD.2.2.1
      rw [hi] at h
      obtain ⟨i0, ⟨i1, i2, i3, i4, i5, i6, i7⟩, i8, i9, i10, i11⟩ := h
      simp only [Nat.reduceAdd] at i1 i2 i3 i4 i5 i6 i7 i8 i9 i10 i11
      have t0 : Int.toNat 0 = 0 := rfl
      have t1 : Int.toNat 1 = 1 := rfl
      have t2 : Int.toNat 2 = 2 := rfl
      have t3 : Int.toNat 3 = 3 := rfl
      have t4 : Int.toNat 4 = 4 := rfl
      have t5 : Int.toNat 5 = 5 := rfl
      have t6 : Int.toNat 6 = 6 := rfl
      have t8 : Int.toNat 8 = 8 := rfl
      have t24 : Int.toNat 24 = 24 := rfl
      simp only [t0, t1, t2, t3, t4, t5, t6, t8, t24]
      refine ok_el (by rw [i0]; decide) (ok_nm0 (ok_nm0 (ok_nm0 (ok_nm0 (ok_nm0 (ok_nm0 (ok_nm0 ?_)))))))
      refine ok_chk (by omega) (ok_nm0 (ok_chk (by omega) (ok_nm0 (ok_chk (by omega) (ok_nm0 (ok_chk (by omega) (ok_nm0 (ok_chk (by omega) (ok_nm0 (ok_chk (by omega) (ok_nm0 (ok_chk (by omega) (ok_nm0 (ok_chk (by omega) (ok_nm0 (ok_some ?_))))))))))))))))
      generalize eN : cpM (cpM (cpM (cpM (cpM (cpM (cpM (cpM (wr _ 20000 10 _) 20058 0 20004 0 8) 20059 0 20005 0 24) 20060 0 20006 0 24) 20061 0 20012 0 5) 20062 0 20013 0 8) 20063 0 20014 0 8) 20064 0 20003 0 8) 20065 0 20015 0 5 = N
      have fx : ∀ x, x ≠ 20000 → x ≠ 20003 → x ≠ 20004 → x ≠ 20005 → x ≠ 20006 → x ≠ 20012 → x ≠ 20013 → x ≠ 20014 → x ≠ 20015 → N x = M x := fun x x1 x2 x3 x4 x5 x6 x7 x8 x9 => by
        rw [← eN]
        funext k
        simp [cpM, wr, x1, x2, x3, x4, x5, x6, x7, x8, x9]
      have fa : ∀ j, 10 < j → N 20000 j = M 20000 j := fun j hj => by
        have c0 : ¬ j = 0 := by omega
        have c1 : ¬ j = 1 := by omega
        have c6 : ¬ j = 6 := by omega
        have c7 : ¬ j = 7 := by omega
        have c8 : ¬ j = 8 := by omega
        have c9 : ¬ j = 9 := by omega
        have c10 : ¬ j = 10 := by omega
        rw [← eN]; simp [cpM, wr, c0, c1, c6, c7, c8, c9, c10]
      have h24 := w1.2
      have h8 := w1.1.1
      have h5 := w2.1
      have he8 := w2.2.2.1
      have eb : N 20000 1 = q.1.nb := by rw [← eN]; simpa [cpM, wr] using i2
      rw [eb]
      refine PD.mk' (hD.of (p' := q.1) (e' := q.2) ⟨?_, eb, fun c hc => ?_, fun b hb => ?_, ?_, ?_, ?_⟩ ⟨?_, ?_, fun k hk => ?_, fun k hk => ?_⟩ (fun j hj => fa j (by omega)) (fun x hx => fx x (by omega) (by omega) (by omega) (by omega) (by omega) (by omega) (by omega) (by omega) (by omega))) (fun x hx => fx x (by omega) (by omega) (by omega) (by omega) (by omega) (by omega) (by omega) (by omega) (by omega))
      · rw [← eN]; simpa [cpM, wr] using i1
      · rw [← eN]; simpa [cpM, wr, show c < 8 by omega] using i8 c hc
      · rw [← eN]; simpa [cpM, wr, show b < 24 by omega] using i9 b hb
      · rw [← eN]; simpa [cpM, wr] using i3
      · rw [← eN]; simpa [cpM, wr] using i4
      · rw [← eN]; simpa [cpM, wr] using i5
      · rw [← eN]; simpa [cpM, wr] using i6
      · rw [← eN]; simpa [cpM, wr] using i7
      · rw [← eN]; simpa [cpM, wr, show k < 5 by omega] using i10 k hk
      · rw [← eN]; simpa [cpM, wr, show k < 8 by omega] using i11 k hk
end
