section
def R_law : String := "KeepCountLaw"
def lw_P (b : Addr) (xs : List Int32) (args : Array Value) (s : State) : Prop := args = #[.ref b] ∧ s.IntsAt b xs ∧ xs.length ≤ 3072 ∧ (Jvm.Cond.and given_1 narrow_1).before args s = true
def lw_Q (_ : Array Value) (s : State) (o : Outcome) (t : State) : Prop := o = .returned (some (.int 1)) ∧ Framed s o t [] 600000 7302250
def lw_Z (below : List Frame) (a : Array Value) (s : State) : State → Prop := fun t => ∃ o, t.status = .running ∧ Ended t below o ∧ lw_Q a s o t
/-- the law's own end, with 1 on the stack, nothing written that was there before, its room as the claim has it -/
theorem lw_ret {p : Program} {l : Launch} {e : Env} {s : State} {m : MethodId} {below : List Frame} {meth : Method} {c : Code} {b : Nat} (hx : p.tables.exec = Jvm.exec) (hb : c.code = code) (hr : meth.sig.returnType = ret) (hlocks : meth.locks = false) {pc : Nat} {H : Heap} {ls : Array Slot} (hdg : decode code pc = .ok (.ireturn, 1)) : W p l e room_1 s m #[Value.ref b] below meth c H [] 600000 7302250 (lw_Z below #[Value.ref b] s) (F0 m pc ls [.int 1]) := by
  intro T hT X
  obtain ⟨fs, hret, hrun, hended, hW, hframe⟩ := X.leave (v := some (.int 1)) (hlocks := hlocks) (fun h => by rw [hr] at h; cases h)
  have hmeth' : T.vm.method? m = some meth := X.method'
  refine ⟨T.setFrames fs, ?_, .returned (some (.int 1)), hrun, hended, rfl, ⟨_, rfl⟩, hW, hframe⟩
  jvm_step X.here [X.here.top, hx, hb, hdg, hmeth', hr, ret, narrow_b1]
  (try refine ⟨rfl, ?_⟩); (try refine ⟨rfl, ?_⟩)
  first | (intro acts; rw [hret _ acts rfl rfl rfl]) | rw [hret _ _ rfl rfl rfl]
  exact Steps.refl _
/-- what holds at the law's entry: the machine, the code, the tables' words (any of lw_tbl by 'hts w (by decide +kernel)'), the script of L ints xs at the cell b, what the Statement gives of the start (any of its parts by flat_of_before) -/
def lw_At (p : Program) (s : State) (m : MethodId) (meth : Method) (c : Code) (b L : Nat) (xs : Nat → Int32) : Prop :=
  p.tables.exec = Jvm.exec ∧ c.code = code ∧ meth.sig.returnType = ret ∧ c.maxLocals = 4 ∧ s.vm.findClass R_law = some m.cls ∧ (∀ w ∈ lw_tbl, w.before #[Value.ref b] s = true) ∧ va_X b L xs s s.heap ∧ b < s.heap.size ∧ meth.locks = false ∧ (Jvm.Cond.and given_1 narrow_1).before #[Value.ref b] s = true
/-- the law -/
def mL_law : XY := (⟨"KeepCountLaw", "law", "([I)Z"⟩, cL_law, 4, some .boolean)
set_option maxHeartbeats 8000000 in
set_option maxRecDepth 100000 in
/-- from the entry, for every script of at most 3072 ints, the law comes to its end with true -/
theorem whole_start0 (hbody : ∀ (X : XC) (d : Nat) (Post : Option XV → Mem → Prop) (M : Mem), X.2.2.2.2.1 ≤ 3072 → (∀ M, Post (some (XI 1)) M) → INV M → Go X mL_law (d + 9) 16 [(2, XR 20000), (1, XR 10), (0, XR 5)] [] M Post) {p : Program} {e : Env} {s : State} {m : MethodId} {below : List Frame} {meth : Method} {c : Code} (l : Launch) (hflags : l.flags = flags0) {b L : Nat} {xs : Nat → Int32} (hL : L ≤ 3072) (C0 : lw_At p s m meth c b L xs) : W p l e room_1 s m #[Value.ref b] below meth c s.heap [] 0 0 (lw_Z below #[Value.ref b] s) (entryFrame m ([Value.ref b] : List Value).toArray 4) := by
  obtain ⟨hx, hb, hr, hml, hown, hts, hX, hbl, hlocks, hgv⟩ := id C0
  have hb2 : c.code = cL_law := hb
  have htx : ∀ w ∈ xtbl, w.before #[Value.ref b] s = true := fun w hw => hts w (List.mem_filter.mp hw).1
  have hA : ∀ q : Nat, s.heap.size ≤ q → (fun q : Nat => s.heap.size ≤ q) q := fun _ h => h
  obtain ⟨c0, i0, hK0⟩ := u_known (C := RX0) (T := TX0) (N := 3) (n := 3) htx (x_ps inX0 gdX0) (htx (.instantiable RX0 3) (at_x 176 rfl rfl))
  obtain ⟨c1, i1, hK1⟩ := u_known (C := RX1) (T := TX1) (N := 15) (n := 15) htx (x_ps inX1 gdX1) (htx (.instantiable RX1 15) (at_x 91 rfl rfl))
  obtain ⟨c2, i2, hK2⟩ := u_known (C := RX3) (T := TX3) (N := 9) (n := 9) htx (x_ps inX3 gdX3) (htx (.instantiable RX3 9) (at_x 199 rfl rfl))
  obtain ⟨c3, i3, hK3⟩ := u_known (C := RX4) (T := TX4) (N := 14) (n := 14) htx (x_ps inX4 gdX4) (htx (.instantiable RX4 14) (at_x 170 rfl rfl))
  obtain ⟨c4, i4, hK4⟩ := u_known (C := RX5) (T := TX5) (N := 3) (n := 3) htx (x_ps inX5 gdX5) (htx (.instantiable RX5 3) (at_x 358 rfl rfl))
  obtain ⟨c5, i5, hK5⟩ := u_known (C := RX6) (T := TX6) (N := 8) (n := 8) htx (x_ps inX6 gdX6) (htx (.instantiable RX6 8) (at_x 301 rfl rfl))
  obtain ⟨c6, i6, hK6⟩ := u_known (C := RX7) (T := TX7) (N := 3) (n := 3) htx (x_ps inX7 gdX7) (htx (.instantiable RX7 3) (at_x 338 rfl rfl))
  obtain ⟨c7, i7, hK7⟩ := u_known (C := RX8) (T := TX8) (N := 10) (n := 10) htx (x_ps inX8 gdX8) (htx (.instantiable RX8 10) (at_x 83 rfl rfl))
  obtain ⟨c8, i8, hK8⟩ := u_known (C := RX9) (T := TX9) (N := 69) (n := 69) htx (x_ps inX9 gdX9) (htx (.instantiable RX9 69) (at_x 841 rfl rfl))
  obtain ⟨dC, dI, hKc⟩ : ∃ (dC : Nat → ClassId) (dI : Nat → Nat → Nat), ∀ (k : Nat) (q : vw_C), vwCl[k]? = some q → u_Kn s q.1 q.2.1 q.2.2 (dC k) (dI k) := by
    refine ⟨fun k => ([c0, c1, c2, c3, c4, c5, c6, c7, c8] : List ClassId).getD k c0, fun k => ([i0, i1, i2, i3, i4, i5, i6, i7, i8] : List (Nat → Nat)).getD k i0, fun k q hq => ?_⟩
    have hk : k < 9 := (List.getElem?_eq_some_iff.mp hq).1
    rcases (show k = 0 ∨ k = 1 ∨ k = 2 ∨ k = 3 ∨ k = 4 ∨ k = 5 ∨ k = 6 ∨ k = 7 ∨ k = 8 by omega) with g | g | g | g | g | g | g | g | g
    · subst g; cases hq; exact hK0
    · subst g; cases hq; exact hK1
    · subst g; cases hq; exact hK2
    · subst g; cases hq; exact hK3
    · subst g; cases hq; exact hK4
    · subst g; cases hq; exact hK5
    · subst g; cases hq; exact hK6
    · subst g; cases hq; exact hK7
    · subst g; cases hq; exact hK8
  obtain ⟨a0, g0⟩ : ∃ cA, ArrOfT s cA .int ∧ va_RA s cA .int := by
    obtain ⟨cA, kA, comp, h1, h2, h3⟩ := Cond.arrayClass_spec (htx _ wa_int)
    exact ⟨cA, fun n z => ⟨fun k h => (by cases h), kA, h2, comp, h3⟩, h1⟩
  obtain ⟨a1, g1⟩ : ∃ cA, ArrOfT s cA .long ∧ va_RA s cA .long := by
    obtain ⟨cA, kA, comp, h1, h2, h3⟩ := Cond.arrayClass_spec (htx _ wa_long)
    exact ⟨cA, fun n z => ⟨fun k h => (by cases h), kA, h2, comp, h3⟩, h1⟩
  obtain ⟨a2, g2⟩ : ∃ cA, ArrOfT s cA .boolean ∧ va_RA s cA .boolean := by
    obtain ⟨cA, kA, comp, h1, h2, h3⟩ := Cond.arrayClass_spec (htx _ wa_boolean)
    exact ⟨cA, fun n z => ⟨fun k h => (by cases h), kA, h2, comp, h3⟩, h1⟩
  have w3 : (Cond.arrayOver (.object "KeepCount$Stage")).before #[Value.ref b] s = true := hts _ (List.mem_of_getElem? (i := 198) rfl)
  obtain ⟨a3, g3⟩ : ∃ cA, ArrOfT s cA (.object "KeepCount$Stage") ∧ va_RA s cA (.object "KeepCount$Stage") := by
    obtain ⟨comp, cA, kA, h1, h2, h3, h4, h5⟩ := Cond.arrayOver_spec w3
    exact ⟨cA, fun n z => ⟨fun k h => (by cases h), kA, h3, comp, h4⟩, kA, comp, h3, h4, h1, h5⟩
  have w4 : (Cond.arrayOver (.object "KeepCount$Tape")).before #[Value.ref b] s = true := hts _ (List.mem_of_getElem? (i := 357) rfl)
  obtain ⟨a4, g4⟩ : ∃ cA, ArrOfT s cA (.object "KeepCount$Tape") ∧ va_RA s cA (.object "KeepCount$Tape") := by
    obtain ⟨comp, cA, kA, h1, h2, h3, h4, h5⟩ := Cond.arrayOver_spec w4
    exact ⟨cA, fun n z => ⟨fun k h => (by cases h), kA, h3, comp, h4⟩, kA, comp, h3, h4, h1, h5⟩
  have w5 : (Cond.arrayOver (.array .long)).before #[Value.ref b] s = true := hts _ (List.mem_of_getElem? (i := 847) rfl)
  obtain ⟨a5, g5⟩ : ∃ cA, ArrOfT s cA (.array .long) ∧ va_RA s cA (.array .long) := by
    obtain ⟨comp, cA, kA, h1, h2, h3, h4, h5⟩ := Jvm.Stand.arrayOver_specB w5
    exact ⟨cA, fun n z => ⟨fun k h => (by cases h), kA, h3, comp, h4⟩, h5⟩
  obtain ⟨ca, e0, e1, e2, e3, e4, e5⟩ : ∃ ca : Nat → ClassId, ca 0 = a0 ∧ ca 1 = a1 ∧ ca 2 = a2 ∧ ca 3 = a3 ∧ ca 4 = a4 ∧ ca 5 = a5 := ⟨fun k => ([a0, a1, a2, a3, a4, a5] : List ClassId).getD k a0, rfl, rfl, rfl, rfl, rfl, rfl⟩
  subst e0; subst e1; subst e2; subst e3; subst e4; subst e5
  have hK : va_K (dC, dI) vwCl (ctys ca) s := ⟨hKc, fun k q hq => by
    have hk : k < 6 := (List.getElem?_eq_some_iff.mp hq).1
    rcases (show k = 0 ∨ k = 1 ∨ k = 2 ∨ k = 3 ∨ k = 4 ∨ k = 5 by omega) with h | h | h | h | h | h
    · subst h; cases hq; exact g0
    · subst h; cases hq; exact g1
    · subst h; cases hq; exact g2
    · subst h; cases hq; exact g3
    · subst h; cases hq; exact g4
    · subst h; cases hq; exact g5⟩
  have hAO : AOs s := ⟨va_AO.of w3, va_AO.of w4, va_AOA.of w5⟩
  have hS : va_S (fun q : Nat => s.heap.size ≤ q) s.heap s.heap [] := va_S.rf
  have hP : va_P (dC, dI) vwCl [] s.heap := fun k q h => by simp at h
  have hD : va_D (fun q : Nat => s.heap.size ≤ q) [] := ⟨fun i j p q h => by simp at h, fun k q h => by simp at h⟩
  have hl := lv_entry ([.ref b]) (n := 4) (Nat.le_of_ble_eq_true rfl)
  rw [lg_entry_eq]
  generalize (lg_sl ([.ref b]) ++ List.replicate (4 - (lg_sl ([.ref b])).length) Slot.unset).toArray = ls at hl ⊢
  have hl : lv_has ls 4 [(0, .ref b)] := hl
  refine va_new (ci := 7) (fs := bl7) (C := RX8) (T := TX8) (N := 10) hx hb2 htx (x_ps inX8 gdX8) tyX8 tyX8_ok hown (htx _ (at_x 82 rfl rfl)) (htx _ (at_x 83 rfl rfl)) (htx _ (at_x 69 rfl rfl)) hK hP hD hS hA rfl bl7_ok (Nat.le_of_ble_eq_true rfl) (Nat.le_of_ble_eq_true rfl) dL_law_0 (fun x0 H hP hD hS => ?_)
  have hP : va_P (dC, dI) vwCl [(x0, .inr (7, bl7))] H := hP
  have hD : va_D (fun q : Nat => s.heap.size ≤ q) [(x0, .inr (7, bl7))] := hD
  refine lv_dup hx hb2 dL_law_3 rfl ?_
  refine gcallW (Y := mL_law) (Y' := mX8_init) (d := 3) (G := (l, (dC, dI), ca)) (q0 := 0) (wr := []) (as := []) (n := 0) (st := [.ref x0]) hx hb2 hml hown htx hK hAO hA (Nat.le_of_ble_eq_true rfl) (Nat.le_of_ble_eq_true rfl) (Nat.le_of_ble_eq_true rfl) (Nat.le_of_ble_eq_true rfl) hP hD hS hl.1 dL_law_4 (at_x 84 rfl rfl) mcX8_init rfl (Nat.le_of_ble_eq_true rfl) (gkX8_init (d := 0)) rfl [] rfl rfl (by simp) rfl (fun ws1 H locs hw hP hD hS => ?_)
  obtain ⟨q0, q2, q4, q6, q8, q10, q12, q14, q15, q17, q19, q21, q23, q25, r1, r3, r5, r7, r9, r11, r13, r16, r18, r20, r22, r24, r26, rfl⟩ := hw
  generalize hw8 : wX8_init (l, (dC, dI), ca).2.2 x0 q0 q2 q4 q6 q8 q10 q12 q14 q15 q17 q19 q21 q23 q25 r1 r3 r5 r7 r9 r11 r13 r16 r18 r20 r22 r24 r26 = w8 at hP hD
  have hw8 : wX8_init ca x0 q0 q2 q4 q6 q8 q10 q12 q14 q15 q17 q19 q21 q23 q25 r1 r3 r5 r7 r9 r11 r13 r16 r18 r20 r22 r24 r26 = w8 := hw8
  have hP : va_P (dC, dI) vwCl w8 H := hP
  have hD : va_D (fun q : Nat => s.heap.size ≤ q) w8 := hD
  refine lv_astore_n (lv' := [(1, .ref x0), (0, .ref b)]) hx hb2 dL_law_7 rfl hl (by decide) rfl (fun ls hl => ?_)
  refine va_new (ci := 8) (fs := bl8) (C := RX9) (T := TX9) (N := 69) hx hb2 htx (x_ps inX9 gdX9) tyX9 tyX9_ok hown (htx _ (at_x 840 rfl rfl)) (htx _ (at_x 841 rfl rfl)) (htx _ (at_x 77 rfl rfl)) hK hP hD hS hA rfl bl8_ok (Nat.le_of_ble_eq_true rfl) (Nat.le_of_ble_eq_true rfl) dL_law_8 (fun y0 H hP hD hS => ?_)
  refine lv_dup hx hb2 dL_law_11 rfl ?_
  refine gcallW (Y := mL_law) (Y' := mX9_init) (d := 1) (G := (l, (dC, dI), ca)) (q0 := w8.length) (wr := w8) (as := []) (n := 0) (st := [.ref y0]) hx hb2 hml hown htx hK hAO hA (Nat.le_of_ble_eq_true rfl) (Nat.le_of_ble_eq_true rfl) (Nat.le_of_ble_eq_true rfl) (Nat.le_of_ble_eq_true rfl) hP hD hS hl.1 dL_law_12 (at_x 842 rfl rfl) mcX9_init rfl (Nat.le_of_ble_eq_true rfl) (gkX9_init (d := 0)) (by rw [List.getElem?_append_right (Nat.le_refl _), Nat.sub_self]; rfl) (List.range w8.length) (range_get w8 _) (by rw [List.range_eq_range']; exact nd_range' _ _) (fun h => Nat.lt_irrefl _ (List.mem_range.mp h)) rfl (fun ws1 H locs hw hP hD hS => ?_)
  obtain ⟨p0, p1, p2, p3, p4, p5, p6, p7, p8, p9, p10, p11, p12, p13, p14, p15, p16, p17, p18, p19, p20, p21, p22, p23, p24, p25, p26, p27, p28, p29, p30, p31, p32, p33, p34, p35, p36, p37, p38, p39, p40, p41, p42, p43, p44, p45, p47, rp, rfl⟩ := hw
  refine lv_astore_n (lv' := [(2, .ref y0), (1, .ref x0), (0, .ref b)]) hx hb2 dL_law_15 rfl hl (by decide) rfl (fun ls hl => ?_)
  refine va_forget (fun q hq => hS.2.2 q hq) ?_
  have hs := flat_of_before _ hgv
  obtain ⟨t, ht, hT⟩ := va_Tof (tm := .static "KeepCount" "PLACES" "[I") (ty := .int) (N := 8) (f := fun j => .int (Int32.ofInt (xpl j))) (A := fun q : Nat => s.heap.size ≤ q) (by decide) (hs (.arrayOf (.static "KeepCount" "PLACES" "[I") .int) (by decide +kernel)) (va_eqt (z := 8) (hs (.eq (.length (.static "KeepCount" "PLACES" "[I")) (.int 8)) (by decide +kernel))) (fun j hj => by
    rcases (show j = 0 ∨ j = 1 ∨ j = 2 ∨ j = 3 ∨ j = 4 ∨ j = 5 ∨ j = 6 ∨ j = 7 by omega) with h | h | h | h | h | h | h | h
    · subst h; exact va_eqt (z := 10000000) (hs (.eq (.elem (.static "KeepCount" "PLACES" "[I") (.int 0)) (.int 10000000)) (by decide +kernel))
    · subst h; exact va_eqt (z := 1000000) (hs (.eq (.elem (.static "KeepCount" "PLACES" "[I") (.int 1)) (.int 1000000)) (by decide +kernel))
    · subst h; exact va_eqt (z := 100000) (hs (.eq (.elem (.static "KeepCount" "PLACES" "[I") (.int 2)) (.int 100000)) (by decide +kernel))
    · subst h; exact va_eqt (z := 10000) (hs (.eq (.elem (.static "KeepCount" "PLACES" "[I") (.int 3)) (.int 10000)) (by decide +kernel))
    · subst h; exact va_eqt (z := 1000) (hs (.eq (.elem (.static "KeepCount" "PLACES" "[I") (.int 4)) (.int 1000)) (by decide +kernel))
    · subst h; exact va_eqt (z := 100) (hs (.eq (.elem (.static "KeepCount" "PLACES" "[I") (.int 5)) (.int 100)) (by decide +kernel))
    · subst h; exact va_eqt (z := 10) (hs (.eq (.elem (.static "KeepCount" "PLACES" "[I") (.int 6)) (.int 10)) (by decide +kernel))
    · subst h; exact va_eqt (z := 1) (hs (.eq (.elem (.static "KeepCount" "PLACES" "[I") (.int 7)) (.int 1)) (by decide +kernel))) (fun a ha h => Nat.lt_irrefl _ (Nat.lt_of_lt_of_le ha h))
  have hZ := va_Zref (C := "KeepCount") (n := "PLACES") (d := "[I") (t := t) (A := fun q : Nat => s.heap.size ≤ q) (hts _ (List.mem_of_getElem? (i := 420) rfl)) (htx _ (at_x 69 rfl rfl)) ht (fun a ha h => Nat.lt_irrefl _ (Nat.lt_of_lt_of_le ha h))
  obtain ⟨ad, n5, n7, n10, n20, e8, e9⟩ : ∃ ad : Nat → Nat, ad 5 = b ∧ ad 7 = t ∧ ad 10 = x0 ∧ ad 20000 = y0 ∧ w8 = L8.map (cellM (l, (dC, dI), ad, ca, L, xs)) ∧ wX9_init ca y0 p0 p1 p2 p3 p4 p5 p6 p7 p8 p9 p10 p11 p12 p13 p14 p15 p16 p17 p18 p19 p20 p21 p22 p23 p24 p25 p26 p27 p28 p29 p30 p31 p32 p33 p34 p35 p36 p37 p38 p39 p40 p41 p42 p43 p44 p45 p47 rp = L9.map (cellM (l, (dC, dI), ad, ca, L, xs)) :=
    ⟨fun i => if i = 5 then b else if i = 7 then t else look [(10, x0), (20, q14), (56, q15), (59, r16 0 0), (72, q17), (75, r18 0 0), (88, q19), (91, r20 0 0), (104, q21), (107, r22 0 0), (120, q23), (123, r24 0 0), (136, q25), (139, r26 0 0), (210, q10), (212, r11 0 0), (214, r11 0 1), (215, r11 0 2), (216, r11 0 3), (310, q12), (312, r13 0 0), (313, r13 0 1), (1000, q6), (1003, r7 0 1), (1004, r7 0 2), (1005, r7 0 3), (1009, r7 0 4), (1010, r7 0 5), (1011, r7 0 6), (1020, r7 0 0), (1022, r7 1 0), (1023, r7 1 1), (1045, r7 0 7), (1053, r7 11 0), (1054, r7 11 1), (1061, r7 0 8), (1069, r7 21 0), (1070, r7 21 1), (1077, r7 0 9), (1085, r7 31 0), (1086, r7 31 1), (1093, r7 0 10), (1101, r7 41 0), (1102, r7 41 1), (1109, r7 0 11), (1117, r7 51 0), (1118, r7 51 1), (1125, r7 0 12), (1133, r7 61 0), (1134, r7 61 1), (1141, r7 0 13), (1149, r7 71 0), (1150, r7 71 1), (1157, r7 0 14), (1165, r7 81 0), (1166, r7 81 1), (2000, q8), (2003, r9 0 1), (2004, r9 0 2), (2005, r9 0 3), (2009, r9 0 4), (2010, r9 0 5), (2011, r9 0 6), (2020, r9 0 0), (2022, r9 1 0), (2023, r9 1 1), (2045, r9 0 7), (2053, r9 11 0), (2054, r9 11 1), (2061, r9 0 8), (2069, r9 21 0), (2070, r9 21 1), (2077, r9 0 9), (2085, r9 31 0), (2086, r9 31 1), (2093, r9 0 10), (2101, r9 41 0), (2102, r9 41 1), (2109, r9 0 11), (2117, r9 51 0), (2118, r9 51 1), (2125, r9 0 12), (2133, r9 61 0), (2134, r9 61 1), (2141, r9 0 13), (2149, r9 71 0), (2150, r9 71 1), (2157, r9 0 14), (2165, r9 81 0), (2166, r9 81 1), (11000, q0), (11002, r1 0 0), (11003, r1 0 1), (11005, r1 0 2), (11006, r1 0 3), (11011, r1 0 4), (11012, r1 0 5), (11014, r1 0 6), (11015, r1 0 7), (12000, q2), (12002, r3 0 0), (12003, r3 0 1), (12005, r3 0 2), (12006, r3 0 3), (12011, r3 0 4), (12012, r3 0 5), (12014, r3 0 6), (12015, r3 0 7), (13000, q4), (13002, r5 0 0), (13003, r5 0 1), (13005, r5 0 2), (13006, r5 0 3), (13011, r5 0 4), (13012, r5 0 5), (13014, r5 0 6), (13015, r5 0 7), (20000, y0), (20003, p0), (20004, p1), (20005, p2), (20006, p3), (20012, p4), (20013, p5), (20014, p6), (20015, p7), (20017, p8), (20018, p9), (20020, p10), (20021, p11), (20022, p12), (20025, p13), (20026, p14), (20027, p15), (20028, p16), (20029, p17), (20034, p18), (20035, p19), (20036, p20), (20037, p21), (20038, p22), (20039, p23), (20040, p24), (20041, p25), (20042, p26), (20043, p27), (20044, p28), (20045, p29), (20046, p30), (20053, p31), (20054, p32), (20055, p33), (20057, p34), (20058, p35), (20059, p36), (20060, p37), (20061, p38), (20062, p39), (20063, p40), (20064, p41), (20065, p42), (20066, p43), (20067, p44), (20068, p45), (20069, p47), (20104, rp 0), (20120, rp 1), (20136, rp 2), (20152, rp 3), (20168, rp 4), (20184, rp 5)] i, rfl, rfl, rfl, rfl, hw8.symm.trans (w8_ok rfl rfl rfl rfl rfl rfl rfl rfl rfl rfl rfl rfl rfl rfl rfl rfl rfl rfl rfl rfl rfl rfl rfl rfl rfl rfl rfl rfl rfl rfl rfl rfl rfl rfl rfl rfl rfl rfl rfl rfl rfl rfl rfl rfl rfl rfl rfl rfl rfl rfl rfl rfl rfl rfl rfl rfl rfl rfl rfl rfl rfl rfl rfl rfl rfl rfl rfl rfl rfl rfl rfl rfl rfl rfl rfl rfl rfl rfl rfl rfl rfl rfl rfl rfl rfl rfl rfl rfl rfl rfl rfl rfl rfl rfl rfl rfl rfl rfl rfl rfl rfl rfl rfl rfl rfl rfl rfl rfl rfl rfl rfl rfl rfl rfl rfl rfl rfl), w9_ok rfl rfl rfl rfl rfl rfl rfl rfl rfl rfl rfl rfl rfl rfl rfl rfl rfl rfl rfl rfl rfl rfl rfl rfl rfl rfl rfl rfl rfl rfl rfl rfl rfl rfl rfl rfl rfl rfl rfl rfl rfl rfl rfl rfl rfl rfl rfl rfl rfl rfl rfl rfl rfl rfl⟩
  have hP : va_P (dC, dI) vwCl (w8 ++ wX9_init ca y0 p0 p1 p2 p3 p4 p5 p6 p7 p8 p9 p10 p11 p12 p13 p14 p15 p16 p17 p18 p19 p20 p21 p22 p23 p24 p25 p26 p27 p28 p29 p30 p31 p32 p33 p34 p35 p36 p37 p38 p39 p40 p41 p42 p43 p44 p45 p47 rp) H := hP
  have hD : va_D (fun q : Nat => s.heap.size ≤ q) (w8 ++ wX9_init ca y0 p0 p1 p2 p3 p4 p5 p6 p7 p8 p9 p10 p11 p12 p13 p14 p15 p16 p17 p18 p19 p20 p21 p22 p23 p24 p25 p26 p27 p28 p29 p30 p31 p32 p33 p34 p35 p36 p37 p38 p39 p40 p41 p42 p43 p44 p45 p47 rp) := hD
  rw [e8, e9, ← List.map_append] at hP hD
  have at9 : ∀ i, i ∈ xcells → ∃ a : Nat, (L8 ++ L9)[a]? = some i ∧ ((L8 ++ L9).map (cellM (l, (dC, dI), ad, ca, L, xs)))[a]? = some (cellM (l, (dC, dI), ad, ca, L, xs) i) := fun i hi => by
    obtain ⟨a, ha⟩ := List.getElem?_of_mem (L89_in i hi)
    exact ⟨a, ha, by rw [List.getElem?_map, ha]; rfl⟩
  have hXA : ∀ i, i ∈ xcells → s.heap.size ≤ ad i := fun i hi => by
    obtain ⟨a, ha, ha2⟩ := at9 i hi
    exact hD.2 a _ ha2
  have hInj : XInj (l, (dC, dI), ad, ca, L, xs) := fun i j hi hj hij => by
    obtain ⟨a, ha, ha2⟩ := at9 i hi
    obtain ⟨a', hb, hb2⟩ := at9 j hj
    have h := hD.1 a a' _ _ ha2 hb2 hij
    rw [h, hb] at ha
    exact (Option.some.inj ha).symm
  have hPw : va_P (dC, dI) vwCl (wsM (l, (dC, dI), ad, ca, L, xs) M0) H := fun k q hk => by
    unfold wsM at hk
    rw [List.getElem?_map] at hk
    obtain ⟨i, hi, rfl⟩ := Option.map_eq_some_iff.mp hk
    obtain ⟨a, ha, ha2⟩ := at9 i (List.mem_of_getElem? hi)
    exact hP a _ ha2
  have hXA2 : ∀ q, XA (l, (dC, dI), ad, ca, L, xs) q → s.heap.size ≤ q := fun q hq => by
    obtain ⟨i, hi, rfl⟩ := hq
    exact hXA i hi
  have hSt : XSt (l, (dC, dI), ad, ca, L, xs) s s.heap := by
    refine ⟨?_, ?_, ?_, ?_, ?_⟩
    · show va_Z "KeepCount" "PLACES" "[I" (.ref (ad 7)) _ s s.heap
      rw [n7]; exact hZ.narrow hXA2
    · show va_T .int (ad 7) 8 _ _ s s.heap
      rw [n7]; exact hT.narrow hXA2
    · show va_X (ad 5) L xs s s.heap
      rw [n5]; exact hX
    · show ad 5 < s.heap.size
      rw [n5]; exact hbl
    · show ¬ XA _ (ad 5)
      rw [n5]; exact fun h => Nat.lt_irrefl _ (Nat.lt_of_lt_of_le hbl (hXA2 b h))
  have hl : lv_has ls 4 (xls (l, (dC, dI), ad, ca, L, xs) [(2, XR 20000), (1, XR 10), (0, XR 5)]) := by
    show lv_has ls 4 [(2, .ref (ad 20000)), (1, .ref (ad 10)), (0, .ref (ad 5))]
    rw [n5, n10, n20]; exact hl
  refine hbody (l, (dC, dI), ad, ca, L, xs) 0 (fun r _ => r = some (XI 1)) M0 hL (fun _ => rfl) INV0 (fun q hq => ?_) (fun v hv => by cases hv) M0_MR p e room_1 s m _ below meth c _ _ _ H [] ls ⟨hx, hb2, hml, hown, htx, hK, hInj, hSt, Nat.le_of_ble_eq_true rfl, Nat.le_of_ble_eq_true rfl, Nat.le_of_ble_eq_true rfl, Nat.le_of_ble_eq_true rfl⟩ ⟨hPw, hS.1, fun q h1 _ => hS.2.1 q h1 (fun h => Nat.lt_irrefl _ (Nat.lt_of_lt_of_le h1 h)), fun _ h => by cases h⟩ hl (fun r M' H' locs' pc' lsA' hp hret hro hMR F => ?_)
  · rcases List.mem_cons.mp hq with rfl | hq
    · exact True.intro
    · rcases List.mem_cons.mp hq with rfl | hq
      · exact True.intro
      · rcases List.mem_cons.mp hq with rfl | hq
        · exact True.intro
        · cases hq
  · have hp : r = some (XI 1) := hp
    subst hp
    refine va_forget (fun q hq => hXA2 _ (F.2.2.2 q hq)) ?_
    refine W.widen (k := 600000) (n := 7302250) (Nat.le_of_ble_eq_true rfl) (Nat.le_of_ble_eq_true rfl) ?_
    exact lw_ret hx hb hr hlocks hret.1
end
