section
def R_law : String := "KeepCountLaw"
def lw_P (b : Addr) (xs : List Int32) (args : Array Value) (s : State) : Prop := args = #[.ref b] ∧ s.IntsAt b xs ∧ xs.length ≤ 3072 ∧ (Jvm.Cond.and given_1 narrow_1).before args s = true
def lw_Q (_ : Array Value) (s : State) (o : Outcome) (t : State) : Prop := o = .returned (some (.int 1)) ∧ Framed s o t [] 600000 7302250
def lw_Z (below : List Frame) (a : Array Value) (s : State) : State → Prop := fun t => ∃ o, t.status = .running ∧ Ended t below o ∧ lw_Q a s o t
/-- the law's own end, with 1 on the stack, nothing written that was there before, its room as the claim has it -/
theorem lw_ret {p : Program} {l : Launch} {e : Env} {s : State} {m : MethodId} {below : List Frame} {meth : Method} {c : Code} {b : Nat} (hx : p.tables.exec = Jvm.exec) (hb : c.code = code) (hr : meth.sig.returnType = ret) (hlocks : meth.locks = false) {pc : Nat} {H : Heap} {ls : Array Slot} (hdg : decode code pc = .ok (.ireturn, 1)) : W p l e room_1 s m #[Value.ref b] below meth c H [] 600000 7302250 (lw_Z below #[Value.ref b] s) (F0 m pc ls [.int 1]) := by
  intro T hT X
  obtain ⟨fs, hret, hrun, hended, hW, hframe⟩ := X.leave (v := some (.int 1)) (hlocks := hlocks) (fun h => by rw [hr] at h; cases h)
  have hmeth' : T.vm.method? m = some meth := X.method'
  refine ⟨T.setFrames fs, ?_, .returned (some (.int 1)), hrun, hended, rfl, ⟨_, rfl⟩, hW, hframe⟩
  jvm_step X.here [X.here.top, hx, hb, hdg, hmeth', hr, ret, narrow_b1]
  (try refine ⟨rfl, ?_⟩); (try refine ⟨rfl, ?_⟩)
  first | (intro acts; rw [hret _ acts rfl rfl rfl]) | rw [hret _ _ rfl rfl rfl]
  exact Steps.refl _
/-- what holds at the law's entry: the machine, the code, the tables' words (any of lw_tbl by 'hts w (by decide +kernel)'), the script of L ints xs at the cell b, what the Statement gives of the start (any of its parts by flat_of_before) -/
def lw_At (p : Program) (s : State) (m : MethodId) (meth : Method) (c : Code) (b L : Nat) (xs : Nat → Int32) : Prop :=
  p.tables.exec = Jvm.exec ∧ c.code = code ∧ meth.sig.returnType = ret ∧ c.maxLocals = 4 ∧ s.vm.findClass R_law = some m.cls ∧ (∀ w ∈ lw_tbl, w.before #[Value.ref b] s = true) ∧ va_X b L xs s s.heap ∧ b < s.heap.size ∧ meth.locks = false ∧ (Jvm.Cond.and given_1 narrow_1).before #[Value.ref b] s = true
/-- the law -/
def mL_law : XY := (⟨"KeepCountLaw", "law", "([I)Z"⟩, cL_law, 4, some .boolean)

set_option maxRecDepth 100000 in
theorem st_K {s : State} {b : Nat} (hts : ∀ w ∈ lw_tbl, w.before #[Value.ref b] s = true) : ∃ (dC : Nat → ClassId) (dI : Nat → Nat → Nat) (ca : Nat → ClassId), va_K (dC, dI) vwCl (ctys ca) s ∧ AOs s := by
  have htx : ∀ w ∈ xtbl, w.before #[Value.ref b] s = true := fun w hw => hts w (List.mem_filter.mp hw).1
  obtain ⟨c0, i0, hK0⟩ := u_known (C := RX0) (T := TX0) (N := 3) (n := 3) htx (x_ps inX0 gdX0) (htx (.instantiable RX0 3) (at_x 176 rfl rfl))
  obtain ⟨c1, i1, hK1⟩ := u_known (C := RX1) (T := TX1) (N := 15) (n := 15) htx (x_ps inX1 gdX1) (htx (.instantiable RX1 15) (at_x 91 rfl rfl))
  obtain ⟨c2, i2, hK2⟩ := u_known (C := RX3) (T := TX3) (N := 9) (n := 9) htx (x_ps inX3 gdX3) (htx (.instantiable RX3 9) (at_x 199 rfl rfl))
  obtain ⟨c3, i3, hK3⟩ := u_known (C := RX4) (T := TX4) (N := 14) (n := 14) htx (x_ps inX4 gdX4) (htx (.instantiable RX4 14) (at_x 170 rfl rfl))
  obtain ⟨c4, i4, hK4⟩ := u_known (C := RX5) (T := TX5) (N := 3) (n := 3) htx (x_ps inX5 gdX5) (htx (.instantiable RX5 3) (at_x 358 rfl rfl))
  obtain ⟨c5, i5, hK5⟩ := u_known (C := RX6) (T := TX6) (N := 8) (n := 8) htx (x_ps inX6 gdX6) (htx (.instantiable RX6 8) (at_x 301 rfl rfl))
  obtain ⟨c6, i6, hK6⟩ := u_known (C := RX7) (T := TX7) (N := 3) (n := 3) htx (x_ps inX7 gdX7) (htx (.instantiable RX7 3) (at_x 338 rfl rfl))
  obtain ⟨c7, i7, hK7⟩ := u_known (C := RX8) (T := TX8) (N := 10) (n := 10) htx (x_ps inX8 gdX8) (htx (.instantiable RX8 10) (at_x 83 rfl rfl))
  obtain ⟨c8, i8, hK8⟩ := u_known (C := RX9) (T := TX9) (N := 69) (n := 69) htx (x_ps inX9 gdX9) (htx (.instantiable RX9 69) (at_x 841 rfl rfl))
  obtain ⟨dC, dI, hKc⟩ : ∃ (dC : Nat → ClassId) (dI : Nat → Nat → Nat), ∀ (k : Nat) (q : vw_C), vwCl[k]? = some q → u_Kn s q.1 q.2.1 q.2.2 (dC k) (dI k) := by
    refine ⟨fun k => ([c0, c1, c2, c3, c4, c5, c6, c7, c8] : List ClassId).getD k c0, fun k => ([i0, i1, i2, i3, i4, i5, i6, i7, i8] : List (Nat → Nat)).getD k i0, fun k q hq => ?_⟩
    have hk : k < 9 := (List.getElem?_eq_some_iff.mp hq).1
    rcases (show k = 0 ∨ k = 1 ∨ k = 2 ∨ k = 3 ∨ k = 4 ∨ k = 5 ∨ k = 6 ∨ k = 7 ∨ k = 8 by omega) with g | g | g | g | g | g | g | g | g
    · subst g; cases hq; exact hK0
    · subst g; cases hq; exact hK1
    · subst g; cases hq; exact hK2
    · subst g; cases hq; exact hK3
    · subst g; cases hq; exact hK4
    · subst g; cases hq; exact hK5
    · subst g; cases hq; exact hK6
    · subst g; cases hq; exact hK7
    · subst g; cases hq; exact hK8
  obtain ⟨a0, g0⟩ : ∃ cA, ArrOfT s cA .int ∧ va_RA s cA .int := by
    obtain ⟨cA, kA, comp, h1, h2, h3⟩ := Cond.arrayClass_spec (htx _ wa_int)
    exact ⟨cA, fun n z => ⟨fun k h => (by cases h), kA, h2, comp, h3⟩, h1⟩
  obtain ⟨a1, g1⟩ : ∃ cA, ArrOfT s cA .long ∧ va_RA s cA .long := by
    obtain ⟨cA, kA, comp, h1, h2, h3⟩ := Cond.arrayClass_spec (htx _ wa_long)
    exact ⟨cA, fun n z => ⟨fun k h => (by cases h), kA, h2, comp, h3⟩, h1⟩
  obtain ⟨a2, g2⟩ : ∃ cA, ArrOfT s cA .boolean ∧ va_RA s cA .boolean := by
    obtain ⟨cA, kA, comp, h1, h2, h3⟩ := Cond.arrayClass_spec (htx _ wa_boolean)
    exact ⟨cA, fun n z => ⟨fun k h => (by cases h), kA, h2, comp, h3⟩, h1⟩
  have w3 : (Cond.arrayOver (.object "KeepCount$Stage")).before #[Value.ref b] s = true := hts _ (List.mem_of_getElem? (i := 198) rfl)
  obtain ⟨a3, g3⟩ : ∃ cA, ArrOfT s cA (.object "KeepCount$Stage") ∧ va_RA s cA (.object "KeepCount$Stage") := by
    obtain ⟨comp, cA, kA, h1, h2, h3, h4, h5⟩ := Cond.arrayOver_spec w3
    exact ⟨cA, fun n z => ⟨fun k h => (by cases h), kA, h3, comp, h4⟩, kA, comp, h3, h4, h1, h5⟩
  have w4 : (Cond.arrayOver (.object "KeepCount$Tape")).before #[Value.ref b] s = true := hts _ (List.mem_of_getElem? (i := 357) rfl)
  obtain ⟨a4, g4⟩ : ∃ cA, ArrOfT s cA (.object "KeepCount$Tape") ∧ va_RA s cA (.object "KeepCount$Tape") := by
    obtain ⟨comp, cA, kA, h1, h2, h3, h4, h5⟩ := Cond.arrayOver_spec w4
    exact ⟨cA, fun n z => ⟨fun k h => (by cases h), kA, h3, comp, h4⟩, kA, comp, h3, h4, h1, h5⟩
  have w5 : (Cond.arrayOver (.array .long)).before #[Value.ref b] s = true := hts _ (List.mem_of_getElem? (i := 847) rfl)
  obtain ⟨a5, g5⟩ : ∃ cA, ArrOfT s cA (.array .long) ∧ va_RA s cA (.array .long) := by
    obtain ⟨comp, cA, kA, h1, h2, h3, h4, h5⟩ := Jvm.Stand.arrayOver_specB w5
    exact ⟨cA, fun n z => ⟨fun k h => (by cases h), kA, h3, comp, h4⟩, h5⟩
  obtain ⟨ca, e0, e1, e2, e3, e4, e5⟩ : ∃ ca : Nat → ClassId, ca 0 = a0 ∧ ca 1 = a1 ∧ ca 2 = a2 ∧ ca 3 = a3 ∧ ca 4 = a4 ∧ ca 5 = a5 := ⟨fun k => ([a0, a1, a2, a3, a4, a5] : List ClassId).getD k a0, rfl, rfl, rfl, rfl, rfl, rfl⟩
  subst e0; subst e1; subst e2; subst e3; subst e4; subst e5
  have hK : va_K (dC, dI) vwCl (ctys ca) s := ⟨hKc, fun k q hq => by
    have hk : k < 6 := (List.getElem?_eq_some_iff.mp hq).1
    rcases (show k = 0 ∨ k = 1 ∨ k = 2 ∨ k = 3 ∨ k = 4 ∨ k = 5 by omega) with h | h | h | h | h | h
    · subst h; cases hq; exact g0
    · subst h; cases hq; exact g1
    · subst h; cases hq; exact g2
    · subst h; cases hq; exact g3
    · subst h; cases hq; exact g4
    · subst h; cases hq; exact g5⟩
  exact ⟨dC, dI, ca, hK, ⟨va_AO.of w3, va_AO.of w4, va_AOA.of w5⟩⟩
theorem st_Z {s : State} {b : Nat} (hts : ∀ w ∈ lw_tbl, w.before #[Value.ref b] s = true) (hgv : (Jvm.Cond.and given_1 narrow_1).before #[Value.ref b] s = true) : ∃ t : Nat, va_Z "KeepCount" "PLACES" "[I" (.ref t) (fun q : Nat => s.heap.size ≤ q) s s.heap ∧ va_T .int t 8 (fun j => .int (Int32.ofInt (xpl j))) (fun q : Nat => s.heap.size ≤ q) s s.heap := by
  have htx : ∀ w ∈ xtbl, w.before #[Value.ref b] s = true := fun w hw => hts w (List.mem_filter.mp hw).1
  have hs := flat_of_before _ hgv
  obtain ⟨t, ht, hT⟩ := va_Tof (tm := .static "KeepCount" "PLACES" "[I") (ty := .int) (N := 8) (f := fun j => .int (Int32.ofInt (xpl j))) (A := fun q : Nat => s.heap.size ≤ q) (by decide) (hs (.arrayOf (.static "KeepCount" "PLACES" "[I") .int) (by decide +kernel)) (va_eqt (z := 8) (hs (.eq (.length (.static "KeepCount" "PLACES" "[I")) (.int 8)) (by decide +kernel))) (fun j hj => by
    rcases (show j = 0 ∨ j = 1 ∨ j = 2 ∨ j = 3 ∨ j = 4 ∨ j = 5 ∨ j = 6 ∨ j = 7 by omega) with h | h | h | h | h | h | h | h
    · subst h; exact va_eqt (z := 10000000) (hs (.eq (.elem (.static "KeepCount" "PLACES" "[I") (.int 0)) (.int 10000000)) (by decide +kernel))
    · subst h; exact va_eqt (z := 1000000) (hs (.eq (.elem (.static "KeepCount" "PLACES" "[I") (.int 1)) (.int 1000000)) (by decide +kernel))
    · subst h; exact va_eqt (z := 100000) (hs (.eq (.elem (.static "KeepCount" "PLACES" "[I") (.int 2)) (.int 100000)) (by decide +kernel))
    · subst h; exact va_eqt (z := 10000) (hs (.eq (.elem (.static "KeepCount" "PLACES" "[I") (.int 3)) (.int 10000)) (by decide +kernel))
    · subst h; exact va_eqt (z := 1000) (hs (.eq (.elem (.static "KeepCount" "PLACES" "[I") (.int 4)) (.int 1000)) (by decide +kernel))
    · subst h; exact va_eqt (z := 100) (hs (.eq (.elem (.static "KeepCount" "PLACES" "[I") (.int 5)) (.int 100)) (by decide +kernel))
    · subst h; exact va_eqt (z := 10) (hs (.eq (.elem (.static "KeepCount" "PLACES" "[I") (.int 6)) (.int 10)) (by decide +kernel))
    · subst h; exact va_eqt (z := 1) (hs (.eq (.elem (.static "KeepCount" "PLACES" "[I") (.int 7)) (.int 1)) (by decide +kernel))) (fun a ha h => Nat.lt_irrefl _ (Nat.lt_of_lt_of_le ha h))
  have hZ := va_Zref (C := "KeepCount") (n := "PLACES") (d := "[I") (t := t) (A := fun q : Nat => s.heap.size ≤ q) (hts _ (List.mem_of_getElem? (i := 420) rfl)) (htx _ (at_x 69 rfl rfl)) ht (fun a ha h => Nat.lt_irrefl _ (Nat.lt_of_lt_of_le ha h))
  exact ⟨t, hZ, hT⟩
set_option maxRecDepth 100000 in
set_option maxHeartbeats 4000000 in
theorem st_ad {w8 w9 : va_W} (l : Launch) (dC : Nat → ClassId) (dI : Nat → Nat → Nat) (ca : Nat → ClassId) (L : Nat) (xs : Nat → Int32) (b t x0 y0 : Nat) (h8 : ∃ (q0 q2 q4 q6 q8 q10 q12 q14 q15 q17 q19 q21 q23 q25 : Nat) (r1 r3 r5 r7 r9 r11 r13 r16 r18 r20 r22 r24 r26 : Nat → Nat → Nat), w8 = wX8_init ca x0 q0 q2 q4 q6 q8 q10 q12 q14 q15 q17 q19 q21 q23 q25 r1 r3 r5 r7 r9 r11 r13 r16 r18 r20 r22 r24 r26) (h9 : ∃ (p0 p1 p2 p3 p4 p5 p6 p7 p8 p9 p10 p11 p12 p13 p14 p15 p16 p17 p18 p19 p20 p21 p22 p23 p24 p25 p26 p27 p28 p29 p30 p31 p32 p33 p34 p35 p36 p37 p38 p39 p40 p41 p42 p43 p44 p45 p47 : Nat) (rp : Nat → Nat), w9 = wX9_init ca y0 p0 p1 p2 p3 p4 p5 p6 p7 p8 p9 p10 p11 p12 p13 p14 p15 p16 p17 p18 p19 p20 p21 p22 p23 p24 p25 p26 p27 p28 p29 p30 p31 p32 p33 p34 p35 p36 p37 p38 p39 p40 p41 p42 p43 p44 p45 p47 rp) : ∃ ad : Nat → Nat, ad 5 = b ∧ ad 7 = t ∧ ad 10 = x0 ∧ ad 20000 = y0 ∧ w8 = L8.map (cellM (l, (dC, dI), ad, ca, L, xs)) ∧ w9 = L9.map (cellM (l, (dC, dI), ad, ca, L, xs)) := by
  obtain ⟨q0, q2, q4, q6, q8, q10, q12, q14, q15, q17, q19, q21, q23, q25, r1, r3, r5, r7, r9, r11, r13, r16, r18, r20, r22, r24, r26, e8⟩ := h8
  obtain ⟨p0, p1, p2, p3, p4, p5, p6, p7, p8, p9, p10, p11, p12, p13, p14, p15, p16, p17, p18, p19, p20, p21, p22, p23, p24, p25, p26, p27, p28, p29, p30, p31, p32, p33, p34, p35, p36, p37, p38, p39, p40, p41, p42, p43, p44, p45, p47, rp, e9⟩ := h9
  obtain ⟨ad, n5, n7, n10, n20, n56, n59, n72, n75, n88, n91, n104, n107, n120, n123, n136, n139, n210, n212, n214, n215, n216, n310, n312, n313, n1000, n1003, n1004, n1005, n1009, n1010, n1011, n1020, n1022, n1023, n1045, n1053, n1054, n1061, n1069, n1070, n1077, n1085, n1086, n1093, n1101, n1102, n1109, n1117, n1118, n1125, n1133, n1134, n1141, n1149, n1150, n1157, n1165, n1166, n2000, n2003, n2004, n2005, n2009, n2010, n2011, n2020, n2022, n2023, n2045, n2053, n2054, n2061, n2069, n2070, n2077, n2085, n2086, n2093, n2101, n2102, n2109, n2117, n2118, n2125, n2133, n2134, n2141, n2149, n2150, n2157, n2165, n2166, n11000, n11002, n11003, n11005, n11006, n11011, n11012, n11014, n11015, n12000, n12002, n12003, n12005, n12006, n12011, n12012, n12014, n12015, n13000, n13002, n13003, n13005, n13006, n13011, n13012, n13014, n13015, n20000, n20003, n20004, n20005, n20006, n20012, n20013, n20014, n20015, n20017, n20018, n20020, n20021, n20022, n20025, n20026, n20027, n20028, n20029, n20034, n20035, n20036, n20037, n20038, n20039, n20040, n20041, n20042, n20043, n20044, n20045, n20046, n20053, n20054, n20055, n20057, n20058, n20059, n20060, n20061, n20062, n20063, n20064, n20065, n20066, n20067, n20068, n20069, n20104, n20120, n20136, n20152, n20168, n20184⟩ : ∃ ad : Nat → Nat, ad 5 = b ∧ ad 7 = t ∧ ad 10 = x0 ∧ ad 20 = q14 ∧ ad 56 = q15 ∧ ad 59 = r16 0 0 ∧ ad 72 = q17 ∧ ad 75 = r18 0 0 ∧ ad 88 = q19 ∧ ad 91 = r20 0 0 ∧ ad 104 = q21 ∧ ad 107 = r22 0 0 ∧ ad 120 = q23 ∧ ad 123 = r24 0 0 ∧ ad 136 = q25 ∧ ad 139 = r26 0 0 ∧ ad 210 = q10 ∧ ad 212 = r11 0 0 ∧ ad 214 = r11 0 1 ∧ ad 215 = r11 0 2 ∧ ad 216 = r11 0 3 ∧ ad 310 = q12 ∧ ad 312 = r13 0 0 ∧ ad 313 = r13 0 1 ∧ ad 1000 = q6 ∧ ad 1003 = r7 0 1 ∧ ad 1004 = r7 0 2 ∧ ad 1005 = r7 0 3 ∧ ad 1009 = r7 0 4 ∧ ad 1010 = r7 0 5 ∧ ad 1011 = r7 0 6 ∧ ad 1020 = r7 0 0 ∧ ad 1022 = r7 1 0 ∧ ad 1023 = r7 1 1 ∧ ad 1045 = r7 0 7 ∧ ad 1053 = r7 11 0 ∧ ad 1054 = r7 11 1 ∧ ad 1061 = r7 0 8 ∧ ad 1069 = r7 21 0 ∧ ad 1070 = r7 21 1 ∧ ad 1077 = r7 0 9 ∧ ad 1085 = r7 31 0 ∧ ad 1086 = r7 31 1 ∧ ad 1093 = r7 0 10 ∧ ad 1101 = r7 41 0 ∧ ad 1102 = r7 41 1 ∧ ad 1109 = r7 0 11 ∧ ad 1117 = r7 51 0 ∧ ad 1118 = r7 51 1 ∧ ad 1125 = r7 0 12 ∧ ad 1133 = r7 61 0 ∧ ad 1134 = r7 61 1 ∧ ad 1141 = r7 0 13 ∧ ad 1149 = r7 71 0 ∧ ad 1150 = r7 71 1 ∧ ad 1157 = r7 0 14 ∧ ad 1165 = r7 81 0 ∧ ad 1166 = r7 81 1 ∧ ad 2000 = q8 ∧ ad 2003 = r9 0 1 ∧ ad 2004 = r9 0 2 ∧ ad 2005 = r9 0 3 ∧ ad 2009 = r9 0 4 ∧ ad 2010 = r9 0 5 ∧ ad 2011 = r9 0 6 ∧ ad 2020 = r9 0 0 ∧ ad 2022 = r9 1 0 ∧ ad 2023 = r9 1 1 ∧ ad 2045 = r9 0 7 ∧ ad 2053 = r9 11 0 ∧ ad 2054 = r9 11 1 ∧ ad 2061 = r9 0 8 ∧ ad 2069 = r9 21 0 ∧ ad 2070 = r9 21 1 ∧ ad 2077 = r9 0 9 ∧ ad 2085 = r9 31 0 ∧ ad 2086 = r9 31 1 ∧ ad 2093 = r9 0 10 ∧ ad 2101 = r9 41 0 ∧ ad 2102 = r9 41 1 ∧ ad 2109 = r9 0 11 ∧ ad 2117 = r9 51 0 ∧ ad 2118 = r9 51 1 ∧ ad 2125 = r9 0 12 ∧ ad 2133 = r9 61 0 ∧ ad 2134 = r9 61 1 ∧ ad 2141 = r9 0 13 ∧ ad 2149 = r9 71 0 ∧ ad 2150 = r9 71 1 ∧ ad 2157 = r9 0 14 ∧ ad 2165 = r9 81 0 ∧ ad 2166 = r9 81 1 ∧ ad 11000 = q0 ∧ ad 11002 = r1 0 0 ∧ ad 11003 = r1 0 1 ∧ ad 11005 = r1 0 2 ∧ ad 11006 = r1 0 3 ∧ ad 11011 = r1 0 4 ∧ ad 11012 = r1 0 5 ∧ ad 11014 = r1 0 6 ∧ ad 11015 = r1 0 7 ∧ ad 12000 = q2 ∧ ad 12002 = r3 0 0 ∧ ad 12003 = r3 0 1 ∧ ad 12005 = r3 0 2 ∧ ad 12006 = r3 0 3 ∧ ad 12011 = r3 0 4 ∧ ad 12012 = r3 0 5 ∧ ad 12014 = r3 0 6 ∧ ad 12015 = r3 0 7 ∧ ad 13000 = q4 ∧ ad 13002 = r5 0 0 ∧ ad 13003 = r5 0 1 ∧ ad 13005 = r5 0 2 ∧ ad 13006 = r5 0 3 ∧ ad 13011 = r5 0 4 ∧ ad 13012 = r5 0 5 ∧ ad 13014 = r5 0 6 ∧ ad 13015 = r5 0 7 ∧ ad 20000 = y0 ∧ ad 20003 = p0 ∧ ad 20004 = p1 ∧ ad 20005 = p2 ∧ ad 20006 = p3 ∧ ad 20012 = p4 ∧ ad 20013 = p5 ∧ ad 20014 = p6 ∧ ad 20015 = p7 ∧ ad 20017 = p8 ∧ ad 20018 = p9 ∧ ad 20020 = p10 ∧ ad 20021 = p11 ∧ ad 20022 = p12 ∧ ad 20025 = p13 ∧ ad 20026 = p14 ∧ ad 20027 = p15 ∧ ad 20028 = p16 ∧ ad 20029 = p17 ∧ ad 20034 = p18 ∧ ad 20035 = p19 ∧ ad 20036 = p20 ∧ ad 20037 = p21 ∧ ad 20038 = p22 ∧ ad 20039 = p23 ∧ ad 20040 = p24 ∧ ad 20041 = p25 ∧ ad 20042 = p26 ∧ ad 20043 = p27 ∧ ad 20044 = p28 ∧ ad 20045 = p29 ∧ ad 20046 = p30 ∧ ad 20053 = p31 ∧ ad 20054 = p32 ∧ ad 20055 = p33 ∧ ad 20057 = p34 ∧ ad 20058 = p35 ∧ ad 20059 = p36 ∧ ad 20060 = p37 ∧ ad 20061 = p38 ∧ ad 20062 = p39 ∧ ad 20063 = p40 ∧ ad 20064 = p41 ∧ ad 20065 = p42 ∧ ad 20066 = p43 ∧ ad 20067 = p44 ∧ ad 20068 = p45 ∧ ad 20069 = p47 ∧ ad 20104 = rp 0 ∧ ad 20120 = rp 1 ∧ ad 20136 = rp 2 ∧ ad 20152 = rp 3 ∧ ad 20168 = rp 4 ∧ ad 20184 = rp 5 := ⟨fun i => cond (Nat.ble 2141 i) (cond (Nat.ble 20018 i) (cond (Nat.ble 20053 i) (cond (Nat.ble 20065 i) (cond (Nat.ble 20104 i) (cond (Nat.ble 20152 i) (cond (Nat.ble 20168 i) (cond (Nat.ble 20184 i) (rp 5) (rp 4)) (rp 3)) (cond (Nat.ble 20120 i) (cond (Nat.ble 20136 i) (rp 2) (rp 1)) (rp 0))) (cond (Nat.ble 20067 i) (cond (Nat.ble 20068 i) (cond (Nat.ble 20069 i) (p47) (p45)) (p44)) (cond (Nat.ble 20066 i) (p43) (p42)))) (cond (Nat.ble 20059 i) (cond (Nat.ble 20062 i) (cond (Nat.ble 20063 i) (cond (Nat.ble 20064 i) (p41) (p40)) (p39)) (cond (Nat.ble 20060 i) (cond (Nat.ble 20061 i) (p38) (p37)) (p36))) (cond (Nat.ble 20055 i) (cond (Nat.ble 20057 i) (cond (Nat.ble 20058 i) (p35) (p34)) (p33)) (cond (Nat.ble 20054 i) (p32) (p31))))) (cond (Nat.ble 20036 i) (cond (Nat.ble 20041 i) (cond (Nat.ble 20044 i) (cond (Nat.ble 20045 i) (cond (Nat.ble 20046 i) (p30) (p29)) (p28)) (cond (Nat.ble 20042 i) (cond (Nat.ble 20043 i) (p27) (p26)) (p25))) (cond (Nat.ble 20038 i) (cond (Nat.ble 20039 i) (cond (Nat.ble 20040 i) (p24) (p23)) (p22)) (cond (Nat.ble 20037 i) (p21) (p20)))) (cond (Nat.ble 20026 i) (cond (Nat.ble 20029 i) (cond (Nat.ble 20034 i) (cond (Nat.ble 20035 i) (p19) (p18)) (p17)) (cond (Nat.ble 20027 i) (cond (Nat.ble 20028 i) (p16) (p15)) (p14))) (cond (Nat.ble 20021 i) (cond (Nat.ble 20022 i) (cond (Nat.ble 20025 i) (p13) (p12)) (p11)) (cond (Nat.ble 20020 i) (p10) (p9)))))) (cond (Nat.ble 12012 i) (cond (Nat.ble 13015 i) (cond (Nat.ble 20006 i) (cond (Nat.ble 20014 i) (cond (Nat.ble 20015 i) (cond (Nat.ble 20017 i) (p8) (p7)) (p6)) (cond (Nat.ble 20012 i) (cond (Nat.ble 20013 i) (p5) (p4)) (p3))) (cond (Nat.ble 20003 i) (cond (Nat.ble 20004 i) (cond (Nat.ble 20005 i) (p2) (p1)) (p0)) (cond (Nat.ble 20000 i) (y0) (r5 0 7)))) (cond (Nat.ble 13003 i) (cond (Nat.ble 13011 i) (cond (Nat.ble 13012 i) (cond (Nat.ble 13014 i) (r5 0 6) (r5 0 5)) (r5 0 4)) (cond (Nat.ble 13005 i) (cond (Nat.ble 13006 i) (r5 0 3) (r5 0 2)) (r5 0 1))) (cond (Nat.ble 12015 i) (cond (Nat.ble 13000 i) (cond (Nat.ble 13002 i) (r5 0 0) (q4)) (r3 0 7)) (cond (Nat.ble 12014 i) (r3 0 6) (r3 0 5))))) (cond (Nat.ble 11006 i) (cond (Nat.ble 12000 i) (cond (Nat.ble 12005 i) (cond (Nat.ble 12006 i) (cond (Nat.ble 12011 i) (r3 0 4) (r3 0 3)) (r3 0 2)) (cond (Nat.ble 12002 i) (cond (Nat.ble 12003 i) (r3 0 1) (r3 0 0)) (q2))) (cond (Nat.ble 11012 i) (cond (Nat.ble 11014 i) (cond (Nat.ble 11015 i) (r1 0 7) (r1 0 6)) (r1 0 5)) (cond (Nat.ble 11011 i) (r1 0 4) (r1 0 3)))) (cond (Nat.ble 2166 i) (cond (Nat.ble 11002 i) (cond (Nat.ble 11003 i) (cond (Nat.ble 11005 i) (r1 0 2) (r1 0 1)) (r1 0 0)) (cond (Nat.ble 11000 i) (q0) (r9 81 1))) (cond (Nat.ble 2150 i) (cond (Nat.ble 2157 i) (cond (Nat.ble 2165 i) (r9 81 0) (r9 0 14)) (r9 71 1)) (cond (Nat.ble 2149 i) (r9 71 0) (r9 0 13))))))) (cond (Nat.ble 1093 i) (cond (Nat.ble 2011 i) (cond (Nat.ble 2085 i) (cond (Nat.ble 2109 i) (cond (Nat.ble 2125 i) (cond (Nat.ble 2133 i) (cond (Nat.ble 2134 i) (r9 61 1) (r9 61 0)) (r9 0 12)) (cond (Nat.ble 2117 i) (cond (Nat.ble 2118 i) (r9 51 1) (r9 51 0)) (r9 0 11))) (cond (Nat.ble 2093 i) (cond (Nat.ble 2101 i) (cond (Nat.ble 2102 i) (r9 41 1) (r9 41 0)) (r9 0 10)) (cond (Nat.ble 2086 i) (r9 31 1) (r9 31 0)))) (cond (Nat.ble 2053 i) (cond (Nat.ble 2069 i) (cond (Nat.ble 2070 i) (cond (Nat.ble 2077 i) (r9 0 9) (r9 21 1)) (r9 21 0)) (cond (Nat.ble 2054 i) (cond (Nat.ble 2061 i) (r9 0 8) (r9 11 1)) (r9 11 0))) (cond (Nat.ble 2022 i) (cond (Nat.ble 2023 i) (cond (Nat.ble 2045 i) (r9 0 7) (r9 1 1)) (r9 1 0)) (cond (Nat.ble 2020 i) (r9 0 0) (r9 0 6))))) (cond (Nat.ble 1149 i) (cond (Nat.ble 2000 i) (cond (Nat.ble 2005 i) (cond (Nat.ble 2009 i) (cond (Nat.ble 2010 i) (r9 0 5) (r9 0 4)) (r9 0 3)) (cond (Nat.ble 2003 i) (cond (Nat.ble 2004 i) (r9 0 2) (r9 0 1)) (q8))) (cond (Nat.ble 1157 i) (cond (Nat.ble 1165 i) (cond (Nat.ble 1166 i) (r7 81 1) (r7 81 0)) (r7 0 14)) (cond (Nat.ble 1150 i) (r7 71 1) (r7 71 0)))) (cond (Nat.ble 1118 i) (cond (Nat.ble 1133 i) (cond (Nat.ble 1134 i) (cond (Nat.ble 1141 i) (r7 0 13) (r7 61 1)) (r7 61 0)) (cond (Nat.ble 1125 i) (r7 0 12) (r7 51 1))) (cond (Nat.ble 1102 i) (cond (Nat.ble 1109 i) (cond (Nat.ble 1117 i) (r7 51 0) (r7 0 11)) (r7 41 1)) (cond (Nat.ble 1101 i) (r7 41 0) (r7 0 10)))))) (cond (Nat.ble 310 i) (cond (Nat.ble 1022 i) (cond (Nat.ble 1061 i) (cond (Nat.ble 1077 i) (cond (Nat.ble 1085 i) (cond (Nat.ble 1086 i) (r7 31 1) (r7 31 0)) (r7 0 9)) (cond (Nat.ble 1069 i) (cond (Nat.ble 1070 i) (r7 21 1) (r7 21 0)) (r7 0 8))) (cond (Nat.ble 1045 i) (cond (Nat.ble 1053 i) (cond (Nat.ble 1054 i) (r7 11 1) (r7 11 0)) (r7 0 7)) (cond (Nat.ble 1023 i) (r7 1 1) (r7 1 0)))) (cond (Nat.ble 1004 i) (cond (Nat.ble 1010 i) (cond (Nat.ble 1011 i) (cond (Nat.ble 1020 i) (r7 0 0) (r7 0 6)) (r7 0 5)) (cond (Nat.ble 1005 i) (cond (Nat.ble 1009 i) (r7 0 4) (r7 0 3)) (r7 0 2))) (cond (Nat.ble 313 i) (cond (Nat.ble 1000 i) (cond (Nat.ble 1003 i) (r7 0 1) (q6)) (r13 0 1)) (cond (Nat.ble 312 i) (r13 0 0) (q12))))) (cond (Nat.ble 104 i) (cond (Nat.ble 139 i) (cond (Nat.ble 214 i) (cond (Nat.ble 215 i) (cond (Nat.ble 216 i) (r11 0 3) (r11 0 2)) (r11 0 1)) (cond (Nat.ble 210 i) (cond (Nat.ble 212 i) (r11 0 0) (q10)) (r26 0 0))) (cond (Nat.ble 120 i) (cond (Nat.ble 123 i) (cond (Nat.ble 136 i) (q25) (r24 0 0)) (q23)) (cond (Nat.ble 107 i) (r22 0 0) (q21)))) (cond (Nat.ble 59 i) (cond (Nat.ble 75 i) (cond (Nat.ble 88 i) (cond (Nat.ble 91 i) (r20 0 0) (q19)) (r18 0 0)) (cond (Nat.ble 72 i) (q17) (r16 0 0))) (cond (Nat.ble 10 i) (cond (Nat.ble 20 i) (cond (Nat.ble 56 i) (q15) (q14)) (x0)) (cond (Nat.ble 7 i) (t) (b))))))), rfl, rfl, rfl, rfl, rfl, rfl, rfl, rfl, rfl, rfl, rfl, rfl, rfl, rfl, rfl, rfl, rfl, rfl, rfl, rfl, rfl, rfl, rfl, rfl, rfl, rfl, rfl, rfl, rfl, rfl, rfl, rfl, rfl, rfl, rfl, rfl, rfl, rfl, rfl, rfl, rfl, rfl, rfl, rfl, rfl, rfl, rfl, rfl, rfl, rfl, rfl, rfl, rfl, rfl, rfl, rfl, rfl, rfl, rfl, rfl, rfl, rfl, rfl, rfl, rfl, rfl, rfl, rfl, rfl, rfl, rfl, rfl, rfl, rfl, rfl, rfl, rfl, rfl, rfl, rfl, rfl, rfl, rfl, rfl, rfl, rfl, rfl, rfl, rfl, rfl, rfl, rfl, rfl, rfl, rfl, rfl, rfl, rfl, rfl, rfl, rfl, rfl, rfl, rfl, rfl, rfl, rfl, rfl, rfl, rfl, rfl, rfl, rfl, rfl, rfl, rfl, rfl, rfl, rfl, rfl, rfl, rfl, rfl, rfl, rfl, rfl, rfl, rfl, rfl, rfl, rfl, rfl, rfl, rfl, rfl, rfl, rfl, rfl, rfl, rfl, rfl, rfl, rfl, rfl, rfl, rfl, rfl, rfl, rfl, rfl, rfl, rfl, rfl, rfl, rfl, rfl, rfl, rfl, rfl, rfl, rfl, rfl, rfl, rfl, rfl, rfl, rfl, rfl, rfl, rfl, rfl, rfl, rfl⟩
  refine ⟨ad, n5, n7, n10, n20000, ?_, ?_⟩
  · exact e8.trans (@w8_ok (l, (dC, dI), ad, ca, L, xs) x0 q0 q2 q4 q6 q8 q10 q12 q14 q15 q17 q19 q21 q23 q25 r1 r3 r5 r7 r9 r11 r13 r16 r18 r20 r22 r24 r26 n10.symm n20.symm n11000.symm n11002.symm n11003.symm n11005.symm n11006.symm n11011.symm n11012.symm n11014.symm n11015.symm n12000.symm n12002.symm n12003.symm n12005.symm n12006.symm n12011.symm n12012.symm n12014.symm n12015.symm n13000.symm n13002.symm n13003.symm n13005.symm n13006.symm n13011.symm n13012.symm n13014.symm n13015.symm n1000.symm n1009.symm n1020.symm n1022.symm n1023.symm n1003.symm n1004.symm n1005.symm n1010.symm n1011.symm n1045.symm n1053.symm n1054.symm n1061.symm n1069.symm n1070.symm n1077.symm n1085.symm n1086.symm n1093.symm n1101.symm n1102.symm n1109.symm n1117.symm n1118.symm n1125.symm n1133.symm n1134.symm n1141.symm n1149.symm n1150.symm n1157.symm n1165.symm n1166.symm n2000.symm n2009.symm n2020.symm n2022.symm n2023.symm n2003.symm n2004.symm n2005.symm n2010.symm n2011.symm n2045.symm n2053.symm n2054.symm n2061.symm n2069.symm n2070.symm n2077.symm n2085.symm n2086.symm n2093.symm n2101.symm n2102.symm n2109.symm n2117.symm n2118.symm n2125.symm n2133.symm n2134.symm n2141.symm n2149.symm n2150.symm n2157.symm n2165.symm n2166.symm n210.symm n212.symm n214.symm n215.symm n216.symm n310.symm n312.symm n313.symm n56.symm n59.symm n72.symm n75.symm n88.symm n91.symm n104.symm n107.symm n120.symm n123.symm n136.symm n139.symm)
  · exact e9.trans (@w9_ok (l, (dC, dI), ad, ca, L, xs) y0 p0 p1 p2 p3 p4 p5 p6 p7 p8 p9 p10 p11 p12 p13 p14 p15 p16 p17 p18 p19 p20 p21 p22 p23 p24 p25 p26 p27 p28 p29 p30 p31 p32 p33 p34 p35 p36 p37 p38 p39 p40 p41 p42 p43 p44 p45 p47 rp n20000.symm n20003.symm n20004.symm n20005.symm n20006.symm n20012.symm n20013.symm n20014.symm n20015.symm n20017.symm n20018.symm n20020.symm n20021.symm n20022.symm n20025.symm n20026.symm n20027.symm n20028.symm n20029.symm n20034.symm n20035.symm n20036.symm n20037.symm n20038.symm n20039.symm n20040.symm n20041.symm n20042.symm n20043.symm n20044.symm n20045.symm n20046.symm n20053.symm n20054.symm n20055.symm n20057.symm n20058.symm n20059.symm n20060.symm n20061.symm n20062.symm n20063.symm n20064.symm n20065.symm n20066.symm n20067.symm n20068.symm n20104.symm n20120.symm n20136.symm n20152.symm n20168.symm n20184.symm n20069.symm)
set_option maxHeartbeats 4000000 in
theorem st_fin (hbody : ∀ (X : XC) (d : Nat) (Post : Option XV → Mem → Prop) (M : Mem), X.2.2.2.2.1 ≤ 3072 → (∀ M, Post (some (XI 1)) M) → INV M → Go X mL_law (d + 9) 16 [(2, XR 20000), (1, XR 10), (0, XR 5)] [] M Post) {p : Program} {e : Env} {s : State} {m : MethodId} {below : List Frame} {meth : Method} {c : Code} (l : Launch) {b L : Nat} {xs : Nat → Int32} (hL : L ≤ 3072) (C0 : lw_At p s m meth c b L xs) {dC : Nat → ClassId} {dI : Nat → Nat → Nat} {ca : Nat → ClassId} (hK : va_K (dC, dI) vwCl (ctys ca) s) {x0 y0 : Nat} {w8 w9 : va_W} (h8 : ∃ (q0 q2 q4 q6 q8 q10 q12 q14 q15 q17 q19 q21 q23 q25 : Nat) (r1 r3 r5 r7 r9 r11 r13 r16 r18 r20 r22 r24 r26 : Nat → Nat → Nat), w8 = wX8_init ca x0 q0 q2 q4 q6 q8 q10 q12 q14 q15 q17 q19 q21 q23 q25 r1 r3 r5 r7 r9 r11 r13 r16 r18 r20 r22 r24 r26) (h9 : ∃ (p0 p1 p2 p3 p4 p5 p6 p7 p8 p9 p10 p11 p12 p13 p14 p15 p16 p17 p18 p19 p20 p21 p22 p23 p24 p25 p26 p27 p28 p29 p30 p31 p32 p33 p34 p35 p36 p37 p38 p39 p40 p41 p42 p43 p44 p45 p47 : Nat) (rp : Nat → Nat), w9 = wX9_init ca y0 p0 p1 p2 p3 p4 p5 p6 p7 p8 p9 p10 p11 p12 p13 p14 p15 p16 p17 p18 p19 p20 p21 p22 p23 p24 p25 p26 p27 p28 p29 p30 p31 p32 p33 p34 p35 p36 p37 p38 p39 p40 p41 p42 p43 p44 p45 p47 rp) {H : Heap} {locs : List Loc} {ls : Array Slot} (hP : va_P (dC, dI) vwCl (w8 ++ w9) H) (hD : va_D (fun q : Nat => s.heap.size ≤ q) (w8 ++ w9)) (hS : va_S (fun q : Nat => s.heap.size ≤ q) s.heap H locs) (hl : lv_has ls 4 [(2, .ref y0), (1, .ref x0), (0, .ref b)]) {k j : Nat} (hk : k ≤ 600000) (hj : j ≤ 7302250) : W p l e room_1 s m #[Value.ref b] below meth c H locs k j (lw_Z below #[Value.ref b] s) (F0 m 16 ls []) := by
  obtain ⟨hx, hb, hr, hml, hown, hts, hX, hbl, hlocks, hgv⟩ := id C0
  have hb2 : c.code = cL_law := hb
  have htx : ∀ w ∈ xtbl, w.before #[Value.ref b] s = true := fun w hw => hts w (List.mem_filter.mp hw).1
  obtain ⟨t, hZ, hT⟩ := st_Z hts hgv
  refine va_forget (fun q hq => hS.2.2 q hq) ?_
  obtain ⟨ad, n5, n7, n10, n20, e8, e9⟩ := st_ad l dC dI ca L xs b t x0 y0 h8 h9
  rw [e8, e9, ← List.map_append] at hP hD
  have at9 : ∀ i, i ∈ xcells → ∃ a : Nat, (L8 ++ L9)[a]? = some i ∧ ((L8 ++ L9).map (cellM (l, (dC, dI), ad, ca, L, xs)))[a]? = some (cellM (l, (dC, dI), ad, ca, L, xs) i) := fun i hi => by
    obtain ⟨a, ha⟩ := List.getElem?_of_mem (L89_in i hi)
    exact ⟨a, ha, by rw [List.getElem?_map, ha]; rfl⟩
  have hXA : ∀ i, i ∈ xcells → s.heap.size ≤ ad i := fun i hi => by
    obtain ⟨a, ha, ha2⟩ := at9 i hi
    exact hD.2 a _ ha2
  have hInj : XInj (l, (dC, dI), ad, ca, L, xs) := fun i j hi hj hij => by
    obtain ⟨a, ha, ha2⟩ := at9 i hi
    obtain ⟨a', hb, hb2⟩ := at9 j hj
    have h := hD.1 a a' _ _ ha2 hb2 hij
    rw [h, hb] at ha
    exact (Option.some.inj ha).symm
  have hPw : va_P (dC, dI) vwCl (wsM (l, (dC, dI), ad, ca, L, xs) M0) H := fun k q hk => by
    unfold wsM at hk
    rw [List.getElem?_map] at hk
    obtain ⟨i, hi, rfl⟩ := Option.map_eq_some_iff.mp hk
    obtain ⟨a, ha, ha2⟩ := at9 i (List.mem_of_getElem? hi)
    exact hP a _ ha2
  have hXA2 : ∀ q, XA (l, (dC, dI), ad, ca, L, xs) q → s.heap.size ≤ q := fun q hq => by
    obtain ⟨i, hi, rfl⟩ := hq
    exact hXA i hi
  have hSt : XSt (l, (dC, dI), ad, ca, L, xs) s s.heap := by
    refine ⟨?_, ?_, ?_, ?_, ?_⟩
    · show va_Z "KeepCount" "PLACES" "[I" (.ref (ad 7)) _ s s.heap
      rw [n7]; exact hZ.narrow hXA2
    · show va_T .int (ad 7) 8 _ _ s s.heap
      rw [n7]; exact hT.narrow hXA2
    · show va_X (ad 5) L xs s s.heap
      rw [n5]; exact hX
    · show ad 5 < s.heap.size
      rw [n5]; exact hbl
    · show ¬ XA _ (ad 5)
      rw [n5]; exact fun h => Nat.lt_irrefl _ (Nat.lt_of_lt_of_le hbl (hXA2 b h))
  have hl : lv_has ls 4 (xls (l, (dC, dI), ad, ca, L, xs) [(2, XR 20000), (1, XR 10), (0, XR 5)]) := by
    show lv_has ls 4 [(2, .ref (ad 20000)), (1, .ref (ad 10)), (0, .ref (ad 5))]
    rw [n5, n10, n20]; exact hl
  refine hbody (l, (dC, dI), ad, ca, L, xs) 0 (fun r _ => r = some (XI 1)) M0 hL (fun _ => rfl) INV0 (fun q hq => ?_) (fun v hv => by cases hv) M0_MR p e room_1 s m _ below meth c _ _ _ H [] ls ⟨hx, hb2, hml, hown, htx, hK, hInj, hSt, Nat.le_of_ble_eq_true rfl, Nat.le_of_ble_eq_true rfl, hk, hj⟩ ⟨hPw, hS.1, fun q h1 _ => hS.2.1 q h1 (fun h => Nat.lt_irrefl _ (Nat.lt_of_lt_of_le h1 h)), fun _ h => by cases h⟩ hl (fun r M' H' locs' pc' lsA' hp hret hro hMR F => ?_)
  · rcases List.mem_cons.mp hq with rfl | hq
    · exact True.intro
    · rcases List.mem_cons.mp hq with rfl | hq
      · exact True.intro
      · rcases List.mem_cons.mp hq with rfl | hq
        · exact True.intro
        · cases hq
  · have hp : r = some (XI 1) := hp
    subst hp
    refine va_forget (fun q hq => hXA2 _ (F.2.2.2 q hq)) ?_
    refine W.widen (k := 600000) (n := 7302250) hk hj ?_
    exact lw_ret hx hb hr hlocks hret.1
set_option maxRecDepth 100000 in
set_option maxHeartbeats 4000000 in
/-- from the entry, for every script of at most 3072 ints, the law comes to its end with true -/
theorem whole_start0 (hbody : ∀ (X : XC) (d : Nat) (Post : Option XV → Mem → Prop) (M : Mem), X.2.2.2.2.1 ≤ 3072 → (∀ M, Post (some (XI 1)) M) → INV M → Go X mL_law (d + 9) 16 [(2, XR 20000), (1, XR 10), (0, XR 5)] [] M Post) {p : Program} {e : Env} {s : State} {m : MethodId} {below : List Frame} {meth : Method} {c : Code} (l : Launch) (hflags : l.flags = flags0) {b L : Nat} {xs : Nat → Int32} (hL : L ≤ 3072) (C0 : lw_At p s m meth c b L xs) : W p l e room_1 s m #[Value.ref b] below meth c s.heap [] 0 0 (lw_Z below #[Value.ref b] s) (entryFrame m ([Value.ref b] : List Value).toArray 4) := by
  obtain ⟨hx, hb, hr, hml, hown, hts, hX, hbl, hlocks, hgv⟩ := id C0
  have hb2 : c.code = cL_law := hb
  have htx : ∀ w ∈ xtbl, w.before #[Value.ref b] s = true := fun w hw => hts w (List.mem_filter.mp hw).1
  have hA : ∀ q : Nat, s.heap.size ≤ q → (fun q : Nat => s.heap.size ≤ q) q := fun _ h => h
  obtain ⟨dC, dI, ca, hK, hAO⟩ := st_K hts
  have hS : va_S (fun q : Nat => s.heap.size ≤ q) s.heap s.heap [] := va_S.rf
  have hP : va_P (dC, dI) vwCl [] s.heap := fun k q h => by simp at h
  have hD : va_D (fun q : Nat => s.heap.size ≤ q) [] := ⟨fun i j p q h => by simp at h, fun k q h => by simp at h⟩
  have hl := lv_entry ([.ref b]) (n := 4) (Nat.le_of_ble_eq_true rfl)
  rw [lg_entry_eq]
  generalize (lg_sl ([.ref b]) ++ List.replicate (4 - (lg_sl ([.ref b])).length) Slot.unset).toArray = ls at hl ⊢
  have hl : lv_has ls 4 [(0, .ref b)] := hl
  refine va_new (ci := 7) (fs := bl7) (C := RX8) (T := TX8) (N := 10) hx hb2 htx (x_ps inX8 gdX8) tyX8 tyX8_ok hown (htx _ (at_x 82 rfl rfl)) (htx _ (at_x 83 rfl rfl)) (htx _ (at_x 69 rfl rfl)) hK hP hD hS hA rfl bl7_ok (Nat.le_of_ble_eq_true rfl) (Nat.le_of_ble_eq_true rfl) dL_law_0 (fun x0 H hP hD hS => ?_)
  have hP : va_P (dC, dI) vwCl [(x0, .inr (7, bl7))] H := hP
  have hD : va_D (fun q : Nat => s.heap.size ≤ q) [(x0, .inr (7, bl7))] := hD
  refine lv_dup hx hb2 dL_law_3 rfl ?_
  refine gcallW (Y := mL_law) (Y' := mX8_init) (d := 3) (G := (l, (dC, dI), ca)) (q0 := 0) (wr := []) (as := []) (n := 0) (st := [.ref x0]) hx hb2 hml hown htx hK hAO hA (Nat.le_of_ble_eq_true rfl) (Nat.le_of_ble_eq_true rfl) (Nat.le_of_ble_eq_true rfl) (Nat.le_of_ble_eq_true rfl) hP hD hS hl.1 dL_law_4 (at_x 84 rfl rfl) mcX8_init rfl (Nat.le_of_ble_eq_true rfl) (gkX8_init (d := 0)) rfl [] rfl rfl (by simp) rfl (fun w8 H locs hw8 hP hD hS => ?_)
  have hP : va_P (dC, dI) vwCl w8 H := hP
  have hD : va_D (fun q : Nat => s.heap.size ≤ q) w8 := hD
  refine lv_astore_n (lv' := [(1, .ref x0), (0, .ref b)]) hx hb2 dL_law_7 rfl hl (by decide) rfl (fun ls hl => ?_)
  refine va_new (ci := 8) (fs := bl8) (C := RX9) (T := TX9) (N := 69) hx hb2 htx (x_ps inX9 gdX9) tyX9 tyX9_ok hown (htx _ (at_x 840 rfl rfl)) (htx _ (at_x 841 rfl rfl)) (htx _ (at_x 77 rfl rfl)) hK hP hD hS hA rfl bl8_ok (Nat.le_of_ble_eq_true rfl) (Nat.le_of_ble_eq_true rfl) dL_law_8 (fun y0 H hP hD hS => ?_)
  refine lv_dup hx hb2 dL_law_11 rfl ?_
  refine gcallW (Y := mL_law) (Y' := mX9_init) (d := 1) (G := (l, (dC, dI), ca)) (q0 := w8.length) (wr := w8) (as := []) (n := 0) (st := [.ref y0]) hx hb2 hml hown htx hK hAO hA (Nat.le_of_ble_eq_true rfl) (Nat.le_of_ble_eq_true rfl) (Nat.le_of_ble_eq_true rfl) (Nat.le_of_ble_eq_true rfl) hP hD hS hl.1 dL_law_12 (at_x 842 rfl rfl) mcX9_init rfl (Nat.le_of_ble_eq_true rfl) (gkX9_init (d := 0)) (by rw [List.getElem?_append_right (Nat.le_refl _), Nat.sub_self]; rfl) (List.range w8.length) (range_get w8 _) (by rw [List.range_eq_range']; exact nd_range' _ _) (fun h => Nat.lt_irrefl _ (List.mem_range.mp h)) rfl (fun w9 H locs hw9 hP hD hS => ?_)
  refine lv_astore_n (lv' := [(2, .ref y0), (1, .ref x0), (0, .ref b)]) hx hb2 dL_law_15 rfl hl (by decide) rfl (fun ls hl => ?_)
  exact st_fin hbody l hL C0 hK hw8 hw9 hP hD hS hl (Nat.le_of_ble_eq_true rfl) (Nat.le_of_ble_eq_true rfl)
end
