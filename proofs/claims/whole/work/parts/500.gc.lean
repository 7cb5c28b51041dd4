section
/-! constructors: worlds as lists of cells, addresses as they come -/
def AOs (U : State) : Prop := va_AO "KeepCount$Stage" U ∧ va_AO "KeepCount$Tape" U ∧ va_AOA .long U
def ctys (ca : Nat → ClassId) : List (ClassId × FieldType) := [(ca 0, .int), (ca 1, .long), (ca 2, .boolean), (ca 3, .object "KeepCount$Stage"), (ca 4, .object "KeepCount$Tape"), (ca 5, .array .long)]
abbrev GX : Type := Launch × va_G × (Nat → ClassId)
def CzCtx (G : GX) (Y : XY) (d nc ns : Nat) (p : Program) (R : Room) (s : State) (m : MethodId) (args : Array Value) (meth : Method) (c : Code) (A : Nat → Prop) : Prop :=
  p.tables.exec = Jvm.exec ∧ c.code = Y.2.1 ∧ c.maxLocals = Y.2.2.1 ∧ s.vm.findClass Y.1.cls = some m.cls ∧ (∀ w ∈ xtbl, w.before args s = true) ∧ va_K G.2.1 vwCl (ctys G.2.2) s ∧ AOs s ∧ meth.name = "<init>" ∧ (∀ q, s.heap.size ≤ q → A q) ∧ d ≤ R.frames ∧ 37 * d ≤ R.locals ∧ nc ≤ R.cells ∧ ns ≤ R.slots
def GC (G : GX) (Y : XY) (d nc ns pc : Nat) (ls : List (Nat × Value)) (st : List Value) (ws : va_W) (k j : Nat) (Post : va_W → Prop) : Prop :=
  ∀ (p : Program) (e : Env) (R : Room) (s : State) (m : MethodId) (args : Array Value) (below : List Frame) (meth : Method) (c : Code) (Q : State → Prop) (H : Heap) (locs : List Loc) (lsA : Array Slot) (A : Nat → Prop),
    CzCtx G Y d nc ns p R s m args meth c A → va_P G.2.1 vwCl ws H → va_D A ws → va_S A s.heap H locs → lv_has lsA Y.2.2.1 ls →
    (∀ (ws' : va_W) (H' : Heap) (locs' : List Loc) (pc' : Nat) (lsA' : Array Slot), Post ws' → decode Y.2.1 pc' = .ok (.return_, 1) → va_P G.2.1 vwCl ws' H' → va_D A ws' → va_S A s.heap H' locs' → W p G.1 e R s m args below meth c H' locs' nc ns Q (F0 m pc' lsA' [])) →
    W p G.1 e R s m args below meth c H locs k j Q (F0 m pc lsA st)
variable {G : GX} {Y : XY} {d nc ns pc : Nat} {ls ls' : List (Nat × Value)} {st : List Value} {ws : va_W} {k j : Nat} {Post : va_W → Prop}
theorem gc_stp {pc' : Nat} {st' : List Value} (h : ∀ {p : Program} {e : Env} {R : Room} {s : State} {m : MethodId} {args : Array Value} {below : List Frame} {meth : Method} {c : Code} {Q : State → Prop} {H : Heap} {locs : List Loc} {lsA : Array Slot}, p.tables.exec = Jvm.exec → c.code = Y.2.1 → lv_has lsA Y.2.2.1 ls →
    W p G.1 e R s m args below meth c H locs k j Q (F0 m pc' lsA st') → W p G.1 e R s m args below meth c H locs k j Q (F0 m pc lsA st))
    (kk : GC G Y d nc ns pc' ls st' ws k j Post) : GC G Y d nc ns pc ls st ws k j Post := by
  intro p e R s m args below meth c Q H locs lsA A C hP hD hS hl K
  exact h C.1 C.2.1 hl (kk p e R s m args below meth c Q H locs lsA A C hP hD hS hl K)
theorem gc_pc {pc' : Nat} (h : pc = pc') (kk : GC G Y d nc ns pc' ls st ws k j Post) : GC G Y d nc ns pc ls st ws k j Post := by subst h; exact kk
theorem gc_iconst {n : Int} (hd : decode Y.2.1 pc = .ok (.iconst n, 1)) (kk : GC G Y d nc ns (pc + 1) ls (.int (Int32.ofInt n) :: st) ws k j Post) : GC G Y d nc ns pc ls st ws k j Post := gc_stp (fun hx hb _ q => lv_iconst hx hb hd rfl q) kk
theorem gc_bipush {n : Int} (hd : decode Y.2.1 pc = .ok (.bipush n, 2)) (h : (Int8.ofInt n).toInt32 = Int32.ofInt n) (kk : GC G Y d nc ns (pc + 2) ls (.int (Int32.ofInt n) :: st) ws k j Post) : GC G Y d nc ns pc ls st ws k j Post := gc_stp (fun hx hb _ q => lv_bipush hx hb hd h q) kk
theorem gc_sipush {n : Int} (hd : decode Y.2.1 pc = .ok (.sipush n, 3)) (h : (Int16.ofInt n).toInt32 = Int32.ofInt n) (kk : GC G Y d nc ns (pc + 3) ls (.int (Int32.ofInt n) :: st) ws k j Post) : GC G Y d nc ns pc ls st ws k j Post := gc_stp (fun hx hb _ q => lv_sipush hx hb hd h q) kk
theorem gc_lconst {n : Fin 2} (v : Int) (hd : decode Y.2.1 pc = .ok (.lconst n, 1)) (h : Int64.ofNat n.val = Int64.ofInt v) (kk : GC G Y d nc ns (pc + 1) ls (.long (Int64.ofInt v) :: st) ws k j Post) : GC G Y d nc ns pc ls st ws k j Post := gc_stp (fun hx hb _ q => lv_lconst hx hb hd h q) kk
theorem gc_aload_n {n : Fin 4} {a : Nat} (i : Nat) (hd : decode Y.2.1 pc = .ok (.aload_n n, 1)) (h : ls[i]? = some (n.val, .ref a)) (kk : GC G Y d nc ns (pc + 1) ls (.ref a :: st) ws k j Post) : GC G Y d nc ns pc ls st ws k j Post := gc_stp (fun hx hb hl q => lv_aload_n hx hb hd rfl (lv_at hl i h) q) kk
theorem gc_iload_n {n : Fin 4} {a : Int32} (i : Nat) (hd : decode Y.2.1 pc = .ok (.iload_n n, 1)) (h : ls[i]? = some (n.val, .int a)) (kk : GC G Y d nc ns (pc + 1) ls (.int a :: st) ws k j Post) : GC G Y d nc ns pc ls st ws k j Post := gc_stp (fun hx hb hl q => lv_iload_n hx hb hd rfl (lv_at hl i h) q) kk
theorem gc_dup {a : Nat} (hd : decode Y.2.1 pc = .ok (.dup, 1)) (kk : GC G Y d nc ns (pc + 1) ls (.ref a :: .ref a :: st) ws k j Post) : GC G Y d nc ns pc ls (.ref a :: st) ws k j Post := gc_stp (fun hx hb _ q => lv_dup hx hb hd rfl q) kk
theorem gc_goto {off : Int} {tgt : Nat} (hd : decode Y.2.1 pc = .ok (.goto off, 3)) (ht : (pc : Int) + off = (tgt : Int)) (kk : GC G Y d nc ns tgt ls st ws k j Post) : GC G Y d nc ns pc ls st ws k j Post := gc_stp (fun hx hb _ q => lv_goto hx hb hd ht q) kk
theorem gc_ge_t {off : Int} {tgt : Nat} {x y : Int32} (hd : decode Y.2.1 pc = .ok (.if_icmp .ge off, 3)) (ht : (pc : Int) + off = (tgt : Int)) (h : y ≤ x) (kk : GC G Y d nc ns tgt ls st ws k j Post) : GC G Y d nc ns pc ls (.int y :: .int x :: st) ws k j Post := gc_stp (fun hx hb _ q => lv_icmp_ge hx hb hd ht (fun _ => q) (fun z => absurd h z)) kk
theorem gc_ge_f {off : Int} {tgt : Nat} {x y : Int32} (hd : decode Y.2.1 pc = .ok (.if_icmp .ge off, 3)) (ht : (pc : Int) + off = (tgt : Int)) (h : ¬ y ≤ x) (kk : GC G Y d nc ns (pc + 3) ls st ws k j Post) : GC G Y d nc ns pc ls (.int y :: .int x :: st) ws k j Post := gc_stp (fun hx hb _ q => lv_icmp_ge hx hb hd ht (fun z => absurd z h) (fun _ => q)) kk
theorem gc_istore_n {n : Fin 4} {x : Int32} (hd : decode Y.2.1 pc = .ok (.istore_n n, 1)) (hn : n.val < Y.2.2.1) (hl : (n.val, Value.int x) :: ls.filter (fun q => !(q.1 == n.val) && !(q.1 + 1 == n.val && q.2.category == 2)) = ls') (kk : GC G Y d nc ns (pc + 1) ls' st ws k j Post) : GC G Y d nc ns pc ls (.int x :: st) ws k j Post := by
  intro p e R s m args below meth c Q H locs lsA A C hP hD hS hh K
  exact lv_istore_n C.1 C.2.1 hd rfl hh hn hl (fun lsA' hl' => kk p e R s m args below meth c Q H locs lsA' A C hP hD hS hl' K)
theorem gc_iinc {n i : Nat} {w : Int} {x v : Int32} (hd : decode Y.2.1 pc = .ok (.iinc n w, 3)) (hk : ls[i]? = some (n, .int x)) (hv : x + Int32.ofInt w = v) (hn : n < Y.2.2.1) (hl : (n, Value.int v) :: ls.filter (fun q => !(q.1 == n) && !(q.1 + 1 == n && q.2.category == 2)) = ls') (kk : GC G Y d nc ns (pc + 3) ls' st ws k j Post) : GC G Y d nc ns pc ls st ws k j Post := by
  intro p e R s m args below meth c Q H locs lsA A C hP hD hS hh K
  exact lv_iinc C.1 C.2.1 hd hh hk hv hn hl (fun lsA' hl' => kk p e R s m args below meth c Q H locs lsA' A C hP hD hS hl' K)
theorem gc_init {a idx : Nat} (hd : decode Y.2.1 pc = .ok (.invokespecial idx, 3)) (hw : Cond.methodLink Y.1.cls idx objectInit ∈ xtbl) (hst : (st.map fun v => v.category).sum ≤ 8) (h1 : 1 ≤ d) (kk : GC G Y d nc ns (pc + 3) ls st ws k j Post) : GC G Y d nc ns pc ls (.ref a :: st) ws k j Post := by
  intro p e R s m args below meth c Q H locs lsA A C hP hD hS hl K
  have k2 := kk p e R s m args below meth c Q H locs lsA A C hP hD hS hl K
  obtain ⟨hx, hb, hml, hown, hts, hK, hAO, hin, hA, hfr, hlo, hce, hsl⟩ := C
  refine W.objInit hx hb hown (hts _ hw) (hts (.instanceMethod objectInit) (at_x 88 rfl rfl)) (hts _ (at_x 89 rfl rfl)) rfl (by rw [hml]; exact hl.1) rfl hd (by omega) ?_ k2
  have := lv_room (m := m) (pc := pc) (ls := lsA) (rest := .ref a :: st) hst
  omega
theorem cty_un {ca : Nat → ClassId} {D : va_G} {s : State} {cA : ClassId} {ty : FieldType} {t0 : Nat} (hK : va_K D vwCl (ctys ca) s) (hK2 : va_K D vwCl (ctys ca ++ [(cA, ty)]) s) (ht : (ctys ca)[t0]? = some (ca t0, ty)) : cA = ca t0 := by
  have h1 := (hK.2 t0 _ ht).2
  have h2 := (hK2.2 6 (cA, ty) rfl).2
  cases ty with
  | object C =>
    obtain ⟨_, _, _, _, _, e1⟩ := h1
    obtain ⟨_, _, _, _, _, e2⟩ := h2
    exact Option.some.inj (e2.symm.trans e1)
  | _ => exact Option.some.inj (h2.symm.trans h1)
theorem gc_new {C : String} {T : u_T} {N ci idx : Nat} (fs : List Value) (hd : decode Y.2.1 pc = .ok (.new idx, 3)) (hin : ∀ w ∈ u_ws C T N, w ∈ xtbl) (ty : Nat → FieldType) (hty : ∀ k, k < N → parseFieldDescriptor (T k).2.2.1 = some (ty k)) (hcl : Cond.classLink Y.1.cls idx C ∈ xtbl) (hinst : Cond.instantiable C N ∈ xtbl) (hini : Cond.initialized C ∈ xtbl) (hc : vwCl[ci]? = some (C, T, N)) (hfs : ∀ j, j < N → defaultValue (ty j) = vp_V fs j) (h1 : k + 1 ≤ nc) (h2 : j + N ≤ ns)
    (kk : ∀ q, GC G Y d nc ns (pc + 3) ls (.ref q :: st) (ws ++ [(q, .inr (ci, fs))]) (k + 1) (j + N) Post) : GC G Y d nc ns pc ls st ws k j Post := by
  intro p e R s m args below meth c Q H locs lsA A C hP hD hS hl K
  obtain ⟨hx, hb, hml, hown, hts, hK, hAO, hini', hA, hfr, hlo, hce, hsl⟩ := id C
  exact va_new hx hb hts hin ty hty hown (hts _ hcl) (hts _ hinst) (hts _ hini) hK hP hD hS hA hc hfs (by omega) (by omega) hd (fun q H1 a1 a2 a3 => kk q p e R s m args below meth c Q H1 locs lsA A C a1 a2 a3 hl K)
theorem gc_newa {atype : ArrayType} {ty : FieldType} {t0 N' : Nat} {n : Int32} (a0 : vp_A) (hd : decode Y.2.1 pc = .ok (.newarray atype, 2)) (hw : Cond.arrayClass (Jvm.Op.newarray.typeOf atype) ∈ xtbl) (hty : Jvm.Op.newarray.typeOf atype = ty) (ht : ∀ ca : Nat → ClassId, (ctys ca)[t0]? = some (ca t0, ty)) (ha : ∀ cA : ClassId, vp_cell cA a0 = arrV cA N' (fun _ => defaultValue ty)) (hn : ¬ n < 0) (hN : n.toNatClampNeg = N') (hb' : N' * componentBytes ty ≤ 536870912) (h1 : k + 1 ≤ nc) (h2 : j + N' ≤ ns)
    (kk : ∀ q, GC G Y d nc ns (pc + 2) ls (.ref q :: st) (ws ++ [(q, .inl (G.2.2 t0, a0))]) (k + 1) (j + N') Post) : GC G Y d nc ns pc ls (.int n :: st) ws k j Post := by
  intro p e R s m args below meth c Q H locs lsA A C hP hD hS hl K
  obtain ⟨hx, hb, hml, hown, hts, hK, hAO, hini', hA, hfr, hlo, hce, hsl⟩ := id C
  refine va_newa hx hb (hts _ hw) hty hK hP hD hS hA ha hn hN hb' (by omega) (by omega) hd (fun q cA H1 a0' a1 a2 a3 => ?_)
  have e9 := cty_un hK a0' (ht G.2.2)
  rw [e9] at a1 a2
  exact kk q p e R s m args below meth c Q H1 locs lsA A C a1 a2 a3 hl K
theorem gc_anew {C : String} {t0 N' idx : Nat} {n : Int32} (hd : decode Y.2.1 pc = .ok (.anewarray idx, 3)) (hcl : Cond.classLink Y.1.cls idx C ∈ xtbl) (hAO : ∀ s, AOs s → va_AO C s) (ht : ∀ ca : Nat → ClassId, (ctys ca)[t0]? = some (ca t0, .object C)) (hn : ¬ n < 0) (hN : n.toNatClampNeg = N') (hb' : N' * 4 ≤ 536870912) (h1 : k + 1 ≤ nc) (h2 : j + N' ≤ ns)
    (kk : ∀ q, GC G Y d nc ns (pc + 3) ls (.ref q :: st) (ws ++ [(q, .inl (G.2.2 t0, N', .inr (.inr (.inr (.inr (fun _ => none))))))]) (k + 1) (j + N') Post) : GC G Y d nc ns pc ls (.int n :: st) ws k j Post := by
  intro p e R s m args below meth c Q H locs lsA A C' hP hD hS hl K
  obtain ⟨hx, hb, hml, hown, hts, hK, hAO', hini', hA, hfr, hlo, hce, hsl⟩ := id C'
  refine va_newq hx hb hown (hts _ hcl) (hAO s hAO') hK hP hD hS hA hn hN hb' (by omega) (by omega) hd (fun q cA H1 a0' a1 a2 a3 => ?_)
  have e9 := cty_un hK a0' (ht G.2.2)
  rw [e9] at a1 a2
  exact kk q p e R s m args below meth c Q H1 locs lsA A C' a1 a2 a3 hl K
/-- a field of the method's own class, to be written -/
def FC (own : String) (idx ci k : Nat) (ty : FieldType) (fin : Bool) : Prop := ∃ (T : u_T) (N : Nat) (ty0 : Nat → FieldType), vwCl[ci]? = some (own, T, N) ∧ k < N ∧ (∀ w ∈ u_ws own T N, w ∈ xtbl) ∧ (∀ k, k < N → parseFieldDescriptor (T k).2.2.1 = some (ty0 k)) ∧ (∀ a, a < N → ∀ b, b < N → a ≠ b → (T a).2.1 ≠ (T b).2.1) ∧ Cond.fieldLink own idx own (T k).2.1 (T k).2.2.1 ∈ xtbl ∧ (T k).1 = own ∧ (T k).2.2.2 = fin ∧ parseFieldDescriptor (T k).2.2.1 = some ty
theorem gc_put {idx ci kf a q0 : Nat} {ty : FieldType} {fin : Bool} {v : Value} {fs : List Value} {ws' : va_W} (hd : decode Y.2.1 pc = .ok (.putfield idx, 3)) (hf : FC Y.1.cls idx ci kf ty fin) (he : ws[q0]? = some (a, .inr (ci, fs))) (hn : narrow ty v = v) (hfit : fits ty v = true) (hl' : kf < fs.length) (hws : ws.set q0 (a, .inr (ci, fs.set kf v)) = ws')
    (kk : GC G Y d nc ns (pc + 3) ls st ws' k j Post) : GC G Y d nc ns pc ls (v :: .ref a :: st) ws k j Post := by
  subst hws
  intro p e R s m args below meth c Q H locs lsA A C hP hD hS hl K
  obtain ⟨hx, hb, hml, hown, hts, hK, hAO, hini', hA, hfr, hlo, hce, hsl⟩ := id C
  obtain ⟨T, N, ty0, hc, hkN, hin, hty0, hnm, hlk, hdc, hfi, hpd⟩ := hf
  cases fin with
  | false => exact va_put hx hb hts hin ty0 hty0 hnm hown hK hP hD hS q0 he hc kf hkN (hts _ hlk) (fun x h => by rw [hdc] at h; exact h) hfi hpd hn hfit hl' hd (fun H1 locs1 a1 a2 a3 => kk p e R s m args below meth c Q H1 locs1 lsA A C a1 a2 a3 hl K)
  | true => exact va_putF hx hb hts hin ty0 hty0 hnm hown hK hP hD hS q0 he hc kf hkN (hts _ hlk) (fun x h => by rw [hdc] at h; exact h) hfi hini' hdc hpd hn hfit hl' hd (fun H1 locs1 a1 a2 a3 => kk p e R s m args below meth c Q H1 locs1 lsA A C a1 a2 a3 hl K)
theorem gc_get {idx ci kf a q0 : Nat} {ty : FieldType} {fin : Bool} {v : Value} {fs : List Value} (hd : decode Y.2.1 pc = .ok (.getfield idx, 3)) (hf : FC Y.1.cls idx ci kf ty fin) (he : ws[q0]? = some (a, .inr (ci, fs))) (hv : fs[kf]? = some v) (kk : GC G Y d nc ns (pc + 3) ls (v :: st) ws k j Post) : GC G Y d nc ns pc ls (.ref a :: st) ws k j Post := by
  intro p e R s m args below meth c Q H locs lsA A C hP hD hS hl K
  have k2 := kk p e R s m args below meth c Q H locs lsA A C hP hD hS hl K
  obtain ⟨hx, hb, hml, hown, hts, hK, hAO, hini', hA, hfr, hlo, hce, hsl⟩ := id C
  obtain ⟨T, N, ty0, hc, hkN, hin, hty0, hnm, hlk, hdc, hfi, hpd⟩ := hf
  exact va_get hx hb hts hin hown hK hP q0 he hc kf hkN (hts _ hlk) (fun x h => by rw [hdc] at h; exact h) hv hd k2
theorem gc_alen {a q0 t0 : Nat} {x : vp_A} {ty : FieldType} {v : Int32} (hd : decode Y.2.1 pc = .ok (.arraylength, 1)) (he : ws[q0]? = some (a, .inl (G.2.2 t0, x))) (ht : ∀ ca : Nat → ClassId, (ctys ca)[t0]? = some (ca t0, ty)) (hv : Int32.ofNat x.1 = v) (kk : GC G Y d nc ns (pc + 1) ls (.int v :: st) ws k j Post) : GC G Y d nc ns pc ls (.ref a :: st) ws k j Post := by
  intro p e R s m args below meth c Q H locs lsA A C hP hD hS hl K
  have k2 := kk p e R s m args below meth c Q H locs lsA A C hP hD hS hl K
  exact va_alen C.1 C.2.1 C.2.2.2.2.2.1 hP q0 t0 he (ht G.2.2) hv hd k2
theorem gc_aast {a q0 qk t0 ci v n : Nat} {r : vw_C} {f : Nat → Option Nat} {vs : List Value} {i : Int32} {ws' : va_W} (hd : decode Y.2.1 pc = .ok (.aastore, 1)) (he : ws[q0]? = some (a, .inl (G.2.2 t0, n, .inr (.inr (.inr (.inr f)))))) (ht : ∀ ca : Nat → ClassId, (ctys ca)[t0]? = some (ca t0, .object r.1)) (hv : ws[qk]? = some (v, .inr (ci, vs))) (hc : vwCl[ci]? = some r) (hin : vp_in i n) (hws : ws.set q0 (a, .inl (G.2.2 t0, n, .inr (.inr (.inr (.inr (va_up f i.toNatClampNeg (some v))))))) = ws')
    (kk : GC G Y d nc ns (pc + 1) ls st ws' k j Post) : GC G Y d nc ns pc ls (.ref v :: .int i :: .ref a :: st) ws k j Post := by
  subst hws
  intro p e R s m args below meth c Q H locs lsA A C hP hD hS hl K
  exact va_astq C.1 C.2.1 C.2.2.2.2.2.1 hP hD hS q0 t0 qk ci he (ht G.2.2) hv hc hin hd (fun H1 locs1 a1 a2 a3 => kk p e R s m args below meth c Q H1 locs1 lsA A C a1 a2 a3 hl K)
theorem gc_iast {a q0 n : Nat} {f : Nat → Int32} {i x : Int32} {ws' : va_W} (hd : decode Y.2.1 pc = .ok (.iastore, 1)) (he : ws[q0]? = some (a, .inl (G.2.2 0, n, .inl f))) (hin : vp_in i n) (hws : ws.set q0 (a, .inl (G.2.2 0, n, .inl (upd f i.toNatClampNeg x))) = ws') (kk : GC G Y d nc ns (pc + 1) ls st ws' k j Post) : GC G Y d nc ns pc ls (.int x :: .int i :: .ref a :: st) ws k j Post := by
  subst hws
  intro p e R s m args below meth c Q H locs lsA A C hP hD hS hl K
  exact va_iast C.1 C.2.1 C.2.2.2.2.2.1 hP hD hS q0 0 he rfl hin hd (fun H1 locs1 a1 a2 a3 => kk p e R s m args below meth c Q H1 locs1 lsA A C a1 a2 a3 hl K)
theorem gc_ret (hd : decode Y.2.1 pc = .ok (.return_, 1)) (hk : k = nc) (hj : j = ns) (hp : Post ws) : GC G Y d nc ns pc ls [] ws k j Post := by
  subst hk; subst hj
  intro p e R s m args below meth c Q H locs lsA A C hP hD hS hl K
  exact K ws H locs pc lsA hp hd hP hD hS
theorem gc_perm {ws' : va_W} (is : List Nat) (hs : is.filterMap (fun i => ws[i]?) = ws') (hs2 : is.map (fun i => ws[i]?) = ws'.map some) (hn : va_nd is = true) (kk : GC G Y d nc ns pc ls st ws' k j Post) : GC G Y d nc ns pc ls st ws k j Post := by
  intro p e R s m args below meth c Q H locs lsA A C hP hD hS hl K
  exact kk p e R s m args below meth c Q H locs lsA A C (hP.sub is hs) (hD.sub is hn hs2) hS hl K
/-- a constructor's contract: on the cell h0 with e0 (and the arguments as), it ends with a world that Post tells -/
def CtG (G : GX) (Y : XY) (d nc ns : Nat) (as : List Value) (w0 : va_W) (Post : va_W → Prop) : Prop :=
  ∀ sz : Nat, Met G.1 Y.1 (xws Y) { frames := d, cells := nc, slots := ns, locals := 37 * d } (va_Pc as (fun U => U.heap.size = sz ∧ va_P G.2.1 vwCl w0 U.heap ∧ va_K G.2.1 vwCl (ctys G.2.2) U ∧ va_D (fun _ => True) w0 ∧ AOs U ∧ XNw U))
    (va_Qv Post (fun ws t => va_P G.2.1 vwCl ws t.heap ∧ va_D (va_A w0 sz) ws) (va_A w0 sz)) nc ns (va_A w0 sz)
theorem ctg_gc {as : List Value} {w0 : va_W} (hy : plainName Y.1.cls = true) (hr : Y.2.2.2 = none) (hi : Y.1.name = "<init>") (hn : (lg_sl as).length ≤ Y.2.2.1) (hl0 : lv_args 0 as = ls) (kk : GC G Y d nc ns 0 ls [] w0 0 0 Post) : CtG G Y d nc ns as w0 Post := by
  subst hl0
  intro sz
  refine Met.ofW (cc := Y.2.1) (maxL := Y.2.2.1) (ret := Y.2.2.2) hy rfl ?_
  intro p e s m args below meth c s₁ B hml hv
  obtain ⟨rfl, hsz, hP, hK, hD0, hAO, hNw⟩ := hv
  have hts0 := atoms_spec (ws := xws Y) B.pre
  have hts : ∀ w ∈ xtbl, w.before as.toArray s = true := hNw.all (fun w h => hts0 w (List.mem_cons_of_mem _ h))
  have hrr := B.returns
  have hlocks := B.notSynchronized
  have hin : meth.name = "<init>" := (name_of_methodNamed B.named B.method).1.trans hi
  subst hsz
  have hD := hD0.self (sz := s.heap.size)
  rw [lg_entry_eq]
  have hl := lv_entry as (n := Y.2.2.1) hn
  refine kk p e _ s m _ below meth c _ s.heap [] _ (va_A w0 s.heap.size) ⟨B.exec, B.bytes, hml, findClass_of_methodNamed B.named, hts, hK, hAO, hin, fun q h => Or.inr h, Nat.le_refl _, Nat.le_refl _, Nat.le_refl _, Nat.le_refl _⟩ hP hD va_S.rf hl ?_
  intro ws' H' locs' pc' lsA' hp hret hP' hD' hS'
  exact W.vret B.exec B.bytes (hrr.trans hr) (fun t ht hW => ⟨⟨ws', rfl, hp, by rw [ht]; exact hP', hD'⟩, hS'.F ht⟩) hS'.2.2 hret
theorem AOs.moved {u U : State} (hvm : u.vm.Alike U.vm) (h : AOs u) : AOs U := ⟨h.1.moved hvm, h.2.1.moved hvm, h.2.2.moved hvm⟩
def MC (Y' : XY) (n : Nat) : Prop := Cond.code Y'.1 Y'.2.1 Y'.2.2.1 Y'.2.2.2 ∈ xtbl ∧ Cond.initialized Y'.1.cls ∈ xtbl ∧ Cond.instanceMethod Y'.1 ∈ xtbl ∧ (Y'.1.cls ≠ "java/lang/invoke/MethodHandle" ∧ Y'.1.cls ≠ "java/lang/invoke/VarHandle" ∧ (parseMethodDescriptor Y'.1.desc).map (fun d => d.parameters.length) = some n) ∧ Y'.2.2.1 ≤ 18 ∧ Y'.1.name = "<init>" ∧ Y'.2.2.2 = none
theorem blindG (G : GX) (as : List Value) (w0 : va_W) (sz : Nat) : FrameBlind (va_Pc as (fun U => U.heap.size = sz ∧ va_P G.2.1 vwCl w0 U.heap ∧ va_K G.2.1 vwCl (ctys G.2.2) U ∧ va_D (fun _ => True) w0 ∧ AOs U ∧ XNw U)) := fun a U g mk q => ⟨q.1, q.2.1, q.2.2.1, va_K.moved (u := U) (U := U.calling g mk a) (Vm.Alike.refl U.vm) q.2.2.2.1, q.2.2.2.2.1, AOs.moved (u := U) (U := U.calling g mk a) (Vm.Alike.refl U.vm) q.2.2.2.2.2.1, XNw.same (u := U) (U := U.calling g mk a) rfl q.2.2.2.2.2.2⟩
/-- the call of a constructor, over a caller's own W -/
theorem gcallW {G : GX} {Y : XY} {Y' : XY} {d nc' ns' n idx pc h0 q0 k j : Nat} {as st : List Value} {e0 : va_E} {ws wr : va_W} {Post' : va_W → Prop} {p : Program} {e : Env} {R : Room} {s : State} {m : MethodId} {args : Array Value} {below : List Frame} {meth : Method} {c : Code} {Q : State → Prop} {H : Heap} {locs : List Loc} {lsA : Array Slot} {A : Nat → Prop}
    (hx : p.tables.exec = Jvm.exec) (hb : c.code = Y.2.1) (hml : c.maxLocals = Y.2.2.1) (hown : s.vm.findClass Y.1.cls = some m.cls) (hts : ∀ w ∈ xtbl, w.before args s = true) (hK : va_K G.2.1 vwCl (ctys G.2.2) s) (hAO : AOs s) (hA : ∀ q, s.heap.size ≤ q → A q) (hfr : d + 1 ≤ R.frames) (hlo : 37 * (d + 1) ≤ R.locals) (hce : k + nc' ≤ R.cells) (hsl : j + ns' ≤ R.slots)
    (hP : va_P G.2.1 vwCl ws H) (hD : va_D A ws) (hS : va_S A s.heap H locs) (hls : lsA.size = Y.2.2.1)
    (hd : decode Y.2.1 pc = .ok (.invokespecial idx, 3)) (hw : Cond.methodLink Y.1.cls idx Y'.1 ∈ xtbl) (hm : MC Y' n) (hn : as.length = n) (hst : (st.map fun v => v.category).sum ≤ 8) (hct : CtG G Y' d nc' ns' (.ref h0 :: as) [(h0, e0)] Post') (he : ws[q0]? = some (h0, e0)) (isR : List Nat) (hR : isR.map (fun i => ws[i]?) = wr.map some) (hnd : va_nd isR = true) (hdis : q0 ∉ isR) {st0 : List Value} (hs0 : st0 = as.reverse ++ .ref h0 :: st)
    (kk : ∀ (ws1 : va_W) (H1 : Heap) (locs1 : List Loc), Post' ws1 → va_P G.2.1 vwCl (wr ++ ws1) H1 → va_D A (wr ++ ws1) → va_S A s.heap H1 locs1 → W p G.1 e R s m args below meth c H1 locs1 (k + nc') (j + ns') Q (F0 m (pc + 3) lsA st)) : W p G.1 e R s m args below meth c H locs k j Q (F0 m pc lsA st0) := by
  subst hs0
  have hC : [q0].map (fun i => ws[i]?) = ([(h0, e0)] : va_W).map some := by rw [List.map_cons, he]; rfl
  have hPc := hP.sub (ws' := [(h0, e0)]) [q0] (by simp [he])
  have hDc := hD.sub (ws' := [(h0, e0)]) [q0] (by simp [va_nd]) hC
  have hFc := va_free (wc := [(h0, e0)]) hD hS hA [q0] hC
  have hG : GoodIn xtbl (xws Y') := goodY (ws := []) hm.1 (fun w hw' => by cases hw')
  have hret := hm.2.2.2.2.2.2
  have cw : CallB R s args Y.1.cls idx Y'.1 Y'.2.1 Y'.2.2.1 none (xws Y') { frames := d, cells := nc', slots := ns', locals := 37 * d } nc' ns' n ∧ Y'.1.name = "<init>" ∧ (Cond.instanceMethod Y'.1).before args s = true :=
    cwI (ws' := xgood) n hts hG (by show Cond.code Y'.1 Y'.2.1 Y'.2.2.1 Y'.2.2.2 :: xgood = _; rw [hret]) rfl rfl (hts _ hm.2.1) (hts _ hw) (hts _ hm.2.2.1) hm.2.2.2.2.2.1 hm.2.2.2.1 ⟨hfr, by have := hm.2.2.2.2.1; show 8 + (Y'.2.2.1 + 11) + 37 * d ≤ R.locals; omega⟩
  refine va_callv (va_runI (As := as) (rest := st) ⟨hx, hb, hml, hown, hts⟩ (hct H.size) cw
    ⟨blindG G _ _ _, fun U hU hW => ⟨rfl, by rw [hU], by rw [hU]; exact hPc, va_K.moved hW.alike hK, hDc.weaken (fun _ _ _ _ => trivial), hAO.moved hW.alike, (XNw.of hts).warm hW⟩⟩ rfl hn hls rfl (lv_room hst) hd ⟨hce, hsl⟩) hS (fun q _ h => hFc q h) hFc (fun u t H1 locs1 ht hvm hw' hB hz1 hk1 hS1 => ?_)
  obtain ⟨hP1, hD1⟩ := hB
  rw [ht] at hP1
  obtain ⟨hP2, hD2⟩ := va_join (wr := wr) (w1 := u) hP hD [q0] isR hC hR hnd (fun i hi z => by rw [List.mem_singleton] at z; rw [z] at hi; exact hdis hi) hk1 hFc hP1 hD1
  exact kk u H1 locs1 hw' hP2 hD2 hS1
theorem gc_call {Y' : XY} {nc' ns' n idx h0 q0 : Nat} {as : List Value} {e0 : va_E} {wr : va_W} {Post' : va_W → Prop} (hd : decode Y.2.1 pc = .ok (.invokespecial idx, 3)) (hw : Cond.methodLink Y.1.cls idx Y'.1 ∈ xtbl) (hm : MC Y' n) (hn : as.length = n) (hst : (st.map fun v => v.category).sum ≤ 8) (hct : CtG G Y' d nc' ns' (.ref h0 :: as) [(h0, e0)] Post') (he : ws[q0]? = some (h0, e0)) (isR : List Nat) (hR : isR.map (fun i => ws[i]?) = wr.map some) (hnd : va_nd isR = true) (hdis : q0 ∉ isR) (h1 : k + nc' ≤ nc) (h2 : j + ns' ≤ ns) {st0 : List Value} (hs0 : st0 = as.reverse ++ .ref h0 :: st)
    (kk : ∀ ws1, Post' ws1 → GC G Y (d + 1) nc ns (pc + 3) ls st (wr ++ ws1) (k + nc') (j + ns') Post) : GC G Y (d + 1) nc ns pc ls st0 ws k j Post := by
  intro p e R s m args below meth c Q H locs lsA A C hP hD hS hl K
  obtain ⟨hx, hb, hml, hown, hts, hK, hAO, hin, hA, hfr, hlo, hce, hsl⟩ := id C
  exact gcallW (Y := Y) hx hb hml hown hts hK hAO hA hfr hlo (by omega) (by omega) hP hD hS hl.1 hd hw hm hn hst hct he isR hR hnd hdis hs0 (fun ws1 H1 locs1 hp a1 a2 a3 => kk ws1 hp p e R s m args below meth c Q H1 locs1 lsA A C a1 a2 a3 hl K)
theorem range_get (l : List (Nat × va_E)) : ∀ (w : List (Nat × va_E)), (List.range l.length).map (fun i => (l ++ w)[i]?) = l.map some := by
  intro w
  apply List.ext_getElem?
  intro k
  rw [List.getElem?_map, List.getElem?_map]
  by_cases h : k < l.length
  · rw [List.getElem?_range h, List.getElem?_eq_getElem h]
    show some ((l ++ w)[k]?) = some (some l[k])
    rw [List.getElem?_append_left h, List.getElem?_eq_getElem h]
  · rw [List.getElem?_eq_none (by rw [List.length_range]; omega), List.getElem?_eq_none (by omega)]; rfl
theorem nd_range' : ∀ (n s : Nat), va_nd (List.range' s n) = true
  | 0, _ => rfl
  | n + 1, s => by
    rw [List.range'_succ, va_nd, nd_range' n (s + 1), Bool.and_true, decide_eq_true_eq]
    intro h
    have := List.mem_range'.mp h
    obtain ⟨i, hi, e⟩ := this
    omega
/-- the object made last is called upon -/
theorem gc_callL {Y' : XY} {nc' ns' n idx h0 : Nat} {as : List Value} {e0 : va_E} {wr : va_W} {Post' : va_W → Prop} (hd : decode Y.2.1 pc = .ok (.invokespecial idx, 3)) (hw : Cond.methodLink Y.1.cls idx Y'.1 ∈ xtbl) (hm : MC Y' n) (hn : as.length = n) (hst : (st.map fun v => v.category).sum ≤ 8) (hct : CtG G Y' d nc' ns' (.ref h0 :: as) [(h0, e0)] Post') (h1 : k + nc' ≤ nc) (h2 : j + ns' ≤ ns) {st0 : List Value} (hs0 : st0 = as.reverse ++ .ref h0 :: st)
    (kk : ∀ ws1, Post' ws1 → GC G Y (d + 1) nc ns (pc + 3) ls st (wr ++ ws1) (k + nc') (j + ns') Post) : GC G Y (d + 1) nc ns pc ls st0 (wr ++ [(h0, e0)]) k j Post :=
  gc_call (q0 := wr.length) hd hw hm hn hst hct (by rw [List.getElem?_append_right (Nat.le_refl _), Nat.sub_self]; rfl) (List.range wr.length) (range_get wr _) (by rw [List.range_eq_range']; exact nd_range' _ _) (fun h => Nat.lt_irrefl _ (List.mem_range.mp h)) h1 h2 hs0 kk
theorem mna_str : "[" ++ (FieldType.array .long).toString = "[[J" := by first | rfl | decide | decide +kernel
theorem gc_mna {idx N' K' : Nat} {n k' : Int32} (hd : decode Y.2.1 pc = .ok (.multianewarray idx 2, 4)) (hcl : Cond.classLink Y.1.cls idx "[[J" ∈ xtbl) (harr : Cond.arrayClass .long ∈ xtbl) (hn : ¬ n < 0) (hk : ¬ k' < 0) (hN : n.toNatClampNeg = N') (hK' : k'.toNatClampNeg = K') (hb1 : N' * 4 ≤ 536870912) (hb2 : K' * 8 ≤ 536870912) (hb3 : K' ≤ 536870912) (h1 : k + (1 + N') ≤ nc) (h2 : j + (N' + N' * K') ≤ ns)
    (kk : ∀ (q : Nat) (r : Nat → Nat), GC G Y d nc ns (pc + 4) ls (.ref q :: st) ((ws ++ [(q, .inl (G.2.2 5, N', .inr (.inr (.inr (.inr (fun i => if i < N' then some (r i) else none))))))]) ++ (List.range N').map (fun i => (r i, .inl (G.2.2 1, K', .inr (.inl (fun _ => Int64.ofInt 0)))))) (k + 1 + N') (j + N' + N' * K') Post) : GC G Y d nc ns pc ls (.int k' :: .int n :: st) ws k j Post := by
  intro p e R s m args below meth c Q H locs lsA A C hP hD hS hl K
  obtain ⟨hx, hb, hml, hown, hts, hK, hAO, hini', hA, hfr, hlo, hce, hsl⟩ := id C
  have h0 : ws ++ va_pl [] (fun _ => .inl (G.2.2 1, K', .inr (.inl (fun _ => Int64.ofInt 0)))) = ws := List.append_nil ws
  refine va_mna (X := ws) (L := []) (f := fun _ => .inl (G.2.2 1, K', .inr (.inl (fun _ => Int64.ofInt 0)))) (ty := .long) (cy := G.2.2 1) (z := (K', .inr (.inl (fun _ => Int64.ofInt 0)))) hx hb hown (by rw [mna_str]; exact hts _ hcl) hAO.2.2 (hts _ harr) (hK.2 1 (G.2.2 1, .long) rfl).2 hK (by rw [h0]; exact hP) (by rw [h0]; exact hD) hS hA hn hk hN hK' hb1 hb2 hb3 rfl rfl (by omega) (by omega) (fun c => mna_inner c K') hd (fun q r cA H1 hin hnl hK2 a1 a2 a3 => ?_)
  have e9 := cty_un hK hK2 (t0 := 5) rfl
  rw [e9, mna_row rfl N'] at a1 a2
  exact kk q r p e R s m args below meth c Q H1 locs lsA A C a1 a2 a3 hl K
section H0
variable {h : Nat × va_E} {rest : va_W}
theorem gc_new0 {C : String} {T : u_T} {N ci idx : Nat} (fs : List Value) (hd : decode Y.2.1 pc = .ok (.new idx, 3)) (hin : ∀ w ∈ u_ws C T N, w ∈ xtbl) (ty : Nat → FieldType) (hty : ∀ k, k < N → parseFieldDescriptor (T k).2.2.1 = some (ty k)) (hcl : Cond.classLink Y.1.cls idx C ∈ xtbl) (hinst : Cond.instantiable C N ∈ xtbl) (hini : Cond.initialized C ∈ xtbl) (hc : vwCl[ci]? = some (C, T, N)) (hfs : ∀ j, j < N → defaultValue (ty j) = vp_V fs j) (h1 : k + 1 ≤ nc) (h2 : j + N ≤ ns)
    (kk : ∀ q, GC G Y d nc ns (pc + 3) ls (.ref q :: st) (h :: (rest ++ [(q, .inr (ci, fs))])) (k + 1) (j + N) Post) : GC G Y d nc ns pc ls st (h :: rest) k j Post := gc_new fs hd hin ty hty hcl hinst hini hc hfs h1 h2 kk
theorem gc_newa0 {atype : ArrayType} {ty : FieldType} {t0 N' : Nat} {n : Int32} (a0 : vp_A) (hd : decode Y.2.1 pc = .ok (.newarray atype, 2)) (hw : Cond.arrayClass (Jvm.Op.newarray.typeOf atype) ∈ xtbl) (hty : Jvm.Op.newarray.typeOf atype = ty) (ht : ∀ ca : Nat → ClassId, (ctys ca)[t0]? = some (ca t0, ty)) (ha : ∀ cA : ClassId, vp_cell cA a0 = arrV cA N' (fun _ => defaultValue ty)) (hn : ¬ n < 0) (hN : n.toNatClampNeg = N') (hb' : N' * componentBytes ty ≤ 536870912) (h1 : k + 1 ≤ nc) (h2 : j + N' ≤ ns)
    (kk : ∀ q, GC G Y d nc ns (pc + 2) ls (.ref q :: st) (h :: (rest ++ [(q, .inl (G.2.2 t0, a0))])) (k + 1) (j + N') Post) : GC G Y d nc ns pc ls (.int n :: st) (h :: rest) k j Post := gc_newa a0 hd hw hty ht ha hn hN hb' h1 h2 kk
theorem gc_anew0 {C : String} {t0 N' idx : Nat} {n : Int32} (hd : decode Y.2.1 pc = .ok (.anewarray idx, 3)) (hcl : Cond.classLink Y.1.cls idx C ∈ xtbl) (hAO : ∀ s, AOs s → va_AO C s) (ht : ∀ ca : Nat → ClassId, (ctys ca)[t0]? = some (ca t0, .object C)) (hn : ¬ n < 0) (hN : n.toNatClampNeg = N') (hb' : N' * 4 ≤ 536870912) (h1 : k + 1 ≤ nc) (h2 : j + N' ≤ ns)
    (kk : ∀ q, GC G Y d nc ns (pc + 3) ls (.ref q :: st) (h :: (rest ++ [(q, .inl (G.2.2 t0, N', .inr (.inr (.inr (.inr (fun _ => none))))))])) (k + 1) (j + N') Post) : GC G Y d nc ns pc ls (.int n :: st) (h :: rest) k j Post := gc_anew hd hcl hAO ht hn hN hb' h1 h2 kk
theorem gc_put0 {idx ci kf a : Nat} {ty : FieldType} {fin : Bool} {v : Value} {fs : List Value} (hd : decode Y.2.1 pc = .ok (.putfield idx, 3)) (hf : FC Y.1.cls idx ci kf ty fin) (hn : narrow ty v = v) (hfit : fits ty v = true) (hl' : Nat.blt kf fs.length = true)
    (kk : GC G Y d nc ns (pc + 3) ls st ((a, .inr (ci, fs.set kf v)) :: rest) k j Post) : GC G Y d nc ns pc ls (v :: .ref a :: st) ((a, .inr (ci, fs)) :: rest) k j Post := gc_put (q0 := 0) hd hf rfl hn hfit (Nat.le_of_ble_eq_true hl') rfl kk
theorem gc_get0 {idx ci kf a : Nat} {ty : FieldType} {fin : Bool} {v : Value} {fs : List Value} (hd : decode Y.2.1 pc = .ok (.getfield idx, 3)) (hf : FC Y.1.cls idx ci kf ty fin) (hv : fs[kf]? = some v) (kk : GC G Y d nc ns (pc + 3) ls (v :: st) ((a, .inr (ci, fs)) :: rest) k j Post) : GC G Y d nc ns pc ls (.ref a :: st) ((a, .inr (ci, fs)) :: rest) k j Post := gc_get (q0 := 0) hd hf rfl hv kk
theorem gc_alen0 {a q0 t0 : Nat} {x : vp_A} {ty : FieldType} {v : Int32} (hd : decode Y.2.1 pc = .ok (.arraylength, 1)) (he : rest[q0]? = some (a, .inl (G.2.2 t0, x))) (ht : ∀ ca : Nat → ClassId, (ctys ca)[t0]? = some (ca t0, ty)) (hv : Int32.ofNat x.1 = v) (kk : GC G Y d nc ns (pc + 1) ls (.int v :: st) (h :: rest) k j Post) : GC G Y d nc ns pc ls (.ref a :: st) (h :: rest) k j Post := gc_alen (q0 := q0 + 1) hd he ht hv kk
theorem gc_aast0 {a q0 qk t0 ci v n : Nat} {r : vw_C} {f : Nat → Option Nat} {vs : List Value} {i : Int32} (hd : decode Y.2.1 pc = .ok (.aastore, 1)) (he : rest[q0]? = some (a, .inl (G.2.2 t0, n, .inr (.inr (.inr (.inr f)))))) (ht : ∀ ca : Nat → ClassId, (ctys ca)[t0]? = some (ca t0, .object r.1)) (hv : rest[qk]? = some (v, .inr (ci, vs))) (hc : vwCl[ci]? = some r) (hin : vp_in i n)
    (kk : GC G Y d nc ns (pc + 1) ls st (h :: rest.set q0 (a, .inl (G.2.2 t0, n, .inr (.inr (.inr (.inr (va_up f i.toNatClampNeg (some v)))))))) k j Post) : GC G Y d nc ns pc ls (.ref v :: .int i :: .ref a :: st) (h :: rest) k j Post := gc_aast (q0 := q0 + 1) (qk := qk + 1) hd he ht hv hc hin rfl kk
/-- a cell of the rest is stored in: the last one made -/
theorem gc_iastL {a n : Nat} {f : Nat → Int32} {i x : Int32} (hd : decode Y.2.1 pc = .ok (.iastore, 1)) (hin : vp_in i n) (kk : GC G Y d nc ns (pc + 1) ls st (h :: (rest ++ [(a, .inl (G.2.2 0, n, .inl (upd f i.toNatClampNeg x)))])) k j Post) : GC G Y d nc ns pc ls (.int x :: .int i :: .ref a :: st) (h :: (rest ++ [(a, .inl (G.2.2 0, n, .inl f))])) k j Post :=
  gc_iast (q0 := rest.length + 1) hd (by show (rest ++ [(a, _)])[rest.length]? = _; rw [List.getElem?_append_right (Nat.le_refl _), Nat.sub_self]; rfl) hin (by show h :: (rest ++ [(a, _)]).set rest.length _ = _; rw [List.set_append_right _ _ (Nat.le_refl _), Nat.sub_self]; rfl) kk
theorem gc_callL0 {Y' : XY} {nc' ns' n idx h0 : Nat} {as : List Value} {e0 : va_E} {Post' : va_W → Prop} (hd : decode Y.2.1 pc = .ok (.invokespecial idx, 3)) (hw : Cond.methodLink Y.1.cls idx Y'.1 ∈ xtbl) (hm : MC Y' n) (hn : as.length = n) (hst : (st.map fun v => v.category).sum ≤ 8) (hct : CtG G Y' d nc' ns' (.ref h0 :: as) [(h0, e0)] Post') (h1 : k + nc' ≤ nc) (h2 : j + ns' ≤ ns) {st0 : List Value} (hs0 : st0 = as.reverse ++ .ref h0 :: st)
    (kk : ∀ ws1, Post' ws1 → GC G Y (d + 1) nc ns (pc + 3) ls st (h :: (rest ++ ws1)) (k + nc') (j + ns') Post) : GC G Y (d + 1) nc ns pc ls st0 (h :: (rest ++ [(h0, e0)])) k j Post := gc_callL (wr := h :: rest) hd hw hm hn hst hct h1 h2 hs0 kk
theorem gc_second {c0 : Nat × va_E} (kk : GC G Y d nc ns pc ls st (h :: c0 :: rest) k j Post) : GC G Y d nc ns pc ls st (h :: (rest ++ [c0])) k j Post := by
  intro p e R s m args below meth c Q H locs lsA A C hP hD hS hl K
  refine kk p e R s m args below meth c Q H locs lsA A C ?_ ?_ hS hl K
  · intro q x hx
    rcases q with _ | _ | q
    · exact hP 0 x hx
    · have e : (h :: (rest ++ [c0]))[rest.length + 1]? = some x := by
        show (rest ++ [c0])[rest.length]? = some x
        rw [List.getElem?_append_right (Nat.le_refl _), Nat.sub_self]; exact hx
      exact hP _ x e
    · have hq : q < rest.length := (List.getElem?_eq_some_iff.mp (show rest[q]? = some x from hx)).1
      have e : (h :: (rest ++ [c0]))[q + 1]? = some x := by
        show (rest ++ [c0])[q]? = some x
        rw [List.getElem?_append_left hq]; exact hx
      exact hP _ x e
  · have key : ∀ (q : Nat) (x : Nat × va_E), (h :: c0 :: rest)[q]? = some x → ∃ q', (h :: (rest ++ [c0]))[q']? = some x ∧ (q = 0 ∧ q' = 0 ∨ q = 1 ∧ q' = rest.length + 1 ∨ 2 ≤ q ∧ q' + 1 = q ∧ q' ≤ rest.length ∧ 1 ≤ q') := by
      intro q x hx
      rcases q with _ | _ | q
      · exact ⟨0, hx, Or.inl ⟨rfl, rfl⟩⟩
      · refine ⟨rest.length + 1, ?_, Or.inr (Or.inl ⟨rfl, rfl⟩)⟩
        show (rest ++ [c0])[rest.length]? = some x
        rw [List.getElem?_append_right (Nat.le_refl _), Nat.sub_self]; exact hx
      · have hq : q < rest.length := (List.getElem?_eq_some_iff.mp (show rest[q]? = some x from hx)).1
        refine ⟨q + 1, ?_, Or.inr (Or.inr ⟨by omega, by omega, by omega, by omega⟩)⟩
        show (rest ++ [c0])[q]? = some x
        rw [List.getElem?_append_left hq]; exact hx
    refine ⟨fun a b x y hx hy hxy => ?_, fun a x hx => ?_⟩
    · obtain ⟨a', ha, ca⟩ := key a x hx
      obtain ⟨b', hb, cb⟩ := key b y hy
      have := hD.1 a' b' x y ha hb hxy
      omega
    · obtain ⟨a', ha, -⟩ := key a x hx
      exact hD.2 a' x ha
theorem gc_aastL {a t0 ci v n : Nat} {r : vw_C} {f : Nat → Option Nat} {vs : List Value} {i : Int32} {tl : va_W} (hd : decode Y.2.1 pc = .ok (.aastore, 1)) (ht : ∀ ca : Nat → ClassId, (ctys ca)[t0]? = some (ca t0, .object r.1)) (hc : vwCl[ci]? = some r) (hin : vp_in i n)
    (kk : GC G Y d nc ns (pc + 1) ls st (h :: (a, .inl (G.2.2 t0, n, .inr (.inr (.inr (.inr (va_up f i.toNatClampNeg (some v))))))) :: (rest ++ ((v, .inr (ci, vs)) :: tl))) k j Post) : GC G Y d nc ns pc ls (.ref v :: .int i :: .ref a :: st) (h :: (a, .inl (G.2.2 t0, n, .inr (.inr (.inr (.inr f))))) :: (rest ++ ((v, .inr (ci, vs)) :: tl))) k j Post :=
  gc_aast (q0 := 1) (qk := rest.length + 2) (ci := ci) hd rfl ht (by show (rest ++ ((v, _) :: tl))[rest.length]? = _; rw [List.getElem?_append_right (Nat.le_refl _), Nat.sub_self]; rfl) hc hin rfl kk
theorem gc_mna0 {idx N' K' : Nat} {n k' : Int32} (hd : decode Y.2.1 pc = .ok (.multianewarray idx 2, 4)) (hcl : Cond.classLink Y.1.cls idx "[[J" ∈ xtbl) (harr : Cond.arrayClass .long ∈ xtbl) (hn : ¬ n < 0) (hk : ¬ k' < 0) (hN : n.toNatClampNeg = N') (hK' : k'.toNatClampNeg = K') (hb1 : N' * 4 ≤ 536870912) (hb2 : K' * 8 ≤ 536870912) (hb3 : K' ≤ 536870912) (h1 : k + (1 + N') ≤ nc) (h2 : j + (N' + N' * K') ≤ ns)
    (kk : ∀ (q : Nat) (r : Nat → Nat), GC G Y d nc ns (pc + 4) ls (.ref q :: st) (h :: ((rest ++ [(q, .inl (G.2.2 5, N', .inr (.inr (.inr (.inr (fun i => if i < N' then some (r i) else none))))))]) ++ (List.range N').map (fun i => (r i, .inl (G.2.2 1, K', .inr (.inl (fun _ => Int64.ofInt 0))))))) (k + 1 + N') (j + N' + N' * K') Post) : GC G Y d nc ns pc ls (.int k' :: .int n :: st) (h :: rest) k j Post := gc_mna hd hcl harr hn hk hN hK' hb1 hb2 hb3 h1 h2 kk
end H0
end
