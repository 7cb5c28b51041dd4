section
variable {X : XC} {Y : XY} {d pc : Nat} {ls ls' : List (Nat × XV)} {st : List XV} {M : Mem} {Post : Option XV → Mem → Prop}
-- Math
theorem w_maxI : Cond.static Lib.Math.max.name ∈ xtbl ∧ Cond.initialized "java/lang/Math" ∈ xtbl ∧ Cond.code Lib.Math.max.name Lib.Math.max.code 2 (some .int) ∈ xtbl := ⟨at_x 427 (by decide +kernel) rfl, at_x 79 (by decide +kernel) rfl, at_x 428 (by decide +kernel) rfl⟩
theorem w_maxL : Cond.static Lib.MathLoose.max_long.x ∈ xtbl ∧ Cond.code Lib.MathLoose.max_long.x Lib.MathLoose.max_long.code 4 (some .long) ∈ xtbl := ⟨at_x 566 (by decide +kernel) rfl, at_x 567 (by decide +kernel) rfl⟩
theorem w_minL : Cond.static Lib.MathLoose.min_long.x ∈ xtbl ∧ Cond.code Lib.MathLoose.min_long.x Lib.MathLoose.min_long.code 4 (some .long) ∈ xtbl := ⟨at_x 559 (by decide +kernel) rfl, at_x 560 (by decide +kernel) rfl⟩
theorem g_maxI {a b : Int} {idx : Nat} (hd : decode Y.2.1 pc = .ok (.invokestatic idx, 3)) (hw : Cond.methodLink Y.1.cls idx Lib.Math.max.name ∈ xtbl) (hst : xcat st ≤ 8) (kk : Go X Y (d + 1) (pc + 3) ls (XI (if a < b then b else a) :: st) M Post) : Go X Y (d + 1) pc ls (XI b :: XI a :: st) M Post := by
  intro o1 o2 o3 p e R s m args below meth c cells slots Q H locs lsA C F hl K
  have oa := ok_hI (ok_t o2)
  have ob := ok_hI o2
  have k2 := kk o1 (ok_cI (by split <;> assumption) (ok_t (ok_t o2))) o3 p e R s m args below meth c cells slots Q H locs lsA C F hl K
  obtain ⟨hx, hb, hml, hown, hts, hK, hI, hSt, hfr, hlo, hce, hsl⟩ := id C
  refine va_mmax hx hb (hml.trans hl.1.symm) hown (hts _ hw) (hts _ w_maxI.1) (hts _ w_maxI.2.1) (hts _ w_maxI.2.2) (by omega) (by rw [show ((List.map (xc X.ad) st).map fun v => v.category).sum = xcat st from xcat_eq X st]; omega) hce hsl hd ?_
  have e : (if Int32.ofInt a < Int32.ofInt b then Int32.ofInt b else Int32.ofInt a) = Int32.ofInt (if a < b then b else a) := by
    by_cases h : a < b
    · rw [if_pos h, if_pos ((i32_lt oa ob).mpr h)]
    · rw [if_neg h, if_neg (fun z => h ((i32_lt oa ob).mp z))]
  rw [e]; exact k2
theorem g_maxL {a b : Int} {idx : Nat} (hd : decode Y.2.1 pc = .ok (.invokestatic idx, 3)) (hw : Cond.methodLink Y.1.cls idx Lib.MathLoose.max_long.x ∈ xtbl) (hst : xcat st ≤ 8) (kk : Go X Y (d + 1) (pc + 3) ls (XL (if b < a then a else b) :: st) M Post) : Go X Y (d + 1) pc ls (XL b :: XL a :: st) M Post := by
  intro o1 o2 o3 p e R s m args below meth c cells slots Q H locs lsA C F hl K
  have oa := ok_hL (ok_t o2)
  have ob := ok_hL o2
  have k2 := kk o1 (ok_cL (by split <;> assumption) (ok_t (ok_t o2))) o3 p e R s m args below meth c cells slots Q H locs lsA C F hl K
  obtain ⟨hx, hb, hml, hown, hts, hK, hI, hSt, hfr, hlo, hce, hsl⟩ := id C
  refine va_mmax_long hx hb (hml.trans hl.1.symm) hown (hts _ hw) (hts _ w_maxL.1) (hts _ w_maxI.2.1) (hts _ w_maxL.2) (by omega) (by rw [show ((List.map (xc X.ad) st).map fun v => v.category).sum = xcat st from xcat_eq X st]; omega) hce hsl hd ?_
  have e : (if Int64.ofInt b < Int64.ofInt a then Int64.ofInt a else Int64.ofInt b) = Int64.ofInt (if b < a then a else b) := by
    by_cases h : b < a
    · rw [if_pos h, if_pos ((i64_lt ob oa).mpr h)]
    · rw [if_neg h, if_neg (fun z => h ((i64_lt ob oa).mp z))]
  rw [e]; exact k2
theorem g_minL {a b : Int} {idx : Nat} (hd : decode Y.2.1 pc = .ok (.invokestatic idx, 3)) (hw : Cond.methodLink Y.1.cls idx Lib.MathLoose.min_long.x ∈ xtbl) (hst : xcat st ≤ 8) (kk : Go X Y (d + 1) (pc + 3) ls (XL (if a < b then a else b) :: st) M Post) : Go X Y (d + 1) pc ls (XL b :: XL a :: st) M Post := by
  intro o1 o2 o3 p e R s m args below meth c cells slots Q H locs lsA C F hl K
  have oa := ok_hL (ok_t o2)
  have ob := ok_hL o2
  have k2 := kk o1 (ok_cL (by split <;> assumption) (ok_t (ok_t o2))) o3 p e R s m args below meth c cells slots Q H locs lsA C F hl K
  obtain ⟨hx, hb, hml, hown, hts, hK, hI, hSt, hfr, hlo, hce, hsl⟩ := id C
  refine va_mmin_long hx hb (hml.trans hl.1.symm) hown (hts _ hw) (hts _ w_minL.1) (hts _ w_maxI.2.1) (hts _ w_minL.2) (by omega) (by rw [show ((List.map (xc X.ad) st).map fun v => v.category).sum = xcat st from xcat_eq X st]; omega) hce hsl hd ?_
  have e : (if Int64.ofInt b < Int64.ofInt a then Int64.ofInt b else Int64.ofInt a) = Int64.ofInt (if a < b then a else b) := by
    by_cases h : a < b
    · rw [if_pos h, if_neg (fun z => by have := (i64_lt ob oa).mp z; omega)]
    · rcases Int.lt_trichotomy a b with h2 | h2 | h2
      · exact absurd h2 h
      · rw [h2, if_neg (Int.lt_irrefl b), if_neg (fun z => by have := (i64_lt ob ob).mp z; omega)]
      · rw [if_neg h, if_pos ((i64_lt ob oa).mpr h2)]
  first | (rw [e]; exact k2) | (
    have e2 : (if Int64.ofInt a < Int64.ofInt b then Int64.ofInt a else Int64.ofInt b) = Int64.ofInt (if a < b then a else b) := by
      by_cases h : a < b
      · rw [if_pos h, if_pos ((i64_lt oa ob).mpr h)]
      · rw [if_neg h, if_neg (fun z => h ((i64_lt oa ob).mp z))]
    rw [e2]; exact k2)
-- the world that never changes
theorem XSt.kept {U : State} {H H1 : Heap} (h : XSt X U H) (hsz : H.size ≤ H1.size) (hq : ∀ a : Nat, a < H.size → ¬ XA X a → H1[a]? = H[a]?) : XSt X U H1 :=
  ⟨h.1.kept hq, h.2.1.kept hq, h.2.2.1.kept (hq _ h.2.2.2.1 h.2.2.2.2), Nat.lt_of_lt_of_le h.2.2.2.1 hsz, h.2.2.2.2⟩
theorem XSt.moved {u U : State} {H : Heap} (hvm : u.vm.Alike U.vm) (h : XSt X u H) : XSt X U H := ⟨h.1.moved hvm, h.2.1.moved hvm, h.2.2.1.moved hvm, h.2.2.2⟩
theorem goodY {Y' : XY} (hc : Cond.code Y'.1 Y'.2.1 Y'.2.2.1 Y'.2.2.2 ∈ xtbl) {ws : List Cond} (hm : ∀ w ∈ ws, w ∈ xtbl ∧ goodWord w = true) : GoodIn xtbl (ws ++ xws Y') := by
  intro w hw
  have h : w ∈ xtbl ∧ goodWord w = true := by
    rcases List.mem_append.mp hw with h | h
    · exact hm w h
    · rcases List.mem_cons.mp h with h | h
      · rw [h]; exact ⟨hc, rfl⟩
      · exact x_of_good h
  exact ⟨h.1, good_of_word h.2⟩
theorem blindW (X : XC) (M : Mem) (av : List Value) : FrameBlind (va_Pc av (Wd X M)) := fun a U g mk q => ⟨q.1, q.2.1, va_K.moved (u := U) (U := U.calling g mk a) (Vm.Alike.refl U.vm) q.2.2.1, q.2.2.2.1, XSt.moved (u := U) (U := U.calling g mk a) (Vm.Alike.refl U.vm) q.2.2.2.2.1, XNw.same (u := U) (U := U.calling g mk a) rfl q.2.2.2.2.2⟩
/-- of a method: the tables' words -/
def MD (Y' : XY) (n : Nat) : Prop := Cond.code Y'.1 Y'.2.1 Y'.2.2.1 Y'.2.2.2 ∈ xtbl ∧ Cond.initialized Y'.1.cls ∈ xtbl ∧ (Y'.1.cls ≠ "java/lang/invoke/MethodHandle" ∧ Y'.1.cls ≠ "java/lang/invoke/VarHandle" ∧ (parseMethodDescriptor Y'.1.desc).map (fun d => d.parameters.length) = some n) ∧ Y'.2.2.1 ≤ 18
def MV (Y' : XY) : Prop := Cond.instanceMethod Y'.1 ∈ xtbl ∧ Cond.selects Y'.1.cls Y'.1 Y'.1 ∈ xtbl
theorem go_after {Y' : XY} {as : List XV} {Pq : Option XV → Mem → Prop} {p : Program} {e : Env} {R : Room} {s : State} {m : MethodId} {args : Array Value} {below : List Frame} {meth : Method} {c : Code} {cells slots : Nat} {Q : State → Prop} {H : Heap} {locs : List Loc} {lsA : Array Slot} {st0 : List Value} {aa : Array Value}
    (hr : va_Run p X.1 e R s m args below meth c H locs cells slots 0 0 (F0 m pc lsA st0) (xst X st) (QP X Pq aa) (XA X)) (k : ∀ r M', Pq r M' → Go X Y d (pc + 3) ls (r.toList ++ st) M' Post)
    (o1 : ∀ q ∈ ls, xok q.2) (o2 : ∀ v ∈ st, xok v) (C : XCtx X Y d p R s m args meth c cells slots) (F : XF X M s H locs) (hl : lv_has lsA Y.2.2.1 (xls X ls))
    (K : ∀ (r : Option XV) (M' : Mem) (H' : Heap) (locs' : List Loc) (pc' : Nat) (lsA' : Array Slot), Post r M' → XRet Y pc' r → (∀ v ∈ r, xok v) → MR M' → XF X M' s H' locs' →
      W p X.1 e R s m args below meth c H' locs' cells slots Q (F0 m pc' lsA' (xst X r.toList))) : W p X.1 e R s m args below meth c H locs cells slots Q (F0 m pc lsA st0) := by
  intro T hT Xs
  obtain ⟨v, st₀, t, T', L, h0, X', hL, e1, e2, ⟨r, M', hp, hro, hMR, hv, hPP, hFF⟩, step⟩ := hr T hT Xs
  cases hv
  have hS : va_S (XA X) s.heap T'.heap (locs ++ L) := by
    obtain ⟨z1, z2⟩ := hFF
    rw [h0] at z1 z2
    refine ⟨Nat.le_trans F.2.1 (by rw [e1]; exact z1), fun q h1 h2 => ?_, fun q hq => ?_⟩
    · rw [e1, z2 q (Nat.lt_of_lt_of_le h1 F.2.1) h2]; exact F.2.2.1 q h1 h2
    · rcases List.mem_append.mp hq with h | h
      · exact F.2.2.2 q h
      · exact hL q h
  have ho : ∀ w ∈ r.toList ++ st, xok w := fun w hw => by
    rcases List.mem_append.mp hw with h | h
    · exact hro w (by cases r with | none => cases h | some x => exact (List.mem_singleton.mp h) ▸ rfl)
    · exact o2 w h
  have k2 := k r M' hp o1 ho hMR p e R s m args below meth c cells slots Q T'.heap (locs ++ L) lsA C ⟨by rw [e1]; exact hPP, hS⟩ hl K
  obtain ⟨t2, a1, b1⟩ := k2 T' rfl X'
  refine ⟨t2, step t2 ?_, b1⟩
  have es : (r.map (xc X.ad)).toList ++ xst X st = xst X (r.toList ++ st) := by
    cases r <;> simp [xst]
  show Steps p.tables e below (T'.setTop (F0 m (pc + 3) lsA ((r.map (xc X.ad)).toList ++ xst X st))) t2
  rw [es]; exact a1
theorem xst_rev (X : XC) (as st : List XV) : xst X (as.reverse ++ st) = (as.map (xc X.ad)).reverse ++ xst X st := by
  unfold xst; rw [List.map_append, List.map_reverse]
theorem g_callV {Y' : XY} {as : List XV} {o ci n N idx : Nat} {Pq : Option XV → Mem → Prop} (hd : decode Y.2.1 pc = .ok (.invokevirtual idx, 3)) (hw : Cond.methodLink Y.1.cls idx Y'.1 ∈ xtbl) (hm : MD Y' n) (hv : MV Y') (hn : as.length = n) (ho : Sh o = (10 + ci, N)) (hci : (vwCl[ci]?).map (·.1) = some Y'.1.cls) (hst : xcat st ≤ 8)
    (hc : Ct X Y' d (XR o :: as) M Pq) {st0 : List XV} (h0 : as.reverse ++ XR o :: st = st0) (k : ∀ r M', Pq r M' → Go X Y (d + 1) (pc + 3) ls (r.toList ++ st) M' Post) : Go X Y (d + 1) pc ls st0 M Post := by
  subst h0
  intro o1 o2 o3 p e R s m args below meth c cells slots Q H locs lsA C F hl K
  have o4 : ∀ v ∈ XR o :: as, xok v := fun v hv => by
    rcases List.mem_cons.mp hv with h | h
    · rw [h]; exact True.intro
    · exact o2 v (List.mem_append_left _ (List.mem_reverse.mpr h))
  have o5 : ∀ v ∈ st, xok v := fun v hv => o2 v (List.mem_append_right _ (List.mem_cons_of_mem _ hv))
  obtain ⟨hx, hb, hml, hown, hts, hK, hI, hSt, hfr, hlo, hce, hsl⟩ := id C
  obtain ⟨q, hq⟩ := xat (Sh_mem ho (by omega))
  have hat := ws_at X M hq
  rw [xcontO X M ho] at hat
  obtain ⟨vc, hvc, hvn⟩ : ∃ vc, vwCl[ci]? = some vc ∧ vc.1 = Y'.1.cls := by
    cases h : vwCl[ci]? with
    | none => rw [h] at hci; cases hci
    | some vc => rw [h] at hci; exact ⟨vc, rfl, Option.some.inj hci⟩
  have hrec := va_recv hK F.1 hvc hat
  rw [hvn] at hrec
  have hG : GoodIn xtbl (wsV Y.1.cls idx Y'.1.cls Y'.1 (xws Y')) := goodY hm.1 (fun w hw' => by
    simp only [List.mem_cons, List.not_mem_nil, or_false] at hw'
    rcases hw' with h | h | h | h
    · rw [h]; exact ⟨hw, rfl⟩
    · rw [h]; exact ⟨hv.1, rfl⟩
    · rw [h]; exact ⟨hv.2, rfl⟩
    · rw [h]; exact ⟨hm.2.1, rfl⟩)
  have run := va_runV (l := X.1) (e := e) (below := below) (meth := meth) (locs := locs) (cells := cells) (slots := slots) (As := as.map (xc X.ad)) (rest := xst X st) (g := F0 m pc lsA (xst X (as.reverse ++ XR o :: st))) ⟨hx, hb, hml, hown, hts⟩ (hc o4 o3) (cwV n hts hG rfl rfl rfl ⟨rfl, hm.2.2.1⟩ ⟨hfr, by have := hm.2.2.2; show 8 + (Y'.2.2.1 + 11) + 37 * d ≤ R.locals; omega⟩)
    ⟨blindW X M _, hrec, fun U hU hW => ⟨rfl, by rw [hU]; exact F.1, va_K.moved hW.alike hK, hI, (XSt.kept hSt (by rw [hU]; exact F.2.1) (fun a h1 h2 => by rw [hU]; exact F.2.2.1 a h1 h2)).moved hW.alike, (XNw.of hts).warm hW⟩⟩
    rfl (by rw [List.length_map]; exact hn) hl.1 (xst_rev X as (XR o :: st)) (lv_room (by rw [xcat_eq]; exact hst)) hd ⟨hce, hsl⟩
  exact go_after (Y' := Y') (as := as) run k o1 o5 C F hl K
theorem g_callS {Y' : XY} {as : List XV} {n idx : Nat} {Pq : Option XV → Mem → Prop} (hd : decode Y.2.1 pc = .ok (.invokestatic idx, 3)) (hw : Cond.methodLink Y.1.cls idx Y'.1 ∈ xtbl) (hm : MD Y' n) (hv : Cond.static Y'.1 ∈ xtbl) (hn : as.length = n) (hst : xcat st ≤ 8)
    (hc : Ct X Y' d as M Pq) {st0 : List XV} (h0 : as.reverse ++ st = st0) (k : ∀ r M', Pq r M' → Go X Y (d + 1) (pc + 3) ls (r.toList ++ st) M' Post) : Go X Y (d + 1) pc ls st0 M Post := by
  subst h0
  intro o1 o2 o3 p e R s m args below meth c cells slots Q H locs lsA C F hl K
  have o4 : ∀ v ∈ as, xok v := fun v hv => o2 v (List.mem_append_left _ (List.mem_reverse.mpr hv))
  have o5 : ∀ v ∈ st, xok v := fun v hv => o2 v (List.mem_append_right _ hv)
  obtain ⟨hx, hb, hml, hown, hts, hK, hI, hSt, hfr, hlo, hce, hsl⟩ := id C
  have hG : GoodIn xtbl (va_wsS Y.1.cls idx Y'.1 (xws Y')) := goodY hm.1 (fun w hw' => by
    simp only [List.mem_cons, List.not_mem_nil, or_false] at hw'
    rcases hw' with h | h | h
    · rw [h]; exact ⟨hw, rfl⟩
    · rw [h]; exact ⟨hv, rfl⟩
    · rw [h]; exact ⟨hm.2.1, rfl⟩)
  have run := va_runS (l := X.1) (e := e) (below := below) (meth := meth) (locs := locs) (cells := cells) (slots := slots) (As := as.map (xc X.ad)) (rest := xst X st) (g := F0 m pc lsA (xst X (as.reverse ++ st))) ⟨hx, hb, hml, hown, hts⟩ (hc o4 o3) (va_cwS n hts hG rfl rfl rfl hm.2.2.1 ⟨hfr, by have := hm.2.2.2; show 8 + (Y'.2.2.1 + 11) + 37 * d ≤ R.locals; omega⟩)
    ⟨blindW X M _, fun U hU hW => ⟨rfl, by rw [hU]; exact F.1, va_K.moved hW.alike hK, hI, (XSt.kept hSt (by rw [hU]; exact F.2.1) (fun a h1 h2 => by rw [hU]; exact F.2.2.1 a h1 h2)).moved hW.alike, (XNw.of hts).warm hW⟩⟩
    rfl (by rw [List.length_map]; exact hn) hl.1 (xst_rev X as st) (lv_room (by rw [xcat_eq]; exact hst)) hd ⟨hce, hsl⟩
  exact go_after (Y' := Y') (as := as) run k o1 o5 C F hl K
/-- a nest mate's private static method -/
theorem g_callN {Y' : XY} {as : List XV} {n idx : Nat} {host : String} {Pq : Option XV → Mem → Prop} (hd : decode Y.2.1 pc = .ok (.invokestatic idx, 3)) (hw : Cond.methodLinkNest Y.1.cls idx Y'.1 host ∈ xtbl) (hm : MD Y' n) (hv : Cond.static Y'.1 ∈ xtbl) (hn : as.length = n) (hst : xcat st ≤ 8)
    (hc : Ct X Y' d as M Pq) {st0 : List XV} (h0 : as.reverse ++ st = st0) (k : ∀ r M', Pq r M' → Go X Y (d + 1) (pc + 3) ls (r.toList ++ st) M' Post) : Go X Y (d + 1) pc ls st0 M Post := by
  subst h0
  intro o1 o2 o3 p e R s m args below meth c cells slots Q H locs lsA C F hl K
  have o4 : ∀ v ∈ as, xok v := fun v hv => o2 v (List.mem_append_left _ (List.mem_reverse.mpr hv))
  have o5 : ∀ v ∈ st, xok v := fun v hv => o2 v (List.mem_append_right _ hv)
  obtain ⟨hx, hb, hml, hown, hts, hK, hI, hSt, hfr, hlo, hce, hsl⟩ := id C
  have hG : GoodIn xtbl (xws Y') := goodY (ws := []) hm.1 (fun w hw' => by cases hw')
  have run := va_runSN (l := X.1) (e := e) (below := below) (meth := meth) (locs := locs) (cells := cells) (slots := slots) (host := host) (As := as.map (xc X.ad)) (rest := xst X st) (g := F0 m pc lsA (xst X (as.reverse ++ st))) ⟨hx, hb, hml, hown, hts⟩ (hc o4 o3) ⟨va_cnB n hts hG rfl rfl rfl (va_Nw.of rfl (hts _ hw)) (hts _ hm.2.1) hm.2.2.1 ⟨hfr, by have := hm.2.2.2; show 8 + (Y'.2.2.1 + 11) + 37 * d ≤ R.locals; omega⟩, hts _ hv, trivial⟩
    ⟨blindW X M _, fun U hU hW => ⟨rfl, by rw [hU]; exact F.1, va_K.moved hW.alike hK, hI, (XSt.kept hSt (by rw [hU]; exact F.2.1) (fun a h1 h2 => by rw [hU]; exact F.2.2.1 a h1 h2)).moved hW.alike, (XNw.of hts).warm hW⟩⟩
    rfl (by rw [List.length_map]; exact hn) hl.1 (xst_rev X as st) (lv_room (by rw [xcat_eq]; exact hst)) hd ⟨hce, hsl⟩
  exact go_after (Y' := Y') (as := as) run k o1 o5 C F hl K
-- contracts
def xargs : Nat → List XV → List (Nat × XV)
  | _, [] => []
  | i, v :: vs => (i, v) :: xargs (if xlong v then i + 2 else i + 1) vs
theorem xargs_eq (X : XC) : ∀ (i : Nat) (as : List XV), lv_args i (as.map (xc X.ad)) = xls X (xargs i as)
  | _, [] => rfl
  | i, v :: vs => by
    show (i, xc X.ad v) :: lv_args (if (xc X.ad v).category = 2 then i + 2 else i + 1) (vs.map (xc X.ad)) = (i, xc X.ad v) :: xls X (xargs (if xlong v then i + 2 else i + 1) vs)
    rw [xargs_eq X _ vs]
    rcases v with v | v | v | v <;> rfl
theorem xsl_len (X : XC) : ∀ as : List XV, (lg_sl (as.map (xc X.ad))).length = xcat as
  | [] => rfl
  | v :: vs => by
    have h := xsl_len X vs
    unfold lg_sl at h ⊢
    rw [List.map_cons, List.flatMap_cons, List.length_append, h]
    rcases v with v | v | v | v <;> rfl
theorem xargs_ok : ∀ (i : Nat) (as : List XV), (∀ v ∈ as, xok v) → ∀ q ∈ xargs i as, xok q.2
  | _, [], _, q, hq => by cases hq
  | i, v :: vs, h, q, hq => by
    rcases List.mem_cons.mp hq with e | e
    · rw [e]; exact ok_h h
    · exact xargs_ok _ vs (ok_t h) q e
theorem ct_go {as : List XV} (hy : plainName Y.1.cls = true) (hn : xcat as ≤ Y.2.2.1) (hl : xargs 0 as = ls) (k : Go X Y d 0 ls [] M Post) : Ct X Y d as M Post := by
  subst hl
  intro oa om
  refine Met.ofW (cc := Y.2.1) (maxL := Y.2.2.1) (ret := Y.2.2.2) hy rfl ?_
  intro p e s m args below meth c s₁ B hml hv
  obtain ⟨rfl, hP, hK, hI, hSt, hNw⟩ := hv
  have hts0 := atoms_spec (ws := xws Y) B.pre
  have hts : ∀ w ∈ xtbl, w.before (as.map (xc X.ad)).toArray s = true := hNw.all (fun w h => hts0 w (List.mem_cons_of_mem _ h))
  have hr := B.returns
  have hlocks := B.notSynchronized
  rw [lg_entry_eq]
  have hl := lv_entry (as.map (xc X.ad)) (n := Y.2.2.1) (by rw [xsl_len]; exact hn)
  rw [xargs_eq] at hl
  refine k (xargs_ok 0 as oa) (fun _ h => by cases h) om p e _ s m _ below meth c 0 0 _ s.heap [] _ ⟨B.exec, B.bytes, hml, findClass_of_methodNamed B.named, hts, hK, hI, hSt, Nat.le_refl _, Nat.le_refl _, Nat.le_refl _, Nat.le_refl _⟩ ⟨hP, va_S.rf⟩ hl ?_
  intro r M' H' locs' pc' lsA' hp hret hro hMR F
  have hq : ∀ t : State, t.heap = H' → s.WarmedH t.vm → QP X Post (as.map (xc X.ad)).toArray s (.returned (r.map (xc X.ad))) t := fun t ht _ => ⟨r, M', hp, hro, hMR, rfl, by rw [ht]; exact F.1, F.2.F ht⟩
  have hf : ∀ q ∈ locs', XA X q.base := F.2.2.2
  rcases r with _ | (v | v | v | v)
  · exact W.vret B.exec B.bytes (hr.trans hret.2) hq hf hret.1
  · rcases hret.2 with h | ⟨h, h01⟩
    · exact W.iret B.exec B.bytes (hr.trans h) hq hf hret.1
    · exact W.zret (ty := .boolean) B.exec B.bytes (hr.trans h) (z01 h01).1 hq hf hret.1
  · exact W.lret B.exec B.bytes (hr.trans hret.2) hq hf hret.1
  · obtain ⟨hd, n, h⟩ := hret
    exact W.aret (rt := .object n) B.exec B.bytes (hr.trans h) (Or.inl ⟨n, rfl⟩) (Or.inl rfl) hq hf hd
  · obtain ⟨hd, n, h⟩ := hret
    exact W.aret (rt := .object n) B.exec B.bytes (hr.trans h) (Or.inl ⟨n, rfl⟩) (Or.inr ⟨_, rfl⟩) hq hf hd
theorem Ct.ok {as : List XV} (h : (∀ v ∈ as, xok v) → MR M → Ct X Y d as M Post) : Ct X Y d as M Post := fun o1 o2 => h o1 o2 o1 o2
theorem Go.okM (h : MR M → Go X Y d pc ls st M Post) : Go X Y d pc ls st M Post := fun o1 o2 o3 => h o3 o1 o2 o3
end
