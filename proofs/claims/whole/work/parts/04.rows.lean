section
theorem go_stp {X : XC} {Y : XY} {d pc pc' : Nat} {ls : List (Nat × XV)} {st st' : List XV} {M : Mem} {Post : Option XV → Mem → Prop}
    (h : ∀ {p : Program} {e : Env} {R : Room} {s : State} {m : MethodId} {args : Array Value} {below : List Frame} {meth : Method} {c : Code} {cells slots : Nat} {Q : State → Prop} {H : Heap} {locs : List Loc} {lsA : Array Slot}, p.tables.exec = Jvm.exec → c.code = Y.2.1 → s.vm.findClass Y.1.cls = some m.cls → (∀ w ∈ xtbl, w.before args s = true) → lv_has lsA Y.2.2.1 (xls X ls) → (∀ q ∈ ls, xok q.2) → (∀ v ∈ st, xok v) →
      W p X.1 e R s m args below meth c H locs cells slots Q (F0 m pc' lsA (xst X st')) → W p X.1 e R s m args below meth c H locs cells slots Q (F0 m pc lsA (xst X st)))
    (hok : (∀ q ∈ ls, xok q.2) → (∀ v ∈ st, xok v) → ∀ v ∈ st', xok v) (k : Go X Y d pc' ls st' M Post) : Go X Y d pc ls st M Post := by
  intro o1 o2 o3 p e R s m args below meth c cells slots Q H locs lsA C F hl K
  exact h C.1 C.2.1 C.2.2.2.1 C.2.2.2.2.1 hl o1 o2 (k o1 (hok o1 o2) o3 p e R s m args below meth c cells slots Q H locs lsA C F hl K)
variable {X : XC} {Y : XY} {d pc : Nat} {ls ls' : List (Nat × XV)} {st : List XV} {M : Mem} {Post : Option XV → Mem → Prop}
theorem ok_c {v : XV} {st : List XV} (h : xok v) (hs : ∀ w ∈ st, xok w) : ∀ w ∈ v :: st, xok w := List.forall_mem_cons.mpr ⟨h, hs⟩
theorem ok_cI {v : Int} {st : List XV} (h : i32 v) (hs : ∀ w ∈ st, xok w) : ∀ w ∈ XI v :: st, xok w := ok_c h hs
theorem ok_cL {v : Int} {st : List XV} (h : i64 v) (hs : ∀ w ∈ st, xok w) : ∀ w ∈ XL v :: st, xok w := ok_c h hs
theorem ok_cN {st : List XV} (hs : ∀ w ∈ st, xok w) : ∀ w ∈ XN :: st, xok w := ok_c (v := XN) True.intro hs
theorem ok_cR {a : Nat} {st : List XV} (hs : ∀ w ∈ st, xok w) : ∀ w ∈ XR a :: st, xok w := ok_c (v := XR a) True.intro hs
theorem ok_hI {v : Int} {st : List XV} (h : ∀ w ∈ XI v :: st, xok w) : i32 v := h _ List.mem_cons_self
theorem ok_hL {v : Int} {st : List XV} (h : ∀ w ∈ XL v :: st, xok w) : i64 v := h _ List.mem_cons_self
theorem ok_h {v : XV} {st : List XV} (h : ∀ w ∈ v :: st, xok w) : xok v := h v List.mem_cons_self
theorem ok_t {v : XV} {st : List XV} (h : ∀ w ∈ v :: st, xok w) : ∀ w ∈ st, xok w := fun w hw => h w (List.mem_cons_of_mem _ hw)
-- constants
theorem g_iconst {n v : Int} (hd : decode Y.2.1 pc = .ok (.iconst n, 1)) (hv : n = v) (ho : i32 v) (k : Go X Y d (pc + 1) ls (XI v :: st) M Post) : Go X Y d pc ls st M Post :=
  go_stp (fun hx hb _ _ _ _ _ q => lv_iconst hx hb hd (by rw [hv]) q) (fun _ h => ok_cI ho h) k
theorem g_bipush {n v : Int} (hd : decode Y.2.1 pc = .ok (.bipush n, 2)) (hv : (Int8.ofInt n).toInt32 = Int32.ofInt v) (ho : i32 v) (k : Go X Y d (pc + 2) ls (XI v :: st) M Post) : Go X Y d pc ls st M Post :=
  go_stp (fun hx hb _ _ _ _ _ q => lv_bipush hx hb hd hv q) (fun _ h => ok_cI ho h) k
theorem g_sipush {n v : Int} (hd : decode Y.2.1 pc = .ok (.sipush n, 3)) (hv : (Int16.ofInt n).toInt32 = Int32.ofInt v) (ho : i32 v) (k : Go X Y d (pc + 3) ls (XI v :: st) M Post) : Go X Y d pc ls st M Post :=
  go_stp (fun hx hb _ _ _ _ _ q => lv_sipush hx hb hd hv q) (fun _ h => ok_cI ho h) k
theorem g_lconst {n : Fin 2} {v : Int} (hd : decode Y.2.1 pc = .ok (.lconst n, 1)) (hv : Int64.ofNat n.val = Int64.ofInt v) (ho : i64 v) (k : Go X Y d (pc + 1) ls (XL v :: st) M Post) : Go X Y d pc ls st M Post :=
  go_stp (fun hx hb _ _ _ _ _ q => lv_lconst hx hb hd hv q) (fun _ h => ok_cL ho h) k
theorem g_null (hd : decode Y.2.1 pc = .ok (.aconst_null, 1)) (k : Go X Y d (pc + 1) ls (XN :: st) M Post) : Go X Y d pc ls st M Post :=
  go_stp (fun hx hb _ _ _ _ _ q => lv_null hx hb hd q) (fun _ h => ok_cN h) k
theorem g_ldc {idx : Nat} {v : Int} {w : Int32} (hd : decode Y.2.1 pc = .ok (.ldc idx, 2)) (hw : Cond.constant Y.1.cls idx w ∈ xtbl) (hv : w = Int32.ofInt v) (ho : i32 v) (k : Go X Y d (pc + 2) ls (XI v :: st) M Post) : Go X Y d pc ls st M Post :=
  go_stp (fun hx hb hown hts _ _ _ q => lv_ldc hx hb hown (hts _ (hv ▸ hw)) hd q) (fun _ h => ok_cI ho h) k
theorem g_ldcw {idx : Nat} {v : Int} {w : Int32} (hd : decode Y.2.1 pc = .ok (.ldc_w idx, 3)) (hw : Cond.constant Y.1.cls idx w ∈ xtbl) (hv : w = Int32.ofInt v) (ho : i32 v) (k : Go X Y d (pc + 3) ls (XI v :: st) M Post) : Go X Y d pc ls st M Post :=
  go_stp (fun hx hb hown hts _ _ _ q => lv_ldcw hx hb hown (hts _ (hv ▸ hw)) hd q) (fun _ h => ok_cI ho h) k
theorem g_ldc2 {idx : Nat} {v : Int} {w : Int64} (hd : decode Y.2.1 pc = .ok (.ldc2_w idx, 3)) (hw : Cond.constantLong Y.1.cls idx w ∈ xtbl) (hv : w = Int64.ofInt v) (ho : i64 v) (k : Go X Y d (pc + 3) ls (XL v :: st) M Post) : Go X Y d pc ls st M Post :=
  go_stp (fun hx hb hown hts _ _ _ q => lv_ldc2 hx hb hown (hts _ (hv ▸ hw)) hd q) (fun _ h => ok_cL ho h) k
-- locals
theorem x_lk {lsA : Array Slot} {nL j i : Nat} {v : XV} (hl : lv_has lsA nL (xls X ls)) (h : ls[j]? = some (i, v)) : lsA[i]? = some (.val (xc X.ad v)) := by
  refine lv_at hl j ?_
  rw [xls, List.getElem?_map, h]; rfl
theorem x_lo {j i : Nat} {v : XV} (o : ∀ q ∈ ls, xok q.2) (h : ls[j]? = some (i, v)) : xok v := o (i, v) (List.mem_of_getElem? h)
theorem g_iload_n {n : Fin 4} {v : Int} (j : Nat) (hd : decode Y.2.1 pc = .ok (.iload_n n, 1)) (hl : ls[j]? = some (n.val, XI v)) (k : Go X Y d (pc + 1) ls (XI v :: st) M Post) : Go X Y d pc ls st M Post :=
  go_stp (fun hx hb _ _ hl2 _ _ q => lv_iload_n hx hb hd rfl (x_lk hl2 hl) q) (fun o h => ok_c (x_lo o hl) h) k
theorem g_iload {n : Nat} {v : Int} (j : Nat) (hd : decode Y.2.1 pc = .ok (.iload n, 2)) (hl : ls[j]? = some (n, XI v)) (k : Go X Y d (pc + 2) ls (XI v :: st) M Post) : Go X Y d pc ls st M Post :=
  go_stp (fun hx hb _ _ hl2 _ _ q => lv_iload hx hb hd (x_lk hl2 hl) q) (fun o h => ok_c (x_lo o hl) h) k
theorem g_lload_n {n : Fin 4} {v : Int} (j : Nat) (hd : decode Y.2.1 pc = .ok (.lload_n n, 1)) (hl : ls[j]? = some (n.val, XL v)) (k : Go X Y d (pc + 1) ls (XL v :: st) M Post) : Go X Y d pc ls st M Post :=
  go_stp (fun hx hb _ _ hl2 _ _ q => lv_lload_n hx hb hd rfl (x_lk hl2 hl) q) (fun o h => ok_c (x_lo o hl) h) k
theorem g_lload {n : Nat} {v : Int} (j : Nat) (hd : decode Y.2.1 pc = .ok (.lload n, 2)) (hl : ls[j]? = some (n, XL v)) (k : Go X Y d (pc + 2) ls (XL v :: st) M Post) : Go X Y d pc ls st M Post :=
  go_stp (fun hx hb _ _ hl2 _ _ q => lv_lload hx hb hd (x_lk hl2 hl) q) (fun o h => ok_c (x_lo o hl) h) k
theorem g_aload_n {n : Fin 4} {a : Nat} (j : Nat) (hd : decode Y.2.1 pc = .ok (.aload_n n, 1)) (hl : ls[j]? = some (n.val, XR a)) (k : Go X Y d (pc + 1) ls (XR a :: st) M Post) : Go X Y d pc ls st M Post :=
  go_stp (fun hx hb _ _ hl2 _ _ q => lv_aload_n hx hb hd rfl (x_lk hl2 hl) q) (fun o h => ok_c (x_lo o hl) h) k
theorem g_aload {n : Nat} {a : Nat} (j : Nat) (hd : decode Y.2.1 pc = .ok (.aload n, 2)) (hl : ls[j]? = some (n, XR a)) (k : Go X Y d (pc + 2) ls (XR a :: st) M Post) : Go X Y d pc ls st M Post :=
  go_stp (fun hx hb _ _ hl2 _ _ q => lv_aload hx hb hd (x_lk hl2 hl) q) (fun o h => ok_c (x_lo o hl) h) k
theorem g_aload_nN {n : Fin 4} (j : Nat) (hd : decode Y.2.1 pc = .ok (.aload_n n, 1)) (hl : ls[j]? = some (n.val, XN)) (k : Go X Y d (pc + 1) ls (XN :: st) M Post) : Go X Y d pc ls st M Post :=
  go_stp (fun hx hb _ _ hl2 _ _ q => lv_aload_nN hx hb hd rfl (x_lk hl2 hl) q) (fun o h => ok_c (x_lo o hl) h) k
theorem g_aloadN {n : Nat} (j : Nat) (hd : decode Y.2.1 pc = .ok (.aload n, 2)) (hl : ls[j]? = some (n, XN)) (k : Go X Y d (pc + 2) ls (XN :: st) M Post) : Go X Y d pc ls st M Post :=
  go_stp (fun hx hb _ _ hl2 _ _ q => lv_aloadN hx hb hd (x_lk hl2 hl) q) (fun o h => ok_c (x_lo o hl) h) k
def xs1 (i : Nat) (v : XV) (ls : List (Nat × XV)) : List (Nat × XV) := (i, v) :: ls.filter (fun q => !(q.1 == i) && !(q.1 + 1 == i && xlong q.2))
def xs2 (i : Nat) (v : XV) (ls : List (Nat × XV)) : List (Nat × XV) := (i, v) :: ls.filter (fun q => !(q.1 == i) && (!(q.1 == i + 1) && !(q.1 + 1 == i && xlong q.2)))
theorem xlong_cat (ad : Nat → Nat) (v : XV) : ((xc ad v).category == 2) = xlong v := by
  rcases v with v | v | v | v <;> rfl
theorem xs1_eq (X : XC) (i : Nat) (v : XV) (ls : List (Nat × XV)) : (i, xc X.ad v) :: (xls X ls).filter (fun q => !(q.1 == i) && !(q.1 + 1 == i && q.2.category == 2)) = xls X (xs1 i v ls) := by
  rw [xs1, xls, xls, List.map_cons, List.filter_map]
  congr 2
  apply List.filter_congr
  intro q _
  simp only [Function.comp, xlong_cat]
theorem xs2_eq (X : XC) (i : Nat) (v : XV) (ls : List (Nat × XV)) : (i, xc X.ad v) :: (xls X ls).filter (fun q => !(q.1 == i) && (!(q.1 == i + 1) && !(q.1 + 1 == i && q.2.category == 2))) = xls X (xs2 i v ls) := by
  rw [xs2, xls, xls, List.map_cons, List.filter_map]
  congr 2
  apply List.filter_congr
  intro q _
  simp only [Function.comp, xlong_cat]
theorem xs1_ok {i : Nat} {v : XV} (o : ∀ q ∈ ls, xok q.2) (h : xok v) : ∀ q ∈ xs1 i v ls, xok q.2 := fun q hq => (List.mem_cons.mp hq).elim (fun e => e ▸ h) (fun hq => o q (List.mem_filter.mp hq).1)
theorem xs2_ok {i : Nat} {v : XV} (o : ∀ q ∈ ls, xok q.2) (h : xok v) : ∀ q ∈ xs2 i v ls, xok q.2 := fun q hq => (List.mem_cons.mp hq).elim (fun e => e ▸ h) (fun hq => o q (List.mem_filter.mp hq).1)
theorem go_str {X : XC} {Y : XY} {d pc pc' : Nat} {ls ls' : List (Nat × XV)} {st st' : List XV} {M : Mem} {Post : Option XV → Mem → Prop}
    (h : ∀ {p : Program} {e : Env} {R : Room} {s : State} {m : MethodId} {args : Array Value} {below : List Frame} {meth : Method} {c : Code} {cells slots : Nat} {Q : State → Prop} {H : Heap} {locs : List Loc} {lsA : Array Slot}, p.tables.exec = Jvm.exec → c.code = Y.2.1 → lv_has lsA Y.2.2.1 (xls X ls) →
      (∀ lsA' : Array Slot, lv_has lsA' Y.2.2.1 (xls X ls') → W p X.1 e R s m args below meth c H locs cells slots Q (F0 m pc' lsA' (xst X st'))) → W p X.1 e R s m args below meth c H locs cells slots Q (F0 m pc lsA (xst X st)))
    (hok : (∀ q ∈ ls, xok q.2) → (∀ v ∈ st, xok v) → (∀ q ∈ ls', xok q.2) ∧ ∀ v ∈ st', xok v) (k : Go X Y d pc' ls' st' M Post) : Go X Y d pc ls st M Post := by
  intro o1 o2 o3 p e R s m args below meth c cells slots Q H locs lsA C F hl K
  exact h C.1 C.2.1 hl (fun lsA' hl' => k (hok o1 o2).1 (hok o1 o2).2 o3 p e R s m args below meth c cells slots Q H locs lsA' C F hl' K)
theorem g_istore_n {n : Fin 4} {v : Int} (hd : decode Y.2.1 pc = .ok (.istore_n n, 1)) (hn : n.val < Y.2.2.1) (hl : xs1 n.val (XI v) ls = ls') (k : Go X Y d (pc + 1) ls' st M Post) : Go X Y d pc ls (XI v :: st) M Post :=
  go_str (fun hx hb hh kk => lv_istore_n hx hb hd rfl hh hn (hl ▸ xs1_eq X n.val (XI v) ls) kk) (fun o h => ⟨hl ▸ xs1_ok o (ok_h h), ok_t h⟩) k
theorem g_istore {n : Nat} {v : Int} (hd : decode Y.2.1 pc = .ok (.istore n, 2)) (hn : n < Y.2.2.1) (hl : xs1 n (XI v) ls = ls') (k : Go X Y d (pc + 2) ls' st M Post) : Go X Y d pc ls (XI v :: st) M Post :=
  go_str (fun hx hb hh kk => lv_istore hx hb hd hh hn (hl ▸ xs1_eq X n (XI v) ls) kk) (fun o h => ⟨hl ▸ xs1_ok o (ok_h h), ok_t h⟩) k
theorem g_astore_n {n : Fin 4} {a : Nat} (hd : decode Y.2.1 pc = .ok (.astore_n n, 1)) (hn : n.val < Y.2.2.1) (hl : xs1 n.val (XR a) ls = ls') (k : Go X Y d (pc + 1) ls' st M Post) : Go X Y d pc ls (XR a :: st) M Post :=
  go_str (fun hx hb hh kk => lv_astore_n hx hb hd rfl hh hn (hl ▸ xs1_eq X n.val (XR a) ls) kk) (fun o h => ⟨hl ▸ xs1_ok o (ok_h h), ok_t h⟩) k
theorem g_astore {n : Nat} {a : Nat} (hd : decode Y.2.1 pc = .ok (.astore n, 2)) (hn : n < Y.2.2.1) (hl : xs1 n (XR a) ls = ls') (k : Go X Y d (pc + 2) ls' st M Post) : Go X Y d pc ls (XR a :: st) M Post :=
  go_str (fun hx hb hh kk => lv_astore hx hb hd hh hn (hl ▸ xs1_eq X n (XR a) ls) kk) (fun o h => ⟨hl ▸ xs1_ok o (ok_h h), ok_t h⟩) k
theorem g_astore_nN {n : Fin 4} (hd : decode Y.2.1 pc = .ok (.astore_n n, 1)) (hn : n.val < Y.2.2.1) (hl : xs1 n.val XN ls = ls') (k : Go X Y d (pc + 1) ls' st M Post) : Go X Y d pc ls (XN :: st) M Post :=
  go_str (fun hx hb hh kk => lv_astore_nN hx hb hd rfl hh hn (hl ▸ xs1_eq X n.val XN ls) kk) (fun o h => ⟨hl ▸ xs1_ok o (ok_h h), ok_t h⟩) k
theorem g_astoreN {n : Nat} (hd : decode Y.2.1 pc = .ok (.astore n, 2)) (hn : n < Y.2.2.1) (hl : xs1 n XN ls = ls') (k : Go X Y d (pc + 2) ls' st M Post) : Go X Y d pc ls (XN :: st) M Post :=
  go_str (fun hx hb hh kk => lv_astoreN hx hb hd hh hn (hl ▸ xs1_eq X n XN ls) kk) (fun o h => ⟨hl ▸ xs1_ok o (ok_h h), ok_t h⟩) k
theorem g_lstore_n {n : Fin 4} {v : Int} (hd : decode Y.2.1 pc = .ok (.lstore_n n, 1)) (hn : n.val + 1 < Y.2.2.1) (hl : xs2 n.val (XL v) ls = ls') (k : Go X Y d (pc + 1) ls' st M Post) : Go X Y d pc ls (XL v :: st) M Post :=
  go_str (fun hx hb hh kk => lv_lstore_n hx hb hd rfl hh hn (hl ▸ xs2_eq X n.val (XL v) ls) kk) (fun o h => ⟨hl ▸ xs2_ok o (ok_h h), ok_t h⟩) k
theorem g_lstore {n : Nat} {v : Int} (hd : decode Y.2.1 pc = .ok (.lstore n, 2)) (hn : n + 1 < Y.2.2.1) (hl : xs2 n (XL v) ls = ls') (k : Go X Y d (pc + 2) ls' st M Post) : Go X Y d pc ls (XL v :: st) M Post :=
  go_str (fun hx hb hh kk => lv_lstore hx hb hd hh hn (hl ▸ xs2_eq X n (XL v) ls) kk) (fun o h => ⟨hl ▸ xs2_ok o (ok_h h), ok_t h⟩) k
theorem g_iinc {n : Nat} {w : Int} {v v' : Int} (j : Nat) (hd : decode Y.2.1 pc = .ok (.iinc n w, 3)) (hj : ls[j]? = some (n, XI v)) (hv : v + w = v') (ho : i32 v') (hn : n < Y.2.2.1) (hl : xs1 n (XI v') ls = ls') (k : Go X Y d (pc + 3) ls' st M Post) : Go X Y d pc ls st M Post :=
  go_str (fun hx hb hh kk => lv_iinc hx hb hd hh (k := j) (x := Int32.ofInt v) (v := Int32.ofInt v') (by rw [xls, List.getElem?_map, hj]; rfl) (by rw [← hv, Int32.ofInt_add]) hn (hl ▸ xs1_eq X n (XI v') ls) kk) (fun o h => ⟨hl ▸ xs1_ok o ho, h⟩) k
-- arithmetic
theorem g_iadd {a b v : Int} (hd : decode Y.2.1 pc = .ok (.iadd, 1)) (hv : a + b = v) (ho : i32 v) (k : Go X Y d (pc + 1) ls (XI v :: st) M Post) : Go X Y d pc ls (XI b :: XI a :: st) M Post :=
  go_stp (fun hx hb _ _ _ _ _ q => lv_iadd hx hb hd (by rw [← Int32.ofInt_add, hv]; exact q)) (fun _ h => ok_cI ho (ok_t (ok_t h))) k
theorem g_isub {a b v : Int} (hd : decode Y.2.1 pc = .ok (.isub, 1)) (hv : a - b = v) (ho : i32 v) (k : Go X Y d (pc + 1) ls (XI v :: st) M Post) : Go X Y d pc ls (XI b :: XI a :: st) M Post :=
  go_stp (fun hx hb _ _ _ _ _ q => lv_isub hx hb hd (by rw [← Int32.ofInt_sub, hv]; exact q)) (fun _ h => ok_cI ho (ok_t (ok_t h))) k
theorem g_imul {a b v : Int} (hd : decode Y.2.1 pc = .ok (.imul, 1)) (hv : a * b = v) (ho : i32 v) (k : Go X Y d (pc + 1) ls (XI v :: st) M Post) : Go X Y d pc ls (XI b :: XI a :: st) M Post :=
  go_stp (fun hx hb _ _ _ _ _ q => lv_imul hx hb hd (by rw [← Int32.ofInt_mul, hv]; exact q)) (fun _ h => ok_cI ho (ok_t (ok_t h))) k
theorem g_ladd {a b v : Int} (hd : decode Y.2.1 pc = .ok (.ladd, 1)) (hv : a + b = v) (ho : i64 v) (k : Go X Y d (pc + 1) ls (XL v :: st) M Post) : Go X Y d pc ls (XL b :: XL a :: st) M Post :=
  go_stp (fun hx hb _ _ _ _ _ q => lv_ladd hx hb hd (by rw [← Int64.ofInt_add, hv]; exact q)) (fun _ h => ok_cL ho (ok_t (ok_t h))) k
theorem g_lsub {a b v : Int} (hd : decode Y.2.1 pc = .ok (.lsub, 1)) (hv : a - b = v) (ho : i64 v) (k : Go X Y d (pc + 1) ls (XL v :: st) M Post) : Go X Y d pc ls (XL b :: XL a :: st) M Post :=
  go_stp (fun hx hb _ _ _ _ _ q => lv_lsub hx hb hd (by rw [← Int64.ofInt_sub, hv]; exact q)) (fun _ h => ok_cL ho (ok_t (ok_t h))) k
theorem g_lmul {a b v : Int} (hd : decode Y.2.1 pc = .ok (.lmul, 1)) (hv : a * b = v) (ho : i64 v) (k : Go X Y d (pc + 1) ls (XL v :: st) M Post) : Go X Y d pc ls (XL b :: XL a :: st) M Post :=
  go_stp (fun hx hb _ _ _ _ _ q => lv_lmul hx hb hd (by rw [← Int64.ofInt_mul, hv]; exact q)) (fun _ h => ok_cL ho (ok_t (ok_t h))) k
theorem i32_div {a b : Int} (ha : i32 a) (hb : i32 b) (h0 : 0 ≤ a) (h1 : 0 < b) : Int32.ofInt a / Int32.ofInt b = Int32.ofInt (a / b) := by
  rw [← Int32.toInt_inj, Int32.toInt_div_of_ne_right _ _ (by rw [show (-1 : Int32) = Int32.ofInt (-1) from rfl, Ne, i32_inj hb (by constructor <;> decide)]; omega), i32_eq ha, i32_eq hb, Int.tdiv_eq_ediv_of_nonneg h0, i32_eq]
  have := Int.ediv_nonneg h0 (Int.le_of_lt h1)
  have h3 := Int.ediv_le_self b h0
  exact ⟨by omega, by have := ha.2; omega⟩
theorem i64_div {a b : Int} (ha : i64 a) (hb : i64 b) (h0 : 0 ≤ a) (h1 : 0 < b) : Int64.ofInt a / Int64.ofInt b = Int64.ofInt (a / b) := by
  rw [← Int64.toInt_inj, Int64.toInt_div_of_ne_right _ _ (by rw [show (-1 : Int64) = Int64.ofInt (-1) from rfl, Ne, i64_inj hb (by constructor <;> decide)]; omega), i64_eq ha, i64_eq hb, Int.tdiv_eq_ediv_of_nonneg h0, i64_eq]
  have := Int.ediv_nonneg h0 (Int.le_of_lt h1)
  have h3 := Int.ediv_le_self b h0
  exact ⟨by omega, by have := ha.2; omega⟩
theorem ok_div {a b : Int} (ha : i32 a) (h0 : 0 ≤ a) (h1 : 0 < b) : i32 (a / b) := by
  have := Int.ediv_nonneg h0 (Int.le_of_lt h1)
  have h3 := Int.ediv_le_self b h0
  exact ⟨by omega, by have := ha.2; omega⟩
theorem ok_divL {a b : Int} (ha : i64 a) (h0 : 0 ≤ a) (h1 : 0 < b) : i64 (a / b) := by
  have := Int.ediv_nonneg h0 (Int.le_of_lt h1)
  have h3 := Int.ediv_le_self b h0
  exact ⟨by omega, by have := ha.2; omega⟩
theorem ok_mod {a b : Int} (ha : i32 a) (h0 : 0 ≤ a) (h1 : 0 < b) : i32 (a % b) := by
  have := Int.emod_nonneg a (Int.ne_of_gt h1)
  have h3 : a % b ≤ a := by rw [Int.emod_def]; have := Int.mul_nonneg (Int.le_of_lt h1) (Int.ediv_nonneg h0 (Int.le_of_lt h1)); omega
  exact ⟨by omega, by have := ha.2; omega⟩
theorem ok_modL {a b : Int} (ha : i64 a) (h0 : 0 ≤ a) (h1 : 0 < b) : i64 (a % b) := by
  have := Int.emod_nonneg a (Int.ne_of_gt h1)
  have h3 : a % b ≤ a := by rw [Int.emod_def]; have := Int.mul_nonneg (Int.le_of_lt h1) (Int.ediv_nonneg h0 (Int.le_of_lt h1)); omega
  exact ⟨by omega, by have := ha.2; omega⟩
theorem g_idiv {a b v : Int} (hd : decode Y.2.1 pc = .ok (.idiv, 1)) (h0 : 0 ≤ a) (h1 : 0 < b) (hv : a / b = v) (k : Go X Y d (pc + 1) ls (XI v :: st) M Post) : Go X Y d pc ls (XI b :: XI a :: st) M Post :=
  go_stp (fun hx hb _ _ _ _ o q => lv_idiv hx hb hd (fun z => by have := (i32_inj (ok_hI o) i32_0).mp z; omega) (by rw [i32_div (ok_hI (ok_t o)) (ok_hI o) h0 h1, hv]; exact q)) (fun _ h => ok_cI (hv ▸ ok_div (ok_hI (ok_t h)) h0 h1) (ok_t (ok_t h))) k
theorem g_irem {a b v : Int} (hd : decode Y.2.1 pc = .ok (.irem, 1)) (h0 : 0 ≤ a) (h1 : 0 < b) (hv : a % b = v) (k : Go X Y d (pc + 1) ls (XI v :: st) M Post) : Go X Y d pc ls (XI b :: XI a :: st) M Post :=
  go_stp (fun hx hb _ _ _ _ o q => lv_irem hx hb hd (fun z => by have := (i32_inj (ok_hI o) i32_0).mp z; omega) (by rw [i32_div (ok_hI (ok_t o)) (ok_hI o) h0 h1, ← Int32.ofInt_mul, ← Int32.ofInt_sub, show a - a / b * b = v by rw [← hv, Int.emod_def, Int.mul_comm]]; exact q)) (fun _ h => ok_cI (hv ▸ ok_mod (ok_hI (ok_t h)) h0 h1) (ok_t (ok_t h))) k
theorem g_ldiv {a b v : Int} (hd : decode Y.2.1 pc = .ok (.ldiv, 1)) (h0 : 0 ≤ a) (h1 : 0 < b) (hv : a / b = v) (k : Go X Y d (pc + 1) ls (XL v :: st) M Post) : Go X Y d pc ls (XL b :: XL a :: st) M Post :=
  go_stp (fun hx hb _ _ _ _ o q => lv_ldiv hx hb hd (fun z => by have := (i64_inj (ok_hL o) (i32_64 i32_0)).mp z; omega) (by rw [i64_div (ok_hL (ok_t o)) (ok_hL o) h0 h1, hv]; exact q)) (fun _ h => ok_cL (hv ▸ ok_divL (ok_hL (ok_t h)) h0 h1) (ok_t (ok_t h))) k
theorem g_lrem {a b v : Int} (hd : decode Y.2.1 pc = .ok (.lrem, 1)) (h0 : 0 ≤ a) (h1 : 0 < b) (hv : a % b = v) (k : Go X Y d (pc + 1) ls (XL v :: st) M Post) : Go X Y d pc ls (XL b :: XL a :: st) M Post :=
  go_stp (fun hx hb _ _ _ _ o q => lv_lrem hx hb hd (fun z => by have := (i64_inj (ok_hL o) (i32_64 i32_0)).mp z; omega) (by rw [i64_div (ok_hL (ok_t o)) (ok_hL o) h0 h1, ← Int64.ofInt_mul, ← Int64.ofInt_sub, show a - a / b * b = v by rw [← hv, Int.emod_def, Int.mul_comm]]; exact q)) (fun _ h => ok_cL (hv ▸ ok_modL (ok_hL (ok_t h)) h0 h1) (ok_t (ok_t h))) k
-- bits
def bAnd (a b : Int) : Int := (Int32.ofInt a &&& Int32.ofInt b).toInt
def bOr (a b : Int) : Int := (Int32.ofInt a ||| Int32.ofInt b).toInt
def bXor (a b : Int) : Int := (Int32.ofInt a ^^^ Int32.ofInt b).toInt
def bShl (a b : Int) : Int := (Int32.ofInt a <<< (Int32.ofInt b &&& 31)).toInt
def bShr (a b : Int) : Int := (Int32.ofInt a >>> (Int32.ofInt b &&& 31)).toInt
def bLand (a b : Int) : Int := (Int64.ofInt a &&& Int64.ofInt b).toInt
def bLor (a b : Int) : Int := (Int64.ofInt a ||| Int64.ofInt b).toInt
def bLshl (a b : Int) : Int := (Int64.ofInt a <<< ((Int32.ofInt b).toInt64 &&& 63)).toInt
def w32 (a : Int) : Int := (Int32.ofInt a).toInt
def w8 (a : Int) : Int := (Int32.ofInt a).toInt8.toInt32.toInt
def w16 (a : Int) : Int := (Int32.ofInt a).toInt16.toInt32.toInt
theorem l2i_e (a : Int) : (Int64.ofInt a).toInt32 = Int32.ofInt (w32 a) := by rw [Int64.toInt32_ofInt]; exact (Int32.ofInt_toInt _).symm
theorem i2b_e (a : Int) : (Int32.ofInt a).toInt8.toInt32 = Int32.ofInt (w8 a) := (Int32.ofInt_toInt _).symm
theorem i2s_e (a : Int) : (Int32.ofInt a).toInt16.toInt32 = Int32.ofInt (w16 a) := (Int32.ofInt_toInt _).symm
theorem g_iand {a b : Int} (hd : decode Y.2.1 pc = .ok (.iand, 1)) (k : Go X Y d (pc + 1) ls (XI (bAnd a b) :: st) M Post) : Go X Y d pc ls (XI b :: XI a :: st) M Post :=
  go_stp (fun hx hb _ _ _ _ _ q => lv_iand hx hb hd (by rw [← Int32.ofInt_toInt (Int32.ofInt a &&& Int32.ofInt b)]; exact q)) (fun _ h => ok_cI (i32_to _) (ok_t (ok_t h))) k
theorem g_ior {a b : Int} (hd : decode Y.2.1 pc = .ok (.ior, 1)) (k : Go X Y d (pc + 1) ls (XI (bOr a b) :: st) M Post) : Go X Y d pc ls (XI b :: XI a :: st) M Post :=
  go_stp (fun hx hb _ _ _ _ _ q => lv_ior hx hb hd (by rw [← Int32.ofInt_toInt (Int32.ofInt a ||| Int32.ofInt b)]; exact q)) (fun _ h => ok_cI (i32_to _) (ok_t (ok_t h))) k
theorem g_ixor {a b : Int} (hd : decode Y.2.1 pc = .ok (.ixor, 1)) (k : Go X Y d (pc + 1) ls (XI (bXor a b) :: st) M Post) : Go X Y d pc ls (XI b :: XI a :: st) M Post :=
  go_stp (fun hx hb _ _ _ _ _ q => lv_ixor hx hb hd (by rw [← Int32.ofInt_toInt (Int32.ofInt a ^^^ Int32.ofInt b)]; exact q)) (fun _ h => ok_cI (i32_to _) (ok_t (ok_t h))) k
theorem g_ishl {a b : Int} (hd : decode Y.2.1 pc = .ok (.ishl, 1)) (k : Go X Y d (pc + 1) ls (XI (bShl a b) :: st) M Post) : Go X Y d pc ls (XI b :: XI a :: st) M Post :=
  go_stp (fun hx hb _ _ _ _ _ q => lv_ishl hx hb hd (by rw [← Int32.ofInt_toInt (Int32.ofInt a <<< (Int32.ofInt b &&& 31))]; exact q)) (fun _ h => ok_cI (i32_to _) (ok_t (ok_t h))) k
theorem g_ishr {a b : Int} (hd : decode Y.2.1 pc = .ok (.ishr, 1)) (k : Go X Y d (pc + 1) ls (XI (bShr a b) :: st) M Post) : Go X Y d pc ls (XI b :: XI a :: st) M Post :=
  go_stp (fun hx hb _ _ _ _ _ q => lv_ishr hx hb hd (by rw [← Int32.ofInt_toInt (Int32.ofInt a >>> (Int32.ofInt b &&& 31))]; exact q)) (fun _ h => ok_cI (i32_to _) (ok_t (ok_t h))) k
theorem g_land {a b : Int} (hd : decode Y.2.1 pc = .ok (.land, 1)) (k : Go X Y d (pc + 1) ls (XL (bLand a b) :: st) M Post) : Go X Y d pc ls (XL b :: XL a :: st) M Post :=
  go_stp (fun hx hb _ _ _ _ _ q => lv_land hx hb hd (by rw [← Int64.ofInt_toInt (Int64.ofInt a &&& Int64.ofInt b)]; exact q)) (fun _ h => ok_cL (i64_to _) (ok_t (ok_t h))) k
theorem g_lor {a b : Int} (hd : decode Y.2.1 pc = .ok (.lor, 1)) (k : Go X Y d (pc + 1) ls (XL (bLor a b) :: st) M Post) : Go X Y d pc ls (XL b :: XL a :: st) M Post :=
  go_stp (fun hx hb _ _ _ _ _ q => lv_lor hx hb hd (by rw [← Int64.ofInt_toInt (Int64.ofInt a ||| Int64.ofInt b)]; exact q)) (fun _ h => ok_cL (i64_to _) (ok_t (ok_t h))) k
theorem g_lshl {a b : Int} (hd : decode Y.2.1 pc = .ok (.lshl, 1)) (k : Go X Y d (pc + 1) ls (XL (bLshl a b) :: st) M Post) : Go X Y d pc ls (XI b :: XL a :: st) M Post :=
  go_stp (fun hx hb _ _ _ _ _ q => lv_lshl hx hb hd rfl (by rw [← Int64.ofInt_toInt (Int64.ofInt a <<< ((Int32.ofInt b).toInt64 &&& 63))]; exact q)) (fun _ h => ok_cL (i64_to _) (ok_t (ok_t h))) k
theorem g_i2l {a : Int} (hd : decode Y.2.1 pc = .ok (.i2l, 1)) (k : Go X Y d (pc + 1) ls (XL a :: st) M Post) : Go X Y d pc ls (XI a :: st) M Post :=
  go_stp (fun hx hb _ _ _ _ o q => lv_i2l hx hb hd (by rw [← Int64.toInt_inj, Int32.toInt_toInt64, i32_eq (ok_hI o), i64_eq (i32_64 (ok_hI o))]) q) (fun _ h => ok_cL (i32_64 (ok_hI h)) (ok_t h)) k
theorem g_l2i {a : Int} (hd : decode Y.2.1 pc = .ok (.l2i, 1)) (k : Go X Y d (pc + 1) ls (XI (w32 a) :: st) M Post) : Go X Y d pc ls (XL a :: st) M Post :=
  go_stp (fun hx hb _ _ _ _ o q => lv_l2i hx hb hd (l2i_e a) q) (fun _ h => ok_cI (i32_to _) (ok_t h)) k
theorem g_i2b {a : Int} (hd : decode Y.2.1 pc = .ok (.i2b, 1)) (k : Go X Y d (pc + 1) ls (XI (w8 a) :: st) M Post) : Go X Y d pc ls (XI a :: st) M Post :=
  go_stp (fun hx hb _ _ _ _ o q => lv_i2b hx hb hd (i2b_e a) q) (fun _ h => ok_cI (i32_to _) (ok_t h)) k
theorem g_i2s {a : Int} (hd : decode Y.2.1 pc = .ok (.i2s, 1)) (k : Go X Y d (pc + 1) ls (XI (w16 a) :: st) M Post) : Go X Y d pc ls (XI a :: st) M Post :=
  go_stp (fun hx hb _ _ _ _ o q => lv_i2s hx hb hd (i2s_e a) q) (fun _ h => ok_cI (i32_to _) (ok_t h)) k
-- the stack
theorem g_dupI {a : Int} (hd : decode Y.2.1 pc = .ok (.dup, 1)) (k : Go X Y d (pc + 1) ls (XI a :: XI a :: st) M Post) : Go X Y d pc ls (XI a :: st) M Post :=
  go_stp (fun hx hb _ _ _ _ o q => lv_dup hx hb hd rfl q) (fun _ h => ok_c (ok_h h) h) k
theorem g_dupR {a : Nat} (hd : decode Y.2.1 pc = .ok (.dup, 1)) (k : Go X Y d (pc + 1) ls (XR a :: XR a :: st) M Post) : Go X Y d pc ls (XR a :: st) M Post :=
  go_stp (fun hx hb _ _ _ _ o q => lv_dup hx hb hd rfl q) (fun _ h => ok_c (ok_h h) h) k
theorem g_dup2RI {a : Nat} {i : Int} (hd : decode Y.2.1 pc = .ok (.dup2, 1)) (k : Go X Y d (pc + 1) ls (XI i :: XR a :: XI i :: XR a :: st) M Post) : Go X Y d pc ls (XI i :: XR a :: st) M Post :=
  go_stp (fun hx hb _ _ _ _ o q => lv_dup2_11 hx hb hd rfl rfl q) (fun _ h => ok_c (ok_h h) (ok_c (ok_h (ok_t h)) h)) k
end
