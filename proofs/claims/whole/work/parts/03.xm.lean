section
/-! ===== an abstract machine: cells by index, their contents whole numbers; references are fixed by the layout ===== -/
/-- the tables' words that a method's contract can hand on -/
def xnw : Cond → Bool
  | .fieldLinkNest .. => true
  | .methodLinkNest .. => true
  | _ => false
def xgood : List Cond := lw_tbl.filter goodWord
def xtbl : List Cond := lw_tbl.filter (fun w => goodWord w || xnw w)
theorem at_x {w : Cond} (i : Nat) (h : lw_tbl[i]? = some w) (hg : (goodWord w || xnw w) = true) : w ∈ xtbl := List.mem_filter.mpr ⟨List.mem_of_getElem? h, hg⟩
theorem x_good {w : Cond} (h : w ∈ xtbl) (hg : goodWord w = true) : w ∈ xgood := List.mem_filter.mpr ⟨(List.mem_filter.mp h).1, hg⟩
theorem x_of_good {w : Cond} (h : w ∈ xgood) : w ∈ xtbl ∧ goodWord w = true := ⟨List.mem_filter.mpr ⟨(List.mem_filter.mp h).1, by rw [(List.mem_filter.mp h).2]; rfl⟩, (List.mem_filter.mp h).2⟩
theorem x_ps {ws : List Cond} (hm : ∀ w ∈ ws, w ∈ lw_tbl) (h : ws.all goodWord = true) : ∀ w ∈ ws, w ∈ xtbl := fun w hw => List.mem_filter.mpr ⟨hm w hw, by rw [List.all_eq_true.mp h w hw]; rfl⟩
def XNw (U : State) : Prop := ∀ w ∈ xtbl, xnw w = true → va_Nw w U
theorem XNw.warm {s U : State} (hW : s.WarmedH U.vm) (h : XNw s) : XNw U := by
  intro w hw hn
  have h2 := h w hw hn
  cases w <;> first | exact va_Nw.warmF hW h2 | exact va_Nw.warmM hW h2 | (cases hn)
theorem XNw.same {u U : State} (hv : u.vm = U.vm) (h : XNw u) : XNw U := by
  intro w hw hn
  have h2 := h w hw hn
  cases w <;> first | exact va_Nw.same rfl hv h2 | (cases hn)
theorem XNw.of {s : State} {args : Array Value} (h : ∀ w ∈ xtbl, w.before args s = true) : XNw s := by
  intro w hw hn
  have h2 := h w hw
  cases w <;> first | exact va_Nw.of rfl h2 | (cases hn)
theorem XNw.all {s : State} {args : Array Value} (h : XNw s) (hg : ∀ w ∈ xgood, w.before args s = true) : ∀ w ∈ xtbl, w.before args s = true := by
  intro w hw
  rcases Bool.or_eq_true_iff.mp (List.mem_filter.mp hw).2 with g | g
  · exact hg w (x_good hw g)
  · have h2 := h w hw g
    cases w <;> first | exact va_Nw.use rfl h2 | (cases g)
abbrev XV : Type := Int ⊕ (Int ⊕ Option Nat)
def XI (v : Int) : XV := .inl v
def XL (v : Int) : XV := .inr (.inl v)
def XR (a : Nat) : XV := .inr (.inr (some a))
def XN : XV := .inr (.inr none)
abbrev Mem : Type := Nat → Nat → Int
/-- launch, classes' numbers, addresses, array classes, the script's length and values -/
abbrev XC : Type := Launch × va_G × (Nat → Nat) × (Nat → ClassId) × Nat × (Nat → Int32)
abbrev XC.ad (X : XC) : Nat → Nat := X.2.2.1
abbrev XC.ca (X : XC) : Nat → ClassId := X.2.2.2.1
/-- a method: name, bytes, locals, what it returns -/
abbrev XY : Type := MethodName × ByteArray × Nat × Option FieldType
def xc (ad : Nat → Nat) (v : XV) : Value := match v with
  | .inl v => .int (Int32.ofInt v)
  | .inr (.inl v) => .long (Int64.ofInt v)
  | .inr (.inr (some a)) => .ref (ad a)
  | .inr (.inr none) => .null
def i32 (v : Int) : Prop := -2147483648 ≤ v ∧ v ≤ 2147483647
def i64 (v : Int) : Prop := -9223372036854775808 ≤ v ∧ v ≤ 9223372036854775807
def xok (v : XV) : Prop := match v with
  | .inl v => i32 v
  | .inr (.inl v) => i64 v
  | _ => True
def xlong (v : XV) : Bool := match v with
  | .inr (.inl _) => true
  | _ => false
def wr (M : Mem) (a j : Nat) (v : Int) : Mem := fun b k => if b = a ∧ k = j then v else M b k
def cpM (M : Mem) (a i b j n : Nat) : Mem := fun x k => if x = b ∧ j ≤ k ∧ k < j + n then M a (i + (k - j)) else M x k
/-- the layout: index, kind (1 int, 2 long, 3 boolean, 4 Stage, 5 Tape, 6 rows of longs; 10 + its class an object), length -/
def shL : List (Nat × Nat × Nat) := [(10, 17, 10), (20, 5, 6), (56, 14, 3), (59, 2, 60), (72, 14, 3), (75, 2, 60), (88, 14, 3), (91, 2, 60), (104, 14, 3), (107, 2, 60), (120, 14, 3), (123, 2, 60), (136, 14, 3), (139, 2, 60), (210, 15, 8), (212, 1, 100), (214, 1, 12), (215, 1, 12), (216, 1, 12), (310, 16, 3), (312, 1, 3), (313, 1, 3), (1000, 13, 14), (1003, 1, 8), (1004, 1, 8), (1005, 1, 8), (1009, 4, 8), (1010, 2, 8), (1011, 2, 8), (1020, 10, 3), (1022, 1, 25), (1023, 1, 25), (1045, 12, 9), (1053, 2, 8), (1054, 2, 8), (1061, 12, 9), (1069, 2, 8), (1070, 2, 8), (1077, 12, 9), (1085, 2, 8), (1086, 2, 8), (1093, 12, 9), (1101, 2, 8), (1102, 2, 8), (1109, 12, 9), (1117, 2, 8), (1118, 2, 8), (1125, 12, 9), (1133, 2, 8), (1134, 2, 8), (1141, 12, 9), (1149, 2, 8), (1150, 2, 8), (1157, 12, 9), (1165, 2, 8), (1166, 2, 8), (2000, 13, 14), (2003, 1, 8), (2004, 1, 8), (2005, 1, 8), (2009, 4, 8), (2010, 2, 8), (2011, 2, 8), (2020, 10, 3), (2022, 1, 25), (2023, 1, 25), (2045, 12, 9), (2053, 2, 8), (2054, 2, 8), (2061, 12, 9), (2069, 2, 8), (2070, 2, 8), (2077, 12, 9), (2085, 2, 8), (2086, 2, 8), (2093, 12, 9), (2101, 2, 8), (2102, 2, 8), (2109, 12, 9), (2117, 2, 8), (2118, 2, 8), (2125, 12, 9), (2133, 2, 8), (2134, 2, 8), (2141, 12, 9), (2149, 2, 8), (2150, 2, 8), (2157, 12, 9), (2165, 2, 8), (2166, 2, 8), (11000, 11, 15), (11002, 1, 8), (11003, 3, 8), (11005, 1, 25), (11006, 1, 25), (11011, 1, 5), (11012, 3, 5), (11014, 1, 8), (11015, 1, 8), (12000, 11, 15), (12002, 1, 8), (12003, 3, 8), (12005, 1, 25), (12006, 1, 25), (12011, 1, 5), (12012, 3, 5), (12014, 1, 8), (12015, 1, 8), (13000, 11, 15), (13002, 1, 8), (13003, 3, 8), (13005, 1, 25), (13006, 1, 25), (13011, 1, 5), (13012, 3, 5), (13014, 1, 8), (13015, 1, 8), (20000, 18, 69), (20003, 3, 8), (20004, 1, 8), (20005, 1, 25), (20006, 1, 25), (20012, 1, 5), (20013, 1, 8), (20014, 1, 8), (20015, 3, 5), (20017, 1, 3), (20018, 1, 3), (20020, 1, 25), (20021, 1, 25), (20022, 1, 25), (20025, 1, 8), (20026, 1, 8), (20027, 1, 8), (20028, 1, 8), (20029, 2, 8), (20034, 2, 72), (20035, 2, 9), (20036, 2, 9), (20037, 2, 9), (20038, 2, 9), (20039, 1, 72), (20040, 1, 9), (20041, 1, 9), (20042, 1, 9), (20043, 1, 8), (20044, 3, 8), (20045, 1, 25), (20046, 1, 100), (20053, 1, 12), (20054, 1, 12), (20055, 1, 12), (20057, 1, 7), (20058, 1, 8), (20059, 1, 25), (20060, 1, 25), (20061, 1, 5), (20062, 1, 8), (20063, 1, 8), (20064, 3, 8), (20065, 3, 5), (20066, 1, 6), (20067, 1, 6), (20068, 6, 6), (20069, 2, 60), (20104, 2, 60), (20120, 2, 60), (20136, 2, 60), (20152, 2, 60), (20168, 2, 60), (20184, 2, 60)]
/-- fields: kind (0 int, 1 long, 2 boolean, 3 a reference), how far on -/
def fkL : List (List (Nat × Nat)) := [[(0, 0), (3, 2), (3, 3)],
  [(0, 0), (3, 2), (3, 3), (0, 0), (3, 5), (3, 6), (0, 0), (0, 0), (0, 0), (0, 0), (3, 11), (3, 12), (0, 0), (3, 14), (3, 15)],
  [(0, 0), (0, 0), (0, 0), (1, 0), (1, 0), (1, 0), (1, 0), (3, 8), (3, 9)],
  [(3, 10000), (3, 20), (3, 3), (3, 4), (3, 5), (0, 0), (0, 0), (0, 0), (3, 9), (3, 10), (3, 11), (1, 0), (1, 0), (1, 0)],
  [(0, 0), (0, 0), (3, 3)],
  [(0, 0), (3, 2), (0, 0), (3, 4), (3, 5), (3, 6), (0, 0), (2, 0)],
  [(0, 0), (3, 2), (3, 3)],
  [(3, 10990), (3, 11990), (3, 12990), (2, 0), (3, 990), (3, 1990), (2, 0), (3, 200), (3, 300), (3, 10)],
  [(0, 0), (0, 0), (3, 3), (3, 4), (3, 5), (3, 6), (0, 0), (0, 0), (0, 0), (0, 0), (0, 0), (3, 12), (3, 13), (3, 14), (3, 15), (0, 0), (3, 17), (3, 18), (0, 0), (3, 20), (3, 21), (3, 22), (0, 0), (0, 0), (3, 25), (3, 26), (3, 27), (3, 28), (3, 29), (1, 0), (1, 0), (1, 0), (1, 0), (3, 34), (3, 35), (3, 36), (3, 37), (3, 38), (3, 39), (3, 40), (3, 41), (3, 42), (3, 43), (3, 44), (3, 45), (3, 46), (0, 0), (0, 0), (0, 0), (0, 0), (0, 0), (2, 0), (3, 53), (3, 54), (3, 55), (2, 0), (3, 57), (3, 58), (3, 59), (3, 60), (3, 61), (3, 62), (3, 63), (3, 64), (3, 65), (3, 66), (3, 67), (3, 68), (3, 69)]]
def shF : List (Nat × Nat × Nat) → Nat → Nat × Nat
  | [], _ => (9, 0)
  | (a, k) :: r, i => if i = a then k else shF r i
def Sh (i : Nat) : Nat × Nat := shF shL i
def FK (ci k : Nat) : Nat × Nat := (fkL.getD ci []).getD k (9, 0)
def xfv (ad : Nat → Nat) (M : Mem) (i ci k : Nat) : Value := match (FK ci k).1 with
  | 0 => .int (Int32.ofInt (M i k))
  | 1 => .long (Int64.ofInt (M i k))
  | 2 => .int (Int32.ofInt (M i k))
  | _ => .ref (ad (i + (FK ci k).2))
def xrf (ad : Nat → Nat) (i n j : Nat) : Option Nat := if j < n then some (ad (i + 36 + 16 * j)) else none
def xcont (X : XC) (M : Mem) (i : Nat) : va_E := match (Sh i).1 with
  | 1 => .inl (X.ca 0, (Sh i).2, .inl (fun j => Int32.ofInt (M i j)))
  | 2 => .inl (X.ca 1, (Sh i).2, .inr (.inl (fun j => Int64.ofInt (M i j))))
  | 3 => .inl (X.ca 2, (Sh i).2, .inl (fun j => Int32.ofInt (M i j)))
  | 4 => .inl (X.ca 3, (Sh i).2, .inr (.inr (.inr (.inr (xrf X.ad i (Sh i).2)))))
  | 5 => .inl (X.ca 4, (Sh i).2, .inr (.inr (.inr (.inr (xrf X.ad i (Sh i).2)))))
  | 6 => .inl (X.ca 5, (Sh i).2, .inr (.inr (.inr (.inr (xrf X.ad i (Sh i).2)))))
  | k => .inr (k - 10, (List.range (Sh i).2).map (xfv X.ad M i (k - 10)))
def xkind (i j : Nat) : Nat := match (Sh i).1 with
  | 1 => 0
  | 2 => 1
  | 3 => 2
  | 4 => 9
  | 5 => 9
  | 6 => 9
  | k => if 10 ≤ k then (FK (k - 10) j).1 else 9
def xrg (k : Nat) (v : Int) : Prop := match k with
  | 0 => i32 v
  | 1 => i64 v
  | 2 => v = 0 ∨ v = 1
  | _ => True
def MR (M : Mem) : Prop := ∀ i j, xrg (xkind i j) (M i j)
def xcells : List Nat := shL.map (·.1)
def wsM (X : XC) (M : Mem) : va_W := xcells.map (fun i => (X.ad i, xcont X M i))
def XA (X : XC) : Nat → Prop := fun q => ∃ i, i ∈ xcells ∧ q = X.ad i
def XInj (X : XC) : Prop := ∀ i j, i ∈ xcells → j ∈ xcells → X.ad i = X.ad j → i = j
def xtys (X : XC) : List (ClassId × FieldType) := [(X.ca 0, .int), (X.ca 1, .long), (X.ca 2, .boolean), (X.ca 3, .object "KeepCount$Stage"), (X.ca 4, .object "KeepCount$Tape"), (X.ca 5, .array .long)]
def xpl (j : Nat) : Int := ([10000000, 1000000, 100000, 10000, 1000, 100, 10, 1] : List Int).getD j 0
/-- what never changes: the static PLACES (index 7), the script (index 5) -/
def XSt (X : XC) (U : State) (H : Heap) : Prop := va_Z "KeepCount" "PLACES" "[I" (.ref (X.ad 7)) (XA X) U H ∧ va_T .int (X.ad 7) 8 (fun j => .int (Int32.ofInt (xpl j))) (XA X) U H ∧ va_X (X.ad 5) X.2.2.2.2.1 X.2.2.2.2.2 U H ∧ X.ad 5 < H.size ∧ ¬ XA X (X.ad 5)
def xls (X : XC) (ls : List (Nat × XV)) : List (Nat × Value) := ls.map (fun q => (q.1, xc X.ad q.2))
def xst (X : XC) (st : List XV) : List Value := st.map (xc X.ad)
def XCtx (X : XC) (Y : XY) (d : Nat) (p : Program) (R : Room) (s : State) (m : MethodId) (args : Array Value) (meth : Method) (c : Code) (cells slots : Nat) : Prop :=
  p.tables.exec = Jvm.exec ∧ c.code = Y.2.1 ∧ c.maxLocals = Y.2.2.1 ∧ s.vm.findClass Y.1.cls = some m.cls ∧ (∀ w ∈ xtbl, w.before args s = true) ∧ va_K X.2.1 vwCl (xtys X) s ∧ XInj X ∧ XSt X s s.heap ∧ d ≤ R.frames ∧ 37 * d ≤ R.locals ∧ cells ≤ R.cells ∧ slots ≤ R.slots
def XRet (Y : XY) (pc : Nat) (r : Option XV) : Prop := match r with
  | none => decode Y.2.1 pc = .ok (.return_, 1) ∧ Y.2.2.2 = none
  | some (.inl v) => decode Y.2.1 pc = .ok (.ireturn, 1) ∧ (Y.2.2.2 = some .int ∨ (Y.2.2.2 = some .boolean ∧ (v = 0 ∨ v = 1)))
  | some (.inr (.inl _)) => decode Y.2.1 pc = .ok (.lreturn, 1) ∧ Y.2.2.2 = some .long
  | some (.inr (.inr _)) => decode Y.2.1 pc = .ok (.areturn, 1) ∧ ∃ n, Y.2.2.2 = some (.object n)
def XF (X : XC) (M : Mem) (s : State) (H : Heap) (locs : List Loc) : Prop := va_P X.2.1 vwCl (wsM X M) H ∧ va_S (XA X) s.heap H locs
/-- from here the method ends, and what it answers and leaves is as Post says -/
def Go (X : XC) (Y : XY) (d pc : Nat) (ls : List (Nat × XV)) (st : List XV) (M : Mem) (Post : Option XV → Mem → Prop) : Prop :=
  (∀ q ∈ ls, xok q.2) → (∀ v ∈ st, xok v) → MR M →
  ∀ (p : Program) (e : Env) (R : Room) (s : State) (m : MethodId) (args : Array Value) (below : List Frame) (meth : Method) (c : Code) (cells slots : Nat) (Q : State → Prop) (H : Heap) (locs : List Loc) (lsA : Array Slot),
    XCtx X Y d p R s m args meth c cells slots → XF X M s H locs → lv_has lsA Y.2.2.1 (xls X ls) →
    (∀ (r : Option XV) (M' : Mem) (H' : Heap) (locs' : List Loc) (pc' : Nat) (lsA' : Array Slot), Post r M' → XRet Y pc' r → (∀ v ∈ r, xok v) → MR M' → XF X M' s H' locs' →
      W p X.1 e R s m args below meth c H' locs' cells slots Q (F0 m pc' lsA' (xst X r.toList))) →
    W p X.1 e R s m args below meth c H locs cells slots Q (F0 m pc lsA (xst X st))
def xrm (d : Nat) : Room := { frames := d, cells := 0, slots := 0, locals := 37 * d }
def xws (Y : XY) : List Cond := .code Y.1 Y.2.1 Y.2.2.1 Y.2.2.2 :: xgood
def Wd (X : XC) (M : Mem) (U : State) : Prop := va_P X.2.1 vwCl (wsM X M) U.heap ∧ va_K X.2.1 vwCl (xtys X) U ∧ XInj X ∧ XSt X U U.heap ∧ XNw U
def QP (X : XC) (Post : Option XV → Mem → Prop) : Array Value → State → Outcome → State → Prop := fun _ st o t =>
  ∃ (r : Option XV) (M' : Mem), Post r M' ∧ (∀ v ∈ r, xok v) ∧ MR M' ∧ o = .returned (r.map (xc X.ad)) ∧ va_P X.2.1 vwCl (wsM X M') t.heap ∧ va_F (XA X) st t
/-- a method's contract: called with as at M, it ends as Post says -/
def Ct (X : XC) (Y : XY) (d : Nat) (as : List XV) (M : Mem) (Post : Option XV → Mem → Prop) : Prop :=
  (∀ v ∈ as, xok v) → MR M → Met X.1 Y.1 (xws Y) (xrm d) (va_Pc (as.map (xc X.ad)) (Wd X M)) (QP X Post) 0 0 (XA X)
/-! ===== numbers ===== -/
theorem i32_eq {v : Int} (h : i32 v) : (Int32.ofInt v).toInt = v := Int32.toInt_ofInt_of_le (by have := h.1; omega) (by have := h.2; omega)
theorem i64_eq {v : Int} (h : i64 v) : (Int64.ofInt v).toInt = v := Int64.toInt_ofInt_of_le (by have := h.1; omega) (by have := h.2; omega)
theorem i32_lt {a b : Int} (ha : i32 a) (hb : i32 b) : Int32.ofInt a < Int32.ofInt b ↔ a < b := by rw [Int32.lt_iff_toInt_lt, i32_eq ha, i32_eq hb]
theorem i32_le {a b : Int} (ha : i32 a) (hb : i32 b) : Int32.ofInt a ≤ Int32.ofInt b ↔ a ≤ b := by rw [Int32.le_iff_toInt_le, i32_eq ha, i32_eq hb]
theorem i32_inj {a b : Int} (ha : i32 a) (hb : i32 b) : Int32.ofInt a = Int32.ofInt b ↔ a = b := by rw [← Int32.toInt_inj, i32_eq ha, i32_eq hb]
theorem i64_lt {a b : Int} (ha : i64 a) (hb : i64 b) : Int64.ofInt a < Int64.ofInt b ↔ a < b := by rw [Int64.lt_iff_toInt_lt, i64_eq ha, i64_eq hb]
theorem i64_inj {a b : Int} (ha : i64 a) (hb : i64 b) : Int64.ofInt a = Int64.ofInt b ↔ a = b := by rw [← Int64.toInt_inj, i64_eq ha, i64_eq hb]
theorem i32_0 : i32 0 := by constructor <;> decide
theorem i32_to (x : Int32) : i32 x.toInt := ⟨by have := Int32.le_toInt x; omega, by have := Int32.toInt_lt x; omega⟩
theorem i64_to (x : Int64) : i64 x.toInt := ⟨by have := Int64.le_toInt x; omega, by have := Int64.toInt_lt x; omega⟩
theorem i32_64 {v : Int} (h : i32 v) : i64 v := ⟨by have := h.1; omega, by have := h.2; omega⟩
theorem i32_nat {v : Int} (h : i32 v) (h0 : 0 ≤ v) : (Int32.ofInt v).toNatClampNeg = v.toNat := by
  show (Int32.ofInt v).toInt.toNat = _
  rw [i32_eq h]
theorem i32_vin {v : Int} {n : Nat} (h : i32 v) (h0 : 0 ≤ v) (hn : v < n) : vp_in (Int32.ofInt v) n := vp_in_iff.mpr (by rw [i32_eq h]; exact ⟨h0, hn⟩)
/-! ===== the world by index ===== -/
theorem shF_mem : ∀ (l : List (Nat × Nat × Nat)) (i : Nat), (shF l i).1 ≠ 9 → i ∈ l.map (·.1)
  | [], i, h => absurd rfl h
  | (a, k) :: r, i, h => by
    by_cases e : i = a
    · subst e; exact List.mem_cons_self
    · have h2 : (shF r i).1 ≠ 9 := by
        intro q
        apply h
        show (if i = a then k else shF r i).1 = 9
        rw [if_neg e]
        exact q
      exact List.mem_cons_of_mem _ (shF_mem r i h2)
theorem Sh_mem {i k n : Nat} (h : Sh i = (k, n)) (hk : k ≠ 9) : i ∈ xcells := shF_mem shL i (by show (Sh i).1 ≠ 9; rw [h]; exact hk)
theorem xcells_nd : va_nd xcells = true := by decide +kernel
theorem xat {i : Nat} (h : i ∈ xcells) : ∃ q : Nat, xcells[q]? = some i := List.getElem?_of_mem h
theorem ws_at (X : XC) (M : Mem) {q i : Nat} (h : xcells[q]? = some i) : (wsM X M)[q]? = some (X.ad i, xcont X M i) := by
  rw [wsM, List.getElem?_map, h]; rfl
theorem ws_set (X : XC) {M M' : Mem} {q i : Nat} (h : xcells[q]? = some i) (ho : ∀ j, j ≠ i → M' j = M j) : (wsM X M).set q (X.ad i, xcont X M' i) = wsM X M' := by
  have hl : q < xcells.length := (List.getElem?_eq_some_iff.mp h).1
  apply List.ext_getElem?
  intro k
  by_cases hk : k = q
  · subst hk
    rw [List.getElem?_set_self (by rw [wsM, List.length_map]; exact hl), ws_at X M' h]
  · rw [List.getElem?_set_ne (Ne.symm hk), wsM, wsM, List.getElem?_map, List.getElem?_map]
    cases hj : xcells[k]? with
    | none => rfl
    | some j =>
      have hne : j ≠ i := fun e => hk (va_nd_inj xcells xcells_nd k q i (e ▸ hj) h)
      show some (X.ad j, xcont X M j) = some (X.ad j, xcont X M' j)
      have he : xcont X M j = xcont X M' j := by
        have this := ho j hne
        have hx : ∀ ci, xfv X.ad M j ci = xfv X.ad M' j ci := fun ci => by funext k; simp only [xfv, this]
        simp only [xcont, this, hx]
      rw [he]
theorem wsD (X : XC) (M : Mem) (h : XInj X) : va_D (XA X) (wsM X M) := by
  have key : ∀ (k : Nat) (q : Nat × va_E), (wsM X M)[k]? = some q → ∃ i, xcells[k]? = some i ∧ q = (X.ad i, xcont X M i) := by
    intro k q hk
    rw [wsM, List.getElem?_map] at hk
    cases hi : xcells[k]? with
    | none => rw [hi] at hk; cases hk
    | some i => rw [hi] at hk; exact ⟨i, rfl, (Option.some.inj hk).symm⟩
  refine ⟨fun i j p q hi hj e => ?_, fun k q hk => ?_⟩
  · obtain ⟨a, ha, rfl⟩ := key i p hi
    obtain ⟨b, hb, rfl⟩ := key j q hj
    have hab : a = b := h a b (List.mem_of_getElem? ha) (List.mem_of_getElem? hb) e
    subst hab
    exact va_nd_inj xcells xcells_nd i j a ha hb
  · obtain ⟨a, ha, rfl⟩ := key k q hk
    exact ⟨a, List.mem_of_getElem? ha, rfl⟩
theorem xcont1 (X : XC) (M : Mem) {i n : Nat} (h : Sh i = (1, n)) : xcont X M i = .inl (X.ca 0, n, .inl (fun j => Int32.ofInt (M i j))) := by simp only [xcont, h]
theorem xcont2 (X : XC) (M : Mem) {i n : Nat} (h : Sh i = (2, n)) : xcont X M i = .inl (X.ca 1, n, .inr (.inl (fun j => Int64.ofInt (M i j)))) := by simp only [xcont, h]
theorem xcont3 (X : XC) (M : Mem) {i n : Nat} (h : Sh i = (3, n)) : xcont X M i = .inl (X.ca 2, n, .inl (fun j => Int32.ofInt (M i j))) := by simp only [xcont, h]
theorem xcont4 (X : XC) (M : Mem) {i n : Nat} (h : Sh i = (4, n)) : xcont X M i = .inl (X.ca 3, n, .inr (.inr (.inr (.inr (xrf X.ad i n))))) := by simp only [xcont, h]
theorem xcont5 (X : XC) (M : Mem) {i n : Nat} (h : Sh i = (5, n)) : xcont X M i = .inl (X.ca 4, n, .inr (.inr (.inr (.inr (xrf X.ad i n))))) := by simp only [xcont, h]
theorem xcont6 (X : XC) (M : Mem) {i n : Nat} (h : Sh i = (6, n)) : xcont X M i = .inl (X.ca 5, n, .inr (.inr (.inr (.inr (xrf X.ad i n))))) := by simp only [xcont, h]
theorem xcontO (X : XC) (M : Mem) {i ci n : Nat} (h : Sh i = (10 + ci, n)) : xcont X M i = .inr (ci, (List.range n).map (xfv X.ad M i ci)) := by
  have e : 10 + ci - 10 = ci := by omega
  have h1 : 10 + ci ≠ 1 := by omega
  have h2 : 10 + ci ≠ 2 := by omega
  have h3 : 10 + ci ≠ 3 := by omega
  have h4 : 10 + ci ≠ 4 := by omega
  have h5 : 10 + ci ≠ 5 := by omega
  have h6 : 10 + ci ≠ 6 := by omega
  unfold xcont
  rw [h]
  dsimp only
  split <;> first | contradiction | (rw [e])
end
