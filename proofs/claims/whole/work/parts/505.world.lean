section
/-! the first memory, and the worlds of the two constructors by index -/
def lkI : List (Nat × Int) → Nat → Int
  | [], _ => 0
  | (a, v) :: r, j => if j = a then v else lkI r j
def lkM : List (Nat × List (Nat × Int)) → Nat → List (Nat × Int)
  | [], _ => []
  | (a, v) :: r, i => if i = a then v else lkM r i
def M0l : List (Nat × List (Nat × Int)) := [(11000, [(6, 1), (7, 1000), (8, 20)]), (12000, [(6, 1), (7, 1000), (8, 20)]), (13000, [(6, 1), (7, 1000), (8, 20)]), (1045, [(1, -5)]), (1061, [(1, -5)]), (1077, [(1, -5)]), (1093, [(1, -5)]), (1109, [(1, -5)]), (1125, [(1, -5)]), (1141, [(1, -5)]), (1157, [(1, -5)]), (2045, [(1, -5)]), (2061, [(1, -5)]), (2077, [(1, -5)]), (2093, [(1, -5)]), (2109, [(1, -5)]), (2125, [(1, -5)]), (2141, [(1, -5)]), (2157, [(1, -5)]), (56, [(0, -1)]), (72, [(0, -1)]), (88, [(0, -1)]), (104, [(0, -1)]), (120, [(0, -1)]), (136, [(0, -1)]), (20000, [(6, 1), (7, 1000), (8, 20)]), (20066, [(5, -1), (4, -1), (3, -1), (2, -1), (1, -1), (0, -1)])]
def M0 : Mem := fun i j => lkI (lkM M0l i) j
def cellM (X : XC) (j : Nat) : Nat × va_E := (X.ad j, xcont X M0 j)
def look : List (Nat × Nat) → Nat → Nat
  | [], _ => 0
  | (a, v) :: r, i => if i = a then v else look r i
theorem lkI_mem : ∀ (l : List (Nat × Int)) (j : Nat), lkI l j = 0 ∨ (j, lkI l j) ∈ l
  | [], _ => Or.inl rfl
  | (a, v) :: r, j => by
    unfold lkI
    by_cases e : j = a
    · rw [if_pos e, e]; exact Or.inr List.mem_cons_self
    · rw [if_neg e]
      exact (lkI_mem r j).imp id (fun h => List.mem_cons_of_mem _ h)
theorem lkM_mem : ∀ (l : List (Nat × List (Nat × Int))) (i : Nat), lkM l i = [] ∨ (i, lkM l i) ∈ l
  | [], _ => Or.inl rfl
  | (a, v) :: r, i => by
    unfold lkM
    by_cases e : i = a
    · rw [if_pos e, e]; exact Or.inr List.mem_cons_self
    · rw [if_neg e]
      exact (lkM_mem r i).imp id (fun h => List.mem_cons_of_mem _ h)
theorem M0_kinds : ∀ e ∈ M0l, ∀ f ∈ e.2, xkind e.1 f.1 = 0 ∧ -2147483648 ≤ f.2 ∧ f.2 ≤ 2147483647 := by decide +kernel
theorem xrg_0 (k : Nat) : xrg k 0 := by
  unfold xrg
  split
  · exact i32_0
  · exact i32_64 i32_0
  · exact Or.inl rfl
  · trivial
theorem M0_MR : MR M0 := fun i j => by
  show xrg (xkind i j) (lkI (lkM M0l i) j)
  rcases lkI_mem (lkM M0l i) j with h | h
  · rw [h]; exact xrg_0 _
  · rcases lkM_mem M0l i with h2 | h2
    · rw [h2] at h; cases h
    · obtain ⟨a, b⟩ := M0_kinds _ h2 _ h
      rw [show xkind i j = 0 from a]
      exact b
theorem up6 (f : Nat → Nat) : va_up (va_up (va_up (va_up (va_up (va_up (fun _ => none) 0 (some (f 0))) 1 (some (f 1))) 2 (some (f 2))) 3 (some (f 3))) 4 (some (f 4))) 5 (some (f 5)) = fun j => if j < 6 then some (f j) else none := by
  funext j
  rcases (show j = 0 ∨ j = 1 ∨ j = 2 ∨ j = 3 ∨ j = 4 ∨ j = 5 ∨ 6 ≤ j by omega) with h | h | h | h | h | h | h
  · subst h; rfl
  · subst h; rfl
  · subst h; rfl
  · subst h; rfl
  · subst h; rfl
  · subst h; rfl
  · rw [if_neg (by omega), va_up_ne _ _ (by omega), va_up_ne _ _ (by omega), va_up_ne _ _ (by omega), va_up_ne _ _ (by omega), va_up_ne _ _ (by omega), va_up_ne _ _ (by omega)]
theorem up8 (f : Nat → Nat) : va_up (va_up (va_up (va_up (va_up (va_up (va_up (va_up (fun _ => none) 0 (some (f 0))) 1 (some (f 1))) 2 (some (f 2))) 3 (some (f 3))) 4 (some (f 4))) 5 (some (f 5))) 6 (some (f 6))) 7 (some (f 7)) = fun j => if j < 8 then some (f j) else none := by
  funext j
  rcases (show j = 0 ∨ j = 1 ∨ j = 2 ∨ j = 3 ∨ j = 4 ∨ j = 5 ∨ j = 6 ∨ j = 7 ∨ 8 ≤ j by omega) with h | h | h | h | h | h | h | h | h
  · subst h; rfl
  · subst h; rfl
  · subst h; rfl
  · subst h; rfl
  · subst h; rfl
  · subst h; rfl
  · subst h; rfl
  · subst h; rfl
  · rw [if_neg (by omega), va_up_ne _ _ (by omega), va_up_ne _ _ (by omega), va_up_ne _ _ (by omega), va_up_ne _ _ (by omega), va_up_ne _ _ (by omega), va_up_ne _ _ (by omega), va_up_ne _ _ (by omega), va_up_ne _ _ (by omega)]
theorem upS : upd (upd (upd (upd (upd (upd (fun _ => Int32.ofInt 0) 0 (Int32.ofInt (-1))) 1 (Int32.ofInt (-1))) 2 (Int32.ofInt (-1))) 3 (Int32.ofInt (-1))) 4 (Int32.ofInt (-1))) 5 (Int32.ofInt (-1)) = fun j => Int32.ofInt (M0 20066 j) := by
  funext j
  rcases (show j = 0 ∨ j = 1 ∨ j = 2 ∨ j = 3 ∨ j = 4 ∨ j = 5 ∨ 6 ≤ j by omega) with h | h | h | h | h | h | h
  · subst h; rfl
  · subst h; rfl
  · subst h; rfl
  · subst h; rfl
  · subst h; rfl
  · subst h; rfl
  · have e : M0 20066 j = 0 := by
      show (if j = 5 then (-1 : Int) else if j = 4 then -1 else if j = 3 then -1 else if j = 2 then -1 else if j = 1 then -1 else if j = 0 then -1 else 0) = 0
      rw [if_neg (by omega), if_neg (by omega), if_neg (by omega), if_neg (by omega), if_neg (by omega), if_neg (by omega)]
    rw [e]
    simp only [upd]
    rw [if_neg (by omega), if_neg (by omega), if_neg (by omega), if_neg (by omega), if_neg (by omega), if_neg (by omega)]
theorem w_X0_1020 {X : XC} {x0 : Nat} {r : Nat → Nat → Nat} (hx : x0 = X.ad 1020) (h0 : r 0 0 = X.ad 1022) (h1 : r 0 1 = X.ad 1023) : wX0_init X.ca x0 r = ([1020, 1022, 1023] : List Nat).map (cellM X) := by
  subst hx
  unfold wX0_init
  rw [h0, h1]
  rfl
theorem w_X3_1045 {X : XC} {x0 : Nat} {r : Nat → Nat → Nat} (hx : x0 = X.ad 1045) (h0 : r 0 0 = X.ad 1053) (h1 : r 0 1 = X.ad 1054) : wX3_init X.ca x0 r = ([1045, 1053, 1054] : List Nat).map (cellM X) := by
  subst hx
  unfold wX3_init
  rw [h0, h1]
  rfl
theorem w_X3_1061 {X : XC} {x0 : Nat} {r : Nat → Nat → Nat} (hx : x0 = X.ad 1061) (h0 : r 0 0 = X.ad 1069) (h1 : r 0 1 = X.ad 1070) : wX3_init X.ca x0 r = ([1061, 1069, 1070] : List Nat).map (cellM X) := by
  subst hx
  unfold wX3_init
  rw [h0, h1]
  rfl
theorem w_X3_1077 {X : XC} {x0 : Nat} {r : Nat → Nat → Nat} (hx : x0 = X.ad 1077) (h0 : r 0 0 = X.ad 1085) (h1 : r 0 1 = X.ad 1086) : wX3_init X.ca x0 r = ([1077, 1085, 1086] : List Nat).map (cellM X) := by
  subst hx
  unfold wX3_init
  rw [h0, h1]
  rfl
theorem w_X3_1093 {X : XC} {x0 : Nat} {r : Nat → Nat → Nat} (hx : x0 = X.ad 1093) (h0 : r 0 0 = X.ad 1101) (h1 : r 0 1 = X.ad 1102) : wX3_init X.ca x0 r = ([1093, 1101, 1102] : List Nat).map (cellM X) := by
  subst hx
  unfold wX3_init
  rw [h0, h1]
  rfl
theorem w_X3_1109 {X : XC} {x0 : Nat} {r : Nat → Nat → Nat} (hx : x0 = X.ad 1109) (h0 : r 0 0 = X.ad 1117) (h1 : r 0 1 = X.ad 1118) : wX3_init X.ca x0 r = ([1109, 1117, 1118] : List Nat).map (cellM X) := by
  subst hx
  unfold wX3_init
  rw [h0, h1]
  rfl
theorem w_X3_1125 {X : XC} {x0 : Nat} {r : Nat → Nat → Nat} (hx : x0 = X.ad 1125) (h0 : r 0 0 = X.ad 1133) (h1 : r 0 1 = X.ad 1134) : wX3_init X.ca x0 r = ([1125, 1133, 1134] : List Nat).map (cellM X) := by
  subst hx
  unfold wX3_init
  rw [h0, h1]
  rfl
theorem w_X3_1141 {X : XC} {x0 : Nat} {r : Nat → Nat → Nat} (hx : x0 = X.ad 1141) (h0 : r 0 0 = X.ad 1149) (h1 : r 0 1 = X.ad 1150) : wX3_init X.ca x0 r = ([1141, 1149, 1150] : List Nat).map (cellM X) := by
  subst hx
  unfold wX3_init
  rw [h0, h1]
  rfl
theorem w_X3_1157 {X : XC} {x0 : Nat} {r : Nat → Nat → Nat} (hx : x0 = X.ad 1157) (h0 : r 0 0 = X.ad 1165) (h1 : r 0 1 = X.ad 1166) : wX3_init X.ca x0 r = ([1157, 1165, 1166] : List Nat).map (cellM X) := by
  subst hx
  unfold wX3_init
  rw [h0, h1]
  rfl
theorem w_X0_2020 {X : XC} {x0 : Nat} {r : Nat → Nat → Nat} (hx : x0 = X.ad 2020) (h0 : r 0 0 = X.ad 2022) (h1 : r 0 1 = X.ad 2023) : wX0_init X.ca x0 r = ([2020, 2022, 2023] : List Nat).map (cellM X) := by
  subst hx
  unfold wX0_init
  rw [h0, h1]
  rfl
theorem w_X3_2045 {X : XC} {x0 : Nat} {r : Nat → Nat → Nat} (hx : x0 = X.ad 2045) (h0 : r 0 0 = X.ad 2053) (h1 : r 0 1 = X.ad 2054) : wX3_init X.ca x0 r = ([2045, 2053, 2054] : List Nat).map (cellM X) := by
  subst hx
  unfold wX3_init
  rw [h0, h1]
  rfl
theorem w_X3_2061 {X : XC} {x0 : Nat} {r : Nat → Nat → Nat} (hx : x0 = X.ad 2061) (h0 : r 0 0 = X.ad 2069) (h1 : r 0 1 = X.ad 2070) : wX3_init X.ca x0 r = ([2061, 2069, 2070] : List Nat).map (cellM X) := by
  subst hx
  unfold wX3_init
  rw [h0, h1]
  rfl
theorem w_X3_2077 {X : XC} {x0 : Nat} {r : Nat → Nat → Nat} (hx : x0 = X.ad 2077) (h0 : r 0 0 = X.ad 2085) (h1 : r 0 1 = X.ad 2086) : wX3_init X.ca x0 r = ([2077, 2085, 2086] : List Nat).map (cellM X) := by
  subst hx
  unfold wX3_init
  rw [h0, h1]
  rfl
theorem w_X3_2093 {X : XC} {x0 : Nat} {r : Nat → Nat → Nat} (hx : x0 = X.ad 2093) (h0 : r 0 0 = X.ad 2101) (h1 : r 0 1 = X.ad 2102) : wX3_init X.ca x0 r = ([2093, 2101, 2102] : List Nat).map (cellM X) := by
  subst hx
  unfold wX3_init
  rw [h0, h1]
  rfl
theorem w_X3_2109 {X : XC} {x0 : Nat} {r : Nat → Nat → Nat} (hx : x0 = X.ad 2109) (h0 : r 0 0 = X.ad 2117) (h1 : r 0 1 = X.ad 2118) : wX3_init X.ca x0 r = ([2109, 2117, 2118] : List Nat).map (cellM X) := by
  subst hx
  unfold wX3_init
  rw [h0, h1]
  rfl
theorem w_X3_2125 {X : XC} {x0 : Nat} {r : Nat → Nat → Nat} (hx : x0 = X.ad 2125) (h0 : r 0 0 = X.ad 2133) (h1 : r 0 1 = X.ad 2134) : wX3_init X.ca x0 r = ([2125, 2133, 2134] : List Nat).map (cellM X) := by
  subst hx
  unfold wX3_init
  rw [h0, h1]
  rfl
theorem w_X3_2141 {X : XC} {x0 : Nat} {r : Nat → Nat → Nat} (hx : x0 = X.ad 2141) (h0 : r 0 0 = X.ad 2149) (h1 : r 0 1 = X.ad 2150) : wX3_init X.ca x0 r = ([2141, 2149, 2150] : List Nat).map (cellM X) := by
  subst hx
  unfold wX3_init
  rw [h0, h1]
  rfl
theorem w_X3_2157 {X : XC} {x0 : Nat} {r : Nat → Nat → Nat} (hx : x0 = X.ad 2157) (h0 : r 0 0 = X.ad 2165) (h1 : r 0 1 = X.ad 2166) : wX3_init X.ca x0 r = ([2157, 2165, 2166] : List Nat).map (cellM X) := by
  subst hx
  unfold wX3_init
  rw [h0, h1]
  rfl
theorem w_X1_11000 {X : XC} {x0 : Nat} {r : Nat → Nat → Nat} (hx : x0 = X.ad 11000) (h0 : r 0 0 = X.ad 11002) (h1 : r 0 1 = X.ad 11003) (h2 : r 0 2 = X.ad 11005) (h3 : r 0 3 = X.ad 11006) (h4 : r 0 4 = X.ad 11011) (h5 : r 0 5 = X.ad 11012) (h6 : r 0 6 = X.ad 11014) (h7 : r 0 7 = X.ad 11015) : wX1_init X.ca x0 r = ([11000, 11002, 11003, 11005, 11006, 11011, 11012, 11014, 11015] : List Nat).map (cellM X) := by
  subst hx
  unfold wX1_init
  rw [h0, h1, h2, h3, h4, h5, h6, h7]
  rfl
theorem w_X1_12000 {X : XC} {x0 : Nat} {r : Nat → Nat → Nat} (hx : x0 = X.ad 12000) (h0 : r 0 0 = X.ad 12002) (h1 : r 0 1 = X.ad 12003) (h2 : r 0 2 = X.ad 12005) (h3 : r 0 3 = X.ad 12006) (h4 : r 0 4 = X.ad 12011) (h5 : r 0 5 = X.ad 12012) (h6 : r 0 6 = X.ad 12014) (h7 : r 0 7 = X.ad 12015) : wX1_init X.ca x0 r = ([12000, 12002, 12003, 12005, 12006, 12011, 12012, 12014, 12015] : List Nat).map (cellM X) := by
  subst hx
  unfold wX1_init
  rw [h0, h1, h2, h3, h4, h5, h6, h7]
  rfl
theorem w_X1_13000 {X : XC} {x0 : Nat} {r : Nat → Nat → Nat} (hx : x0 = X.ad 13000) (h0 : r 0 0 = X.ad 13002) (h1 : r 0 1 = X.ad 13003) (h2 : r 0 2 = X.ad 13005) (h3 : r 0 3 = X.ad 13006) (h4 : r 0 4 = X.ad 13011) (h5 : r 0 5 = X.ad 13012) (h6 : r 0 6 = X.ad 13014) (h7 : r 0 7 = X.ad 13015) : wX1_init X.ca x0 r = ([13000, 13002, 13003, 13005, 13006, 13011, 13012, 13014, 13015] : List Nat).map (cellM X) := by
  subst hx
  unfold wX1_init
  rw [h0, h1, h2, h3, h4, h5, h6, h7]
  rfl
theorem w_X5_56 {X : XC} {x0 : Nat} {r : Nat → Nat → Nat} (hx : x0 = X.ad 56) (h0 : r 0 0 = X.ad 59) : wX5_init X.ca x0 r = ([56, 59] : List Nat).map (cellM X) := by
  subst hx
  unfold wX5_init
  rw [h0]
  rfl
theorem w_X5_72 {X : XC} {x0 : Nat} {r : Nat → Nat → Nat} (hx : x0 = X.ad 72) (h0 : r 0 0 = X.ad 75) : wX5_init X.ca x0 r = ([72, 75] : List Nat).map (cellM X) := by
  subst hx
  unfold wX5_init
  rw [h0]
  rfl
theorem w_X5_88 {X : XC} {x0 : Nat} {r : Nat → Nat → Nat} (hx : x0 = X.ad 88) (h0 : r 0 0 = X.ad 91) : wX5_init X.ca x0 r = ([88, 91] : List Nat).map (cellM X) := by
  subst hx
  unfold wX5_init
  rw [h0]
  rfl
theorem w_X5_104 {X : XC} {x0 : Nat} {r : Nat → Nat → Nat} (hx : x0 = X.ad 104) (h0 : r 0 0 = X.ad 107) : wX5_init X.ca x0 r = ([104, 107] : List Nat).map (cellM X) := by
  subst hx
  unfold wX5_init
  rw [h0]
  rfl
theorem w_X5_120 {X : XC} {x0 : Nat} {r : Nat → Nat → Nat} (hx : x0 = X.ad 120) (h0 : r 0 0 = X.ad 123) : wX5_init X.ca x0 r = ([120, 123] : List Nat).map (cellM X) := by
  subst hx
  unfold wX5_init
  rw [h0]
  rfl
theorem w_X5_136 {X : XC} {x0 : Nat} {r : Nat → Nat → Nat} (hx : x0 = X.ad 136) (h0 : r 0 0 = X.ad 139) : wX5_init X.ca x0 r = ([136, 139] : List Nat).map (cellM X) := by
  subst hx
  unfold wX5_init
  rw [h0]
  rfl
theorem w_X6_210 {X : XC} {x0 : Nat} {r : Nat → Nat → Nat} (hx : x0 = X.ad 210) (h0 : r 0 0 = X.ad 212) (h1 : r 0 1 = X.ad 214) (h2 : r 0 2 = X.ad 215) (h3 : r 0 3 = X.ad 216) : wX6_init X.ca x0 r = ([210, 212, 214, 215, 216] : List Nat).map (cellM X) := by
  subst hx
  unfold wX6_init
  rw [h0, h1, h2, h3]
  rfl
theorem w_X7_310 {X : XC} {x0 : Nat} {r : Nat → Nat → Nat} (hx : x0 = X.ad 310) (h0 : r 0 0 = X.ad 312) (h1 : r 0 1 = X.ad 313) : wX7_init X.ca x0 r = ([310, 312, 313] : List Nat).map (cellM X) := by
  subst hx
  unfold wX7_init
  rw [h0, h1]
  rfl
set_option maxRecDepth 20000 in
set_option maxHeartbeats 2000000 in
theorem w_X4_1000 {X : XC} {x0 x1 : Nat} {r : Nat → Nat → Nat} (hx : x0 = X.ad 1000) (hp : x1 = X.ad 11000) (h1009 : r 0 4 = X.ad 1009) (h1020 : r 0 0 = X.ad 1020) (h1022 : r 1 0 = X.ad 1022) (h1023 : r 1 1 = X.ad 1023) (h1003 : r 0 1 = X.ad 1003) (h1004 : r 0 2 = X.ad 1004) (h1005 : r 0 3 = X.ad 1005) (h1010 : r 0 5 = X.ad 1010) (h1011 : r 0 6 = X.ad 1011) (h1045 : r 0 7 = X.ad 1045) (h1053 : r 11 0 = X.ad 1053) (h1054 : r 11 1 = X.ad 1054) (h1061 : r 0 8 = X.ad 1061) (h1069 : r 21 0 = X.ad 1069) (h1070 : r 21 1 = X.ad 1070) (h1077 : r 0 9 = X.ad 1077) (h1085 : r 31 0 = X.ad 1085) (h1086 : r 31 1 = X.ad 1086) (h1093 : r 0 10 = X.ad 1093) (h1101 : r 41 0 = X.ad 1101) (h1102 : r 41 1 = X.ad 1102) (h1109 : r 0 11 = X.ad 1109) (h1117 : r 51 0 = X.ad 1117) (h1118 : r 51 1 = X.ad 1118) (h1125 : r 0 12 = X.ad 1125) (h1133 : r 61 0 = X.ad 1133) (h1134 : r 61 1 = X.ad 1134) (h1141 : r 0 13 = X.ad 1141) (h1149 : r 71 0 = X.ad 1149) (h1150 : r 71 1 = X.ad 1150) (h1157 : r 0 14 = X.ad 1157) (h1165 : r 81 0 = X.ad 1165) (h1166 : r 81 1 = X.ad 1166) : wX4_init X.ca x0 x1 r = ([1000, 1009, 1020, 1022, 1023, 1003, 1004, 1005, 1010, 1011, 1045, 1053, 1054, 1061, 1069, 1070, 1077, 1085, 1086, 1093, 1101, 1102, 1109, 1117, 1118, 1125, 1133, 1134, 1141, 1149, 1150, 1157, 1165, 1166] : List Nat).map (cellM X) := by
  subst hx hp
  unfold wX4_init
  rw [w_X0_1020 (r := fun i => r (i + 1)) h1020 h1022 h1023]
  rw [w_X3_1045 (r := fun i => r (i + 11)) h1045 h1053 h1054]
  rw [w_X3_1061 (r := fun i => r (i + 21)) h1061 h1069 h1070]
  rw [w_X3_1077 (r := fun i => r (i + 31)) h1077 h1085 h1086]
  rw [w_X3_1093 (r := fun i => r (i + 41)) h1093 h1101 h1102]
  rw [w_X3_1109 (r := fun i => r (i + 51)) h1109 h1117 h1118]
  rw [w_X3_1125 (r := fun i => r (i + 61)) h1125 h1133 h1134]
  rw [w_X3_1141 (r := fun i => r (i + 71)) h1141 h1149 h1150]
  rw [w_X3_1157 (r := fun i => r (i + 81)) h1157 h1165 h1166]
  rw [h1020, h1003, h1004, h1005, h1009, h1010, h1011, h1045, h1061, h1077, h1093, h1109, h1125, h1141, h1157]
  have e : (va_up (va_up (va_up (va_up (va_up (va_up (va_up (va_up (fun _ => none) 0 (some (X.ad 1045))) 1 (some (X.ad 1061))) 2 (some (X.ad 1077))) 3 (some (X.ad 1093))) 4 (some (X.ad 1109))) 5 (some (X.ad 1125))) 6 (some (X.ad 1141))) 7 (some (X.ad 1157))) = xrf X.ad 1009 8 := up8 (fun j => X.ad (1009 + 36 + 16 * j))
  rw [e]
  rfl
set_option maxRecDepth 20000 in
set_option maxHeartbeats 2000000 in
theorem w_X4_2000 {X : XC} {x0 x1 : Nat} {r : Nat → Nat → Nat} (hx : x0 = X.ad 2000) (hp : x1 = X.ad 12000) (h2009 : r 0 4 = X.ad 2009) (h2020 : r 0 0 = X.ad 2020) (h2022 : r 1 0 = X.ad 2022) (h2023 : r 1 1 = X.ad 2023) (h2003 : r 0 1 = X.ad 2003) (h2004 : r 0 2 = X.ad 2004) (h2005 : r 0 3 = X.ad 2005) (h2010 : r 0 5 = X.ad 2010) (h2011 : r 0 6 = X.ad 2011) (h2045 : r 0 7 = X.ad 2045) (h2053 : r 11 0 = X.ad 2053) (h2054 : r 11 1 = X.ad 2054) (h2061 : r 0 8 = X.ad 2061) (h2069 : r 21 0 = X.ad 2069) (h2070 : r 21 1 = X.ad 2070) (h2077 : r 0 9 = X.ad 2077) (h2085 : r 31 0 = X.ad 2085) (h2086 : r 31 1 = X.ad 2086) (h2093 : r 0 10 = X.ad 2093) (h2101 : r 41 0 = X.ad 2101) (h2102 : r 41 1 = X.ad 2102) (h2109 : r 0 11 = X.ad 2109) (h2117 : r 51 0 = X.ad 2117) (h2118 : r 51 1 = X.ad 2118) (h2125 : r 0 12 = X.ad 2125) (h2133 : r 61 0 = X.ad 2133) (h2134 : r 61 1 = X.ad 2134) (h2141 : r 0 13 = X.ad 2141) (h2149 : r 71 0 = X.ad 2149) (h2150 : r 71 1 = X.ad 2150) (h2157 : r 0 14 = X.ad 2157) (h2165 : r 81 0 = X.ad 2165) (h2166 : r 81 1 = X.ad 2166) : wX4_init X.ca x0 x1 r = ([2000, 2009, 2020, 2022, 2023, 2003, 2004, 2005, 2010, 2011, 2045, 2053, 2054, 2061, 2069, 2070, 2077, 2085, 2086, 2093, 2101, 2102, 2109, 2117, 2118, 2125, 2133, 2134, 2141, 2149, 2150, 2157, 2165, 2166] : List Nat).map (cellM X) := by
  subst hx hp
  unfold wX4_init
  rw [w_X0_2020 (r := fun i => r (i + 1)) h2020 h2022 h2023]
  rw [w_X3_2045 (r := fun i => r (i + 11)) h2045 h2053 h2054]
  rw [w_X3_2061 (r := fun i => r (i + 21)) h2061 h2069 h2070]
  rw [w_X3_2077 (r := fun i => r (i + 31)) h2077 h2085 h2086]
  rw [w_X3_2093 (r := fun i => r (i + 41)) h2093 h2101 h2102]
  rw [w_X3_2109 (r := fun i => r (i + 51)) h2109 h2117 h2118]
  rw [w_X3_2125 (r := fun i => r (i + 61)) h2125 h2133 h2134]
  rw [w_X3_2141 (r := fun i => r (i + 71)) h2141 h2149 h2150]
  rw [w_X3_2157 (r := fun i => r (i + 81)) h2157 h2165 h2166]
  rw [h2020, h2003, h2004, h2005, h2009, h2010, h2011, h2045, h2061, h2077, h2093, h2109, h2125, h2141, h2157]
  have e : (va_up (va_up (va_up (va_up (va_up (va_up (va_up (va_up (fun _ => none) 0 (some (X.ad 2045))) 1 (some (X.ad 2061))) 2 (some (X.ad 2077))) 3 (some (X.ad 2093))) 4 (some (X.ad 2109))) 5 (some (X.ad 2125))) 6 (some (X.ad 2141))) 7 (some (X.ad 2157))) = xrf X.ad 2009 8 := up8 (fun j => X.ad (2009 + 36 + 16 * j))
  rw [e]
  rfl
def L8 : List Nat := [10, 20, 11000, 11002, 11003, 11005, 11006, 11011, 11012, 11014, 11015, 12000, 12002, 12003, 12005, 12006, 12011, 12012, 12014, 12015, 13000, 13002, 13003, 13005, 13006, 13011, 13012, 13014, 13015, 1000, 1009, 1020, 1022, 1023, 1003, 1004, 1005, 1010, 1011, 1045, 1053, 1054, 1061, 1069, 1070, 1077, 1085, 1086, 1093, 1101, 1102, 1109, 1117, 1118, 1125, 1133, 1134, 1141, 1149, 1150, 1157, 1165, 1166, 2000, 2009, 2020, 2022, 2023, 2003, 2004, 2005, 2010, 2011, 2045, 2053, 2054, 2061, 2069, 2070, 2077, 2085, 2086, 2093, 2101, 2102, 2109, 2117, 2118, 2125, 2133, 2134, 2141, 2149, 2150, 2157, 2165, 2166, 210, 212, 214, 215, 216, 310, 312, 313, 56, 59, 72, 75, 88, 91, 104, 107, 120, 123, 136, 139]
set_option maxRecDepth 20000 in
set_option maxHeartbeats 2000000 in
theorem w8_ok {X : XC} {x0 q0 q2 q4 q6 q8 q10 q12 q14 q15 q17 q19 q21 q23 q25 : Nat} {r1 r3 r5 r7 r9 r11 r13 r16 r18 r20 r22 r24 r26 : Nat → Nat → Nat} (h10 : x0 = X.ad 10) (h20 : q14 = X.ad 20) (h11000 : q0 = X.ad 11000) (h11002 : r1 0 0 = X.ad 11002) (h11003 : r1 0 1 = X.ad 11003) (h11005 : r1 0 2 = X.ad 11005) (h11006 : r1 0 3 = X.ad 11006) (h11011 : r1 0 4 = X.ad 11011) (h11012 : r1 0 5 = X.ad 11012) (h11014 : r1 0 6 = X.ad 11014) (h11015 : r1 0 7 = X.ad 11015) (h12000 : q2 = X.ad 12000) (h12002 : r3 0 0 = X.ad 12002) (h12003 : r3 0 1 = X.ad 12003) (h12005 : r3 0 2 = X.ad 12005) (h12006 : r3 0 3 = X.ad 12006) (h12011 : r3 0 4 = X.ad 12011) (h12012 : r3 0 5 = X.ad 12012) (h12014 : r3 0 6 = X.ad 12014) (h12015 : r3 0 7 = X.ad 12015) (h13000 : q4 = X.ad 13000) (h13002 : r5 0 0 = X.ad 13002) (h13003 : r5 0 1 = X.ad 13003) (h13005 : r5 0 2 = X.ad 13005) (h13006 : r5 0 3 = X.ad 13006) (h13011 : r5 0 4 = X.ad 13011) (h13012 : r5 0 5 = X.ad 13012) (h13014 : r5 0 6 = X.ad 13014) (h13015 : r5 0 7 = X.ad 13015) (h1000 : q6 = X.ad 1000) (h1009 : r7 0 4 = X.ad 1009) (h1020 : r7 0 0 = X.ad 1020) (h1022 : r7 1 0 = X.ad 1022) (h1023 : r7 1 1 = X.ad 1023) (h1003 : r7 0 1 = X.ad 1003) (h1004 : r7 0 2 = X.ad 1004) (h1005 : r7 0 3 = X.ad 1005) (h1010 : r7 0 5 = X.ad 1010) (h1011 : r7 0 6 = X.ad 1011) (h1045 : r7 0 7 = X.ad 1045) (h1053 : r7 11 0 = X.ad 1053) (h1054 : r7 11 1 = X.ad 1054) (h1061 : r7 0 8 = X.ad 1061) (h1069 : r7 21 0 = X.ad 1069) (h1070 : r7 21 1 = X.ad 1070) (h1077 : r7 0 9 = X.ad 1077) (h1085 : r7 31 0 = X.ad 1085) (h1086 : r7 31 1 = X.ad 1086) (h1093 : r7 0 10 = X.ad 1093) (h1101 : r7 41 0 = X.ad 1101) (h1102 : r7 41 1 = X.ad 1102) (h1109 : r7 0 11 = X.ad 1109) (h1117 : r7 51 0 = X.ad 1117) (h1118 : r7 51 1 = X.ad 1118) (h1125 : r7 0 12 = X.ad 1125) (h1133 : r7 61 0 = X.ad 1133) (h1134 : r7 61 1 = X.ad 1134) (h1141 : r7 0 13 = X.ad 1141) (h1149 : r7 71 0 = X.ad 1149) (h1150 : r7 71 1 = X.ad 1150) (h1157 : r7 0 14 = X.ad 1157) (h1165 : r7 81 0 = X.ad 1165) (h1166 : r7 81 1 = X.ad 1166) (h2000 : q8 = X.ad 2000) (h2009 : r9 0 4 = X.ad 2009) (h2020 : r9 0 0 = X.ad 2020) (h2022 : r9 1 0 = X.ad 2022) (h2023 : r9 1 1 = X.ad 2023) (h2003 : r9 0 1 = X.ad 2003) (h2004 : r9 0 2 = X.ad 2004) (h2005 : r9 0 3 = X.ad 2005) (h2010 : r9 0 5 = X.ad 2010) (h2011 : r9 0 6 = X.ad 2011) (h2045 : r9 0 7 = X.ad 2045) (h2053 : r9 11 0 = X.ad 2053) (h2054 : r9 11 1 = X.ad 2054) (h2061 : r9 0 8 = X.ad 2061) (h2069 : r9 21 0 = X.ad 2069) (h2070 : r9 21 1 = X.ad 2070) (h2077 : r9 0 9 = X.ad 2077) (h2085 : r9 31 0 = X.ad 2085) (h2086 : r9 31 1 = X.ad 2086) (h2093 : r9 0 10 = X.ad 2093) (h2101 : r9 41 0 = X.ad 2101) (h2102 : r9 41 1 = X.ad 2102) (h2109 : r9 0 11 = X.ad 2109) (h2117 : r9 51 0 = X.ad 2117) (h2118 : r9 51 1 = X.ad 2118) (h2125 : r9 0 12 = X.ad 2125) (h2133 : r9 61 0 = X.ad 2133) (h2134 : r9 61 1 = X.ad 2134) (h2141 : r9 0 13 = X.ad 2141) (h2149 : r9 71 0 = X.ad 2149) (h2150 : r9 71 1 = X.ad 2150) (h2157 : r9 0 14 = X.ad 2157) (h2165 : r9 81 0 = X.ad 2165) (h2166 : r9 81 1 = X.ad 2166) (h210 : q10 = X.ad 210) (h212 : r11 0 0 = X.ad 212) (h214 : r11 0 1 = X.ad 214) (h215 : r11 0 2 = X.ad 215) (h216 : r11 0 3 = X.ad 216) (h310 : q12 = X.ad 310) (h312 : r13 0 0 = X.ad 312) (h313 : r13 0 1 = X.ad 313) (h56 : q15 = X.ad 56) (h59 : r16 0 0 = X.ad 59) (h72 : q17 = X.ad 72) (h75 : r18 0 0 = X.ad 75) (h88 : q19 = X.ad 88) (h91 : r20 0 0 = X.ad 91) (h104 : q21 = X.ad 104) (h107 : r22 0 0 = X.ad 107) (h120 : q23 = X.ad 120) (h123 : r24 0 0 = X.ad 123) (h136 : q25 = X.ad 136) (h139 : r26 0 0 = X.ad 139) : wX8_init X.ca x0 q0 q2 q4 q6 q8 q10 q12 q14 q15 q17 q19 q21 q23 q25 r1 r3 r5 r7 r9 r11 r13 r16 r18 r20 r22 r24 r26 = L8.map (cellM X) := by
  subst h10 h20 h11000 h12000 h13000 h1000 h2000 h210 h310 h56 h72 h88 h104 h120 h136
  unfold wX8_init
  rw [w_X1_11000 (r := r1) rfl h11002 h11003 h11005 h11006 h11011 h11012 h11014 h11015]
  rw [w_X1_12000 (r := r3) rfl h12002 h12003 h12005 h12006 h12011 h12012 h12014 h12015]
  rw [w_X1_13000 (r := r5) rfl h13002 h13003 h13005 h13006 h13011 h13012 h13014 h13015]
  rw [w_X4_1000 (r := r7) rfl rfl h1009 h1020 h1022 h1023 h1003 h1004 h1005 h1010 h1011 h1045 h1053 h1054 h1061 h1069 h1070 h1077 h1085 h1086 h1093 h1101 h1102 h1109 h1117 h1118 h1125 h1133 h1134 h1141 h1149 h1150 h1157 h1165 h1166]
  rw [w_X4_2000 (r := r9) rfl rfl h2009 h2020 h2022 h2023 h2003 h2004 h2005 h2010 h2011 h2045 h2053 h2054 h2061 h2069 h2070 h2077 h2085 h2086 h2093 h2101 h2102 h2109 h2117 h2118 h2125 h2133 h2134 h2141 h2149 h2150 h2157 h2165 h2166]
  rw [w_X6_210 (r := r11) rfl h212 h214 h215 h216, w_X7_310 (r := r13) rfl h312 h313]
  rw [w_X5_56 (r := r16) rfl h59, w_X5_72 (r := r18) rfl h75, w_X5_88 (r := r20) rfl h91, w_X5_104 (r := r22) rfl h107, w_X5_120 (r := r24) rfl h123, w_X5_136 (r := r26) rfl h139]
  have e : (va_up (va_up (va_up (va_up (va_up (va_up (fun _ => none) 0 (some (X.ad 56))) 1 (some (X.ad 72))) 2 (some (X.ad 88))) 3 (some (X.ad 104))) 4 (some (X.ad 120))) 5 (some (X.ad 136))) = xrf X.ad 20 6 := up6 (fun j => X.ad (20 + 36 + 16 * j))
  rw [e]
  rfl
theorem xf9_0 {X : XC} : xfv X.ad M0 20000 8 0 = .int (Int32.ofInt 0) := rfl
theorem xf9_1 {X : XC} : xfv X.ad M0 20000 8 1 = .int (Int32.ofInt 0) := rfl
theorem xf9_2 {X : XC} : xfv X.ad M0 20000 8 2 = .ref (X.ad 20003) := rfl
theorem xf9_3 {X : XC} : xfv X.ad M0 20000 8 3 = .ref (X.ad 20004) := rfl
theorem xf9_4 {X : XC} : xfv X.ad M0 20000 8 4 = .ref (X.ad 20005) := rfl
theorem xf9_5 {X : XC} : xfv X.ad M0 20000 8 5 = .ref (X.ad 20006) := rfl
theorem xf9_6 {X : XC} : xfv X.ad M0 20000 8 6 = .int (Int32.ofInt 1) := rfl
theorem xf9_7 {X : XC} : xfv X.ad M0 20000 8 7 = .int (Int32.ofInt 1000) := rfl
theorem xf9_8 {X : XC} : xfv X.ad M0 20000 8 8 = .int (Int32.ofInt 20) := rfl
theorem xf9_9 {X : XC} : xfv X.ad M0 20000 8 9 = .int (Int32.ofInt 0) := rfl
theorem xf9_10 {X : XC} : xfv X.ad M0 20000 8 10 = .int (Int32.ofInt 0) := rfl
theorem xf9_11 {X : XC} : xfv X.ad M0 20000 8 11 = .ref (X.ad 20012) := rfl
theorem xf9_12 {X : XC} : xfv X.ad M0 20000 8 12 = .ref (X.ad 20013) := rfl
theorem xf9_13 {X : XC} : xfv X.ad M0 20000 8 13 = .ref (X.ad 20014) := rfl
theorem xf9_14 {X : XC} : xfv X.ad M0 20000 8 14 = .ref (X.ad 20015) := rfl
theorem xf9_15 {X : XC} : xfv X.ad M0 20000 8 15 = .int (Int32.ofInt 0) := rfl
theorem xf9_16 {X : XC} : xfv X.ad M0 20000 8 16 = .ref (X.ad 20017) := rfl
theorem xf9_17 {X : XC} : xfv X.ad M0 20000 8 17 = .ref (X.ad 20018) := rfl
theorem xf9_18 {X : XC} : xfv X.ad M0 20000 8 18 = .int (Int32.ofInt 0) := rfl
theorem xf9_19 {X : XC} : xfv X.ad M0 20000 8 19 = .ref (X.ad 20020) := rfl
theorem xf9_20 {X : XC} : xfv X.ad M0 20000 8 20 = .ref (X.ad 20021) := rfl
theorem xf9_21 {X : XC} : xfv X.ad M0 20000 8 21 = .ref (X.ad 20022) := rfl
theorem xf9_22 {X : XC} : xfv X.ad M0 20000 8 22 = .int (Int32.ofInt 0) := rfl
theorem xf9_23 {X : XC} : xfv X.ad M0 20000 8 23 = .int (Int32.ofInt 0) := rfl
theorem xf9_24 {X : XC} : xfv X.ad M0 20000 8 24 = .ref (X.ad 20025) := rfl
theorem xf9_25 {X : XC} : xfv X.ad M0 20000 8 25 = .ref (X.ad 20026) := rfl
theorem xf9_26 {X : XC} : xfv X.ad M0 20000 8 26 = .ref (X.ad 20027) := rfl
theorem xf9_27 {X : XC} : xfv X.ad M0 20000 8 27 = .ref (X.ad 20028) := rfl
theorem xf9_28 {X : XC} : xfv X.ad M0 20000 8 28 = .ref (X.ad 20029) := rfl
theorem xf9_29 {X : XC} : xfv X.ad M0 20000 8 29 = .long (Int64.ofInt 0) := rfl
theorem xf9_30 {X : XC} : xfv X.ad M0 20000 8 30 = .long (Int64.ofInt 0) := rfl
theorem xf9_31 {X : XC} : xfv X.ad M0 20000 8 31 = .long (Int64.ofInt 0) := rfl
theorem xf9_32 {X : XC} : xfv X.ad M0 20000 8 32 = .long (Int64.ofInt 0) := rfl
theorem xf9_33 {X : XC} : xfv X.ad M0 20000 8 33 = .ref (X.ad 20034) := rfl
theorem xf9_34 {X : XC} : xfv X.ad M0 20000 8 34 = .ref (X.ad 20035) := rfl
theorem xf9_35 {X : XC} : xfv X.ad M0 20000 8 35 = .ref (X.ad 20036) := rfl
theorem xf9_36 {X : XC} : xfv X.ad M0 20000 8 36 = .ref (X.ad 20037) := rfl
theorem xf9_37 {X : XC} : xfv X.ad M0 20000 8 37 = .ref (X.ad 20038) := rfl
theorem xf9_38 {X : XC} : xfv X.ad M0 20000 8 38 = .ref (X.ad 20039) := rfl
theorem xf9_39 {X : XC} : xfv X.ad M0 20000 8 39 = .ref (X.ad 20040) := rfl
theorem xf9_40 {X : XC} : xfv X.ad M0 20000 8 40 = .ref (X.ad 20041) := rfl
theorem xf9_41 {X : XC} : xfv X.ad M0 20000 8 41 = .ref (X.ad 20042) := rfl
theorem xf9_42 {X : XC} : xfv X.ad M0 20000 8 42 = .ref (X.ad 20043) := rfl
theorem xf9_43 {X : XC} : xfv X.ad M0 20000 8 43 = .ref (X.ad 20044) := rfl
theorem xf9_44 {X : XC} : xfv X.ad M0 20000 8 44 = .ref (X.ad 20045) := rfl
theorem xf9_45 {X : XC} : xfv X.ad M0 20000 8 45 = .ref (X.ad 20046) := rfl
theorem xf9_46 {X : XC} : xfv X.ad M0 20000 8 46 = .int (Int32.ofInt 0) := rfl
theorem xf9_47 {X : XC} : xfv X.ad M0 20000 8 47 = .int (Int32.ofInt 0) := rfl
theorem xf9_48 {X : XC} : xfv X.ad M0 20000 8 48 = .int (Int32.ofInt 0) := rfl
theorem xf9_49 {X : XC} : xfv X.ad M0 20000 8 49 = .int (Int32.ofInt 0) := rfl
theorem xf9_50 {X : XC} : xfv X.ad M0 20000 8 50 = .int (Int32.ofInt 0) := rfl
theorem xf9_51 {X : XC} : xfv X.ad M0 20000 8 51 = .int (Int32.ofInt 0) := rfl
theorem xf9_52 {X : XC} : xfv X.ad M0 20000 8 52 = .ref (X.ad 20053) := rfl
theorem xf9_53 {X : XC} : xfv X.ad M0 20000 8 53 = .ref (X.ad 20054) := rfl
theorem xf9_54 {X : XC} : xfv X.ad M0 20000 8 54 = .ref (X.ad 20055) := rfl
theorem xf9_55 {X : XC} : xfv X.ad M0 20000 8 55 = .int (Int32.ofInt 0) := rfl
theorem xf9_56 {X : XC} : xfv X.ad M0 20000 8 56 = .ref (X.ad 20057) := rfl
theorem xf9_57 {X : XC} : xfv X.ad M0 20000 8 57 = .ref (X.ad 20058) := rfl
theorem xf9_58 {X : XC} : xfv X.ad M0 20000 8 58 = .ref (X.ad 20059) := rfl
theorem xf9_59 {X : XC} : xfv X.ad M0 20000 8 59 = .ref (X.ad 20060) := rfl
theorem xf9_60 {X : XC} : xfv X.ad M0 20000 8 60 = .ref (X.ad 20061) := rfl
theorem xf9_61 {X : XC} : xfv X.ad M0 20000 8 61 = .ref (X.ad 20062) := rfl
theorem xf9_62 {X : XC} : xfv X.ad M0 20000 8 62 = .ref (X.ad 20063) := rfl
theorem xf9_63 {X : XC} : xfv X.ad M0 20000 8 63 = .ref (X.ad 20064) := rfl
theorem xf9_64 {X : XC} : xfv X.ad M0 20000 8 64 = .ref (X.ad 20065) := rfl
theorem xf9_65 {X : XC} : xfv X.ad M0 20000 8 65 = .ref (X.ad 20066) := rfl
theorem xf9_66 {X : XC} : xfv X.ad M0 20000 8 66 = .ref (X.ad 20067) := rfl
theorem xf9_67 {X : XC} : xfv X.ad M0 20000 8 67 = .ref (X.ad 20068) := rfl
theorem xf9_68 {X : XC} : xfv X.ad M0 20000 8 68 = .ref (X.ad 20069) := rfl
set_option maxRecDepth 20000 in
theorem c9_20000 {X : XC} : xcont X M0 20000 = .inr (8, [.int (Int32.ofInt 0), .int (Int32.ofInt 0), .ref (X.ad 20003), .ref (X.ad 20004), .ref (X.ad 20005), .ref (X.ad 20006), .int (Int32.ofInt 1), .int (Int32.ofInt 1000), .int (Int32.ofInt 20), .int (Int32.ofInt 0), .int (Int32.ofInt 0), .ref (X.ad 20012), .ref (X.ad 20013), .ref (X.ad 20014), .ref (X.ad 20015), .int (Int32.ofInt 0), .ref (X.ad 20017), .ref (X.ad 20018), .int (Int32.ofInt 0), .ref (X.ad 20020), .ref (X.ad 20021), .ref (X.ad 20022), .int (Int32.ofInt 0), .int (Int32.ofInt 0), .ref (X.ad 20025), .ref (X.ad 20026), .ref (X.ad 20027), .ref (X.ad 20028), .ref (X.ad 20029), .long (Int64.ofInt 0), .long (Int64.ofInt 0), .long (Int64.ofInt 0), .long (Int64.ofInt 0), .ref (X.ad 20034), .ref (X.ad 20035), .ref (X.ad 20036), .ref (X.ad 20037), .ref (X.ad 20038), .ref (X.ad 20039), .ref (X.ad 20040), .ref (X.ad 20041), .ref (X.ad 20042), .ref (X.ad 20043), .ref (X.ad 20044), .ref (X.ad 20045), .ref (X.ad 20046), .int (Int32.ofInt 0), .int (Int32.ofInt 0), .int (Int32.ofInt 0), .int (Int32.ofInt 0), .int (Int32.ofInt 0), .int (Int32.ofInt 0), .ref (X.ad 20053), .ref (X.ad 20054), .ref (X.ad 20055), .int (Int32.ofInt 0), .ref (X.ad 20057), .ref (X.ad 20058), .ref (X.ad 20059), .ref (X.ad 20060), .ref (X.ad 20061), .ref (X.ad 20062), .ref (X.ad 20063), .ref (X.ad 20064), .ref (X.ad 20065), .ref (X.ad 20066), .ref (X.ad 20067), .ref (X.ad 20068), .ref (X.ad 20069)]) := by
  show Sum.inr (8, [xfv X.ad M0 20000 8 0, xfv X.ad M0 20000 8 1, xfv X.ad M0 20000 8 2, xfv X.ad M0 20000 8 3, xfv X.ad M0 20000 8 4, xfv X.ad M0 20000 8 5, xfv X.ad M0 20000 8 6, xfv X.ad M0 20000 8 7, xfv X.ad M0 20000 8 8, xfv X.ad M0 20000 8 9, xfv X.ad M0 20000 8 10, xfv X.ad M0 20000 8 11, xfv X.ad M0 20000 8 12, xfv X.ad M0 20000 8 13, xfv X.ad M0 20000 8 14, xfv X.ad M0 20000 8 15, xfv X.ad M0 20000 8 16, xfv X.ad M0 20000 8 17, xfv X.ad M0 20000 8 18, xfv X.ad M0 20000 8 19, xfv X.ad M0 20000 8 20, xfv X.ad M0 20000 8 21, xfv X.ad M0 20000 8 22, xfv X.ad M0 20000 8 23, xfv X.ad M0 20000 8 24, xfv X.ad M0 20000 8 25, xfv X.ad M0 20000 8 26, xfv X.ad M0 20000 8 27, xfv X.ad M0 20000 8 28, xfv X.ad M0 20000 8 29, xfv X.ad M0 20000 8 30, xfv X.ad M0 20000 8 31, xfv X.ad M0 20000 8 32, xfv X.ad M0 20000 8 33, xfv X.ad M0 20000 8 34, xfv X.ad M0 20000 8 35, xfv X.ad M0 20000 8 36, xfv X.ad M0 20000 8 37, xfv X.ad M0 20000 8 38, xfv X.ad M0 20000 8 39, xfv X.ad M0 20000 8 40, xfv X.ad M0 20000 8 41, xfv X.ad M0 20000 8 42, xfv X.ad M0 20000 8 43, xfv X.ad M0 20000 8 44, xfv X.ad M0 20000 8 45, xfv X.ad M0 20000 8 46, xfv X.ad M0 20000 8 47, xfv X.ad M0 20000 8 48, xfv X.ad M0 20000 8 49, xfv X.ad M0 20000 8 50, xfv X.ad M0 20000 8 51, xfv X.ad M0 20000 8 52, xfv X.ad M0 20000 8 53, xfv X.ad M0 20000 8 54, xfv X.ad M0 20000 8 55, xfv X.ad M0 20000 8 56, xfv X.ad M0 20000 8 57, xfv X.ad M0 20000 8 58, xfv X.ad M0 20000 8 59, xfv X.ad M0 20000 8 60, xfv X.ad M0 20000 8 61, xfv X.ad M0 20000 8 62, xfv X.ad M0 20000 8 63, xfv X.ad M0 20000 8 64, xfv X.ad M0 20000 8 65, xfv X.ad M0 20000 8 66, xfv X.ad M0 20000 8 67, xfv X.ad M0 20000 8 68]) = _
  rw [xf9_0, xf9_1, xf9_2, xf9_3, xf9_4, xf9_5, xf9_6, xf9_7, xf9_8, xf9_9, xf9_10, xf9_11, xf9_12, xf9_13, xf9_14, xf9_15, xf9_16, xf9_17, xf9_18, xf9_19, xf9_20, xf9_21, xf9_22, xf9_23, xf9_24, xf9_25, xf9_26, xf9_27, xf9_28, xf9_29, xf9_30, xf9_31, xf9_32, xf9_33, xf9_34, xf9_35, xf9_36, xf9_37, xf9_38, xf9_39, xf9_40, xf9_41, xf9_42, xf9_43, xf9_44, xf9_45, xf9_46, xf9_47, xf9_48, xf9_49, xf9_50, xf9_51, xf9_52, xf9_53, xf9_54, xf9_55, xf9_56, xf9_57, xf9_58, xf9_59, xf9_60, xf9_61, xf9_62, xf9_63, xf9_64, xf9_65, xf9_66, xf9_67, xf9_68]
theorem c9_20003 {X : XC} : xcont X M0 20003 = .inl (X.ca 2, 8, .inl (fun _ => Int32.ofInt 0)) := rfl
theorem c9_20004 {X : XC} : xcont X M0 20004 = .inl (X.ca 0, 8, .inl (fun _ => Int32.ofInt 0)) := rfl
theorem c9_20005 {X : XC} : xcont X M0 20005 = .inl (X.ca 0, 25, .inl (fun _ => Int32.ofInt 0)) := rfl
theorem c9_20006 {X : XC} : xcont X M0 20006 = .inl (X.ca 0, 25, .inl (fun _ => Int32.ofInt 0)) := rfl
theorem c9_20012 {X : XC} : xcont X M0 20012 = .inl (X.ca 0, 5, .inl (fun _ => Int32.ofInt 0)) := rfl
theorem c9_20013 {X : XC} : xcont X M0 20013 = .inl (X.ca 0, 8, .inl (fun _ => Int32.ofInt 0)) := rfl
theorem c9_20014 {X : XC} : xcont X M0 20014 = .inl (X.ca 0, 8, .inl (fun _ => Int32.ofInt 0)) := rfl
theorem c9_20015 {X : XC} : xcont X M0 20015 = .inl (X.ca 2, 5, .inl (fun _ => Int32.ofInt 0)) := rfl
theorem c9_20017 {X : XC} : xcont X M0 20017 = .inl (X.ca 0, 3, .inl (fun _ => Int32.ofInt 0)) := rfl
theorem c9_20018 {X : XC} : xcont X M0 20018 = .inl (X.ca 0, 3, .inl (fun _ => Int32.ofInt 0)) := rfl
theorem c9_20020 {X : XC} : xcont X M0 20020 = .inl (X.ca 0, 25, .inl (fun _ => Int32.ofInt 0)) := rfl
theorem c9_20021 {X : XC} : xcont X M0 20021 = .inl (X.ca 0, 25, .inl (fun _ => Int32.ofInt 0)) := rfl
theorem c9_20022 {X : XC} : xcont X M0 20022 = .inl (X.ca 0, 25, .inl (fun _ => Int32.ofInt 0)) := rfl
theorem c9_20025 {X : XC} : xcont X M0 20025 = .inl (X.ca 0, 8, .inl (fun _ => Int32.ofInt 0)) := rfl
theorem c9_20026 {X : XC} : xcont X M0 20026 = .inl (X.ca 0, 8, .inl (fun _ => Int32.ofInt 0)) := rfl
theorem c9_20027 {X : XC} : xcont X M0 20027 = .inl (X.ca 0, 8, .inl (fun _ => Int32.ofInt 0)) := rfl
theorem c9_20028 {X : XC} : xcont X M0 20028 = .inl (X.ca 0, 8, .inl (fun _ => Int32.ofInt 0)) := rfl
theorem c9_20029 {X : XC} : xcont X M0 20029 = .inl (X.ca 1, 8, .inr (.inl (fun _ => Int64.ofInt 0))) := rfl
theorem c9_20034 {X : XC} : xcont X M0 20034 = .inl (X.ca 1, 72, .inr (.inl (fun _ => Int64.ofInt 0))) := rfl
theorem c9_20035 {X : XC} : xcont X M0 20035 = .inl (X.ca 1, 9, .inr (.inl (fun _ => Int64.ofInt 0))) := rfl
theorem c9_20036 {X : XC} : xcont X M0 20036 = .inl (X.ca 1, 9, .inr (.inl (fun _ => Int64.ofInt 0))) := rfl
theorem c9_20037 {X : XC} : xcont X M0 20037 = .inl (X.ca 1, 9, .inr (.inl (fun _ => Int64.ofInt 0))) := rfl
theorem c9_20038 {X : XC} : xcont X M0 20038 = .inl (X.ca 1, 9, .inr (.inl (fun _ => Int64.ofInt 0))) := rfl
theorem c9_20039 {X : XC} : xcont X M0 20039 = .inl (X.ca 0, 72, .inl (fun _ => Int32.ofInt 0)) := rfl
theorem c9_20040 {X : XC} : xcont X M0 20040 = .inl (X.ca 0, 9, .inl (fun _ => Int32.ofInt 0)) := rfl
theorem c9_20041 {X : XC} : xcont X M0 20041 = .inl (X.ca 0, 9, .inl (fun _ => Int32.ofInt 0)) := rfl
theorem c9_20042 {X : XC} : xcont X M0 20042 = .inl (X.ca 0, 9, .inl (fun _ => Int32.ofInt 0)) := rfl
theorem c9_20043 {X : XC} : xcont X M0 20043 = .inl (X.ca 0, 8, .inl (fun _ => Int32.ofInt 0)) := rfl
theorem c9_20044 {X : XC} : xcont X M0 20044 = .inl (X.ca 2, 8, .inl (fun _ => Int32.ofInt 0)) := rfl
theorem c9_20045 {X : XC} : xcont X M0 20045 = .inl (X.ca 0, 25, .inl (fun _ => Int32.ofInt 0)) := rfl
theorem c9_20046 {X : XC} : xcont X M0 20046 = .inl (X.ca 0, 100, .inl (fun _ => Int32.ofInt 0)) := rfl
theorem c9_20053 {X : XC} : xcont X M0 20053 = .inl (X.ca 0, 12, .inl (fun _ => Int32.ofInt 0)) := rfl
theorem c9_20054 {X : XC} : xcont X M0 20054 = .inl (X.ca 0, 12, .inl (fun _ => Int32.ofInt 0)) := rfl
theorem c9_20055 {X : XC} : xcont X M0 20055 = .inl (X.ca 0, 12, .inl (fun _ => Int32.ofInt 0)) := rfl
theorem c9_20057 {X : XC} : xcont X M0 20057 = .inl (X.ca 0, 7, .inl (fun _ => Int32.ofInt 0)) := rfl
theorem c9_20058 {X : XC} : xcont X M0 20058 = .inl (X.ca 0, 8, .inl (fun _ => Int32.ofInt 0)) := rfl
theorem c9_20059 {X : XC} : xcont X M0 20059 = .inl (X.ca 0, 25, .inl (fun _ => Int32.ofInt 0)) := rfl
theorem c9_20060 {X : XC} : xcont X M0 20060 = .inl (X.ca 0, 25, .inl (fun _ => Int32.ofInt 0)) := rfl
theorem c9_20061 {X : XC} : xcont X M0 20061 = .inl (X.ca 0, 5, .inl (fun _ => Int32.ofInt 0)) := rfl
theorem c9_20062 {X : XC} : xcont X M0 20062 = .inl (X.ca 0, 8, .inl (fun _ => Int32.ofInt 0)) := rfl
theorem c9_20063 {X : XC} : xcont X M0 20063 = .inl (X.ca 0, 8, .inl (fun _ => Int32.ofInt 0)) := rfl
theorem c9_20064 {X : XC} : xcont X M0 20064 = .inl (X.ca 2, 8, .inl (fun _ => Int32.ofInt 0)) := rfl
theorem c9_20065 {X : XC} : xcont X M0 20065 = .inl (X.ca 2, 5, .inl (fun _ => Int32.ofInt 0)) := rfl
theorem c9_20067 {X : XC} : xcont X M0 20067 = .inl (X.ca 0, 6, .inl (fun _ => Int32.ofInt 0)) := rfl
theorem c9_20069 {X : XC} : xcont X M0 20069 = .inl (X.ca 1, 60, .inr (.inl (fun _ => Int64.ofInt 0))) := rfl
theorem c9_20066 {X : XC} : xcont X M0 20066 = .inl (X.ca 0, 6, .inl (fun j => Int32.ofInt (M0 20066 j))) := rfl
theorem c9_20068 {X : XC} : xcont X M0 20068 = .inl (X.ca 5, 6, .inr (.inr (.inr (.inr (xrf X.ad 20068 6))))) := rfl
theorem c9_20104 {X : XC} : xcont X M0 20104 = .inl (X.ca 1, 60, .inr (.inl (fun _ => Int64.ofInt 0))) := rfl
theorem c9_20120 {X : XC} : xcont X M0 20120 = .inl (X.ca 1, 60, .inr (.inl (fun _ => Int64.ofInt 0))) := rfl
theorem c9_20136 {X : XC} : xcont X M0 20136 = .inl (X.ca 1, 60, .inr (.inl (fun _ => Int64.ofInt 0))) := rfl
theorem c9_20152 {X : XC} : xcont X M0 20152 = .inl (X.ca 1, 60, .inr (.inl (fun _ => Int64.ofInt 0))) := rfl
theorem c9_20168 {X : XC} : xcont X M0 20168 = .inl (X.ca 1, 60, .inr (.inl (fun _ => Int64.ofInt 0))) := rfl
theorem c9_20184 {X : XC} : xcont X M0 20184 = .inl (X.ca 1, 60, .inr (.inl (fun _ => Int64.ofInt 0))) := rfl
def L9 : List Nat := [20000, 20003, 20004, 20005, 20006, 20012, 20013, 20014, 20015, 20017, 20018, 20020, 20021, 20022, 20025, 20026, 20027, 20028, 20029, 20034, 20035, 20036, 20037, 20038, 20039, 20040, 20041, 20042, 20043, 20044, 20045, 20046, 20053, 20054, 20055, 20057, 20058, 20059, 20060, 20061, 20062, 20063, 20064, 20065, 20066, 20067, 20068, 20104, 20120, 20136, 20152, 20168, 20184, 20069]
set_option maxRecDepth 20000 in
set_option maxHeartbeats 4000000 in
theorem w9_ok {X : XC} {x0 q0 q1 q2 q3 q4 q5 q6 q7 q8 q9 q10 q11 q12 q13 q14 q15 q16 q17 q18 q19 q20 q21 q22 q23 q24 q25 q26 q27 q28 q29 q30 q31 q32 q33 q34 q35 q36 q37 q38 q39 q40 q41 q42 q43 q44 q45 q47 : Nat} {r46 : Nat → Nat} (h20000 : x0 = X.ad 20000) (h20003 : q0 = X.ad 20003) (h20004 : q1 = X.ad 20004) (h20005 : q2 = X.ad 20005) (h20006 : q3 = X.ad 20006) (h20012 : q4 = X.ad 20012) (h20013 : q5 = X.ad 20013) (h20014 : q6 = X.ad 20014) (h20015 : q7 = X.ad 20015) (h20017 : q8 = X.ad 20017) (h20018 : q9 = X.ad 20018) (h20020 : q10 = X.ad 20020) (h20021 : q11 = X.ad 20021) (h20022 : q12 = X.ad 20022) (h20025 : q13 = X.ad 20025) (h20026 : q14 = X.ad 20026) (h20027 : q15 = X.ad 20027) (h20028 : q16 = X.ad 20028) (h20029 : q17 = X.ad 20029) (h20034 : q18 = X.ad 20034) (h20035 : q19 = X.ad 20035) (h20036 : q20 = X.ad 20036) (h20037 : q21 = X.ad 20037) (h20038 : q22 = X.ad 20038) (h20039 : q23 = X.ad 20039) (h20040 : q24 = X.ad 20040) (h20041 : q25 = X.ad 20041) (h20042 : q26 = X.ad 20042) (h20043 : q27 = X.ad 20043) (h20044 : q28 = X.ad 20044) (h20045 : q29 = X.ad 20045) (h20046 : q30 = X.ad 20046) (h20053 : q31 = X.ad 20053) (h20054 : q32 = X.ad 20054) (h20055 : q33 = X.ad 20055) (h20057 : q34 = X.ad 20057) (h20058 : q35 = X.ad 20058) (h20059 : q36 = X.ad 20059) (h20060 : q37 = X.ad 20060) (h20061 : q38 = X.ad 20061) (h20062 : q39 = X.ad 20062) (h20063 : q40 = X.ad 20063) (h20064 : q41 = X.ad 20064) (h20065 : q42 = X.ad 20065) (h20066 : q43 = X.ad 20066) (h20067 : q44 = X.ad 20067) (h20068 : q45 = X.ad 20068) (h20104 : r46 0 = X.ad 20104) (h20120 : r46 1 = X.ad 20120) (h20136 : r46 2 = X.ad 20136) (h20152 : r46 3 = X.ad 20152) (h20168 : r46 4 = X.ad 20168) (h20184 : r46 5 = X.ad 20184) (h20069 : q47 = X.ad 20069) : wX9_init X.ca x0 q0 q1 q2 q3 q4 q5 q6 q7 q8 q9 q10 q11 q12 q13 q14 q15 q16 q17 q18 q19 q20 q21 q22 q23 q24 q25 q26 q27 q28 q29 q30 q31 q32 q33 q34 q35 q36 q37 q38 q39 q40 q41 q42 q43 q44 q45 q47 r46 = L9.map (cellM X) := by
  subst h20000 h20003 h20004 h20005 h20006 h20012 h20013 h20014 h20015 h20017 h20018 h20020 h20021 h20022 h20025 h20026 h20027 h20028 h20029 h20034 h20035 h20036 h20037 h20038 h20039 h20040 h20041 h20042 h20043 h20044 h20045 h20046 h20053 h20054 h20055 h20057 h20058 h20059 h20060 h20061 h20062 h20063 h20064 h20065 h20066 h20067 h20068 h20069
  unfold wX9_init
  rw [upS]
  have e : (fun i => if i < 6 then some (r46 i) else none) = xrf X.ad 20068 6 := by
    funext i
    unfold xrf
    by_cases h : i < 6
    · rw [if_pos h, if_pos h]
      rcases (show i = 0 ∨ i = 1 ∨ i = 2 ∨ i = 3 ∨ i = 4 ∨ i = 5 by omega) with g | g | g | g | g | g
      · subst g; rw [h20104]
      · subst g; rw [h20120]
      · subst g; rw [h20136]
      · subst g; rw [h20152]
      · subst g; rw [h20168]
      · subst g; rw [h20184]
    · rw [if_neg h, if_neg h]
  rw [e]
  have e2 : ∀ z : va_E, (List.range 6).map (fun i => (r46 i, z)) = [(X.ad 20104, z), (X.ad 20120, z), (X.ad 20136, z), (X.ad 20152, z), (X.ad 20168, z), (X.ad 20184, z)] := fun z => by
    show [(r46 0, z), (r46 1, z), (r46 2, z), (r46 3, z), (r46 4, z), (r46 5, z)] = _
    rw [h20104, h20120, h20136, h20152, h20168, h20184]
  rw [e2]
  unfold L9
  simp only [List.map_cons, List.map_nil, List.nil_append, List.cons_append, List.append_assoc, cellM, c9_20000, c9_20003, c9_20004, c9_20005, c9_20006, c9_20012, c9_20013, c9_20014, c9_20015, c9_20017, c9_20018, c9_20020, c9_20021, c9_20022, c9_20025, c9_20026, c9_20027, c9_20028, c9_20029, c9_20034, c9_20035, c9_20036, c9_20037, c9_20038, c9_20039, c9_20040, c9_20041, c9_20042, c9_20043, c9_20044, c9_20045, c9_20046, c9_20053, c9_20054, c9_20055, c9_20057, c9_20058, c9_20059, c9_20060, c9_20061, c9_20062, c9_20063, c9_20064, c9_20065, c9_20066, c9_20067, c9_20068, c9_20104, c9_20120, c9_20136, c9_20152, c9_20168, c9_20184, c9_20069]
theorem L89_nd : va_nd (L8 ++ L9) = true := by decide +kernel
theorem L89_in : ∀ i ∈ xcells, i ∈ L8 ++ L9 := by decide +kernel
theorem L89_out : ∀ i ∈ L8 ++ L9, i ∈ xcells := by decide +kernel
/-- the two objects' calls begin alike -/
theorem INV0 : INV M0 := by
  have p0 : WF (0, 0, (fun _ => 0), (fun _ => 0), (fun _ => []), (fun _ => 0), 1, 1000, 20) := ⟨Nat.zero_le _, Nat.zero_le _, fun c hc => absurd hc (Nat.not_lt_zero c), ⟨fun _ => 0, fun i hi => absurd hi (Nat.not_lt_zero i), fun c hc => absurd hc (Nat.not_lt_zero c)⟩, fun b hb => absurd hb (Nat.not_lt_zero b), (by decide), ⟨by decide, by decide⟩, ⟨by decide, by decide⟩, ⟨by decide, by decide⟩⟩
  refine ⟨((0, 0, (fun _ => 0), (fun _ => 0), (fun _ => []), (fun _ => 0), 1, 1000, 20), (0, (fun _ => 0), (fun _ => 0), 0, (fun _ => 0), (fun _ => 0)), none, (0, fun _ => 0), [], fun _ => (-1, 0, fun _ => 0)), ?_, ?_, ?_⟩
  · exact ⟨⟨p0, Nat.zero_le _⟩, ⟨Nat.zero_le _, fun k hk => absurd hk (Nat.not_lt_zero k), Nat.zero_le _, fun k hk => absurd hk (Nat.not_lt_zero k)⟩, fun q hq => (by cases hq), ⟨Nat.zero_le _, fun k hk => absurd hk (Nat.not_lt_zero k)⟩, Nat.zero_le _, fun t ht => ⟨Or.inl ⟨rfl, rfl⟩, Nat.zero_le _⟩⟩
  · refine ⟨⟨⟨⟨rfl, rfl, fun c hc => absurd hc (Nat.not_lt_zero c), fun b hb => absurd hb (Nat.not_lt_zero b), rfl, rfl, rfl⟩, ⟨rfl, rfl, fun k hk => absurd hk (Nat.not_lt_zero k), fun k hk => absurd hk (Nat.not_lt_zero k)⟩, fun c _ => Or.inl rfl, fun k _ => Or.inl rfl⟩, rfl, ⟨rfl, fun k hk => absurd hk (Nat.not_lt_zero k)⟩, ⟨rfl, fun k q hk => (by cases hk)⟩, fun t ht => ?_⟩, Or.inl rfl⟩
    rcases (show t = 0 ∨ t = 1 ∨ t = 2 ∨ t = 3 ∨ t = 4 ∨ t = 5 by omega) with h | h | h | h | h | h <;> subst h <;> exact ⟨rfl, rfl, fun i hi => absurd hi (Nat.not_lt_zero i)⟩
  · refine ⟨⟨rfl, rfl, fun c hc => absurd hc (Nat.not_lt_zero c), fun b hb => absurd hb (Nat.not_lt_zero b), rfl, rfl, rfl⟩, ⟨rfl, rfl, fun k hk => absurd hk (Nat.not_lt_zero k), fun k hk => absurd hk (Nat.not_lt_zero k)⟩, rfl, ⟨rfl, fun k hk => absurd hk (Nat.not_lt_zero k)⟩, ⟨rfl, fun k q hk => (by cases hk)⟩, fun t ht => ?_⟩
    rcases (show t = 0 ∨ t = 1 ∨ t = 2 ∨ t = 3 ∨ t = 4 ∨ t = 5 by omega) with h | h | h | h | h | h <;> subst h <;> exact ⟨rfl, rfl, fun i hi => absurd hi (Nat.not_lt_zero i)⟩
end
