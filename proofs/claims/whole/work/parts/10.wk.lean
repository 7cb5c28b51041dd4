section
variable {X : XC} {Y : XY} {d pc : Nat} {ls ls' : List (Nat × XV)} {st : List XV} {M : Mem} {Post : Option XV → Mem → Prop}
/-! what the walks use -/
def nm {α : Type} {β : Type} (x : α) (k : α → β) : β := k x
theorem nm_s {α β : Type} {x y : α} {k : α → β} {r : β} (e : y = x) (h : nm x k = r) : k y = r := by subst e; exact h
theorem chk_some {α : Type} {c : Prop} [Decidable c] {k : Option α} {x : α} (h : (if c then k else none) = some x) : c ∧ k = some x := by
  by_cases hc : c
  · rw [if_pos hc] at h; exact ⟨hc, h⟩
  · rw [if_neg hc] at h; cases h
theorem bnd_some {α β : Type} {x : Option α} {k : α → Option β} {r : β} (h : Option.bind x k = some r) : ∃ q, x = some q ∧ k q = some r := by
  cases x with
  | none => cases h
  | some q => exact ⟨q, rfl, h⟩
/-- a reference that may be null -/
abbrev oc {α : Type} (x : Option Nat) (n : Option α) (s : Nat → Option α) : Option α := match x with
  | none => n
  | some a => s a
theorem ifp {α : Type} {c : Prop} [Decidable c] {a b x : α} (hc : c) (h : (if c then a else b) = x) : a = x := by rw [if_pos hc] at h; exact h
theorem ifn {α : Type} {c : Prop} [Decidable c] {a b x : α} (hc : ¬ c) (h : (if c then a else b) = x) : b = x := by rw [if_neg hc] at h; exact h
theorem oc_n {α : Type} {x : Option Nat} {n : Option α} {s : Nat → Option α} {r : Option α} (e : x = none) (h : oc x n s = r) : n = r := by subst e; exact h
theorem oc_s {α : Type} {x : Option Nat} {n : Option α} {s : Nat → Option α} {r : Option α} {a : Nat} (e : x = some a) (h : oc x n s = r) : s a = r := by subst e; exact h
/-- a loop that may return -/
abbrev lr {α β γ : Type} (x : Option (α ⊕ β)) (f : α → γ) (k : β → Option γ) : Option γ := match x with
  | none => none
  | some (.inl a) => some (f a)
  | some (.inr b) => k b
theorem lr_some {α β γ : Type} {x : Option (α ⊕ β)} {f : α → γ} {k : β → Option γ} {r : γ} (h : lr x f k = some r) : ∃ q, x = some q ∧ (∀ a, q = .inl a → f a = r) ∧ (∀ b, q = .inr b → k b = some r) := by
  rcases x with _ | (a | b)
  · cases h
  · exact ⟨.inl a, rfl, (fun a' e => by cases e; exact Option.some.inj h), (fun b e => by cases e)⟩
  · exact ⟨.inr b, rfl, (fun a e => by cases e), (fun b' e => by cases e; exact h)⟩
theorem i32l {v : Int} (h : decide (-2147483648 ≤ v ∧ v ≤ 2147483647) = true) : i32 v := (of_decide_eq_true h : -2147483648 ≤ v ∧ v ≤ 2147483647)
theorem i64l {v : Int} (h : decide (-9223372036854775808 ≤ v ∧ v ≤ 9223372036854775807) = true) : i64 v := (of_decide_eq_true h : -9223372036854775808 ≤ v ∧ v ≤ 9223372036854775807)
theorem tn_lt {i : Int} {n : Nat} (h0 : 0 ≤ i) (h1 : i < (n : Int)) : i.toNat < n := by omega
theorem g_nmM (k : ∀ M1 : Mem, M1 = M → Go X Y d pc ls st M1 Post) : Go X Y d pc ls st M Post := k M rfl
theorem g_nmI {v : Int} (k : ∀ w : Int, w = v → Go X Y d pc ls (XI w :: st) M Post) : Go X Y d pc ls (XI v :: st) M Post := k v rfl
theorem g_nmL {v : Int} (k : ∀ w : Int, w = v → Go X Y d pc ls (XL w :: st) M Post) : Go X Y d pc ls (XL v :: st) M Post := k v rfl
theorem g_bip {n : Int} (hd : decode Y.2.1 pc = .ok (.bipush n, 2)) (h : decide (-128 ≤ n ∧ n ≤ 127) = true) (k : Go X Y d (pc + 2) ls (XI n :: st) M Post) : Go X Y d pc ls st M Post := by
  have h2 := of_decide_eq_true h
  exact g_bipush hd (Int8.toInt32_ofInt (by show (-128 : Int) ≤ n; exact h2.1) (by show n ≤ (127 : Int); exact h2.2)) ⟨by omega, by omega⟩ k
theorem g_sip {n : Int} (hd : decode Y.2.1 pc = .ok (.sipush n, 3)) (h : decide (-32768 ≤ n ∧ n ≤ 32767) = true) (k : Go X Y d (pc + 3) ls (XI n :: st) M Post) : Go X Y d pc ls st M Post := by
  have h2 := of_decide_eq_true h
  exact g_sipush hd (Int16.toInt32_ofInt (by show (-32768 : Int) ≤ n; exact h2.1) (by show n ≤ (32767 : Int); exact h2.2)) ⟨by omega, by omega⟩ k
theorem g_alenV {a n kd : Nat} (v : Int) (hd : decode Y.2.1 pc = .ok (.arraylength, 1)) (ha : Sh a = (kd, n)) (hkd : decide (1 ≤ kd ∧ kd ≤ 6) = true) (hn : decide (n < 1000) = true) (hv : (n : Int) = v) (kk : Go X Y d (pc + 1) ls (XI v :: st) M Post) : Go X Y d pc ls (XR a :: st) M Post := by
  subst hv; exact g_alen hd ha (of_decide_eq_true hkd) (of_decide_eq_true hn) kk
theorem g_pc {pc' : Nat} (h : pc = pc') (k : Go X Y d pc' ls st M Post) : Go X Y d pc ls st M Post := by subst h; exact k
theorem g_sub (ks : List Nat) (h : ks.filterMap (fun k => ls[k]?) = ls') (k : Go X Y d pc ls' st M Post) : Go X Y d pc ls st M Post := by
  subst h
  intro o1 o2 o3 p e R s m args below meth c cells slots Q H locs lsA C F hl K
  refine k (fun q hq => ?_) o2 o3 p e R s m args below meth c cells slots Q H locs lsA C F (lv_sub hl ks ?_) K
  · obtain ⟨i, -, hi⟩ := List.mem_filterMap.mp hq
    exact o1 q (List.mem_of_getElem? hi)
  · unfold lv_pick xls
    rw [List.map_filterMap]
    congr 1
    funext i
    rw [List.getElem?_map]
def pI (q : Int × Mem) : Option XV → Mem → Prop := fun r M' => r = some (XI q.1) ∧ M' = q.2
def pJ (q : Int × Mem) : Option XV → Mem → Prop := fun r M' => r = some (XL q.1) ∧ M' = q.2
def pV (q : Int × Mem) : Option XV → Mem → Prop := fun r M' => r = none ∧ M' = q.2
def xoR : Option Nat → XV
  | none => XN
  | some a => XR a
def pR (q : Option Nat × Mem) : Option XV → Mem → Prop := fun r M' => r = some (xoR q.1) ∧ M' = q.2
section CV
variable {Y' : XY} {as : List XV} {o ci n N idx : Nat} {host : String}
theorem v_I {q : Int × Mem} (hd : decode Y.2.1 pc = .ok (.invokevirtual idx, 3)) (hw : Cond.methodLink Y.1.cls idx Y'.1 ∈ xtbl) (hm : MD Y' n) (hv : MV Y') (hn : as.length = n) (ho : Sh o = (10 + ci, N)) (hci : (vwCl[ci]?).map (·.1) = some Y'.1.cls) (hst : xcat st ≤ 8)
    (hc : Ct X Y' d (XR o :: as) M (pI q)) {st0 : List XV} (h0 : as.reverse ++ XR o :: st = st0) (k : Go X Y (d + 1) (pc + 3) ls (XI q.1 :: st) q.2 Post) : Go X Y (d + 1) pc ls st0 M Post :=
  g_callV hd hw hm hv hn ho hci hst hc h0 (fun r M' h => by obtain ⟨rfl, rfl⟩ := h; exact k)
theorem v_J {q : Int × Mem} (hd : decode Y.2.1 pc = .ok (.invokevirtual idx, 3)) (hw : Cond.methodLink Y.1.cls idx Y'.1 ∈ xtbl) (hm : MD Y' n) (hv : MV Y') (hn : as.length = n) (ho : Sh o = (10 + ci, N)) (hci : (vwCl[ci]?).map (·.1) = some Y'.1.cls) (hst : xcat st ≤ 8)
    (hc : Ct X Y' d (XR o :: as) M (pJ q)) {st0 : List XV} (h0 : as.reverse ++ XR o :: st = st0) (k : Go X Y (d + 1) (pc + 3) ls (XL q.1 :: st) q.2 Post) : Go X Y (d + 1) pc ls st0 M Post :=
  g_callV hd hw hm hv hn ho hci hst hc h0 (fun r M' h => by obtain ⟨rfl, rfl⟩ := h; exact k)
theorem v_V {q : Int × Mem} (hd : decode Y.2.1 pc = .ok (.invokevirtual idx, 3)) (hw : Cond.methodLink Y.1.cls idx Y'.1 ∈ xtbl) (hm : MD Y' n) (hv : MV Y') (hn : as.length = n) (ho : Sh o = (10 + ci, N)) (hci : (vwCl[ci]?).map (·.1) = some Y'.1.cls) (hst : xcat st ≤ 8)
    (hc : Ct X Y' d (XR o :: as) M (pV q)) {st0 : List XV} (h0 : as.reverse ++ XR o :: st = st0) (k : Go X Y (d + 1) (pc + 3) ls st q.2 Post) : Go X Y (d + 1) pc ls st0 M Post :=
  g_callV hd hw hm hv hn ho hci hst hc h0 (fun r M' h => by obtain ⟨rfl, rfl⟩ := h; exact k)
theorem v_R {q : Option Nat × Mem} (hd : decode Y.2.1 pc = .ok (.invokevirtual idx, 3)) (hw : Cond.methodLink Y.1.cls idx Y'.1 ∈ xtbl) (hm : MD Y' n) (hv : MV Y') (hn : as.length = n) (ho : Sh o = (10 + ci, N)) (hci : (vwCl[ci]?).map (·.1) = some Y'.1.cls) (hst : xcat st ≤ 8)
    (hc : Ct X Y' d (XR o :: as) M (pR q)) {st0 : List XV} (h0 : as.reverse ++ XR o :: st = st0) (k1 : q.1 = none → Go X Y (d + 1) (pc + 3) ls (XN :: st) q.2 Post) (k2 : ∀ a, q.1 = some a → Go X Y (d + 1) (pc + 3) ls (XR a :: st) q.2 Post) : Go X Y (d + 1) pc ls st0 M Post :=
  g_callV hd hw hm hv hn ho hci hst hc h0 (fun r M' h => by
    obtain ⟨rfl, rfl⟩ := h
    cases hq : q.1 with
    | none => exact k1 hq
    | some a => exact k2 a hq)
theorem s_I {q : Int × Mem} (hd : decode Y.2.1 pc = .ok (.invokestatic idx, 3)) (hw : Cond.methodLink Y.1.cls idx Y'.1 ∈ xtbl) (hm : MD Y' n) (hv : Cond.static Y'.1 ∈ xtbl) (hn : as.length = n) (hst : xcat st ≤ 8)
    (hc : Ct X Y' d as M (pI q)) {st0 : List XV} (h0 : as.reverse ++ st = st0) (k : Go X Y (d + 1) (pc + 3) ls (XI q.1 :: st) q.2 Post) : Go X Y (d + 1) pc ls st0 M Post :=
  g_callS hd hw hm hv hn hst hc h0 (fun r M' h => by obtain ⟨rfl, rfl⟩ := h; exact k)
theorem s_J {q : Int × Mem} (hd : decode Y.2.1 pc = .ok (.invokestatic idx, 3)) (hw : Cond.methodLink Y.1.cls idx Y'.1 ∈ xtbl) (hm : MD Y' n) (hv : Cond.static Y'.1 ∈ xtbl) (hn : as.length = n) (hst : xcat st ≤ 8)
    (hc : Ct X Y' d as M (pJ q)) {st0 : List XV} (h0 : as.reverse ++ st = st0) (k : Go X Y (d + 1) (pc + 3) ls (XL q.1 :: st) q.2 Post) : Go X Y (d + 1) pc ls st0 M Post :=
  g_callS hd hw hm hv hn hst hc h0 (fun r M' h => by obtain ⟨rfl, rfl⟩ := h; exact k)
theorem s_V {q : Int × Mem} (hd : decode Y.2.1 pc = .ok (.invokestatic idx, 3)) (hw : Cond.methodLink Y.1.cls idx Y'.1 ∈ xtbl) (hm : MD Y' n) (hv : Cond.static Y'.1 ∈ xtbl) (hn : as.length = n) (hst : xcat st ≤ 8)
    (hc : Ct X Y' d as M (pV q)) {st0 : List XV} (h0 : as.reverse ++ st = st0) (k : Go X Y (d + 1) (pc + 3) ls st q.2 Post) : Go X Y (d + 1) pc ls st0 M Post :=
  g_callS hd hw hm hv hn hst hc h0 (fun r M' h => by obtain ⟨rfl, rfl⟩ := h; exact k)
theorem n_J {q : Int × Mem} (hd : decode Y.2.1 pc = .ok (.invokestatic idx, 3)) (hw : Cond.methodLinkNest Y.1.cls idx Y'.1 host ∈ xtbl) (hm : MD Y' n) (hv : Cond.static Y'.1 ∈ xtbl) (hn : as.length = n) (hst : xcat st ≤ 8)
    (hc : Ct X Y' d as M (pJ q)) {st0 : List XV} (h0 : as.reverse ++ st = st0) (k : Go X Y (d + 1) (pc + 3) ls (XL q.1 :: st) q.2 Post) : Go X Y (d + 1) pc ls st0 M Post :=
  g_callN hd hw hm hv hn hst hc h0 (fun r M' h => by obtain ⟨rfl, rfl⟩ := h; exact k)
end CV
end
