section
/-! rows of digits as numbers -/
theorem ok_nm0 {α β : Type} {x : α} {k : α → Option β} {P : β → Prop} (h : Ok (k x) P) : Ok (nm x k) P := h
theorem ok_bi {α β : Type} {c : Prop} [Decidable c] {a b : Option α} {k : α → Option β} {P : β → Prop} (h : Ok (if c then a else b) (fun q => Ok (k q) P)) : Ok (Option.bind (if c then a else b) k) P := ok_bind h
theorem ok_bsm {α β : Type} {x : α} {k : α → Option β} {P : β → Prop} (h : Ok (k x) P) : Ok (Option.bind (some x) k) P := h
def num (l : List Int) : Int := l.foldl (fun v d => 10 * v + d) 0
def gl (l : List Int) : Prop := ∀ d ∈ l, 0 ≤ d ∧ d ≤ 9
theorem num_nil : num [] = 0 := rfl
theorem num_fold : ∀ (l : List Int) (s : Int), l.foldl (fun v d => 10 * v + d) s = s * 10 ^ l.length + num l
  | [], s => by simp [num]
  | d :: l, s => by
    have h1 := num_fold l (10 * s + d)
    have h2 := num_fold l (10 * 0 + d)
    simp only [num, List.foldl_cons, List.length_cons] at *
    rw [h1, h2, Int.pow_succ]
    grind
theorem num_app (a b : List Int) : num (a ++ b) = num a * 10 ^ b.length + num b := by
  have := num_fold b (num a)
  simp only [num, List.foldl_append] at *
  exact this
theorem num_cons (d : Int) (l : List Int) : num (d :: l) = d * 10 ^ l.length + num l := by
  have := num_app [d] l
  simpa [num] using this
theorem num_snoc (l : List Int) (d : Int) : num (l ++ [d]) = 10 * num l + d := by
  simp [num]
theorem ten_pos (k : Nat) : (0 : Int) < 10 ^ k := Int.pow_pos (by decide)
theorem num_bd : ∀ (l : List Int), gl l → 0 ≤ num l ∧ num l < 10 ^ l.length
  | [], _ => by simp [num]
  | d :: l, h => by
    have ih := num_bd l (fun x hx => h x (List.mem_cons_of_mem _ hx))
    have hd := h d List.mem_cons_self
    have hp := ten_pos l.length
    rw [num_cons, List.length_cons, Int.pow_succ]
    have h1 : d * 10 ^ l.length ≤ 9 * 10 ^ l.length := Int.mul_le_mul_of_nonneg_right hd.2 (by omega)
    have h2 : 0 ≤ d * 10 ^ l.length := Int.mul_nonneg hd.1 (by omega)
    omega
theorem gl_take {l : List Int} (h : gl l) (k : Nat) : gl (l.take k) := fun d hd => h d (List.mem_of_mem_take hd)
theorem gl_drop {l : List Int} (h : gl l) (k : Nat) : gl (l.drop k) := fun d hd => h d (List.mem_of_mem_drop hd)
theorem gl_app {a b : List Int} (h : gl a) (h2 : gl b) : gl (a ++ b) := fun d hd => (List.mem_append.mp hd).elim (h d) (h2 d)
theorem gl_rep (k : Nat) : gl (List.replicate k 0) := fun d hd => by rw [List.eq_of_mem_replicate hd]; omega
theorem num_div {l : List Int} (h : gl l) {k j : Nat} (hk : k + j = l.length) : num l / 10 ^ j = num (l.take k) := by
  have e : num l = num (l.take k) * 10 ^ j + num (l.drop k) := by
    conv => lhs; rw [← List.take_append_drop k l]
    rw [num_app]
    congr 2
    rw [List.length_drop]
    have : l.length - k = j := by omega
    rw [this]
  have hb := num_bd _ (gl_drop h k)
  have hl : (l.drop k).length = j := by rw [List.length_drop]; omega
  rw [hl] at hb
  have hp := ten_pos j
  rw [e, Int.add_comm, Int.add_mul_ediv_right _ _ (by omega), Int.ediv_eq_zero_of_lt hb.1 hb.2, Int.zero_add]
theorem num_take_succ {l : List Int} {k : Nat} (hk : k < l.length) : num (l.take (k + 1)) = 10 * num (l.take k) + l[k] := by
  rw [List.take_succ_eq_append_getElem hk, num_snoc]
theorem gl_at {l : List Int} (h : gl l) {k : Nat} (hk : k < l.length) : 0 ≤ l[k] ∧ l[k] ≤ 9 := h _ (List.getElem_mem hk)
theorem num_mod {l : List Int} (h : gl l) {k : Nat} (hk : k < l.length) : num (l.take (k + 1)) % 10 = l[k] := by
  rw [num_take_succ hk]
  have := gl_at h hk
  omega
theorem num_ten {l : List Int} (h : gl l) {k : Nat} (hk : k < l.length) : num (l.take (k + 1)) / 10 = num (l.take k) := by
  rw [num_take_succ hk]
  have := gl_at h hk
  omega
theorem num_take0 (l : List Int) : num (l.take 0) = 0 := rfl
theorem num_take_len (l : List Int) : num (l.take l.length) = num l := by rw [List.take_length]
theorem num_rep : ∀ (k : Nat), num (List.replicate k 0) = 0
  | 0 => rfl
  | k + 1 => by rw [List.replicate_succ, num_cons, num_rep k]; simp
/-- a row's digits: 1 to 8 -/
def rl (l : List Int) : Prop := (∀ d ∈ l, 1 ≤ d ∧ d ≤ 8) ∧ l.length ≤ 8
theorem rl.gl {l : List Int} (h : rl l) : gl l := fun d hd => by have := h.1 d hd; omega
theorem rl.at {l : List Int} (h : rl l) {k : Nat} (hk : k < l.length) : 1 ≤ l[k] ∧ l[k] ≤ 8 := h.1 _ (List.getElem_mem hk)
theorem rl.take {l : List Int} (h : rl l) (k : Nat) : rl (l.take k) := ⟨fun d hd => h.1 d (List.mem_of_mem_take hd), by rw [List.length_take]; have := h.2; omega⟩
theorem num_pos {l : List Int} (h : ∀ d ∈ l, 1 ≤ d) (hg : gl l) (hn : l ≠ []) : 10 ^ (l.length - 1) ≤ num l := by
  cases l with
  | nil => exact absurd rfl hn
  | cons d l =>
    rw [num_cons, List.length_cons, Nat.add_sub_cancel]
    have hd := h d List.mem_cons_self
    have hb := num_bd l (fun x hx => hg x (List.mem_cons_of_mem _ hx))
    have hp := ten_pos l.length
    have h1 : 1 * 10 ^ l.length ≤ d * 10 ^ l.length := Int.mul_le_mul_of_nonneg_right hd (by omega)
    omega
theorem num_pos0 {l : List Int} (h : rl l) {k : Nat} (hk : k < l.length) : 0 < num (l.take (k + 1)) := by
  rw [num_take_succ hk]
  have := h.at hk
  have := (num_bd _ (gl_take h.gl k)).1
  omega
theorem ten_le {a b : Nat} (h : a ≤ b) : (10 : Int) ^ a ≤ 10 ^ b := by
  obtain ⟨c, rfl⟩ := Nat.le.dest h
  rw [Int.pow_add]
  have h1 := ten_pos a
  have h2 := ten_pos c
  have h3 : (10 : Int) ^ a * 1 ≤ 10 ^ a * 10 ^ c := Int.mul_le_mul_of_nonneg_left (by omega) (by omega)
  omega
theorem num_lt8 {l : List Int} (h : rl l) : num l < 100000000 := by
  have h1 := (num_bd l h.gl).2
  have h2 := ten_le h.2
  have : (10 : Int) ^ 8 = 100000000 := by decide
  omega
/-- filled up -/
def pad (l : List Int) : List Int := l ++ List.replicate (8 - l.length) 0
def fill (l : List Int) : Int := num (pad l)
theorem pad_len {l : List Int} (h : rl l) : (pad l).length = 8 := by
  rw [pad, List.length_append, List.length_replicate]; have := h.2; omega
theorem pad_gl {l : List Int} (h : rl l) : gl (pad l) := gl_app h.gl (gl_rep _)
theorem pad_at {l : List Int} (h : rl l) {k : Nat} (hk : k < 8) : (pad l)[k]? = some (l.getD k 0) := by
  unfold pad
  by_cases hl : k < l.length
  · rw [List.getElem?_append_left hl, List.getElem?_eq_getElem hl, List.getD_eq_getElem?_getD, List.getElem?_eq_getElem hl]; rfl
  · rw [List.getElem?_append_right (by omega), List.getElem?_replicate, if_pos (by omega), List.getD_eq_getElem?_getD, List.getElem?_eq_none (by omega)]; rfl
theorem xpl_ten : ∀ (k : Nat), k < 8 → xpl k = 10 ^ (7 - k) := by decide
theorem fill_at {l : List Int} (h : rl l) {k : Nat} (hk : k < 8) : fill l / xpl k % 10 = l.getD k 0 := by
  rw [xpl_ten k hk, fill, num_div (pad_gl h) (k := k + 1) (by rw [pad_len h]; omega), num_mod (pad_gl h) (by rw [pad_len h]; exact hk)]
  have := pad_at h hk
  rw [List.getElem?_eq_getElem (by rw [pad_len h]; exact hk)] at this
  exact Option.some.inj this
theorem fill_bd {l : List Int} (h : rl l) : 0 ≤ fill l ∧ fill l < 100000000 := by
  have := num_bd _ (pad_gl h)
  rw [pad_len h] at this
  have e : (10 : Int) ^ 8 = 100000000 := by decide
  unfold fill
  omega
end
