section
/-! pure: that a function of the walks gives an answer, and which -/
def Ok {α : Type} (f : Option α) (P : α → Prop) : Prop := ∃ q, f = some q ∧ P q
theorem Ok.mono {α : Type} {f : Option α} {P P2 : α → Prop} (h : Ok f P) (hp : ∀ q, P q → P2 q) : Ok f P2 := by obtain ⟨q, h1, h2⟩ := h; exact ⟨q, h1, hp q h2⟩
theorem ok_some {α : Type} {q : α} {P : α → Prop} (h : P q) : Ok (some q) P := ⟨q, rfl, h⟩
theorem ok_chk {α : Type} {c : Prop} [Decidable c] {k : Option α} {P : α → Prop} (hc : c) (h : Ok k P) : Ok (if c then k else none) P := by rw [if_pos hc]; exact h
theorem ok_ite {α : Type} {c : Prop} [Decidable c] {a b : Option α} {P : α → Prop} (h1 : c → Ok a P) (h2 : ¬ c → Ok b P) : Ok (if c then a else b) P := by
  by_cases hc : c
  · rw [if_pos hc]; exact h1 hc
  · rw [if_neg hc]; exact h2 hc
theorem ok_if {α : Type} {c : Prop} [Decidable c] {a b : Option α} {P : α → Prop} (hc : c) (h : Ok a P) : Ok (if c then a else b) P := by rw [if_pos hc]; exact h
theorem ok_el {α : Type} {c : Prop} [Decidable c] {a b : Option α} {P : α → Prop} (hc : ¬ c) (h : Ok b P) : Ok (if c then a else b) P := by rw [if_neg hc]; exact h
theorem ok_bind {α β : Type} {x : Option α} {k : α → Option β} {P : β → Prop} (h : Ok x (fun q => Ok (k q) P)) : Ok (Option.bind x k) P := by
  obtain ⟨q, h1, h2⟩ := h; rw [h1]; exact h2
theorem ok_by {α β : Type} {x : Option α} {k : α → Option β} {P : β → Prop} {Q : α → Prop} (h : Ok x Q) (hk : ∀ q, Q q → Ok (k q) P) : Ok (Option.bind x k) P := ok_bind (h.mono hk)
theorem ok_nm {α β : Type} {x : α} {k : α → Option β} {P : β → Prop} (h : ∀ y, y = x → Ok (k y) P) : Ok (nm x k) P := h x rfl
theorem ok_lr {α β γ : Type} {x : Option (α ⊕ β)} {f : α → γ} {k : β → Option γ} {P : γ → Prop} (h : Ok x (fun z => (∀ a, z = .inl a → P (f a)) ∧ ∀ b, z = .inr b → Ok (k b) P)) : Ok (lr x f k) P := by
  obtain ⟨z, h1, h2, h3⟩ := h
  rw [h1]
  rcases z with a | b
  · exact ⟨_, rfl, h2 a rfl⟩
  · exact h3 b rfl
theorem ok_oc {α : Type} {x : Option Nat} {n : Option α} {s : Nat → Option α} {P : α → Prop} (h1 : x = none → Ok n P) (h2 : ∀ a, x = some a → Ok (s a) P) : Ok (oc x n s) P := by
  cases x with
  | none => exact h1 rfl
  | some a => exact h2 a rfl
end
