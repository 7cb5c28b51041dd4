section
/-! what the calls of a text leave as it is -/
def Kp {α : Type} (P : α → Prop) (f : Option α) : Prop := ∀ q, f = some q → P q
def Sm (S : Nat → Nat → Prop) (M M' : Mem) : Prop := ∀ b j, S b j → M' b j = M b j
theorem Sm.w {S : Nat → Nat → Prop} {M M' : Mem} (h : Sm S M M') {b j : Nat} {v : Int} (hb : ¬ S b j) : Sm S M (wr M' b j v) := fun c k hc => by
  have : ¬ (c = b ∧ k = j) := fun e => hb (by rw [← e.1, ← e.2]; exact hc)
  simp only [wr]
  rw [if_neg this]
  exact h c k hc
theorem kp_none {α : Type} {P : α → Prop} : Kp P none := fun _ h => by cases h
theorem kp_some {α : Type} {P : α → Prop} {q : α} (h : P q) : Kp P (some q) := fun _ e => by cases e; exact h
theorem kp_ite {α : Type} {P : α → Prop} {c : Prop} [Decidable c] {a b : Option α} (ha : Kp P a) (hb : Kp P b) : Kp P (if c then a else b) := by
  by_cases h : c
  · rw [if_pos h]; exact ha
  · rw [if_neg h]; exact hb
theorem kp_nm {α β : Type} {P : β → Prop} {x : α} {k : α → Option β} (h : Kp P (k x)) : Kp P (nm x k) := h
theorem kp_i {β : Type} {P : β → Prop} {x : Option Int} {k : Int → Option β} (h : ∀ v, Kp P (k v)) : Kp P (Option.bind x k) := by
  cases x with
  | none => exact kp_none
  | some v => exact h v
theorem kp_q {β : Type} {P : β → Prop} {x : Option (Int × Mem)} {k : Int × Mem → Option β} (S : Nat → Nat → Prop) (M0 : Mem) (h : Kp (fun q => Sm S M0 q.2) x) (hk : ∀ q, Sm S M0 q.2 → Kp P (k q)) : Kp P (Option.bind x k) := by
  cases hx : x with
  | none => exact kp_none
  | some v => exact hk v (h v hx)
theorem kp_m {β : Type} {P : β → Prop} {x : Option Mem} {k : Mem → Option β} (S : Nat → Nat → Prop) (M0 : Mem) (h : Kp (fun q => Sm S M0 q) x) (hk : ∀ q, Sm S M0 q → Kp P (k q)) : Kp P (Option.bind x k) := by
  cases hx : x with
  | none => exact kp_none
  | some v => exact hk v (h v hx)
theorem kp_lr {β : Type} {S : Nat → Nat → Prop} {M0 : Mem} {x : Option ((Int × Mem) ⊕ β)} (h : Kp (fun z => ∀ a, z = .inl a → Sm S M0 a.2) x) : Kp (fun q => Sm S M0 q.2) (lr x (fun r => r) (fun _ => none)) := by
  cases hx : x with
  | none => exact kp_none
  | some v =>
    cases v with
    | inl a => exact kp_some (h _ hx a rfl)
    | inr b => exact kp_none
theorem kp_l {β : Type} {S : Nat → Nat → Prop} {M0 : Mem} {q : Int × Mem} (h : Sm S M0 q.2) : Kp (fun z : (Int × Mem) ⊕ β => ∀ a, z = .inl a → Sm S M0 a.2) (some (.inl q)) := kp_some (fun a e => by cases e; exact h)
def SC (b j : Nat) : Prop := (b = 210 ∧ j = 2) ∨ b = 214 ∨ b = 215 ∨ b = 216
def SD (b j : Nat) : Prop := (b = 20000 ∧ j = 49) ∨ b = 20053 ∨ b = 20054 ∨ b = 20055
abbrev KQ (S : Nat → Nat → Prop) (M0 : Mem) (f : Option (Int × Mem)) : Prop := Kp (fun q => Sm S M0 q.2) f
theorem kC_candidate {M0 M : Mem} (h : Sm SC M0 M) : KQ SC M0 (fX8_candidate 10 M) := by
  unfold fX8_candidate
  simp only [Nat.reduceAdd]
  repeat' (first | assumption | exact kp_none | with_reducible refine ih _ _ _ ?_ | with_reducible refine ih _ _ _ _ ?_ | with_reducible refine kp_l ?_ | with_reducible refine kp_some ?_ | with_reducible refine kp_nm ?_ | with_reducible refine kp_ite ?_ ?_ | with_reducible refine kp_i (fun _ => ?_) | with_reducible refine kp_q SC M0 ?_ (fun q hq => ?_) | with_reducible refine kp_m SC M0 ?_ (fun q hq => ?_) | (with_reducible refine Sm.w ?_ ?_; rotate_left; · (unfold SC; omega)) | dsimp only)
theorem kC_addCause {M0 M : Mem} (x y : Int) (h : Sm SC M0 M) : KQ SC M0 (fX7_addCause 310 x y M) := by
  unfold fX7_addCause
  simp only [Nat.reduceAdd]
  repeat' (first | assumption | exact kp_none | with_reducible refine ih _ _ _ ?_ | with_reducible refine ih _ _ _ _ ?_ | with_reducible refine kp_l ?_ | with_reducible refine kp_some ?_ | with_reducible refine kp_nm ?_ | with_reducible refine kp_ite ?_ ?_ | with_reducible refine kp_i (fun _ => ?_) | with_reducible refine kp_q SC M0 ?_ (fun q hq => ?_) | with_reducible refine kp_m SC M0 ?_ (fun q hq => ?_) | (with_reducible refine Sm.w ?_ ?_; rotate_left; · (unfold SC; omega)) | dsimp only)
theorem kC_begin {M0 M : Mem} (x y : Int) (h : Sm SC M0 M) : KQ SC M0 (fX7_begin 310 x y M) := by
  unfold fX7_begin
  refine kp_nm (kp_q SC M0 (kC_addCause _ _ (h.w (by unfold SC; omega))) (fun q hq => kp_some hq))
theorem kC_isOver_l {M0 : Mem} {b v n : Int} : ∀ (m : Nat) (s i : Int) (M : Mem), Sm SC M0 M → Kp (fun z : (Int × Mem) ⊕ (Int × Int × Mem) => ∀ a, z = .inl a → Sm SC M0 a.2) (fX8_isOver_l20 10 b v n m s i M) := by
  intro m
  induction m with
  | zero => intro s i M h; exact kp_none
  | succ m ih =>
    intro s i M h
    unfold fX8_isOver_l20
    simp only [Nat.reduceAdd]
    repeat' (first | assumption | exact kp_none | with_reducible refine kC_addCause _ _ ?_ | with_reducible refine kC_begin _ _ ?_ | with_reducible refine ih _ _ _ ?_ | with_reducible refine ih _ _ _ _ ?_ | with_reducible refine kp_l ?_ | with_reducible refine kp_some ?_ | with_reducible refine kp_nm ?_ | with_reducible refine kp_ite ?_ ?_ | with_reducible refine kp_i (fun _ => ?_) | with_reducible refine kp_q SC M0 ?_ (fun q hq => ?_) | with_reducible refine kp_m SC M0 ?_ (fun q hq => ?_) | (with_reducible refine Sm.w ?_ ?_; rotate_left; · (unfold SC; omega)) | dsimp only)
theorem kC_isOver {M0 M : Mem} (b v : Int) (h : Sm SC M0 M) : KQ SC M0 (fX8_isOver 10 b v M) := by
  unfold fX8_isOver
  exact kp_ite (kp_nm (kp_lr (kC_isOver_l _ _ _ _ h))) kp_none
theorem k_isRow_l {S : Nat → Nat → Prop} {M0 : Mem} {n : Int} : ∀ (m : Nat) (s i j : Int) (M : Mem), Sm S M0 M → Kp (fun z : (Int × Mem) ⊕ (Int × Int × Int × Mem) => ∀ a, z = .inl a → Sm S M0 a.2) (fX2_isRow_l20 n m s i j M) := by
  intro m
  induction m with
  | zero => intro s i j M h; exact kp_none
  | succ m ih =>
    intro s i j M h
    unfold fX2_isRow_l20
    repeat' (first | assumption | exact kp_none | with_reducible refine kC_addCause _ _ ?_ | with_reducible refine kC_begin _ _ ?_ | with_reducible refine kC_isOver _ _ ?_ | with_reducible refine ih _ _ _ ?_ | with_reducible refine ih _ _ _ _ ?_ | with_reducible refine kp_l ?_ | with_reducible refine kp_some ?_ | with_reducible refine kp_nm ?_ | with_reducible refine kp_ite ?_ ?_ | with_reducible refine kp_i (fun _ => ?_) | with_reducible refine kp_q S M0 ?_ (fun q hq => ?_) | with_reducible refine kp_m S M0 ?_ (fun q hq => ?_) | (with_reducible refine Sm.w ?_ ?_) | dsimp only)
theorem k_isRow {S : Nat → Nat → Prop} {M0 M : Mem} (r n : Int) (h : Sm S M0 M) : KQ S M0 (fX2_isRow r n M) := by
  unfold fX2_isRow
  exact kp_ite (kp_some h) (kp_ite (kp_lr (k_isRow_l _ _ _ _ _ h)) (kp_some h))
theorem k_filledUp_l {S : Nat → Nat → Prop} {M0 : Mem} : ∀ (m : Nat) (s i : Int) (M : Mem), Sm S M0 M → Kp (fun z => Sm S M0 z.2.2) (fX2_filledUp_l4 m s i M) := by
  intro m
  induction m with
  | zero => intro s i M h; exact kp_none
  | succ m ih =>
    intro s i M h
    unfold fX2_filledUp_l4
    repeat' (first | assumption | exact kp_none | with_reducible refine kC_addCause _ _ ?_ | with_reducible refine kC_begin _ _ ?_ | with_reducible refine kC_isOver _ _ ?_ | with_reducible refine k_isRow _ _ ?_ | with_reducible refine ih _ _ _ ?_ | with_reducible refine ih _ _ _ _ ?_ | with_reducible refine kp_l ?_ | with_reducible refine kp_some ?_ | with_reducible refine kp_nm ?_ | with_reducible refine kp_ite ?_ ?_ | with_reducible refine kp_i (fun _ => ?_) | with_reducible refine kp_q S M0 ?_ (fun q hq => ?_) | with_reducible refine kp_m S M0 ?_ (fun q hq => ?_) | (with_reducible refine Sm.w ?_ ?_) | dsimp only)
theorem k_filledUp {S : Nat → Nat → Prop} {M0 M : Mem} (r : Int) (h : Sm S M0 M) : KQ S M0 (fX2_filledUp r M) := by
  unfold fX2_filledUp
  intro q hq
  cases hx : fX2_filledUp_l4 1000 r 1 M with
  | none => rw [hx] at hq; cases hq
  | some z => rw [hx] at hq; cases hq; exact k_filledUp_l 1000 r 1 M h z hx
theorem kC_ballot {M0 M : Mem} (r n : Int) (h : Sm SC M0 M) : KQ SC M0 (fX8_ballot 10 r n M) := by
  unfold fX8_ballot
  simp only [Nat.reduceAdd]
  repeat' (first | assumption | exact kp_none | with_reducible refine kC_addCause _ _ ?_ | with_reducible refine kC_begin _ _ ?_ | with_reducible refine kC_isOver _ _ ?_ | with_reducible refine k_isRow _ _ ?_ | with_reducible refine k_filledUp _ ?_ | with_reducible refine ih _ _ _ ?_ | with_reducible refine ih _ _ _ _ ?_ | with_reducible refine kp_l ?_ | with_reducible refine kp_some ?_ | with_reducible refine kp_nm ?_ | with_reducible refine kp_ite ?_ ?_ | with_reducible refine kp_i (fun _ => ?_) | with_reducible refine kp_q SC M0 ?_ (fun q hq => ?_) | with_reducible refine kp_m SC M0 ?_ (fun q hq => ?_) | (with_reducible refine Sm.w ?_ ?_; rotate_left; · (unfold SC; omega)) | dsimp only)
theorem kC_set {M0 M : Mem} (w v : Int) (h : Sm SC M0 M) : KQ SC M0 (fX8_set 10 w v M) := by
  unfold fX8_set fX8_putSeats fX8_putLimit fX8_putRounds
  simp only [Nat.reduceAdd]
  repeat' (first | assumption | exact kp_none | with_reducible refine kC_addCause _ _ ?_ | with_reducible refine kC_begin _ _ ?_ | with_reducible refine kC_isOver _ _ ?_ | with_reducible refine k_isRow _ _ ?_ | with_reducible refine k_filledUp _ ?_ | with_reducible refine ih _ _ _ ?_ | with_reducible refine ih _ _ _ _ ?_ | with_reducible refine kp_l ?_ | with_reducible refine kp_some ?_ | with_reducible refine kp_nm ?_ | with_reducible refine kp_ite ?_ ?_ | with_reducible refine kp_i (fun _ => ?_) | with_reducible refine kp_q SC M0 ?_ (fun q hq => ?_) | with_reducible refine kp_m SC M0 ?_ (fun q hq => ?_) | (with_reducible refine Sm.w ?_ ?_; rotate_left; · (unfold SC; omega)) | dsimp only)
theorem k_hasCand {S : Nat → Nat → Prop} {M0 M : Mem} (o : Nat) (c : Int) (h : Sm S M0 M) : KQ S M0 (fX1_hasCandidate o c M) := by
  unfold fX1_hasCandidate
  repeat' (first | assumption | exact kp_none | with_reducible refine kC_addCause _ _ ?_ | with_reducible refine kC_begin _ _ ?_ | with_reducible refine kC_isOver _ _ ?_ | with_reducible refine k_isRow _ _ ?_ | with_reducible refine k_filledUp _ ?_ | with_reducible refine ih _ _ _ ?_ | with_reducible refine ih _ _ _ _ ?_ | with_reducible refine kp_l ?_ | with_reducible refine kp_some ?_ | with_reducible refine kp_nm ?_ | with_reducible refine kp_ite ?_ ?_ | with_reducible refine kp_i (fun _ => ?_) | with_reducible refine kp_q S M0 ?_ (fun q hq => ?_) | with_reducible refine kp_m S M0 ?_ (fun q hq => ?_) | (with_reducible refine Sm.w ?_ ?_) | dsimp only)
theorem kC_gone {M0 M : Mem} (c i : Int) (h : Sm SC M0 M) : KQ SC M0 (fX8_gone 10 c i M) := by
  unfold fX8_gone
  simp only [Nat.reduceAdd]
  repeat' (first | assumption | exact kp_none | with_reducible refine kC_addCause _ _ ?_ | with_reducible refine kC_begin _ _ ?_ | with_reducible refine kC_isOver _ _ ?_ | with_reducible refine k_isRow _ _ ?_ | with_reducible refine k_filledUp _ ?_ | with_reducible refine k_hasCand _ _ ?_ | with_reducible refine ih _ _ _ ?_ | with_reducible refine ih _ _ _ _ ?_ | with_reducible refine kp_l ?_ | with_reducible refine kp_some ?_ | with_reducible refine kp_nm ?_ | with_reducible refine kp_ite ?_ ?_ | with_reducible refine kp_i (fun _ => ?_) | with_reducible refine kp_q SC M0 ?_ (fun q hq => ?_) | with_reducible refine kp_m SC M0 ?_ (fun q hq => ?_) | (with_reducible refine Sm.w ?_ ?_; rotate_left; · (unfold SC; omega)) | dsimp only)
theorem k_in {S : Nat → Nat → Prop} {M0 M : Mem} (x l u : Int) (h : Sm S M0 M) : KQ S M0 (fX9_in x l u M) := by
  unfold fX9_in
  repeat' (first | assumption | exact kp_none | with_reducible refine kC_addCause _ _ ?_ | with_reducible refine kC_begin _ _ ?_ | with_reducible refine kC_isOver _ _ ?_ | with_reducible refine k_isRow _ _ ?_ | with_reducible refine k_filledUp _ ?_ | with_reducible refine k_hasCand _ _ ?_ | with_reducible refine ih _ _ _ ?_ | with_reducible refine ih _ _ _ _ ?_ | with_reducible refine kp_l ?_ | with_reducible refine kp_some ?_ | with_reducible refine kp_nm ?_ | with_reducible refine kp_ite ?_ ?_ | with_reducible refine kp_i (fun _ => ?_) | with_reducible refine kp_q S M0 ?_ (fun q hq => ?_) | with_reducible refine kp_m S M0 ?_ (fun q hq => ?_) | (with_reducible refine Sm.w ?_ ?_) | dsimp only)
theorem k_has {S : Nat → Nat → Prop} {M0 M : Mem} (x l : Int) (h : Sm S M0 M) : KQ S M0 (fX9_has x l M) := by
  unfold fX9_has
  repeat' (first | assumption | exact kp_none | with_reducible refine kC_addCause _ _ ?_ | with_reducible refine kC_begin _ _ ?_ | with_reducible refine kC_isOver _ _ ?_ | with_reducible refine k_isRow _ _ ?_ | with_reducible refine k_filledUp _ ?_ | with_reducible refine k_hasCand _ _ ?_ | with_reducible refine k_in _ _ _ ?_ | with_reducible refine ih _ _ _ ?_ | with_reducible refine ih _ _ _ _ ?_ | with_reducible refine kp_l ?_ | with_reducible refine kp_some ?_ | with_reducible refine kp_nm ?_ | with_reducible refine kp_ite ?_ ?_ | with_reducible refine kp_i (fun _ => ?_) | with_reducible refine kp_q S M0 ?_ (fun q hq => ?_) | with_reducible refine kp_m S M0 ?_ (fun q hq => ?_) | (with_reducible refine Sm.w ?_ ?_) | dsimp only)
theorem k_isOne {S : Nat → Nat → Prop} {M0 M : Mem} (o : Nat) (c : Int) (h : Sm S M0 M) : KQ S M0 (fX9_isOne o c M) := by
  unfold fX9_isOne
  repeat' (first | assumption | exact kp_none | with_reducible refine kC_addCause _ _ ?_ | with_reducible refine kC_begin _ _ ?_ | with_reducible refine kC_isOver _ _ ?_ | with_reducible refine k_isRow _ _ ?_ | with_reducible refine k_filledUp _ ?_ | with_reducible refine k_hasCand _ _ ?_ | with_reducible refine k_in _ _ _ ?_ | with_reducible refine k_has _ _ ?_ | with_reducible refine ih _ _ _ ?_ | with_reducible refine ih _ _ _ _ ?_ | with_reducible refine kp_l ?_ | with_reducible refine kp_some ?_ | with_reducible refine kp_nm ?_ | with_reducible refine kp_ite ?_ ?_ | with_reducible refine kp_i (fun _ => ?_) | with_reducible refine kp_q S M0 ?_ (fun q hq => ?_) | with_reducible refine kp_m S M0 ?_ (fun q hq => ?_) | (with_reducible refine Sm.w ?_ ?_) | dsimp only)
theorem kD_candidate {M0 M : Mem} (h : Sm SD M0 M) : KQ SD M0 (fX9_candidate 20000 M) := by
  unfold fX9_candidate
  simp only [Nat.reduceAdd]
  repeat' (first | assumption | exact kp_none | with_reducible refine kC_addCause _ _ ?_ | with_reducible refine kC_begin _ _ ?_ | with_reducible refine kC_isOver _ _ ?_ | with_reducible refine k_isRow _ _ ?_ | with_reducible refine k_filledUp _ ?_ | with_reducible refine k_hasCand _ _ ?_ | with_reducible refine k_in _ _ _ ?_ | with_reducible refine k_has _ _ ?_ | with_reducible refine k_isOne _ _ ?_ | with_reducible refine ih _ _ _ ?_ | with_reducible refine ih _ _ _ _ ?_ | with_reducible refine kp_l ?_ | with_reducible refine kp_some ?_ | with_reducible refine kp_nm ?_ | with_reducible refine kp_ite ?_ ?_ | with_reducible refine kp_i (fun _ => ?_) | with_reducible refine kp_q SD M0 ?_ (fun q hq => ?_) | with_reducible refine kp_m SD M0 ?_ (fun q hq => ?_) | (with_reducible refine Sm.w ?_ ?_; rotate_left; · (unfold SD; omega)) | dsimp only)
theorem k_misRow_l {S : Nat → Nat → Prop} {M0 : Mem} (o : Nat) : ∀ (m : Nat) (s i : Int) (M : Mem), Sm S M0 M → Kp (fun z : (Int × Mem) ⊕ (Int × Int × Mem) => ∀ a, z = .inl a → Sm S M0 a.2) (fX9_isRow_l18 o m s i M) := by
  intro m
  induction m with
  | zero => intro s i M h; exact kp_none
  | succ m ih =>
    intro s i M h
    unfold fX9_isRow_l18
    repeat' (first | assumption | exact kp_none | with_reducible refine kC_addCause _ _ ?_ | with_reducible refine kC_begin _ _ ?_ | with_reducible refine kC_isOver _ _ ?_ | with_reducible refine k_isRow _ _ ?_ | with_reducible refine k_filledUp _ ?_ | with_reducible refine k_hasCand _ _ ?_ | with_reducible refine k_in _ _ _ ?_ | with_reducible refine k_has _ _ ?_ | with_reducible refine k_isOne _ _ ?_ | with_reducible refine ih _ _ _ ?_ | with_reducible refine ih _ _ _ _ ?_ | with_reducible refine kp_l ?_ | with_reducible refine kp_some ?_ | with_reducible refine kp_nm ?_ | with_reducible refine kp_ite ?_ ?_ | with_reducible refine kp_i (fun _ => ?_) | with_reducible refine kp_q S M0 ?_ (fun q hq => ?_) | with_reducible refine kp_m S M0 ?_ (fun q hq => ?_) | (with_reducible refine Sm.w ?_ ?_) | dsimp only)
theorem k_misRow {S : Nat → Nat → Prop} {M0 M : Mem} (o : Nat) (r : Int) (h : Sm S M0 M) : KQ S M0 (fX9_isRow o r M) := by
  unfold fX9_isRow
  exact kp_q S M0 (k_in _ _ _ h) (fun q hq => kp_ite (kp_some hq) (kp_lr (k_misRow_l _ _ _ _ _ hq)))
theorem k_firstOver_l {S : Nat → Nat → Prop} {M0 : Mem} (o : Nat) (n : Int) : ∀ (m : Nat) (s i : Int) (M : Mem), Sm S M0 M → Kp (fun z : (Int × Mem) ⊕ (Int × Int × Mem) => ∀ a, z = .inl a → Sm S M0 a.2) (fX9_firstOver_l5 o n m s i M) := by
  intro m
  induction m with
  | zero => intro s i M h; exact kp_none
  | succ m ih =>
    intro s i M h
    unfold fX9_firstOver_l5
    repeat' (first | assumption | exact kp_none | with_reducible refine kC_addCause _ _ ?_ | with_reducible refine kC_begin _ _ ?_ | with_reducible refine kC_isOver _ _ ?_ | with_reducible refine k_isRow _ _ ?_ | with_reducible refine k_filledUp _ ?_ | with_reducible refine k_hasCand _ _ ?_ | with_reducible refine k_in _ _ _ ?_ | with_reducible refine k_has _ _ ?_ | with_reducible refine k_isOne _ _ ?_ | with_reducible refine k_misRow _ _ ?_ | with_reducible refine ih _ _ _ ?_ | with_reducible refine ih _ _ _ _ ?_ | with_reducible refine kp_l ?_ | with_reducible refine kp_some ?_ | with_reducible refine kp_nm ?_ | with_reducible refine kp_ite ?_ ?_ | with_reducible refine kp_i (fun _ => ?_) | with_reducible refine kp_q S M0 ?_ (fun q hq => ?_) | with_reducible refine kp_m S M0 ?_ (fun q hq => ?_) | (with_reducible refine Sm.w ?_ ?_) | dsimp only)
theorem k_firstOver {S : Nat → Nat → Prop} {M0 M : Mem} (o : Nat) (n : Int) (h : Sm S M0 M) : KQ S M0 (fX9_firstOver o n M) := by
  unfold fX9_firstOver
  exact kp_lr (k_firstOver_l _ _ _ _ _ _ h)
theorem kD_over {M0 M : Mem} (n : Int) (h : Sm SD M0 M) : KQ SD M0 (fX9_over 20000 n M) := by
  unfold fX9_over
  simp only [Nat.reduceAdd]
  repeat' (first | assumption | exact kp_none | with_reducible refine kC_addCause _ _ ?_ | with_reducible refine kC_begin _ _ ?_ | with_reducible refine kC_isOver _ _ ?_ | with_reducible refine k_isRow _ _ ?_ | with_reducible refine k_filledUp _ ?_ | with_reducible refine k_hasCand _ _ ?_ | with_reducible refine k_in _ _ _ ?_ | with_reducible refine k_has _ _ ?_ | with_reducible refine k_isOne _ _ ?_ | with_reducible refine k_misRow _ _ ?_ | with_reducible refine k_firstOver _ _ ?_ | with_reducible refine ih _ _ _ ?_ | with_reducible refine ih _ _ _ _ ?_ | with_reducible refine kp_l ?_ | with_reducible refine kp_some ?_ | with_reducible refine kp_nm ?_ | with_reducible refine kp_ite ?_ ?_ | with_reducible refine kp_i (fun _ => ?_) | with_reducible refine kp_q SD M0 ?_ (fun q hq => ?_) | with_reducible refine kp_m SD M0 ?_ (fun q hq => ?_) | (with_reducible refine Sm.w ?_ ?_; rotate_left; · (unfold SD; omega)) | dsimp only)
theorem kD_ballot {M0 M : Mem} (r n : Int) (h : Sm SD M0 M) : KQ SD M0 (fX9_ballot 20000 r n M) := by
  unfold fX9_ballot
  simp only [Nat.reduceAdd]
  repeat' (first | assumption | exact kp_none | with_reducible refine kC_addCause _ _ ?_ | with_reducible refine kC_begin _ _ ?_ | with_reducible refine kC_isOver _ _ ?_ | with_reducible refine k_isRow _ _ ?_ | with_reducible refine k_filledUp _ ?_ | with_reducible refine k_hasCand _ _ ?_ | with_reducible refine k_in _ _ _ ?_ | with_reducible refine k_has _ _ ?_ | with_reducible refine k_isOne _ _ ?_ | with_reducible refine k_misRow _ _ ?_ | with_reducible refine k_firstOver _ _ ?_ | with_reducible refine kD_over _ ?_ | with_reducible refine ih _ _ _ ?_ | with_reducible refine ih _ _ _ _ ?_ | with_reducible refine kp_l ?_ | with_reducible refine kp_some ?_ | with_reducible refine kp_nm ?_ | with_reducible refine kp_ite ?_ ?_ | with_reducible refine kp_i (fun _ => ?_) | with_reducible refine kp_q SD M0 ?_ (fun q hq => ?_) | with_reducible refine kp_m SD M0 ?_ (fun q hq => ?_) | (with_reducible refine Sm.w ?_ ?_; rotate_left; · (unfold SD; omega)) | dsimp only)
theorem kD_set {M0 M : Mem} (w v : Int) (h : Sm SD M0 M) : KQ SD M0 (fX9_set 20000 w v M) := by
  unfold fX9_set
  repeat' (first | assumption | exact kp_none | with_reducible refine kC_addCause _ _ ?_ | with_reducible refine kC_begin _ _ ?_ | with_reducible refine kC_isOver _ _ ?_ | with_reducible refine k_isRow _ _ ?_ | with_reducible refine k_filledUp _ ?_ | with_reducible refine k_hasCand _ _ ?_ | with_reducible refine k_in _ _ _ ?_ | with_reducible refine k_has _ _ ?_ | with_reducible refine k_isOne _ _ ?_ | with_reducible refine k_misRow _ _ ?_ | with_reducible refine k_firstOver _ _ ?_ | with_reducible refine kD_over _ ?_ | with_reducible refine ih _ _ _ ?_ | with_reducible refine ih _ _ _ _ ?_ | with_reducible refine kp_l ?_ | with_reducible refine kp_some ?_ | with_reducible refine kp_nm ?_ | with_reducible refine kp_ite ?_ ?_ | with_reducible refine kp_i (fun _ => ?_) | with_reducible refine kp_q SD M0 ?_ (fun q hq => ?_) | with_reducible refine kp_m SD M0 ?_ (fun q hq => ?_) | (with_reducible refine Sm.w ?_ ?_; rotate_left; · (unfold SD; omega)) | dsimp only)
theorem kD_gone {M0 M : Mem} (c i : Int) (h : Sm SD M0 M) : KQ SD M0 (fX9_gone 20000 c i M) := by
  unfold fX9_gone
  simp only [Nat.reduceAdd]
  repeat' (first | assumption | exact kp_none | with_reducible refine kC_addCause _ _ ?_ | with_reducible refine kC_begin _ _ ?_ | with_reducible refine kC_isOver _ _ ?_ | with_reducible refine k_isRow _ _ ?_ | with_reducible refine k_filledUp _ ?_ | with_reducible refine k_hasCand _ _ ?_ | with_reducible refine k_in _ _ _ ?_ | with_reducible refine k_has _ _ ?_ | with_reducible refine k_isOne _ _ ?_ | with_reducible refine k_misRow _ _ ?_ | with_reducible refine k_firstOver _ _ ?_ | with_reducible refine kD_over _ ?_ | with_reducible refine ih _ _ _ ?_ | with_reducible refine ih _ _ _ _ ?_ | with_reducible refine kp_l ?_ | with_reducible refine kp_some ?_ | with_reducible refine kp_nm ?_ | with_reducible refine kp_ite ?_ ?_ | with_reducible refine kp_i (fun _ => ?_) | with_reducible refine kp_q SD M0 ?_ (fun q hq => ?_) | with_reducible refine kp_m SD M0 ?_ (fun q hq => ?_) | (with_reducible refine Sm.w ?_ ?_; rotate_left; · (unfold SD; omega)) | dsimp only)
end
