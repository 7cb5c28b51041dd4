section
/-! sets as bits, derived -/
theorem bt_shr {w : Int} (h0 : 0 ≤ w) (h1 : w < 512) {c : Nat} (hc : c < 9) : bAnd (bShr w (c : Int)) 1 = if bt w c then 1 else 0 := by
  obtain ⟨k, rfl⟩ := Int.eq_ofNat_of_zero_le h0
  exact bt_shr0 k (by omega) c hc
theorem bt_or_e {w : Int} (h0 : 0 ≤ w) (h1 : w < 512) {c : Nat} (hc : c < 9) : bOr w (bShl 1 (c : Int)) = ((w.toNat ||| 2 ^ c : Nat) : Int) := by
  obtain ⟨k, rfl⟩ := Int.eq_ofNat_of_zero_le h0
  exact bt_or0 k (by omega) c hc
theorem bt_0 (c : Nat) : bt 0 c = false := by simp [bt]
theorem bt_or {w : Int} (h0 : 0 ≤ w) (h1 : w < 512) {c : Nat} (hc : c < 9) (d : Nat) : bt (bOr w (bShl 1 (c : Int))) d = (bt w d || decide (d = c)) := by
  rw [bt_or_e h0 h1 hc]
  unfold bt
  rw [Int.toNat_natCast, Nat.testBit_or, Nat.testBit_two_pow]
  congr 1
  exact decide_eq_decide.mpr ⟨fun h => h.symm, fun h => h.symm⟩
theorem bt_or_bd {w : Int} {m : Nat} (hm : m ≤ 9) (h0 : 0 ≤ w) (h1 : w < 2 ^ m) {c : Nat} (hc : c < m) : 0 ≤ bOr w (bShl 1 (c : Int)) ∧ bOr w (bShl 1 (c : Int)) < 2 ^ m := by
  obtain ⟨k, rfl⟩ := Int.eq_ofNat_of_zero_le h0
  have h2 : k < 2 ^ m := by exact_mod_cast h1
  have h3 : k < 512 := Nat.lt_of_lt_of_le h2 (Nat.pow_le_pow_right (by decide) hm)
  rw [bt_or_e h0 (by omega) (by omega)]
  constructor
  · omega
  · have := Nat.or_lt_two_pow (x := k) (y := 2 ^ c) h2 (Nat.pow_lt_pow_right (by decide) hc)
    exact_mod_cast this
theorem bt_ext {w v : Int} (h0 : 0 ≤ w) (h1 : w < 256) (h2 : 0 ≤ v) (h3 : v < 256) (h : ∀ c, c < 8 → bt w c = bt v c) : w = v := by
  obtain ⟨k, rfl⟩ := Int.eq_ofNat_of_zero_le h0
  obtain ⟨j, rfl⟩ := Int.eq_ofNat_of_zero_le h2
  have : k = j := by
    apply Nat.eq_of_testBit_eq
    intro i
    by_cases hi : i < 8
    · exact h i hi
    · have e : 2 ^ 8 ≤ 2 ^ i := Nat.pow_le_pow_right (by decide) (by omega)
      rw [Nat.testBit_lt_two_pow (by omega), Nat.testBit_lt_two_pow (by omega)]
  rw [this]
theorem bt255 : ∀ v : Nat, v < 256 → ∀ c : Nat, c < 8 → (255 ^^^ v : Nat).testBit c = !v.testBit c := by decide +kernel
theorem bt_cl {w : Int} (h0 : 0 ≤ w) (h1 : w < 256) {c : Nat} (hc : c < 8) : 0 ≤ bAnd w (bXor (bShl 1 (c : Int)) (-1)) ∧ bAnd w (bXor (bShl 1 (c : Int)) (-1)) < 256 ∧ ∀ d, d < 8 → bt (bAnd w (bXor (bShl 1 (c : Int)) (-1))) d = (bt w d && !decide (d = c)) := by
  obtain ⟨k, rfl⟩ := Int.eq_ofNat_of_zero_le h0
  rw [bt_cl0 k (by omega) c hc]
  refine ⟨by omega, ?_, fun d hd => ?_⟩
  · have := Nat.and_le_left (n := k) (m := 255 ^^^ 2 ^ c)
    omega
  · unfold bt
    have h4 : 2 ^ c < 256 := Nat.pow_lt_pow_right (a := 2) (m := c) (n := 8) (by decide) hc
    rw [Int.toNat_natCast, Int.toNat_natCast, Nat.testBit_and, bt255 _ h4 d hd, Nat.testBit_two_pow]
    congr 2
    exact decide_eq_decide.mpr ⟨fun h => h.symm, fun h => h.symm⟩
theorem bt_an {w v : Int} (h0 : 0 ≤ w) (h1 : w < 256) (h2 : 0 ≤ v) (h3 : v < 256) : 0 ≤ bAnd w (bXor v (-1)) ∧ bAnd w (bXor v (-1)) < 256 ∧ ∀ d, d < 8 → bt (bAnd w (bXor v (-1))) d = (bt w d && !bt v d) := by
  obtain ⟨k, rfl⟩ := Int.eq_ofNat_of_zero_le h0
  obtain ⟨j, rfl⟩ := Int.eq_ofNat_of_zero_le h2
  rw [bt_an0 k (by omega) j (by omega)]
  refine ⟨by omega, ?_, fun d hd => ?_⟩
  · have := Nat.and_le_left (n := k) (m := 255 ^^^ j)
    omega
  · unfold bt
    rw [Int.toNat_natCast, Int.toNat_natCast, Nat.testBit_and, bt255 _ (by omega) d hd]
    rfl
theorem bt_oo {w v : Int} (h0 : 0 ≤ w) (h1 : w < 256) (h2 : 0 ≤ v) (h3 : v < 256) : 0 ≤ bOr w v ∧ bOr w v < 256 ∧ ∀ d, bt (bOr w v) d = (bt w d || bt v d) := by
  obtain ⟨k, rfl⟩ := Int.eq_ofNat_of_zero_le h0
  obtain ⟨j, rfl⟩ := Int.eq_ofNat_of_zero_le h2
  rw [bt_oo0 k (by omega) j (by omega)]
  refine ⟨by omega, ?_, fun d => ?_⟩
  · have := Nat.or_lt_two_pow (x := k) (y := j) (n := 8) (by omega) (by omega)
    omega
  · unfold bt
    rw [Int.toNat_natCast, Int.toNat_natCast, Nat.testBit_or]
    rfl
/-- the set of those below n with p -/
def mkN : Nat → (Nat → Bool) → Nat
  | 0, _ => 0
  | n + 1, p => if p n then mkN n p ||| 2 ^ n else mkN n p
def mk (n : Nat) (p : Nat → Bool) : Int := (mkN n p : Int)
theorem mkN_lt : ∀ (n : Nat) (p : Nat → Bool), mkN n p < 2 ^ n
  | 0, _ => by simp [mkN]
  | n + 1, p => by
    have ih := mkN_lt n p
    have h : 2 ^ n < 2 ^ (n + 1) := Nat.pow_lt_pow_right (by decide) (by omega)
    unfold mkN
    split
    · exact Nat.or_lt_two_pow (by omega) h
    · omega
theorem mkN_bt : ∀ (n : Nat) (p : Nat → Bool) (c : Nat), (mkN n p).testBit c = (decide (c < n) && p c)
  | 0, p, c => by simp [mkN]
  | n + 1, p, c => by
    have ih := mkN_bt n p c
    unfold mkN
    by_cases e : c = n
    · subst e
      cases hp : p c
      · simp [ih, hp]
      · simp [ih, hp, Nat.testBit_or, Nat.testBit_two_pow]
    · have e2 : decide (c < n + 1) = decide (c < n) := decide_eq_decide.mpr ⟨fun h => by omega, fun h => by omega⟩
      have e3 : (2 ^ n).testBit c = false := Nat.testBit_two_pow_of_ne (fun h => e h.symm)
      rw [e2]
      split
      · rw [Nat.testBit_or, ih, e3, Bool.or_false]
      · exact ih
theorem mk_bd {n : Nat} (hn : n ≤ 8) (p : Nat → Bool) : 0 ≤ mk n p ∧ mk n p < 256 := by
  have h1 := mkN_lt n p
  have h2 : 2 ^ n ≤ 2 ^ 8 := Nat.pow_le_pow_right (by decide) hn
  unfold mk
  omega
theorem mk_bt (n : Nat) (p : Nat → Bool) (c : Nat) : bt (mk n p) c = (decide (c < n) && p c) := by
  unfold bt mk
  rw [Int.toNat_natCast, mkN_bt]
theorem mk_0 (p : Nat → Bool) : mk 0 p = 0 := rfl
theorem mk_pos {n : Nat} (hn : n < 9) {p : Nat → Bool} (h : p n = true) : bOr (mk n p) (bShl 1 (n : Int)) = mk (n + 1) p := by
  have h1 := mkN_lt n p
  have h2 : 2 ^ n ≤ 2 ^ 8 := Nat.pow_le_pow_right (by decide) (by omega)
  have h3 : mkN n p < 512 := by omega
  have := bt_or0 (mkN n p) h3 n hn
  show bOr ((mkN n p : Nat) : Int) _ = ((mkN (n + 1) p : Nat) : Int)
  rw [this]
  conv => rhs; unfold mkN
  rw [if_pos h]
theorem mk_neg {n : Nat} {p : Nat → Bool} (h : p n = false) : mk n p = mk (n + 1) p := by
  show ((mkN n p : Nat) : Int) = ((mkN (n + 1) p : Nat) : Int)
  conv => rhs; unfold mkN
  rw [if_neg (by rw [h]; decide)]
theorem mk_eq {n : Nat} (hn : n ≤ 8) {p : Nat → Bool} {w : Int} (h0 : 0 ≤ w) (h1 : w < 256) (h : ∀ c, c < 8 → bt w c = (decide (c < n) && p c)) : w = mk n p :=
  bt_ext h0 h1 (mk_bd hn p).1 (mk_bd hn p).2 (fun c hc => by rw [h c hc, mk_bt])
theorem mk_congr {n : Nat} {p q : Nat → Bool} (h : ∀ c, c < n → p c = q c) : mk n p = mk n q := by
  have : ∀ m, m ≤ n → mkN m p = mkN m q := by
    intro m
    induction m with
    | zero => intro _; rfl
    | succ m ih =>
      intro hm
      unfold mkN
      rw [h m (by omega), ih (by omega)]
  show ((mkN n p : Nat) : Int) = ((mkN n q : Nat) : Int)
  rw [this n (Nat.le_refl n)]
/-! sums, numbers of -/
abbrev Vec : Type := Nat → Int
def up (f : Vec) (c : Nat) (v : Int) : Vec := fun k => if k = c then v else f k
theorem up_same (f : Vec) (c : Nat) (v : Int) : up f c v c = v := by simp [up]
theorem up_ne {f : Vec} {c k : Nat} {v : Int} (h : k ≠ c) : up f c v k = f k := by simp [up, h]
def sm : Nat → Vec → Int
  | 0, _ => 0
  | n + 1, f => sm n f + f n
theorem sm_congr : ∀ {n : Nat} {f g : Vec}, (∀ c, c < n → f c = g c) → sm n f = sm n g
  | 0, _, _, _ => rfl
  | n + 1, f, g, h => by
    unfold sm
    rw [sm_congr (fun c hc => h c (by omega)), h n (by omega)]
theorem sm_up : ∀ (n : Nat) (f : Vec) (c : Nat) (v : Int), sm n (up f c v) = sm n f + (if c < n then v - f c else 0)
  | 0, _, _, _ => by simp [sm]
  | n + 1, f, c, v => by
    have ih := sm_up n f c v
    unfold sm
    rw [ih]
    by_cases e : c = n
    · subst e; rw [up_same, if_neg (by omega), if_pos (by omega)]; omega
    · rw [up_ne (by omega)]
      by_cases h : c < n
      · rw [if_pos h, if_pos (by omega)]; omega
      · rw [if_neg h, if_neg (by omega)]; omega
theorem sm_nn : ∀ {n : Nat} {f : Vec}, (∀ c, c < n → 0 ≤ f c) → 0 ≤ sm n f
  | 0, _, _ => by simp [sm]
  | n + 1, f, h => by
    unfold sm
    have := sm_nn (n := n) (fun c hc => h c (by omega))
    have := h n (by omega)
    omega
theorem sm_le : ∀ {n : Nat} {f : Vec}, (∀ c, c < n → 0 ≤ f c) → ∀ c, c < n → f c ≤ sm n f
  | 0, _, _, c, hc => by omega
  | n + 1, f, h, c, hc => by
    unfold sm
    have h1 := sm_nn (n := n) (fun c hc => h c (by omega))
    have h2 := h n (by omega)
    by_cases e : c = n
    · subst e; omega
    · have := sm_le (n := n) (fun c hc => h c (by omega)) c (by omega)
      omega
theorem sm_mono : ∀ {n m : Nat} {f : Vec}, (∀ c, c < m → 0 ≤ f c) → n ≤ m → sm n f ≤ sm m f
  | n, m, f, h, hnm => by
    induction m with
    | zero => have : n = 0 := by omega
              subst this; exact Int.le_refl _
    | succ m ih =>
      by_cases e : n = m + 1
      · subst e; exact Int.le_refl _
      · have h1 := ih (fun c hc => h c (by omega)) (by omega)
        have h2 := h m (by omega)
        show sm n f ≤ sm m f + f m
        omega
theorem sm_z : ∀ (n : Nat), sm n (fun _ => 0) = 0
  | 0 => rfl
  | n + 1 => by unfold sm; rw [sm_z n]; rfl
def cn (n : Nat) (p : Nat → Bool) : Int := sm n (fun c => if p c then 1 else 0)
theorem cn_nn (n : Nat) (p : Nat → Bool) : 0 ≤ cn n p := sm_nn (fun c _ => by split <;> omega)
theorem cn_le (n : Nat) (p : Nat → Bool) : cn n p ≤ n := by
  unfold cn
  induction n with
  | zero => simp [sm]
  | succ n ih =>
    have : (if p n then (1 : Int) else 0) ≤ 1 := by split <;> omega
    show sm n (fun c => if p c then 1 else 0) + (if p n then (1 : Int) else 0) ≤ _
    omega
theorem cn_congr {n : Nat} {p q : Nat → Bool} (h : ∀ c, c < n → p c = q c) : cn n p = cn n q := sm_congr (fun c hc => by rw [h c hc])
theorem cn_0 {n : Nat} {p : Nat → Bool} (h : cn n p ≤ 0) : ∀ c, c < n → p c = false := by
  intro c hc
  have h1 := sm_le (n := n) (f := fun c => if p c then 1 else 0) (fun c _ => by split <;> omega) c hc
  unfold cn at h
  cases hp : p c
  · rfl
  · rw [hp, if_pos rfl] at h1; omega
theorem cn_z {n : Nat} {p : Nat → Bool} (h : ∀ c, c < n → p c = false) : cn n p = 0 := by
  unfold cn
  rw [sm_congr (g := fun _ => 0) (fun c hc => by rw [h c hc]; rfl), sm_z]
theorem cn_ex {n : Nat} {p : Nat → Bool} (h : 0 < cn n p) : ∃ c, c < n ∧ p c = true := by
  by_cases e : ∃ c, c < n ∧ p c = true
  · exact e
  · rw [cn_z (fun c hc => by cases hp : p c <;> first | rfl | exact absurd ⟨c, hc, hp⟩ e)] at h
    omega
theorem cn_pos {n : Nat} {p : Nat → Bool} {c : Nat} (hc : c < n) (h : p c = true) : 0 < cn n p := by
  have h1 := sm_le (n := n) (f := fun c => if p c then 1 else 0) (fun c _ => by split <;> omega) c hc
  rw [h, if_pos rfl] at h1
  unfold cn
  omega
/-- one more, one less -/
theorem cn_add {n : Nat} {p q : Nat → Bool} {c : Nat} (hc : c < n) (h1 : p c = false) (h2 : q c = true) (h : ∀ d, d < n → d ≠ c → q d = p d) : cn n q = cn n p + 1 := by
  have e : cn n q = sm n (up (fun c => if p c then 1 else 0) c 1) := sm_congr (fun d hd => by
    by_cases e : d = c
    · subst e; rw [up_same, h2]; rfl
    · rw [up_ne e, h d hd e])
  rw [e, sm_up, if_pos hc]
  rw [h1]
  unfold cn
  simp
theorem mul_bd {a b A B : Int} (h0 : 0 ≤ a) (h1 : a ≤ A) (h2 : 0 ≤ b) (h3 : b ≤ B) : 0 ≤ a * b ∧ a * b ≤ A * B :=
  ⟨Int.mul_nonneg h0 h2, Int.le_trans (Int.mul_le_mul_of_nonneg_right h1 h2) (Int.mul_le_mul_of_nonneg_left h3 (by omega))⟩
end
