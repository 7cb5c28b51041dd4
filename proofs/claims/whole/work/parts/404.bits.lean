section
/-! sets as bits -/
def bt (w : Int) (c : Nat) : Bool := w.toNat.testBit c
theorem bt_shr0 : ∀ w : Nat, w < 512 → ∀ c : Nat, c < 9 → bAnd (bShr (w : Int) (c : Int)) 1 = if w.testBit c then 1 else 0 := by decide +kernel
theorem bt_or0 : ∀ w : Nat, w < 512 → ∀ c : Nat, c < 9 → bOr (w : Int) (bShl 1 (c : Int)) = ((w ||| 2 ^ c : Nat) : Int) := by decide +kernel
theorem bt_cl0 : ∀ w : Nat, w < 256 → ∀ c : Nat, c < 8 → bAnd (w : Int) (bXor (bShl 1 (c : Int)) (-1)) = ((w &&& (255 ^^^ 2 ^ c) : Nat) : Int) := by decide +kernel
theorem bt_an0 : ∀ w : Nat, w < 256 → ∀ v : Nat, v < 256 → bAnd (w : Int) (bXor (v : Int) (-1)) = ((w &&& (255 ^^^ v) : Nat) : Int) := by decide +kernel
theorem bt_oo0 : ∀ w : Nat, w < 256 → ∀ v : Nat, v < 256 → bOr (w : Int) (v : Int) = ((w ||| v : Nat) : Int) := by decide +kernel
end
