section
theorem wa_int : Cond.arrayClass (Jvm.Op.newarray.typeOf .int) ∈ xtbl := at_x 167 rfl rfl
theorem wa_boolean : Cond.arrayClass (Jvm.Op.newarray.typeOf .boolean) ∈ xtbl := at_x 168 rfl rfl
theorem wa_long : Cond.arrayClass (Jvm.Op.newarray.typeOf .long) ∈ xtbl := at_x 250 rfl rfl
def bl0 : List Value := [.int (Int32.ofInt 0), .null, .null]
theorem bl0_ok : ∀ j, j < 3 → defaultValue (tyX0 j) = vp_V bl0 j := by
  intro j hj
  rcases (show j = 0 ∨ j = 1 ∨ j = 2 by omega) with rfl | rfl | rfl <;> rfl
def bl1 : List Value := [.int (Int32.ofInt 0), .null, .null, .int (Int32.ofInt 0), .null, .null, .int (Int32.ofInt 0), .int (Int32.ofInt 0), .int (Int32.ofInt 0), .int (Int32.ofInt 0), .null, .null, .int (Int32.ofInt 0), .null, .null]
theorem bl1_ok : ∀ j, j < 15 → defaultValue (tyX1 j) = vp_V bl1 j := by
  intro j hj
  rcases (show j = 0 ∨ j = 1 ∨ j = 2 ∨ j = 3 ∨ j = 4 ∨ j = 5 ∨ j = 6 ∨ j = 7 ∨ j = 8 ∨ j = 9 ∨ j = 10 ∨ j = 11 ∨ j = 12 ∨ j = 13 ∨ j = 14 by omega) with rfl | rfl | rfl | rfl | rfl | rfl | rfl | rfl | rfl | rfl | rfl | rfl | rfl | rfl | rfl <;> rfl
def bl2 : List Value := [.int (Int32.ofInt 0), .int (Int32.ofInt 0), .int (Int32.ofInt 0), .long (Int64.ofInt 0), .long (Int64.ofInt 0), .long (Int64.ofInt 0), .long (Int64.ofInt 0), .null, .null]
theorem bl2_ok : ∀ j, j < 9 → defaultValue (tyX3 j) = vp_V bl2 j := by
  intro j hj
  rcases (show j = 0 ∨ j = 1 ∨ j = 2 ∨ j = 3 ∨ j = 4 ∨ j = 5 ∨ j = 6 ∨ j = 7 ∨ j = 8 by omega) with rfl | rfl | rfl | rfl | rfl | rfl | rfl | rfl | rfl <;> rfl
def bl3 : List Value := [.null, .null, .null, .null, .null, .int (Int32.ofInt 0), .int (Int32.ofInt 0), .int (Int32.ofInt 0), .null, .null, .null, .long (Int64.ofInt 0), .long (Int64.ofInt 0), .long (Int64.ofInt 0)]
theorem bl3_ok : ∀ j, j < 14 → defaultValue (tyX4 j) = vp_V bl3 j := by
  intro j hj
  rcases (show j = 0 ∨ j = 1 ∨ j = 2 ∨ j = 3 ∨ j = 4 ∨ j = 5 ∨ j = 6 ∨ j = 7 ∨ j = 8 ∨ j = 9 ∨ j = 10 ∨ j = 11 ∨ j = 12 ∨ j = 13 by omega) with rfl | rfl | rfl | rfl | rfl | rfl | rfl | rfl | rfl | rfl | rfl | rfl | rfl | rfl <;> rfl
def bl4 : List Value := [.int (Int32.ofInt 0), .int (Int32.ofInt 0), .null]
theorem bl4_ok : ∀ j, j < 3 → defaultValue (tyX5 j) = vp_V bl4 j := by
  intro j hj
  rcases (show j = 0 ∨ j = 1 ∨ j = 2 by omega) with rfl | rfl | rfl <;> rfl
def bl5 : List Value := [.int (Int32.ofInt 0), .null, .int (Int32.ofInt 0), .null, .null, .null, .int (Int32.ofInt 0), .int (Int32.ofInt 0)]
theorem bl5_ok : ∀ j, j < 8 → defaultValue (tyX6 j) = vp_V bl5 j := by
  intro j hj
  rcases (show j = 0 ∨ j = 1 ∨ j = 2 ∨ j = 3 ∨ j = 4 ∨ j = 5 ∨ j = 6 ∨ j = 7 by omega) with rfl | rfl | rfl | rfl | rfl | rfl | rfl | rfl <;> rfl
def bl6 : List Value := [.int (Int32.ofInt 0), .null, .null]
theorem bl6_ok : ∀ j, j < 3 → defaultValue (tyX7 j) = vp_V bl6 j := by
  intro j hj
  rcases (show j = 0 ∨ j = 1 ∨ j = 2 by omega) with rfl | rfl | rfl <;> rfl
def bl7 : List Value := [.null, .null, .null, .int (Int32.ofInt 0), .null, .null, .int (Int32.ofInt 0), .null, .null, .null]
theorem bl7_ok : ∀ j, j < 10 → defaultValue (tyX8 j) = vp_V bl7 j := by
  intro j hj
  rcases (show j = 0 ∨ j = 1 ∨ j = 2 ∨ j = 3 ∨ j = 4 ∨ j = 5 ∨ j = 6 ∨ j = 7 ∨ j = 8 ∨ j = 9 by omega) with rfl | rfl | rfl | rfl | rfl | rfl | rfl | rfl | rfl | rfl <;> rfl
def bl8 : List Value := [.int (Int32.ofInt 0), .int (Int32.ofInt 0), .null, .null, .null, .null, .int (Int32.ofInt 0), .int (Int32.ofInt 0), .int (Int32.ofInt 0), .int (Int32.ofInt 0), .int (Int32.ofInt 0), .null, .null, .null, .null, .int (Int32.ofInt 0), .null, .null, .int (Int32.ofInt 0), .null, .null, .null, .int (Int32.ofInt 0), .int (Int32.ofInt 0), .null, .null, .null, .null, .null, .long (Int64.ofInt 0), .long (Int64.ofInt 0), .long (Int64.ofInt 0), .long (Int64.ofInt 0), .null, .null, .null, .null, .null, .null, .null, .null, .null, .null, .null, .null, .null, .int (Int32.ofInt 0), .int (Int32.ofInt 0), .int (Int32.ofInt 0), .int (Int32.ofInt 0), .int (Int32.ofInt 0), .int (Int32.ofInt 0), .null, .null, .null, .int (Int32.ofInt 0), .null, .null, .null, .null, .null, .null, .null, .null, .null, .null, .null, .null, .null]
theorem bl8_ok : ∀ j, j < 69 → defaultValue (tyX9 j) = vp_V bl8 j := by
  intro j hj
  rcases (show j = 0 ∨ j = 1 ∨ j = 2 ∨ j = 3 ∨ j = 4 ∨ j = 5 ∨ j = 6 ∨ j = 7 ∨ j = 8 ∨ j = 9 ∨ j = 10 ∨ j = 11 ∨ j = 12 ∨ j = 13 ∨ j = 14 ∨ j = 15 ∨ j = 16 ∨ j = 17 ∨ j = 18 ∨ j = 19 ∨ j = 20 ∨ j = 21 ∨ j = 22 ∨ j = 23 ∨ j = 24 ∨ j = 25 ∨ j = 26 ∨ j = 27 ∨ j = 28 ∨ j = 29 ∨ j = 30 ∨ j = 31 ∨ j = 32 ∨ j = 33 ∨ j = 34 ∨ j = 35 ∨ j = 36 ∨ j = 37 ∨ j = 38 ∨ j = 39 ∨ j = 40 ∨ j = 41 ∨ j = 42 ∨ j = 43 ∨ j = 44 ∨ j = 45 ∨ j = 46 ∨ j = 47 ∨ j = 48 ∨ j = 49 ∨ j = 50 ∨ j = 51 ∨ j = 52 ∨ j = 53 ∨ j = 54 ∨ j = 55 ∨ j = 56 ∨ j = 57 ∨ j = 58 ∨ j = 59 ∨ j = 60 ∨ j = 61 ∨ j = 62 ∨ j = 63 ∨ j = 64 ∨ j = 65 ∨ j = 66 ∨ j = 67 ∨ j = 68 by omega) with rfl | rfl | rfl | rfl | rfl | rfl | rfl | rfl | rfl | rfl | rfl | rfl | rfl | rfl | rfl | rfl | rfl | rfl | rfl | rfl | rfl | rfl | rfl | rfl | rfl | rfl | rfl | rfl | rfl | rfl | rfl | rfl | rfl | rfl | rfl | rfl | rfl | rfl | rfl | rfl | rfl | rfl | rfl | rfl | rfl | rfl | rfl | rfl | rfl | rfl | rfl | rfl | rfl | rfl | rfl | rfl | rfl | rfl | rfl | rfl | rfl | rfl | rfl | rfl | rfl | rfl | rfl | rfl | rfl <;> rfl
theorem mcX0_init : MC mX0_init 0 := ⟨at_x 179 rfl rfl, at_x 72 rfl rfl, at_x 178 rfl rfl, ⟨nhX0.1, nhX0.2, by decide +kernel⟩, by decide, rfl, rfl⟩
theorem fcX0_9 : FC RX0 9 0 0 (tyX0 0) false := ⟨TX0, 3, tyX0, rfl, by decide, x_ps inX0 gdX0, tyX0_ok, nmX0, at_x 181 rfl rfl, rfl, rfl, tyX0_ok 0 (by decide)⟩
theorem fcX0_15 : FC RX0 15 0 1 (tyX0 1) true := ⟨TX0, 3, tyX0, rfl, by decide, x_ps inX0 gdX0, tyX0_ok, nmX0, at_x 184 rfl rfl, rfl, rfl, tyX0_ok 1 (by decide)⟩
theorem fcX0_19 : FC RX0 19 0 2 (tyX0 2) true := ⟨TX0, 3, tyX0, rfl, by decide, x_ps inX0 gdX0, tyX0_ok, nmX0, at_x 187 rfl rfl, rfl, rfl, tyX0_ok 2 (by decide)⟩
def wX0_init (ca : Nat → ClassId) (x0 : Nat) (r : Nat → Nat → Nat) : va_W := (x0, .inr (0, [.int (Int32.ofInt 0), .ref (r 0 0), .ref (r 0 1)])) :: ([((r 0 0), .inl (ca 0, 25, .inl (fun _ => Int32.ofInt 0)))] ++ [((r 0 1), .inl (ca 0, 25, .inl (fun _ => Int32.ofInt 0)))])
set_option maxRecDepth 100000 in
set_option maxHeartbeats 4000000 in
theorem gkX0_init {G : GX} {d : Nat} {x0  : Nat} : CtG G mX0_init (d + 1) 2 50 [.ref x0] [(x0, .inr (0, bl0))] (fun ws => ∃ r : Nat → Nat → Nat, ws = wX0_init G.2.2 x0  r) := by
  refine ctg_gc (by decide +kernel) rfl rfl (Nat.le_of_ble_eq_true rfl) rfl ?_
  refine gc_aload_n 0 dX0_init_0 rfl ?_
  refine gc_init dX0_init_1 (at_x 180 rfl rfl) (Nat.le_of_ble_eq_true rfl) (by omega) ?_
  refine gc_aload_n 0 dX0_init_4 rfl ?_
  refine gc_iconst dX0_init_5 ?_
  refine gc_put0 dX0_init_6 fcX0_9 rfl rfl rfl ?_
  refine gc_aload_n 0 dX0_init_9 rfl ?_
  refine gc_bipush dX0_init_10 rfl ?_
  refine gc_newa0 (t0 := 0) (N' := 25) (25, (.inl (fun _ => Int32.ofInt 0))) dX0_init_12 wa_int rfl (fun _ => rfl) (fun _ => rfl) (by decide) rfl (Nat.le_of_ble_eq_true rfl) (Nat.le_of_ble_eq_true rfl) (Nat.le_of_ble_eq_true rfl) (fun q0 => ?_)
  refine gc_pc (pc' := 14) rfl ?_
  refine gc_put0 dX0_init_14 fcX0_15 rfl rfl rfl ?_
  refine gc_aload_n 0 dX0_init_17 rfl ?_
  refine gc_bipush dX0_init_18 rfl ?_
  refine gc_newa0 (t0 := 0) (N' := 25) (25, (.inl (fun _ => Int32.ofInt 0))) dX0_init_20 wa_int rfl (fun _ => rfl) (fun _ => rfl) (by decide) rfl (Nat.le_of_ble_eq_true rfl) (Nat.le_of_ble_eq_true rfl) (Nat.le_of_ble_eq_true rfl) (fun q1 => ?_)
  refine gc_put0 dX0_init_22 fcX0_19 rfl rfl rfl ?_
  refine gc_ret dX0_init_25 rfl rfl ⟨(fun a b => if a = 0 then ([q0, q1] : List Nat).getD b 0 else 0), ?_⟩
  rfl
theorem mcX3_init : MC mX3_init 0 := ⟨at_x 202 rfl rfl, at_x 73 rfl rfl, at_x 201 rfl rfl, ⟨nhX3.1, nhX3.2, by decide +kernel⟩, by decide, rfl, rfl⟩
theorem fcX3_9 : FC RX3 9 2 0 (tyX3 0) false := ⟨TX3, 9, tyX3, rfl, by decide, x_ps inX3 gdX3, tyX3_ok, nmX3, at_x 204 rfl rfl, rfl, rfl, tyX3_ok 0 (by decide)⟩
theorem fcX3_15 : FC RX3 15 2 1 (tyX3 1) false := ⟨TX3, 9, tyX3, rfl, by decide, x_ps inX3 gdX3, tyX3_ok, nmX3, at_x 207 rfl rfl, rfl, rfl, tyX3_ok 1 (by decide)⟩
theorem fcX3_18 : FC RX3 18 2 2 (tyX3 2) false := ⟨TX3, 9, tyX3, rfl, by decide, x_ps inX3 gdX3, tyX3_ok, nmX3, at_x 210 rfl rfl, rfl, rfl, tyX3_ok 2 (by decide)⟩
theorem fcX3_21 : FC RX3 21 2 3 (tyX3 3) false := ⟨TX3, 9, tyX3, rfl, by decide, x_ps inX3 gdX3, tyX3_ok, nmX3, at_x 213 rfl rfl, rfl, rfl, tyX3_ok 3 (by decide)⟩
theorem fcX3_25 : FC RX3 25 2 4 (tyX3 4) false := ⟨TX3, 9, tyX3, rfl, by decide, x_ps inX3 gdX3, tyX3_ok, nmX3, at_x 216 rfl rfl, rfl, rfl, tyX3_ok 4 (by decide)⟩
theorem fcX3_28 : FC RX3 28 2 5 (tyX3 5) false := ⟨TX3, 9, tyX3, rfl, by decide, x_ps inX3 gdX3, tyX3_ok, nmX3, at_x 219 rfl rfl, rfl, rfl, tyX3_ok 5 (by decide)⟩
theorem fcX3_31 : FC RX3 31 2 6 (tyX3 6) false := ⟨TX3, 9, tyX3, rfl, by decide, x_ps inX3 gdX3, tyX3_ok, nmX3, at_x 222 rfl rfl, rfl, rfl, tyX3_ok 6 (by decide)⟩
theorem fcX3_34 : FC RX3 34 2 7 (tyX3 7) true := ⟨TX3, 9, tyX3, rfl, by decide, x_ps inX3 gdX3, tyX3_ok, nmX3, at_x 225 rfl rfl, rfl, rfl, tyX3_ok 7 (by decide)⟩
theorem fcX3_38 : FC RX3 38 2 8 (tyX3 8) true := ⟨TX3, 9, tyX3, rfl, by decide, x_ps inX3 gdX3, tyX3_ok, nmX3, at_x 228 rfl rfl, rfl, rfl, tyX3_ok 8 (by decide)⟩
def wX3_init (ca : Nat → ClassId) (x0 : Nat) (r : Nat → Nat → Nat) : va_W := (x0, .inr (2, [.int (Int32.ofInt 0), .int (Int32.ofInt (-5)), .int (Int32.ofInt 0), .long (Int64.ofInt 0), .long (Int64.ofInt 0), .long (Int64.ofInt 0), .long (Int64.ofInt 0), .ref (r 0 0), .ref (r 0 1)])) :: ([((r 0 0), .inl (ca 1, 8, .inr (.inl (fun _ => Int64.ofInt 0))))] ++ [((r 0 1), .inl (ca 1, 8, .inr (.inl (fun _ => Int64.ofInt 0))))])
set_option maxRecDepth 100000 in
set_option maxHeartbeats 4000000 in
theorem gkX3_init {G : GX} {d : Nat} {x0  : Nat} : CtG G mX3_init (d + 1) 2 16 [.ref x0] [(x0, .inr (2, bl2))] (fun ws => ∃ r : Nat → Nat → Nat, ws = wX3_init G.2.2 x0  r) := by
  refine ctg_gc (by decide +kernel) rfl rfl (Nat.le_of_ble_eq_true rfl) rfl ?_
  refine gc_aload_n 0 dX3_init_0 rfl ?_
  refine gc_init dX3_init_1 (at_x 203 rfl rfl) (Nat.le_of_ble_eq_true rfl) (by omega) ?_
  refine gc_aload_n 0 dX3_init_4 rfl ?_
  refine gc_iconst dX3_init_5 ?_
  refine gc_put0 dX3_init_6 fcX3_9 rfl rfl rfl ?_
  refine gc_aload_n 0 dX3_init_9 rfl ?_
  refine gc_bipush dX3_init_10 rfl ?_
  refine gc_put0 dX3_init_12 fcX3_15 rfl rfl rfl ?_
  refine gc_pc (pc' := 15) rfl ?_
  refine gc_aload_n 0 dX3_init_15 rfl ?_
  refine gc_iconst dX3_init_16 ?_
  refine gc_put0 dX3_init_17 fcX3_18 rfl rfl rfl ?_
  refine gc_aload_n 0 dX3_init_20 rfl ?_
  refine gc_lconst 0 dX3_init_21 rfl ?_
  refine gc_put0 dX3_init_22 fcX3_21 rfl rfl rfl ?_
  refine gc_aload_n 0 dX3_init_25 rfl ?_
  refine gc_lconst 0 dX3_init_26 rfl ?_
  refine gc_put0 dX3_init_27 fcX3_25 rfl rfl rfl ?_
  refine gc_pc (pc' := 30) rfl ?_
  refine gc_aload_n 0 dX3_init_30 rfl ?_
  refine gc_lconst 0 dX3_init_31 rfl ?_
  refine gc_put0 dX3_init_32 fcX3_28 rfl rfl rfl ?_
  refine gc_aload_n 0 dX3_init_35 rfl ?_
  refine gc_lconst 0 dX3_init_36 rfl ?_
  refine gc_put0 dX3_init_37 fcX3_31 rfl rfl rfl ?_
  refine gc_aload_n 0 dX3_init_40 rfl ?_
  refine gc_bipush dX3_init_41 rfl ?_
  refine gc_newa0 (t0 := 1) (N' := 8) (8, (.inr (.inl (fun _ => Int64.ofInt 0)))) dX3_init_43 wa_long rfl (fun _ => rfl) (fun _ => rfl) (by decide) rfl (Nat.le_of_ble_eq_true rfl) (Nat.le_of_ble_eq_true rfl) (Nat.le_of_ble_eq_true rfl) (fun q0 => ?_)
  refine gc_pc (pc' := 45) rfl ?_
  refine gc_put0 dX3_init_45 fcX3_34 rfl rfl rfl ?_
  refine gc_aload_n 0 dX3_init_48 rfl ?_
  refine gc_bipush dX3_init_49 rfl ?_
  refine gc_newa0 (t0 := 1) (N' := 8) (8, (.inr (.inl (fun _ => Int64.ofInt 0)))) dX3_init_51 wa_long rfl (fun _ => rfl) (fun _ => rfl) (by decide) rfl (Nat.le_of_ble_eq_true rfl) (Nat.le_of_ble_eq_true rfl) (Nat.le_of_ble_eq_true rfl) (fun q1 => ?_)
  refine gc_put0 dX3_init_53 fcX3_38 rfl rfl rfl ?_
  refine gc_ret dX3_init_56 rfl rfl ⟨(fun a b => if a = 0 then ([q0, q1] : List Nat).getD b 0 else 0), ?_⟩
  rfl
theorem mcX5_init : MC mX5_init 0 := ⟨at_x 361 rfl rfl, at_x 76 rfl rfl, at_x 360 rfl rfl, ⟨nhX5.1, nhX5.2, by decide +kernel⟩, by decide, rfl, rfl⟩
theorem fcX5_9 : FC RX5 9 4 0 (tyX5 0) false := ⟨TX5, 3, tyX5, rfl, by decide, x_ps inX5 gdX5, tyX5_ok, nmX5, at_x 363 rfl rfl, rfl, rfl, tyX5_ok 0 (by decide)⟩
theorem fcX5_15 : FC RX5 15 4 1 (tyX5 1) false := ⟨TX5, 3, tyX5, rfl, by decide, x_ps inX5 gdX5, tyX5_ok, nmX5, at_x 365 rfl rfl, rfl, rfl, tyX5_ok 1 (by decide)⟩
theorem fcX5_18 : FC RX5 18 4 2 (tyX5 2) true := ⟨TX5, 3, tyX5, rfl, by decide, x_ps inX5 gdX5, tyX5_ok, nmX5, at_x 367 rfl rfl, rfl, rfl, tyX5_ok 2 (by decide)⟩
def wX5_init (ca : Nat → ClassId) (x0 : Nat) (r : Nat → Nat → Nat) : va_W := (x0, .inr (4, [.int (Int32.ofInt (-1)), .int (Int32.ofInt 0), .ref (r 0 0)])) :: ([((r 0 0), .inl (ca 1, 60, .inr (.inl (fun _ => Int64.ofInt 0))))])
set_option maxRecDepth 100000 in
set_option maxHeartbeats 4000000 in
theorem gkX5_init {G : GX} {d : Nat} {x0  : Nat} : CtG G mX5_init (d + 1) 1 60 [.ref x0] [(x0, .inr (4, bl4))] (fun ws => ∃ r : Nat → Nat → Nat, ws = wX5_init G.2.2 x0  r) := by
  refine ctg_gc (by decide +kernel) rfl rfl (Nat.le_of_ble_eq_true rfl) rfl ?_
  refine gc_aload_n 0 dX5_init_0 rfl ?_
  refine gc_init dX5_init_1 (at_x 362 rfl rfl) (Nat.le_of_ble_eq_true rfl) (by omega) ?_
  refine gc_aload_n 0 dX5_init_4 rfl ?_
  refine gc_iconst dX5_init_5 ?_
  refine gc_put0 dX5_init_6 fcX5_9 rfl rfl rfl ?_
  refine gc_aload_n 0 dX5_init_9 rfl ?_
  refine gc_iconst dX5_init_10 ?_
  refine gc_put0 dX5_init_11 fcX5_15 rfl rfl rfl ?_
  refine gc_pc (pc' := 14) rfl ?_
  refine gc_aload_n 0 dX5_init_14 rfl ?_
  refine gc_bipush dX5_init_15 rfl ?_
  refine gc_newa0 (t0 := 1) (N' := 60) (60, (.inr (.inl (fun _ => Int64.ofInt 0)))) dX5_init_17 wa_long rfl (fun _ => rfl) (fun _ => rfl) (by decide) rfl (Nat.le_of_ble_eq_true rfl) (Nat.le_of_ble_eq_true rfl) (Nat.le_of_ble_eq_true rfl) (fun q0 => ?_)
  refine gc_put0 dX5_init_19 fcX5_18 rfl rfl rfl ?_
  refine gc_ret dX5_init_22 rfl rfl ⟨(fun a b => if a = 0 then ([q0] : List Nat).getD b 0 else 0), ?_⟩
  rfl
theorem mcX6_init : MC mX6_init 0 := ⟨at_x 304 rfl rfl, at_x 74 rfl rfl, at_x 303 rfl rfl, ⟨nhX6.1, nhX6.2, by decide +kernel⟩, by decide, rfl, rfl⟩
theorem fcX6_9 : FC RX6 9 5 0 (tyX6 0) false := ⟨TX6, 8, tyX6, rfl, by decide, x_ps inX6 gdX6, tyX6_ok, nmX6, at_x 306 rfl rfl, rfl, rfl, tyX6_ok 0 (by decide)⟩
theorem fcX6_15 : FC RX6 15 5 1 (tyX6 1) true := ⟨TX6, 8, tyX6, rfl, by decide, x_ps inX6 gdX6, tyX6_ok, nmX6, at_x 308 rfl rfl, rfl, rfl, tyX6_ok 1 (by decide)⟩
theorem fcX6_19 : FC RX6 19 5 2 (tyX6 2) false := ⟨TX6, 8, tyX6, rfl, by decide, x_ps inX6 gdX6, tyX6_ok, nmX6, at_x 310 rfl rfl, rfl, rfl, tyX6_ok 2 (by decide)⟩
theorem fcX6_22 : FC RX6 22 5 3 (tyX6 3) true := ⟨TX6, 8, tyX6, rfl, by decide, x_ps inX6 gdX6, tyX6_ok, nmX6, at_x 312 rfl rfl, rfl, rfl, tyX6_ok 3 (by decide)⟩
theorem fcX6_25 : FC RX6 25 5 4 (tyX6 4) true := ⟨TX6, 8, tyX6, rfl, by decide, x_ps inX6 gdX6, tyX6_ok, nmX6, at_x 314 rfl rfl, rfl, rfl, tyX6_ok 4 (by decide)⟩
theorem fcX6_28 : FC RX6 28 5 5 (tyX6 5) true := ⟨TX6, 8, tyX6, rfl, by decide, x_ps inX6 gdX6, tyX6_ok, nmX6, at_x 316 rfl rfl, rfl, rfl, tyX6_ok 5 (by decide)⟩
theorem fcX6_31 : FC RX6 31 5 6 (tyX6 6) false := ⟨TX6, 8, tyX6, rfl, by decide, x_ps inX6 gdX6, tyX6_ok, nmX6, at_x 318 rfl rfl, rfl, rfl, tyX6_ok 6 (by decide)⟩
theorem fcX6_34 : FC RX6 34 5 7 (tyX6 7) false := ⟨TX6, 8, tyX6, rfl, by decide, x_ps inX6 gdX6, tyX6_ok, nmX6, at_x 319 rfl rfl, rfl, rfl, tyX6_ok 7 (by decide)⟩
def wX6_init (ca : Nat → ClassId) (x0 : Nat) (r : Nat → Nat → Nat) : va_W := (x0, .inr (5, [.int (Int32.ofInt 0), .ref (r 0 0), .int (Int32.ofInt 0), .ref (r 0 1), .ref (r 0 2), .ref (r 0 3), .int (Int32.ofInt 0), .int (Int32.ofInt 0)])) :: ([((r 0 0), .inl (ca 0, 100, .inl (fun _ => Int32.ofInt 0)))] ++ [((r 0 1), .inl (ca 0, 12, .inl (fun _ => Int32.ofInt 0)))] ++ [((r 0 2), .inl (ca 0, 12, .inl (fun _ => Int32.ofInt 0)))] ++ [((r 0 3), .inl (ca 0, 12, .inl (fun _ => Int32.ofInt 0)))])
set_option maxRecDepth 100000 in
set_option maxHeartbeats 4000000 in
theorem gkX6_init {G : GX} {d : Nat} {x0  : Nat} : CtG G mX6_init (d + 1) 4 136 [.ref x0] [(x0, .inr (5, bl5))] (fun ws => ∃ r : Nat → Nat → Nat, ws = wX6_init G.2.2 x0  r) := by
  refine ctg_gc (by decide +kernel) rfl rfl (Nat.le_of_ble_eq_true rfl) rfl ?_
  refine gc_aload_n 0 dX6_init_0 rfl ?_
  refine gc_init dX6_init_1 (at_x 305 rfl rfl) (Nat.le_of_ble_eq_true rfl) (by omega) ?_
  refine gc_aload_n 0 dX6_init_4 rfl ?_
  refine gc_iconst dX6_init_5 ?_
  refine gc_put0 dX6_init_6 fcX6_9 rfl rfl rfl ?_
  refine gc_aload_n 0 dX6_init_9 rfl ?_
  refine gc_bipush dX6_init_10 rfl ?_
  refine gc_newa0 (t0 := 0) (N' := 100) (100, (.inl (fun _ => Int32.ofInt 0))) dX6_init_12 wa_int rfl (fun _ => rfl) (fun _ => rfl) (by decide) rfl (Nat.le_of_ble_eq_true rfl) (Nat.le_of_ble_eq_true rfl) (Nat.le_of_ble_eq_true rfl) (fun q0 => ?_)
  refine gc_pc (pc' := 14) rfl ?_
  refine gc_put0 dX6_init_14 fcX6_15 rfl rfl rfl ?_
  refine gc_aload_n 0 dX6_init_17 rfl ?_
  refine gc_iconst dX6_init_18 ?_
  refine gc_put0 dX6_init_19 fcX6_19 rfl rfl rfl ?_
  refine gc_aload_n 0 dX6_init_22 rfl ?_
  refine gc_bipush dX6_init_23 rfl ?_
  refine gc_newa0 (t0 := 0) (N' := 12) (12, (.inl (fun _ => Int32.ofInt 0))) dX6_init_25 wa_int rfl (fun _ => rfl) (fun _ => rfl) (by decide) rfl (Nat.le_of_ble_eq_true rfl) (Nat.le_of_ble_eq_true rfl) (Nat.le_of_ble_eq_true rfl) (fun q1 => ?_)
  refine gc_put0 dX6_init_27 fcX6_22 rfl rfl rfl ?_
  refine gc_aload_n 0 dX6_init_30 rfl ?_
  refine gc_pc (pc' := 31) rfl ?_
  refine gc_bipush dX6_init_31 rfl ?_
  refine gc_newa0 (t0 := 0) (N' := 12) (12, (.inl (fun _ => Int32.ofInt 0))) dX6_init_33 wa_int rfl (fun _ => rfl) (fun _ => rfl) (by decide) rfl (Nat.le_of_ble_eq_true rfl) (Nat.le_of_ble_eq_true rfl) (Nat.le_of_ble_eq_true rfl) (fun q2 => ?_)
  refine gc_put0 dX6_init_35 fcX6_25 rfl rfl rfl ?_
  refine gc_aload_n 0 dX6_init_38 rfl ?_
  refine gc_bipush dX6_init_39 rfl ?_
  refine gc_newa0 (t0 := 0) (N' := 12) (12, (.inl (fun _ => Int32.ofInt 0))) dX6_init_41 wa_int rfl (fun _ => rfl) (fun _ => rfl) (by decide) rfl (Nat.le_of_ble_eq_true rfl) (Nat.le_of_ble_eq_true rfl) (Nat.le_of_ble_eq_true rfl) (fun q3 => ?_)
  refine gc_put0 dX6_init_43 fcX6_28 rfl rfl rfl ?_
  refine gc_aload_n 0 dX6_init_46 rfl ?_
  refine gc_iconst dX6_init_47 ?_
  refine gc_pc (pc' := 48) rfl ?_
  refine gc_put0 dX6_init_48 fcX6_31 rfl rfl rfl ?_
  refine gc_aload_n 0 dX6_init_51 rfl ?_
  refine gc_iconst dX6_init_52 ?_
  refine gc_put0 dX6_init_53 fcX6_34 rfl rfl rfl ?_
  refine gc_ret dX6_init_56 rfl rfl ⟨(fun a b => if a = 0 then ([q0, q1, q2, q3] : List Nat).getD b 0 else 0), ?_⟩
  rfl
theorem mcX7_init : MC mX7_init 0 := ⟨at_x 341 rfl rfl, at_x 75 rfl rfl, at_x 340 rfl rfl, ⟨nhX7.1, nhX7.2, by decide +kernel⟩, by decide, rfl, rfl⟩
theorem fcX7_7 : FC RX7 7 6 0 (tyX7 0) false := ⟨TX7, 3, tyX7, rfl, by decide, x_ps inX7 gdX7, tyX7_ok, nmX7, at_x 343 rfl rfl, rfl, rfl, tyX7_ok 0 (by decide)⟩
theorem fcX7_13 : FC RX7 13 6 1 (tyX7 1) true := ⟨TX7, 3, tyX7, rfl, by decide, x_ps inX7 gdX7, tyX7_ok, nmX7, at_x 345 rfl rfl, rfl, rfl, tyX7_ok 1 (by decide)⟩
theorem fcX7_17 : FC RX7 17 6 2 (tyX7 2) true := ⟨TX7, 3, tyX7, rfl, by decide, x_ps inX7 gdX7, tyX7_ok, nmX7, at_x 347 rfl rfl, rfl, rfl, tyX7_ok 2 (by decide)⟩
def wX7_init (ca : Nat → ClassId) (x0 : Nat) (r : Nat → Nat → Nat) : va_W := (x0, .inr (6, [.int (Int32.ofInt 0), .ref (r 0 0), .ref (r 0 1)])) :: ([((r 0 0), .inl (ca 0, 3, .inl (fun _ => Int32.ofInt 0)))] ++ [((r 0 1), .inl (ca 0, 3, .inl (fun _ => Int32.ofInt 0)))])
set_option maxRecDepth 100000 in
set_option maxHeartbeats 4000000 in
theorem gkX7_init {G : GX} {d : Nat} {x0  : Nat} : CtG G mX7_init (d + 1) 2 6 [.ref x0] [(x0, .inr (6, bl6))] (fun ws => ∃ r : Nat → Nat → Nat, ws = wX7_init G.2.2 x0  r) := by
  refine ctg_gc (by decide +kernel) rfl rfl (Nat.le_of_ble_eq_true rfl) rfl ?_
  refine gc_aload_n 0 dX7_init_0 rfl ?_
  refine gc_init dX7_init_1 (at_x 342 rfl rfl) (Nat.le_of_ble_eq_true rfl) (by omega) ?_
  refine gc_aload_n 0 dX7_init_4 rfl ?_
  refine gc_iconst dX7_init_5 ?_
  refine gc_put0 dX7_init_6 fcX7_7 rfl rfl rfl ?_
  refine gc_aload_n 0 dX7_init_9 rfl ?_
  refine gc_iconst dX7_init_10 ?_
  refine gc_newa0 (t0 := 0) (N' := 3) (3, (.inl (fun _ => Int32.ofInt 0))) dX7_init_11 wa_int rfl (fun _ => rfl) (fun _ => rfl) (by decide) rfl (Nat.le_of_ble_eq_true rfl) (Nat.le_of_ble_eq_true rfl) (Nat.le_of_ble_eq_true rfl) (fun q0 => ?_)
  refine gc_pc (pc' := 13) rfl ?_
  refine gc_put0 dX7_init_13 fcX7_13 rfl rfl rfl ?_
  refine gc_aload_n 0 dX7_init_16 rfl ?_
  refine gc_iconst dX7_init_17 ?_
  refine gc_newa0 (t0 := 0) (N' := 3) (3, (.inl (fun _ => Int32.ofInt 0))) dX7_init_18 wa_int rfl (fun _ => rfl) (fun _ => rfl) (by decide) rfl (Nat.le_of_ble_eq_true rfl) (Nat.le_of_ble_eq_true rfl) (Nat.le_of_ble_eq_true rfl) (fun q1 => ?_)
  refine gc_put0 dX7_init_20 fcX7_17 rfl rfl rfl ?_
  refine gc_ret dX7_init_23 rfl rfl ⟨(fun a b => if a = 0 then ([q0, q1] : List Nat).getD b 0 else 0), ?_⟩
  rfl
theorem mcX1_init : MC mX1_init 0 := ⟨at_x 94 rfl rfl, at_x 70 rfl rfl, at_x 93 rfl rfl, ⟨nhX1.1, nhX1.2, by decide +kernel⟩, by decide, rfl, rfl⟩
theorem fcX1_9 : FC RX1 9 1 0 (tyX1 0) false := ⟨TX1, 15, tyX1, rfl, by decide, x_ps inX1 gdX1, tyX1_ok, nmX1, at_x 96 rfl rfl, rfl, rfl, tyX1_ok 0 (by decide)⟩
theorem fcX1_15 : FC RX1 15 1 1 (tyX1 1) true := ⟨TX1, 15, tyX1, rfl, by decide, x_ps inX1 gdX1, tyX1_ok, nmX1, at_x 99 rfl rfl, rfl, rfl, tyX1_ok 1 (by decide)⟩
theorem fcX1_19 : FC RX1 19 1 2 (tyX1 2) true := ⟨TX1, 15, tyX1, rfl, by decide, x_ps inX1 gdX1, tyX1_ok, nmX1, at_x 102 rfl rfl, rfl, rfl, tyX1_ok 2 (by decide)⟩
theorem fcX1_23 : FC RX1 23 1 3 (tyX1 3) false := ⟨TX1, 15, tyX1, rfl, by decide, x_ps inX1 gdX1, tyX1_ok, nmX1, at_x 106 rfl rfl, rfl, rfl, tyX1_ok 3 (by decide)⟩
theorem fcX1_26 : FC RX1 26 1 4 (tyX1 4) true := ⟨TX1, 15, tyX1, rfl, by decide, x_ps inX1 gdX1, tyX1_ok, nmX1, at_x 109 rfl rfl, rfl, rfl, tyX1_ok 4 (by decide)⟩
theorem fcX1_29 : FC RX1 29 1 5 (tyX1 5) true := ⟨TX1, 15, tyX1, rfl, by decide, x_ps inX1 gdX1, tyX1_ok, nmX1, at_x 112 rfl rfl, rfl, rfl, tyX1_ok 5 (by decide)⟩
theorem fcX1_32 : FC RX1 32 1 6 (tyX1 6) false := ⟨TX1, 15, tyX1, rfl, by decide, x_ps inX1 gdX1, tyX1_ok, nmX1, at_x 115 rfl rfl, rfl, rfl, tyX1_ok 6 (by decide)⟩
theorem fcX1_35 : FC RX1 35 1 7 (tyX1 7) false := ⟨TX1, 15, tyX1, rfl, by decide, x_ps inX1 gdX1, tyX1_ok, nmX1, at_x 118 rfl rfl, rfl, rfl, tyX1_ok 7 (by decide)⟩
theorem fcX1_38 : FC RX1 38 1 8 (tyX1 8) false := ⟨TX1, 15, tyX1, rfl, by decide, x_ps inX1 gdX1, tyX1_ok, nmX1, at_x 121 rfl rfl, rfl, rfl, tyX1_ok 8 (by decide)⟩
theorem fcX1_41 : FC RX1 41 1 9 (tyX1 9) false := ⟨TX1, 15, tyX1, rfl, by decide, x_ps inX1 gdX1, tyX1_ok, nmX1, at_x 124 rfl rfl, rfl, rfl, tyX1_ok 9 (by decide)⟩
theorem fcX1_44 : FC RX1 44 1 10 (tyX1 10) true := ⟨TX1, 15, tyX1, rfl, by decide, x_ps inX1 gdX1, tyX1_ok, nmX1, at_x 126 rfl rfl, rfl, rfl, tyX1_ok 10 (by decide)⟩
theorem fcX1_47 : FC RX1 47 1 11 (tyX1 11) true := ⟨TX1, 15, tyX1, rfl, by decide, x_ps inX1 gdX1, tyX1_ok, nmX1, at_x 128 rfl rfl, rfl, rfl, tyX1_ok 11 (by decide)⟩
theorem fcX1_50 : FC RX1 50 1 12 (tyX1 12) false := ⟨TX1, 15, tyX1, rfl, by decide, x_ps inX1 gdX1, tyX1_ok, nmX1, at_x 130 rfl rfl, rfl, rfl, tyX1_ok 12 (by decide)⟩
theorem fcX1_53 : FC RX1 53 1 13 (tyX1 13) true := ⟨TX1, 15, tyX1, rfl, by decide, x_ps inX1 gdX1, tyX1_ok, nmX1, at_x 132 rfl rfl, rfl, rfl, tyX1_ok 13 (by decide)⟩
theorem fcX1_56 : FC RX1 56 1 14 (tyX1 14) true := ⟨TX1, 15, tyX1, rfl, by decide, x_ps inX1 gdX1, tyX1_ok, nmX1, at_x 134 rfl rfl, rfl, rfl, tyX1_ok 14 (by decide)⟩
def wX1_init (ca : Nat → ClassId) (x0 : Nat) (r : Nat → Nat → Nat) : va_W := (x0, .inr (1, [.int (Int32.ofInt 0), .ref (r 0 0), .ref (r 0 1), .int (Int32.ofInt 0), .ref (r 0 2), .ref (r 0 3), .int (Int32.ofInt 1), .int (Int32.ofInt 1000), .int (Int32.ofInt 20), .int (Int32.ofInt 0), .ref (r 0 4), .ref (r 0 5), .int (Int32.ofInt 0), .ref (r 0 6), .ref (r 0 7)])) :: ([((r 0 0), .inl (ca 0, 8, .inl (fun _ => Int32.ofInt 0)))] ++ [((r 0 1), .inl (ca 2, 8, .inl (fun _ => Int32.ofInt 0)))] ++ [((r 0 2), .inl (ca 0, 25, .inl (fun _ => Int32.ofInt 0)))] ++ [((r 0 3), .inl (ca 0, 25, .inl (fun _ => Int32.ofInt 0)))] ++ [((r 0 4), .inl (ca 0, 5, .inl (fun _ => Int32.ofInt 0)))] ++ [((r 0 5), .inl (ca 2, 5, .inl (fun _ => Int32.ofInt 0)))] ++ [((r 0 6), .inl (ca 0, 8, .inl (fun _ => Int32.ofInt 0)))] ++ [((r 0 7), .inl (ca 0, 8, .inl (fun _ => Int32.ofInt 0)))])
set_option maxRecDepth 100000 in
set_option maxHeartbeats 4000000 in
theorem gkX1_init {G : GX} {d : Nat} {x0  : Nat} : CtG G mX1_init (d + 1) 8 92 [.ref x0] [(x0, .inr (1, bl1))] (fun ws => ∃ r : Nat → Nat → Nat, ws = wX1_init G.2.2 x0  r) := by
  refine ctg_gc (by decide +kernel) rfl rfl (Nat.le_of_ble_eq_true rfl) rfl ?_
  refine gc_aload_n 0 dX1_init_0 rfl ?_
  refine gc_init dX1_init_1 (at_x 95 rfl rfl) (Nat.le_of_ble_eq_true rfl) (by omega) ?_
  refine gc_aload_n 0 dX1_init_4 rfl ?_
  refine gc_iconst dX1_init_5 ?_
  refine gc_put0 dX1_init_6 fcX1_9 rfl rfl rfl ?_
  refine gc_aload_n 0 dX1_init_9 rfl ?_
  refine gc_bipush dX1_init_10 rfl ?_
  refine gc_newa0 (t0 := 0) (N' := 8) (8, (.inl (fun _ => Int32.ofInt 0))) dX1_init_12 wa_int rfl (fun _ => rfl) (fun _ => rfl) (by decide) rfl (Nat.le_of_ble_eq_true rfl) (Nat.le_of_ble_eq_true rfl) (Nat.le_of_ble_eq_true rfl) (fun q0 => ?_)
  refine gc_pc (pc' := 14) rfl ?_
  refine gc_put0 dX1_init_14 fcX1_15 rfl rfl rfl ?_
  refine gc_aload_n 0 dX1_init_17 rfl ?_
  refine gc_bipush dX1_init_18 rfl ?_
  refine gc_newa0 (t0 := 2) (N' := 8) (8, (.inl (fun _ => Int32.ofInt 0))) dX1_init_20 wa_boolean rfl (fun _ => rfl) (fun _ => rfl) (by decide) rfl (Nat.le_of_ble_eq_true rfl) (Nat.le_of_ble_eq_true rfl) (Nat.le_of_ble_eq_true rfl) (fun q1 => ?_)
  refine gc_put0 dX1_init_22 fcX1_19 rfl rfl rfl ?_
  refine gc_aload_n 0 dX1_init_25 rfl ?_
  refine gc_iconst dX1_init_26 ?_
  refine gc_put0 dX1_init_27 fcX1_23 rfl rfl rfl ?_
  refine gc_aload_n 0 dX1_init_30 rfl ?_
  refine gc_pc (pc' := 31) rfl ?_
  refine gc_bipush dX1_init_31 rfl ?_
  refine gc_newa0 (t0 := 0) (N' := 25) (25, (.inl (fun _ => Int32.ofInt 0))) dX1_init_33 wa_int rfl (fun _ => rfl) (fun _ => rfl) (by decide) rfl (Nat.le_of_ble_eq_true rfl) (Nat.le_of_ble_eq_true rfl) (Nat.le_of_ble_eq_true rfl) (fun q2 => ?_)
  refine gc_put0 dX1_init_35 fcX1_26 rfl rfl rfl ?_
  refine gc_aload_n 0 dX1_init_38 rfl ?_
  refine gc_bipush dX1_init_39 rfl ?_
  refine gc_newa0 (t0 := 0) (N' := 25) (25, (.inl (fun _ => Int32.ofInt 0))) dX1_init_41 wa_int rfl (fun _ => rfl) (fun _ => rfl) (by decide) rfl (Nat.le_of_ble_eq_true rfl) (Nat.le_of_ble_eq_true rfl) (Nat.le_of_ble_eq_true rfl) (fun q3 => ?_)
  refine gc_put0 dX1_init_43 fcX1_29 rfl rfl rfl ?_
  refine gc_aload_n 0 dX1_init_46 rfl ?_
  refine gc_iconst dX1_init_47 ?_
  refine gc_pc (pc' := 48) rfl ?_
  refine gc_put0 dX1_init_48 fcX1_32 rfl rfl rfl ?_
  refine gc_aload_n 0 dX1_init_51 rfl ?_
  refine gc_sipush dX1_init_52 rfl ?_
  refine gc_put0 dX1_init_55 fcX1_35 rfl rfl rfl ?_
  refine gc_aload_n 0 dX1_init_58 rfl ?_
  refine gc_bipush dX1_init_59 rfl ?_
  refine gc_put0 dX1_init_61 fcX1_38 rfl rfl rfl ?_
  refine gc_aload_n 0 dX1_init_64 rfl ?_
  refine gc_iconst dX1_init_65 ?_
  refine gc_pc (pc' := 66) rfl ?_
  refine gc_put0 dX1_init_66 fcX1_41 rfl rfl rfl ?_
  refine gc_aload_n 0 dX1_init_69 rfl ?_
  refine gc_iconst dX1_init_70 ?_
  refine gc_newa0 (t0 := 0) (N' := 5) (5, (.inl (fun _ => Int32.ofInt 0))) dX1_init_71 wa_int rfl (fun _ => rfl) (fun _ => rfl) (by decide) rfl (Nat.le_of_ble_eq_true rfl) (Nat.le_of_ble_eq_true rfl) (Nat.le_of_ble_eq_true rfl) (fun q4 => ?_)
  refine gc_put0 dX1_init_73 fcX1_44 rfl rfl rfl ?_
  refine gc_aload_n 0 dX1_init_76 rfl ?_
  refine gc_iconst dX1_init_77 ?_
  refine gc_newa0 (t0 := 2) (N' := 5) (5, (.inl (fun _ => Int32.ofInt 0))) dX1_init_78 wa_boolean rfl (fun _ => rfl) (fun _ => rfl) (by decide) rfl (Nat.le_of_ble_eq_true rfl) (Nat.le_of_ble_eq_true rfl) (Nat.le_of_ble_eq_true rfl) (fun q5 => ?_)
  refine gc_put0 dX1_init_80 fcX1_47 rfl rfl rfl ?_
  refine gc_pc (pc' := 83) rfl ?_
  refine gc_aload_n 0 dX1_init_83 rfl ?_
  refine gc_iconst dX1_init_84 ?_
  refine gc_put0 dX1_init_85 fcX1_50 rfl rfl rfl ?_
  refine gc_aload_n 0 dX1_init_88 rfl ?_
  refine gc_bipush dX1_init_89 rfl ?_
  refine gc_newa0 (t0 := 0) (N' := 8) (8, (.inl (fun _ => Int32.ofInt 0))) dX1_init_91 wa_int rfl (fun _ => rfl) (fun _ => rfl) (by decide) rfl (Nat.le_of_ble_eq_true rfl) (Nat.le_of_ble_eq_true rfl) (Nat.le_of_ble_eq_true rfl) (fun q6 => ?_)
  refine gc_put0 dX1_init_93 fcX1_53 rfl rfl rfl ?_
  refine gc_aload_n 0 dX1_init_96 rfl ?_
  refine gc_bipush dX1_init_97 rfl ?_
  refine gc_pc (pc' := 99) rfl ?_
  refine gc_newa0 (t0 := 0) (N' := 8) (8, (.inl (fun _ => Int32.ofInt 0))) dX1_init_99 wa_int rfl (fun _ => rfl) (fun _ => rfl) (by decide) rfl (Nat.le_of_ble_eq_true rfl) (Nat.le_of_ble_eq_true rfl) (Nat.le_of_ble_eq_true rfl) (fun q7 => ?_)
  refine gc_put0 dX1_init_101 fcX1_56 rfl rfl rfl ?_
  refine gc_ret dX1_init_104 rfl rfl ⟨(fun a b => if a = 0 then ([q0, q1, q2, q3, q4, q5, q6, q7] : List Nat).getD b 0 else 0), ?_⟩
  rfl
end
