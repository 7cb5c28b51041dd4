section
theorem mcX4_init : MC mX4_init 1 := ⟨at_x 173 rfl rfl, at_x 71 rfl rfl, at_x 172 rfl rfl, ⟨nhX4.1, nhX4.2, by decide +kernel⟩, by decide, rfl, rfl⟩
theorem fcX4_12 : FC RX4 12 3 1 (tyX4 1) true := ⟨TX4, 14, tyX4, rfl, by decide, x_ps inX4 gdX4, tyX4_ok, nmX4, at_x 252 rfl rfl, rfl, rfl, tyX4_ok 1 (by decide)⟩
theorem fcX4_18 : FC RX4 18 3 2 (tyX4 2) true := ⟨TX4, 14, tyX4, rfl, by decide, x_ps inX4 gdX4, tyX4_ok, nmX4, at_x 254 rfl rfl, rfl, rfl, tyX4_ok 2 (by decide)⟩
theorem fcX4_22 : FC RX4 22 3 3 (tyX4 3) true := ⟨TX4, 14, tyX4, rfl, by decide, x_ps inX4 gdX4, tyX4_ok, nmX4, at_x 256 rfl rfl, rfl, rfl, tyX4_ok 3 (by decide)⟩
theorem fcX4_25 : FC RX4 25 3 4 (tyX4 4) true := ⟨TX4, 14, tyX4, rfl, by decide, x_ps inX4 gdX4, tyX4_ok, nmX4, at_x 258 rfl rfl, rfl, rfl, tyX4_ok 4 (by decide)⟩
theorem fcX4_28 : FC RX4 28 3 5 (tyX4 5) false := ⟨TX4, 14, tyX4, rfl, by decide, x_ps inX4 gdX4, tyX4_ok, nmX4, at_x 260 rfl rfl, rfl, rfl, tyX4_ok 5 (by decide)⟩
theorem fcX4_32 : FC RX4 32 3 6 (tyX4 6) false := ⟨TX4, 14, tyX4, rfl, by decide, x_ps inX4 gdX4, tyX4_ok, nmX4, at_x 262 rfl rfl, rfl, rfl, tyX4_ok 6 (by decide)⟩
theorem fcX4_35 : FC RX4 35 3 7 (tyX4 7) false := ⟨TX4, 14, tyX4, rfl, by decide, x_ps inX4 gdX4, tyX4_ok, nmX4, at_x 263 rfl rfl, rfl, rfl, tyX4_ok 7 (by decide)⟩
theorem fcX4_40 : FC RX4 40 3 8 (tyX4 8) true := ⟨TX4, 14, tyX4, rfl, by decide, x_ps inX4 gdX4, tyX4_ok, nmX4, at_x 265 rfl rfl, rfl, rfl, tyX4_ok 8 (by decide)⟩
theorem fcX4_44 : FC RX4 44 3 9 (tyX4 9) true := ⟨TX4, 14, tyX4, rfl, by decide, x_ps inX4 gdX4, tyX4_ok, nmX4, at_x 266 rfl rfl, rfl, rfl, tyX4_ok 9 (by decide)⟩
theorem fcX4_48 : FC RX4 48 3 10 (tyX4 10) true := ⟨TX4, 14, tyX4, rfl, by decide, x_ps inX4 gdX4, tyX4_ok, nmX4, at_x 267 rfl rfl, rfl, rfl, tyX4_ok 10 (by decide)⟩
theorem fcX4_51 : FC RX4 51 3 11 (tyX4 11) false := ⟨TX4, 14, tyX4, rfl, by decide, x_ps inX4 gdX4, tyX4_ok, nmX4, at_x 268 rfl rfl, rfl, rfl, tyX4_ok 11 (by decide)⟩
theorem fcX4_55 : FC RX4 55 3 12 (tyX4 12) false := ⟨TX4, 14, tyX4, rfl, by decide, x_ps inX4 gdX4, tyX4_ok, nmX4, at_x 269 rfl rfl, rfl, rfl, tyX4_ok 12 (by decide)⟩
theorem fcX4_58 : FC RX4 58 3 13 (tyX4 13) false := ⟨TX4, 14, tyX4, rfl, by decide, x_ps inX4 gdX4, tyX4_ok, nmX4, at_x 270 rfl rfl, rfl, rfl, tyX4_ok 13 (by decide)⟩
theorem fcX4_61 : FC RX4 61 3 0 (tyX4 0) true := ⟨TX4, 14, tyX4, rfl, by decide, x_ps inX4 gdX4, tyX4_ok, nmX4, at_x 251 rfl rfl, rfl, rfl, tyX4_ok 0 (by decide)⟩
def wX4_init (ca : Nat → ClassId) (x0 : Nat) (x1 : Nat) (r : Nat → Nat → Nat) : va_W := (x0, .inr (3, [.ref x1, .ref (r 0 0), .ref (r 0 1), .ref (r 0 2), .ref (r 0 3), .int (Int32.ofInt 0), .int (Int32.ofInt 0), .int (Int32.ofInt 0), .ref (r 0 4), .ref (r 0 5), .ref (r 0 6), .long (Int64.ofInt 0), .long (Int64.ofInt 0), .long (Int64.ofInt 0)])) :: ([((r 0 4), .inl (ca 3, 8, .inr (.inr (.inr (.inr (va_up (va_up (va_up (va_up (va_up (va_up (va_up (va_up (fun _ => none) 0 (some (r 0 7))) 1 (some (r 0 8))) 2 (some (r 0 9))) 3 (some (r 0 10))) 4 (some (r 0 11))) 5 (some (r 0 12))) 6 (some (r 0 13))) 7 (some (r 0 14))))))))] ++ wX0_init ca (r 0 0) (fun i => r (i + 1)) ++ [((r 0 1), .inl (ca 0, 8, .inl (fun _ => Int32.ofInt 0)))] ++ [((r 0 2), .inl (ca 0, 8, .inl (fun _ => Int32.ofInt 0)))] ++ [((r 0 3), .inl (ca 0, 8, .inl (fun _ => Int32.ofInt 0)))] ++ [((r 0 5), .inl (ca 1, 8, .inr (.inl (fun _ => Int64.ofInt 0))))] ++ [((r 0 6), .inl (ca 1, 8, .inr (.inl (fun _ => Int64.ofInt 0))))] ++ wX3_init ca (r 0 7) (fun i => r (i + 11)) ++ wX3_init ca (r 0 8) (fun i => r (i + 21)) ++ wX3_init ca (r 0 9) (fun i => r (i + 31)) ++ wX3_init ca (r 0 10) (fun i => r (i + 41)) ++ wX3_init ca (r 0 11) (fun i => r (i + 51)) ++ wX3_init ca (r 0 12) (fun i => r (i + 61)) ++ wX3_init ca (r 0 13) (fun i => r (i + 71)) ++ wX3_init ca (r 0 14) (fun i => r (i + 81)))
set_option maxRecDepth 100000 in
set_option maxHeartbeats 4000000 in
theorem gkX4_init {G : GX} {d : Nat} {x0 x1 : Nat} : CtG G mX4_init (d + 2) 33 301 [.ref x0, .ref x1] [(x0, .inr (3, bl3))] (fun ws => ∃ r : Nat → Nat → Nat, ws = wX4_init G.2.2 x0 x1 r) := by
  refine ctg_gc (by decide +kernel) rfl rfl (Nat.le_of_ble_eq_true rfl) rfl ?_
  refine gc_aload_n 0 dX4_init_0 rfl ?_
  refine gc_init dX4_init_1 (at_x 174 rfl rfl) (Nat.le_of_ble_eq_true rfl) (by omega) ?_
  refine gc_aload_n 0 dX4_init_4 rfl ?_
  refine gc_new0 (C := RX0) (T := TX0) (N := 3) (ci := 0) bl0 dX4_init_5 (x_ps inX0 gdX0) tyX0 tyX0_ok (at_x 175 rfl rfl) (at_x 176 rfl rfl) (at_x 72 rfl rfl) rfl bl0_ok (Nat.le_of_ble_eq_true rfl) (Nat.le_of_ble_eq_true rfl) (fun q0 => ?_)
  refine gc_dup dX4_init_8 ?_
  refine gc_callL0 (as := []) dX4_init_9 (at_x 177 rfl rfl) mcX0_init rfl (Nat.le_of_ble_eq_true rfl) (gkX0_init) (Nat.le_of_ble_eq_true rfl) (Nat.le_of_ble_eq_true rfl) rfl ?_
  rintro ws1 ⟨r1, rfl⟩
  refine gc_put0 dX4_init_12 fcX4_12 rfl rfl rfl ?_
  refine gc_aload_n 0 dX4_init_15 rfl ?_
  refine gc_pc (pc' := 16) rfl ?_
  refine gc_bipush dX4_init_16 rfl ?_
  refine gc_newa0 (t0 := 0) (N' := 8) (8, (.inl (fun _ => Int32.ofInt 0))) dX4_init_18 wa_int rfl (fun _ => rfl) (fun _ => rfl) (by decide) rfl (Nat.le_of_ble_eq_true rfl) (Nat.le_of_ble_eq_true rfl) (Nat.le_of_ble_eq_true rfl) (fun q2 => ?_)
  refine gc_put0 dX4_init_20 fcX4_18 rfl rfl rfl ?_
  refine gc_aload_n 0 dX4_init_23 rfl ?_
  refine gc_bipush dX4_init_24 rfl ?_
  refine gc_newa0 (t0 := 0) (N' := 8) (8, (.inl (fun _ => Int32.ofInt 0))) dX4_init_26 wa_int rfl (fun _ => rfl) (fun _ => rfl) (by decide) rfl (Nat.le_of_ble_eq_true rfl) (Nat.le_of_ble_eq_true rfl) (Nat.le_of_ble_eq_true rfl) (fun q3 => ?_)
  refine gc_put0 dX4_init_28 fcX4_22 rfl rfl rfl ?_
  refine gc_aload_n 0 dX4_init_31 rfl ?_
  refine gc_bipush dX4_init_32 rfl ?_
  refine gc_pc (pc' := 34) rfl ?_
  refine gc_newa0 (t0 := 0) (N' := 8) (8, (.inl (fun _ => Int32.ofInt 0))) dX4_init_34 wa_int rfl (fun _ => rfl) (fun _ => rfl) (by decide) rfl (Nat.le_of_ble_eq_true rfl) (Nat.le_of_ble_eq_true rfl) (Nat.le_of_ble_eq_true rfl) (fun q4 => ?_)
  refine gc_put0 dX4_init_36 fcX4_25 rfl rfl rfl ?_
  refine gc_aload_n 0 dX4_init_39 rfl ?_
  refine gc_iconst dX4_init_40 ?_
  refine gc_put0 dX4_init_41 fcX4_28 rfl rfl rfl ?_
  refine gc_aload_n 0 dX4_init_44 rfl ?_
  refine gc_iconst dX4_init_45 ?_
  refine gc_put0 dX4_init_46 fcX4_32 rfl rfl rfl ?_
  refine gc_aload_n 0 dX4_init_49 rfl ?_
  refine gc_pc (pc' := 50) rfl ?_
  refine gc_iconst dX4_init_50 ?_
  refine gc_put0 dX4_init_51 fcX4_35 rfl rfl rfl ?_
  refine gc_aload_n 0 dX4_init_54 rfl ?_
  refine gc_bipush dX4_init_55 rfl ?_
  refine gc_anew0 (t0 := 3) (N' := 8) dX4_init_57 (at_x 197 rfl rfl) (fun _ h => h.1) (fun _ => rfl) (by decide) rfl (by decide) (by decide) (by decide) (fun q5 => ?_)
  refine gc_second ?_
  refine gc_put0 dX4_init_60 fcX4_40 rfl rfl rfl ?_
  refine gc_aload_n 0 dX4_init_63 rfl ?_
  refine gc_bipush dX4_init_64 rfl ?_
  refine gc_newa0 (t0 := 1) (N' := 8) (8, (.inr (.inl (fun _ => Int64.ofInt 0)))) dX4_init_66 wa_long rfl (fun _ => rfl) (fun _ => rfl) (by decide) rfl (Nat.le_of_ble_eq_true rfl) (Nat.le_of_ble_eq_true rfl) (Nat.le_of_ble_eq_true rfl) (fun q6 => ?_)
  refine gc_pc (pc' := 68) rfl ?_
  refine gc_put0 dX4_init_68 fcX4_44 rfl rfl rfl ?_
  refine gc_aload_n 0 dX4_init_71 rfl ?_
  refine gc_bipush dX4_init_72 rfl ?_
  refine gc_newa0 (t0 := 1) (N' := 8) (8, (.inr (.inl (fun _ => Int64.ofInt 0)))) dX4_init_74 wa_long rfl (fun _ => rfl) (fun _ => rfl) (by decide) rfl (Nat.le_of_ble_eq_true rfl) (Nat.le_of_ble_eq_true rfl) (Nat.le_of_ble_eq_true rfl) (fun q7 => ?_)
  refine gc_put0 dX4_init_76 fcX4_48 rfl rfl rfl ?_
  refine gc_aload_n 0 dX4_init_79 rfl ?_
  refine gc_lconst 0 dX4_init_80 rfl ?_
  refine gc_put0 dX4_init_81 fcX4_51 rfl rfl rfl ?_
  refine gc_aload_n 0 dX4_init_84 rfl ?_
  refine gc_pc (pc' := 85) rfl ?_
  refine gc_lconst 0 dX4_init_85 rfl ?_
  refine gc_put0 dX4_init_86 fcX4_55 rfl rfl rfl ?_
  refine gc_aload_n 0 dX4_init_89 rfl ?_
  refine gc_lconst 0 dX4_init_90 rfl ?_
  refine gc_put0 dX4_init_91 fcX4_58 rfl rfl rfl ?_
  refine gc_aload_n 0 dX4_init_94 rfl ?_
  refine gc_aload_n 1 dX4_init_95 rfl ?_
  refine gc_put0 dX4_init_96 fcX4_61 rfl rfl rfl ?_
  refine gc_iconst dX4_init_99 ?_
  refine gc_pc (pc' := 100) rfl ?_
  refine gc_istore_n (ls' := [(2, .int (Int32.ofInt 0)), (0, .ref x0), (1, .ref x1)]) dX4_init_100 (by decide) rfl ?_
  refine gc_iload_n 0 dX4_init_101 rfl ?_
  refine gc_aload_n 1 dX4_init_102 rfl ?_
  refine gc_get0 dX4_init_103 fcX4_40 rfl ?_
  refine gc_alen0 (q0 := 0) (t0 := 3) (v := Int32.ofInt 8) dX4_init_106 rfl (fun _ => rfl) rfl ?_
  refine gc_ge_f (tgt := 129) dX4_init_107 (by decide) (by decide) ?_
  refine gc_aload_n 1 dX4_init_110 rfl ?_
  refine gc_get0 dX4_init_111 fcX4_40 rfl ?_
  refine gc_iload_n 0 dX4_init_114 rfl ?_
  refine gc_pc (pc' := 115) rfl ?_
  refine gc_new0 (C := RX3) (T := TX3) (N := 9) (ci := 2) bl2 dX4_init_115 (x_ps inX3 gdX3) tyX3 tyX3_ok (at_x 197 rfl rfl) (at_x 199 rfl rfl) (at_x 73 rfl rfl) rfl bl2_ok (Nat.le_of_ble_eq_true rfl) (Nat.le_of_ble_eq_true rfl) (fun q8 => ?_)
  refine gc_dup dX4_init_118 ?_
  refine gc_callL0 (as := []) dX4_init_119 (at_x 200 rfl rfl) mcX3_init rfl (Nat.le_of_ble_eq_true rfl) (gkX3_init) (Nat.le_of_ble_eq_true rfl) (Nat.le_of_ble_eq_true rfl) rfl ?_
  rintro ws1 ⟨r9, rfl⟩
  refine gc_aastL (t0 := 3) (ci := 2) dX4_init_122 (fun _ => rfl) rfl (vp_in_iff.mpr (by decide)) ?_
  refine gc_iinc (i := 0) (v := Int32.ofInt 1) (ls' := [(2, .int (Int32.ofInt 1)), (0, .ref x0), (1, .ref x1)]) dX4_init_123 rfl (by decide) (by decide) rfl ?_
  refine gc_goto (tgt := 101) dX4_init_126 (by decide) ?_
  refine gc_iload_n 0 dX4_init_101 rfl ?_
  refine gc_aload_n 1 dX4_init_102 rfl ?_
  refine gc_get0 dX4_init_103 fcX4_40 rfl ?_
  refine gc_alen0 (q0 := 0) (t0 := 3) (v := Int32.ofInt 8) dX4_init_106 rfl (fun _ => rfl) rfl ?_
  refine gc_ge_f (tgt := 129) dX4_init_107 (by decide) (by decide) ?_
  refine gc_aload_n 1 dX4_init_110 rfl ?_
  refine gc_get0 dX4_init_111 fcX4_40 rfl ?_
  refine gc_iload_n 0 dX4_init_114 rfl ?_
  refine gc_pc (pc' := 115) rfl ?_
  refine gc_new0 (C := RX3) (T := TX3) (N := 9) (ci := 2) bl2 dX4_init_115 (x_ps inX3 gdX3) tyX3 tyX3_ok (at_x 197 rfl rfl) (at_x 199 rfl rfl) (at_x 73 rfl rfl) rfl bl2_ok (Nat.le_of_ble_eq_true rfl) (Nat.le_of_ble_eq_true rfl) (fun q10 => ?_)
  refine gc_dup dX4_init_118 ?_
  refine gc_callL0 (as := []) dX4_init_119 (at_x 200 rfl rfl) mcX3_init rfl (Nat.le_of_ble_eq_true rfl) (gkX3_init) (Nat.le_of_ble_eq_true rfl) (Nat.le_of_ble_eq_true rfl) rfl ?_
  rintro ws1 ⟨r11, rfl⟩
  refine gc_aastL (t0 := 3) (ci := 2) dX4_init_122 (fun _ => rfl) rfl (vp_in_iff.mpr (by decide)) ?_
  refine gc_iinc (i := 0) (v := Int32.ofInt 2) (ls' := [(2, .int (Int32.ofInt 2)), (0, .ref x0), (1, .ref x1)]) dX4_init_123 rfl (by decide) (by decide) rfl ?_
  refine gc_goto (tgt := 101) dX4_init_126 (by decide) ?_
  refine gc_iload_n 0 dX4_init_101 rfl ?_
  refine gc_aload_n 1 dX4_init_102 rfl ?_
  refine gc_get0 dX4_init_103 fcX4_40 rfl ?_
  refine gc_alen0 (q0 := 0) (t0 := 3) (v := Int32.ofInt 8) dX4_init_106 rfl (fun _ => rfl) rfl ?_
  refine gc_ge_f (tgt := 129) dX4_init_107 (by decide) (by decide) ?_
  refine gc_aload_n 1 dX4_init_110 rfl ?_
  refine gc_get0 dX4_init_111 fcX4_40 rfl ?_
  refine gc_iload_n 0 dX4_init_114 rfl ?_
  refine gc_pc (pc' := 115) rfl ?_
  refine gc_new0 (C := RX3) (T := TX3) (N := 9) (ci := 2) bl2 dX4_init_115 (x_ps inX3 gdX3) tyX3 tyX3_ok (at_x 197 rfl rfl) (at_x 199 rfl rfl) (at_x 73 rfl rfl) rfl bl2_ok (Nat.le_of_ble_eq_true rfl) (Nat.le_of_ble_eq_true rfl) (fun q12 => ?_)
  refine gc_dup dX4_init_118 ?_
  refine gc_callL0 (as := []) dX4_init_119 (at_x 200 rfl rfl) mcX3_init rfl (Nat.le_of_ble_eq_true rfl) (gkX3_init) (Nat.le_of_ble_eq_true rfl) (Nat.le_of_ble_eq_true rfl) rfl ?_
  rintro ws1 ⟨r13, rfl⟩
  refine gc_aastL (t0 := 3) (ci := 2) dX4_init_122 (fun _ => rfl) rfl (vp_in_iff.mpr (by decide)) ?_
  refine gc_iinc (i := 0) (v := Int32.ofInt 3) (ls' := [(2, .int (Int32.ofInt 3)), (0, .ref x0), (1, .ref x1)]) dX4_init_123 rfl (by decide) (by decide) rfl ?_
  refine gc_goto (tgt := 101) dX4_init_126 (by decide) ?_
  refine gc_iload_n 0 dX4_init_101 rfl ?_
  refine gc_aload_n 1 dX4_init_102 rfl ?_
  refine gc_get0 dX4_init_103 fcX4_40 rfl ?_
  refine gc_alen0 (q0 := 0) (t0 := 3) (v := Int32.ofInt 8) dX4_init_106 rfl (fun _ => rfl) rfl ?_
  refine gc_ge_f (tgt := 129) dX4_init_107 (by decide) (by decide) ?_
  refine gc_aload_n 1 dX4_init_110 rfl ?_
  refine gc_get0 dX4_init_111 fcX4_40 rfl ?_
  refine gc_iload_n 0 dX4_init_114 rfl ?_
  refine gc_pc (pc' := 115) rfl ?_
  refine gc_new0 (C := RX3) (T := TX3) (N := 9) (ci := 2) bl2 dX4_init_115 (x_ps inX3 gdX3) tyX3 tyX3_ok (at_x 197 rfl rfl) (at_x 199 rfl rfl) (at_x 73 rfl rfl) rfl bl2_ok (Nat.le_of_ble_eq_true rfl) (Nat.le_of_ble_eq_true rfl) (fun q14 => ?_)
  refine gc_dup dX4_init_118 ?_
  refine gc_callL0 (as := []) dX4_init_119 (at_x 200 rfl rfl) mcX3_init rfl (Nat.le_of_ble_eq_true rfl) (gkX3_init) (Nat.le_of_ble_eq_true rfl) (Nat.le_of_ble_eq_true rfl) rfl ?_
  rintro ws1 ⟨r15, rfl⟩
  refine gc_aastL (t0 := 3) (ci := 2) dX4_init_122 (fun _ => rfl) rfl (vp_in_iff.mpr (by decide)) ?_
  refine gc_iinc (i := 0) (v := Int32.ofInt 4) (ls' := [(2, .int (Int32.ofInt 4)), (0, .ref x0), (1, .ref x1)]) dX4_init_123 rfl (by decide) (by decide) rfl ?_
  refine gc_goto (tgt := 101) dX4_init_126 (by decide) ?_
  refine gc_iload_n 0 dX4_init_101 rfl ?_
  refine gc_aload_n 1 dX4_init_102 rfl ?_
  refine gc_get0 dX4_init_103 fcX4_40 rfl ?_
  refine gc_alen0 (q0 := 0) (t0 := 3) (v := Int32.ofInt 8) dX4_init_106 rfl (fun _ => rfl) rfl ?_
  refine gc_ge_f (tgt := 129) dX4_init_107 (by decide) (by decide) ?_
  refine gc_aload_n 1 dX4_init_110 rfl ?_
  refine gc_get0 dX4_init_111 fcX4_40 rfl ?_
  refine gc_iload_n 0 dX4_init_114 rfl ?_
  refine gc_pc (pc' := 115) rfl ?_
  refine gc_new0 (C := RX3) (T := TX3) (N := 9) (ci := 2) bl2 dX4_init_115 (x_ps inX3 gdX3) tyX3 tyX3_ok (at_x 197 rfl rfl) (at_x 199 rfl rfl) (at_x 73 rfl rfl) rfl bl2_ok (Nat.le_of_ble_eq_true rfl) (Nat.le_of_ble_eq_true rfl) (fun q16 => ?_)
  refine gc_dup dX4_init_118 ?_
  refine gc_callL0 (as := []) dX4_init_119 (at_x 200 rfl rfl) mcX3_init rfl (Nat.le_of_ble_eq_true rfl) (gkX3_init) (Nat.le_of_ble_eq_true rfl) (Nat.le_of_ble_eq_true rfl) rfl ?_
  rintro ws1 ⟨r17, rfl⟩
  refine gc_aastL (t0 := 3) (ci := 2) dX4_init_122 (fun _ => rfl) rfl (vp_in_iff.mpr (by decide)) ?_
  refine gc_iinc (i := 0) (v := Int32.ofInt 5) (ls' := [(2, .int (Int32.ofInt 5)), (0, .ref x0), (1, .ref x1)]) dX4_init_123 rfl (by decide) (by decide) rfl ?_
  refine gc_goto (tgt := 101) dX4_init_126 (by decide) ?_
  refine gc_iload_n 0 dX4_init_101 rfl ?_
  refine gc_aload_n 1 dX4_init_102 rfl ?_
  refine gc_get0 dX4_init_103 fcX4_40 rfl ?_
  refine gc_alen0 (q0 := 0) (t0 := 3) (v := Int32.ofInt 8) dX4_init_106 rfl (fun _ => rfl) rfl ?_
  refine gc_ge_f (tgt := 129) dX4_init_107 (by decide) (by decide) ?_
  refine gc_aload_n 1 dX4_init_110 rfl ?_
  refine gc_get0 dX4_init_111 fcX4_40 rfl ?_
  refine gc_iload_n 0 dX4_init_114 rfl ?_
  refine gc_pc (pc' := 115) rfl ?_
  refine gc_new0 (C := RX3) (T := TX3) (N := 9) (ci := 2) bl2 dX4_init_115 (x_ps inX3 gdX3) tyX3 tyX3_ok (at_x 197 rfl rfl) (at_x 199 rfl rfl) (at_x 73 rfl rfl) rfl bl2_ok (Nat.le_of_ble_eq_true rfl) (Nat.le_of_ble_eq_true rfl) (fun q18 => ?_)
  refine gc_dup dX4_init_118 ?_
  refine gc_callL0 (as := []) dX4_init_119 (at_x 200 rfl rfl) mcX3_init rfl (Nat.le_of_ble_eq_true rfl) (gkX3_init) (Nat.le_of_ble_eq_true rfl) (Nat.le_of_ble_eq_true rfl) rfl ?_
  rintro ws1 ⟨r19, rfl⟩
  refine gc_aastL (t0 := 3) (ci := 2) dX4_init_122 (fun _ => rfl) rfl (vp_in_iff.mpr (by decide)) ?_
  refine gc_iinc (i := 0) (v := Int32.ofInt 6) (ls' := [(2, .int (Int32.ofInt 6)), (0, .ref x0), (1, .ref x1)]) dX4_init_123 rfl (by decide) (by decide) rfl ?_
  refine gc_goto (tgt := 101) dX4_init_126 (by decide) ?_
  refine gc_iload_n 0 dX4_init_101 rfl ?_
  refine gc_aload_n 1 dX4_init_102 rfl ?_
  refine gc_get0 dX4_init_103 fcX4_40 rfl ?_
  refine gc_alen0 (q0 := 0) (t0 := 3) (v := Int32.ofInt 8) dX4_init_106 rfl (fun _ => rfl) rfl ?_
  refine gc_ge_f (tgt := 129) dX4_init_107 (by decide) (by decide) ?_
  refine gc_aload_n 1 dX4_init_110 rfl ?_
  refine gc_get0 dX4_init_111 fcX4_40 rfl ?_
  refine gc_iload_n 0 dX4_init_114 rfl ?_
  refine gc_pc (pc' := 115) rfl ?_
  refine gc_new0 (C := RX3) (T := TX3) (N := 9) (ci := 2) bl2 dX4_init_115 (x_ps inX3 gdX3) tyX3 tyX3_ok (at_x 197 rfl rfl) (at_x 199 rfl rfl) (at_x 73 rfl rfl) rfl bl2_ok (Nat.le_of_ble_eq_true rfl) (Nat.le_of_ble_eq_true rfl) (fun q20 => ?_)
  refine gc_dup dX4_init_118 ?_
  refine gc_callL0 (as := []) dX4_init_119 (at_x 200 rfl rfl) mcX3_init rfl (Nat.le_of_ble_eq_true rfl) (gkX3_init) (Nat.le_of_ble_eq_true rfl) (Nat.le_of_ble_eq_true rfl) rfl ?_
  rintro ws1 ⟨r21, rfl⟩
  refine gc_aastL (t0 := 3) (ci := 2) dX4_init_122 (fun _ => rfl) rfl (vp_in_iff.mpr (by decide)) ?_
  refine gc_iinc (i := 0) (v := Int32.ofInt 7) (ls' := [(2, .int (Int32.ofInt 7)), (0, .ref x0), (1, .ref x1)]) dX4_init_123 rfl (by decide) (by decide) rfl ?_
  refine gc_goto (tgt := 101) dX4_init_126 (by decide) ?_
  refine gc_iload_n 0 dX4_init_101 rfl ?_
  refine gc_aload_n 1 dX4_init_102 rfl ?_
  refine gc_get0 dX4_init_103 fcX4_40 rfl ?_
  refine gc_alen0 (q0 := 0) (t0 := 3) (v := Int32.ofInt 8) dX4_init_106 rfl (fun _ => rfl) rfl ?_
  refine gc_ge_f (tgt := 129) dX4_init_107 (by decide) (by decide) ?_
  refine gc_aload_n 1 dX4_init_110 rfl ?_
  refine gc_get0 dX4_init_111 fcX4_40 rfl ?_
  refine gc_iload_n 0 dX4_init_114 rfl ?_
  refine gc_pc (pc' := 115) rfl ?_
  refine gc_new0 (C := RX3) (T := TX3) (N := 9) (ci := 2) bl2 dX4_init_115 (x_ps inX3 gdX3) tyX3 tyX3_ok (at_x 197 rfl rfl) (at_x 199 rfl rfl) (at_x 73 rfl rfl) rfl bl2_ok (Nat.le_of_ble_eq_true rfl) (Nat.le_of_ble_eq_true rfl) (fun q22 => ?_)
  refine gc_dup dX4_init_118 ?_
  refine gc_callL0 (as := []) dX4_init_119 (at_x 200 rfl rfl) mcX3_init rfl (Nat.le_of_ble_eq_true rfl) (gkX3_init) (Nat.le_of_ble_eq_true rfl) (Nat.le_of_ble_eq_true rfl) rfl ?_
  rintro ws1 ⟨r23, rfl⟩
  refine gc_aastL (t0 := 3) (ci := 2) dX4_init_122 (fun _ => rfl) rfl (vp_in_iff.mpr (by decide)) ?_
  refine gc_iinc (i := 0) (v := Int32.ofInt 8) (ls' := [(2, .int (Int32.ofInt 8)), (0, .ref x0), (1, .ref x1)]) dX4_init_123 rfl (by decide) (by decide) rfl ?_
  refine gc_goto (tgt := 101) dX4_init_126 (by decide) ?_
  refine gc_iload_n 0 dX4_init_101 rfl ?_
  refine gc_aload_n 1 dX4_init_102 rfl ?_
  refine gc_get0 dX4_init_103 fcX4_40 rfl ?_
  refine gc_alen0 (q0 := 0) (t0 := 3) (v := Int32.ofInt 8) dX4_init_106 rfl (fun _ => rfl) rfl ?_
  refine gc_ge_t (tgt := 129) dX4_init_107 (by decide) (by decide) ?_
  refine gc_ret dX4_init_129 rfl rfl ⟨(fun a b => if a = 0 then ([q0, q2, q3, q4, q5, q6, q7, q8, q10, q12, q14, q16, q18, q20, q22] : List Nat).getD b 0 else if a < 11 then r1 (a - 1) b else if a < 21 then r9 (a - 11) b else if a < 31 then r11 (a - 21) b else if a < 41 then r13 (a - 31) b else if a < 51 then r15 (a - 41) b else if a < 61 then r17 (a - 51) b else if a < 71 then r19 (a - 61) b else if a < 81 then r21 (a - 71) b else if a < 91 then r23 (a - 81) b else 0), ?_⟩
  rfl
end
