section
theorem mcX8_init : MC mX8_init 0 := ⟨at_x 86 rfl rfl, at_x 69 rfl rfl, at_x 85 rfl rfl, ⟨nhX8.1, nhX8.2, by decide +kernel⟩, by decide, rfl, rfl⟩
theorem fcX8_14 : FC RX8 14 7 0 (tyX8 0) true := ⟨TX8, 10, tyX8, rfl, by decide, x_ps inX8 gdX8, tyX8_ok, nmX8, at_x 376 rfl rfl, rfl, rfl, tyX8_ok 0 (by decide)⟩
theorem fcX8_18 : FC RX8 18 7 1 (tyX8 1) true := ⟨TX8, 10, tyX8, rfl, by decide, x_ps inX8 gdX8, tyX8_ok, nmX8, at_x 377 rfl rfl, rfl, rfl, tyX8_ok 1 (by decide)⟩
theorem fcX8_21 : FC RX8 21 7 2 (tyX8 2) true := ⟨TX8, 10, tyX8, rfl, by decide, x_ps inX8 gdX8, tyX8_ok, nmX8, at_x 378 rfl rfl, rfl, rfl, tyX8_ok 2 (by decide)⟩
theorem fcX8_24 : FC RX8 24 7 3 (tyX8 3) false := ⟨TX8, 10, tyX8, rfl, by decide, x_ps inX8 gdX8, tyX8_ok, nmX8, at_x 379 rfl rfl, rfl, rfl, tyX8_ok 3 (by decide)⟩
theorem fcX8_33 : FC RX8 33 7 4 (tyX8 4) true := ⟨TX8, 10, tyX8, rfl, by decide, x_ps inX8 gdX8, tyX8_ok, nmX8, at_x 380 rfl rfl, rfl, rfl, tyX8_ok 4 (by decide)⟩
theorem fcX8_37 : FC RX8 37 7 5 (tyX8 5) true := ⟨TX8, 10, tyX8, rfl, by decide, x_ps inX8 gdX8, tyX8_ok, nmX8, at_x 381 rfl rfl, rfl, rfl, tyX8_ok 5 (by decide)⟩
theorem fcX8_40 : FC RX8 40 7 6 (tyX8 6) false := ⟨TX8, 10, tyX8, rfl, by decide, x_ps inX8 gdX8, tyX8_ok, nmX8, at_x 382 rfl rfl, rfl, rfl, tyX8_ok 6 (by decide)⟩
theorem fcX8_46 : FC RX8 46 7 7 (tyX8 7) true := ⟨TX8, 10, tyX8, rfl, by decide, x_ps inX8 gdX8, tyX8_ok, nmX8, at_x 383 rfl rfl, rfl, rfl, tyX8_ok 7 (by decide)⟩
theorem fcX8_53 : FC RX8 53 7 8 (tyX8 8) true := ⟨TX8, 10, tyX8, rfl, by decide, x_ps inX8 gdX8, tyX8_ok, nmX8, at_x 384 rfl rfl, rfl, rfl, tyX8_ok 8 (by decide)⟩
theorem fcX8_59 : FC RX8 59 7 9 (tyX8 9) true := ⟨TX8, 10, tyX8, rfl, by decide, x_ps inX8 gdX8, tyX8_ok, nmX8, at_x 385 rfl rfl, rfl, rfl, tyX8_ok 9 (by decide)⟩
def wX8_init (ca : Nat → ClassId) (x0 q0 q2 q4 q6 q8 q10 q12 q14 q15 q17 q19 q21 q23 q25 : Nat) (r1 r3 r5 r7 r9 r11 r13 r16 r18 r20 r22 r24 r26 : Nat → Nat → Nat) : va_W := (x0, .inr (7, [.ref q0, .ref q2, .ref q4, .int (Int32.ofInt 0), .ref q6, .ref q8, .int (Int32.ofInt 0), .ref q10, .ref q12, .ref q14])) :: ((((((((q14, .inl (ca 4, 6, .inr (.inr (.inr (.inr (va_up (va_up (va_up (va_up (va_up (va_up (fun _ => none) 0 (some q15)) 1 (some q17)) 2 (some q19)) 3 (some q21)) 4 (some q23)) 5 (some q25))))))) :: ((((((([] ++ wX1_init ca q0 r1) ++ wX1_init ca q2 r3) ++ wX1_init ca q4 r5) ++ wX4_init ca q6 q0 r7) ++ wX4_init ca q8 q2 r9) ++ wX6_init ca q10 r11) ++ wX7_init ca q12 r13)) ++ wX5_init ca q15 r16) ++ wX5_init ca q17 r18) ++ wX5_init ca q19 r20) ++ wX5_init ca q21 r22) ++ wX5_init ca q23 r24) ++ wX5_init ca q25 r26)
set_option maxRecDepth 100000 in
set_option maxHeartbeats 4000000 in
theorem gkX8_init {G : GX} {d : Nat} {x0  : Nat} : CtG G mX8_init (d + 3) 116 1488 [.ref x0] [(x0, .inr (7, bl7))] (fun ws => ∃ (q0 q2 q4 q6 q8 q10 q12 q14 q15 q17 q19 q21 q23 q25 : Nat) (r1 r3 r5 r7 r9 r11 r13 r16 r18 r20 r22 r24 r26 : Nat → Nat → Nat), ws = wX8_init G.2.2 x0 q0 q2 q4 q6 q8 q10 q12 q14 q15 q17 q19 q21 q23 q25 r1 r3 r5 r7 r9 r11 r13 r16 r18 r20 r22 r24 r26) := by
  refine ctg_gc (by decide +kernel) rfl rfl (Nat.le_of_ble_eq_true rfl) rfl ?_
  refine gc_aload_n 0 dX8_init_0 rfl ?_
  refine gc_init dX8_init_1 (at_x 87 rfl rfl) (Nat.le_of_ble_eq_true rfl) (by omega) ?_
  refine gc_aload_n 0 dX8_init_4 rfl ?_
  refine gc_new0 (C := RX1) (T := TX1) (N := 15) (ci := 1) bl1 dX8_init_5 (x_ps inX1 gdX1) tyX1 tyX1_ok (at_x 90 rfl rfl) (at_x 91 rfl rfl) (at_x 70 rfl rfl) rfl bl1_ok (Nat.le_of_ble_eq_true rfl) (Nat.le_of_ble_eq_true rfl) (fun q0 => ?_)
  refine gc_dup dX8_init_8 ?_
  refine gc_callL0 (as := []) dX8_init_9 (at_x 92 rfl rfl) mcX1_init rfl (Nat.le_of_ble_eq_true rfl) (gkX1_init) (Nat.le_of_ble_eq_true rfl) (Nat.le_of_ble_eq_true rfl) rfl ?_
  rintro ws1 ⟨r1, rfl⟩
  refine gc_put0 dX8_init_12 fcX8_14 rfl rfl rfl ?_
  refine gc_aload_n 0 dX8_init_15 rfl ?_
  refine gc_pc (pc' := 16) rfl ?_
  refine gc_new0 (C := RX1) (T := TX1) (N := 15) (ci := 1) bl1 dX8_init_16 (x_ps inX1 gdX1) tyX1 tyX1_ok (at_x 90 rfl rfl) (at_x 91 rfl rfl) (at_x 70 rfl rfl) rfl bl1_ok (Nat.le_of_ble_eq_true rfl) (Nat.le_of_ble_eq_true rfl) (fun q2 => ?_)
  refine gc_dup dX8_init_19 ?_
  refine gc_callL0 (as := []) dX8_init_20 (at_x 92 rfl rfl) mcX1_init rfl (Nat.le_of_ble_eq_true rfl) (gkX1_init) (Nat.le_of_ble_eq_true rfl) (Nat.le_of_ble_eq_true rfl) rfl ?_
  rintro ws1 ⟨r3, rfl⟩
  refine gc_put0 dX8_init_23 fcX8_18 rfl rfl rfl ?_
  refine gc_aload_n 0 dX8_init_26 rfl ?_
  refine gc_new0 (C := RX1) (T := TX1) (N := 15) (ci := 1) bl1 dX8_init_27 (x_ps inX1 gdX1) tyX1 tyX1_ok (at_x 90 rfl rfl) (at_x 91 rfl rfl) (at_x 70 rfl rfl) rfl bl1_ok (Nat.le_of_ble_eq_true rfl) (Nat.le_of_ble_eq_true rfl) (fun q4 => ?_)
  refine gc_dup dX8_init_30 ?_
  refine gc_callL0 (as := []) dX8_init_31 (at_x 92 rfl rfl) mcX1_init rfl (Nat.le_of_ble_eq_true rfl) (gkX1_init) (Nat.le_of_ble_eq_true rfl) (Nat.le_of_ble_eq_true rfl) rfl ?_
  rintro ws1 ⟨r5, rfl⟩
  refine gc_put0 dX8_init_34 fcX8_21 rfl rfl rfl ?_
  refine gc_pc (pc' := 37) rfl ?_
  refine gc_aload_n 0 dX8_init_37 rfl ?_
  refine gc_iconst dX8_init_38 ?_
  refine gc_put0 dX8_init_39 fcX8_24 rfl rfl rfl ?_
  refine gc_aload_n 0 dX8_init_42 rfl ?_
  refine gc_new0 (C := RX4) (T := TX4) (N := 14) (ci := 3) bl3 dX8_init_43 (x_ps inX4 gdX4) tyX4 tyX4_ok (at_x 169 rfl rfl) (at_x 170 rfl rfl) (at_x 71 rfl rfl) rfl bl3_ok (Nat.le_of_ble_eq_true rfl) (Nat.le_of_ble_eq_true rfl) (fun q6 => ?_)
  refine gc_dup dX8_init_46 ?_
  refine gc_aload_n 0 dX8_init_47 rfl ?_
  refine gc_get0 dX8_init_48 fcX8_14 rfl ?_
  refine gc_callL0 (as := [.ref q0]) dX8_init_51 (at_x 171 rfl rfl) mcX4_init rfl (Nat.le_of_ble_eq_true rfl) (gkX4_init) (Nat.le_of_ble_eq_true rfl) (Nat.le_of_ble_eq_true rfl) rfl ?_
  rintro ws1 ⟨r7, rfl⟩
  refine gc_pc (pc' := 54) rfl ?_
  refine gc_put0 dX8_init_54 fcX8_33 rfl rfl rfl ?_
  refine gc_aload_n 0 dX8_init_57 rfl ?_
  refine gc_new0 (C := RX4) (T := TX4) (N := 14) (ci := 3) bl3 dX8_init_58 (x_ps inX4 gdX4) tyX4 tyX4_ok (at_x 169 rfl rfl) (at_x 170 rfl rfl) (at_x 71 rfl rfl) rfl bl3_ok (Nat.le_of_ble_eq_true rfl) (Nat.le_of_ble_eq_true rfl) (fun q8 => ?_)
  refine gc_dup dX8_init_61 ?_
  refine gc_aload_n 0 dX8_init_62 rfl ?_
  refine gc_get0 dX8_init_63 fcX8_18 rfl ?_
  refine gc_callL0 (as := [.ref q2]) dX8_init_66 (at_x 171 rfl rfl) mcX4_init rfl (Nat.le_of_ble_eq_true rfl) (gkX4_init) (Nat.le_of_ble_eq_true rfl) (Nat.le_of_ble_eq_true rfl) rfl ?_
  rintro ws1 ⟨r9, rfl⟩
  refine gc_put0 dX8_init_69 fcX8_37 rfl rfl rfl ?_
  refine gc_aload_n 0 dX8_init_72 rfl ?_
  refine gc_pc (pc' := 73) rfl ?_
  refine gc_iconst dX8_init_73 ?_
  refine gc_put0 dX8_init_74 fcX8_40 rfl rfl rfl ?_
  refine gc_aload_n 0 dX8_init_77 rfl ?_
  refine gc_new0 (C := RX6) (T := TX6) (N := 8) (ci := 5) bl5 dX8_init_78 (x_ps inX6 gdX6) tyX6 tyX6_ok (at_x 300 rfl rfl) (at_x 301 rfl rfl) (at_x 74 rfl rfl) rfl bl5_ok (Nat.le_of_ble_eq_true rfl) (Nat.le_of_ble_eq_true rfl) (fun q10 => ?_)
  refine gc_dup dX8_init_81 ?_
  refine gc_callL0 (as := []) dX8_init_82 (at_x 302 rfl rfl) mcX6_init rfl (Nat.le_of_ble_eq_true rfl) (gkX6_init) (Nat.le_of_ble_eq_true rfl) (Nat.le_of_ble_eq_true rfl) rfl ?_
  rintro ws1 ⟨r11, rfl⟩
  refine gc_put0 dX8_init_85 fcX8_46 rfl rfl rfl ?_
  refine gc_aload_n 0 dX8_init_88 rfl ?_
  refine gc_new0 (C := RX7) (T := TX7) (N := 3) (ci := 6) bl6 dX8_init_89 (x_ps inX7 gdX7) tyX7 tyX7_ok (at_x 337 rfl rfl) (at_x 338 rfl rfl) (at_x 75 rfl rfl) rfl bl6_ok (Nat.le_of_ble_eq_true rfl) (Nat.le_of_ble_eq_true rfl) (fun q12 => ?_)
  refine gc_pc (pc' := 92) rfl ?_
  refine gc_dup dX8_init_92 ?_
  refine gc_callL0 (as := []) dX8_init_93 (at_x 339 rfl rfl) mcX7_init rfl (Nat.le_of_ble_eq_true rfl) (gkX7_init) (Nat.le_of_ble_eq_true rfl) (Nat.le_of_ble_eq_true rfl) rfl ?_
  rintro ws1 ⟨r13, rfl⟩
  refine gc_put0 dX8_init_96 fcX8_53 rfl rfl rfl ?_
  refine gc_aload_n 0 dX8_init_99 rfl ?_
  refine gc_bipush dX8_init_100 rfl ?_
  refine gc_anew0 (t0 := 4) (N' := 6) dX8_init_102 (at_x 356 rfl rfl) (fun _ h => h.2.1) (fun _ => rfl) (by decide) rfl (by decide) (by decide) (by decide) (fun q14 => ?_)
  refine gc_second ?_
  refine gc_put0 dX8_init_105 fcX8_59 rfl rfl rfl ?_
  refine gc_iconst dX8_init_108 ?_
  refine gc_istore_n (ls' := [(1, .int (Int32.ofInt 0)), (0, .ref x0)]) dX8_init_109 (by decide) rfl ?_
  refine gc_pc (pc' := 110) rfl ?_
  refine gc_iload_n 0 dX8_init_110 rfl ?_
  refine gc_aload_n 1 dX8_init_111 rfl ?_
  refine gc_get0 dX8_init_112 fcX8_59 rfl ?_
  refine gc_alen0 (q0 := 0) (t0 := 4) (v := Int32.ofInt 6) dX8_init_115 rfl (fun _ => rfl) rfl ?_
  refine gc_ge_f (tgt := 138) dX8_init_116 (by decide) (by decide) ?_
  refine gc_aload_n 1 dX8_init_119 rfl ?_
  refine gc_get0 dX8_init_120 fcX8_59 rfl ?_
  refine gc_iload_n 0 dX8_init_123 rfl ?_
  refine gc_new0 (C := RX5) (T := TX5) (N := 3) (ci := 4) bl4 dX8_init_124 (x_ps inX5 gdX5) tyX5 tyX5_ok (at_x 356 rfl rfl) (at_x 358 rfl rfl) (at_x 76 rfl rfl) rfl bl4_ok (Nat.le_of_ble_eq_true rfl) (Nat.le_of_ble_eq_true rfl) (fun q15 => ?_)
  refine gc_pc (pc' := 127) rfl ?_
  refine gc_dup dX8_init_127 ?_
  refine gc_callL0 (as := []) dX8_init_128 (at_x 359 rfl rfl) mcX5_init rfl (Nat.le_of_ble_eq_true rfl) (gkX5_init) (Nat.le_of_ble_eq_true rfl) (Nat.le_of_ble_eq_true rfl) rfl ?_
  rintro ws1 ⟨r16, rfl⟩
  refine gc_aastL (t0 := 4) (ci := 4) dX8_init_131 (fun _ => rfl) rfl (vp_in_iff.mpr (by decide)) ?_
  refine gc_iinc (i := 0) (v := Int32.ofInt 1) (ls' := [(1, .int (Int32.ofInt 1)), (0, .ref x0)]) dX8_init_132 rfl (by decide) (by decide) rfl ?_
  refine gc_goto (tgt := 110) dX8_init_135 (by decide) ?_
  refine gc_iload_n 0 dX8_init_110 rfl ?_
  refine gc_aload_n 1 dX8_init_111 rfl ?_
  refine gc_get0 dX8_init_112 fcX8_59 rfl ?_
  refine gc_alen0 (q0 := 0) (t0 := 4) (v := Int32.ofInt 6) dX8_init_115 rfl (fun _ => rfl) rfl ?_
  refine gc_ge_f (tgt := 138) dX8_init_116 (by decide) (by decide) ?_
  refine gc_aload_n 1 dX8_init_119 rfl ?_
  refine gc_get0 dX8_init_120 fcX8_59 rfl ?_
  refine gc_iload_n 0 dX8_init_123 rfl ?_
  refine gc_pc (pc' := 124) rfl ?_
  refine gc_new0 (C := RX5) (T := TX5) (N := 3) (ci := 4) bl4 dX8_init_124 (x_ps inX5 gdX5) tyX5 tyX5_ok (at_x 356 rfl rfl) (at_x 358 rfl rfl) (at_x 76 rfl rfl) rfl bl4_ok (Nat.le_of_ble_eq_true rfl) (Nat.le_of_ble_eq_true rfl) (fun q17 => ?_)
  refine gc_dup dX8_init_127 ?_
  refine gc_callL0 (as := []) dX8_init_128 (at_x 359 rfl rfl) mcX5_init rfl (Nat.le_of_ble_eq_true rfl) (gkX5_init) (Nat.le_of_ble_eq_true rfl) (Nat.le_of_ble_eq_true rfl) rfl ?_
  rintro ws1 ⟨r18, rfl⟩
  refine gc_aastL (t0 := 4) (ci := 4) dX8_init_131 (fun _ => rfl) rfl (vp_in_iff.mpr (by decide)) ?_
  refine gc_iinc (i := 0) (v := Int32.ofInt 2) (ls' := [(1, .int (Int32.ofInt 2)), (0, .ref x0)]) dX8_init_132 rfl (by decide) (by decide) rfl ?_
  refine gc_goto (tgt := 110) dX8_init_135 (by decide) ?_
  refine gc_iload_n 0 dX8_init_110 rfl ?_
  refine gc_aload_n 1 dX8_init_111 rfl ?_
  refine gc_get0 dX8_init_112 fcX8_59 rfl ?_
  refine gc_alen0 (q0 := 0) (t0 := 4) (v := Int32.ofInt 6) dX8_init_115 rfl (fun _ => rfl) rfl ?_
  refine gc_ge_f (tgt := 138) dX8_init_116 (by decide) (by decide) ?_
  refine gc_aload_n 1 dX8_init_119 rfl ?_
  refine gc_get0 dX8_init_120 fcX8_59 rfl ?_
  refine gc_iload_n 0 dX8_init_123 rfl ?_
  refine gc_pc (pc' := 124) rfl ?_
  refine gc_new0 (C := RX5) (T := TX5) (N := 3) (ci := 4) bl4 dX8_init_124 (x_ps inX5 gdX5) tyX5 tyX5_ok (at_x 356 rfl rfl) (at_x 358 rfl rfl) (at_x 76 rfl rfl) rfl bl4_ok (Nat.le_of_ble_eq_true rfl) (Nat.le_of_ble_eq_true rfl) (fun q19 => ?_)
  refine gc_dup dX8_init_127 ?_
  refine gc_callL0 (as := []) dX8_init_128 (at_x 359 rfl rfl) mcX5_init rfl (Nat.le_of_ble_eq_true rfl) (gkX5_init) (Nat.le_of_ble_eq_true rfl) (Nat.le_of_ble_eq_true rfl) rfl ?_
  rintro ws1 ⟨r20, rfl⟩
  refine gc_aastL (t0 := 4) (ci := 4) dX8_init_131 (fun _ => rfl) rfl (vp_in_iff.mpr (by decide)) ?_
  refine gc_iinc (i := 0) (v := Int32.ofInt 3) (ls' := [(1, .int (Int32.ofInt 3)), (0, .ref x0)]) dX8_init_132 rfl (by decide) (by decide) rfl ?_
  refine gc_goto (tgt := 110) dX8_init_135 (by decide) ?_
  refine gc_iload_n 0 dX8_init_110 rfl ?_
  refine gc_aload_n 1 dX8_init_111 rfl ?_
  refine gc_get0 dX8_init_112 fcX8_59 rfl ?_
  refine gc_alen0 (q0 := 0) (t0 := 4) (v := Int32.ofInt 6) dX8_init_115 rfl (fun _ => rfl) rfl ?_
  refine gc_ge_f (tgt := 138) dX8_init_116 (by decide) (by decide) ?_
  refine gc_aload_n 1 dX8_init_119 rfl ?_
  refine gc_get0 dX8_init_120 fcX8_59 rfl ?_
  refine gc_iload_n 0 dX8_init_123 rfl ?_
  refine gc_pc (pc' := 124) rfl ?_
  refine gc_new0 (C := RX5) (T := TX5) (N := 3) (ci := 4) bl4 dX8_init_124 (x_ps inX5 gdX5) tyX5 tyX5_ok (at_x 356 rfl rfl) (at_x 358 rfl rfl) (at_x 76 rfl rfl) rfl bl4_ok (Nat.le_of_ble_eq_true rfl) (Nat.le_of_ble_eq_true rfl) (fun q21 => ?_)
  refine gc_dup dX8_init_127 ?_
  refine gc_callL0 (as := []) dX8_init_128 (at_x 359 rfl rfl) mcX5_init rfl (Nat.le_of_ble_eq_true rfl) (gkX5_init) (Nat.le_of_ble_eq_true rfl) (Nat.le_of_ble_eq_true rfl) rfl ?_
  rintro ws1 ⟨r22, rfl⟩
  refine gc_aastL (t0 := 4) (ci := 4) dX8_init_131 (fun _ => rfl) rfl (vp_in_iff.mpr (by decide)) ?_
  refine gc_iinc (i := 0) (v := Int32.ofInt 4) (ls' := [(1, .int (Int32.ofInt 4)), (0, .ref x0)]) dX8_init_132 rfl (by decide) (by decide) rfl ?_
  refine gc_goto (tgt := 110) dX8_init_135 (by decide) ?_
  refine gc_iload_n 0 dX8_init_110 rfl ?_
  refine gc_aload_n 1 dX8_init_111 rfl ?_
  refine gc_get0 dX8_init_112 fcX8_59 rfl ?_
  refine gc_alen0 (q0 := 0) (t0 := 4) (v := Int32.ofInt 6) dX8_init_115 rfl (fun _ => rfl) rfl ?_
  refine gc_ge_f (tgt := 138) dX8_init_116 (by decide) (by decide) ?_
  refine gc_aload_n 1 dX8_init_119 rfl ?_
  refine gc_get0 dX8_init_120 fcX8_59 rfl ?_
  refine gc_iload_n 0 dX8_init_123 rfl ?_
  refine gc_pc (pc' := 124) rfl ?_
  refine gc_new0 (C := RX5) (T := TX5) (N := 3) (ci := 4) bl4 dX8_init_124 (x_ps inX5 gdX5) tyX5 tyX5_ok (at_x 356 rfl rfl) (at_x 358 rfl rfl) (at_x 76 rfl rfl) rfl bl4_ok (Nat.le_of_ble_eq_true rfl) (Nat.le_of_ble_eq_true rfl) (fun q23 => ?_)
  refine gc_dup dX8_init_127 ?_
  refine gc_callL0 (as := []) dX8_init_128 (at_x 359 rfl rfl) mcX5_init rfl (Nat.le_of_ble_eq_true rfl) (gkX5_init) (Nat.le_of_ble_eq_true rfl) (Nat.le_of_ble_eq_true rfl) rfl ?_
  rintro ws1 ⟨r24, rfl⟩
  refine gc_aastL (t0 := 4) (ci := 4) dX8_init_131 (fun _ => rfl) rfl (vp_in_iff.mpr (by decide)) ?_
  refine gc_iinc (i := 0) (v := Int32.ofInt 5) (ls' := [(1, .int (Int32.ofInt 5)), (0, .ref x0)]) dX8_init_132 rfl (by decide) (by decide) rfl ?_
  refine gc_goto (tgt := 110) dX8_init_135 (by decide) ?_
  refine gc_iload_n 0 dX8_init_110 rfl ?_
  refine gc_aload_n 1 dX8_init_111 rfl ?_
  refine gc_get0 dX8_init_112 fcX8_59 rfl ?_
  refine gc_alen0 (q0 := 0) (t0 := 4) (v := Int32.ofInt 6) dX8_init_115 rfl (fun _ => rfl) rfl ?_
  refine gc_ge_f (tgt := 138) dX8_init_116 (by decide) (by decide) ?_
  refine gc_aload_n 1 dX8_init_119 rfl ?_
  refine gc_get0 dX8_init_120 fcX8_59 rfl ?_
  refine gc_iload_n 0 dX8_init_123 rfl ?_
  refine gc_pc (pc' := 124) rfl ?_
  refine gc_new0 (C := RX5) (T := TX5) (N := 3) (ci := 4) bl4 dX8_init_124 (x_ps inX5 gdX5) tyX5 tyX5_ok (at_x 356 rfl rfl) (at_x 358 rfl rfl) (at_x 76 rfl rfl) rfl bl4_ok (Nat.le_of_ble_eq_true rfl) (Nat.le_of_ble_eq_true rfl) (fun q25 => ?_)
  refine gc_dup dX8_init_127 ?_
  refine gc_callL0 (as := []) dX8_init_128 (at_x 359 rfl rfl) mcX5_init rfl (Nat.le_of_ble_eq_true rfl) (gkX5_init) (Nat.le_of_ble_eq_true rfl) (Nat.le_of_ble_eq_true rfl) rfl ?_
  rintro ws1 ⟨r26, rfl⟩
  refine gc_aastL (t0 := 4) (ci := 4) dX8_init_131 (fun _ => rfl) rfl (vp_in_iff.mpr (by decide)) ?_
  refine gc_iinc (i := 0) (v := Int32.ofInt 6) (ls' := [(1, .int (Int32.ofInt 6)), (0, .ref x0)]) dX8_init_132 rfl (by decide) (by decide) rfl ?_
  refine gc_goto (tgt := 110) dX8_init_135 (by decide) ?_
  refine gc_iload_n 0 dX8_init_110 rfl ?_
  refine gc_aload_n 1 dX8_init_111 rfl ?_
  refine gc_get0 dX8_init_112 fcX8_59 rfl ?_
  refine gc_alen0 (q0 := 0) (t0 := 4) (v := Int32.ofInt 6) dX8_init_115 rfl (fun _ => rfl) rfl ?_
  refine gc_ge_t (tgt := 138) dX8_init_116 (by decide) (by decide) ?_
  exact gc_ret dX8_init_138 rfl rfl ⟨q0, q2, q4, q6, q8, q10, q12, q14, q15, q17, q19, q21, q23, q25, r1, r3, r5, r7, r9, r11, r13, r16, r18, r20, r22, r24, r26, rfl⟩
end
