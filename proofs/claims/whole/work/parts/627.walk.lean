section
set_option maxHeartbeats 8000000 in
set_option maxRecDepth 20000 in
theorem lX9_numberRead_l4 {X : XC} {d : Nat} {Post : Option XV → Mem → Prop} {x0 : Nat} {x1 : Int} (hx0 : Sh x0 = (18, 69)) : ∀ (n : Nat) (x2 x3 : Int) (M : Mem) (t0 : Int × Int × Mem), fX9_numberRead_l4 x0 x1 n x2 x3 M = some t0 → Go X mX9_numberRead (d + 1) 71 [(0, XR x0), (2, XI t0.1), (3, XI t0.2.1)] [] t0.2.2 Post → Go X mX9_numberRead (d + 1) 4 [(0, XR x0), (1, XI x1), (2, XI x2), (3, XI x3)] [] M Post := by
  intro n
  induction n with
  | zero => intro _ _ _ _ h; cases h
  | succ n ih =>
    intro x2 x3 M t0 h K
    unfold fX9_numberRead_l4 at h
    refine g_aload_n 0 dX9_numberRead_4 rfl ?_
    refine g_getI dX9_numberRead_5 flX9_377 (by decide) rfl hx0 ?_
    refine g_if_ge (tgt := 71) dX9_numberRead_8 (by decide) (fun b1 => ?_) (fun b1 => ?_)
    · replace h := ifp b1 h
      cases h
      exact g_sub [0, 2, 3] rfl K
    · replace h := ifn b1 h
      refine g_pc (pc' := 11) rfl ?_
      refine g_iload_n 2 dX9_numberRead_11 rfl ?_
      refine g_iload_n 1 dX9_numberRead_12 rfl ?_
      refine g_icmp_ge (tgt := 71) dX9_numberRead_13 (by decide) (fun b2 => ?_) (fun b2 => ?_)
      · replace h := ifp b2 h
        cases h
        exact g_sub [0, 2, 3] rfl K
      · replace h := ifn b2 h
        refine g_pc (pc' := 16) rfl ?_
        refine g_aload_n 0 dX9_numberRead_16 rfl ?_
        refine g_aload_n 0 dX9_numberRead_17 rfl ?_
        refine g_getI dX9_numberRead_18 flX9_380 (by decide) rfl hx0 ?_
        obtain ⟨q3, hq3, h⟩ := bnd_some h
        refine v_I (ci := 8) (as := [XI (M x0 47)]) dX9_numberRead_21 mlX9_387 mdX9_signAt mvX9_signAt rfl hx0 rfl (Nat.le_of_ble_eq_true rfl) (kX9_signAt hx0 hq3) rfl ?_
        refine g_i2l dX9_numberRead_24 ?_
        refine g_ldc2 (v := 48) dX9_numberRead_25 csX9_390 (by decide +kernel) (i64l rfl) ?_
        refine g_ldc2 (v := 57) dX9_numberRead_28 csX9_392 (by decide +kernel) (i64l rfl) ?_
        obtain ⟨q4, hq4, h⟩ := bnd_some h
        refine s_I (as := [XL q3.1, XL 48, XL 57]) dX9_numberRead_31 mlX9_170 mdX9_in msX9_in rfl (Nat.le_of_ble_eq_true rfl) (kX9_in  hq4) rfl ?_
        refine g_pc (pc' := 34) rfl ?_
        refine g_if_eq (tgt := 71) dX9_numberRead_34 (by decide) (fun b5 => ?_) (fun b5 => ?_)
        · replace h := ifp b5 h
          cases h
          exact g_sub [0, 2, 3] rfl K
        · replace h := ifn b5 h
          refine g_pc (pc' := 37) rfl ?_
          refine g_bip dX9_numberRead_37 rfl ?_
          refine g_iload_n 3 dX9_numberRead_39 rfl ?_
          obtain ⟨c6, h⟩ := chk_some h
          refine g_imul dX9_numberRead_40 rfl c6 ?_
          refine g_aload_n 0 dX9_numberRead_41 rfl ?_
          refine g_getR dX9_numberRead_42 flX9_114 (by decide) rfl hx0 ?_
          refine g_aload_n 0 dX9_numberRead_45 rfl ?_
          refine g_getI dX9_numberRead_46 flX9_380 (by decide) rfl hx0 ?_
          obtain ⟨c7, h⟩ := chk_some h
          refine g_iald dX9_numberRead_49 (sf_8_45 hx0) c7.1 c7.2 ?_
          refine g_pc (pc' := 50) rfl ?_
          obtain ⟨c8, h⟩ := chk_some h
          refine g_iadd dX9_numberRead_50 rfl c8 ?_
          refine g_bip dX9_numberRead_51 rfl ?_
          obtain ⟨c9, h⟩ := chk_some h
          refine g_isub dX9_numberRead_53 rfl c9 ?_
          refine g_nmI (fun v10 ev10 => ?_)
          replace h := nm_s ev10 h
          refine g_istore_n (ls' := [(3, XI v10), (0, XR x0), (1, XI x1), (2, XI x2)]) dX9_numberRead_54 (by decide) rfl ?_
          obtain ⟨c11, h⟩ := chk_some h
          refine g_iinc (ls' := [(2, XI (x2 + 1)), (3, XI v10), (0, XR x0), (1, XI x1)]) 3 dX9_numberRead_55 rfl rfl c11 (by decide) rfl ?_
          refine g_aload_n 2 dX9_numberRead_58 rfl ?_
          refine g_dupR dX9_numberRead_59 ?_
          refine g_getI dX9_numberRead_60 flX9_380 (by decide) rfl hx0 ?_
          refine g_iconst (v := 1) dX9_numberRead_63 rfl (i32l rfl) ?_
          refine g_pc (pc' := 64) rfl ?_
          obtain ⟨c12, h⟩ := chk_some h
          refine g_iadd dX9_numberRead_64 rfl c12 ?_
          refine g_putI dX9_numberRead_65 flX9_380 (by decide) rfl hx0 ?_
          refine g_nmM (fun M13 eM13 => ?_)
          replace h := nm_s eM13 h
          refine g_goto (tgt := 4) dX9_numberRead_68 (by decide) ?_
          exact g_sub [2, 3, 0, 1] rfl (ih _ _ _ _ h K)
set_option maxHeartbeats 8000000 in
set_option maxRecDepth 20000 in
theorem kX9_numberRead {X : XC} {d : Nat} {x0 : Nat} {x1 : Int} (hx0 : Sh x0 = (18, 69)) {M : Mem} {q : Int × Mem} (h : fX9_numberRead x0 x1 M = some q) : Ct X mX9_numberRead (d + 1) [XR x0, XI x1] M (pI q) := by
  unfold fX9_numberRead at h
  refine ct_go (by decide +kernel) (Nat.le_of_ble_eq_true rfl) (ls := [(0, XR x0), (1, XI x1)]) rfl ?_
  refine g_iconst (v := 0) dX9_numberRead_0 rfl (i32l rfl) ?_
  refine g_istore_n (ls' := [(2, XI 0), (0, XR x0), (1, XI x1)]) dX9_numberRead_1 (by decide) rfl ?_
  refine g_iconst (v := 0) dX9_numberRead_2 rfl (i32l rfl) ?_
  refine g_istore_n (ls' := [(3, XI 0), (2, XI 0), (0, XR x0), (1, XI x1)]) dX9_numberRead_3 (by decide) rfl ?_
  obtain ⟨z14, hz14, h⟩ := bnd_some h
  refine g_sub (ls' := [(0, XR x0), (1, XI x1), (2, XI 0), (3, XI 0)]) [2, 3, 1, 0] rfl ?_
  refine lX9_numberRead_l4 hx0 1000 _ _ _ _ hz14 ?_
  refine g_iload_n 1 dX9_numberRead_71 rfl ?_
  obtain ⟨t17, ht17, h⟩ := bnd_some h
  have Kt17 : Go X mX9_numberRead (d + 1) 80 [(3, XI z14.2.1)] [] t17 (pI q) := by
    refine g_iload_n 0 dX9_numberRead_80 rfl ?_
    cases h
    exact g_ireturn dX9_numberRead_81 rfl ⟨rfl, rfl⟩
  refine g_if_ne (tgt := 80) dX9_numberRead_72 (by decide) (fun b18 => ?_) (fun b18 => ?_)
  · replace ht17 := ifn b18 ht17
    cases ht17
    exact g_sub [2] rfl Kt17
  · replace ht17 := ifp b18 ht17
    refine g_pc (pc' := 75) rfl ?_
    refine g_aload_n 0 dX9_numberRead_75 rfl ?_
    refine g_iconst (v := 1) dX9_numberRead_76 rfl (i32l rfl) ?_
    obtain ⟨q19, hq19, ht17⟩ := bnd_some ht17
    refine v_V (ci := 8) (as := [XI 1]) dX9_numberRead_77 mlX9_394 mdX9_fails mvX9_fails rfl hx0 rfl (Nat.le_of_ble_eq_true rfl) (kX9_fails hx0 hq19) rfl ?_
    cases ht17
    exact g_sub [2] rfl Kt17
end
