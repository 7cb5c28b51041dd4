section
def fX9_set (x0 : Nat) (x1 : Int) (x2 : Int) (M : Mem) : Option (Int × Mem) := Option.bind (fX9_in x1 0 2 M) (fun q1 => (if q1.1 = 0 then some ((-1), q1.2) else (if x1 = 0 then Option.bind (fX9_in x2 1 7 q1.2) (fun q49 => (if q49.1 = 0 then some ((-2), q49.2) else Option.bind ((if x1 = 0 then some ((q49.2 x0 6)) else (if x1 = 1 then some ((q49.2 x0 7)) else some ((q49.2 x0 8)))) : Option (Int)) (fun t53 => Option.bind ((if x1 = 0 then nm (wr q49.2 x0 6 x2) (fun M60 => some (M60)) else some (q49.2)) : Option (Mem)) (fun t58 => Option.bind ((if x1 = 1 then nm (wr t58 x0 7 x2) (fun M65 => some (M65)) else some (t58)) : Option (Mem)) (fun t63 => Option.bind ((if x1 = 2 then nm (wr t63 x0 8 x2) (fun M70 => some (M70)) else some (t63)) : Option (Mem)) (fun t68 => some (t53, t68))))))) else (if x1 = 1 then Option.bind (fX9_in x2 0 1000000000 q1.2) (fun q27 => (if q27.1 = 0 then some ((-2), q27.2) else Option.bind ((if x1 = 0 then some ((q27.2 x0 6)) else (if x1 = 1 then some ((q27.2 x0 7)) else some ((q27.2 x0 8)))) : Option (Int)) (fun t31 => Option.bind ((if x1 = 0 then nm (wr q27.2 x0 6 x2) (fun M38 => some (M38)) else some (q27.2)) : Option (Mem)) (fun t36 => Option.bind ((if x1 = 1 then nm (wr t36 x0 7 x2) (fun M43 => some (M43)) else some (t36)) : Option (Mem)) (fun t41 => Option.bind ((if x1 = 2 then nm (wr t41 x0 8 x2) (fun M48 => some (M48)) else some (t41)) : Option (Mem)) (fun t46 => some (t31, t46))))))) else Option.bind (fX9_in x2 1 20 q1.2) (fun q5 => (if q5.1 = 0 then some ((-2), q5.2) else Option.bind ((if x1 = 0 then some ((q5.2 x0 6)) else (if x1 = 1 then some ((q5.2 x0 7)) else some ((q5.2 x0 8)))) : Option (Int)) (fun t9 => Option.bind ((if x1 = 0 then nm (wr q5.2 x0 6 x2) (fun M16 => some (M16)) else some (q5.2)) : Option (Mem)) (fun t14 => Option.bind ((if x1 = 1 then nm (wr t14 x0 7 x2) (fun M21 => some (M21)) else some (t14)) : Option (Mem)) (fun t19 => Option.bind ((if x1 = 2 then nm (wr t19 x0 8 x2) (fun M26 => some (M26)) else some (t19)) : Option (Mem)) (fun t24 => some (t9, t24)))))))))))
set_option maxRecDepth 20000 in
theorem kX9_set {X : XC} {d : Nat} {x0 : Nat} {x1 : Int} {x2 : Int} (hx0 : Sh x0 = (18, 69)) {M : Mem} {q : Int × Mem} (h : fX9_set x0 x1 x2 M = some q) : Ct X mX9_set (d + 1) [XR x0, XI x1, XI x2] M (pI q) := by
  unfold fX9_set at h
  refine ct_go (by decide +kernel) (Nat.le_of_ble_eq_true rfl) (ls := [(0, XR x0), (1, XI x1), (2, XI x2)]) rfl ?_
  refine g_iload_n 1 dX9_set_0 rfl ?_
  refine g_i2l dX9_set_1 ?_
  refine g_lconst (v := 0) dX9_set_2 rfl (i64l rfl) ?_
  refine g_ldc2 (v := 2) dX9_set_3 csX9_214 (by decide +kernel) (i64l rfl) ?_
  obtain ⟨q1, hq1, h⟩ := bnd_some h
  refine s_I (as := [XL x1, XL 0, XL 2]) dX9_set_6 mlX9_170 mdX9_in msX9_in rfl (Nat.le_of_ble_eq_true rfl) (kX9_in  hq1) rfl ?_
  refine g_if_ne (tgt := 14) dX9_set_9 (by decide) (fun b2 => ?_) (fun b2 => ?_)
  · replace h := ifn b2 h
    refine g_iload_n 1 dX9_set_14 rfl ?_
    refine g_if_ne (tgt := 33) dX9_set_15 (by decide) (fun b3 => ?_) (fun b3 => ?_)
    · replace h := ifn b3 h
      refine g_iload_n 1 dX9_set_33 rfl ?_
      refine g_iconst (v := 1) dX9_set_34 rfl (i32l rfl) ?_
      refine g_icmp_ne (tgt := 53) dX9_set_35 (by decide) (fun b4 => ?_) (fun b4 => ?_)
      · replace h := ifn b4 h
        refine g_iload_n 2 dX9_set_53 rfl ?_
        refine g_i2l dX9_set_54 ?_
        refine g_lconst (v := 1) dX9_set_55 rfl (i64l rfl) ?_
        refine g_ldc2 (v := 20) dX9_set_56 csX9_220 (by decide +kernel) (i64l rfl) ?_
        obtain ⟨q5, hq5, h⟩ := bnd_some h
        refine s_I (as := [XL x2, XL 1, XL 20]) dX9_set_59 mlX9_170 mdX9_in msX9_in rfl (Nat.le_of_ble_eq_true rfl) (kX9_in  hq5) rfl ?_
        refine g_if_ne (tgt := 68) dX9_set_62 (by decide) (fun b6 => ?_) (fun b6 => ?_)
        · replace h := ifn b6 h
          refine g_iload_n 1 dX9_set_68 rfl ?_
          obtain ⟨t9, ht9, h⟩ := bnd_some h
          have Kt9 : Go X mX9_set (d + 1) 95 [(0, XR x0), (1, XI x1), (2, XI x2)] [XI t9] q5.2 (pI q) := by
            refine g_istore_n (ls' := [(3, XI t9), (0, XR x0), (1, XI x1), (2, XI x2)]) dX9_set_95 (by decide) rfl ?_
            refine g_iload_n 2 dX9_set_96 rfl ?_
            obtain ⟨t14, ht14, h⟩ := bnd_some h
            have Kt14 : Go X mX9_set (d + 1) 105 [(0, XR x0), (1, XI x1), (2, XI x2), (3, XI t9)] [] t14 (pI q) := by
              refine g_iload_n 1 dX9_set_105 rfl ?_
              refine g_iconst (v := 1) dX9_set_106 rfl (i32l rfl) ?_
              obtain ⟨t19, ht19, h⟩ := bnd_some h
              have Kt19 : Go X mX9_set (d + 1) 115 [(0, XR x0), (1, XI x1), (2, XI x2), (3, XI t9)] [] t19 (pI q) := by
                refine g_iload_n 1 dX9_set_115 rfl ?_
                refine g_iconst (v := 2) dX9_set_116 rfl (i32l rfl) ?_
                obtain ⟨t24, ht24, h⟩ := bnd_some h
                have Kt24 : Go X mX9_set (d + 1) 125 [(3, XI t9)] [] t24 (pI q) := by
                  refine g_iload_n 0 dX9_set_125 rfl ?_
                  cases h
                  exact g_ireturn dX9_set_126 rfl ⟨rfl, rfl⟩
                refine g_icmp_ne (tgt := 125) dX9_set_117 (by decide) (fun b25 => ?_) (fun b25 => ?_)
                · replace ht24 := ifn b25 ht24
                  cases ht24
                  exact g_sub [3] rfl Kt24
                · replace ht24 := ifp b25 ht24
                  refine g_pc (pc' := 120) rfl ?_
                  refine g_aload_n 0 dX9_set_120 rfl ?_
                  refine g_iload_n 2 dX9_set_121 rfl ?_
                  refine g_putI dX9_set_122 flX9_32 (by decide) rfl hx0 ?_
                  refine g_nmM (fun M26 eM26 => ?_)
                  replace ht24 := nm_s eM26 ht24
                  cases ht24
                  exact g_sub [3] rfl Kt24
              refine g_icmp_ne (tgt := 115) dX9_set_107 (by decide) (fun b20 => ?_) (fun b20 => ?_)
              · replace ht19 := ifn b20 ht19
                cases ht19
                exact g_sub [0, 1, 2, 3] rfl Kt19
              · replace ht19 := ifp b20 ht19
                refine g_pc (pc' := 110) rfl ?_
                refine g_aload_n 0 dX9_set_110 rfl ?_
                refine g_iload_n 2 dX9_set_111 rfl ?_
                refine g_putI dX9_set_112 flX9_29 (by decide) rfl hx0 ?_
                refine g_nmM (fun M21 eM21 => ?_)
                replace ht19 := nm_s eM21 ht19
                cases ht19
                exact g_sub [0, 1, 2, 3] rfl Kt19
            refine g_if_ne (tgt := 105) dX9_set_97 (by decide) (fun b15 => ?_) (fun b15 => ?_)
            · replace ht14 := ifn b15 ht14
              cases ht14
              exact g_sub [1, 2, 3, 0] rfl Kt14
            · replace ht14 := ifp b15 ht14
              refine g_pc (pc' := 100) rfl ?_
              refine g_aload_n 1 dX9_set_100 rfl ?_
              refine g_iload_n 3 dX9_set_101 rfl ?_
              refine g_putI dX9_set_102 flX9_25 (by decide) rfl hx0 ?_
              refine g_nmM (fun M16 eM16 => ?_)
              replace ht14 := nm_s eM16 ht14
              cases ht14
              exact g_sub [1, 2, 3, 0] rfl Kt14
          refine g_if_ne (tgt := 79) dX9_set_69 (by decide) (fun b10 => ?_) (fun b10 => ?_)
          · replace ht9 := ifn b10 ht9
            refine g_iload_n 1 dX9_set_79 rfl ?_
            refine g_iconst (v := 1) dX9_set_80 rfl (i32l rfl) ?_
            refine g_icmp_ne (tgt := 91) dX9_set_81 (by decide) (fun b11 => ?_) (fun b11 => ?_)
            · replace ht9 := ifn b11 ht9
              refine g_aload_n 0 dX9_set_91 rfl ?_
              refine g_getI dX9_set_92 flX9_32 (by decide) rfl hx0 ?_
              cases ht9
              exact g_sub [0, 1, 2] rfl Kt9
            · replace ht9 := ifp b11 ht9
              refine g_pc (pc' := 84) rfl ?_
              refine g_aload_n 0 dX9_set_84 rfl ?_
              refine g_getI dX9_set_85 flX9_29 (by decide) rfl hx0 ?_
              refine g_goto (tgt := 95) dX9_set_88 (by decide) ?_
              cases ht9
              exact g_sub [0, 1, 2] rfl Kt9
          · replace ht9 := ifp b10 ht9
            refine g_pc (pc' := 72) rfl ?_
            refine g_aload_n 0 dX9_set_72 rfl ?_
            refine g_getI dX9_set_73 flX9_25 (by decide) rfl hx0 ?_
            refine g_goto (tgt := 95) dX9_set_76 (by decide) ?_
            cases ht9
            exact g_sub [0, 1, 2] rfl Kt9
        · replace h := ifp b6 h
          refine g_pc (pc' := 65) rfl ?_
          refine g_bip dX9_set_65 rfl ?_
          cases h
          exact g_ireturn dX9_set_67 rfl ⟨rfl, rfl⟩
      · replace h := ifp b4 h
        refine g_pc (pc' := 38) rfl ?_
        refine g_iload_n 2 dX9_set_38 rfl ?_
        refine g_i2l dX9_set_39 ?_
        refine g_lconst (v := 0) dX9_set_40 rfl (i64l rfl) ?_
        refine g_ldc2 (v := 1000000000) dX9_set_41 csX9_218 (by decide +kernel) (i64l rfl) ?_
        obtain ⟨q27, hq27, h⟩ := bnd_some h
        refine s_I (as := [XL x2, XL 0, XL 1000000000]) dX9_set_44 mlX9_170 mdX9_in msX9_in rfl (Nat.le_of_ble_eq_true rfl) (kX9_in  hq27) rfl ?_
        refine g_if_ne (tgt := 68) dX9_set_47 (by decide) (fun b28 => ?_) (fun b28 => ?_)
        · replace h := ifn b28 h
          refine g_iload_n 1 dX9_set_68 rfl ?_
          obtain ⟨t31, ht31, h⟩ := bnd_some h
          have Kt31 : Go X mX9_set (d + 1) 95 [(0, XR x0), (1, XI x1), (2, XI x2)] [XI t31] q27.2 (pI q) := by
            refine g_istore_n (ls' := [(3, XI t31), (0, XR x0), (1, XI x1), (2, XI x2)]) dX9_set_95 (by decide) rfl ?_
            refine g_iload_n 2 dX9_set_96 rfl ?_
            obtain ⟨t36, ht36, h⟩ := bnd_some h
            have Kt36 : Go X mX9_set (d + 1) 105 [(0, XR x0), (1, XI x1), (2, XI x2), (3, XI t31)] [] t36 (pI q) := by
              refine g_iload_n 1 dX9_set_105 rfl ?_
              refine g_iconst (v := 1) dX9_set_106 rfl (i32l rfl) ?_
              obtain ⟨t41, ht41, h⟩ := bnd_some h
              have Kt41 : Go X mX9_set (d + 1) 115 [(0, XR x0), (1, XI x1), (2, XI x2), (3, XI t31)] [] t41 (pI q) := by
                refine g_iload_n 1 dX9_set_115 rfl ?_
                refine g_iconst (v := 2) dX9_set_116 rfl (i32l rfl) ?_
                obtain ⟨t46, ht46, h⟩ := bnd_some h
                have Kt46 : Go X mX9_set (d + 1) 125 [(3, XI t31)] [] t46 (pI q) := by
                  refine g_iload_n 0 dX9_set_125 rfl ?_
                  cases h
                  exact g_ireturn dX9_set_126 rfl ⟨rfl, rfl⟩
                refine g_icmp_ne (tgt := 125) dX9_set_117 (by decide) (fun b47 => ?_) (fun b47 => ?_)
                · replace ht46 := ifn b47 ht46
                  cases ht46
                  exact g_sub [3] rfl Kt46
                · replace ht46 := ifp b47 ht46
                  refine g_pc (pc' := 120) rfl ?_
                  refine g_aload_n 0 dX9_set_120 rfl ?_
                  refine g_iload_n 2 dX9_set_121 rfl ?_
                  refine g_putI dX9_set_122 flX9_32 (by decide) rfl hx0 ?_
                  refine g_nmM (fun M48 eM48 => ?_)
                  replace ht46 := nm_s eM48 ht46
                  cases ht46
                  exact g_sub [3] rfl Kt46
              refine g_icmp_ne (tgt := 115) dX9_set_107 (by decide) (fun b42 => ?_) (fun b42 => ?_)
              · replace ht41 := ifn b42 ht41
                cases ht41
                exact g_sub [0, 1, 2, 3] rfl Kt41
              · replace ht41 := ifp b42 ht41
                refine g_pc (pc' := 110) rfl ?_
                refine g_aload_n 0 dX9_set_110 rfl ?_
                refine g_iload_n 2 dX9_set_111 rfl ?_
                refine g_putI dX9_set_112 flX9_29 (by decide) rfl hx0 ?_
                refine g_nmM (fun M43 eM43 => ?_)
                replace ht41 := nm_s eM43 ht41
                cases ht41
                exact g_sub [0, 1, 2, 3] rfl Kt41
            refine g_if_ne (tgt := 105) dX9_set_97 (by decide) (fun b37 => ?_) (fun b37 => ?_)
            · replace ht36 := ifn b37 ht36
              cases ht36
              exact g_sub [1, 2, 3, 0] rfl Kt36
            · replace ht36 := ifp b37 ht36
              refine g_pc (pc' := 100) rfl ?_
              refine g_aload_n 1 dX9_set_100 rfl ?_
              refine g_iload_n 3 dX9_set_101 rfl ?_
              refine g_putI dX9_set_102 flX9_25 (by decide) rfl hx0 ?_
              refine g_nmM (fun M38 eM38 => ?_)
              replace ht36 := nm_s eM38 ht36
              cases ht36
              exact g_sub [1, 2, 3, 0] rfl Kt36
          refine g_if_ne (tgt := 79) dX9_set_69 (by decide) (fun b32 => ?_) (fun b32 => ?_)
          · replace ht31 := ifn b32 ht31
            refine g_iload_n 1 dX9_set_79 rfl ?_
            refine g_iconst (v := 1) dX9_set_80 rfl (i32l rfl) ?_
            refine g_icmp_ne (tgt := 91) dX9_set_81 (by decide) (fun b33 => ?_) (fun b33 => ?_)
            · replace ht31 := ifn b33 ht31
              refine g_aload_n 0 dX9_set_91 rfl ?_
              refine g_getI dX9_set_92 flX9_32 (by decide) rfl hx0 ?_
              cases ht31
              exact g_sub [0, 1, 2] rfl Kt31
            · replace ht31 := ifp b33 ht31
              refine g_pc (pc' := 84) rfl ?_
              refine g_aload_n 0 dX9_set_84 rfl ?_
              refine g_getI dX9_set_85 flX9_29 (by decide) rfl hx0 ?_
              refine g_goto (tgt := 95) dX9_set_88 (by decide) ?_
              cases ht31
              exact g_sub [0, 1, 2] rfl Kt31
          · replace ht31 := ifp b32 ht31
            refine g_pc (pc' := 72) rfl ?_
            refine g_aload_n 0 dX9_set_72 rfl ?_
            refine g_getI dX9_set_73 flX9_25 (by decide) rfl hx0 ?_
            refine g_goto (tgt := 95) dX9_set_76 (by decide) ?_
            cases ht31
            exact g_sub [0, 1, 2] rfl Kt31
        · replace h := ifp b28 h
          refine g_pc (pc' := 50) rfl ?_
          refine g_goto (tgt := 65) dX9_set_50 (by decide) ?_
          refine g_bip dX9_set_65 rfl ?_
          cases h
          exact g_ireturn dX9_set_67 rfl ⟨rfl, rfl⟩
    · replace h := ifp b3 h
      refine g_pc (pc' := 18) rfl ?_
      refine g_iload_n 2 dX9_set_18 rfl ?_
      refine g_i2l dX9_set_19 ?_
      refine g_lconst (v := 1) dX9_set_20 rfl (i64l rfl) ?_
      refine g_ldc2 (v := 7) dX9_set_21 csX9_216 (by decide +kernel) (i64l rfl) ?_
      obtain ⟨q49, hq49, h⟩ := bnd_some h
      refine s_I (as := [XL x2, XL 1, XL 7]) dX9_set_24 mlX9_170 mdX9_in msX9_in rfl (Nat.le_of_ble_eq_true rfl) (kX9_in  hq49) rfl ?_
      refine g_if_ne (tgt := 68) dX9_set_27 (by decide) (fun b50 => ?_) (fun b50 => ?_)
      · replace h := ifn b50 h
        refine g_iload_n 1 dX9_set_68 rfl ?_
        obtain ⟨t53, ht53, h⟩ := bnd_some h
        have Kt53 : Go X mX9_set (d + 1) 95 [(0, XR x0), (1, XI x1), (2, XI x2)] [XI t53] q49.2 (pI q) := by
          refine g_istore_n (ls' := [(3, XI t53), (0, XR x0), (1, XI x1), (2, XI x2)]) dX9_set_95 (by decide) rfl ?_
          refine g_iload_n 2 dX9_set_96 rfl ?_
          obtain ⟨t58, ht58, h⟩ := bnd_some h
          have Kt58 : Go X mX9_set (d + 1) 105 [(0, XR x0), (1, XI x1), (2, XI x2), (3, XI t53)] [] t58 (pI q) := by
            refine g_iload_n 1 dX9_set_105 rfl ?_
            refine g_iconst (v := 1) dX9_set_106 rfl (i32l rfl) ?_
            obtain ⟨t63, ht63, h⟩ := bnd_some h
            have Kt63 : Go X mX9_set (d + 1) 115 [(0, XR x0), (1, XI x1), (2, XI x2), (3, XI t53)] [] t63 (pI q) := by
              refine g_iload_n 1 dX9_set_115 rfl ?_
              refine g_iconst (v := 2) dX9_set_116 rfl (i32l rfl) ?_
              obtain ⟨t68, ht68, h⟩ := bnd_some h
              have Kt68 : Go X mX9_set (d + 1) 125 [(3, XI t53)] [] t68 (pI q) := by
                refine g_iload_n 0 dX9_set_125 rfl ?_
                cases h
                exact g_ireturn dX9_set_126 rfl ⟨rfl, rfl⟩
              refine g_icmp_ne (tgt := 125) dX9_set_117 (by decide) (fun b69 => ?_) (fun b69 => ?_)
              · replace ht68 := ifn b69 ht68
                cases ht68
                exact g_sub [3] rfl Kt68
              · replace ht68 := ifp b69 ht68
                refine g_pc (pc' := 120) rfl ?_
                refine g_aload_n 0 dX9_set_120 rfl ?_
                refine g_iload_n 2 dX9_set_121 rfl ?_
                refine g_putI dX9_set_122 flX9_32 (by decide) rfl hx0 ?_
                refine g_nmM (fun M70 eM70 => ?_)
                replace ht68 := nm_s eM70 ht68
                cases ht68
                exact g_sub [3] rfl Kt68
            refine g_icmp_ne (tgt := 115) dX9_set_107 (by decide) (fun b64 => ?_) (fun b64 => ?_)
            · replace ht63 := ifn b64 ht63
              cases ht63
              exact g_sub [0, 1, 2, 3] rfl Kt63
            · replace ht63 := ifp b64 ht63
              refine g_pc (pc' := 110) rfl ?_
              refine g_aload_n 0 dX9_set_110 rfl ?_
              refine g_iload_n 2 dX9_set_111 rfl ?_
              refine g_putI dX9_set_112 flX9_29 (by decide) rfl hx0 ?_
              refine g_nmM (fun M65 eM65 => ?_)
              replace ht63 := nm_s eM65 ht63
              cases ht63
              exact g_sub [0, 1, 2, 3] rfl Kt63
          refine g_if_ne (tgt := 105) dX9_set_97 (by decide) (fun b59 => ?_) (fun b59 => ?_)
          · replace ht58 := ifn b59 ht58
            cases ht58
            exact g_sub [1, 2, 3, 0] rfl Kt58
          · replace ht58 := ifp b59 ht58
            refine g_pc (pc' := 100) rfl ?_
            refine g_aload_n 1 dX9_set_100 rfl ?_
            refine g_iload_n 3 dX9_set_101 rfl ?_
            refine g_putI dX9_set_102 flX9_25 (by decide) rfl hx0 ?_
            refine g_nmM (fun M60 eM60 => ?_)
            replace ht58 := nm_s eM60 ht58
            cases ht58
            exact g_sub [1, 2, 3, 0] rfl Kt58
        refine g_if_ne (tgt := 79) dX9_set_69 (by decide) (fun b54 => ?_) (fun b54 => ?_)
        · replace ht53 := ifn b54 ht53
          refine g_iload_n 1 dX9_set_79 rfl ?_
          refine g_iconst (v := 1) dX9_set_80 rfl (i32l rfl) ?_
          refine g_icmp_ne (tgt := 91) dX9_set_81 (by decide) (fun b55 => ?_) (fun b55 => ?_)
          · replace ht53 := ifn b55 ht53
            refine g_aload_n 0 dX9_set_91 rfl ?_
            refine g_getI dX9_set_92 flX9_32 (by decide) rfl hx0 ?_
            cases ht53
            exact g_sub [0, 1, 2] rfl Kt53
          · replace ht53 := ifp b55 ht53
            refine g_pc (pc' := 84) rfl ?_
            refine g_aload_n 0 dX9_set_84 rfl ?_
            refine g_getI dX9_set_85 flX9_29 (by decide) rfl hx0 ?_
            refine g_goto (tgt := 95) dX9_set_88 (by decide) ?_
            cases ht53
            exact g_sub [0, 1, 2] rfl Kt53
        · replace ht53 := ifp b54 ht53
          refine g_pc (pc' := 72) rfl ?_
          refine g_aload_n 0 dX9_set_72 rfl ?_
          refine g_getI dX9_set_73 flX9_25 (by decide) rfl hx0 ?_
          refine g_goto (tgt := 95) dX9_set_76 (by decide) ?_
          cases ht53
          exact g_sub [0, 1, 2] rfl Kt53
      · replace h := ifp b50 h
        refine g_pc (pc' := 30) rfl ?_
        refine g_goto (tgt := 65) dX9_set_30 (by decide) ?_
        refine g_bip dX9_set_65 rfl ?_
        cases h
        exact g_ireturn dX9_set_67 rfl ⟨rfl, rfl⟩
  · replace h := ifp b2 h
    refine g_pc (pc' := 12) rfl ?_
    refine g_iconst (v := -1) dX9_set_12 rfl (i32l rfl) ?_
    cases h
    exact g_ireturn dX9_set_13 rfl ⟨rfl, rfl⟩
def fX9_swap (x0 : Nat) (x1 : Int) (x2 : Int) (M : Mem) : Option (Int × Mem) := Option.bind (fX9_isOne x0 x1 M) (fun q1 => (if q1.1 = 0 then some ((-1), q1.2) else Option.bind (fX9_isOne x0 x2 q1.2) (fun q3 => (if q3.1 = 0 then some ((-1), q3.2) else (if x1 = x2 then some ((-1), q3.2) else if 0 ≤ x1 ∧ x1 < 8 then nm ((q3.2 (x0 + 4) (Int.toNat x1))) (fun v7 => if 0 ≤ x2 ∧ x2 < 8 then if 0 ≤ x1 ∧ x1 < 8 then nm (wr q3.2 (x0 + 4) (Int.toNat x1) (q3.2 (x0 + 4) (Int.toNat x2))) (fun M10 => if 0 ≤ x2 ∧ x2 < 8 then nm (wr M10 (x0 + 4) (Int.toNat x2) v7) (fun M12 => if 0 ≤ x1 ∧ x1 < 8 then some ((M12 (x0 + 4) (Int.toNat x1)), M12) else none) else none) else none else none) else none)))))
set_option maxRecDepth 20000 in
theorem kX9_swap {X : XC} {d : Nat} {x0 : Nat} {x1 : Int} {x2 : Int} (hx0 : Sh x0 = (18, 69)) {M : Mem} {q : Int × Mem} (h : fX9_swap x0 x1 x2 M = some q) : Ct X mX9_swap (d + 2) [XR x0, XI x1, XI x2] M (pI q) := by
  unfold fX9_swap at h
  refine ct_go (by decide +kernel) (Nat.le_of_ble_eq_true rfl) (ls := [(0, XR x0), (1, XI x1), (2, XI x2)]) rfl ?_
  refine g_aload_n 0 dX9_swap_0 rfl ?_
  refine g_iload_n 1 dX9_swap_1 rfl ?_
  obtain ⟨q1, hq1, h⟩ := bnd_some h
  refine v_I (ci := 8) (as := [XI x1]) dX9_swap_2 mlX9_211 mdX9_isOne mvX9_isOne rfl hx0 rfl (Nat.le_of_ble_eq_true rfl) (kX9_isOne hx0 hq1) rfl ?_
  refine g_if_eq (tgt := 21) dX9_swap_5 (by decide) (fun b2 => ?_) (fun b2 => ?_)
  · replace h := ifp b2 h
    refine g_iconst (v := -1) dX9_swap_21 rfl (i32l rfl) ?_
    cases h
    exact g_ireturn dX9_swap_22 rfl ⟨rfl, rfl⟩
  · replace h := ifn b2 h
    refine g_pc (pc' := 8) rfl ?_
    refine g_aload_n 0 dX9_swap_8 rfl ?_
    refine g_iload_n 2 dX9_swap_9 rfl ?_
    obtain ⟨q3, hq3, h⟩ := bnd_some h
    refine v_I (ci := 8) (as := [XI x2]) dX9_swap_10 mlX9_211 mdX9_isOne mvX9_isOne rfl hx0 rfl (Nat.le_of_ble_eq_true rfl) (kX9_isOne hx0 hq3) rfl ?_
    refine g_if_eq (tgt := 21) dX9_swap_13 (by decide) (fun b4 => ?_) (fun b4 => ?_)
    · replace h := ifp b4 h
      refine g_iconst (v := -1) dX9_swap_21 rfl (i32l rfl) ?_
      cases h
      exact g_ireturn dX9_swap_22 rfl ⟨rfl, rfl⟩
    · replace h := ifn b4 h
      refine g_pc (pc' := 16) rfl ?_
      refine g_iload_n 1 dX9_swap_16 rfl ?_
      refine g_iload_n 2 dX9_swap_17 rfl ?_
      refine g_icmp_ne (tgt := 23) dX9_swap_18 (by decide) (fun b5 => ?_) (fun b5 => ?_)
      · replace h := ifn b5 h
        refine g_aload_n 0 dX9_swap_23 rfl ?_
        refine g_getR dX9_swap_24 flX9_15 (by decide) rfl hx0 ?_
        refine g_iload_n 1 dX9_swap_27 rfl ?_
        obtain ⟨c6, h⟩ := chk_some h
        refine g_iald dX9_swap_28 (sf_8_3 hx0) c6.1 c6.2 ?_
        refine g_nmI (fun v7 ev7 => ?_)
        replace h := nm_s ev7 h
        refine g_istore_n (ls' := [(3, XI v7), (0, XR x0), (1, XI x1), (2, XI x2)]) dX9_swap_29 (by decide) rfl ?_
        refine g_aload_n 1 dX9_swap_30 rfl ?_
        refine g_getR dX9_swap_31 flX9_15 (by decide) rfl hx0 ?_
        refine g_iload_n 2 dX9_swap_34 rfl ?_
        refine g_pc (pc' := 35) rfl ?_
        refine g_aload_n 1 dX9_swap_35 rfl ?_
        refine g_getR dX9_swap_36 flX9_15 (by decide) rfl hx0 ?_
        refine g_iload_n 3 dX9_swap_39 rfl ?_
        obtain ⟨c8, h⟩ := chk_some h
        refine g_iald dX9_swap_40 (sf_8_3 hx0) c8.1 c8.2 ?_
        obtain ⟨c9, h⟩ := chk_some h
        refine g_iast dX9_swap_41 (sf_8_3 hx0) c9.1 c9.2 ?_
        refine g_nmM (fun M10 eM10 => ?_)
        replace h := nm_s eM10 h
        refine g_aload_n 1 dX9_swap_42 rfl ?_
        refine g_getR dX9_swap_43 flX9_15 (by decide) rfl hx0 ?_
        refine g_iload_n 3 dX9_swap_46 rfl ?_
        refine g_iload_n 0 dX9_swap_47 rfl ?_
        refine g_pc (pc' := 48) rfl ?_
        obtain ⟨c11, h⟩ := chk_some h
        refine g_iast dX9_swap_48 (sf_8_3 hx0) c11.1 c11.2 ?_
        refine g_nmM (fun M12 eM12 => ?_)
        replace h := nm_s eM12 h
        refine g_aload_n 1 dX9_swap_49 rfl ?_
        refine g_getR dX9_swap_50 flX9_15 (by decide) rfl hx0 ?_
        refine g_iload_n 2 dX9_swap_53 rfl ?_
        obtain ⟨c13, h⟩ := chk_some h
        refine g_iald dX9_swap_54 (sf_8_3 hx0) c13.1 c13.2 ?_
        cases h
        exact g_ireturn dX9_swap_55 rfl ⟨rfl, rfl⟩
      · replace h := ifp b5 h
        refine g_pc (pc' := 21) rfl ?_
        refine g_iconst (v := -1) dX9_swap_21 rfl (i32l rfl) ?_
        cases h
        exact g_ireturn dX9_swap_22 rfl ⟨rfl, rfl⟩
def fX9_lotOf_l2 (x0 : Nat) (x1 : Int) : Nat → Int → Mem → Option (Int × Mem)
  | 0, _, _ => none
  | n + 1, x2, M => if 0 ≤ x2 ∧ x2 < 8 then (if (M (x0 + 4) (Int.toNat x2)) = x1 then some (x2, M) else if -2147483648 ≤ (x2 + 1) ∧ (x2 + 1) ≤ 2147483647 then fX9_lotOf_l2 x0 x1 n (x2 + 1) M else none) else none
def fX9_lotOf (x0 : Nat) (x1 : Int) (M : Mem) : Option (Int × Mem) := Option.bind (fX9_lotOf_l2 x0 x1 1000 0 M) (fun z4 => some (z4.1, z4.2))
set_option maxRecDepth 20000 in
theorem lX9_lotOf_l2 {X : XC} {d : Nat} {Post : Option XV → Mem → Prop} {x0 : Nat} {x1 : Int} (hx0 : Sh x0 = (18, 69)) : ∀ (n : Nat) (x2 : Int) (M : Mem) (t0 : Int × Mem), fX9_lotOf_l2 x0 x1 n x2 M = some t0 → Go X mX9_lotOf d 18 [(2, XI t0.1)] [] t0.2 Post → Go X mX9_lotOf d 2 [(0, XR x0), (1, XI x1), (2, XI x2)] [] M Post := by
  intro n
  induction n with
  | zero => intro _ _ _ h; cases h
  | succ n ih =>
    intro x2 M t0 h K
    unfold fX9_lotOf_l2 at h
    refine g_aload_n 0 dX9_lotOf_2 rfl ?_
    refine g_getR dX9_lotOf_3 flX9_15 (by decide) rfl hx0 ?_
    refine g_iload_n 2 dX9_lotOf_6 rfl ?_
    obtain ⟨c1, h⟩ := chk_some h
    refine g_iald dX9_lotOf_7 (sf_8_3 hx0) c1.1 c1.2 ?_
    refine g_iload_n 1 dX9_lotOf_8 rfl ?_
    refine g_icmp_eq (tgt := 18) dX9_lotOf_9 (by decide) (fun b2 => ?_) (fun b2 => ?_)
    · replace h := ifp b2 h
      cases h
      exact g_sub [2] rfl K
    · replace h := ifn b2 h
      refine g_pc (pc' := 12) rfl ?_
      obtain ⟨c3, h⟩ := chk_some h
      refine g_iinc (ls' := [(2, XI (x2 + 1)), (0, XR x0), (1, XI x1)]) 2 dX9_lotOf_12 rfl rfl c3 (by decide) rfl ?_
      refine g_goto (tgt := 2) dX9_lotOf_15 (by decide) ?_
      exact g_sub [1, 2, 0] rfl (ih _ _ _ h K)
set_option maxRecDepth 20000 in
theorem kX9_lotOf {X : XC} {d : Nat} {x0 : Nat} {x1 : Int} (hx0 : Sh x0 = (18, 69)) {M : Mem} {q : Int × Mem} (h : fX9_lotOf x0 x1 M = some q) : Ct X mX9_lotOf d [XR x0, XI x1] M (pI q) := by
  unfold fX9_lotOf at h
  refine ct_go (by decide +kernel) (Nat.le_of_ble_eq_true rfl) (ls := [(0, XR x0), (1, XI x1)]) rfl ?_
  refine g_iconst (v := 0) dX9_lotOf_0 rfl (i32l rfl) ?_
  refine g_istore_n (ls' := [(2, XI 0), (0, XR x0), (1, XI x1)]) dX9_lotOf_1 (by decide) rfl ?_
  obtain ⟨z4, hz4, h⟩ := bnd_some h
  refine g_sub (ls' := [(0, XR x0), (1, XI x1), (2, XI 0)]) [1, 2, 0] rfl ?_
  refine lX9_lotOf_l2 hx0 1000 _ _ _ hz4 ?_
  refine g_iload_n 0 dX9_lotOf_18 rfl ?_
  cases h
  exact g_ireturn dX9_lotOf_19 rfl ⟨rfl, rfl⟩
def fX9_keyOf_l7  : Nat → Int → Int → Mem → Option (Int × Int × Mem)
  | 0, _, _, _ => none
  | n + 1, x1, x2, M => (if 8 ≤ x2 then some (x1, x2, M) else if -2147483648 ≤ (x1 * 10) ∧ (x1 * 10) ≤ 2147483647 then nm ((x1 * 10)) (fun v5 => if -2147483648 ≤ (x2 + 1) ∧ (x2 + 1) ≤ 2147483647 then fX9_keyOf_l7  n v5 (x2 + 1) M else none) else none)
def fX9_keyOf (x0 : Int) (M : Mem) : Option (Int × Mem) := Option.bind (fX9_lengthOf x0 M) (fun q1 => nm (q1.1) (fun v2 => Option.bind (fX9_keyOf_l7  1000 x0 v2 q1.2) (fun z7 => some (z7.1, z7.2.2))))
set_option maxRecDepth 20000 in
theorem lX9_keyOf_l7 {X : XC} {d : Nat} {Post : Option XV → Mem → Prop}   : ∀ (n : Nat) (x1 x2 : Int) (M : Mem) (t0 : Int × Int × Mem), fX9_keyOf_l7  n x1 x2 M = some t0 → Go X mX9_keyOf (d + 1) 24 [(1, XI t0.1)] [] t0.2.2 Post → Go X mX9_keyOf (d + 1) 7 [(1, XI x1), (2, XI x2)] [] M Post := by
  intro n
  induction n with
  | zero => intro _ _ _ _ h; cases h
  | succ n ih =>
    intro x1 x2 M t0 h K
    unfold fX9_keyOf_l7 at h
    refine g_iload_n 1 dX9_keyOf_7 rfl ?_
    refine g_bip dX9_keyOf_8 rfl ?_
    refine g_icmp_ge (tgt := 24) dX9_keyOf_10 (by decide) (fun b3 => ?_) (fun b3 => ?_)
    · replace h := ifp b3 h
      cases h
      exact g_sub [0] rfl K
    · replace h := ifn b3 h
      refine g_pc (pc' := 13) rfl ?_
      refine g_iload_n 0 dX9_keyOf_13 rfl ?_
      refine g_bip dX9_keyOf_14 rfl ?_
      obtain ⟨c4, h⟩ := chk_some h
      refine g_imul dX9_keyOf_16 rfl c4 ?_
      refine g_nmI (fun v5 ev5 => ?_)
      replace h := nm_s ev5 h
      refine g_istore_n (ls' := [(1, XI v5), (2, XI x2)]) dX9_keyOf_17 (by decide) rfl ?_
      obtain ⟨c6, h⟩ := chk_some h
      refine g_iinc (ls' := [(2, XI (x2 + 1)), (1, XI v5)]) 1 dX9_keyOf_18 rfl rfl c6 (by decide) rfl ?_
      refine g_goto (tgt := 7) dX9_keyOf_21 (by decide) ?_
      exact g_sub [1, 0] rfl (ih _ _ _ _ h K)
set_option maxRecDepth 20000 in
theorem kX9_keyOf {X : XC} {d : Nat} {x0 : Int}  {M : Mem} {q : Int × Mem} (h : fX9_keyOf x0 M = some q) : Ct X mX9_keyOf (d + 1) [XI x0] M (pI q) := by
  unfold fX9_keyOf at h
  refine ct_go (by decide +kernel) (Nat.le_of_ble_eq_true rfl) (ls := [(0, XI x0)]) rfl ?_
  refine g_iload_n 0 dX9_keyOf_0 rfl ?_
  refine g_istore_n (ls' := [(1, XI x0), (0, XI x0)]) dX9_keyOf_1 (by decide) rfl ?_
  refine g_iload_n 1 dX9_keyOf_2 rfl ?_
  obtain ⟨q1, hq1, h⟩ := bnd_some h
  refine s_I (as := [XI x0]) dX9_keyOf_3 mlX9_177 mdX9_lengthOf msX9_lengthOf rfl (Nat.le_of_ble_eq_true rfl) (kX9_lengthOf  hq1) rfl ?_
  refine g_nmI (fun v2 ev2 => ?_)
  replace h := nm_s ev2 h
  refine g_istore_n (ls' := [(2, XI v2), (1, XI x0), (0, XI x0)]) dX9_keyOf_6 (by decide) rfl ?_
  obtain ⟨z7, hz7, h⟩ := bnd_some h
  refine g_sub (ls' := [(1, XI x0), (2, XI v2)]) [1, 0] rfl ?_
  refine lX9_keyOf_l7  1000 _ _ _ _ hz7 ?_
  refine g_iload_n 0 dX9_keyOf_24 rfl ?_
  cases h
  exact g_ireturn dX9_keyOf_25 rfl ⟨rfl, rfl⟩
def fX9_comesTo_l8 (x0 : Nat) (x1 : Int) (x2 : Int) (x3 : Int) : Nat → Int → Mem → Option (Int × Mem)
  | 0, _, _ => none
  | n + 1, x4, M => (if (M x0 18) ≤ x4 then some (x4, M) else if 0 ≤ x4 ∧ x4 < 25 then (if x3 ≤ (M (x0 + 21) (Int.toNat x4)) then some (x4, M) else if -2147483648 ≤ (x4 + 1) ∧ (x4 + 1) ≤ 2147483647 then fX9_comesTo_l8 x0 x1 x2 x3 n (x4 + 1) M else none) else none)
def fX9_comesTo_l72 (x0 : Nat) (x1 : Int) (x2 : Int) (x3 : Int) (x4 : Int) : Nat → Int → Mem → Option (Int × Mem)
  | 0, _, _ => none
  | n + 1, x5, M => (if x5 ≤ x4 then some (x5, M) else if -2147483648 ≤ (x5 - 1) ∧ (x5 - 1) ≤ 2147483647 then if 0 ≤ (x5 - 1) ∧ (x5 - 1) < 25 then if 0 ≤ x5 ∧ x5 < 25 then nm (wr M (x0 + 20) (Int.toNat x5) (M (x0 + 20) (Int.toNat (x5 - 1)))) (fun M14 => if -2147483648 ≤ (x5 - 1) ∧ (x5 - 1) ≤ 2147483647 then if 0 ≤ (x5 - 1) ∧ (x5 - 1) < 25 then if 0 ≤ x5 ∧ x5 < 25 then nm (wr M14 (x0 + 21) (Int.toNat x5) (M14 (x0 + 21) (Int.toNat (x5 - 1)))) (fun M18 => if -2147483648 ≤ (x5 - 1) ∧ (x5 - 1) ≤ 2147483647 then if 0 ≤ (x5 - 1) ∧ (x5 - 1) < 25 then if 0 ≤ x5 ∧ x5 < 25 then nm (wr M18 (x0 + 22) (Int.toNat x5) (M18 (x0 + 22) (Int.toNat (x5 - 1)))) (fun M22 => if -2147483648 ≤ (x5 + (-1)) ∧ (x5 + (-1)) ≤ 2147483647 then fX9_comesTo_l72 x0 x1 x2 x3 x4 n (x5 + (-1)) M22 else none) else none else none else none) else none else none else none) else none else none else none)
def fX9_comesTo (x0 : Nat) (x1 : Int) (x2 : Int) (M : Mem) : Option (Int × Mem) := Option.bind (fX9_keyOf x1 M) (fun q1 => nm (q1.1) (fun v2 => Option.bind (fX9_comesTo_l8 x0 x1 x2 v2 1000 0 q1.2) (fun z7 => (if (z7.2 x0 18) ≤ z7.1 then nm ((z7.2 x0 18)) (fun v9 => Option.bind (fX9_comesTo_l72 x0 x1 x2 v2 z7.1 1000 v9 z7.2) (fun z24 => if 0 ≤ z7.1 ∧ z7.1 < 25 then nm (wr z24.2 (x0 + 20) (Int.toNat z7.1) x1) (fun M26 => if 0 ≤ z7.1 ∧ z7.1 < 25 then nm (wr M26 (x0 + 21) (Int.toNat z7.1) v2) (fun M28 => if 0 ≤ z7.1 ∧ z7.1 < 25 then nm (wr M28 (x0 + 22) (Int.toNat z7.1) x2) (fun M30 => if -2147483648 ≤ ((M30 x0 18) + 1) ∧ ((M30 x0 18) + 1) ≤ 2147483647 then nm (wr M30 x0 18 ((M30 x0 18) + 1)) (fun M32 => some (0, M32)) else none) else none) else none) else none)) else if 0 ≤ z7.1 ∧ z7.1 < 25 then (if (z7.2 (x0 + 21) (Int.toNat z7.1)) = v2 then if 0 ≤ z7.1 ∧ z7.1 < 25 then if -2147483648 ≤ ((z7.2 (x0 + 22) (Int.toNat z7.1)) + x2) ∧ ((z7.2 (x0 + 22) (Int.toNat z7.1)) + x2) ≤ 2147483647 then if 0 ≤ z7.1 ∧ z7.1 < 25 then nm (wr z7.2 (x0 + 22) (Int.toNat z7.1) ((z7.2 (x0 + 22) (Int.toNat z7.1)) + x2)) (fun M48 => some (0, M48)) else none else none else none else nm ((z7.2 x0 18)) (fun v35 => Option.bind (fX9_comesTo_l72 x0 x1 x2 v2 z7.1 1000 v35 z7.2) (fun z36 => if 0 ≤ z7.1 ∧ z7.1 < 25 then nm (wr z36.2 (x0 + 20) (Int.toNat z7.1) x1) (fun M38 => if 0 ≤ z7.1 ∧ z7.1 < 25 then nm (wr M38 (x0 + 21) (Int.toNat z7.1) v2) (fun M40 => if 0 ≤ z7.1 ∧ z7.1 < 25 then nm (wr M40 (x0 + 22) (Int.toNat z7.1) x2) (fun M42 => if -2147483648 ≤ ((M42 x0 18) + 1) ∧ ((M42 x0 18) + 1) ≤ 2147483647 then nm (wr M42 x0 18 ((M42 x0 18) + 1)) (fun M44 => some (0, M44)) else none) else none) else none) else none))) else none))))
set_option maxRecDepth 20000 in
theorem lX9_comesTo_l8 {X : XC} {d : Nat} {Post : Option XV → Mem → Prop} {x0 : Nat} {x1 : Int} {x2 : Int} {x3 : Int} (hx0 : Sh x0 = (18, 69)) : ∀ (n : Nat) (x4 : Int) (M : Mem) (t0 : Int × Mem), fX9_comesTo_l8 x0 x1 x2 x3 n x4 M = some t0 → Go X mX9_comesTo (d + 2) 34 [(0, XR x0), (1, XI x1), (2, XI x2), (3, XI x3), (4, XI t0.1)] [] t0.2 Post → Go X mX9_comesTo (d + 2) 8 [(0, XR x0), (1, XI x1), (2, XI x2), (3, XI x3), (4, XI x4)] [] M Post := by
  intro n
  induction n with
  | zero => intro _ _ _ h; cases h
  | succ n ih =>
    intro x4 M t0 h K
    unfold fX9_comesTo_l8 at h
    refine g_iload 4 dX9_comesTo_8 rfl ?_
    refine g_aload_n 0 dX9_comesTo_10 rfl ?_
    refine g_getI dX9_comesTo_11 flX9_225 (by decide) rfl hx0 ?_
    refine g_icmp_ge (tgt := 34) dX9_comesTo_14 (by decide) (fun b3 => ?_) (fun b3 => ?_)
    · replace h := ifp b3 h
      cases h
      exact g_sub [0, 1, 2, 3, 4] rfl K
    · replace h := ifn b3 h
      refine g_pc (pc' := 17) rfl ?_
      refine g_aload_n 0 dX9_comesTo_17 rfl ?_
      refine g_getR dX9_comesTo_18 flX9_56 (by decide) rfl hx0 ?_
      refine g_iload 4 dX9_comesTo_21 rfl ?_
      obtain ⟨c4, h⟩ := chk_some h
      refine g_iald dX9_comesTo_23 (sf_8_20 hx0) c4.1 c4.2 ?_
      refine g_iload_n 3 dX9_comesTo_24 rfl ?_
      refine g_icmp_ge (tgt := 34) dX9_comesTo_25 (by decide) (fun b5 => ?_) (fun b5 => ?_)
      · replace h := ifp b5 h
        cases h
        exact g_sub [0, 1, 2, 3, 4] rfl K
      · replace h := ifn b5 h
        refine g_pc (pc' := 28) rfl ?_
        obtain ⟨c6, h⟩ := chk_some h
        refine g_iinc (ls' := [(4, XI (x4 + 1)), (0, XR x0), (1, XI x1), (2, XI x2), (3, XI x3)]) 4 dX9_comesTo_28 rfl rfl c6 (by decide) rfl ?_
        refine g_goto (tgt := 8) dX9_comesTo_31 (by decide) ?_
        exact g_sub [1, 2, 3, 4, 0] rfl (ih _ _ _ h K)
set_option maxRecDepth 20000 in
theorem lX9_comesTo_l72 {X : XC} {d : Nat} {Post : Option XV → Mem → Prop} {x0 : Nat} {x1 : Int} {x2 : Int} {x3 : Int} {x4 : Int} (hx0 : Sh x0 = (18, 69)) : ∀ (n : Nat) (x5 : Int) (M : Mem) (t0 : Int × Mem), fX9_comesTo_l72 x0 x1 x2 x3 x4 n x5 M = some t0 → Go X mX9_comesTo (d + 2) 133 [(0, XR x0), (1, XI x1), (2, XI x2), (3, XI x3), (4, XI x4)] [] t0.2 Post → Go X mX9_comesTo (d + 2) 72 [(0, XR x0), (1, XI x1), (2, XI x2), (3, XI x3), (4, XI x4), (5, XI x5)] [] M Post := by
  intro n
  induction n with
  | zero => intro _ _ _ h; cases h
  | succ n ih =>
    intro x5 M t0 h K
    unfold fX9_comesTo_l72 at h
    refine g_iload 5 dX9_comesTo_72 rfl ?_
    refine g_iload 4 dX9_comesTo_74 rfl ?_
    refine g_icmp_le (tgt := 133) dX9_comesTo_76 (by decide) (fun b10 => ?_) (fun b10 => ?_)
    · replace h := ifp b10 h
      cases h
      exact g_sub [0, 1, 2, 3, 4] rfl K
    · replace h := ifn b10 h
      refine g_pc (pc' := 79) rfl ?_
      refine g_aload_n 0 dX9_comesTo_79 rfl ?_
      refine g_getR dX9_comesTo_80 flX9_53 (by decide) rfl hx0 ?_
      refine g_iload 5 dX9_comesTo_83 rfl ?_
      refine g_aload_n 0 dX9_comesTo_85 rfl ?_
      refine g_getR dX9_comesTo_86 flX9_53 (by decide) rfl hx0 ?_
      refine g_iload 5 dX9_comesTo_89 rfl ?_
      refine g_iconst (v := 1) dX9_comesTo_91 rfl (i32l rfl) ?_
      obtain ⟨c11, h⟩ := chk_some h
      refine g_isub dX9_comesTo_92 rfl c11 ?_
      refine g_pc (pc' := 93) rfl ?_
      obtain ⟨c12, h⟩ := chk_some h
      refine g_iald dX9_comesTo_93 (sf_8_19 hx0) c12.1 c12.2 ?_
      obtain ⟨c13, h⟩ := chk_some h
      refine g_iast dX9_comesTo_94 (sf_8_19 hx0) c13.1 c13.2 ?_
      refine g_nmM (fun M14 eM14 => ?_)
      replace h := nm_s eM14 h
      refine g_aload_n 0 dX9_comesTo_95 rfl ?_
      refine g_getR dX9_comesTo_96 flX9_56 (by decide) rfl hx0 ?_
      refine g_iload 5 dX9_comesTo_99 rfl ?_
      refine g_aload_n 0 dX9_comesTo_101 rfl ?_
      refine g_getR dX9_comesTo_102 flX9_56 (by decide) rfl hx0 ?_
      refine g_iload 5 dX9_comesTo_105 rfl ?_
      refine g_iconst (v := 1) dX9_comesTo_107 rfl (i32l rfl) ?_
      refine g_pc (pc' := 108) rfl ?_
      obtain ⟨c15, h⟩ := chk_some h
      refine g_isub dX9_comesTo_108 rfl c15 ?_
      obtain ⟨c16, h⟩ := chk_some h
      refine g_iald dX9_comesTo_109 (sf_8_20 hx0) c16.1 c16.2 ?_
      obtain ⟨c17, h⟩ := chk_some h
      refine g_iast dX9_comesTo_110 (sf_8_20 hx0) c17.1 c17.2 ?_
      refine g_nmM (fun M18 eM18 => ?_)
      replace h := nm_s eM18 h
      refine g_aload_n 0 dX9_comesTo_111 rfl ?_
      refine g_getR dX9_comesTo_112 flX9_59 (by decide) rfl hx0 ?_
      refine g_iload 5 dX9_comesTo_115 rfl ?_
      refine g_aload_n 0 dX9_comesTo_117 rfl ?_
      refine g_getR dX9_comesTo_118 flX9_59 (by decide) rfl hx0 ?_
      refine g_iload 5 dX9_comesTo_121 rfl ?_
      refine g_pc (pc' := 123) rfl ?_
      refine g_iconst (v := 1) dX9_comesTo_123 rfl (i32l rfl) ?_
      obtain ⟨c19, h⟩ := chk_some h
      refine g_isub dX9_comesTo_124 rfl c19 ?_
      obtain ⟨c20, h⟩ := chk_some h
      refine g_iald dX9_comesTo_125 (sf_8_21 hx0) c20.1 c20.2 ?_
      obtain ⟨c21, h⟩ := chk_some h
      refine g_iast dX9_comesTo_126 (sf_8_21 hx0) c21.1 c21.2 ?_
      refine g_nmM (fun M22 eM22 => ?_)
      replace h := nm_s eM22 h
      obtain ⟨c23, h⟩ := chk_some h
      refine g_iinc (ls' := [(5, XI (x5 + (-1))), (0, XR x0), (1, XI x1), (2, XI x2), (3, XI x3), (4, XI x4)]) 5 dX9_comesTo_127 rfl rfl c23 (by decide) rfl ?_
      refine g_goto (tgt := 72) dX9_comesTo_130 (by decide) ?_
      exact g_sub [1, 2, 3, 4, 5, 0] rfl (ih _ _ _ h K)
set_option maxRecDepth 20000 in
theorem kX9_comesTo {X : XC} {d : Nat} {x0 : Nat} {x1 : Int} {x2 : Int} (hx0 : Sh x0 = (18, 69)) {M : Mem} {q : Int × Mem} (h : fX9_comesTo x0 x1 x2 M = some q) : Ct X mX9_comesTo (d + 2) [XR x0, XI x1, XI x2] M (pV q) := by
  unfold fX9_comesTo at h
  refine ct_go (by decide +kernel) (Nat.le_of_ble_eq_true rfl) (ls := [(0, XR x0), (1, XI x1), (2, XI x2)]) rfl ?_
  refine g_iload_n 1 dX9_comesTo_0 rfl ?_
  obtain ⟨q1, hq1, h⟩ := bnd_some h
  refine s_I (as := [XI x1]) dX9_comesTo_1 mlX9_222 mdX9_keyOf msX9_keyOf rfl (Nat.le_of_ble_eq_true rfl) (kX9_keyOf  hq1) rfl ?_
  refine g_nmI (fun v2 ev2 => ?_)
  replace h := nm_s ev2 h
  refine g_istore_n (ls' := [(3, XI v2), (0, XR x0), (1, XI x1), (2, XI x2)]) dX9_comesTo_4 (by decide) rfl ?_
  refine g_iconst (v := 0) dX9_comesTo_5 rfl (i32l rfl) ?_
  refine g_istore (ls' := [(4, XI 0), (3, XI v2), (0, XR x0), (1, XI x1), (2, XI x2)]) dX9_comesTo_6 (by decide) rfl ?_
  obtain ⟨z7, hz7, h⟩ := bnd_some h
  refine g_sub (ls' := [(0, XR x0), (1, XI x1), (2, XI x2), (3, XI v2), (4, XI 0)]) [2, 3, 4, 1, 0] rfl ?_
  refine lX9_comesTo_l8 hx0 1000 _ _ _ hz7 ?_
  refine g_iload 4 dX9_comesTo_34 rfl ?_
  refine g_aload_n 0 dX9_comesTo_36 rfl ?_
  refine g_getI dX9_comesTo_37 flX9_225 (by decide) rfl hx0 ?_
  refine g_icmp_ge (tgt := 66) dX9_comesTo_40 (by decide) (fun b8 => ?_) (fun b8 => ?_)
  · replace h := ifp b8 h
    refine g_aload_n 0 dX9_comesTo_66 rfl ?_
    refine g_getI dX9_comesTo_67 flX9_225 (by decide) rfl hx0 ?_
    refine g_nmI (fun v9 ev9 => ?_)
    replace h := nm_s ev9 h
    refine g_istore (ls' := [(5, XI v9), (0, XR x0), (1, XI x1), (2, XI x2), (3, XI v2), (4, XI z7.1)]) dX9_comesTo_70 (by decide) rfl ?_
    obtain ⟨z24, hz24, h⟩ := bnd_some h
    refine g_sub (ls' := [(0, XR x0), (1, XI x1), (2, XI x2), (3, XI v2), (4, XI z7.1), (5, XI v9)]) [1, 2, 3, 4, 5, 0] rfl ?_
    refine lX9_comesTo_l72 hx0 1000 _ _ _ hz24 ?_
    refine g_aload_n 0 dX9_comesTo_133 rfl ?_
    refine g_getR dX9_comesTo_134 flX9_53 (by decide) rfl hx0 ?_
    refine g_iload 4 dX9_comesTo_137 rfl ?_
    refine g_iload_n 1 dX9_comesTo_139 rfl ?_
    obtain ⟨c25, h⟩ := chk_some h
    refine g_iast dX9_comesTo_140 (sf_8_19 hx0) c25.1 c25.2 ?_
    refine g_nmM (fun M26 eM26 => ?_)
    replace h := nm_s eM26 h
    refine g_aload_n 0 dX9_comesTo_141 rfl ?_
    refine g_getR dX9_comesTo_142 flX9_56 (by decide) rfl hx0 ?_
    refine g_iload 4 dX9_comesTo_145 rfl ?_
    refine g_pc (pc' := 147) rfl ?_
    refine g_iload_n 3 dX9_comesTo_147 rfl ?_
    obtain ⟨c27, h⟩ := chk_some h
    refine g_iast dX9_comesTo_148 (sf_8_20 hx0) c27.1 c27.2 ?_
    refine g_nmM (fun M28 eM28 => ?_)
    replace h := nm_s eM28 h
    refine g_aload_n 0 dX9_comesTo_149 rfl ?_
    refine g_getR dX9_comesTo_150 flX9_59 (by decide) rfl hx0 ?_
    refine g_iload 4 dX9_comesTo_153 rfl ?_
    refine g_iload_n 2 dX9_comesTo_155 rfl ?_
    obtain ⟨c29, h⟩ := chk_some h
    refine g_iast dX9_comesTo_156 (sf_8_21 hx0) c29.1 c29.2 ?_
    refine g_nmM (fun M30 eM30 => ?_)
    replace h := nm_s eM30 h
    refine g_aload_n 0 dX9_comesTo_157 rfl ?_
    refine g_dupR dX9_comesTo_158 ?_
    refine g_pc (pc' := 159) rfl ?_
    refine g_getI dX9_comesTo_159 flX9_225 (by decide) rfl hx0 ?_
    refine g_iconst (v := 1) dX9_comesTo_162 rfl (i32l rfl) ?_
    obtain ⟨c31, h⟩ := chk_some h
    refine g_iadd dX9_comesTo_163 rfl c31 ?_
    refine g_putI dX9_comesTo_164 flX9_225 (by decide) rfl hx0 ?_
    refine g_nmM (fun M32 eM32 => ?_)
    replace h := nm_s eM32 h
    cases h
    exact g_return dX9_comesTo_167 rfl ⟨rfl, rfl⟩
  · replace h := ifn b8 h
    refine g_pc (pc' := 43) rfl ?_
    refine g_aload_n 0 dX9_comesTo_43 rfl ?_
    refine g_getR dX9_comesTo_44 flX9_56 (by decide) rfl hx0 ?_
    refine g_iload 4 dX9_comesTo_47 rfl ?_
    obtain ⟨c33, h⟩ := chk_some h
    refine g_iald dX9_comesTo_49 (sf_8_20 hx0) c33.1 c33.2 ?_
    refine g_iload_n 3 dX9_comesTo_50 rfl ?_
    refine g_icmp_ne (tgt := 66) dX9_comesTo_51 (by decide) (fun b34 => ?_) (fun b34 => ?_)
    · replace h := ifn b34 h
      refine g_aload_n 0 dX9_comesTo_66 rfl ?_
      refine g_getI dX9_comesTo_67 flX9_225 (by decide) rfl hx0 ?_
      refine g_nmI (fun v35 ev35 => ?_)
      replace h := nm_s ev35 h
      refine g_istore (ls' := [(5, XI v35), (0, XR x0), (1, XI x1), (2, XI x2), (3, XI v2), (4, XI z7.1)]) dX9_comesTo_70 (by decide) rfl ?_
      obtain ⟨z36, hz36, h⟩ := bnd_some h
      refine g_sub (ls' := [(0, XR x0), (1, XI x1), (2, XI x2), (3, XI v2), (4, XI z7.1), (5, XI v35)]) [1, 2, 3, 4, 5, 0] rfl ?_
      refine lX9_comesTo_l72 hx0 1000 _ _ _ hz36 ?_
      refine g_aload_n 0 dX9_comesTo_133 rfl ?_
      refine g_getR dX9_comesTo_134 flX9_53 (by decide) rfl hx0 ?_
      refine g_iload 4 dX9_comesTo_137 rfl ?_
      refine g_iload_n 1 dX9_comesTo_139 rfl ?_
      obtain ⟨c37, h⟩ := chk_some h
      refine g_iast dX9_comesTo_140 (sf_8_19 hx0) c37.1 c37.2 ?_
      refine g_nmM (fun M38 eM38 => ?_)
      replace h := nm_s eM38 h
      refine g_aload_n 0 dX9_comesTo_141 rfl ?_
      refine g_getR dX9_comesTo_142 flX9_56 (by decide) rfl hx0 ?_
      refine g_iload 4 dX9_comesTo_145 rfl ?_
      refine g_pc (pc' := 147) rfl ?_
      refine g_iload_n 3 dX9_comesTo_147 rfl ?_
      obtain ⟨c39, h⟩ := chk_some h
      refine g_iast dX9_comesTo_148 (sf_8_20 hx0) c39.1 c39.2 ?_
      refine g_nmM (fun M40 eM40 => ?_)
      replace h := nm_s eM40 h
      refine g_aload_n 0 dX9_comesTo_149 rfl ?_
      refine g_getR dX9_comesTo_150 flX9_59 (by decide) rfl hx0 ?_
      refine g_iload 4 dX9_comesTo_153 rfl ?_
      refine g_iload_n 2 dX9_comesTo_155 rfl ?_
      obtain ⟨c41, h⟩ := chk_some h
      refine g_iast dX9_comesTo_156 (sf_8_21 hx0) c41.1 c41.2 ?_
      refine g_nmM (fun M42 eM42 => ?_)
      replace h := nm_s eM42 h
      refine g_aload_n 0 dX9_comesTo_157 rfl ?_
      refine g_dupR dX9_comesTo_158 ?_
      refine g_pc (pc' := 159) rfl ?_
      refine g_getI dX9_comesTo_159 flX9_225 (by decide) rfl hx0 ?_
      refine g_iconst (v := 1) dX9_comesTo_162 rfl (i32l rfl) ?_
      obtain ⟨c43, h⟩ := chk_some h
      refine g_iadd dX9_comesTo_163 rfl c43 ?_
      refine g_putI dX9_comesTo_164 flX9_225 (by decide) rfl hx0 ?_
      refine g_nmM (fun M44 eM44 => ?_)
      replace h := nm_s eM44 h
      cases h
      exact g_return dX9_comesTo_167 rfl ⟨rfl, rfl⟩
    · replace h := ifp b34 h
      refine g_pc (pc' := 54) rfl ?_
      refine g_aload_n 0 dX9_comesTo_54 rfl ?_
      refine g_getR dX9_comesTo_55 flX9_59 (by decide) rfl hx0 ?_
      refine g_iload 4 dX9_comesTo_58 rfl ?_
      refine g_dup2RI dX9_comesTo_60 ?_
      obtain ⟨c45, h⟩ := chk_some h
      refine g_iald dX9_comesTo_61 (sf_8_21 hx0) c45.1 c45.2 ?_
      refine g_iload_n 2 dX9_comesTo_62 rfl ?_
      obtain ⟨c46, h⟩ := chk_some h
      refine g_iadd dX9_comesTo_63 rfl c46 ?_
      obtain ⟨c47, h⟩ := chk_some h
      refine g_iast dX9_comesTo_64 (sf_8_21 hx0) c47.1 c47.2 ?_
      refine g_nmM (fun M48 eM48 => ?_)
      replace h := nm_s eM48 h
      refine g_pc (pc' := 65) rfl ?_
      cases h
      exact g_return dX9_comesTo_65 rfl ⟨rfl, rfl⟩
def fX9_tellPiles_l7 (x0 : Nat) : Nat → Int → Mem → Option (Int × Mem)
  | 0, _, _ => none
  | n + 1, x1, M => (if (M x0 1) ≤ x1 then some (x1, M) else if 0 ≤ x1 ∧ x1 < 25 then Option.bind (fX9_left x0 (M (x0 + 5) (Int.toNat x1)) M) (fun q4 => nm (q4.1) (fun v5 => Option.bind ((if v5 ≤ 0 then some (q4.2) else if 0 ≤ x1 ∧ x1 < 25 then (if (q4.2 (x0 + 6) (Int.toNat x1)) ≤ 0 then some (q4.2) else if 0 ≤ x1 ∧ x1 < 25 then Option.bind (fX9_comesTo x0 v5 (q4.2 (x0 + 6) (Int.toNat x1)) q4.2) (fun q16 => some (q16.2)) else none) else none) : Option (Mem)) (fun t11 => if -2147483648 ≤ (x1 + 1) ∧ (x1 + 1) ≤ 2147483647 then fX9_tellPiles_l7 x0 n (x1 + 1) t11 else none))) else none)
def fX9_tellPiles (x0 : Nat) (M : Mem) : Option (Int × Mem) := nm (wr M x0 18 0) (fun M1 => Option.bind (fX9_tellPiles_l7 x0 1000 0 M1) (fun z18 => some (0, z18.2)))
set_option maxRecDepth 20000 in
theorem lX9_tellPiles_l7 {X : XC} {d : Nat} {Post : Option XV → Mem → Prop} {x0 : Nat} (hx0 : Sh x0 = (18, 69)) : ∀ (n : Nat) (x1 : Int) (M : Mem) (t0 : Int × Mem), fX9_tellPiles_l7 x0 n x1 M = some t0 → Go X mX9_tellPiles (d + 3) 56 [] [] t0.2 Post → Go X mX9_tellPiles (d + 3) 7 [(0, XR x0), (1, XI x1)] [] M Post := by
  intro n
  induction n with
  | zero => intro _ _ _ h; cases h
  | succ n ih =>
    intro x1 M t0 h K
    unfold fX9_tellPiles_l7 at h
    refine g_iload_n 1 dX9_tellPiles_7 rfl ?_
    refine g_aload_n 0 dX9_tellPiles_8 rfl ?_
    refine g_getI dX9_tellPiles_9 flX9_174 (by decide) rfl hx0 ?_
    refine g_icmp_ge (tgt := 56) dX9_tellPiles_12 (by decide) (fun b2 => ?_) (fun b2 => ?_)
    · replace h := ifp b2 h
      cases h
      exact g_sub [] rfl K
    · replace h := ifn b2 h
      refine g_pc (pc' := 15) rfl ?_
      refine g_aload_n 0 dX9_tellPiles_15 rfl ?_
      refine g_aload_n 0 dX9_tellPiles_16 rfl ?_
      refine g_getR dX9_tellPiles_17 flX9_19 (by decide) rfl hx0 ?_
      refine g_iload_n 1 dX9_tellPiles_20 rfl ?_
      obtain ⟨c3, h⟩ := chk_some h
      refine g_iald dX9_tellPiles_21 (sf_8_4 hx0) c3.1 c3.2 ?_
      obtain ⟨q4, hq4, h⟩ := bnd_some h
      refine v_I (ci := 8) (as := [XI (M (x0 + 5) (Int.toNat x1))]) dX9_tellPiles_22 mlX9_228 mdX9_left mvX9_left rfl hx0 rfl (Nat.le_of_ble_eq_true rfl) (kX9_left hx0 hq4) rfl ?_
      refine g_nmI (fun v5 ev5 => ?_)
      replace h := nm_s ev5 h
      refine g_istore_n (ls' := [(2, XI v5), (0, XR x0), (1, XI x1)]) dX9_tellPiles_25 (by decide) rfl ?_
      refine g_iload_n 0 dX9_tellPiles_26 rfl ?_
      refine g_pc (pc' := 27) rfl ?_
      obtain ⟨t11, ht11, h⟩ := bnd_some h
      have Kt11 : Go X mX9_tellPiles (d + 3) 50 [(0, XR x0), (1, XI x1)] [] t11 Post := by
        obtain ⟨c17, h⟩ := chk_some h
        refine g_iinc (ls' := [(1, XI (x1 + 1)), (0, XR x0)]) 1 dX9_tellPiles_50 rfl rfl c17 (by decide) rfl ?_
        refine g_goto (tgt := 7) dX9_tellPiles_53 (by decide) ?_
        exact g_sub [1, 0] rfl (ih _ _ _ h K)
      refine g_if_le (tgt := 50) dX9_tellPiles_27 (by decide) (fun b12 => ?_) (fun b12 => ?_)
      · replace ht11 := ifp b12 ht11
        cases ht11
        exact g_sub [1, 2] rfl Kt11
      · replace ht11 := ifn b12 ht11
        refine g_pc (pc' := 30) rfl ?_
        refine g_aload_n 1 dX9_tellPiles_30 rfl ?_
        refine g_getR dX9_tellPiles_31 flX9_22 (by decide) rfl hx0 ?_
        refine g_iload_n 2 dX9_tellPiles_34 rfl ?_
        obtain ⟨c13, ht11⟩ := chk_some ht11
        refine g_iald dX9_tellPiles_35 (sf_8_5 hx0) c13.1 c13.2 ?_
        refine g_if_le (tgt := 50) dX9_tellPiles_36 (by decide) (fun b14 => ?_) (fun b14 => ?_)
        · replace ht11 := ifp b14 ht11
          cases ht11
          exact g_sub [1, 2] rfl Kt11
        · replace ht11 := ifn b14 ht11
          refine g_pc (pc' := 39) rfl ?_
          refine g_aload_n 1 dX9_tellPiles_39 rfl ?_
          refine g_iload_n 0 dX9_tellPiles_40 rfl ?_
          refine g_aload_n 1 dX9_tellPiles_41 rfl ?_
          refine g_getR dX9_tellPiles_42 flX9_22 (by decide) rfl hx0 ?_
          refine g_iload_n 2 dX9_tellPiles_45 rfl ?_
          obtain ⟨c15, ht11⟩ := chk_some ht11
          refine g_iald dX9_tellPiles_46 (sf_8_5 hx0) c15.1 c15.2 ?_
          obtain ⟨q16, hq16, ht11⟩ := bnd_some ht11
          refine v_V (ci := 8) (as := [XI v5, XI (q4.2 (x0 + 6) (Int.toNat x1))]) dX9_tellPiles_47 mlX9_231 mdX9_comesTo mvX9_comesTo rfl hx0 rfl (Nat.le_of_ble_eq_true rfl) (kX9_comesTo hx0 hq16) rfl ?_
          cases ht11
          exact g_sub [1, 2] rfl Kt11
set_option maxRecDepth 20000 in
theorem kX9_tellPiles {X : XC} {d : Nat} {x0 : Nat} (hx0 : Sh x0 = (18, 69)) {M : Mem} {q : Int × Mem} (h : fX9_tellPiles x0 M = some q) : Ct X mX9_tellPiles (d + 3) [XR x0] M (pV q) := by
  unfold fX9_tellPiles at h
  refine ct_go (by decide +kernel) (Nat.le_of_ble_eq_true rfl) (ls := [(0, XR x0)]) rfl ?_
  refine g_aload_n 0 dX9_tellPiles_0 rfl ?_
  refine g_iconst (v := 0) dX9_tellPiles_1 rfl (i32l rfl) ?_
  refine g_putI dX9_tellPiles_2 flX9_225 (by decide) rfl hx0 ?_
  refine g_nmM (fun M1 eM1 => ?_)
  replace h := nm_s eM1 h
  refine g_iconst (v := 0) dX9_tellPiles_5 rfl (i32l rfl) ?_
  refine g_istore_n (ls' := [(1, XI 0), (0, XR x0)]) dX9_tellPiles_6 (by decide) rfl ?_
  obtain ⟨z18, hz18, h⟩ := bnd_some h
  refine g_sub (ls' := [(0, XR x0), (1, XI 0)]) [1, 0] rfl ?_
  refine lX9_tellPiles_l7 hx0 1000 _ _ _ hz18 ?_
  cases h
  exact g_return dX9_tellPiles_56 rfl ⟨rfl, rfl⟩
def fX9_many__l4 (x0 : Nat) (x1 : Int) : Nat → Int → Int → Mem → Option (Int × Int × Mem)
  | 0, _, _, _ => none
  | n + 1, x2, x3, M => (if (M x0 0) ≤ x3 then some (x2, x3, M) else if 0 ≤ x3 ∧ x3 < 8 then Option.bind ((if (M (x0 + 25) (Int.toNat x3)) = x1 then if -2147483648 ≤ (x2 + 1) ∧ (x2 + 1) ≤ 2147483647 then some ((x2 + 1)) else none else some (x2)) : Option (Int)) (fun t5 => if -2147483648 ≤ (x3 + 1) ∧ (x3 + 1) ≤ 2147483647 then fX9_many__l4 x0 x1 n t5 (x3 + 1) M else none) else none)
def fX9_many_ (x0 : Nat) (x1 : Int) (M : Mem) : Option (Int × Mem) := Option.bind (fX9_many__l4 x0 x1 1000 0 0 M) (fun z9 => some (z9.1, z9.2.2))
set_option maxRecDepth 20000 in
theorem lX9_many__l4 {X : XC} {d : Nat} {Post : Option XV → Mem → Prop} {x0 : Nat} {x1 : Int} (hx0 : Sh x0 = (18, 69)) : ∀ (n : Nat) (x2 x3 : Int) (M : Mem) (t0 : Int × Int × Mem), fX9_many__l4 x0 x1 n x2 x3 M = some t0 → Go X mX9_many_ d 31 [(2, XI t0.1)] [] t0.2.2 Post → Go X mX9_many_ d 4 [(0, XR x0), (1, XI x1), (2, XI x2), (3, XI x3)] [] M Post := by
  intro n
  induction n with
  | zero => intro _ _ _ _ h; cases h
  | succ n ih =>
    intro x2 x3 M t0 h K
    unfold fX9_many__l4 at h
    refine g_iload_n 3 dX9_many__4 rfl ?_
    refine g_aload_n 0 dX9_many__5 rfl ?_
    refine g_getI dX9_many__6 flX9_167 (by decide) rfl hx0 ?_
    refine g_icmp_ge (tgt := 31) dX9_many__9 (by decide) (fun b1 => ?_) (fun b1 => ?_)
    · replace h := ifp b1 h
      cases h
      exact g_sub [2] rfl K
    · replace h := ifn b1 h
      refine g_pc (pc' := 12) rfl ?_
      refine g_aload_n 0 dX9_many__12 rfl ?_
      refine g_getR dX9_many__13 flX9_62 (by decide) rfl hx0 ?_
      refine g_iload_n 3 dX9_many__16 rfl ?_
      obtain ⟨c2, h⟩ := chk_some h
      refine g_iald dX9_many__17 (sf_8_24 hx0) c2.1 c2.2 ?_
      refine g_iload_n 1 dX9_many__18 rfl ?_
      obtain ⟨t5, ht5, h⟩ := bnd_some h
      have Kt5 : Go X mX9_many_ d 25 [(0, XR x0), (1, XI x1), (2, XI t5), (3, XI x3)] [] M Post := by
        obtain ⟨c8, h⟩ := chk_some h
        refine g_iinc (ls' := [(3, XI (x3 + 1)), (0, XR x0), (1, XI x1), (2, XI t5)]) 3 dX9_many__25 rfl rfl c8 (by decide) rfl ?_
        refine g_goto (tgt := 4) dX9_many__28 (by decide) ?_
        exact g_sub [1, 2, 3, 0] rfl (ih _ _ _ _ h K)
      refine g_icmp_ne (tgt := 25) dX9_many__19 (by decide) (fun b6 => ?_) (fun b6 => ?_)
      · replace ht5 := ifn b6 ht5
        cases ht5
        exact g_sub [0, 1, 2, 3] rfl Kt5
      · replace ht5 := ifp b6 ht5
        refine g_pc (pc' := 22) rfl ?_
        obtain ⟨c7, ht5⟩ := chk_some ht5
        refine g_iinc (ls' := [(2, XI (x2 + 1)), (0, XR x0), (1, XI x1), (3, XI x3)]) 2 dX9_many__22 rfl rfl c7 (by decide) rfl ?_
        cases ht5
        exact g_sub [1, 2, 0, 3] rfl Kt5
set_option maxRecDepth 20000 in
theorem kX9_many_ {X : XC} {d : Nat} {x0 : Nat} {x1 : Int} (hx0 : Sh x0 = (18, 69)) {M : Mem} {q : Int × Mem} (h : fX9_many_ x0 x1 M = some q) : Ct X mX9_many_ d [XR x0, XI x1] M (pI q) := by
  unfold fX9_many_ at h
  refine ct_go (by decide +kernel) (Nat.le_of_ble_eq_true rfl) (ls := [(0, XR x0), (1, XI x1)]) rfl ?_
  refine g_iconst (v := 0) dX9_many__0 rfl (i32l rfl) ?_
  refine g_istore_n (ls' := [(2, XI 0), (0, XR x0), (1, XI x1)]) dX9_many__1 (by decide) rfl ?_
  refine g_iconst (v := 0) dX9_many__2 rfl (i32l rfl) ?_
  refine g_istore_n (ls' := [(3, XI 0), (2, XI 0), (0, XR x0), (1, XI x1)]) dX9_many__3 (by decide) rfl ?_
  obtain ⟨z9, hz9, h⟩ := bnd_some h
  refine g_sub (ls' := [(0, XR x0), (1, XI x1), (2, XI 0), (3, XI 0)]) [2, 3, 1, 0] rfl ?_
  refine lX9_many__l4 hx0 1000 _ _ _ _ hz9 ?_
  refine g_iload_n 0 dX9_many__31 rfl ?_
  cases h
  exact g_ireturn dX9_many__32 rfl ⟨rfl, rfl⟩
def fX9_tellVotes_l2 (x0 : Nat) : Nat → Int → Mem → Option (Int × Mem)
  | 0, _, _ => none
  | n + 1, x1, M => (if (M x0 0) ≤ x1 then some (x1, M) else if 0 ≤ x1 ∧ x1 < 8 then nm (wr M (x0 + 29) (Int.toNat x1) 0) (fun M3 => if -2147483648 ≤ (x1 + 1) ∧ (x1 + 1) ≤ 2147483647 then fX9_tellVotes_l2 x0 n (x1 + 1) M3 else none) else none)
def fX9_tellVotes_l53 (x0 : Nat) (x1 : Int) : Nat → Int → Int → Mem → Option (Int × Int × Mem)
  | 0, _, _, _ => none
  | n + 1, x2, x4, M => if 0 ≤ x1 ∧ x1 < 25 then Option.bind (fX9_lengthOf (M (x0 + 20) (Int.toNat x1)) M) (fun q12 => (if q12.1 ≤ x4 then some (x2, x4, q12.2) else if 0 ≤ x1 ∧ x1 < 25 then Option.bind (fX9_digitAt (q12.2 (x0 + 20) (Int.toNat x1)) x4 q12.2) (fun q15 => if -2147483648 ≤ (q15.1 - 1) ∧ (q15.1 - 1) ≤ 2147483647 then nm ((q15.1 - 1)) (fun v17 => if 0 ≤ v17 ∧ v17 < 8 then if -9223372036854775808 ≤ (x2 * (q15.2 (x0 + 26) (Int.toNat v17))) ∧ (x2 * (q15.2 (x0 + 26) (Int.toNat v17))) ≤ 9223372036854775807 then if 0 ≤ (x2 * (q15.2 (x0 + 26) (Int.toNat v17))) then nm (((x2 * (q15.2 (x0 + 26) (Int.toNat v17))) / 1000000)) (fun v21 => if 0 ≤ v17 ∧ v17 < 8 then if -9223372036854775808 ≤ ((q15.2 (x0 + 29) (Int.toNat v17)) + v21) ∧ ((q15.2 (x0 + 29) (Int.toNat v17)) + v21) ≤ 9223372036854775807 then if 0 ≤ v17 ∧ v17 < 8 then nm (wr q15.2 (x0 + 29) (Int.toNat v17) ((q15.2 (x0 + 29) (Int.toNat v17)) + v21)) (fun M25 => if -9223372036854775808 ≤ (x2 - v21) ∧ (x2 - v21) ≤ 9223372036854775807 then nm ((x2 - v21)) (fun v27 => if -2147483648 ≤ (x4 + 1) ∧ (x4 + 1) ≤ 2147483647 then fX9_tellVotes_l53 x0 x1 n v27 (x4 + 1) M25 else none) else none) else none else none else none) else none else none else none) else none) else none)) else none
def fX9_tellVotes_l30 (x0 : Nat) : Nat → Int → Mem → Option (Int × Mem)
  | 0, _, _ => none
  | n + 1, x1, M => (if (M x0 18) ≤ x1 then some (x1, M) else if 0 ≤ x1 ∧ x1 < 25 then if -9223372036854775808 ≤ (1000000 * (M (x0 + 22) (Int.toNat x1))) ∧ (1000000 * (M (x0 + 22) (Int.toNat x1))) ≤ 9223372036854775807 then nm ((1000000 * (M (x0 + 22) (Int.toNat x1)))) (fun v10 => Option.bind (fX9_tellVotes_l53 x0 x1 1000 v10 0 M) (fun z29 => if -9223372036854775808 ≤ ((z29.2.2 x0 30) + z29.1) ∧ ((z29.2.2 x0 30) + z29.1) ≤ 9223372036854775807 then nm (wr z29.2.2 x0 30 ((z29.2.2 x0 30) + z29.1)) (fun M31 => if -2147483648 ≤ (x1 + 1) ∧ (x1 + 1) ≤ 2147483647 then fX9_tellVotes_l30 x0 n (x1 + 1) M31 else none) else none)) else none else none)
def fX9_tellVotes_l144 (x0 : Nat) : Nat → Int → Mem → Option (Int × Mem)
  | 0, _, _ => none
  | n + 1, x1, M => (if (M x0 0) ≤ x1 then some (x1, M) else if 0 ≤ x1 ∧ x1 < 8 then if -9223372036854775808 ≤ ((M x0 32) + (M (x0 + 29) (Int.toNat x1))) ∧ ((M x0 32) + (M (x0 + 29) (Int.toNat x1))) ≤ 9223372036854775807 then nm (wr M x0 32 ((M x0 32) + (M (x0 + 29) (Int.toNat x1)))) (fun M38 => if -2147483648 ≤ (x1 + 1) ∧ (x1 + 1) ≤ 2147483647 then fX9_tellVotes_l144 x0 n (x1 + 1) M38 else none) else none else none)
def fX9_tellVotes (x0 : Nat) (M : Mem) : Option (Int × Mem) := Option.bind (fX9_tellVotes_l2 x0 1000 0 M) (fun z5 => nm (wr z5.2 x0 30 0) (fun M6 => Option.bind (fX9_tellVotes_l30 x0 1000 0 M6) (fun z33 => nm (wr z33.2 x0 32 0) (fun M34 => Option.bind (fX9_tellVotes_l144 x0 1000 0 M34) (fun z40 => if -2147483648 ≤ ((z40.2 x0 6) + 1) ∧ ((z40.2 x0 6) + 1) ≤ 2147483647 then if 0 ≤ (z40.2 x0 32) ∧ 0 < ((z40.2 x0 6) + 1) then if -9223372036854775808 ≤ (((z40.2 x0 32) / ((z40.2 x0 6) + 1)) + 1) ∧ (((z40.2 x0 32) / ((z40.2 x0 6) + 1)) + 1) ≤ 9223372036854775807 then nm (wr z40.2 x0 29 (((z40.2 x0 32) / ((z40.2 x0 6) + 1)) + 1)) (fun M44 => some (0, M44)) else none else none else none)))))
set_option maxRecDepth 20000 in
theorem lX9_tellVotes_l2 {X : XC} {d : Nat} {Post : Option XV → Mem → Prop} {x0 : Nat} (hx0 : Sh x0 = (18, 69)) : ∀ (n : Nat) (x1 : Int) (M : Mem) (t0 : Int × Mem), fX9_tellVotes_l2 x0 n x1 M = some t0 → Go X mX9_tellVotes (d + 2) 23 [(0, XR x0)] [] t0.2 Post → Go X mX9_tellVotes (d + 2) 2 [(0, XR x0), (1, XI x1)] [] M Post := by
  intro n
  induction n with
  | zero => intro _ _ _ h; cases h
  | succ n ih =>
    intro x1 M t0 h K
    unfold fX9_tellVotes_l2 at h
    refine g_iload_n 1 dX9_tellVotes_2 rfl ?_
    refine g_aload_n 0 dX9_tellVotes_3 rfl ?_
    refine g_getI dX9_tellVotes_4 flX9_167 (by decide) rfl hx0 ?_
    refine g_icmp_ge (tgt := 23) dX9_tellVotes_7 (by decide) (fun b1 => ?_) (fun b1 => ?_)
    · replace h := ifp b1 h
      cases h
      exact g_sub [0] rfl K
    · replace h := ifn b1 h
      refine g_pc (pc' := 10) rfl ?_
      refine g_aload_n 0 dX9_tellVotes_10 rfl ?_
      refine g_getR dX9_tellVotes_11 flX9_74 (by decide) rfl hx0 ?_
      refine g_iload_n 1 dX9_tellVotes_14 rfl ?_
      refine g_lconst (v := 0) dX9_tellVotes_15 rfl (i64l rfl) ?_
      obtain ⟨c2, h⟩ := chk_some h
      refine g_last dX9_tellVotes_16 (sf_8_28 hx0) c2.1 c2.2 ?_
      refine g_nmM (fun M3 eM3 => ?_)
      replace h := nm_s eM3 h
      obtain ⟨c4, h⟩ := chk_some h
      refine g_iinc (ls' := [(1, XI (x1 + 1)), (0, XR x0)]) 1 dX9_tellVotes_17 rfl rfl c4 (by decide) rfl ?_
      refine g_goto (tgt := 2) dX9_tellVotes_20 (by decide) ?_
      exact g_sub [1, 0] rfl (ih _ _ _ h K)
set_option maxRecDepth 20000 in
theorem lX9_tellVotes_l53 {X : XC} {d : Nat} {Post : Option XV → Mem → Prop} {x0 : Nat} {x1 : Int} (hx0 : Sh x0 = (18, 69)) : ∀ (n : Nat) (x2 x4 : Int) (M : Mem) (t0 : Int × Int × Mem), fX9_tellVotes_l53 x0 x1 n x2 x4 M = some t0 → Go X mX9_tellVotes (d + 2) 121 [(0, XR x0), (1, XI x1), (2, XL t0.1)] [] t0.2.2 Post → Go X mX9_tellVotes (d + 2) 53 [(0, XR x0), (1, XI x1), (2, XL x2), (4, XI x4)] [] M Post := by
  intro n
  induction n with
  | zero => intro _ _ _ _ h; cases h
  | succ n ih =>
    intro x2 x4 M t0 h K
    unfold fX9_tellVotes_l53 at h
    refine g_iload 3 dX9_tellVotes_53 rfl ?_
    refine g_aload_n 0 dX9_tellVotes_55 rfl ?_
    refine g_getR dX9_tellVotes_56 flX9_53 (by decide) rfl hx0 ?_
    refine g_iload_n 1 dX9_tellVotes_59 rfl ?_
    obtain ⟨c11, h⟩ := chk_some h
    refine g_iald dX9_tellVotes_60 (sf_8_19 hx0) c11.1 c11.2 ?_
    obtain ⟨q12, hq12, h⟩ := bnd_some h
    refine s_I (as := [XI (M (x0 + 20) (Int.toNat x1))]) dX9_tellVotes_61 mlX9_177 mdX9_lengthOf msX9_lengthOf rfl (Nat.le_of_ble_eq_true rfl) (kX9_lengthOf  hq12) rfl ?_
    refine g_icmp_ge (tgt := 121) dX9_tellVotes_64 (by decide) (fun b13 => ?_) (fun b13 => ?_)
    · replace h := ifp b13 h
      cases h
      exact g_sub [0, 1, 2] rfl K
    · replace h := ifn b13 h
      refine g_pc (pc' := 67) rfl ?_
      refine g_aload_n 0 dX9_tellVotes_67 rfl ?_
      refine g_getR dX9_tellVotes_68 flX9_53 (by decide) rfl hx0 ?_
      refine g_iload_n 1 dX9_tellVotes_71 rfl ?_
      obtain ⟨c14, h⟩ := chk_some h
      refine g_iald dX9_tellVotes_72 (sf_8_19 hx0) c14.1 c14.2 ?_
      refine g_iload 3 dX9_tellVotes_73 rfl ?_
      obtain ⟨q15, hq15, h⟩ := bnd_some h
      refine s_I (as := [XI (q12.2 (x0 + 20) (Int.toNat x1)), XI x4]) dX9_tellVotes_75 mlX9_181 mdX9_digitAt msX9_digitAt rfl (Nat.le_of_ble_eq_true rfl) (kX9_digitAt  hq15) rfl ?_
      refine g_iconst (v := 1) dX9_tellVotes_78 rfl (i32l rfl) ?_
      obtain ⟨c16, h⟩ := chk_some h
      refine g_isub dX9_tellVotes_79 rfl c16 ?_
      refine g_pc (pc' := 80) rfl ?_
      refine g_nmI (fun v17 ev17 => ?_)
      replace h := nm_s ev17 h
      refine g_istore (ls' := [(5, XI v17), (0, XR x0), (1, XI x1), (2, XL x2), (4, XI x4)]) dX9_tellVotes_80 (by decide) rfl ?_
      refine g_lload_n 3 dX9_tellVotes_82 rfl ?_
      refine g_aload_n 1 dX9_tellVotes_83 rfl ?_
      refine g_getR dX9_tellVotes_84 flX9_65 (by decide) rfl hx0 ?_
      refine g_iload 0 dX9_tellVotes_87 rfl ?_
      obtain ⟨c18, h⟩ := chk_some h
      refine g_iald dX9_tellVotes_89 (sf_8_25 hx0) c18.1 c18.2 ?_
      refine g_i2l dX9_tellVotes_90 ?_
      obtain ⟨c19, h⟩ := chk_some h
      refine g_lmul dX9_tellVotes_91 rfl c19 ?_
      refine g_ldc2 (v := 1000000) dX9_tellVotes_92 csX9_200 (by decide +kernel) (i64l rfl) ?_
      refine g_pc (pc' := 95) rfl ?_
      obtain ⟨c20, h⟩ := chk_some h
      refine g_ldiv dX9_tellVotes_95 c20 (by decide) rfl ?_
      refine g_nmL (fun v21 ev21 => ?_)
      replace h := nm_s ev21 h
      refine g_lstore (ls' := [(6, XL v21), (5, XI v17), (0, XR x0), (1, XI x1), (2, XL x2), (4, XI x4)]) dX9_tellVotes_96 (by decide) rfl ?_
      refine g_aload_n 2 dX9_tellVotes_98 rfl ?_
      refine g_getR dX9_tellVotes_99 flX9_74 (by decide) rfl hx0 ?_
      refine g_iload 1 dX9_tellVotes_102 rfl ?_
      refine g_dup2RI dX9_tellVotes_104 ?_
      obtain ⟨c22, h⟩ := chk_some h
      refine g_lald dX9_tellVotes_105 (sf_8_28 hx0) c22.1 c22.2 ?_
      refine g_lload 0 dX9_tellVotes_106 rfl ?_
      obtain ⟨c23, h⟩ := chk_some h
      refine g_ladd dX9_tellVotes_108 rfl c23 ?_
      refine g_pc (pc' := 109) rfl ?_
      obtain ⟨c24, h⟩ := chk_some h
      refine g_last dX9_tellVotes_109 (sf_8_28 hx0) c24.1 c24.2 ?_
      refine g_nmM (fun M25 eM25 => ?_)
      replace h := nm_s eM25 h
      refine g_lload_n 4 dX9_tellVotes_110 rfl ?_
      refine g_lload 0 dX9_tellVotes_111 rfl ?_
      obtain ⟨c26, h⟩ := chk_some h
      refine g_lsub dX9_tellVotes_113 rfl c26 ?_
      refine g_nmL (fun v27 ev27 => ?_)
      replace h := nm_s ev27 h
      refine g_lstore_n (ls' := [(2, XL v27), (6, XL v21), (5, XI v17), (0, XR x0), (1, XI x1), (4, XI x4)]) dX9_tellVotes_114 (by decide) rfl ?_
      obtain ⟨c28, h⟩ := chk_some h
      refine g_iinc (ls' := [(4, XI (x4 + 1)), (2, XL v27), (6, XL v21), (5, XI v17), (0, XR x0), (1, XI x1)]) 5 dX9_tellVotes_115 rfl rfl c28 (by decide) rfl ?_
      refine g_goto (tgt := 53) dX9_tellVotes_118 (by decide) ?_
      exact g_sub [4, 5, 1, 0] rfl (ih _ _ _ _ h K)
set_option maxRecDepth 20000 in
theorem lX9_tellVotes_l30 {X : XC} {d : Nat} {Post : Option XV → Mem → Prop} {x0 : Nat} (hx0 : Sh x0 = (18, 69)) : ∀ (n : Nat) (x1 : Int) (M : Mem) (t0 : Int × Mem), fX9_tellVotes_l30 x0 n x1 M = some t0 → Go X mX9_tellVotes (d + 2) 137 [(0, XR x0)] [] t0.2 Post → Go X mX9_tellVotes (d + 2) 30 [(0, XR x0), (1, XI x1)] [] M Post := by
  intro n
  induction n with
  | zero => intro _ _ _ h; cases h
  | succ n ih =>
    intro x1 M t0 h K
    unfold fX9_tellVotes_l30 at h
    refine g_iload_n 1 dX9_tellVotes_30 rfl ?_
    refine g_aload_n 0 dX9_tellVotes_31 rfl ?_
    refine g_getI dX9_tellVotes_32 flX9_225 (by decide) rfl hx0 ?_
    refine g_icmp_ge (tgt := 137) dX9_tellVotes_35 (by decide) (fun b7 => ?_) (fun b7 => ?_)
    · replace h := ifp b7 h
      cases h
      exact g_sub [0] rfl K
    · replace h := ifn b7 h
      refine g_pc (pc' := 38) rfl ?_
      refine g_ldc2 (v := 1000000) dX9_tellVotes_38 csX9_200 (by decide +kernel) (i64l rfl) ?_
      refine g_aload_n 0 dX9_tellVotes_41 rfl ?_
      refine g_getR dX9_tellVotes_42 flX9_59 (by decide) rfl hx0 ?_
      refine g_iload_n 1 dX9_tellVotes_45 rfl ?_
      obtain ⟨c8, h⟩ := chk_some h
      refine g_iald dX9_tellVotes_46 (sf_8_21 hx0) c8.1 c8.2 ?_
      refine g_i2l dX9_tellVotes_47 ?_
      obtain ⟨c9, h⟩ := chk_some h
      refine g_lmul dX9_tellVotes_48 rfl c9 ?_
      refine g_nmL (fun v10 ev10 => ?_)
      replace h := nm_s ev10 h
      refine g_lstore_n (ls' := [(2, XL v10), (0, XR x0), (1, XI x1)]) dX9_tellVotes_49 (by decide) rfl ?_
      refine g_pc (pc' := 50) rfl ?_
      refine g_iconst (v := 0) dX9_tellVotes_50 rfl (i32l rfl) ?_
      refine g_istore (ls' := [(4, XI 0), (2, XL v10), (0, XR x0), (1, XI x1)]) dX9_tellVotes_51 (by decide) rfl ?_
      obtain ⟨z29, hz29, h⟩ := bnd_some h
      refine g_sub (ls' := [(0, XR x0), (1, XI x1), (2, XL v10), (4, XI 0)]) [2, 3, 1, 0] rfl ?_
      refine lX9_tellVotes_l53 hx0 1000 _ _ _ _ hz29 ?_
      refine g_aload_n 0 dX9_tellVotes_121 rfl ?_
      refine g_dupR dX9_tellVotes_122 ?_
      refine g_getJ dX9_tellVotes_123 flX9_235 (by decide) rfl hx0 ?_
      refine g_lload_n 2 dX9_tellVotes_126 rfl ?_
      obtain ⟨c30, h⟩ := chk_some h
      refine g_ladd dX9_tellVotes_127 rfl c30 ?_
      refine g_putJ dX9_tellVotes_128 flX9_235 (by decide) rfl hx0 ?_
      refine g_nmM (fun M31 eM31 => ?_)
      replace h := nm_s eM31 h
      obtain ⟨c32, h⟩ := chk_some h
      refine g_iinc (ls' := [(1, XI (x1 + 1)), (0, XR x0), (2, XL z29.1)]) 1 dX9_tellVotes_131 rfl rfl c32 (by decide) rfl ?_
      refine g_goto (tgt := 30) dX9_tellVotes_134 (by decide) ?_
      exact g_sub [1, 0] rfl (ih _ _ _ h K)
set_option maxRecDepth 20000 in
theorem lX9_tellVotes_l144 {X : XC} {d : Nat} {Post : Option XV → Mem → Prop} {x0 : Nat} (hx0 : Sh x0 = (18, 69)) : ∀ (n : Nat) (x1 : Int) (M : Mem) (t0 : Int × Mem), fX9_tellVotes_l144 x0 n x1 M = some t0 → Go X mX9_tellVotes (d + 2) 173 [(0, XR x0)] [] t0.2 Post → Go X mX9_tellVotes (d + 2) 144 [(0, XR x0), (1, XI x1)] [] M Post := by
  intro n
  induction n with
  | zero => intro _ _ _ h; cases h
  | succ n ih =>
    intro x1 M t0 h K
    unfold fX9_tellVotes_l144 at h
    refine g_iload_n 1 dX9_tellVotes_144 rfl ?_
    refine g_aload_n 0 dX9_tellVotes_145 rfl ?_
    refine g_getI dX9_tellVotes_146 flX9_167 (by decide) rfl hx0 ?_
    refine g_icmp_ge (tgt := 173) dX9_tellVotes_149 (by decide) (fun b35 => ?_) (fun b35 => ?_)
    · replace h := ifp b35 h
      cases h
      exact g_sub [0] rfl K
    · replace h := ifn b35 h
      refine g_pc (pc' := 152) rfl ?_
      refine g_aload_n 0 dX9_tellVotes_152 rfl ?_
      refine g_dupR dX9_tellVotes_153 ?_
      refine g_getJ dX9_tellVotes_154 flX9_239 (by decide) rfl hx0 ?_
      refine g_aload_n 0 dX9_tellVotes_157 rfl ?_
      refine g_getR dX9_tellVotes_158 flX9_74 (by decide) rfl hx0 ?_
      refine g_iload_n 1 dX9_tellVotes_161 rfl ?_
      obtain ⟨c36, h⟩ := chk_some h
      refine g_lald dX9_tellVotes_162 (sf_8_28 hx0) c36.1 c36.2 ?_
      obtain ⟨c37, h⟩ := chk_some h
      refine g_ladd dX9_tellVotes_163 rfl c37 ?_
      refine g_pc (pc' := 164) rfl ?_
      refine g_putJ dX9_tellVotes_164 flX9_239 (by decide) rfl hx0 ?_
      refine g_nmM (fun M38 eM38 => ?_)
      replace h := nm_s eM38 h
      obtain ⟨c39, h⟩ := chk_some h
      refine g_iinc (ls' := [(1, XI (x1 + 1)), (0, XR x0)]) 1 dX9_tellVotes_167 rfl rfl c39 (by decide) rfl ?_
      refine g_goto (tgt := 144) dX9_tellVotes_170 (by decide) ?_
      exact g_sub [1, 0] rfl (ih _ _ _ h K)
set_option maxRecDepth 20000 in
theorem kX9_tellVotes {X : XC} {d : Nat} {x0 : Nat} (hx0 : Sh x0 = (18, 69)) {M : Mem} {q : Int × Mem} (h : fX9_tellVotes x0 M = some q) : Ct X mX9_tellVotes (d + 2) [XR x0] M (pV q) := by
  unfold fX9_tellVotes at h
  refine ct_go (by decide +kernel) (Nat.le_of_ble_eq_true rfl) (ls := [(0, XR x0)]) rfl ?_
  refine g_iconst (v := 0) dX9_tellVotes_0 rfl (i32l rfl) ?_
  refine g_istore_n (ls' := [(1, XI 0), (0, XR x0)]) dX9_tellVotes_1 (by decide) rfl ?_
  obtain ⟨z5, hz5, h⟩ := bnd_some h
  refine g_sub (ls' := [(0, XR x0), (1, XI 0)]) [1, 0] rfl ?_
  refine lX9_tellVotes_l2 hx0 1000 _ _ _ hz5 ?_
  refine g_aload_n 0 dX9_tellVotes_23 rfl ?_
  refine g_lconst (v := 0) dX9_tellVotes_24 rfl (i64l rfl) ?_
  refine g_putJ dX9_tellVotes_25 flX9_235 (by decide) rfl hx0 ?_
  refine g_nmM (fun M6 eM6 => ?_)
  replace h := nm_s eM6 h
  refine g_iconst (v := 0) dX9_tellVotes_28 rfl (i32l rfl) ?_
  refine g_istore_n (ls' := [(1, XI 0), (0, XR x0)]) dX9_tellVotes_29 (by decide) rfl ?_
  obtain ⟨z33, hz33, h⟩ := bnd_some h
  refine g_sub (ls' := [(0, XR x0), (1, XI 0)]) [1, 0] rfl ?_
  refine lX9_tellVotes_l30 hx0 1000 _ _ _ hz33 ?_
  refine g_aload_n 0 dX9_tellVotes_137 rfl ?_
  refine g_lconst (v := 0) dX9_tellVotes_138 rfl (i64l rfl) ?_
  refine g_putJ dX9_tellVotes_139 flX9_239 (by decide) rfl hx0 ?_
  refine g_nmM (fun M34 eM34 => ?_)
  replace h := nm_s eM34 h
  refine g_iconst (v := 0) dX9_tellVotes_142 rfl (i32l rfl) ?_
  refine g_istore_n (ls' := [(1, XI 0), (0, XR x0)]) dX9_tellVotes_143 (by decide) rfl ?_
  obtain ⟨z40, hz40, h⟩ := bnd_some h
  refine g_sub (ls' := [(0, XR x0), (1, XI 0)]) [1, 0] rfl ?_
  refine lX9_tellVotes_l144 hx0 1000 _ _ _ hz40 ?_
  refine g_aload_n 0 dX9_tellVotes_173 rfl ?_
  refine g_aload_n 0 dX9_tellVotes_174 rfl ?_
  refine g_getJ dX9_tellVotes_175 flX9_239 (by decide) rfl hx0 ?_
  refine g_aload_n 0 dX9_tellVotes_178 rfl ?_
  refine g_getI dX9_tellVotes_179 flX9_25 (by decide) rfl hx0 ?_
  refine g_iconst (v := 1) dX9_tellVotes_182 rfl (i32l rfl) ?_
  obtain ⟨c41, h⟩ := chk_some h
  refine g_iadd dX9_tellVotes_183 rfl c41 ?_
  refine g_i2l dX9_tellVotes_184 ?_
  refine g_pc (pc' := 185) rfl ?_
  obtain ⟨c42, h⟩ := chk_some h
  refine g_ldiv dX9_tellVotes_185 c42.1 c42.2 rfl ?_
  refine g_lconst (v := 1) dX9_tellVotes_186 rfl (i64l rfl) ?_
  obtain ⟨c43, h⟩ := chk_some h
  refine g_ladd dX9_tellVotes_187 rfl c43 ?_
  refine g_putJ dX9_tellVotes_188 flX9_242 (by decide) rfl hx0 ?_
  refine g_nmM (fun M44 eM44 => ?_)
  replace h := nm_s eM44 h
  cases h
  exact g_return dX9_tellVotes_191 rfl ⟨rfl, rfl⟩
def fX9_isAhead (x0 : Nat) (x1 : Int) (x2 : Int) (M : Mem) : Option (Int × Mem) := if 0 ≤ x1 ∧ x1 < 8 then if 0 ≤ x2 ∧ x2 < 8 then Option.bind ((if (M (x0 + 29) (Int.toNat x2)) < (M (x0 + 29) (Int.toNat x1)) then some (1, M) else if 0 ≤ x1 ∧ x1 < 8 then if 0 ≤ x2 ∧ x2 < 8 then (if (M (x0 + 29) (Int.toNat x1)) = (M (x0 + 29) (Int.toNat x2)) then Option.bind (fX9_lotOf x0 x1 M) (fun q15 => Option.bind (fX9_lotOf x0 x2 q15.2) (fun q16 => (if q16.1 ≤ q15.1 then some (0, q16.2) else some (1, q16.2)))) else some (0, M)) else none else none) : Option (Int × Mem)) (fun t10 => if t10.1 = 0 ∨ t10.1 = 1 then some (t10.1, t10.2) else none) else none else none
set_option maxRecDepth 20000 in
theorem kX9_isAhead {X : XC} {d : Nat} {x0 : Nat} {x1 : Int} {x2 : Int} (hx0 : Sh x0 = (18, 69)) {M : Mem} {q : Int × Mem} (h : fX9_isAhead x0 x1 x2 M = some q) : Ct X mX9_isAhead (d + 1) [XR x0, XI x1, XI x2] M (pI q) := by
  unfold fX9_isAhead at h
  refine ct_go (by decide +kernel) (Nat.le_of_ble_eq_true rfl) (ls := [(0, XR x0), (1, XI x1), (2, XI x2)]) rfl ?_
  refine g_aload_n 0 dX9_isAhead_0 rfl ?_
  refine g_getR dX9_isAhead_1 flX9_74 (by decide) rfl hx0 ?_
  refine g_iload_n 1 dX9_isAhead_4 rfl ?_
  obtain ⟨c1, h⟩ := chk_some h
  refine g_lald dX9_isAhead_5 (sf_8_28 hx0) c1.1 c1.2 ?_
  refine g_aload_n 0 dX9_isAhead_6 rfl ?_
  refine g_getR dX9_isAhead_7 flX9_74 (by decide) rfl hx0 ?_
  refine g_iload_n 2 dX9_isAhead_10 rfl ?_
  obtain ⟨c2, h⟩ := chk_some h
  refine g_lald dX9_isAhead_11 (sf_8_28 hx0) c2.1 c2.2 ?_
  refine g_pc (pc' := 12) rfl ?_
  obtain ⟨t10, ht10, h⟩ := bnd_some h
  have Kt10 : Go X mX9_isAhead (d + 1) 50 [] [XI t10.1] t10.2 (pI q) := by
    obtain ⟨cz, h⟩ := chk_some h
    cases h
    exact g_zreturn dX9_isAhead_50 rfl cz ⟨rfl, rfl⟩
  refine g_lcmp_gt (tgt := 45) dX9_isAhead_12 dX9_isAhead_13 (by decide) (fun b11 => ?_) (fun b11 => ?_)
  · replace ht10 := ifp b11 ht10
    refine g_iconst (v := 1) dX9_isAhead_45 rfl (i32l rfl) ?_
    refine g_goto (tgt := 50) dX9_isAhead_46 (by decide) ?_
    cases ht10
    exact g_sub [] rfl Kt10
  · replace ht10 := ifn b11 ht10
    refine g_pc (pc' := 16) rfl ?_
    refine g_aload_n 0 dX9_isAhead_16 rfl ?_
    refine g_getR dX9_isAhead_17 flX9_74 (by decide) rfl hx0 ?_
    refine g_iload_n 1 dX9_isAhead_20 rfl ?_
    obtain ⟨c12, ht10⟩ := chk_some ht10
    refine g_lald dX9_isAhead_21 (sf_8_28 hx0) c12.1 c12.2 ?_
    refine g_aload_n 0 dX9_isAhead_22 rfl ?_
    refine g_getR dX9_isAhead_23 flX9_74 (by decide) rfl hx0 ?_
    refine g_iload_n 2 dX9_isAhead_26 rfl ?_
    obtain ⟨c13, ht10⟩ := chk_some ht10
    refine g_lald dX9_isAhead_27 (sf_8_28 hx0) c13.1 c13.2 ?_
    refine g_pc (pc' := 28) rfl ?_
    refine g_lcmp_ne (tgt := 49) dX9_isAhead_28 dX9_isAhead_29 (by decide) (fun b14 => ?_) (fun b14 => ?_)
    · replace ht10 := ifn b14 ht10
      refine g_iconst (v := 0) dX9_isAhead_49 rfl (i32l rfl) ?_
      cases ht10
      exact g_sub [] rfl Kt10
    · replace ht10 := ifp b14 ht10
      refine g_pc (pc' := 32) rfl ?_
      refine g_aload_n 0 dX9_isAhead_32 rfl ?_
      refine g_iload_n 1 dX9_isAhead_33 rfl ?_
      obtain ⟨q15, hq15, ht10⟩ := bnd_some ht10
      refine v_I (ci := 8) (as := [XI x1]) dX9_isAhead_34 mlX9_245 mdX9_lotOf mvX9_lotOf rfl hx0 rfl (Nat.le_of_ble_eq_true rfl) (kX9_lotOf hx0 hq15) rfl ?_
      refine g_aload_n 0 dX9_isAhead_37 rfl ?_
      refine g_iload_n 2 dX9_isAhead_38 rfl ?_
      obtain ⟨q16, hq16, ht10⟩ := bnd_some ht10
      refine v_I (ci := 8) (as := [XI x2]) dX9_isAhead_39 mlX9_245 mdX9_lotOf mvX9_lotOf rfl hx0 rfl (Nat.le_of_ble_eq_true rfl) (kX9_lotOf hx0 hq16) rfl ?_
      refine g_icmp_ge (tgt := 49) dX9_isAhead_42 (by decide) (fun b17 => ?_) (fun b17 => ?_)
      · replace ht10 := ifp b17 ht10
        refine g_iconst (v := 0) dX9_isAhead_49 rfl (i32l rfl) ?_
        cases ht10
        exact g_sub [] rfl Kt10
      · replace ht10 := ifn b17 ht10
        refine g_pc (pc' := 45) rfl ?_
        refine g_iconst (v := 1) dX9_isAhead_45 rfl (i32l rfl) ?_
        refine g_goto (tgt := 50) dX9_isAhead_46 (by decide) ?_
        cases ht10
        exact g_sub [] rfl Kt10
def fX9_becomesElected (x0 : Nat) (x1 : Int) (M : Mem) : Option (Int × Mem) := if 0 ≤ x1 ∧ x1 < 8 then nm (wr M (x0 + 25) (Int.toNat x1) 2) (fun M2 => if 0 ≤ x1 ∧ x1 < 8 then nm (wr M2 (x0 + 27) (Int.toNat x1) (M2 x0 22)) (fun M4 => if 0 ≤ (M4 x0 22) ∧ (M4 x0 22) < 9 then if 0 ≤ (M4 x0 22) ∧ (M4 x0 22) < 9 then nm (wr M4 (x0 + 42) (Int.toNat (M4 x0 22)) (bOr (M4 (x0 + 42) (Int.toNat (M4 x0 22))) (bShl 1 x1))) (fun M7 => some (0, M7)) else none else none) else none) else none
set_option maxRecDepth 20000 in
theorem kX9_becomesElected {X : XC} {d : Nat} {x0 : Nat} {x1 : Int} (hx0 : Sh x0 = (18, 69)) {M : Mem} {q : Int × Mem} (h : fX9_becomesElected x0 x1 M = some q) : Ct X mX9_becomesElected d [XR x0, XI x1] M (pV q) := by
  unfold fX9_becomesElected at h
  refine ct_go (by decide +kernel) (Nat.le_of_ble_eq_true rfl) (ls := [(0, XR x0), (1, XI x1)]) rfl ?_
  refine g_aload_n 0 dX9_becomesElected_0 rfl ?_
  refine g_getR dX9_becomesElected_1 flX9_62 (by decide) rfl hx0 ?_
  refine g_iload_n 1 dX9_becomesElected_4 rfl ?_
  refine g_iconst (v := 2) dX9_becomesElected_5 rfl (i32l rfl) ?_
  obtain ⟨c1, h⟩ := chk_some h
  refine g_iast dX9_becomesElected_6 (sf_8_24 hx0) c1.1 c1.2 ?_
  refine g_nmM (fun M2 eM2 => ?_)
  replace h := nm_s eM2 h
  refine g_aload_n 0 dX9_becomesElected_7 rfl ?_
  refine g_getR dX9_becomesElected_8 flX9_68 (by decide) rfl hx0 ?_
  refine g_iload_n 1 dX9_becomesElected_11 rfl ?_
  refine g_pc (pc' := 12) rfl ?_
  refine g_aload_n 0 dX9_becomesElected_12 rfl ?_
  refine g_getI dX9_becomesElected_13 flX9_248 (by decide) rfl hx0 ?_
  obtain ⟨c3, h⟩ := chk_some h
  refine g_iast dX9_becomesElected_16 (sf_8_26 hx0) c3.1 c3.2 ?_
  refine g_nmM (fun M4 eM4 => ?_)
  replace h := nm_s eM4 h
  refine g_aload_n 0 dX9_becomesElected_17 rfl ?_
  refine g_getR dX9_becomesElected_18 flX9_102 (by decide) rfl hx0 ?_
  refine g_aload_n 0 dX9_becomesElected_21 rfl ?_
  refine g_getI dX9_becomesElected_22 flX9_248 (by decide) rfl hx0 ?_
  refine g_dup2RI dX9_becomesElected_25 ?_
  obtain ⟨c5, h⟩ := chk_some h
  refine g_iald dX9_becomesElected_26 (sf_8_41 hx0) c5.1 c5.2 ?_
  refine g_pc (pc' := 27) rfl ?_
  refine g_iconst (v := 1) dX9_becomesElected_27 rfl (i32l rfl) ?_
  refine g_iload_n 1 dX9_becomesElected_28 rfl ?_
  refine g_ishl dX9_becomesElected_29 ?_
  refine g_ior dX9_becomesElected_30 ?_
  obtain ⟨c6, h⟩ := chk_some h
  refine g_iast dX9_becomesElected_31 (sf_8_41 hx0) c6.1 c6.2 ?_
  refine g_nmM (fun M7 eM7 => ?_)
  replace h := nm_s eM7 h
  cases h
  exact g_return dX9_becomesElected_32 rfl ⟨rfl, rfl⟩
def fX9_lines_l34 (x0 : Nat) (x1 : Int) : Nat → Int → Mem → Option (Int × Mem)
  | 0, _, _ => none
  | n + 1, x2, M => (if x2 ≤ 0 then some (x2, M) else if -2147483648 ≤ (x2 - 1) ∧ (x2 - 1) ≤ 2147483647 then if 0 ≤ (x2 - 1) ∧ (x2 - 1) < 8 then if 0 ≤ (M (x0 + 28) (Int.toNat (x2 - 1))) ∧ (M (x0 + 28) (Int.toNat (x2 - 1))) < 8 then (if (M (x0 + 27) (Int.toNat (M (x0 + 28) (Int.toNat (x2 - 1))))) = (M x0 22) then if -2147483648 ≤ (x2 - 1) ∧ (x2 - 1) ≤ 2147483647 then if 0 ≤ (x2 - 1) ∧ (x2 - 1) < 8 then Option.bind (fX9_isAhead x0 x1 (M (x0 + 28) (Int.toNat (x2 - 1))) M) (fun q21 => (if q21.1 = 0 then some (x2, q21.2) else if -2147483648 ≤ (x2 - 1) ∧ (x2 - 1) ≤ 2147483647 then if 0 ≤ (x2 - 1) ∧ (x2 - 1) < 8 then if 0 ≤ x2 ∧ x2 < 8 then nm (wr q21.2 (x0 + 28) (Int.toNat x2) (q21.2 (x0 + 28) (Int.toNat (x2 - 1)))) (fun M26 => if -2147483648 ≤ (x2 + (-1)) ∧ (x2 + (-1)) ≤ 2147483647 then fX9_lines_l34 x0 x1 n (x2 + (-1)) M26 else none) else none else none else none)) else none else none else some (x2, M)) else none else none else none)
def fX9_lines_l2 (x0 : Nat) : Nat → Int → Mem → Option (Int × Mem)
  | 0, _, _ => none
  | n + 1, x1, M => (if (M x0 0) ≤ x1 then some (x1, M) else if 0 ≤ (M x0 22) ∧ (M x0 22) < 9 then Option.bind (fX9_has (M (x0 + 42) (Int.toNat (M x0 22))) x1 M) (fun q3 => Option.bind ((if q3.1 = 0 then some (q3.2) else nm ((q3.2 x0 23)) (fun v13 => Option.bind (fX9_lines_l34 x0 x1 1000 v13 q3.2) (fun z28 => if 0 ≤ z28.1 ∧ z28.1 < 8 then nm (wr z28.2 (x0 + 28) (Int.toNat z28.1) x1) (fun M30 => if -2147483648 ≤ ((M30 x0 23) + 1) ∧ ((M30 x0 23) + 1) ≤ 2147483647 then nm (wr M30 x0 23 ((M30 x0 23) + 1)) (fun M32 => some (M32)) else none) else none))) : Option (Mem)) (fun t11 => if -2147483648 ≤ (x1 + 1) ∧ (x1 + 1) ≤ 2147483647 then fX9_lines_l2 x0 n (x1 + 1) t11 else none)) else none)
def fX9_lines (x0 : Nat) (M : Mem) : Option (Int × Mem) := Option.bind (fX9_lines_l2 x0 1000 0 M) (fun z34 => some (0, z34.2))
set_option maxRecDepth 20000 in
theorem lX9_lines_l34 {X : XC} {d : Nat} {Post : Option XV → Mem → Prop} {x0 : Nat} {x1 : Int} (hx0 : Sh x0 = (18, 69)) : ∀ (n : Nat) (x2 : Int) (M : Mem) (t0 : Int × Mem), fX9_lines_l34 x0 x1 n x2 M = some t0 → Go X mX9_lines (d + 2) 94 [(0, XR x0), (1, XI x1), (2, XI t0.1)] [] t0.2 Post → Go X mX9_lines (d + 2) 34 [(0, XR x0), (1, XI x1), (2, XI x2)] [] M Post := by
  intro n
  induction n with
  | zero => intro _ _ _ h; cases h
  | succ n ih =>
    intro x2 M t0 h K
    unfold fX9_lines_l34 at h
    refine g_iload_n 2 dX9_lines_34 rfl ?_
    refine g_if_le (tgt := 94) dX9_lines_35 (by decide) (fun b14 => ?_) (fun b14 => ?_)
    · replace h := ifp b14 h
      cases h
      exact g_sub [0, 1, 2] rfl K
    · replace h := ifn b14 h
      refine g_pc (pc' := 38) rfl ?_
      refine g_aload_n 0 dX9_lines_38 rfl ?_
      refine g_getR dX9_lines_39 flX9_68 (by decide) rfl hx0 ?_
      refine g_aload_n 0 dX9_lines_42 rfl ?_
      refine g_getR dX9_lines_43 flX9_71 (by decide) rfl hx0 ?_
      refine g_iload_n 2 dX9_lines_46 rfl ?_
      refine g_iconst (v := 1) dX9_lines_47 rfl (i32l rfl) ?_
      obtain ⟨c15, h⟩ := chk_some h
      refine g_isub dX9_lines_48 rfl c15 ?_
      obtain ⟨c16, h⟩ := chk_some h
      refine g_iald dX9_lines_49 (sf_8_27 hx0) c16.1 c16.2 ?_
      refine g_pc (pc' := 50) rfl ?_
      obtain ⟨c17, h⟩ := chk_some h
      refine g_iald dX9_lines_50 (sf_8_26 hx0) c17.1 c17.2 ?_
      refine g_aload_n 0 dX9_lines_51 rfl ?_
      refine g_getI dX9_lines_52 flX9_248 (by decide) rfl hx0 ?_
      refine g_icmp_ne (tgt := 94) dX9_lines_55 (by decide) (fun b18 => ?_) (fun b18 => ?_)
      · replace h := ifn b18 h
        cases h
        exact g_sub [0, 1, 2] rfl K
      · replace h := ifp b18 h
        refine g_pc (pc' := 58) rfl ?_
        refine g_aload_n 0 dX9_lines_58 rfl ?_
        refine g_iload_n 1 dX9_lines_59 rfl ?_
        refine g_aload_n 0 dX9_lines_60 rfl ?_
        refine g_getR dX9_lines_61 flX9_71 (by decide) rfl hx0 ?_
        refine g_iload_n 2 dX9_lines_64 rfl ?_
        refine g_iconst (v := 1) dX9_lines_65 rfl (i32l rfl) ?_
        obtain ⟨c19, h⟩ := chk_some h
        refine g_isub dX9_lines_66 rfl c19 ?_
        obtain ⟨c20, h⟩ := chk_some h
        refine g_iald dX9_lines_67 (sf_8_27 hx0) c20.1 c20.2 ?_
        refine g_pc (pc' := 68) rfl ?_
        obtain ⟨q21, hq21, h⟩ := bnd_some h
        refine v_I (ci := 8) (as := [XI x1, XI (M (x0 + 28) (Int.toNat (x2 - 1)))]) dX9_lines_68 mlX9_254 mdX9_isAhead mvX9_isAhead rfl hx0 rfl (Nat.le_of_ble_eq_true rfl) (kX9_isAhead hx0 hq21) rfl ?_
        refine g_if_eq (tgt := 94) dX9_lines_71 (by decide) (fun b22 => ?_) (fun b22 => ?_)
        · replace h := ifp b22 h
          cases h
          exact g_sub [0, 1, 2] rfl K
        · replace h := ifn b22 h
          refine g_pc (pc' := 74) rfl ?_
          refine g_aload_n 0 dX9_lines_74 rfl ?_
          refine g_getR dX9_lines_75 flX9_71 (by decide) rfl hx0 ?_
          refine g_iload_n 2 dX9_lines_78 rfl ?_
          refine g_aload_n 0 dX9_lines_79 rfl ?_
          refine g_getR dX9_lines_80 flX9_71 (by decide) rfl hx0 ?_
          refine g_iload_n 2 dX9_lines_83 rfl ?_
          refine g_iconst (v := 1) dX9_lines_84 rfl (i32l rfl) ?_
          obtain ⟨c23, h⟩ := chk_some h
          refine g_isub dX9_lines_85 rfl c23 ?_
          refine g_pc (pc' := 86) rfl ?_
          obtain ⟨c24, h⟩ := chk_some h
          refine g_iald dX9_lines_86 (sf_8_27 hx0) c24.1 c24.2 ?_
          obtain ⟨c25, h⟩ := chk_some h
          refine g_iast dX9_lines_87 (sf_8_27 hx0) c25.1 c25.2 ?_
          refine g_nmM (fun M26 eM26 => ?_)
          replace h := nm_s eM26 h
          obtain ⟨c27, h⟩ := chk_some h
          refine g_iinc (ls' := [(2, XI (x2 + (-1))), (0, XR x0), (1, XI x1)]) 2 dX9_lines_88 rfl rfl c27 (by decide) rfl ?_
          refine g_goto (tgt := 34) dX9_lines_91 (by decide) ?_
          exact g_sub [1, 2, 0] rfl (ih _ _ _ h K)
set_option maxRecDepth 20000 in
theorem lX9_lines_l2 {X : XC} {d : Nat} {Post : Option XV → Mem → Prop} {x0 : Nat} (hx0 : Sh x0 = (18, 69)) : ∀ (n : Nat) (x1 : Int) (M : Mem) (t0 : Int × Mem), fX9_lines_l2 x0 n x1 M = some t0 → Go X mX9_lines (d + 2) 117 [] [] t0.2 Post → Go X mX9_lines (d + 2) 2 [(0, XR x0), (1, XI x1)] [] M Post := by
  intro n
  induction n with
  | zero => intro _ _ _ h; cases h
  | succ n ih =>
    intro x1 M t0 h K
    unfold fX9_lines_l2 at h
    refine g_iload_n 1 dX9_lines_2 rfl ?_
    refine g_aload_n 0 dX9_lines_3 rfl ?_
    refine g_getI dX9_lines_4 flX9_167 (by decide) rfl hx0 ?_
    refine g_icmp_ge (tgt := 117) dX9_lines_7 (by decide) (fun b1 => ?_) (fun b1 => ?_)
    · replace h := ifp b1 h
      cases h
      exact g_sub [] rfl K
    · replace h := ifn b1 h
      refine g_pc (pc' := 10) rfl ?_
      refine g_aload_n 0 dX9_lines_10 rfl ?_
      refine g_getR dX9_lines_11 flX9_102 (by decide) rfl hx0 ?_
      refine g_aload_n 0 dX9_lines_14 rfl ?_
      refine g_getI dX9_lines_15 flX9_248 (by decide) rfl hx0 ?_
      obtain ⟨c2, h⟩ := chk_some h
      refine g_iald dX9_lines_18 (sf_8_41 hx0) c2.1 c2.2 ?_
      refine g_iload_n 1 dX9_lines_19 rfl ?_
      obtain ⟨q3, hq3, h⟩ := bnd_some h
      refine s_I (as := [XI (M (x0 + 42) (Int.toNat (M x0 22))), XI x1]) dX9_lines_20 mlX9_192 mdX9_has msX9_has rfl (Nat.le_of_ble_eq_true rfl) (kX9_has  hq3) rfl ?_
      obtain ⟨t11, ht11, h⟩ := bnd_some h
      have Kt11 : Go X mX9_lines (d + 2) 111 [(0, XR x0), (1, XI x1)] [] t11 Post := by
        obtain ⟨c33, h⟩ := chk_some h
        refine g_iinc (ls' := [(1, XI (x1 + 1)), (0, XR x0)]) 1 dX9_lines_111 rfl rfl c33 (by decide) rfl ?_
        refine g_goto (tgt := 2) dX9_lines_114 (by decide) ?_
        exact g_sub [1, 0] rfl (ih _ _ _ h K)
      refine g_if_ne (tgt := 29) dX9_lines_23 (by decide) (fun b12 => ?_) (fun b12 => ?_)
      · replace ht11 := ifn b12 ht11
        refine g_aload_n 0 dX9_lines_29 rfl ?_
        refine g_getI dX9_lines_30 flX9_251 (by decide) rfl hx0 ?_
        refine g_nmI (fun v13 ev13 => ?_)
        replace ht11 := nm_s ev13 ht11
        refine g_istore_n (ls' := [(2, XI v13), (0, XR x0), (1, XI x1)]) dX9_lines_33 (by decide) rfl ?_
        obtain ⟨z28, hz28, ht11⟩ := bnd_some ht11
        refine g_sub (ls' := [(0, XR x0), (1, XI x1), (2, XI v13)]) [1, 2, 0] rfl ?_
        refine lX9_lines_l34 hx0 1000 _ _ _ hz28 ?_
        refine g_aload_n 0 dX9_lines_94 rfl ?_
        refine g_getR dX9_lines_95 flX9_71 (by decide) rfl hx0 ?_
        refine g_iload_n 2 dX9_lines_98 rfl ?_
        refine g_iload_n 1 dX9_lines_99 rfl ?_
        obtain ⟨c29, ht11⟩ := chk_some ht11
        refine g_iast dX9_lines_100 (sf_8_27 hx0) c29.1 c29.2 ?_
        refine g_nmM (fun M30 eM30 => ?_)
        replace ht11 := nm_s eM30 ht11
        refine g_aload_n 0 dX9_lines_101 rfl ?_
        refine g_dupR dX9_lines_102 ?_
        refine g_getI dX9_lines_103 flX9_251 (by decide) rfl hx0 ?_
        refine g_pc (pc' := 106) rfl ?_
        refine g_iconst (v := 1) dX9_lines_106 rfl (i32l rfl) ?_
        obtain ⟨c31, ht11⟩ := chk_some ht11
        refine g_iadd dX9_lines_107 rfl c31 ?_
        refine g_putI dX9_lines_108 flX9_251 (by decide) rfl hx0 ?_
        refine g_nmM (fun M32 eM32 => ?_)
        replace ht11 := nm_s eM32 ht11
        cases ht11
        exact g_sub [0, 1] rfl Kt11
      · replace ht11 := ifp b12 ht11
        refine g_pc (pc' := 26) rfl ?_
        refine g_goto (tgt := 111) dX9_lines_26 (by decide) ?_
        cases ht11
        exact g_sub [0, 1] rfl Kt11
set_option maxRecDepth 20000 in
theorem kX9_lines {X : XC} {d : Nat} {x0 : Nat} (hx0 : Sh x0 = (18, 69)) {M : Mem} {q : Int × Mem} (h : fX9_lines x0 M = some q) : Ct X mX9_lines (d + 2) [XR x0] M (pV q) := by
  unfold fX9_lines at h
  refine ct_go (by decide +kernel) (Nat.le_of_ble_eq_true rfl) (ls := [(0, XR x0)]) rfl ?_
  refine g_iconst (v := 0) dX9_lines_0 rfl (i32l rfl) ?_
  refine g_istore_n (ls' := [(1, XI 0), (0, XR x0)]) dX9_lines_1 (by decide) rfl ?_
  obtain ⟨z34, hz34, h⟩ := bnd_some h
  refine g_sub (ls' := [(0, XR x0), (1, XI 0)]) [1, 0] rfl ?_
  refine lX9_lines_l2 hx0 1000 _ _ _ hz34 ?_
  cases h
  exact g_return dX9_lines_117 rfl ⟨rfl, rfl⟩
def fX9_endsStage_l2 (x0 : Nat) (x1 : Int) : Nat → Int → Mem → Option (Int × Mem)
  | 0, _, _ => none
  | n + 1, x2, M => (if (M x0 0) ≤ x2 then some (x2, M) else if -2147483648 ≤ (8 * (M x0 22)) ∧ (8 * (M x0 22)) ≤ 2147483647 then if -2147483648 ≤ ((8 * (M x0 22)) + x2) ∧ ((8 * (M x0 22)) + x2) ≤ 2147483647 then if 0 ≤ x2 ∧ x2 < 8 then if 0 ≤ ((8 * (M x0 22)) + x2) ∧ ((8 * (M x0 22)) + x2) < 72 then nm (wr M (x0 + 34) (Int.toNat ((8 * (M x0 22)) + x2)) (M (x0 + 29) (Int.toNat x2))) (fun M6 => if -2147483648 ≤ (8 * (M6 x0 22)) ∧ (8 * (M6 x0 22)) ≤ 2147483647 then if -2147483648 ≤ ((8 * (M6 x0 22)) + x2) ∧ ((8 * (M6 x0 22)) + x2) ≤ 2147483647 then if 0 ≤ x2 ∧ x2 < 8 then if 0 ≤ ((8 * (M6 x0 22)) + x2) ∧ ((8 * (M6 x0 22)) + x2) < 72 then nm (wr M6 (x0 + 39) (Int.toNat ((8 * (M6 x0 22)) + x2)) (M6 (x0 + 26) (Int.toNat x2))) (fun M11 => if -2147483648 ≤ (x2 + 1) ∧ (x2 + 1) ≤ 2147483647 then fX9_endsStage_l2 x0 x1 n (x2 + 1) M11 else none) else none else none else none else none) else none else none else none else none)
def fX9_endsStage (x0 : Nat) (x1 : Int) (M : Mem) : Option (Int × Mem) := Option.bind (fX9_endsStage_l2 x0 x1 1000 0 M) (fun z13 => if 0 ≤ (z13.2 x0 22) ∧ (z13.2 x0 22) < 9 then nm (wr z13.2 (x0 + 35) (Int.toNat (z13.2 x0 22)) (z13.2 x0 29)) (fun M15 => if 0 ≤ (M15 x0 22) ∧ (M15 x0 22) < 9 then nm (wr M15 (x0 + 36) (Int.toNat (M15 x0 22)) (M15 x0 30)) (fun M17 => if 0 ≤ (M17 x0 22) ∧ (M17 x0 22) < 9 then nm (wr M17 (x0 + 37) (Int.toNat (M17 x0 22)) (M17 x0 31)) (fun M19 => if 0 ≤ (M19 x0 22) ∧ (M19 x0 22) < 9 then nm (wr M19 (x0 + 38) (Int.toNat (M19 x0 22)) (M19 x0 32)) (fun M21 => if 0 ≤ (M21 x0 22) ∧ (M21 x0 22) < 9 then nm (wr M21 (x0 + 40) (Int.toNat (M21 x0 22)) x1) (fun M23 => Option.bind (fX9_lines x0 M23) (fun q24 => some (0, q24.2))) else none) else none) else none) else none) else none)
set_option maxRecDepth 20000 in
theorem lX9_endsStage_l2 {X : XC} {d : Nat} {Post : Option XV → Mem → Prop} {x0 : Nat} {x1 : Int} (hx0 : Sh x0 = (18, 69)) : ∀ (n : Nat) (x2 : Int) (M : Mem) (t0 : Int × Mem), fX9_endsStage_l2 x0 x1 n x2 M = some t0 → Go X mX9_endsStage (d + 3) 56 [(0, XR x0), (1, XI x1)] [] t0.2 Post → Go X mX9_endsStage (d + 3) 2 [(0, XR x0), (1, XI x1), (2, XI x2)] [] M Post := by
  intro n
  induction n with
  | zero => intro _ _ _ h; cases h
  | succ n ih =>
    intro x2 M t0 h K
    unfold fX9_endsStage_l2 at h
    refine g_iload_n 2 dX9_endsStage_2 rfl ?_
    refine g_aload_n 0 dX9_endsStage_3 rfl ?_
    refine g_getI dX9_endsStage_4 flX9_167 (by decide) rfl hx0 ?_
    refine g_icmp_ge (tgt := 56) dX9_endsStage_7 (by decide) (fun b1 => ?_) (fun b1 => ?_)
    · replace h := ifp b1 h
      cases h
      exact g_sub [0, 1] rfl K
    · replace h := ifn b1 h
      refine g_pc (pc' := 10) rfl ?_
      refine g_aload_n 0 dX9_endsStage_10 rfl ?_
      refine g_getR dX9_endsStage_11 flX9_78 (by decide) rfl hx0 ?_
      refine g_bip dX9_endsStage_14 rfl ?_
      refine g_aload_n 0 dX9_endsStage_16 rfl ?_
      refine g_getI dX9_endsStage_17 flX9_248 (by decide) rfl hx0 ?_
      obtain ⟨c2, h⟩ := chk_some h
      refine g_imul dX9_endsStage_20 rfl c2 ?_
      refine g_iload_n 2 dX9_endsStage_21 rfl ?_
      obtain ⟨c3, h⟩ := chk_some h
      refine g_iadd dX9_endsStage_22 rfl c3 ?_
      refine g_pc (pc' := 23) rfl ?_
      refine g_aload_n 0 dX9_endsStage_23 rfl ?_
      refine g_getR dX9_endsStage_24 flX9_74 (by decide) rfl hx0 ?_
      refine g_iload_n 2 dX9_endsStage_27 rfl ?_
      obtain ⟨c4, h⟩ := chk_some h
      refine g_lald dX9_endsStage_28 (sf_8_28 hx0) c4.1 c4.2 ?_
      obtain ⟨c5, h⟩ := chk_some h
      refine g_last dX9_endsStage_29 (sf_8_33 hx0) c5.1 c5.2 ?_
      refine g_nmM (fun M6 eM6 => ?_)
      replace h := nm_s eM6 h
      refine g_aload_n 0 dX9_endsStage_30 rfl ?_
      refine g_getR dX9_endsStage_31 flX9_93 (by decide) rfl hx0 ?_
      refine g_bip dX9_endsStage_34 rfl ?_
      refine g_aload_n 0 dX9_endsStage_36 rfl ?_
      refine g_pc (pc' := 37) rfl ?_
      refine g_getI dX9_endsStage_37 flX9_248 (by decide) rfl hx0 ?_
      obtain ⟨c7, h⟩ := chk_some h
      refine g_imul dX9_endsStage_40 rfl c7 ?_
      refine g_iload_n 2 dX9_endsStage_41 rfl ?_
      obtain ⟨c8, h⟩ := chk_some h
      refine g_iadd dX9_endsStage_42 rfl c8 ?_
      refine g_aload_n 0 dX9_endsStage_43 rfl ?_
      refine g_getR dX9_endsStage_44 flX9_65 (by decide) rfl hx0 ?_
      refine g_iload_n 2 dX9_endsStage_47 rfl ?_
      obtain ⟨c9, h⟩ := chk_some h
      refine g_iald dX9_endsStage_48 (sf_8_25 hx0) c9.1 c9.2 ?_
      obtain ⟨c10, h⟩ := chk_some h
      refine g_iast dX9_endsStage_49 (sf_8_38 hx0) c10.1 c10.2 ?_
      refine g_nmM (fun M11 eM11 => ?_)
      replace h := nm_s eM11 h
      refine g_pc (pc' := 50) rfl ?_
      obtain ⟨c12, h⟩ := chk_some h
      refine g_iinc (ls' := [(2, XI (x2 + 1)), (0, XR x0), (1, XI x1)]) 2 dX9_endsStage_50 rfl rfl c12 (by decide) rfl ?_
      refine g_goto (tgt := 2) dX9_endsStage_53 (by decide) ?_
      exact g_sub [1, 2, 0] rfl (ih _ _ _ h K)
set_option maxRecDepth 20000 in
theorem kX9_endsStage {X : XC} {d : Nat} {x0 : Nat} {x1 : Int} (hx0 : Sh x0 = (18, 69)) {M : Mem} {q : Int × Mem} (h : fX9_endsStage x0 x1 M = some q) : Ct X mX9_endsStage (d + 3) [XR x0, XI x1] M (pV q) := by
  unfold fX9_endsStage at h
  refine ct_go (by decide +kernel) (Nat.le_of_ble_eq_true rfl) (ls := [(0, XR x0), (1, XI x1)]) rfl ?_
  refine g_iconst (v := 0) dX9_endsStage_0 rfl (i32l rfl) ?_
  refine g_istore_n (ls' := [(2, XI 0), (0, XR x0), (1, XI x1)]) dX9_endsStage_1 (by decide) rfl ?_
  obtain ⟨z13, hz13, h⟩ := bnd_some h
  refine g_sub (ls' := [(0, XR x0), (1, XI x1), (2, XI 0)]) [1, 2, 0] rfl ?_
  refine lX9_endsStage_l2 hx0 1000 _ _ _ hz13 ?_
  refine g_aload_n 0 dX9_endsStage_56 rfl ?_
  refine g_getR dX9_endsStage_57 flX9_81 (by decide) rfl hx0 ?_
  refine g_aload_n 0 dX9_endsStage_60 rfl ?_
  refine g_getI dX9_endsStage_61 flX9_248 (by decide) rfl hx0 ?_
  refine g_aload_n 0 dX9_endsStage_64 rfl ?_
  refine g_getJ dX9_endsStage_65 flX9_242 (by decide) rfl hx0 ?_
  obtain ⟨c14, h⟩ := chk_some h
  refine g_last dX9_endsStage_68 (sf_8_34 hx0) c14.1 c14.2 ?_
  refine g_nmM (fun M15 eM15 => ?_)
  replace h := nm_s eM15 h
  refine g_aload_n 0 dX9_endsStage_69 rfl ?_
  refine g_pc (pc' := 70) rfl ?_
  refine g_getR dX9_endsStage_70 flX9_84 (by decide) rfl hx0 ?_
  refine g_aload_n 0 dX9_endsStage_73 rfl ?_
  refine g_getI dX9_endsStage_74 flX9_248 (by decide) rfl hx0 ?_
  refine g_aload_n 0 dX9_endsStage_77 rfl ?_
  refine g_getJ dX9_endsStage_78 flX9_235 (by decide) rfl hx0 ?_
  obtain ⟨c16, h⟩ := chk_some h
  refine g_last dX9_endsStage_81 (sf_8_35 hx0) c16.1 c16.2 ?_
  refine g_nmM (fun M17 eM17 => ?_)
  replace h := nm_s eM17 h
  refine g_aload_n 0 dX9_endsStage_82 rfl ?_
  refine g_getR dX9_endsStage_83 flX9_87 (by decide) rfl hx0 ?_
  refine g_aload_n 0 dX9_endsStage_86 rfl ?_
  refine g_pc (pc' := 87) rfl ?_
  refine g_getI dX9_endsStage_87 flX9_248 (by decide) rfl hx0 ?_
  refine g_aload_n 0 dX9_endsStage_90 rfl ?_
  refine g_getJ dX9_endsStage_91 flX9_260 (by decide) rfl hx0 ?_
  obtain ⟨c18, h⟩ := chk_some h
  refine g_last dX9_endsStage_94 (sf_8_36 hx0) c18.1 c18.2 ?_
  refine g_nmM (fun M19 eM19 => ?_)
  replace h := nm_s eM19 h
  refine g_aload_n 0 dX9_endsStage_95 rfl ?_
  refine g_getR dX9_endsStage_96 flX9_90 (by decide) rfl hx0 ?_
  refine g_aload_n 0 dX9_endsStage_99 rfl ?_
  refine g_getI dX9_endsStage_100 flX9_248 (by decide) rfl hx0 ?_
  refine g_aload_n 0 dX9_endsStage_103 rfl ?_
  refine g_pc (pc' := 104) rfl ?_
  refine g_getJ dX9_endsStage_104 flX9_239 (by decide) rfl hx0 ?_
  obtain ⟨c20, h⟩ := chk_some h
  refine g_last dX9_endsStage_107 (sf_8_37 hx0) c20.1 c20.2 ?_
  refine g_nmM (fun M21 eM21 => ?_)
  replace h := nm_s eM21 h
  refine g_aload_n 0 dX9_endsStage_108 rfl ?_
  refine g_getR dX9_endsStage_109 flX9_96 (by decide) rfl hx0 ?_
  refine g_aload_n 0 dX9_endsStage_112 rfl ?_
  refine g_getI dX9_endsStage_113 flX9_248 (by decide) rfl hx0 ?_
  refine g_iload_n 1 dX9_endsStage_116 rfl ?_
  obtain ⟨c22, h⟩ := chk_some h
  refine g_iast dX9_endsStage_117 (sf_8_39 hx0) c22.1 c22.2 ?_
  refine g_nmM (fun M23 eM23 => ?_)
  replace h := nm_s eM23 h
  refine g_aload_n 0 dX9_endsStage_118 rfl ?_
  refine g_pc (pc' := 119) rfl ?_
  obtain ⟨q24, hq24, h⟩ := bnd_some h
  refine v_V (ci := 8) (as := []) dX9_endsStage_119 mlX9_282 mdX9_lines mvX9_lines rfl hx0 rfl (Nat.le_of_ble_eq_true rfl) (kX9_lines hx0 hq24) rfl ?_
  cases h
  exact g_return dX9_endsStage_122 rfl ⟨rfl, rfl⟩
end
