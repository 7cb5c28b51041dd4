section
set_option maxHeartbeats 8000000 in
set_option maxRecDepth 20000 in
theorem kX9_set {X : XC} {d : Nat} {x0 : Nat} {x1 : Int} {x2 : Int} (hx0 : Sh x0 = (18, 69)) {M : Mem} {q : Int × Mem} (h : fX9_set x0 x1 x2 M = some q) : Ct X mX9_set (d + 1) [XR x0, XI x1, XI x2] M (pI q) := by
  unfold fX9_set at h
  refine ct_go (by decide +kernel) (Nat.le_of_ble_eq_true rfl) (ls := [(0, XR x0), (1, XI x1), (2, XI x2)]) rfl ?_
  refine g_iload_n 1 dX9_set_0 rfl ?_
  refine g_i2l dX9_set_1 ?_
  refine g_lconst (v := 0) dX9_set_2 rfl (i64l rfl) ?_
  refine g_ldc2 (v := 2) dX9_set_3 csX9_214 (by decide +kernel) (i64l rfl) ?_
  obtain ⟨q1, hq1, h⟩ := bnd_some h
  refine s_I (as := [XL x1, XL 0, XL 2]) dX9_set_6 mlX9_170 mdX9_in msX9_in rfl (Nat.le_of_ble_eq_true rfl) (kX9_in  hq1) rfl ?_
  refine g_if_ne (tgt := 14) dX9_set_9 (by decide) (fun b2 => ?_) (fun b2 => ?_)
  · replace h := ifn b2 h
    refine g_iload_n 1 dX9_set_14 rfl ?_
    refine g_if_ne (tgt := 33) dX9_set_15 (by decide) (fun b3 => ?_) (fun b3 => ?_)
    · replace h := ifn b3 h
      refine g_iload_n 1 dX9_set_33 rfl ?_
      refine g_iconst (v := 1) dX9_set_34 rfl (i32l rfl) ?_
      refine g_icmp_ne (tgt := 53) dX9_set_35 (by decide) (fun b4 => ?_) (fun b4 => ?_)
      · replace h := ifn b4 h
        refine g_iload_n 2 dX9_set_53 rfl ?_
        refine g_i2l dX9_set_54 ?_
        refine g_lconst (v := 1) dX9_set_55 rfl (i64l rfl) ?_
        refine g_ldc2 (v := 20) dX9_set_56 csX9_220 (by decide +kernel) (i64l rfl) ?_
        obtain ⟨q5, hq5, h⟩ := bnd_some h
        refine s_I (as := [XL x2, XL 1, XL 20]) dX9_set_59 mlX9_170 mdX9_in msX9_in rfl (Nat.le_of_ble_eq_true rfl) (kX9_in  hq5) rfl ?_
        refine g_if_ne (tgt := 68) dX9_set_62 (by decide) (fun b6 => ?_) (fun b6 => ?_)
        · replace h := ifn b6 h
          refine g_iload_n 1 dX9_set_68 rfl ?_
          obtain ⟨t9, ht9, h⟩ := bnd_some h
          have Kt9 : Go X mX9_set (d + 1) 95 [(0, XR x0), (1, XI x1), (2, XI x2)] [XI t9] q5.2 (pI q) := by
            refine g_istore_n (ls' := [(3, XI t9), (0, XR x0), (1, XI x1), (2, XI x2)]) dX9_set_95 (by decide) rfl ?_
            refine g_iload_n 2 dX9_set_96 rfl ?_
            obtain ⟨t14, ht14, h⟩ := bnd_some h
            have Kt14 : Go X mX9_set (d + 1) 105 [(0, XR x0), (1, XI x1), (2, XI x2), (3, XI t9)] [] t14 (pI q) := by
              refine g_iload_n 1 dX9_set_105 rfl ?_
              refine g_iconst (v := 1) dX9_set_106 rfl (i32l rfl) ?_
              obtain ⟨t19, ht19, h⟩ := bnd_some h
              have Kt19 : Go X mX9_set (d + 1) 115 [(0, XR x0), (1, XI x1), (2, XI x2), (3, XI t9)] [] t19 (pI q) := by
                refine g_iload_n 1 dX9_set_115 rfl ?_
                refine g_iconst (v := 2) dX9_set_116 rfl (i32l rfl) ?_
                obtain ⟨t24, ht24, h⟩ := bnd_some h
                have Kt24 : Go X mX9_set (d + 1) 125 [(3, XI t9)] [] t24 (pI q) := by
                  refine g_iload_n 0 dX9_set_125 rfl ?_
                  cases h
                  exact g_ireturn dX9_set_126 rfl ⟨rfl, rfl⟩
                refine g_icmp_ne (tgt := 125) dX9_set_117 (by decide) (fun b25 => ?_) (fun b25 => ?_)
                · replace ht24 := ifn b25 ht24
                  cases ht24
                  exact g_sub [3] rfl Kt24
                · replace ht24 := ifp b25 ht24
                  refine g_pc (pc' := 120) rfl ?_
                  refine g_aload_n 0 dX9_set_120 rfl ?_
                  refine g_iload_n 2 dX9_set_121 rfl ?_
                  refine g_putI dX9_set_122 flX9_32 (by decide) rfl hx0 ?_
                  refine g_nmM (fun M26 eM26 => ?_)
                  replace ht24 := nm_s eM26 ht24
                  cases ht24
                  exact g_sub [3] rfl Kt24
              refine g_icmp_ne (tgt := 115) dX9_set_107 (by decide) (fun b20 => ?_) (fun b20 => ?_)
              · replace ht19 := ifn b20 ht19
                cases ht19
                exact g_sub [0, 1, 2, 3] rfl Kt19
              · replace ht19 := ifp b20 ht19
                refine g_pc (pc' := 110) rfl ?_
                refine g_aload_n 0 dX9_set_110 rfl ?_
                refine g_iload_n 2 dX9_set_111 rfl ?_
                refine g_putI dX9_set_112 flX9_29 (by decide) rfl hx0 ?_
                refine g_nmM (fun M21 eM21 => ?_)
                replace ht19 := nm_s eM21 ht19
                cases ht19
                exact g_sub [0, 1, 2, 3] rfl Kt19
            refine g_if_ne (tgt := 105) dX9_set_97 (by decide) (fun b15 => ?_) (fun b15 => ?_)
            · replace ht14 := ifn b15 ht14
              cases ht14
              exact g_sub [1, 2, 3, 0] rfl Kt14
            · replace ht14 := ifp b15 ht14
              refine g_pc (pc' := 100) rfl ?_
              refine g_aload_n 1 dX9_set_100 rfl ?_
              refine g_iload_n 3 dX9_set_101 rfl ?_
              refine g_putI dX9_set_102 flX9_25 (by decide) rfl hx0 ?_
              refine g_nmM (fun M16 eM16 => ?_)
              replace ht14 := nm_s eM16 ht14
              cases ht14
              exact g_sub [1, 2, 3, 0] rfl Kt14
          refine g_if_ne (tgt := 79) dX9_set_69 (by decide) (fun b10 => ?_) (fun b10 => ?_)
          · replace ht9 := ifn b10 ht9
            refine g_iload_n 1 dX9_set_79 rfl ?_
            refine g_iconst (v := 1) dX9_set_80 rfl (i32l rfl) ?_
            refine g_icmp_ne (tgt := 91) dX9_set_81 (by decide) (fun b11 => ?_) (fun b11 => ?_)
            · replace ht9 := ifn b11 ht9
              refine g_aload_n 0 dX9_set_91 rfl ?_
              refine g_getI dX9_set_92 flX9_32 (by decide) rfl hx0 ?_
              cases ht9
              exact g_sub [0, 1, 2] rfl Kt9
            · replace ht9 := ifp b11 ht9
              refine g_pc (pc' := 84) rfl ?_
              refine g_aload_n 0 dX9_set_84 rfl ?_
              refine g_getI dX9_set_85 flX9_29 (by decide) rfl hx0 ?_
              refine g_goto (tgt := 95) dX9_set_88 (by decide) ?_
              cases ht9
              exact g_sub [0, 1, 2] rfl Kt9
          · replace ht9 := ifp b10 ht9
            refine g_pc (pc' := 72) rfl ?_
            refine g_aload_n 0 dX9_set_72 rfl ?_
            refine g_getI dX9_set_73 flX9_25 (by decide) rfl hx0 ?_
            refine g_goto (tgt := 95) dX9_set_76 (by decide) ?_
            cases ht9
            exact g_sub [0, 1, 2] rfl Kt9
        · replace h := ifp b6 h
          refine g_pc (pc' := 65) rfl ?_
          refine g_bip dX9_set_65 rfl ?_
          cases h
          exact g_ireturn dX9_set_67 rfl ⟨rfl, rfl⟩
      · replace h := ifp b4 h
        refine g_pc (pc' := 38) rfl ?_
        refine g_iload_n 2 dX9_set_38 rfl ?_
        refine g_i2l dX9_set_39 ?_
        refine g_lconst (v := 0) dX9_set_40 rfl (i64l rfl) ?_
        refine g_ldc2 (v := 1000000000) dX9_set_41 csX9_218 (by decide +kernel) (i64l rfl) ?_
        obtain ⟨q27, hq27, h⟩ := bnd_some h
        refine s_I (as := [XL x2, XL 0, XL 1000000000]) dX9_set_44 mlX9_170 mdX9_in msX9_in rfl (Nat.le_of_ble_eq_true rfl) (kX9_in  hq27) rfl ?_
        refine g_if_ne (tgt := 68) dX9_set_47 (by decide) (fun b28 => ?_) (fun b28 => ?_)
        · replace h := ifn b28 h
          refine g_iload_n 1 dX9_set_68 rfl ?_
          obtain ⟨t31, ht31, h⟩ := bnd_some h
          have Kt31 : Go X mX9_set (d + 1) 95 [(0, XR x0), (1, XI x1), (2, XI x2)] [XI t31] q27.2 (pI q) := by
            refine g_istore_n (ls' := [(3, XI t31), (0, XR x0), (1, XI x1), (2, XI x2)]) dX9_set_95 (by decide) rfl ?_
            refine g_iload_n 2 dX9_set_96 rfl ?_
            obtain ⟨t36, ht36, h⟩ := bnd_some h
            have Kt36 : Go X mX9_set (d + 1) 105 [(0, XR x0), (1, XI x1), (2, XI x2), (3, XI t31)] [] t36 (pI q) := by
              refine g_iload_n 1 dX9_set_105 rfl ?_
              refine g_iconst (v := 1) dX9_set_106 rfl (i32l rfl) ?_
              obtain ⟨t41, ht41, h⟩ := bnd_some h
              have Kt41 : Go X mX9_set (d + 1) 115 [(0, XR x0), (1, XI x1), (2, XI x2), (3, XI t31)] [] t41 (pI q) := by
                refine g_iload_n 1 dX9_set_115 rfl ?_
                refine g_iconst (v := 2) dX9_set_116 rfl (i32l rfl) ?_
                obtain ⟨t46, ht46, h⟩ := bnd_some h
                have Kt46 : Go X mX9_set (d + 1) 125 [(3, XI t31)] [] t46 (pI q) := by
                  refine g_iload_n 0 dX9_set_125 rfl ?_
                  cases h
                  exact g_ireturn dX9_set_126 rfl ⟨rfl, rfl⟩
                refine g_icmp_ne (tgt := 125) dX9_set_117 (by decide) (fun b47 => ?_) (fun b47 => ?_)
                · replace ht46 := ifn b47 ht46
                  cases ht46
                  exact g_sub [3] rfl Kt46
                · replace ht46 := ifp b47 ht46
                  refine g_pc (pc' := 120) rfl ?_
                  refine g_aload_n 0 dX9_set_120 rfl ?_
                  refine g_iload_n 2 dX9_set_121 rfl ?_
                  refine g_putI dX9_set_122 flX9_32 (by decide) rfl hx0 ?_
                  refine g_nmM (fun M48 eM48 => ?_)
                  replace ht46 := nm_s eM48 ht46
                  cases ht46
                  exact g_sub [3] rfl Kt46
              refine g_icmp_ne (tgt := 115) dX9_set_107 (by decide) (fun b42 => ?_) (fun b42 => ?_)
              · replace ht41 := ifn b42 ht41
                cases ht41
                exact g_sub [0, 1, 2, 3] rfl Kt41
              · replace ht41 := ifp b42 ht41
                refine g_pc (pc' := 110) rfl ?_
                refine g_aload_n 0 dX9_set_110 rfl ?_
                refine g_iload_n 2 dX9_set_111 rfl ?_
                refine g_putI dX9_set_112 flX9_29 (by decide) rfl hx0 ?_
                refine g_nmM (fun M43 eM43 => ?_)
                replace ht41 := nm_s eM43 ht41
                cases ht41
                exact g_sub [0, 1, 2, 3] rfl Kt41
            refine g_if_ne (tgt := 105) dX9_set_97 (by decide) (fun b37 => ?_) (fun b37 => ?_)
            · replace ht36 := ifn b37 ht36
              cases ht36
              exact g_sub [1, 2, 3, 0] rfl Kt36
            · replace ht36 := ifp b37 ht36
              refine g_pc (pc' := 100) rfl ?_
              refine g_aload_n 1 dX9_set_100 rfl ?_
              refine g_iload_n 3 dX9_set_101 rfl ?_
              refine g_putI dX9_set_102 flX9_25 (by decide) rfl hx0 ?_
              refine g_nmM (fun M38 eM38 => ?_)
              replace ht36 := nm_s eM38 ht36
              cases ht36
              exact g_sub [1, 2, 3, 0] rfl Kt36
          refine g_if_ne (tgt := 79) dX9_set_69 (by decide) (fun b32 => ?_) (fun b32 => ?_)
          · replace ht31 := ifn b32 ht31
            refine g_iload_n 1 dX9_set_79 rfl ?_
            refine g_iconst (v := 1) dX9_set_80 rfl (i32l rfl) ?_
            refine g_icmp_ne (tgt := 91) dX9_set_81 (by decide) (fun b33 => ?_) (fun b33 => ?_)
            · replace ht31 := ifn b33 ht31
              refine g_aload_n 0 dX9_set_91 rfl ?_
              refine g_getI dX9_set_92 flX9_32 (by decide) rfl hx0 ?_
              cases ht31
              exact g_sub [0, 1, 2] rfl Kt31
            · replace ht31 := ifp b33 ht31
              refine g_pc (pc' := 84) rfl ?_
              refine g_aload_n 0 dX9_set_84 rfl ?_
              refine g_getI dX9_set_85 flX9_29 (by decide) rfl hx0 ?_
              refine g_goto (tgt := 95) dX9_set_88 (by decide) ?_
              cases ht31
              exact g_sub [0, 1, 2] rfl Kt31
          · replace ht31 := ifp b32 ht31
            refine g_pc (pc' := 72) rfl ?_
            refine g_aload_n 0 dX9_set_72 rfl ?_
            refine g_getI dX9_set_73 flX9_25 (by decide) rfl hx0 ?_
            refine g_goto (tgt := 95) dX9_set_76 (by decide) ?_
            cases ht31
            exact g_sub [0, 1, 2] rfl Kt31
        · replace h := ifp b28 h
          refine g_pc (pc' := 50) rfl ?_
          refine g_goto (tgt := 65) dX9_set_50 (by decide) ?_
          refine g_bip dX9_set_65 rfl ?_
          cases h
          exact g_ireturn dX9_set_67 rfl ⟨rfl, rfl⟩
    · replace h := ifp b3 h
      refine g_pc (pc' := 18) rfl ?_
      refine g_iload_n 2 dX9_set_18 rfl ?_
      refine g_i2l dX9_set_19 ?_
      refine g_lconst (v := 1) dX9_set_20 rfl (i64l rfl) ?_
      refine g_ldc2 (v := 7) dX9_set_21 csX9_216 (by decide +kernel) (i64l rfl) ?_
      obtain ⟨q49, hq49, h⟩ := bnd_some h
      refine s_I (as := [XL x2, XL 1, XL 7]) dX9_set_24 mlX9_170 mdX9_in msX9_in rfl (Nat.le_of_ble_eq_true rfl) (kX9_in  hq49) rfl ?_
      refine g_if_ne (tgt := 68) dX9_set_27 (by decide) (fun b50 => ?_) (fun b50 => ?_)
      · replace h := ifn b50 h
        refine g_iload_n 1 dX9_set_68 rfl ?_
        obtain ⟨t53, ht53, h⟩ := bnd_some h
        have Kt53 : Go X mX9_set (d + 1) 95 [(0, XR x0), (1, XI x1), (2, XI x2)] [XI t53] q49.2 (pI q) := by
          refine g_istore_n (ls' := [(3, XI t53), (0, XR x0), (1, XI x1), (2, XI x2)]) dX9_set_95 (by decide) rfl ?_
          refine g_iload_n 2 dX9_set_96 rfl ?_
          obtain ⟨t58, ht58, h⟩ := bnd_some h
          have Kt58 : Go X mX9_set (d + 1) 105 [(0, XR x0), (1, XI x1), (2, XI x2), (3, XI t53)] [] t58 (pI q) := by
            refine g_iload_n 1 dX9_set_105 rfl ?_
            refine g_iconst (v := 1) dX9_set_106 rfl (i32l rfl) ?_
            obtain ⟨t63, ht63, h⟩ := bnd_some h
            have Kt63 : Go X mX9_set (d + 1) 115 [(0, XR x0), (1, XI x1), (2, XI x2), (3, XI t53)] [] t63 (pI q) := by
              refine g_iload_n 1 dX9_set_115 rfl ?_
              refine g_iconst (v := 2) dX9_set_116 rfl (i32l rfl) ?_
              obtain ⟨t68, ht68, h⟩ := bnd_some h
              have Kt68 : Go X mX9_set (d + 1) 125 [(3, XI t53)] [] t68 (pI q) := by
                refine g_iload_n 0 dX9_set_125 rfl ?_
                cases h
                exact g_ireturn dX9_set_126 rfl ⟨rfl, rfl⟩
              refine g_icmp_ne (tgt := 125) dX9_set_117 (by decide) (fun b69 => ?_) (fun b69 => ?_)
              · replace ht68 := ifn b69 ht68
                cases ht68
                exact g_sub [3] rfl Kt68
              · replace ht68 := ifp b69 ht68
                refine g_pc (pc' := 120) rfl ?_
                refine g_aload_n 0 dX9_set_120 rfl ?_
                refine g_iload_n 2 dX9_set_121 rfl ?_
                refine g_putI dX9_set_122 flX9_32 (by decide) rfl hx0 ?_
                refine g_nmM (fun M70 eM70 => ?_)
                replace ht68 := nm_s eM70 ht68
                cases ht68
                exact g_sub [3] rfl Kt68
            refine g_icmp_ne (tgt := 115) dX9_set_107 (by decide) (fun b64 => ?_) (fun b64 => ?_)
            · replace ht63 := ifn b64 ht63
              cases ht63
              exact g_sub [0, 1, 2, 3] rfl Kt63
            · replace ht63 := ifp b64 ht63
              refine g_pc (pc' := 110) rfl ?_
              refine g_aload_n 0 dX9_set_110 rfl ?_
              refine g_iload_n 2 dX9_set_111 rfl ?_
              refine g_putI dX9_set_112 flX9_29 (by decide) rfl hx0 ?_
              refine g_nmM (fun M65 eM65 => ?_)
              replace ht63 := nm_s eM65 ht63
              cases ht63
              exact g_sub [0, 1, 2, 3] rfl Kt63
          refine g_if_ne (tgt := 105) dX9_set_97 (by decide) (fun b59 => ?_) (fun b59 => ?_)
          · replace ht58 := ifn b59 ht58
            cases ht58
            exact g_sub [1, 2, 3, 0] rfl Kt58
          · replace ht58 := ifp b59 ht58
            refine g_pc (pc' := 100) rfl ?_
            refine g_aload_n 1 dX9_set_100 rfl ?_
            refine g_iload_n 3 dX9_set_101 rfl ?_
            refine g_putI dX9_set_102 flX9_25 (by decide) rfl hx0 ?_
            refine g_nmM (fun M60 eM60 => ?_)
            replace ht58 := nm_s eM60 ht58
            cases ht58
            exact g_sub [1, 2, 3, 0] rfl Kt58
        refine g_if_ne (tgt := 79) dX9_set_69 (by decide) (fun b54 => ?_) (fun b54 => ?_)
        · replace ht53 := ifn b54 ht53
          refine g_iload_n 1 dX9_set_79 rfl ?_
          refine g_iconst (v := 1) dX9_set_80 rfl (i32l rfl) ?_
          refine g_icmp_ne (tgt := 91) dX9_set_81 (by decide) (fun b55 => ?_) (fun b55 => ?_)
          · replace ht53 := ifn b55 ht53
            refine g_aload_n 0 dX9_set_91 rfl ?_
            refine g_getI dX9_set_92 flX9_32 (by decide) rfl hx0 ?_
            cases ht53
            exact g_sub [0, 1, 2] rfl Kt53
          · replace ht53 := ifp b55 ht53
            refine g_pc (pc' := 84) rfl ?_
            refine g_aload_n 0 dX9_set_84 rfl ?_
            refine g_getI dX9_set_85 flX9_29 (by decide) rfl hx0 ?_
            refine g_goto (tgt := 95) dX9_set_88 (by decide) ?_
            cases ht53
            exact g_sub [0, 1, 2] rfl Kt53
        · replace ht53 := ifp b54 ht53
          refine g_pc (pc' := 72) rfl ?_
          refine g_aload_n 0 dX9_set_72 rfl ?_
          refine g_getI dX9_set_73 flX9_25 (by decide) rfl hx0 ?_
          refine g_goto (tgt := 95) dX9_set_76 (by decide) ?_
          cases ht53
          exact g_sub [0, 1, 2] rfl Kt53
      · replace h := ifp b50 h
        refine g_pc (pc' := 30) rfl ?_
        refine g_goto (tgt := 65) dX9_set_30 (by decide) ?_
        refine g_bip dX9_set_65 rfl ?_
        cases h
        exact g_ireturn dX9_set_67 rfl ⟨rfl, rfl⟩
  · replace h := ifp b2 h
    refine g_pc (pc' := 12) rfl ?_
    refine g_iconst (v := -1) dX9_set_12 rfl (i32l rfl) ?_
    cases h
    exact g_ireturn dX9_set_13 rfl ⟨rfl, rfl⟩
set_option maxHeartbeats 8000000 in
set_option maxRecDepth 20000 in
theorem kX9_swap {X : XC} {d : Nat} {x0 : Nat} {x1 : Int} {x2 : Int} (hx0 : Sh x0 = (18, 69)) {M : Mem} {q : Int × Mem} (h : fX9_swap x0 x1 x2 M = some q) : Ct X mX9_swap (d + 2) [XR x0, XI x1, XI x2] M (pI q) := by
  unfold fX9_swap at h
  refine ct_go (by decide +kernel) (Nat.le_of_ble_eq_true rfl) (ls := [(0, XR x0), (1, XI x1), (2, XI x2)]) rfl ?_
  refine g_aload_n 0 dX9_swap_0 rfl ?_
  refine g_iload_n 1 dX9_swap_1 rfl ?_
  obtain ⟨q1, hq1, h⟩ := bnd_some h
  refine v_I (ci := 8) (as := [XI x1]) dX9_swap_2 mlX9_211 mdX9_isOne mvX9_isOne rfl hx0 rfl (Nat.le_of_ble_eq_true rfl) (kX9_isOne hx0 hq1) rfl ?_
  refine g_if_eq (tgt := 21) dX9_swap_5 (by decide) (fun b2 => ?_) (fun b2 => ?_)
  · replace h := ifp b2 h
    refine g_iconst (v := -1) dX9_swap_21 rfl (i32l rfl) ?_
    cases h
    exact g_ireturn dX9_swap_22 rfl ⟨rfl, rfl⟩
  · replace h := ifn b2 h
    refine g_pc (pc' := 8) rfl ?_
    refine g_aload_n 0 dX9_swap_8 rfl ?_
    refine g_iload_n 2 dX9_swap_9 rfl ?_
    obtain ⟨q3, hq3, h⟩ := bnd_some h
    refine v_I (ci := 8) (as := [XI x2]) dX9_swap_10 mlX9_211 mdX9_isOne mvX9_isOne rfl hx0 rfl (Nat.le_of_ble_eq_true rfl) (kX9_isOne hx0 hq3) rfl ?_
    refine g_if_eq (tgt := 21) dX9_swap_13 (by decide) (fun b4 => ?_) (fun b4 => ?_)
    · replace h := ifp b4 h
      refine g_iconst (v := -1) dX9_swap_21 rfl (i32l rfl) ?_
      cases h
      exact g_ireturn dX9_swap_22 rfl ⟨rfl, rfl⟩
    · replace h := ifn b4 h
      refine g_pc (pc' := 16) rfl ?_
      refine g_iload_n 1 dX9_swap_16 rfl ?_
      refine g_iload_n 2 dX9_swap_17 rfl ?_
      refine g_icmp_ne (tgt := 23) dX9_swap_18 (by decide) (fun b5 => ?_) (fun b5 => ?_)
      · replace h := ifn b5 h
        refine g_aload_n 0 dX9_swap_23 rfl ?_
        refine g_getR dX9_swap_24 flX9_15 (by decide) rfl hx0 ?_
        refine g_iload_n 1 dX9_swap_27 rfl ?_
        obtain ⟨c6, h⟩ := chk_some h
        refine g_iald dX9_swap_28 (sf_8_3 hx0) c6.1 c6.2 ?_
        refine g_nmI (fun v7 ev7 => ?_)
        replace h := nm_s ev7 h
        refine g_istore_n (ls' := [(3, XI v7), (0, XR x0), (1, XI x1), (2, XI x2)]) dX9_swap_29 (by decide) rfl ?_
        refine g_aload_n 1 dX9_swap_30 rfl ?_
        refine g_getR dX9_swap_31 flX9_15 (by decide) rfl hx0 ?_
        refine g_iload_n 2 dX9_swap_34 rfl ?_
        refine g_pc (pc' := 35) rfl ?_
        refine g_aload_n 1 dX9_swap_35 rfl ?_
        refine g_getR dX9_swap_36 flX9_15 (by decide) rfl hx0 ?_
        refine g_iload_n 3 dX9_swap_39 rfl ?_
        obtain ⟨c8, h⟩ := chk_some h
        refine g_iald dX9_swap_40 (sf_8_3 hx0) c8.1 c8.2 ?_
        obtain ⟨c9, h⟩ := chk_some h
        refine g_iast dX9_swap_41 (sf_8_3 hx0) c9.1 c9.2 ?_
        refine g_nmM (fun M10 eM10 => ?_)
        replace h := nm_s eM10 h
        refine g_aload_n 1 dX9_swap_42 rfl ?_
        refine g_getR dX9_swap_43 flX9_15 (by decide) rfl hx0 ?_
        refine g_iload_n 3 dX9_swap_46 rfl ?_
        refine g_iload_n 0 dX9_swap_47 rfl ?_
        refine g_pc (pc' := 48) rfl ?_
        obtain ⟨c11, h⟩ := chk_some h
        refine g_iast dX9_swap_48 (sf_8_3 hx0) c11.1 c11.2 ?_
        refine g_nmM (fun M12 eM12 => ?_)
        replace h := nm_s eM12 h
        refine g_aload_n 1 dX9_swap_49 rfl ?_
        refine g_getR dX9_swap_50 flX9_15 (by decide) rfl hx0 ?_
        refine g_iload_n 2 dX9_swap_53 rfl ?_
        obtain ⟨c13, h⟩ := chk_some h
        refine g_iald dX9_swap_54 (sf_8_3 hx0) c13.1 c13.2 ?_
        cases h
        exact g_ireturn dX9_swap_55 rfl ⟨rfl, rfl⟩
      · replace h := ifp b5 h
        refine g_pc (pc' := 21) rfl ?_
        refine g_iconst (v := -1) dX9_swap_21 rfl (i32l rfl) ?_
        cases h
        exact g_ireturn dX9_swap_22 rfl ⟨rfl, rfl⟩
set_option maxHeartbeats 8000000 in
set_option maxRecDepth 20000 in
theorem lX9_lotOf_l2 {X : XC} {d : Nat} {Post : Option XV → Mem → Prop} {x0 : Nat} {x1 : Int} (hx0 : Sh x0 = (18, 69)) : ∀ (n : Nat) (x2 : Int) (M : Mem) (t0 : Int × Mem), fX9_lotOf_l2 x0 x1 n x2 M = some t0 → Go X mX9_lotOf d 18 [(2, XI t0.1)] [] t0.2 Post → Go X mX9_lotOf d 2 [(0, XR x0), (1, XI x1), (2, XI x2)] [] M Post := by
  intro n
  induction n with
  | zero => intro _ _ _ h; cases h
  | succ n ih =>
    intro x2 M t0 h K
    unfold fX9_lotOf_l2 at h
    refine g_aload_n 0 dX9_lotOf_2 rfl ?_
    refine g_getR dX9_lotOf_3 flX9_15 (by decide) rfl hx0 ?_
    refine g_iload_n 2 dX9_lotOf_6 rfl ?_
    obtain ⟨c1, h⟩ := chk_some h
    refine g_iald dX9_lotOf_7 (sf_8_3 hx0) c1.1 c1.2 ?_
    refine g_iload_n 1 dX9_lotOf_8 rfl ?_
    refine g_icmp_eq (tgt := 18) dX9_lotOf_9 (by decide) (fun b2 => ?_) (fun b2 => ?_)
    · replace h := ifp b2 h
      cases h
      exact g_sub [2] rfl K
    · replace h := ifn b2 h
      refine g_pc (pc' := 12) rfl ?_
      obtain ⟨c3, h⟩ := chk_some h
      refine g_iinc (ls' := [(2, XI (x2 + 1)), (0, XR x0), (1, XI x1)]) 2 dX9_lotOf_12 rfl rfl c3 (by decide) rfl ?_
      refine g_goto (tgt := 2) dX9_lotOf_15 (by decide) ?_
      exact g_sub [1, 2, 0] rfl (ih _ _ _ h K)
set_option maxHeartbeats 8000000 in
set_option maxRecDepth 20000 in
theorem kX9_lotOf {X : XC} {d : Nat} {x0 : Nat} {x1 : Int} (hx0 : Sh x0 = (18, 69)) {M : Mem} {q : Int × Mem} (h : fX9_lotOf x0 x1 M = some q) : Ct X mX9_lotOf d [XR x0, XI x1] M (pI q) := by
  unfold fX9_lotOf at h
  refine ct_go (by decide +kernel) (Nat.le_of_ble_eq_true rfl) (ls := [(0, XR x0), (1, XI x1)]) rfl ?_
  refine g_iconst (v := 0) dX9_lotOf_0 rfl (i32l rfl) ?_
  refine g_istore_n (ls' := [(2, XI 0), (0, XR x0), (1, XI x1)]) dX9_lotOf_1 (by decide) rfl ?_
  obtain ⟨z4, hz4, h⟩ := bnd_some h
  refine g_sub (ls' := [(0, XR x0), (1, XI x1), (2, XI 0)]) [1, 2, 0] rfl ?_
  refine lX9_lotOf_l2 hx0 1000 _ _ _ hz4 ?_
  refine g_iload_n 0 dX9_lotOf_18 rfl ?_
  cases h
  exact g_ireturn dX9_lotOf_19 rfl ⟨rfl, rfl⟩
set_option maxHeartbeats 8000000 in
set_option maxRecDepth 20000 in
theorem lX9_keyOf_l7 {X : XC} {d : Nat} {Post : Option XV → Mem → Prop}   : ∀ (n : Nat) (x1 x2 : Int) (M : Mem) (t0 : Int × Int × Mem), fX9_keyOf_l7  n x1 x2 M = some t0 → Go X mX9_keyOf (d + 1) 24 [(1, XI t0.1)] [] t0.2.2 Post → Go X mX9_keyOf (d + 1) 7 [(1, XI x1), (2, XI x2)] [] M Post := by
  intro n
  induction n with
  | zero => intro _ _ _ _ h; cases h
  | succ n ih =>
    intro x1 x2 M t0 h K
    unfold fX9_keyOf_l7 at h
    refine g_iload_n 1 dX9_keyOf_7 rfl ?_
    refine g_bip dX9_keyOf_8 rfl ?_
    refine g_icmp_ge (tgt := 24) dX9_keyOf_10 (by decide) (fun b3 => ?_) (fun b3 => ?_)
    · replace h := ifp b3 h
      cases h
      exact g_sub [0] rfl K
    · replace h := ifn b3 h
      refine g_pc (pc' := 13) rfl ?_
      refine g_iload_n 0 dX9_keyOf_13 rfl ?_
      refine g_bip dX9_keyOf_14 rfl ?_
      obtain ⟨c4, h⟩ := chk_some h
      refine g_imul dX9_keyOf_16 rfl c4 ?_
      refine g_nmI (fun v5 ev5 => ?_)
      replace h := nm_s ev5 h
      refine g_istore_n (ls' := [(1, XI v5), (2, XI x2)]) dX9_keyOf_17 (by decide) rfl ?_
      obtain ⟨c6, h⟩ := chk_some h
      refine g_iinc (ls' := [(2, XI (x2 + 1)), (1, XI v5)]) 1 dX9_keyOf_18 rfl rfl c6 (by decide) rfl ?_
      refine g_goto (tgt := 7) dX9_keyOf_21 (by decide) ?_
      exact g_sub [1, 0] rfl (ih _ _ _ _ h K)
set_option maxHeartbeats 8000000 in
set_option maxRecDepth 20000 in
theorem kX9_keyOf {X : XC} {d : Nat} {x0 : Int}  {M : Mem} {q : Int × Mem} (h : fX9_keyOf x0 M = some q) : Ct X mX9_keyOf (d + 1) [XI x0] M (pI q) := by
  unfold fX9_keyOf at h
  refine ct_go (by decide +kernel) (Nat.le_of_ble_eq_true rfl) (ls := [(0, XI x0)]) rfl ?_
  refine g_iload_n 0 dX9_keyOf_0 rfl ?_
  refine g_istore_n (ls' := [(1, XI x0), (0, XI x0)]) dX9_keyOf_1 (by decide) rfl ?_
  refine g_iload_n 1 dX9_keyOf_2 rfl ?_
  obtain ⟨q1, hq1, h⟩ := bnd_some h
  refine s_I (as := [XI x0]) dX9_keyOf_3 mlX9_177 mdX9_lengthOf msX9_lengthOf rfl (Nat.le_of_ble_eq_true rfl) (kX9_lengthOf  hq1) rfl ?_
  refine g_nmI (fun v2 ev2 => ?_)
  replace h := nm_s ev2 h
  refine g_istore_n (ls' := [(2, XI v2), (1, XI x0), (0, XI x0)]) dX9_keyOf_6 (by decide) rfl ?_
  obtain ⟨z7, hz7, h⟩ := bnd_some h
  refine g_sub (ls' := [(1, XI x0), (2, XI v2)]) [1, 0] rfl ?_
  refine lX9_keyOf_l7  1000 _ _ _ _ hz7 ?_
  refine g_iload_n 0 dX9_keyOf_24 rfl ?_
  cases h
  exact g_ireturn dX9_keyOf_25 rfl ⟨rfl, rfl⟩
end
