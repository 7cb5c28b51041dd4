section
set_option maxHeartbeats 8000000 in
set_option maxRecDepth 20000 in
theorem kX9_clauseRead {X : XC} {d : Nat} {x0 : Nat} (hx0 : Sh x0 = (18, 69)) {M : Mem} {q : Int × Mem} (h : fX9_clauseRead x0 M = some q) : Ct X mX9_clauseRead (d + 2) [XR x0] M (pV q) := by
  unfold fX9_clauseRead at h
  refine ct_go (by decide +kernel) (Nat.le_of_ble_eq_true rfl) (ls := [(0, XR x0)]) rfl ?_
  refine g_aload_n 0 dX9_clauseRead_0 rfl ?_
  refine g_aload_n 0 dX9_clauseRead_1 rfl ?_
  refine g_getI dX9_clauseRead_2 flX9_380 (by decide) rfl hx0 ?_
  refine g_putI dX9_clauseRead_5 flX9_397 (by decide) rfl hx0 ?_
  refine g_nmM (fun M1 eM1 => ?_)
  replace h := nm_s eM1 h
  refine g_aload_n 0 dX9_clauseRead_8 rfl ?_
  refine g_aload_n 0 dX9_clauseRead_9 rfl ?_
  refine g_getI dX9_clauseRead_10 flX9_380 (by decide) rfl hx0 ?_
  obtain ⟨q2, hq2, h⟩ := bnd_some h
  refine v_I (ci := 8) (as := [XI (M1 x0 47)]) dX9_clauseRead_13 mlX9_387 mdX9_signAt mvX9_signAt rfl hx0 rfl (Nat.le_of_ble_eq_true rfl) (kX9_signAt hx0 hq2) rfl ?_
  refine g_pc (pc' := 16) rfl ?_
  refine g_nmI (fun v3 ev3 => ?_)
  replace h := nm_s ev3 h
  refine g_istore_n (ls' := [(1, XI v3), (0, XR x0)]) dX9_clauseRead_16 (by decide) rfl ?_
  refine g_iload_n 0 dX9_clauseRead_17 rfl ?_
  refine g_bip dX9_clauseRead_18 rfl ?_
  refine g_icmp_eq (tgt := 53) dX9_clauseRead_20 (by decide) (fun b4 => ?_) (fun b4 => ?_)
  · replace h := ifp b4 h
    refine g_aload_n 1 dX9_clauseRead_53 rfl ?_
    refine g_dupR dX9_clauseRead_54 ?_
    refine g_getI dX9_clauseRead_55 flX9_380 (by decide) rfl hx0 ?_
    refine g_iconst (v := 1) dX9_clauseRead_58 rfl (i32l rfl) ?_
    obtain ⟨c5, h⟩ := chk_some h
    refine g_iadd dX9_clauseRead_59 rfl c5 ?_
    refine g_putI dX9_clauseRead_60 flX9_380 (by decide) rfl hx0 ?_
    refine g_nmM (fun M6 eM6 => ?_)
    replace h := nm_s eM6 h
    refine g_aload_n 1 dX9_clauseRead_63 rfl ?_
    refine g_getR dX9_clauseRead_64 flX9_117 (by decide) rfl hx0 ?_
    refine g_pc (pc' := 67) rfl ?_
    refine g_aload_n 1 dX9_clauseRead_67 rfl ?_
    refine g_getI dX9_clauseRead_68 flX9_400 (by decide) rfl hx0 ?_
    refine g_iload_n 0 dX9_clauseRead_71 rfl ?_
    obtain ⟨c7, h⟩ := chk_some h
    refine g_iast dX9_clauseRead_72 (sf_8_52 hx0) c7.1 c7.2 ?_
    refine g_nmM (fun M8 eM8 => ?_)
    replace h := nm_s eM8 h
    refine g_iload_n 0 dX9_clauseRead_73 rfl ?_
    refine g_bip dX9_clauseRead_74 rfl ?_
    refine g_icmp_ne (tgt := 155) dX9_clauseRead_76 (by decide) (fun b9 => ?_) (fun b9 => ?_)
    · replace h := ifn b9 h
      refine g_iload_n 0 dX9_clauseRead_155 rfl ?_
      refine g_bip dX9_clauseRead_156 rfl ?_
      obtain ⟨t17, ht17, h⟩ := bnd_some h
      have Kt17 : Go X mX9_clauseRead (d + 2) 186 [(0, XR x0)] [] t17 (pV q) := by
        refine g_aload_n 0 dX9_clauseRead_186 rfl ?_
        refine g_getI dX9_clauseRead_187 flX9_377 (by decide) rfl hx0 ?_
        obtain ⟨t28, ht28, h⟩ := bnd_some h
        have Kt28 : Go X mX9_clauseRead (d + 2) 203 [] [] t28 (pV q) := by
          cases h
          exact g_return dX9_clauseRead_203 rfl ⟨rfl, rfl⟩
        refine g_if_ge (tgt := 203) dX9_clauseRead_190 (by decide) (fun b29 => ?_) (fun b29 => ?_)
        · replace ht28 := ifp b29 ht28
          cases ht28
          exact g_sub [] rfl Kt28
        · replace ht28 := ifn b29 ht28
          refine g_pc (pc' := 193) rfl ?_
          refine g_aload_n 0 dX9_clauseRead_193 rfl ?_
          refine g_dupR dX9_clauseRead_194 ?_
          refine g_getI dX9_clauseRead_195 flX9_400 (by decide) rfl hx0 ?_
          refine g_iconst (v := 1) dX9_clauseRead_198 rfl (i32l rfl) ?_
          obtain ⟨c30, ht28⟩ := chk_some ht28
          refine g_iadd dX9_clauseRead_199 rfl c30 ?_
          refine g_putI dX9_clauseRead_200 flX9_400 (by decide) rfl hx0 ?_
          refine g_nmM (fun M31 eM31 => ?_)
          replace ht28 := nm_s eM31 ht28
          cases ht28
          exact g_sub [] rfl Kt28
      refine g_icmp_eq (tgt := 186) dX9_clauseRead_158 (by decide) (fun b18 => ?_) (fun b18 => ?_)
      · replace ht17 := ifp b18 ht17
        cases ht17
        exact g_sub [1] rfl Kt17
      · replace ht17 := ifn b18 ht17
        refine g_pc (pc' := 161) rfl ?_
        refine g_aload_n 1 dX9_clauseRead_161 rfl ?_
        refine g_getR dX9_clauseRead_162 flX9_120 (by decide) rfl hx0 ?_
        refine g_aload_n 1 dX9_clauseRead_165 rfl ?_
        refine g_getI dX9_clauseRead_166 flX9_400 (by decide) rfl hx0 ?_
        refine g_aload_n 1 dX9_clauseRead_169 rfl ?_
        refine g_iload_n 0 dX9_clauseRead_170 rfl ?_
        refine g_bip dX9_clauseRead_171 rfl ?_
        obtain ⟨t20, ht20, ht17⟩ := bnd_some ht17
        have Kt20 : Go X mX9_clauseRead (d + 2) 182 [(0, XR x0)] [XI t20, XR x0, XI (M8 x0 49), XR (x0 + 54)] M8 (pV q) := by
          obtain ⟨q22, hq22, ht17⟩ := bnd_some ht17
          refine v_I (ci := 8) (as := [XI t20]) dX9_clauseRead_182 mlX9_403 mdX9_numberRead mvX9_numberRead rfl hx0 rfl (Nat.le_of_ble_eq_true rfl) (kX9_numberRead hx0 hq22) rfl ?_
          obtain ⟨c23, ht17⟩ := chk_some ht17
          refine g_iast dX9_clauseRead_185 (sf_8_53 hx0) c23.1 c23.2 ?_
          refine g_nmM (fun M24 eM24 => ?_)
          replace ht17 := nm_s eM24 ht17
          cases ht17
          exact g_sub [0] rfl Kt17
        refine g_icmp_ne (tgt := 181) dX9_clauseRead_173 (by decide) (fun b21 => ?_) (fun b21 => ?_)
        · replace ht20 := ifn b21 ht20
          refine g_iconst (v := 1) dX9_clauseRead_181 rfl (i32l rfl) ?_
          cases ht20
          exact g_sub [1] rfl Kt20
        · replace ht20 := ifp b21 ht20
          refine g_pc (pc' := 176) rfl ?_
          refine g_bip dX9_clauseRead_176 rfl ?_
          refine g_goto (tgt := 182) dX9_clauseRead_178 (by decide) ?_
          cases ht20
          exact g_sub [1] rfl Kt20
    · replace h := ifp b9 h
      refine g_pc (pc' := 79) rfl ?_
      refine g_aload_n 1 dX9_clauseRead_79 rfl ?_
      refine g_getR dX9_clauseRead_80 flX9_120 (by decide) rfl hx0 ?_
      refine g_aload_n 1 dX9_clauseRead_83 rfl ?_
      refine g_getI dX9_clauseRead_84 flX9_400 (by decide) rfl hx0 ?_
      refine g_aload_n 1 dX9_clauseRead_87 rfl ?_
      refine g_bip dX9_clauseRead_88 rfl ?_
      obtain ⟨q32, hq32, h⟩ := bnd_some h
      refine v_I (ci := 8) (as := [XI 8]) dX9_clauseRead_90 mlX9_403 mdX9_numberRead mvX9_numberRead rfl hx0 rfl (Nat.le_of_ble_eq_true rfl) (kX9_numberRead hx0 hq32) rfl ?_
      obtain ⟨c33, h⟩ := chk_some h
      refine g_iast dX9_clauseRead_93 (sf_8_53 hx0) c33.1 c33.2 ?_
      refine g_nmM (fun M34 eM34 => ?_)
      replace h := nm_s eM34 h
      refine g_pc (pc' := 94) rfl ?_
      refine g_aload_n 1 dX9_clauseRead_94 rfl ?_
      refine g_getI dX9_clauseRead_95 flX9_377 (by decide) rfl hx0 ?_
      obtain ⟨t39, ht39, h⟩ := bnd_some h
      have Kt39 : Go X mX9_clauseRead (d + 2) 119 [(0, XR x0)] [] t39 (pV q) := by
        refine g_aload_n 0 dX9_clauseRead_119 rfl ?_
        refine g_getI dX9_clauseRead_120 flX9_377 (by decide) rfl hx0 ?_
        refine g_if_lt (tgt := 127) dX9_clauseRead_123 (by decide) (fun b44 => ?_) (fun b44 => ?_)
        · replace h := ifp b44 h
          refine g_aload_n 0 dX9_clauseRead_127 rfl ?_
          refine g_dupR dX9_clauseRead_128 ?_
          refine g_getI dX9_clauseRead_129 flX9_380 (by decide) rfl hx0 ?_
          refine g_iconst (v := 1) dX9_clauseRead_132 rfl (i32l rfl) ?_
          obtain ⟨c45, h⟩ := chk_some h
          refine g_iadd dX9_clauseRead_133 rfl c45 ?_
          refine g_putI dX9_clauseRead_134 flX9_380 (by decide) rfl hx0 ?_
          refine g_nmM (fun M46 eM46 => ?_)
          replace h := nm_s eM46 h
          refine g_aload_n 0 dX9_clauseRead_137 rfl ?_
          refine g_getR dX9_clauseRead_138 flX9_123 (by decide) rfl hx0 ?_
          refine g_pc (pc' := 141) rfl ?_
          refine g_aload_n 0 dX9_clauseRead_141 rfl ?_
          refine g_getI dX9_clauseRead_142 flX9_400 (by decide) rfl hx0 ?_
          refine g_aload_n 0 dX9_clauseRead_145 rfl ?_
          refine g_bip dX9_clauseRead_146 rfl ?_
          obtain ⟨q47, hq47, h⟩ := bnd_some h
          refine v_I (ci := 8) (as := [XI 7]) dX9_clauseRead_148 mlX9_403 mdX9_numberRead mvX9_numberRead rfl hx0 rfl (Nat.le_of_ble_eq_true rfl) (kX9_numberRead hx0 hq47) rfl ?_
          obtain ⟨c48, h⟩ := chk_some h
          refine g_iast dX9_clauseRead_151 (sf_8_54 hx0) c48.1 c48.2 ?_
          refine g_nmM (fun M49 eM49 => ?_)
          replace h := nm_s eM49 h
          refine g_goto (tgt := 186) dX9_clauseRead_152 (by decide) ?_
          refine g_aload_n 0 dX9_clauseRead_186 rfl ?_
          refine g_getI dX9_clauseRead_187 flX9_377 (by decide) rfl hx0 ?_
          obtain ⟨t53, ht53, h⟩ := bnd_some h
          have Kt53 : Go X mX9_clauseRead (d + 2) 203 [] [] t53 (pV q) := by
            cases h
            exact g_return dX9_clauseRead_203 rfl ⟨rfl, rfl⟩
          refine g_if_ge (tgt := 203) dX9_clauseRead_190 (by decide) (fun b54 => ?_) (fun b54 => ?_)
          · replace ht53 := ifp b54 ht53
            cases ht53
            exact g_sub [] rfl Kt53
          · replace ht53 := ifn b54 ht53
            refine g_pc (pc' := 193) rfl ?_
            refine g_aload_n 0 dX9_clauseRead_193 rfl ?_
            refine g_dupR dX9_clauseRead_194 ?_
            refine g_getI dX9_clauseRead_195 flX9_400 (by decide) rfl hx0 ?_
            refine g_iconst (v := 1) dX9_clauseRead_198 rfl (i32l rfl) ?_
            obtain ⟨c55, ht53⟩ := chk_some ht53
            refine g_iadd dX9_clauseRead_199 rfl c55 ?_
            refine g_putI dX9_clauseRead_200 flX9_400 (by decide) rfl hx0 ?_
            refine g_nmM (fun M56 eM56 => ?_)
            replace ht53 := nm_s eM56 ht53
            cases ht53
            exact g_sub [] rfl Kt53
        · replace h := ifn b44 h
          refine g_pc (pc' := 126) rfl ?_
          cases h
          exact g_return dX9_clauseRead_126 rfl ⟨rfl, rfl⟩
      refine g_if_ge (tgt := 119) dX9_clauseRead_98 (by decide) (fun b40 => ?_) (fun b40 => ?_)
      · replace ht39 := ifp b40 ht39
        cases ht39
        exact g_sub [1] rfl Kt39
      · replace ht39 := ifn b40 ht39
        refine g_pc (pc' := 101) rfl ?_
        refine g_aload_n 1 dX9_clauseRead_101 rfl ?_
        refine g_aload_n 1 dX9_clauseRead_102 rfl ?_
        refine g_getI dX9_clauseRead_103 flX9_380 (by decide) rfl hx0 ?_
        obtain ⟨q41, hq41, ht39⟩ := bnd_some ht39
        refine v_I (ci := 8) (as := [XI (M34 x0 47)]) dX9_clauseRead_106 mlX9_387 mdX9_signAt mvX9_signAt rfl hx0 rfl (Nat.le_of_ble_eq_true rfl) (kX9_signAt hx0 hq41) rfl ?_
        refine g_bip dX9_clauseRead_109 rfl ?_
        refine g_icmp_eq (tgt := 119) dX9_clauseRead_111 (by decide) (fun b42 => ?_) (fun b42 => ?_)
        · replace ht39 := ifp b42 ht39
          cases ht39
          exact g_sub [1] rfl Kt39
        · replace ht39 := ifn b42 ht39
          refine g_pc (pc' := 114) rfl ?_
          refine g_aload_n 1 dX9_clauseRead_114 rfl ?_
          refine g_iconst (v := 0) dX9_clauseRead_115 rfl (i32l rfl) ?_
          obtain ⟨q43, hq43, ht39⟩ := bnd_some ht39
          refine v_V (ci := 8) (as := [XI 0]) dX9_clauseRead_116 mlX9_394 mdX9_fails mvX9_fails rfl hx0 rfl (Nat.le_of_ble_eq_true rfl) (kX9_fails hx0 hq43) rfl ?_
          cases ht39
          exact g_sub [1] rfl Kt39
  · replace h := ifn b4 h
    refine g_pc (pc' := 23) rfl ?_
    refine g_iload_n 0 dX9_clauseRead_23 rfl ?_
    refine g_bip dX9_clauseRead_24 rfl ?_
    refine g_icmp_eq (tgt := 53) dX9_clauseRead_26 (by decide) (fun b57 => ?_) (fun b57 => ?_)
    · replace h := ifp b57 h
      refine g_aload_n 1 dX9_clauseRead_53 rfl ?_
      refine g_dupR dX9_clauseRead_54 ?_
      refine g_getI dX9_clauseRead_55 flX9_380 (by decide) rfl hx0 ?_
      refine g_iconst (v := 1) dX9_clauseRead_58 rfl (i32l rfl) ?_
      obtain ⟨c58, h⟩ := chk_some h
      refine g_iadd dX9_clauseRead_59 rfl c58 ?_
      refine g_putI dX9_clauseRead_60 flX9_380 (by decide) rfl hx0 ?_
      refine g_nmM (fun M59 eM59 => ?_)
      replace h := nm_s eM59 h
      refine g_aload_n 1 dX9_clauseRead_63 rfl ?_
      refine g_getR dX9_clauseRead_64 flX9_117 (by decide) rfl hx0 ?_
      refine g_pc (pc' := 67) rfl ?_
      refine g_aload_n 1 dX9_clauseRead_67 rfl ?_
      refine g_getI dX9_clauseRead_68 flX9_400 (by decide) rfl hx0 ?_
      refine g_iload_n 0 dX9_clauseRead_71 rfl ?_
      obtain ⟨c60, h⟩ := chk_some h
      refine g_iast dX9_clauseRead_72 (sf_8_52 hx0) c60.1 c60.2 ?_
      refine g_nmM (fun M61 eM61 => ?_)
      replace h := nm_s eM61 h
      refine g_iload_n 0 dX9_clauseRead_73 rfl ?_
      refine g_bip dX9_clauseRead_74 rfl ?_
      refine g_icmp_ne (tgt := 155) dX9_clauseRead_76 (by decide) (fun b62 => ?_) (fun b62 => ?_)
      · replace h := ifn b62 h
        refine g_iload_n 0 dX9_clauseRead_155 rfl ?_
        refine g_bip dX9_clauseRead_156 rfl ?_
        obtain ⟨t70, ht70, h⟩ := bnd_some h
        have Kt70 : Go X mX9_clauseRead (d + 2) 186 [(0, XR x0)] [] t70 (pV q) := by
          refine g_aload_n 0 dX9_clauseRead_186 rfl ?_
          refine g_getI dX9_clauseRead_187 flX9_377 (by decide) rfl hx0 ?_
          obtain ⟨t81, ht81, h⟩ := bnd_some h
          have Kt81 : Go X mX9_clauseRead (d + 2) 203 [] [] t81 (pV q) := by
            cases h
            exact g_return dX9_clauseRead_203 rfl ⟨rfl, rfl⟩
          refine g_if_ge (tgt := 203) dX9_clauseRead_190 (by decide) (fun b82 => ?_) (fun b82 => ?_)
          · replace ht81 := ifp b82 ht81
            cases ht81
            exact g_sub [] rfl Kt81
          · replace ht81 := ifn b82 ht81
            refine g_pc (pc' := 193) rfl ?_
            refine g_aload_n 0 dX9_clauseRead_193 rfl ?_
            refine g_dupR dX9_clauseRead_194 ?_
            refine g_getI dX9_clauseRead_195 flX9_400 (by decide) rfl hx0 ?_
            refine g_iconst (v := 1) dX9_clauseRead_198 rfl (i32l rfl) ?_
            obtain ⟨c83, ht81⟩ := chk_some ht81
            refine g_iadd dX9_clauseRead_199 rfl c83 ?_
            refine g_putI dX9_clauseRead_200 flX9_400 (by decide) rfl hx0 ?_
            refine g_nmM (fun M84 eM84 => ?_)
            replace ht81 := nm_s eM84 ht81
            cases ht81
            exact g_sub [] rfl Kt81
        refine g_icmp_eq (tgt := 186) dX9_clauseRead_158 (by decide) (fun b71 => ?_) (fun b71 => ?_)
        · replace ht70 := ifp b71 ht70
          cases ht70
          exact g_sub [1] rfl Kt70
        · replace ht70 := ifn b71 ht70
          refine g_pc (pc' := 161) rfl ?_
          refine g_aload_n 1 dX9_clauseRead_161 rfl ?_
          refine g_getR dX9_clauseRead_162 flX9_120 (by decide) rfl hx0 ?_
          refine g_aload_n 1 dX9_clauseRead_165 rfl ?_
          refine g_getI dX9_clauseRead_166 flX9_400 (by decide) rfl hx0 ?_
          refine g_aload_n 1 dX9_clauseRead_169 rfl ?_
          refine g_iload_n 0 dX9_clauseRead_170 rfl ?_
          refine g_bip dX9_clauseRead_171 rfl ?_
          obtain ⟨t73, ht73, ht70⟩ := bnd_some ht70
          have Kt73 : Go X mX9_clauseRead (d + 2) 182 [(0, XR x0)] [XI t73, XR x0, XI (M61 x0 49), XR (x0 + 54)] M61 (pV q) := by
            obtain ⟨q75, hq75, ht70⟩ := bnd_some ht70
            refine v_I (ci := 8) (as := [XI t73]) dX9_clauseRead_182 mlX9_403 mdX9_numberRead mvX9_numberRead rfl hx0 rfl (Nat.le_of_ble_eq_true rfl) (kX9_numberRead hx0 hq75) rfl ?_
            obtain ⟨c76, ht70⟩ := chk_some ht70
            refine g_iast dX9_clauseRead_185 (sf_8_53 hx0) c76.1 c76.2 ?_
            refine g_nmM (fun M77 eM77 => ?_)
            replace ht70 := nm_s eM77 ht70
            cases ht70
            exact g_sub [0] rfl Kt70
          refine g_icmp_ne (tgt := 181) dX9_clauseRead_173 (by decide) (fun b74 => ?_) (fun b74 => ?_)
          · replace ht73 := ifn b74 ht73
            refine g_iconst (v := 1) dX9_clauseRead_181 rfl (i32l rfl) ?_
            cases ht73
            exact g_sub [1] rfl Kt73
          · replace ht73 := ifp b74 ht73
            refine g_pc (pc' := 176) rfl ?_
            refine g_bip dX9_clauseRead_176 rfl ?_
            refine g_goto (tgt := 182) dX9_clauseRead_178 (by decide) ?_
            cases ht73
            exact g_sub [1] rfl Kt73
      · replace h := ifp b62 h
        refine g_pc (pc' := 79) rfl ?_
        refine g_aload_n 1 dX9_clauseRead_79 rfl ?_
        refine g_getR dX9_clauseRead_80 flX9_120 (by decide) rfl hx0 ?_
        refine g_aload_n 1 dX9_clauseRead_83 rfl ?_
        refine g_getI dX9_clauseRead_84 flX9_400 (by decide) rfl hx0 ?_
        refine g_aload_n 1 dX9_clauseRead_87 rfl ?_
        refine g_bip dX9_clauseRead_88 rfl ?_
        obtain ⟨q85, hq85, h⟩ := bnd_some h
        refine v_I (ci := 8) (as := [XI 8]) dX9_clauseRead_90 mlX9_403 mdX9_numberRead mvX9_numberRead rfl hx0 rfl (Nat.le_of_ble_eq_true rfl) (kX9_numberRead hx0 hq85) rfl ?_
        obtain ⟨c86, h⟩ := chk_some h
        refine g_iast dX9_clauseRead_93 (sf_8_53 hx0) c86.1 c86.2 ?_
        refine g_nmM (fun M87 eM87 => ?_)
        replace h := nm_s eM87 h
        refine g_pc (pc' := 94) rfl ?_
        refine g_aload_n 1 dX9_clauseRead_94 rfl ?_
        refine g_getI dX9_clauseRead_95 flX9_377 (by decide) rfl hx0 ?_
        obtain ⟨t92, ht92, h⟩ := bnd_some h
        have Kt92 : Go X mX9_clauseRead (d + 2) 119 [(0, XR x0)] [] t92 (pV q) := by
          refine g_aload_n 0 dX9_clauseRead_119 rfl ?_
          refine g_getI dX9_clauseRead_120 flX9_377 (by decide) rfl hx0 ?_
          refine g_if_lt (tgt := 127) dX9_clauseRead_123 (by decide) (fun b97 => ?_) (fun b97 => ?_)
          · replace h := ifp b97 h
            refine g_aload_n 0 dX9_clauseRead_127 rfl ?_
            refine g_dupR dX9_clauseRead_128 ?_
            refine g_getI dX9_clauseRead_129 flX9_380 (by decide) rfl hx0 ?_
            refine g_iconst (v := 1) dX9_clauseRead_132 rfl (i32l rfl) ?_
            obtain ⟨c98, h⟩ := chk_some h
            refine g_iadd dX9_clauseRead_133 rfl c98 ?_
            refine g_putI dX9_clauseRead_134 flX9_380 (by decide) rfl hx0 ?_
            refine g_nmM (fun M99 eM99 => ?_)
            replace h := nm_s eM99 h
            refine g_aload_n 0 dX9_clauseRead_137 rfl ?_
            refine g_getR dX9_clauseRead_138 flX9_123 (by decide) rfl hx0 ?_
            refine g_pc (pc' := 141) rfl ?_
            refine g_aload_n 0 dX9_clauseRead_141 rfl ?_
            refine g_getI dX9_clauseRead_142 flX9_400 (by decide) rfl hx0 ?_
            refine g_aload_n 0 dX9_clauseRead_145 rfl ?_
            refine g_bip dX9_clauseRead_146 rfl ?_
            obtain ⟨q100, hq100, h⟩ := bnd_some h
            refine v_I (ci := 8) (as := [XI 7]) dX9_clauseRead_148 mlX9_403 mdX9_numberRead mvX9_numberRead rfl hx0 rfl (Nat.le_of_ble_eq_true rfl) (kX9_numberRead hx0 hq100) rfl ?_
            obtain ⟨c101, h⟩ := chk_some h
            refine g_iast dX9_clauseRead_151 (sf_8_54 hx0) c101.1 c101.2 ?_
            refine g_nmM (fun M102 eM102 => ?_)
            replace h := nm_s eM102 h
            refine g_goto (tgt := 186) dX9_clauseRead_152 (by decide) ?_
            refine g_aload_n 0 dX9_clauseRead_186 rfl ?_
            refine g_getI dX9_clauseRead_187 flX9_377 (by decide) rfl hx0 ?_
            obtain ⟨t106, ht106, h⟩ := bnd_some h
            have Kt106 : Go X mX9_clauseRead (d + 2) 203 [] [] t106 (pV q) := by
              cases h
              exact g_return dX9_clauseRead_203 rfl ⟨rfl, rfl⟩
            refine g_if_ge (tgt := 203) dX9_clauseRead_190 (by decide) (fun b107 => ?_) (fun b107 => ?_)
            · replace ht106 := ifp b107 ht106
              cases ht106
              exact g_sub [] rfl Kt106
            · replace ht106 := ifn b107 ht106
              refine g_pc (pc' := 193) rfl ?_
              refine g_aload_n 0 dX9_clauseRead_193 rfl ?_
              refine g_dupR dX9_clauseRead_194 ?_
              refine g_getI dX9_clauseRead_195 flX9_400 (by decide) rfl hx0 ?_
              refine g_iconst (v := 1) dX9_clauseRead_198 rfl (i32l rfl) ?_
              obtain ⟨c108, ht106⟩ := chk_some ht106
              refine g_iadd dX9_clauseRead_199 rfl c108 ?_
              refine g_putI dX9_clauseRead_200 flX9_400 (by decide) rfl hx0 ?_
              refine g_nmM (fun M109 eM109 => ?_)
              replace ht106 := nm_s eM109 ht106
              cases ht106
              exact g_sub [] rfl Kt106
          · replace h := ifn b97 h
            refine g_pc (pc' := 126) rfl ?_
            cases h
            exact g_return dX9_clauseRead_126 rfl ⟨rfl, rfl⟩
        refine g_if_ge (tgt := 119) dX9_clauseRead_98 (by decide) (fun b93 => ?_) (fun b93 => ?_)
        · replace ht92 := ifp b93 ht92
          cases ht92
          exact g_sub [1] rfl Kt92
        · replace ht92 := ifn b93 ht92
          refine g_pc (pc' := 101) rfl ?_
          refine g_aload_n 1 dX9_clauseRead_101 rfl ?_
          refine g_aload_n 1 dX9_clauseRead_102 rfl ?_
          refine g_getI dX9_clauseRead_103 flX9_380 (by decide) rfl hx0 ?_
          obtain ⟨q94, hq94, ht92⟩ := bnd_some ht92
          refine v_I (ci := 8) (as := [XI (M87 x0 47)]) dX9_clauseRead_106 mlX9_387 mdX9_signAt mvX9_signAt rfl hx0 rfl (Nat.le_of_ble_eq_true rfl) (kX9_signAt hx0 hq94) rfl ?_
          refine g_bip dX9_clauseRead_109 rfl ?_
          refine g_icmp_eq (tgt := 119) dX9_clauseRead_111 (by decide) (fun b95 => ?_) (fun b95 => ?_)
          · replace ht92 := ifp b95 ht92
            cases ht92
            exact g_sub [1] rfl Kt92
          · replace ht92 := ifn b95 ht92
            refine g_pc (pc' := 114) rfl ?_
            refine g_aload_n 1 dX9_clauseRead_114 rfl ?_
            refine g_iconst (v := 0) dX9_clauseRead_115 rfl (i32l rfl) ?_
            obtain ⟨q96, hq96, ht92⟩ := bnd_some ht92
            refine v_V (ci := 8) (as := [XI 0]) dX9_clauseRead_116 mlX9_394 mdX9_fails mvX9_fails rfl hx0 rfl (Nat.le_of_ble_eq_true rfl) (kX9_fails hx0 hq96) rfl ?_
            cases ht92
            exact g_sub [1] rfl Kt92
    · replace h := ifn b57 h
      refine g_pc (pc' := 29) rfl ?_
      refine g_iload_n 0 dX9_clauseRead_29 rfl ?_
      refine g_bip dX9_clauseRead_30 rfl ?_
      refine g_icmp_eq (tgt := 53) dX9_clauseRead_32 (by decide) (fun b110 => ?_) (fun b110 => ?_)
      · replace h := ifp b110 h
        refine g_aload_n 1 dX9_clauseRead_53 rfl ?_
        refine g_dupR dX9_clauseRead_54 ?_
        refine g_getI dX9_clauseRead_55 flX9_380 (by decide) rfl hx0 ?_
        refine g_iconst (v := 1) dX9_clauseRead_58 rfl (i32l rfl) ?_
        obtain ⟨c111, h⟩ := chk_some h
        refine g_iadd dX9_clauseRead_59 rfl c111 ?_
        refine g_putI dX9_clauseRead_60 flX9_380 (by decide) rfl hx0 ?_
        refine g_nmM (fun M112 eM112 => ?_)
        replace h := nm_s eM112 h
        refine g_aload_n 1 dX9_clauseRead_63 rfl ?_
        refine g_getR dX9_clauseRead_64 flX9_117 (by decide) rfl hx0 ?_
        refine g_pc (pc' := 67) rfl ?_
        refine g_aload_n 1 dX9_clauseRead_67 rfl ?_
        refine g_getI dX9_clauseRead_68 flX9_400 (by decide) rfl hx0 ?_
        refine g_iload_n 0 dX9_clauseRead_71 rfl ?_
        obtain ⟨c113, h⟩ := chk_some h
        refine g_iast dX9_clauseRead_72 (sf_8_52 hx0) c113.1 c113.2 ?_
        refine g_nmM (fun M114 eM114 => ?_)
        replace h := nm_s eM114 h
        refine g_iload_n 0 dX9_clauseRead_73 rfl ?_
        refine g_bip dX9_clauseRead_74 rfl ?_
        refine g_icmp_ne (tgt := 155) dX9_clauseRead_76 (by decide) (fun b115 => ?_) (fun b115 => ?_)
        · replace h := ifn b115 h
          refine g_iload_n 0 dX9_clauseRead_155 rfl ?_
          refine g_bip dX9_clauseRead_156 rfl ?_
          obtain ⟨t123, ht123, h⟩ := bnd_some h
          have Kt123 : Go X mX9_clauseRead (d + 2) 186 [(0, XR x0)] [] t123 (pV q) := by
            refine g_aload_n 0 dX9_clauseRead_186 rfl ?_
            refine g_getI dX9_clauseRead_187 flX9_377 (by decide) rfl hx0 ?_
            obtain ⟨t134, ht134, h⟩ := bnd_some h
            have Kt134 : Go X mX9_clauseRead (d + 2) 203 [] [] t134 (pV q) := by
              cases h
              exact g_return dX9_clauseRead_203 rfl ⟨rfl, rfl⟩
            refine g_if_ge (tgt := 203) dX9_clauseRead_190 (by decide) (fun b135 => ?_) (fun b135 => ?_)
            · replace ht134 := ifp b135 ht134
              cases ht134
              exact g_sub [] rfl Kt134
            · replace ht134 := ifn b135 ht134
              refine g_pc (pc' := 193) rfl ?_
              refine g_aload_n 0 dX9_clauseRead_193 rfl ?_
              refine g_dupR dX9_clauseRead_194 ?_
              refine g_getI dX9_clauseRead_195 flX9_400 (by decide) rfl hx0 ?_
              refine g_iconst (v := 1) dX9_clauseRead_198 rfl (i32l rfl) ?_
              obtain ⟨c136, ht134⟩ := chk_some ht134
              refine g_iadd dX9_clauseRead_199 rfl c136 ?_
              refine g_putI dX9_clauseRead_200 flX9_400 (by decide) rfl hx0 ?_
              refine g_nmM (fun M137 eM137 => ?_)
              replace ht134 := nm_s eM137 ht134
              cases ht134
              exact g_sub [] rfl Kt134
          refine g_icmp_eq (tgt := 186) dX9_clauseRead_158 (by decide) (fun b124 => ?_) (fun b124 => ?_)
          · replace ht123 := ifp b124 ht123
            cases ht123
            exact g_sub [1] rfl Kt123
          · replace ht123 := ifn b124 ht123
            refine g_pc (pc' := 161) rfl ?_
            refine g_aload_n 1 dX9_clauseRead_161 rfl ?_
            refine g_getR dX9_clauseRead_162 flX9_120 (by decide) rfl hx0 ?_
            refine g_aload_n 1 dX9_clauseRead_165 rfl ?_
            refine g_getI dX9_clauseRead_166 flX9_400 (by decide) rfl hx0 ?_
            refine g_aload_n 1 dX9_clauseRead_169 rfl ?_
            refine g_iload_n 0 dX9_clauseRead_170 rfl ?_
            refine g_bip dX9_clauseRead_171 rfl ?_
            obtain ⟨t126, ht126, ht123⟩ := bnd_some ht123
            have Kt126 : Go X mX9_clauseRead (d + 2) 182 [(0, XR x0)] [XI t126, XR x0, XI (M114 x0 49), XR (x0 + 54)] M114 (pV q) := by
              obtain ⟨q128, hq128, ht123⟩ := bnd_some ht123
              refine v_I (ci := 8) (as := [XI t126]) dX9_clauseRead_182 mlX9_403 mdX9_numberRead mvX9_numberRead rfl hx0 rfl (Nat.le_of_ble_eq_true rfl) (kX9_numberRead hx0 hq128) rfl ?_
              obtain ⟨c129, ht123⟩ := chk_some ht123
              refine g_iast dX9_clauseRead_185 (sf_8_53 hx0) c129.1 c129.2 ?_
              refine g_nmM (fun M130 eM130 => ?_)
              replace ht123 := nm_s eM130 ht123
              cases ht123
              exact g_sub [0] rfl Kt123
            refine g_icmp_ne (tgt := 181) dX9_clauseRead_173 (by decide) (fun b127 => ?_) (fun b127 => ?_)
            · replace ht126 := ifn b127 ht126
              refine g_iconst (v := 1) dX9_clauseRead_181 rfl (i32l rfl) ?_
              cases ht126
              exact g_sub [1] rfl Kt126
            · replace ht126 := ifp b127 ht126
              refine g_pc (pc' := 176) rfl ?_
              refine g_bip dX9_clauseRead_176 rfl ?_
              refine g_goto (tgt := 182) dX9_clauseRead_178 (by decide) ?_
              cases ht126
              exact g_sub [1] rfl Kt126
        · replace h := ifp b115 h
          refine g_pc (pc' := 79) rfl ?_
          refine g_aload_n 1 dX9_clauseRead_79 rfl ?_
          refine g_getR dX9_clauseRead_80 flX9_120 (by decide) rfl hx0 ?_
          refine g_aload_n 1 dX9_clauseRead_83 rfl ?_
          refine g_getI dX9_clauseRead_84 flX9_400 (by decide) rfl hx0 ?_
          refine g_aload_n 1 dX9_clauseRead_87 rfl ?_
          refine g_bip dX9_clauseRead_88 rfl ?_
          obtain ⟨q138, hq138, h⟩ := bnd_some h
          refine v_I (ci := 8) (as := [XI 8]) dX9_clauseRead_90 mlX9_403 mdX9_numberRead mvX9_numberRead rfl hx0 rfl (Nat.le_of_ble_eq_true rfl) (kX9_numberRead hx0 hq138) rfl ?_
          obtain ⟨c139, h⟩ := chk_some h
          refine g_iast dX9_clauseRead_93 (sf_8_53 hx0) c139.1 c139.2 ?_
          refine g_nmM (fun M140 eM140 => ?_)
          replace h := nm_s eM140 h
          refine g_pc (pc' := 94) rfl ?_
          refine g_aload_n 1 dX9_clauseRead_94 rfl ?_
          refine g_getI dX9_clauseRead_95 flX9_377 (by decide) rfl hx0 ?_
          obtain ⟨t145, ht145, h⟩ := bnd_some h
          have Kt145 : Go X mX9_clauseRead (d + 2) 119 [(0, XR x0)] [] t145 (pV q) := by
            refine g_aload_n 0 dX9_clauseRead_119 rfl ?_
            refine g_getI dX9_clauseRead_120 flX9_377 (by decide) rfl hx0 ?_
            refine g_if_lt (tgt := 127) dX9_clauseRead_123 (by decide) (fun b150 => ?_) (fun b150 => ?_)
            · replace h := ifp b150 h
              refine g_aload_n 0 dX9_clauseRead_127 rfl ?_
              refine g_dupR dX9_clauseRead_128 ?_
              refine g_getI dX9_clauseRead_129 flX9_380 (by decide) rfl hx0 ?_
              refine g_iconst (v := 1) dX9_clauseRead_132 rfl (i32l rfl) ?_
              obtain ⟨c151, h⟩ := chk_some h
              refine g_iadd dX9_clauseRead_133 rfl c151 ?_
              refine g_putI dX9_clauseRead_134 flX9_380 (by decide) rfl hx0 ?_
              refine g_nmM (fun M152 eM152 => ?_)
              replace h := nm_s eM152 h
              refine g_aload_n 0 dX9_clauseRead_137 rfl ?_
              refine g_getR dX9_clauseRead_138 flX9_123 (by decide) rfl hx0 ?_
              refine g_pc (pc' := 141) rfl ?_
              refine g_aload_n 0 dX9_clauseRead_141 rfl ?_
              refine g_getI dX9_clauseRead_142 flX9_400 (by decide) rfl hx0 ?_
              refine g_aload_n 0 dX9_clauseRead_145 rfl ?_
              refine g_bip dX9_clauseRead_146 rfl ?_
              obtain ⟨q153, hq153, h⟩ := bnd_some h
              refine v_I (ci := 8) (as := [XI 7]) dX9_clauseRead_148 mlX9_403 mdX9_numberRead mvX9_numberRead rfl hx0 rfl (Nat.le_of_ble_eq_true rfl) (kX9_numberRead hx0 hq153) rfl ?_
              obtain ⟨c154, h⟩ := chk_some h
              refine g_iast dX9_clauseRead_151 (sf_8_54 hx0) c154.1 c154.2 ?_
              refine g_nmM (fun M155 eM155 => ?_)
              replace h := nm_s eM155 h
              refine g_goto (tgt := 186) dX9_clauseRead_152 (by decide) ?_
              refine g_aload_n 0 dX9_clauseRead_186 rfl ?_
              refine g_getI dX9_clauseRead_187 flX9_377 (by decide) rfl hx0 ?_
              obtain ⟨t159, ht159, h⟩ := bnd_some h
              have Kt159 : Go X mX9_clauseRead (d + 2) 203 [] [] t159 (pV q) := by
                cases h
                exact g_return dX9_clauseRead_203 rfl ⟨rfl, rfl⟩
              refine g_if_ge (tgt := 203) dX9_clauseRead_190 (by decide) (fun b160 => ?_) (fun b160 => ?_)
              · replace ht159 := ifp b160 ht159
                cases ht159
                exact g_sub [] rfl Kt159
              · replace ht159 := ifn b160 ht159
                refine g_pc (pc' := 193) rfl ?_
                refine g_aload_n 0 dX9_clauseRead_193 rfl ?_
                refine g_dupR dX9_clauseRead_194 ?_
                refine g_getI dX9_clauseRead_195 flX9_400 (by decide) rfl hx0 ?_
                refine g_iconst (v := 1) dX9_clauseRead_198 rfl (i32l rfl) ?_
                obtain ⟨c161, ht159⟩ := chk_some ht159
                refine g_iadd dX9_clauseRead_199 rfl c161 ?_
                refine g_putI dX9_clauseRead_200 flX9_400 (by decide) rfl hx0 ?_
                refine g_nmM (fun M162 eM162 => ?_)
                replace ht159 := nm_s eM162 ht159
                cases ht159
                exact g_sub [] rfl Kt159
            · replace h := ifn b150 h
              refine g_pc (pc' := 126) rfl ?_
              cases h
              exact g_return dX9_clauseRead_126 rfl ⟨rfl, rfl⟩
          refine g_if_ge (tgt := 119) dX9_clauseRead_98 (by decide) (fun b146 => ?_) (fun b146 => ?_)
          · replace ht145 := ifp b146 ht145
            cases ht145
            exact g_sub [1] rfl Kt145
          · replace ht145 := ifn b146 ht145
            refine g_pc (pc' := 101) rfl ?_
            refine g_aload_n 1 dX9_clauseRead_101 rfl ?_
            refine g_aload_n 1 dX9_clauseRead_102 rfl ?_
            refine g_getI dX9_clauseRead_103 flX9_380 (by decide) rfl hx0 ?_
            obtain ⟨q147, hq147, ht145⟩ := bnd_some ht145
            refine v_I (ci := 8) (as := [XI (M140 x0 47)]) dX9_clauseRead_106 mlX9_387 mdX9_signAt mvX9_signAt rfl hx0 rfl (Nat.le_of_ble_eq_true rfl) (kX9_signAt hx0 hq147) rfl ?_
            refine g_bip dX9_clauseRead_109 rfl ?_
            refine g_icmp_eq (tgt := 119) dX9_clauseRead_111 (by decide) (fun b148 => ?_) (fun b148 => ?_)
            · replace ht145 := ifp b148 ht145
              cases ht145
              exact g_sub [1] rfl Kt145
            · replace ht145 := ifn b148 ht145
              refine g_pc (pc' := 114) rfl ?_
              refine g_aload_n 1 dX9_clauseRead_114 rfl ?_
              refine g_iconst (v := 0) dX9_clauseRead_115 rfl (i32l rfl) ?_
              obtain ⟨q149, hq149, ht145⟩ := bnd_some ht145
              refine v_V (ci := 8) (as := [XI 0]) dX9_clauseRead_116 mlX9_394 mdX9_fails mvX9_fails rfl hx0 rfl (Nat.le_of_ble_eq_true rfl) (kX9_fails hx0 hq149) rfl ?_
              cases ht145
              exact g_sub [1] rfl Kt145
      · replace h := ifn b110 h
        refine g_pc (pc' := 35) rfl ?_
        refine g_iload_n 0 dX9_clauseRead_35 rfl ?_
        refine g_bip dX9_clauseRead_36 rfl ?_
        refine g_icmp_eq (tgt := 53) dX9_clauseRead_38 (by decide) (fun b163 => ?_) (fun b163 => ?_)
        · replace h := ifp b163 h
          refine g_aload_n 1 dX9_clauseRead_53 rfl ?_
          refine g_dupR dX9_clauseRead_54 ?_
          refine g_getI dX9_clauseRead_55 flX9_380 (by decide) rfl hx0 ?_
          refine g_iconst (v := 1) dX9_clauseRead_58 rfl (i32l rfl) ?_
          obtain ⟨c164, h⟩ := chk_some h
          refine g_iadd dX9_clauseRead_59 rfl c164 ?_
          refine g_putI dX9_clauseRead_60 flX9_380 (by decide) rfl hx0 ?_
          refine g_nmM (fun M165 eM165 => ?_)
          replace h := nm_s eM165 h
          refine g_aload_n 1 dX9_clauseRead_63 rfl ?_
          refine g_getR dX9_clauseRead_64 flX9_117 (by decide) rfl hx0 ?_
          refine g_pc (pc' := 67) rfl ?_
          refine g_aload_n 1 dX9_clauseRead_67 rfl ?_
          refine g_getI dX9_clauseRead_68 flX9_400 (by decide) rfl hx0 ?_
          refine g_iload_n 0 dX9_clauseRead_71 rfl ?_
          obtain ⟨c166, h⟩ := chk_some h
          refine g_iast dX9_clauseRead_72 (sf_8_52 hx0) c166.1 c166.2 ?_
          refine g_nmM (fun M167 eM167 => ?_)
          replace h := nm_s eM167 h
          refine g_iload_n 0 dX9_clauseRead_73 rfl ?_
          refine g_bip dX9_clauseRead_74 rfl ?_
          refine g_icmp_ne (tgt := 155) dX9_clauseRead_76 (by decide) (fun b168 => ?_) (fun b168 => ?_)
          · replace h := ifn b168 h
            refine g_iload_n 0 dX9_clauseRead_155 rfl ?_
            refine g_bip dX9_clauseRead_156 rfl ?_
            obtain ⟨t176, ht176, h⟩ := bnd_some h
            have Kt176 : Go X mX9_clauseRead (d + 2) 186 [(0, XR x0)] [] t176 (pV q) := by
              refine g_aload_n 0 dX9_clauseRead_186 rfl ?_
              refine g_getI dX9_clauseRead_187 flX9_377 (by decide) rfl hx0 ?_
              obtain ⟨t187, ht187, h⟩ := bnd_some h
              have Kt187 : Go X mX9_clauseRead (d + 2) 203 [] [] t187 (pV q) := by
                cases h
                exact g_return dX9_clauseRead_203 rfl ⟨rfl, rfl⟩
              refine g_if_ge (tgt := 203) dX9_clauseRead_190 (by decide) (fun b188 => ?_) (fun b188 => ?_)
              · replace ht187 := ifp b188 ht187
                cases ht187
                exact g_sub [] rfl Kt187
              · replace ht187 := ifn b188 ht187
                refine g_pc (pc' := 193) rfl ?_
                refine g_aload_n 0 dX9_clauseRead_193 rfl ?_
                refine g_dupR dX9_clauseRead_194 ?_
                refine g_getI dX9_clauseRead_195 flX9_400 (by decide) rfl hx0 ?_
                refine g_iconst (v := 1) dX9_clauseRead_198 rfl (i32l rfl) ?_
                obtain ⟨c189, ht187⟩ := chk_some ht187
                refine g_iadd dX9_clauseRead_199 rfl c189 ?_
                refine g_putI dX9_clauseRead_200 flX9_400 (by decide) rfl hx0 ?_
                refine g_nmM (fun M190 eM190 => ?_)
                replace ht187 := nm_s eM190 ht187
                cases ht187
                exact g_sub [] rfl Kt187
            refine g_icmp_eq (tgt := 186) dX9_clauseRead_158 (by decide) (fun b177 => ?_) (fun b177 => ?_)
            · replace ht176 := ifp b177 ht176
              cases ht176
              exact g_sub [1] rfl Kt176
            · replace ht176 := ifn b177 ht176
              refine g_pc (pc' := 161) rfl ?_
              refine g_aload_n 1 dX9_clauseRead_161 rfl ?_
              refine g_getR dX9_clauseRead_162 flX9_120 (by decide) rfl hx0 ?_
              refine g_aload_n 1 dX9_clauseRead_165 rfl ?_
              refine g_getI dX9_clauseRead_166 flX9_400 (by decide) rfl hx0 ?_
              refine g_aload_n 1 dX9_clauseRead_169 rfl ?_
              refine g_iload_n 0 dX9_clauseRead_170 rfl ?_
              refine g_bip dX9_clauseRead_171 rfl ?_
              obtain ⟨t179, ht179, ht176⟩ := bnd_some ht176
              have Kt179 : Go X mX9_clauseRead (d + 2) 182 [(0, XR x0)] [XI t179, XR x0, XI (M167 x0 49), XR (x0 + 54)] M167 (pV q) := by
                obtain ⟨q181, hq181, ht176⟩ := bnd_some ht176
                refine v_I (ci := 8) (as := [XI t179]) dX9_clauseRead_182 mlX9_403 mdX9_numberRead mvX9_numberRead rfl hx0 rfl (Nat.le_of_ble_eq_true rfl) (kX9_numberRead hx0 hq181) rfl ?_
                obtain ⟨c182, ht176⟩ := chk_some ht176
                refine g_iast dX9_clauseRead_185 (sf_8_53 hx0) c182.1 c182.2 ?_
                refine g_nmM (fun M183 eM183 => ?_)
                replace ht176 := nm_s eM183 ht176
                cases ht176
                exact g_sub [0] rfl Kt176
              refine g_icmp_ne (tgt := 181) dX9_clauseRead_173 (by decide) (fun b180 => ?_) (fun b180 => ?_)
              · replace ht179 := ifn b180 ht179
                refine g_iconst (v := 1) dX9_clauseRead_181 rfl (i32l rfl) ?_
                cases ht179
                exact g_sub [1] rfl Kt179
              · replace ht179 := ifp b180 ht179
                refine g_pc (pc' := 176) rfl ?_
                refine g_bip dX9_clauseRead_176 rfl ?_
                refine g_goto (tgt := 182) dX9_clauseRead_178 (by decide) ?_
                cases ht179
                exact g_sub [1] rfl Kt179
          · replace h := ifp b168 h
            refine g_pc (pc' := 79) rfl ?_
            refine g_aload_n 1 dX9_clauseRead_79 rfl ?_
            refine g_getR dX9_clauseRead_80 flX9_120 (by decide) rfl hx0 ?_
            refine g_aload_n 1 dX9_clauseRead_83 rfl ?_
            refine g_getI dX9_clauseRead_84 flX9_400 (by decide) rfl hx0 ?_
            refine g_aload_n 1 dX9_clauseRead_87 rfl ?_
            refine g_bip dX9_clauseRead_88 rfl ?_
            obtain ⟨q191, hq191, h⟩ := bnd_some h
            refine v_I (ci := 8) (as := [XI 8]) dX9_clauseRead_90 mlX9_403 mdX9_numberRead mvX9_numberRead rfl hx0 rfl (Nat.le_of_ble_eq_true rfl) (kX9_numberRead hx0 hq191) rfl ?_
            obtain ⟨c192, h⟩ := chk_some h
            refine g_iast dX9_clauseRead_93 (sf_8_53 hx0) c192.1 c192.2 ?_
            refine g_nmM (fun M193 eM193 => ?_)
            replace h := nm_s eM193 h
            refine g_pc (pc' := 94) rfl ?_
            refine g_aload_n 1 dX9_clauseRead_94 rfl ?_
            refine g_getI dX9_clauseRead_95 flX9_377 (by decide) rfl hx0 ?_
            obtain ⟨t198, ht198, h⟩ := bnd_some h
            have Kt198 : Go X mX9_clauseRead (d + 2) 119 [(0, XR x0)] [] t198 (pV q) := by
              refine g_aload_n 0 dX9_clauseRead_119 rfl ?_
              refine g_getI dX9_clauseRead_120 flX9_377 (by decide) rfl hx0 ?_
              refine g_if_lt (tgt := 127) dX9_clauseRead_123 (by decide) (fun b203 => ?_) (fun b203 => ?_)
              · replace h := ifp b203 h
                refine g_aload_n 0 dX9_clauseRead_127 rfl ?_
                refine g_dupR dX9_clauseRead_128 ?_
                refine g_getI dX9_clauseRead_129 flX9_380 (by decide) rfl hx0 ?_
                refine g_iconst (v := 1) dX9_clauseRead_132 rfl (i32l rfl) ?_
                obtain ⟨c204, h⟩ := chk_some h
                refine g_iadd dX9_clauseRead_133 rfl c204 ?_
                refine g_putI dX9_clauseRead_134 flX9_380 (by decide) rfl hx0 ?_
                refine g_nmM (fun M205 eM205 => ?_)
                replace h := nm_s eM205 h
                refine g_aload_n 0 dX9_clauseRead_137 rfl ?_
                refine g_getR dX9_clauseRead_138 flX9_123 (by decide) rfl hx0 ?_
                refine g_pc (pc' := 141) rfl ?_
                refine g_aload_n 0 dX9_clauseRead_141 rfl ?_
                refine g_getI dX9_clauseRead_142 flX9_400 (by decide) rfl hx0 ?_
                refine g_aload_n 0 dX9_clauseRead_145 rfl ?_
                refine g_bip dX9_clauseRead_146 rfl ?_
                obtain ⟨q206, hq206, h⟩ := bnd_some h
                refine v_I (ci := 8) (as := [XI 7]) dX9_clauseRead_148 mlX9_403 mdX9_numberRead mvX9_numberRead rfl hx0 rfl (Nat.le_of_ble_eq_true rfl) (kX9_numberRead hx0 hq206) rfl ?_
                obtain ⟨c207, h⟩ := chk_some h
                refine g_iast dX9_clauseRead_151 (sf_8_54 hx0) c207.1 c207.2 ?_
                refine g_nmM (fun M208 eM208 => ?_)
                replace h := nm_s eM208 h
                refine g_goto (tgt := 186) dX9_clauseRead_152 (by decide) ?_
                refine g_aload_n 0 dX9_clauseRead_186 rfl ?_
                refine g_getI dX9_clauseRead_187 flX9_377 (by decide) rfl hx0 ?_
                obtain ⟨t212, ht212, h⟩ := bnd_some h
                have Kt212 : Go X mX9_clauseRead (d + 2) 203 [] [] t212 (pV q) := by
                  cases h
                  exact g_return dX9_clauseRead_203 rfl ⟨rfl, rfl⟩
                refine g_if_ge (tgt := 203) dX9_clauseRead_190 (by decide) (fun b213 => ?_) (fun b213 => ?_)
                · replace ht212 := ifp b213 ht212
                  cases ht212
                  exact g_sub [] rfl Kt212
                · replace ht212 := ifn b213 ht212
                  refine g_pc (pc' := 193) rfl ?_
                  refine g_aload_n 0 dX9_clauseRead_193 rfl ?_
                  refine g_dupR dX9_clauseRead_194 ?_
                  refine g_getI dX9_clauseRead_195 flX9_400 (by decide) rfl hx0 ?_
                  refine g_iconst (v := 1) dX9_clauseRead_198 rfl (i32l rfl) ?_
                  obtain ⟨c214, ht212⟩ := chk_some ht212
                  refine g_iadd dX9_clauseRead_199 rfl c214 ?_
                  refine g_putI dX9_clauseRead_200 flX9_400 (by decide) rfl hx0 ?_
                  refine g_nmM (fun M215 eM215 => ?_)
                  replace ht212 := nm_s eM215 ht212
                  cases ht212
                  exact g_sub [] rfl Kt212
              · replace h := ifn b203 h
                refine g_pc (pc' := 126) rfl ?_
                cases h
                exact g_return dX9_clauseRead_126 rfl ⟨rfl, rfl⟩
            refine g_if_ge (tgt := 119) dX9_clauseRead_98 (by decide) (fun b199 => ?_) (fun b199 => ?_)
            · replace ht198 := ifp b199 ht198
              cases ht198
              exact g_sub [1] rfl Kt198
            · replace ht198 := ifn b199 ht198
              refine g_pc (pc' := 101) rfl ?_
              refine g_aload_n 1 dX9_clauseRead_101 rfl ?_
              refine g_aload_n 1 dX9_clauseRead_102 rfl ?_
              refine g_getI dX9_clauseRead_103 flX9_380 (by decide) rfl hx0 ?_
              obtain ⟨q200, hq200, ht198⟩ := bnd_some ht198
              refine v_I (ci := 8) (as := [XI (M193 x0 47)]) dX9_clauseRead_106 mlX9_387 mdX9_signAt mvX9_signAt rfl hx0 rfl (Nat.le_of_ble_eq_true rfl) (kX9_signAt hx0 hq200) rfl ?_
              refine g_bip dX9_clauseRead_109 rfl ?_
              refine g_icmp_eq (tgt := 119) dX9_clauseRead_111 (by decide) (fun b201 => ?_) (fun b201 => ?_)
              · replace ht198 := ifp b201 ht198
                cases ht198
                exact g_sub [1] rfl Kt198
              · replace ht198 := ifn b201 ht198
                refine g_pc (pc' := 114) rfl ?_
                refine g_aload_n 1 dX9_clauseRead_114 rfl ?_
                refine g_iconst (v := 0) dX9_clauseRead_115 rfl (i32l rfl) ?_
                obtain ⟨q202, hq202, ht198⟩ := bnd_some ht198
                refine v_V (ci := 8) (as := [XI 0]) dX9_clauseRead_116 mlX9_394 mdX9_fails mvX9_fails rfl hx0 rfl (Nat.le_of_ble_eq_true rfl) (kX9_fails hx0 hq202) rfl ?_
                cases ht198
                exact g_sub [1] rfl Kt198
        · replace h := ifn b163 h
          refine g_pc (pc' := 41) rfl ?_
          refine g_iload_n 0 dX9_clauseRead_41 rfl ?_
          refine g_bip dX9_clauseRead_42 rfl ?_
          refine g_icmp_eq (tgt := 53) dX9_clauseRead_44 (by decide) (fun b216 => ?_) (fun b216 => ?_)
          · replace h := ifp b216 h
            refine g_aload_n 1 dX9_clauseRead_53 rfl ?_
            refine g_dupR dX9_clauseRead_54 ?_
            refine g_getI dX9_clauseRead_55 flX9_380 (by decide) rfl hx0 ?_
            refine g_iconst (v := 1) dX9_clauseRead_58 rfl (i32l rfl) ?_
            obtain ⟨c217, h⟩ := chk_some h
            refine g_iadd dX9_clauseRead_59 rfl c217 ?_
            refine g_putI dX9_clauseRead_60 flX9_380 (by decide) rfl hx0 ?_
            refine g_nmM (fun M218 eM218 => ?_)
            replace h := nm_s eM218 h
            refine g_aload_n 1 dX9_clauseRead_63 rfl ?_
            refine g_getR dX9_clauseRead_64 flX9_117 (by decide) rfl hx0 ?_
            refine g_pc (pc' := 67) rfl ?_
            refine g_aload_n 1 dX9_clauseRead_67 rfl ?_
            refine g_getI dX9_clauseRead_68 flX9_400 (by decide) rfl hx0 ?_
            refine g_iload_n 0 dX9_clauseRead_71 rfl ?_
            obtain ⟨c219, h⟩ := chk_some h
            refine g_iast dX9_clauseRead_72 (sf_8_52 hx0) c219.1 c219.2 ?_
            refine g_nmM (fun M220 eM220 => ?_)
            replace h := nm_s eM220 h
            refine g_iload_n 0 dX9_clauseRead_73 rfl ?_
            refine g_bip dX9_clauseRead_74 rfl ?_
            refine g_icmp_ne (tgt := 155) dX9_clauseRead_76 (by decide) (fun b221 => ?_) (fun b221 => ?_)
            · replace h := ifn b221 h
              refine g_iload_n 0 dX9_clauseRead_155 rfl ?_
              refine g_bip dX9_clauseRead_156 rfl ?_
              obtain ⟨t229, ht229, h⟩ := bnd_some h
              have Kt229 : Go X mX9_clauseRead (d + 2) 186 [(0, XR x0)] [] t229 (pV q) := by
                refine g_aload_n 0 dX9_clauseRead_186 rfl ?_
                refine g_getI dX9_clauseRead_187 flX9_377 (by decide) rfl hx0 ?_
                obtain ⟨t240, ht240, h⟩ := bnd_some h
                have Kt240 : Go X mX9_clauseRead (d + 2) 203 [] [] t240 (pV q) := by
                  cases h
                  exact g_return dX9_clauseRead_203 rfl ⟨rfl, rfl⟩
                refine g_if_ge (tgt := 203) dX9_clauseRead_190 (by decide) (fun b241 => ?_) (fun b241 => ?_)
                · replace ht240 := ifp b241 ht240
                  cases ht240
                  exact g_sub [] rfl Kt240
                · replace ht240 := ifn b241 ht240
                  refine g_pc (pc' := 193) rfl ?_
                  refine g_aload_n 0 dX9_clauseRead_193 rfl ?_
                  refine g_dupR dX9_clauseRead_194 ?_
                  refine g_getI dX9_clauseRead_195 flX9_400 (by decide) rfl hx0 ?_
                  refine g_iconst (v := 1) dX9_clauseRead_198 rfl (i32l rfl) ?_
                  obtain ⟨c242, ht240⟩ := chk_some ht240
                  refine g_iadd dX9_clauseRead_199 rfl c242 ?_
                  refine g_putI dX9_clauseRead_200 flX9_400 (by decide) rfl hx0 ?_
                  refine g_nmM (fun M243 eM243 => ?_)
                  replace ht240 := nm_s eM243 ht240
                  cases ht240
                  exact g_sub [] rfl Kt240
              refine g_icmp_eq (tgt := 186) dX9_clauseRead_158 (by decide) (fun b230 => ?_) (fun b230 => ?_)
              · replace ht229 := ifp b230 ht229
                cases ht229
                exact g_sub [1] rfl Kt229
              · replace ht229 := ifn b230 ht229
                refine g_pc (pc' := 161) rfl ?_
                refine g_aload_n 1 dX9_clauseRead_161 rfl ?_
                refine g_getR dX9_clauseRead_162 flX9_120 (by decide) rfl hx0 ?_
                refine g_aload_n 1 dX9_clauseRead_165 rfl ?_
                refine g_getI dX9_clauseRead_166 flX9_400 (by decide) rfl hx0 ?_
                refine g_aload_n 1 dX9_clauseRead_169 rfl ?_
                refine g_iload_n 0 dX9_clauseRead_170 rfl ?_
                refine g_bip dX9_clauseRead_171 rfl ?_
                obtain ⟨t232, ht232, ht229⟩ := bnd_some ht229
                have Kt232 : Go X mX9_clauseRead (d + 2) 182 [(0, XR x0)] [XI t232, XR x0, XI (M220 x0 49), XR (x0 + 54)] M220 (pV q) := by
                  obtain ⟨q234, hq234, ht229⟩ := bnd_some ht229
                  refine v_I (ci := 8) (as := [XI t232]) dX9_clauseRead_182 mlX9_403 mdX9_numberRead mvX9_numberRead rfl hx0 rfl (Nat.le_of_ble_eq_true rfl) (kX9_numberRead hx0 hq234) rfl ?_
                  obtain ⟨c235, ht229⟩ := chk_some ht229
                  refine g_iast dX9_clauseRead_185 (sf_8_53 hx0) c235.1 c235.2 ?_
                  refine g_nmM (fun M236 eM236 => ?_)
                  replace ht229 := nm_s eM236 ht229
                  cases ht229
                  exact g_sub [0] rfl Kt229
                refine g_icmp_ne (tgt := 181) dX9_clauseRead_173 (by decide) (fun b233 => ?_) (fun b233 => ?_)
                · replace ht232 := ifn b233 ht232
                  refine g_iconst (v := 1) dX9_clauseRead_181 rfl (i32l rfl) ?_
                  cases ht232
                  exact g_sub [1] rfl Kt232
                · replace ht232 := ifp b233 ht232
                  refine g_pc (pc' := 176) rfl ?_
                  refine g_bip dX9_clauseRead_176 rfl ?_
                  refine g_goto (tgt := 182) dX9_clauseRead_178 (by decide) ?_
                  cases ht232
                  exact g_sub [1] rfl Kt232
            · replace h := ifp b221 h
              refine g_pc (pc' := 79) rfl ?_
              refine g_aload_n 1 dX9_clauseRead_79 rfl ?_
              refine g_getR dX9_clauseRead_80 flX9_120 (by decide) rfl hx0 ?_
              refine g_aload_n 1 dX9_clauseRead_83 rfl ?_
              refine g_getI dX9_clauseRead_84 flX9_400 (by decide) rfl hx0 ?_
              refine g_aload_n 1 dX9_clauseRead_87 rfl ?_
              refine g_bip dX9_clauseRead_88 rfl ?_
              obtain ⟨q244, hq244, h⟩ := bnd_some h
              refine v_I (ci := 8) (as := [XI 8]) dX9_clauseRead_90 mlX9_403 mdX9_numberRead mvX9_numberRead rfl hx0 rfl (Nat.le_of_ble_eq_true rfl) (kX9_numberRead hx0 hq244) rfl ?_
              obtain ⟨c245, h⟩ := chk_some h
              refine g_iast dX9_clauseRead_93 (sf_8_53 hx0) c245.1 c245.2 ?_
              refine g_nmM (fun M246 eM246 => ?_)
              replace h := nm_s eM246 h
              refine g_pc (pc' := 94) rfl ?_
              refine g_aload_n 1 dX9_clauseRead_94 rfl ?_
              refine g_getI dX9_clauseRead_95 flX9_377 (by decide) rfl hx0 ?_
              obtain ⟨t251, ht251, h⟩ := bnd_some h
              have Kt251 : Go X mX9_clauseRead (d + 2) 119 [(0, XR x0)] [] t251 (pV q) := by
                refine g_aload_n 0 dX9_clauseRead_119 rfl ?_
                refine g_getI dX9_clauseRead_120 flX9_377 (by decide) rfl hx0 ?_
                refine g_if_lt (tgt := 127) dX9_clauseRead_123 (by decide) (fun b256 => ?_) (fun b256 => ?_)
                · replace h := ifp b256 h
                  refine g_aload_n 0 dX9_clauseRead_127 rfl ?_
                  refine g_dupR dX9_clauseRead_128 ?_
                  refine g_getI dX9_clauseRead_129 flX9_380 (by decide) rfl hx0 ?_
                  refine g_iconst (v := 1) dX9_clauseRead_132 rfl (i32l rfl) ?_
                  obtain ⟨c257, h⟩ := chk_some h
                  refine g_iadd dX9_clauseRead_133 rfl c257 ?_
                  refine g_putI dX9_clauseRead_134 flX9_380 (by decide) rfl hx0 ?_
                  refine g_nmM (fun M258 eM258 => ?_)
                  replace h := nm_s eM258 h
                  refine g_aload_n 0 dX9_clauseRead_137 rfl ?_
                  refine g_getR dX9_clauseRead_138 flX9_123 (by decide) rfl hx0 ?_
                  refine g_pc (pc' := 141) rfl ?_
                  refine g_aload_n 0 dX9_clauseRead_141 rfl ?_
                  refine g_getI dX9_clauseRead_142 flX9_400 (by decide) rfl hx0 ?_
                  refine g_aload_n 0 dX9_clauseRead_145 rfl ?_
                  refine g_bip dX9_clauseRead_146 rfl ?_
                  obtain ⟨q259, hq259, h⟩ := bnd_some h
                  refine v_I (ci := 8) (as := [XI 7]) dX9_clauseRead_148 mlX9_403 mdX9_numberRead mvX9_numberRead rfl hx0 rfl (Nat.le_of_ble_eq_true rfl) (kX9_numberRead hx0 hq259) rfl ?_
                  obtain ⟨c260, h⟩ := chk_some h
                  refine g_iast dX9_clauseRead_151 (sf_8_54 hx0) c260.1 c260.2 ?_
                  refine g_nmM (fun M261 eM261 => ?_)
                  replace h := nm_s eM261 h
                  refine g_goto (tgt := 186) dX9_clauseRead_152 (by decide) ?_
                  refine g_aload_n 0 dX9_clauseRead_186 rfl ?_
                  refine g_getI dX9_clauseRead_187 flX9_377 (by decide) rfl hx0 ?_
                  obtain ⟨t265, ht265, h⟩ := bnd_some h
                  have Kt265 : Go X mX9_clauseRead (d + 2) 203 [] [] t265 (pV q) := by
                    cases h
                    exact g_return dX9_clauseRead_203 rfl ⟨rfl, rfl⟩
                  refine g_if_ge (tgt := 203) dX9_clauseRead_190 (by decide) (fun b266 => ?_) (fun b266 => ?_)
                  · replace ht265 := ifp b266 ht265
                    cases ht265
                    exact g_sub [] rfl Kt265
                  · replace ht265 := ifn b266 ht265
                    refine g_pc (pc' := 193) rfl ?_
                    refine g_aload_n 0 dX9_clauseRead_193 rfl ?_
                    refine g_dupR dX9_clauseRead_194 ?_
                    refine g_getI dX9_clauseRead_195 flX9_400 (by decide) rfl hx0 ?_
                    refine g_iconst (v := 1) dX9_clauseRead_198 rfl (i32l rfl) ?_
                    obtain ⟨c267, ht265⟩ := chk_some ht265
                    refine g_iadd dX9_clauseRead_199 rfl c267 ?_
                    refine g_putI dX9_clauseRead_200 flX9_400 (by decide) rfl hx0 ?_
                    refine g_nmM (fun M268 eM268 => ?_)
                    replace ht265 := nm_s eM268 ht265
                    cases ht265
                    exact g_sub [] rfl Kt265
                · replace h := ifn b256 h
                  refine g_pc (pc' := 126) rfl ?_
                  cases h
                  exact g_return dX9_clauseRead_126 rfl ⟨rfl, rfl⟩
              refine g_if_ge (tgt := 119) dX9_clauseRead_98 (by decide) (fun b252 => ?_) (fun b252 => ?_)
              · replace ht251 := ifp b252 ht251
                cases ht251
                exact g_sub [1] rfl Kt251
              · replace ht251 := ifn b252 ht251
                refine g_pc (pc' := 101) rfl ?_
                refine g_aload_n 1 dX9_clauseRead_101 rfl ?_
                refine g_aload_n 1 dX9_clauseRead_102 rfl ?_
                refine g_getI dX9_clauseRead_103 flX9_380 (by decide) rfl hx0 ?_
                obtain ⟨q253, hq253, ht251⟩ := bnd_some ht251
                refine v_I (ci := 8) (as := [XI (M246 x0 47)]) dX9_clauseRead_106 mlX9_387 mdX9_signAt mvX9_signAt rfl hx0 rfl (Nat.le_of_ble_eq_true rfl) (kX9_signAt hx0 hq253) rfl ?_
                refine g_bip dX9_clauseRead_109 rfl ?_
                refine g_icmp_eq (tgt := 119) dX9_clauseRead_111 (by decide) (fun b254 => ?_) (fun b254 => ?_)
                · replace ht251 := ifp b254 ht251
                  cases ht251
                  exact g_sub [1] rfl Kt251
                · replace ht251 := ifn b254 ht251
                  refine g_pc (pc' := 114) rfl ?_
                  refine g_aload_n 1 dX9_clauseRead_114 rfl ?_
                  refine g_iconst (v := 0) dX9_clauseRead_115 rfl (i32l rfl) ?_
                  obtain ⟨q255, hq255, ht251⟩ := bnd_some ht251
                  refine v_V (ci := 8) (as := [XI 0]) dX9_clauseRead_116 mlX9_394 mdX9_fails mvX9_fails rfl hx0 rfl (Nat.le_of_ble_eq_true rfl) (kX9_fails hx0 hq255) rfl ?_
                  cases ht251
                  exact g_sub [1] rfl Kt251
          · replace h := ifn b216 h
            refine g_pc (pc' := 47) rfl ?_
            refine g_aload_n 1 dX9_clauseRead_47 rfl ?_
            refine g_iconst (v := 0) dX9_clauseRead_48 rfl (i32l rfl) ?_
            obtain ⟨q269, hq269, h⟩ := bnd_some h
            refine v_V (ci := 8) (as := [XI 0]) dX9_clauseRead_49 mlX9_394 mdX9_fails mvX9_fails rfl hx0 rfl (Nat.le_of_ble_eq_true rfl) (kX9_fails hx0 hq269) rfl ?_
            cases h
            exact g_return dX9_clauseRead_52 rfl ⟨rfl, rfl⟩
end
