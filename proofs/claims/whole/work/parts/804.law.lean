section
set_option maxHeartbeats 4000000 in
set_option maxRecDepth 20000 in
theorem law_loop {X : XC} {d : Nat} {Post : Option XV → Mem → Prop} (hL : X.2.2.2.2.1 ≤ 3072) (hp : ∀ M, Post (some (XI 1)) M) : ∀ (n : Nat) (i : Int) (M : Mem), 0 ≤ i → (X.2.2.2.2.1 : Int) - i < n → i ≤ 4000 → INV M → Go X mL_law (d + 9) 18 [(3, XI i), (2, XR 20000), (1, XR 10), (0, XR 5)] [] M Post := by
  intro n
  induction n with
  | zero =>
    intro i M h0 h1 h2 hI
    refine g_iload_n 0 dL_law_18 rfl ?_
    refine g_aload_n 3 dL_law_19 rfl ?_
    refine g_alenS (by omega) dL_law_20 ?_
    refine g_bip dL_law_21 rfl ?_
    refine g_isub dL_law_23 rfl ⟨by omega, by omega⟩ ?_
    refine g_icmp_gt (tgt := 1433) dL_law_24 (by decide) (fun _ => ?_) (fun b => absurd (show _ < _ by omega) b)
    refine g_iconst (v := 1) dL_law_1433 rfl (i32l rfl) ?_
    exact g_zreturn dL_law_1434 rfl (by decide) (hp _)
  | succ n ih =>
    intro i M h0 h1 h2 hI
    refine g_iload_n 0 dL_law_18 rfl ?_
    refine g_aload_n 3 dL_law_19 rfl ?_
    refine g_alenS (by omega) dL_law_20 ?_
    refine g_bip dL_law_21 rfl ?_
    refine g_isub dL_law_23 rfl ⟨by omega, by omega⟩ ?_
    refine g_icmp_gt (tgt := 1433) dL_law_24 (by decide) (fun _ => ?_) (fun b => ?_)
    · refine g_iconst (v := 1) dL_law_1433 rfl (i32l rfl) ?_
      exact g_zreturn dL_law_1434 rfl (by decide) (hp _)
    have h3 : i + 6 ≤ (X.2.2.2.2.1 : Int) := by omega
    have K : ∀ M2, INV M2 → Go X mL_law (d + 9) 1427 [(3, XI i), (2, XR 20000), (1, XR 10), (0, XR 5)] [] M2 Post := fun M2 hI2 => by
      refine g_iinc (ls' := [(3, XI (i + 6)), (2, XR 20000), (1, XR 10), (0, XR 5)]) 0 dL_law_1427 rfl rfl ⟨by omega, by omega⟩ (by decide) rfl ?_
      refine g_goto (tgt := 18) dL_law_1430 (by decide) ?_
      exact ih (i + 6) M2 (by omega) (by omega) (by omega) hI2
    refine g_pc (pc' := 27) rfl ?_
    refine g_aload_n 3 dL_law_27 rfl ?_
    refine g_iload_n 0 dL_law_28 rfl ?_
    refine g_ialdS dL_law_29 h0 (by omega) ?_
    refine g_bip dL_law_30 rfl ?_
    refine g_iand dL_law_32 ?_
    refine g_pc (pc' := 33) rfl ?_
    generalize (bAnd (X.2.2.2.2.2 (Int.toNat i)).toInt 63) = e
    by_cases b0 : e = 0
    · exact g_tswIn (off := 171) (tgt := 204) dL_law_33 (by rw [b0]; decide) (by rw [b0]; decide) (by rw [b0]; rfl) (by decide) (law_c0 h0 h3 hL hI K)
    by_cases b1 : e = 1
    · exact g_tswIn (off := 184) (tgt := 217) dL_law_33 (by rw [b1]; decide) (by rw [b1]; decide) (by rw [b1]; rfl) (by decide) (law_c1 h0 h3 hL hI K)
    by_cases b2 : e = 2
    · exact g_tswIn (off := 217) (tgt := 250) dL_law_33 (by rw [b2]; decide) (by rw [b2]; decide) (by rw [b2]; rfl) (by decide) (law_c2 h0 h3 hL hI K)
    by_cases b3 : e = 3
    · exact g_tswIn (off := 250) (tgt := 283) dL_law_33 (by rw [b3]; decide) (by rw [b3]; decide) (by rw [b3]; rfl) (by decide) (law_c3 h0 h3 hL hI K)
    by_cases b4 : e = 4
    · exact g_tswIn (off := 263) (tgt := 296) dL_law_33 (by rw [b4]; decide) (by rw [b4]; decide) (by rw [b4]; rfl) (by decide) (law_c4 h0 h3 hL hI K)
    by_cases b5 : e = 5
    · exact g_tswIn (off := 312) (tgt := 345) dL_law_33 (by rw [b5]; decide) (by rw [b5]; decide) (by rw [b5]; rfl) (by decide) (law_c5 h0 h3 hL hI K)
    by_cases b6 : e = 6
    · exact g_tswIn (off := 345) (tgt := 378) dL_law_33 (by rw [b6]; decide) (by rw [b6]; decide) (by rw [b6]; rfl) (by decide) (law_c6 h0 h3 hL hI K)
    by_cases b7 : e = 7
    · exact g_tswIn (off := 378) (tgt := 411) dL_law_33 (by rw [b7]; decide) (by rw [b7]; decide) (by rw [b7]; rfl) (by decide) (law_c7 h0 h3 hL hI K)
    by_cases b8 : e = 8
    · exact g_tswIn (off := 411) (tgt := 444) dL_law_33 (by rw [b8]; decide) (by rw [b8]; decide) (by rw [b8]; rfl) (by decide) (law_c8 h0 h3 hL hI K)
    by_cases b9 : e = 9
    · exact g_tswIn (off := 444) (tgt := 477) dL_law_33 (by rw [b9]; decide) (by rw [b9]; decide) (by rw [b9]; rfl) (by decide) (law_c9 h0 h3 hL hI K)
    by_cases b10 : e = 10
    · exact g_tswIn (off := 477) (tgt := 510) dL_law_33 (by rw [b10]; decide) (by rw [b10]; decide) (by rw [b10]; rfl) (by decide) (law_c10 h0 h3 hL hI K)
    by_cases b11 : e = 11
    · exact g_tswIn (off := 500) (tgt := 533) dL_law_33 (by rw [b11]; decide) (by rw [b11]; decide) (by rw [b11]; rfl) (by decide) (law_c11 h0 h3 hL hI K)
    by_cases b12 : e = 12
    · exact g_tswIn (off := 533) (tgt := 566) dL_law_33 (by rw [b12]; decide) (by rw [b12]; decide) (by rw [b12]; rfl) (by decide) (law_c12 h0 h3 hL hI K)
    by_cases b13 : e = 13
    · exact g_tswIn (off := 567) (tgt := 600) dL_law_33 (by rw [b13]; decide) (by rw [b13]; decide) (by rw [b13]; rfl) (by decide) (law_c13 h0 h3 hL hI K)
    by_cases b14 : e = 14
    · exact g_tswIn (off := 611) (tgt := 644) dL_law_33 (by rw [b14]; decide) (by rw [b14]; decide) (by rw [b14]; rfl) (by decide) (law_c14 h0 h3 hL hI K)
    by_cases b15 : e = 15
    · exact g_tswIn (off := 634) (tgt := 667) dL_law_33 (by rw [b15]; decide) (by rw [b15]; decide) (by rw [b15]; rfl) (by decide) (law_c15 h0 h3 hL hI K)
    by_cases b16 : e = 16
    · exact g_tswIn (off := 657) (tgt := 690) dL_law_33 (by rw [b16]; decide) (by rw [b16]; decide) (by rw [b16]; rfl) (by decide) (law_c16 h0 h3 hL hI K)
    by_cases b17 : e = 17
    · exact g_tswIn (off := 690) (tgt := 723) dL_law_33 (by rw [b17]; decide) (by rw [b17]; decide) (by rw [b17]; rfl) (by decide) (law_c17 h0 h3 hL hI K)
    by_cases b18 : e = 18
    · exact g_tswIn (off := 723) (tgt := 756) dL_law_33 (by rw [b18]; decide) (by rw [b18]; decide) (by rw [b18]; rfl) (by decide) (law_c18 h0 h3 hL hI K)
    by_cases b19 : e = 19
    · exact g_tswIn (off := 756) (tgt := 789) dL_law_33 (by rw [b19]; decide) (by rw [b19]; decide) (by rw [b19]; rfl) (by decide) (law_c19 h0 h3 hL hI K)
    by_cases b20 : e = 20
    · exact g_tswIn (off := 769) (tgt := 802) dL_law_33 (by rw [b20]; decide) (by rw [b20]; decide) (by rw [b20]; rfl) (by decide) (law_c20 h0 h3 hL hI K)
    by_cases b21 : e = 21
    · exact g_tswIn (off := 813) (tgt := 846) dL_law_33 (by rw [b21]; decide) (by rw [b21]; decide) (by rw [b21]; rfl) (by decide) (law_c21 h0 h3 hL hI K)
    by_cases b22 : e = 22
    · exact g_tswIn (off := 836) (tgt := 869) dL_law_33 (by rw [b22]; decide) (by rw [b22]; decide) (by rw [b22]; rfl) (by decide) (law_c22 h0 h3 hL hI K)
    by_cases b23 : e = 23
    · exact g_tswIn (off := 869) (tgt := 902) dL_law_33 (by rw [b23]; decide) (by rw [b23]; decide) (by rw [b23]; rfl) (by decide) (law_c23 h0 h3 hL hI K)
    by_cases b24 : e = 24
    · exact g_tswIn (off := 902) (tgt := 935) dL_law_33 (by rw [b24]; decide) (by rw [b24]; decide) (by rw [b24]; rfl) (by decide) (law_c24 h0 h3 hL hI K)
    by_cases b25 : e = 25
    · exact g_tswIn (off := 951) (tgt := 984) dL_law_33 (by rw [b25]; decide) (by rw [b25]; decide) (by rw [b25]; rfl) (by decide) (law_c25 h0 h3 hL hI K)
    by_cases b26 : e = 26
    · exact g_tswIn (off := 974) (tgt := 1007) dL_law_33 (by rw [b26]; decide) (by rw [b26]; decide) (by rw [b26]; rfl) (by decide) (law_c26 h0 h3 hL hI K)
    by_cases b27 : e = 27
    · exact g_tswIn (off := 1007) (tgt := 1040) dL_law_33 (by rw [b27]; decide) (by rw [b27]; decide) (by rw [b27]; rfl) (by decide) (law_c27 h0 h3 hL hI K)
    by_cases b28 : e = 28
    · exact g_tswIn (off := 1020) (tgt := 1053) dL_law_33 (by rw [b28]; decide) (by rw [b28]; decide) (by rw [b28]; rfl) (by decide) (law_c28 h0 h3 hL hI K)
    by_cases b29 : e = 29
    · exact g_tswIn (off := 1043) (tgt := 1076) dL_law_33 (by rw [b29]; decide) (by rw [b29]; decide) (by rw [b29]; rfl) (by decide) (law_c29 h0 h3 hL hI K)
    by_cases b30 : e = 30
    · exact g_tswIn (off := 1056) (tgt := 1089) dL_law_33 (by rw [b30]; decide) (by rw [b30]; decide) (by rw [b30]; rfl) (by decide) (law_c30 h0 h3 hL hI K)
    by_cases b31 : e = 31
    · exact g_tswIn (off := 1089) (tgt := 1122) dL_law_33 (by rw [b31]; decide) (by rw [b31]; decide) (by rw [b31]; rfl) (by decide) (law_c31 h0 h3 hL hI K)
    by_cases b32 : e = 32
    · exact g_tswIn (off := 1132) (tgt := 1165) dL_law_33 (by rw [b32]; decide) (by rw [b32]; decide) (by rw [b32]; rfl) (by decide) (law_c32 h0 h3 hL hI K)
    by_cases b33 : e = 33
    · exact g_tswIn (off := 1145) (tgt := 1178) dL_law_33 (by rw [b33]; decide) (by rw [b33]; decide) (by rw [b33]; rfl) (by decide) (law_c33 h0 h3 hL hI K)
    by_cases b34 : e = 34
    · exact g_tswIn (off := 1158) (tgt := 1191) dL_law_33 (by rw [b34]; decide) (by rw [b34]; decide) (by rw [b34]; rfl) (by decide) (law_c34 h0 h3 hL hI K)
    by_cases b35 : e = 35
    · exact g_tswIn (off := 1181) (tgt := 1214) dL_law_33 (by rw [b35]; decide) (by rw [b35]; decide) (by rw [b35]; rfl) (by decide) (law_c35 h0 h3 hL hI K)
    by_cases b36 : e = 36
    · exact g_tswIn (off := 1224) (tgt := 1257) dL_law_33 (by rw [b36]; decide) (by rw [b36]; decide) (by rw [b36]; rfl) (by decide) (law_c36 h0 h3 hL hI K)
    by_cases b37 : e = 37
    · exact g_tswIn (off := 1297) (tgt := 1330) dL_law_33 (by rw [b37]; decide) (by rw [b37]; decide) (by rw [b37]; rfl) (by decide) (law_c37 h0 h3 hL hI K)
    by_cases b38 : e = 38
    · exact g_tswIn (off := 1331) (tgt := 1364) dL_law_33 (by rw [b38]; decide) (by rw [b38]; decide) (by rw [b38]; rfl) (by decide) (law_c38 h0 h3 hL hI K)
    exact g_tswOut (tgt := 1427) dL_law_33 (by omega) (by decide) (K M hI)
theorem law_body {X : XC} {d : Nat} {Post : Option XV → Mem → Prop} {M : Mem} (hL : X.2.2.2.2.1 ≤ 3072) (hp : ∀ M, Post (some (XI 1)) M) (hI : INV M) : Go X mL_law (d + 9) 16 [(2, XR 20000), (1, XR 10), (0, XR 5)] [] M Post := by
  refine g_iconst (v := 0) dL_law_16 rfl (i32l rfl) ?_
  refine g_istore_n (ls' := [(3, XI 0), (2, XR 20000), (1, XR 10), (0, XR 5)]) dL_law_17 (by decide) rfl ?_
  exact law_loop hL hp (X.2.2.2.2.1 + 1) 0 M (Int.le_refl 0) (by omega) (by omega) hI
end
