section
set_option maxHeartbeats 4000000 in
set_option maxRecDepth 20000 in
theorem law_c26 {X : XC} {d : Nat} {i : Int} {M : Mem} {Post : Option XV → Mem → Prop} (h0 : 0 ≤ i) (h1 : i + 6 ≤ (X.2.2.2.2.1 : Int)) (hL : X.2.2.2.2.1 ≤ 3072) (hI : INV M) (K : ∀ M2, INV M2 → Go X mL_law (d + 9) 1427 [(3, XI i), (2, XR 20000), (1, XR 10), (0, XR 5)] [] M2 Post) : Go X mL_law (d + 9) 1007 [(3, XI i), (2, XR 20000), (1, XR 10), (0, XR 5)] [] M Post := by
  obtain ⟨s, hs, hC, hD⟩ := hI
  have hr : ∀ k : Int, 0 ≤ k ∧ k ≤ 6 → i32 (i + k) := fun k hk => ⟨by omega, by omega⟩
  obtain ⟨q, eq, r, er, hq, hJ⟩ := (op_event hs (X.2.2.2.2.2 (Int.toNat (i + 1))).toInt (X.2.2.2.2.2 (Int.toNat (i + 2))).toInt).both hC hD
  refine g_aload_n 2 dL_law_1007 rfl ?_
  refine g_aload_n 3 dL_law_1008 rfl ?_
  refine g_iload_n 0 dL_law_1009 rfl ?_
  refine g_iconst (v := 1) dL_law_1010 rfl (i32l rfl) ?_
  refine g_iadd dL_law_1011 rfl (hr 1 (by omega)) ?_
  refine g_ialdS dL_law_1012 (by omega) (by omega) ?_
  refine g_aload_n 3 dL_law_1013 rfl ?_
  refine g_iload_n 0 dL_law_1014 rfl ?_
  refine g_pc (pc' := 1015) rfl ?_
  refine g_iconst (v := 2) dL_law_1015 rfl (i32l rfl) ?_
  refine g_iadd dL_law_1016 rfl (hr 2 (by omega)) ?_
  refine g_ialdS dL_law_1017 (by omega) (by omega) ?_
  refine v_I (ci := 7) (as := [XI (X.2.2.2.2.2 (Int.toNat (i + 1))).toInt, XI (X.2.2.2.2.2 (Int.toNat (i + 2))).toInt]) dL_law_1018 mlL_123 mdX8_event mvX8_event rfl lw10 rfl (Nat.le_of_ble_eq_true rfl) (kX8_event lw10 eq) rfl ?_
  refine g_aload_n 1 dL_law_1021 rfl ?_
  refine g_aload_n 3 dL_law_1022 rfl ?_
  refine g_iload_n 0 dL_law_1023 rfl ?_
  refine g_iconst (v := 1) dL_law_1024 rfl (i32l rfl) ?_
  refine g_pc (pc' := 1025) rfl ?_
  refine g_iadd dL_law_1025 rfl (hr 1 (by omega)) ?_
  refine g_ialdS dL_law_1026 (by omega) (by omega) ?_
  refine g_aload_n 3 dL_law_1027 rfl ?_
  refine g_iload_n 0 dL_law_1028 rfl ?_
  refine g_iconst (v := 2) dL_law_1029 rfl (i32l rfl) ?_
  refine g_iadd dL_law_1030 rfl (hr 2 (by omega)) ?_
  refine g_ialdS dL_law_1031 (by omega) (by omega) ?_
  refine v_I (ci := 8) (as := [XI (X.2.2.2.2.2 (Int.toNat (i + 1))).toInt, XI (X.2.2.2.2.2 (Int.toNat (i + 2))).toInt]) dL_law_1032 mlL_126 mdX9_event mvX9_event rfl lw20 rfl (Nat.le_of_ble_eq_true rfl) (kX9_event lw20 er) rfl ?_
  refine g_pc (pc' := 1035) rfl ?_
  exact g_icmp_eq (tgt := 1427) dL_law_1035 (by decide) (fun _ => K _ hJ) (fun b => absurd hq b)
set_option maxHeartbeats 4000000 in
set_option maxRecDepth 20000 in
theorem law_c27 {X : XC} {d : Nat} {i : Int} {M : Mem} {Post : Option XV → Mem → Prop} (h0 : 0 ≤ i) (h1 : i + 6 ≤ (X.2.2.2.2.1 : Int)) (hL : X.2.2.2.2.1 ≤ 3072) (hI : INV M) (K : ∀ M2, INV M2 → Go X mL_law (d + 9) 1427 [(3, XI i), (2, XR 20000), (1, XR 10), (0, XR 5)] [] M2 Post) : Go X mL_law (d + 9) 1040 [(3, XI i), (2, XR 20000), (1, XR 10), (0, XR 5)] [] M Post := by
  obtain ⟨s, hs, hC, hD⟩ := hI
  have hr : ∀ k : Int, 0 ≤ k ∧ k ≤ 6 → i32 (i + k) := fun k hk => ⟨by omega, by omega⟩
  obtain ⟨q, eq, r, er, hq, hJ⟩ := (op_after hs).both hC hD
  refine g_aload_n 2 dL_law_1040 rfl ?_
  refine v_I (ci := 7) (as := []) dL_law_1041 mlL_127 mdX8_after mvX8_after rfl lw10 rfl (Nat.le_of_ble_eq_true rfl) (kX8_after lw10 eq) rfl ?_
  refine g_aload_n 1 dL_law_1044 rfl ?_
  refine v_I (ci := 8) (as := []) dL_law_1045 mlL_130 mdX9_after mvX9_after rfl lw20 rfl (Nat.le_of_ble_eq_true rfl) (kX9_after lw20 er) rfl ?_
  exact g_icmp_eq (tgt := 1427) dL_law_1048 (by decide) (fun _ => K _ hJ) (fun b => absurd hq b)
set_option maxHeartbeats 4000000 in
set_option maxRecDepth 20000 in
theorem law_c28 {X : XC} {d : Nat} {i : Int} {M : Mem} {Post : Option XV → Mem → Prop} (h0 : 0 ≤ i) (h1 : i + 6 ≤ (X.2.2.2.2.1 : Int)) (hL : X.2.2.2.2.1 ≤ 3072) (hI : INV M) (K : ∀ M2, INV M2 → Go X mL_law (d + 9) 1427 [(3, XI i), (2, XR 20000), (1, XR 10), (0, XR 5)] [] M2 Post) : Go X mL_law (d + 9) 1053 [(3, XI i), (2, XR 20000), (1, XR 10), (0, XR 5)] [] M Post := by
  obtain ⟨s, hs, hC, hD⟩ := hI
  have hr : ∀ k : Int, 0 ≤ k ∧ k ≤ 6 → i32 (i + k) := fun k hk => ⟨by omega, by omega⟩
  obtain ⟨q, eq, r, er, hq, hJ⟩ := (op_feed hs (X.2.2.2.2.2 (Int.toNat (i + 1))).toInt).both hC hD
  refine g_aload_n 2 dL_law_1053 rfl ?_
  refine g_aload_n 3 dL_law_1054 rfl ?_
  refine g_iload_n 0 dL_law_1055 rfl ?_
  refine g_iconst (v := 1) dL_law_1056 rfl (i32l rfl) ?_
  refine g_iadd dL_law_1057 rfl (hr 1 (by omega)) ?_
  refine g_ialdS dL_law_1058 (by omega) (by omega) ?_
  refine v_I (ci := 7) (as := [XI (X.2.2.2.2.2 (Int.toNat (i + 1))).toInt]) dL_law_1059 mlL_131 mdX8_feed mvX8_feed rfl lw10 rfl (Nat.le_of_ble_eq_true rfl) (kX8_feed lw10 eq) rfl ?_
  refine g_pc (pc' := 1062) rfl ?_
  refine g_aload_n 1 dL_law_1062 rfl ?_
  refine g_aload_n 3 dL_law_1063 rfl ?_
  refine g_iload_n 0 dL_law_1064 rfl ?_
  refine g_iconst (v := 1) dL_law_1065 rfl (i32l rfl) ?_
  refine g_iadd dL_law_1066 rfl (hr 1 (by omega)) ?_
  refine g_ialdS dL_law_1067 (by omega) (by omega) ?_
  refine v_I (ci := 8) (as := [XI (X.2.2.2.2.2 (Int.toNat (i + 1))).toInt]) dL_law_1068 mlL_134 mdX9_feed mvX9_feed rfl lw20 rfl (Nat.le_of_ble_eq_true rfl) (kX9_feed lw20 er) rfl ?_
  exact g_icmp_eq (tgt := 1427) dL_law_1071 (by decide) (fun _ => K _ hJ) (fun b => absurd hq b)
set_option maxHeartbeats 4000000 in
set_option maxRecDepth 20000 in
theorem law_c29 {X : XC} {d : Nat} {i : Int} {M : Mem} {Post : Option XV → Mem → Prop} (h0 : 0 ≤ i) (h1 : i + 6 ≤ (X.2.2.2.2.1 : Int)) (hL : X.2.2.2.2.1 ≤ 3072) (hI : INV M) (K : ∀ M2, INV M2 → Go X mL_law (d + 9) 1427 [(3, XI i), (2, XR 20000), (1, XR 10), (0, XR 5)] [] M2 Post) : Go X mL_law (d + 9) 1076 [(3, XI i), (2, XR 20000), (1, XR 10), (0, XR 5)] [] M Post := by
  obtain ⟨s, hs, hC, hD⟩ := hI
  have hr : ∀ k : Int, 0 ≤ k ∧ k ≤ 6 → i32 (i + k) := fun k hk => ⟨by omega, by omega⟩
  obtain ⟨q, eq, r, er, hq, hJ⟩ := (op_read hs).both hC hD
  refine g_aload_n 2 dL_law_1076 rfl ?_
  refine v_I (ci := 7) (as := []) dL_law_1077 mlL_135 mdX8_read mvX8_read rfl lw10 rfl (Nat.le_of_ble_eq_true rfl) (kX8_read lw10 eq) rfl ?_
  refine g_aload_n 1 dL_law_1080 rfl ?_
  refine v_I (ci := 8) (as := []) dL_law_1081 mlL_138 mdX9_read mvX9_read rfl lw20 rfl (Nat.le_of_ble_eq_true rfl) (kX9_read lw20 er) rfl ?_
  exact g_icmp_eq (tgt := 1427) dL_law_1084 (by decide) (fun _ => K _ hJ) (fun b => absurd hq b)
set_option maxHeartbeats 4000000 in
set_option maxRecDepth 20000 in
theorem law_c30 {X : XC} {d : Nat} {i : Int} {M : Mem} {Post : Option XV → Mem → Prop} (h0 : 0 ≤ i) (h1 : i + 6 ≤ (X.2.2.2.2.1 : Int)) (hL : X.2.2.2.2.1 ≤ 3072) (hI : INV M) (K : ∀ M2, INV M2 → Go X mL_law (d + 9) 1427 [(3, XI i), (2, XR 20000), (1, XR 10), (0, XR 5)] [] M2 Post) : Go X mL_law (d + 9) 1089 [(3, XI i), (2, XR 20000), (1, XR 10), (0, XR 5)] [] M Post := by
  obtain ⟨s, hs, hC, hD⟩ := hI
  have hr : ∀ k : Int, 0 ≤ k ∧ k ≤ 6 → i32 (i + k) := fun k hk => ⟨by omega, by omega⟩
  obtain ⟨q, eq, r, er, hq, hJ⟩ := (op_cause hs (X.2.2.2.2.2 (Int.toNat (i + 1))).toInt (X.2.2.2.2.2 (Int.toNat (i + 2))).toInt).both hC hD
  refine g_aload_n 2 dL_law_1089 rfl ?_
  refine g_aload_n 3 dL_law_1090 rfl ?_
  refine g_iload_n 0 dL_law_1091 rfl ?_
  refine g_iconst (v := 1) dL_law_1092 rfl (i32l rfl) ?_
  refine g_iadd dL_law_1093 rfl (hr 1 (by omega)) ?_
  refine g_ialdS dL_law_1094 (by omega) (by omega) ?_
  refine g_aload_n 3 dL_law_1095 rfl ?_
  refine g_iload_n 0 dL_law_1096 rfl ?_
  refine g_pc (pc' := 1097) rfl ?_
  refine g_iconst (v := 2) dL_law_1097 rfl (i32l rfl) ?_
  refine g_iadd dL_law_1098 rfl (hr 2 (by omega)) ?_
  refine g_ialdS dL_law_1099 (by omega) (by omega) ?_
  refine v_I (ci := 7) (as := [XI (X.2.2.2.2.2 (Int.toNat (i + 1))).toInt, XI (X.2.2.2.2.2 (Int.toNat (i + 2))).toInt]) dL_law_1100 mlL_139 mdX8_cause mvX8_cause rfl lw10 rfl (Nat.le_of_ble_eq_true rfl) (kX8_cause lw10 eq) rfl ?_
  refine g_aload_n 1 dL_law_1103 rfl ?_
  refine g_aload_n 3 dL_law_1104 rfl ?_
  refine g_iload_n 0 dL_law_1105 rfl ?_
  refine g_iconst (v := 1) dL_law_1106 rfl (i32l rfl) ?_
  refine g_pc (pc' := 1107) rfl ?_
  refine g_iadd dL_law_1107 rfl (hr 1 (by omega)) ?_
  refine g_ialdS dL_law_1108 (by omega) (by omega) ?_
  refine g_aload_n 3 dL_law_1109 rfl ?_
  refine g_iload_n 0 dL_law_1110 rfl ?_
  refine g_iconst (v := 2) dL_law_1111 rfl (i32l rfl) ?_
  refine g_iadd dL_law_1112 rfl (hr 2 (by omega)) ?_
  refine g_ialdS dL_law_1113 (by omega) (by omega) ?_
  refine v_I (ci := 8) (as := [XI (X.2.2.2.2.2 (Int.toNat (i + 1))).toInt, XI (X.2.2.2.2.2 (Int.toNat (i + 2))).toInt]) dL_law_1114 mlL_142 mdX9_cause mvX9_cause rfl lw20 rfl (Nat.le_of_ble_eq_true rfl) (kX9_cause lw20 er) rfl ?_
  refine g_pc (pc' := 1117) rfl ?_
  exact g_icmp_eq (tgt := 1427) dL_law_1117 (by decide) (fun _ => K _ hJ) (fun b => absurd hq b)
set_option maxHeartbeats 4000000 in
set_option maxRecDepth 20000 in
theorem law_c31 {X : XC} {d : Nat} {i : Int} {M : Mem} {Post : Option XV → Mem → Prop} (h0 : 0 ≤ i) (h1 : i + 6 ≤ (X.2.2.2.2.1 : Int)) (hL : X.2.2.2.2.1 ≤ 3072) (hI : INV M) (K : ∀ M2, INV M2 → Go X mL_law (d + 9) 1427 [(3, XI i), (2, XR 20000), (1, XR 10), (0, XR 5)] [] M2 Post) : Go X mL_law (d + 9) 1122 [(3, XI i), (2, XR 20000), (1, XR 10), (0, XR 5)] [] M Post := by
  obtain ⟨s, hs, hC, hD⟩ := hI
  have hr : ∀ k : Int, 0 ≤ k ∧ k ≤ 6 → i32 (i + k) := fun k hk => ⟨by omega, by omega⟩
  obtain ⟨q, eq, r, er, hq, hJ⟩ := (op_judge hs (X.2.2.2.2.2 (Int.toNat (i + 1))).toInt (X.2.2.2.2.2 (Int.toNat (i + 2))).toInt (X.2.2.2.2.2 (Int.toNat (i + 3))).toInt).both hC hD
  refine g_aload_n 2 dL_law_1122 rfl ?_
  refine g_aload_n 3 dL_law_1123 rfl ?_
  refine g_iload_n 0 dL_law_1124 rfl ?_
  refine g_iconst (v := 1) dL_law_1125 rfl (i32l rfl) ?_
  refine g_iadd dL_law_1126 rfl (hr 1 (by omega)) ?_
  refine g_ialdS dL_law_1127 (by omega) (by omega) ?_
  refine g_aload_n 3 dL_law_1128 rfl ?_
  refine g_iload_n 0 dL_law_1129 rfl ?_
  refine g_pc (pc' := 1130) rfl ?_
  refine g_iconst (v := 2) dL_law_1130 rfl (i32l rfl) ?_
  refine g_iadd dL_law_1131 rfl (hr 2 (by omega)) ?_
  refine g_ialdS dL_law_1132 (by omega) (by omega) ?_
  refine g_aload_n 3 dL_law_1133 rfl ?_
  refine g_iload_n 0 dL_law_1134 rfl ?_
  refine g_iconst (v := 3) dL_law_1135 rfl (i32l rfl) ?_
  refine g_iadd dL_law_1136 rfl (hr 3 (by omega)) ?_
  refine g_ialdS dL_law_1137 (by omega) (by omega) ?_
  refine v_I (ci := 7) (as := [XI (X.2.2.2.2.2 (Int.toNat (i + 1))).toInt, XI (X.2.2.2.2.2 (Int.toNat (i + 2))).toInt, XI (X.2.2.2.2.2 (Int.toNat (i + 3))).toInt]) dL_law_1138 mlL_143 mdX8_judge mvX8_judge rfl lw10 rfl (Nat.le_of_ble_eq_true rfl) (kX8_judge lw10 eq) rfl ?_
  refine g_pc (pc' := 1141) rfl ?_
  refine g_aload_n 1 dL_law_1141 rfl ?_
  refine g_aload_n 3 dL_law_1142 rfl ?_
  refine g_iload_n 0 dL_law_1143 rfl ?_
  refine g_iconst (v := 1) dL_law_1144 rfl (i32l rfl) ?_
  refine g_iadd dL_law_1145 rfl (hr 1 (by omega)) ?_
  refine g_ialdS dL_law_1146 (by omega) (by omega) ?_
  refine g_aload_n 3 dL_law_1147 rfl ?_
  refine g_iload_n 0 dL_law_1148 rfl ?_
  refine g_iconst (v := 2) dL_law_1149 rfl (i32l rfl) ?_
  refine g_pc (pc' := 1150) rfl ?_
  refine g_iadd dL_law_1150 rfl (hr 2 (by omega)) ?_
  refine g_ialdS dL_law_1151 (by omega) (by omega) ?_
  refine g_aload_n 3 dL_law_1152 rfl ?_
  refine g_iload_n 0 dL_law_1153 rfl ?_
  refine g_iconst (v := 3) dL_law_1154 rfl (i32l rfl) ?_
  refine g_iadd dL_law_1155 rfl (hr 3 (by omega)) ?_
  refine g_ialdS dL_law_1156 (by omega) (by omega) ?_
  refine v_I (ci := 8) (as := [XI (X.2.2.2.2.2 (Int.toNat (i + 1))).toInt, XI (X.2.2.2.2.2 (Int.toNat (i + 2))).toInt, XI (X.2.2.2.2.2 (Int.toNat (i + 3))).toInt]) dL_law_1157 mlL_147 mdX9_judge mvX9_judge rfl lw20 rfl (Nat.le_of_ble_eq_true rfl) (kX9_judge lw20 er) rfl ?_
  refine g_pc (pc' := 1160) rfl ?_
  exact g_icmp_eq (tgt := 1427) dL_law_1160 (by decide) (fun _ => K _ hJ) (fun b => absurd hq b)
set_option maxHeartbeats 4000000 in
set_option maxRecDepth 20000 in
theorem law_c32 {X : XC} {d : Nat} {i : Int} {M : Mem} {Post : Option XV → Mem → Prop} (h0 : 0 ≤ i) (h1 : i + 6 ≤ (X.2.2.2.2.1 : Int)) (hL : X.2.2.2.2.1 ≤ 3072) (hI : INV M) (K : ∀ M2, INV M2 → Go X mL_law (d + 9) 1427 [(3, XI i), (2, XR 20000), (1, XR 10), (0, XR 5)] [] M2 Post) : Go X mL_law (d + 9) 1165 [(3, XI i), (2, XR 20000), (1, XR 10), (0, XR 5)] [] M Post := by
  obtain ⟨s, hs, hC, hD⟩ := hI
  have hr : ∀ k : Int, 0 ≤ k ∧ k ≤ 6 → i32 (i + k) := fun k hk => ⟨by omega, by omega⟩
  obtain ⟨q, eq, r, er, hq, hJ⟩ := (op_image hs).both hC hD
  refine g_aload_n 2 dL_law_1165 rfl ?_
  refine v_I (ci := 7) (as := []) dL_law_1166 mlL_148 mdX8_image mvX8_image rfl lw10 rfl (Nat.le_of_ble_eq_true rfl) (kX8_image lw10 eq) rfl ?_
  refine g_aload_n 1 dL_law_1169 rfl ?_
  refine v_I (ci := 8) (as := []) dL_law_1170 mlL_151 mdX9_image mvX9_image rfl lw20 rfl (Nat.le_of_ble_eq_true rfl) (kX9_image lw20 er) rfl ?_
  exact g_icmp_eq (tgt := 1427) dL_law_1173 (by decide) (fun _ => K _ hJ) (fun b => absurd hq b)
set_option maxHeartbeats 4000000 in
set_option maxRecDepth 20000 in
theorem law_c33 {X : XC} {d : Nat} {i : Int} {M : Mem} {Post : Option XV → Mem → Prop} (h0 : 0 ≤ i) (h1 : i + 6 ≤ (X.2.2.2.2.1 : Int)) (hL : X.2.2.2.2.1 ≤ 3072) (hI : INV M) (K : ∀ M2, INV M2 → Go X mL_law (d + 9) 1427 [(3, XI i), (2, XR 20000), (1, XR 10), (0, XR 5)] [] M2 Post) : Go X mL_law (d + 9) 1178 [(3, XI i), (2, XR 20000), (1, XR 10), (0, XR 5)] [] M Post := by
  obtain ⟨s, hs, hC, hD⟩ := hI
  have hr : ∀ k : Int, 0 ≤ k ∧ k ≤ 6 → i32 (i + k) := fun k hk => ⟨by omega, by omega⟩
  obtain ⟨q, eq, r, er, hq, hJ⟩ := (op_undo hs).both hC hD
  refine g_aload_n 2 dL_law_1178 rfl ?_
  refine v_I (ci := 7) (as := []) dL_law_1179 mlL_152 mdX8_undo mvX8_undo rfl lw10 rfl (Nat.le_of_ble_eq_true rfl) (kX8_undo lw10 eq) rfl ?_
  refine g_aload_n 1 dL_law_1182 rfl ?_
  refine v_I (ci := 8) (as := []) dL_law_1183 mlL_155 mdX9_undo mvX9_undo rfl lw20 rfl (Nat.le_of_ble_eq_true rfl) (kX9_undo lw20 er) rfl ?_
  exact g_icmp_eq (tgt := 1427) dL_law_1186 (by decide) (fun _ => K _ hJ) (fun b => absurd hq b)
set_option maxHeartbeats 4000000 in
set_option maxRecDepth 20000 in
theorem law_c34 {X : XC} {d : Nat} {i : Int} {M : Mem} {Post : Option XV → Mem → Prop} (h0 : 0 ≤ i) (h1 : i + 6 ≤ (X.2.2.2.2.1 : Int)) (hL : X.2.2.2.2.1 ≤ 3072) (hI : INV M) (K : ∀ M2, INV M2 → Go X mL_law (d + 9) 1427 [(3, XI i), (2, XR 20000), (1, XR 10), (0, XR 5)] [] M2 Post) : Go X mL_law (d + 9) 1191 [(3, XI i), (2, XR 20000), (1, XR 10), (0, XR 5)] [] M Post := by
  obtain ⟨s, hs, hC, hD⟩ := hI
  have hr : ∀ k : Int, 0 ≤ k ∧ k ≤ 6 → i32 (i + k) := fun k hk => ⟨by omega, by omega⟩
  obtain ⟨q, eq, r, er, hq, hJ⟩ := (op_count hs (X.2.2.2.2.2 (Int.toNat (i + 1))).toInt).both hC hD
  refine g_aload_n 2 dL_law_1191 rfl ?_
  refine g_aload_n 3 dL_law_1192 rfl ?_
  refine g_iload_n 0 dL_law_1193 rfl ?_
  refine g_iconst (v := 1) dL_law_1194 rfl (i32l rfl) ?_
  refine g_iadd dL_law_1195 rfl (hr 1 (by omega)) ?_
  refine g_ialdS dL_law_1196 (by omega) (by omega) ?_
  refine v_I (ci := 7) (as := [XI (X.2.2.2.2.2 (Int.toNat (i + 1))).toInt]) dL_law_1197 mlL_156 mdX8_count mvX8_count rfl lw10 rfl (Nat.le_of_ble_eq_true rfl) (kX8_count lw10 eq) rfl ?_
  refine g_pc (pc' := 1200) rfl ?_
  refine g_aload_n 1 dL_law_1200 rfl ?_
  refine g_aload_n 3 dL_law_1201 rfl ?_
  refine g_iload_n 0 dL_law_1202 rfl ?_
  refine g_iconst (v := 1) dL_law_1203 rfl (i32l rfl) ?_
  refine g_iadd dL_law_1204 rfl (hr 1 (by omega)) ?_
  refine g_ialdS dL_law_1205 (by omega) (by omega) ?_
  refine v_I (ci := 8) (as := [XI (X.2.2.2.2.2 (Int.toNat (i + 1))).toInt]) dL_law_1206 mlL_159 mdX9_count mvX9_count rfl lw20 rfl (Nat.le_of_ble_eq_true rfl) (kX9_count lw20 er) rfl ?_
  exact g_icmp_eq (tgt := 1427) dL_law_1209 (by decide) (fun _ => K _ hJ) (fun b => absurd hq b)
set_option maxHeartbeats 4000000 in
set_option maxRecDepth 20000 in
theorem law_c35 {X : XC} {d : Nat} {i : Int} {M : Mem} {Post : Option XV → Mem → Prop} (h0 : 0 ≤ i) (h1 : i + 6 ≤ (X.2.2.2.2.1 : Int)) (hL : X.2.2.2.2.1 ≤ 3072) (hI : INV M) (K : ∀ M2, INV M2 → Go X mL_law (d + 9) 1427 [(3, XI i), (2, XR 20000), (1, XR 10), (0, XR 5)] [] M2 Post) : Go X mL_law (d + 9) 1214 [(3, XI i), (2, XR 20000), (1, XR 10), (0, XR 5)] [] M Post := by
  obtain ⟨s, hs, hC, hD⟩ := hI
  have hr : ∀ k : Int, 0 ≤ k ∧ k ≤ 6 → i32 (i + k) := fun k hk => ⟨by omega, by omega⟩
  obtain ⟨q, eq, r, er, hq, hJ⟩ := (op_tape hs (X.2.2.2.2.2 (Int.toNat (i + 1))).toInt (X.2.2.2.2.2 (Int.toNat (i + 2))).toInt (X.2.2.2.2.2 (Int.toNat (i + 3))).toInt).both hC hD
  refine g_aload_n 2 dL_law_1214 rfl ?_
  refine g_aload_n 3 dL_law_1215 rfl ?_
  refine g_iload_n 0 dL_law_1216 rfl ?_
  refine g_iconst (v := 1) dL_law_1217 rfl (i32l rfl) ?_
  refine g_iadd dL_law_1218 rfl (hr 1 (by omega)) ?_
  refine g_ialdS dL_law_1219 (by omega) (by omega) ?_
  refine g_aload_n 3 dL_law_1220 rfl ?_
  refine g_iload_n 0 dL_law_1221 rfl ?_
  refine g_pc (pc' := 1222) rfl ?_
  refine g_iconst (v := 2) dL_law_1222 rfl (i32l rfl) ?_
  refine g_iadd dL_law_1223 rfl (hr 2 (by omega)) ?_
  refine g_ialdS dL_law_1224 (by omega) (by omega) ?_
  refine g_aload_n 3 dL_law_1225 rfl ?_
  refine g_iload_n 0 dL_law_1226 rfl ?_
  refine g_iconst (v := 3) dL_law_1227 rfl (i32l rfl) ?_
  refine g_iadd dL_law_1228 rfl (hr 3 (by omega)) ?_
  refine g_ialdS dL_law_1229 (by omega) (by omega) ?_
  refine v_I (ci := 7) (as := [XI (X.2.2.2.2.2 (Int.toNat (i + 1))).toInt, XI (X.2.2.2.2.2 (Int.toNat (i + 2))).toInt, XI (X.2.2.2.2.2 (Int.toNat (i + 3))).toInt]) dL_law_1230 mlL_160 mdX8_tape mvX8_tape rfl lw10 rfl (Nat.le_of_ble_eq_true rfl) (kX8_tape lw10 eq) rfl ?_
  refine g_pc (pc' := 1233) rfl ?_
  refine g_aload_n 1 dL_law_1233 rfl ?_
  refine g_aload_n 3 dL_law_1234 rfl ?_
  refine g_iload_n 0 dL_law_1235 rfl ?_
  refine g_iconst (v := 1) dL_law_1236 rfl (i32l rfl) ?_
  refine g_iadd dL_law_1237 rfl (hr 1 (by omega)) ?_
  refine g_ialdS dL_law_1238 (by omega) (by omega) ?_
  refine g_aload_n 3 dL_law_1239 rfl ?_
  refine g_iload_n 0 dL_law_1240 rfl ?_
  refine g_iconst (v := 2) dL_law_1241 rfl (i32l rfl) ?_
  refine g_pc (pc' := 1242) rfl ?_
  refine g_iadd dL_law_1242 rfl (hr 2 (by omega)) ?_
  refine g_ialdS dL_law_1243 (by omega) (by omega) ?_
  refine g_aload_n 3 dL_law_1244 rfl ?_
  refine g_iload_n 0 dL_law_1245 rfl ?_
  refine g_iconst (v := 3) dL_law_1246 rfl (i32l rfl) ?_
  refine g_iadd dL_law_1247 rfl (hr 3 (by omega)) ?_
  refine g_ialdS dL_law_1248 (by omega) (by omega) ?_
  refine v_I (ci := 8) (as := [XI (X.2.2.2.2.2 (Int.toNat (i + 1))).toInt, XI (X.2.2.2.2.2 (Int.toNat (i + 2))).toInt, XI (X.2.2.2.2.2 (Int.toNat (i + 3))).toInt]) dL_law_1249 mlL_163 mdX9_tape mvX9_tape rfl lw20 rfl (Nat.le_of_ble_eq_true rfl) (kX9_tape lw20 er) rfl ?_
  refine g_pc (pc' := 1252) rfl ?_
  exact g_icmp_eq (tgt := 1427) dL_law_1252 (by decide) (fun _ => K _ hJ) (fun b => absurd hq b)
set_option maxHeartbeats 4000000 in
set_option maxRecDepth 20000 in
theorem law_c36 {X : XC} {d : Nat} {i : Int} {M : Mem} {Post : Option XV → Mem → Prop} (h0 : 0 ≤ i) (h1 : i + 6 ≤ (X.2.2.2.2.1 : Int)) (hL : X.2.2.2.2.1 ≤ 3072) (hI : INV M) (K : ∀ M2, INV M2 → Go X mL_law (d + 9) 1427 [(3, XI i), (2, XR 20000), (1, XR 10), (0, XR 5)] [] M2 Post) : Go X mL_law (d + 9) 1257 [(3, XI i), (2, XR 20000), (1, XR 10), (0, XR 5)] [] M Post := by
  obtain ⟨s, hs, hC, hD⟩ := hI
  have hr : ∀ k : Int, 0 ≤ k ∧ k ≤ 6 → i32 (i + k) := fun k hk => ⟨by omega, by omega⟩
  obtain ⟨q, eq, r, er, hq, hJ⟩ := (op_item hs (X.2.2.2.2.2 (Int.toNat (i + 1))).toInt (X.2.2.2.2.2 (Int.toNat (i + 2))).toInt (bLor (bLshl (X.2.2.2.2.2 (Int.toNat (i + 3))).toInt 32) (bLand (X.2.2.2.2.2 (Int.toNat (i + 4))).toInt 4294967295))).both hC hD
  refine g_aload_n 2 dL_law_1257 rfl ?_
  refine g_aload_n 3 dL_law_1258 rfl ?_
  refine g_iload_n 0 dL_law_1259 rfl ?_
  refine g_iconst (v := 1) dL_law_1260 rfl (i32l rfl) ?_
  refine g_iadd dL_law_1261 rfl (hr 1 (by omega)) ?_
  refine g_ialdS dL_law_1262 (by omega) (by omega) ?_
  refine g_aload_n 3 dL_law_1263 rfl ?_
  refine g_iload_n 0 dL_law_1264 rfl ?_
  refine g_pc (pc' := 1265) rfl ?_
  refine g_iconst (v := 2) dL_law_1265 rfl (i32l rfl) ?_
  refine g_iadd dL_law_1266 rfl (hr 2 (by omega)) ?_
  refine g_ialdS dL_law_1267 (by omega) (by omega) ?_
  refine g_aload_n 3 dL_law_1268 rfl ?_
  refine g_iload_n 0 dL_law_1269 rfl ?_
  refine g_iconst (v := 3) dL_law_1270 rfl (i32l rfl) ?_
  refine g_iadd dL_law_1271 rfl (hr 3 (by omega)) ?_
  refine g_ialdS dL_law_1272 (by omega) (by omega) ?_
  refine g_i2l dL_law_1273 ?_
  refine g_pc (pc' := 1274) rfl ?_
  refine g_bip dL_law_1274 rfl ?_
  refine g_lshl dL_law_1276 ?_
  refine g_aload_n 3 dL_law_1277 rfl ?_
  refine g_iload_n 0 dL_law_1278 rfl ?_
  refine g_iconst (v := 4) dL_law_1279 rfl (i32l rfl) ?_
  refine g_iadd dL_law_1280 rfl (hr 4 (by omega)) ?_
  refine g_ialdS dL_law_1281 (by omega) (by omega) ?_
  refine g_i2l dL_law_1282 ?_
  refine g_ldc2 (v := 4294967295) dL_law_1283 csL_164 (by decide +kernel) (i64l rfl) ?_
  refine g_pc (pc' := 1286) rfl ?_
  refine g_land dL_law_1286 ?_
  refine g_lor dL_law_1287 ?_
  refine v_I (ci := 7) (as := [XI (X.2.2.2.2.2 (Int.toNat (i + 1))).toInt, XI (X.2.2.2.2.2 (Int.toNat (i + 2))).toInt, XL (bLor (bLshl (X.2.2.2.2.2 (Int.toNat (i + 3))).toInt 32) (bLand (X.2.2.2.2.2 (Int.toNat (i + 4))).toInt 4294967295))]) dL_law_1288 mlL_166 mdX8_item mvX8_item rfl lw10 rfl (Nat.le_of_ble_eq_true rfl) (kX8_item lw10 eq) rfl ?_
  refine g_aload_n 1 dL_law_1291 rfl ?_
  refine g_aload_n 3 dL_law_1292 rfl ?_
  refine g_iload_n 0 dL_law_1293 rfl ?_
  refine g_iconst (v := 1) dL_law_1294 rfl (i32l rfl) ?_
  refine g_iadd dL_law_1295 rfl (hr 1 (by omega)) ?_
  refine g_pc (pc' := 1296) rfl ?_
  refine g_ialdS dL_law_1296 (by omega) (by omega) ?_
  refine g_aload_n 3 dL_law_1297 rfl ?_
  refine g_iload_n 0 dL_law_1298 rfl ?_
  refine g_iconst (v := 2) dL_law_1299 rfl (i32l rfl) ?_
  refine g_iadd dL_law_1300 rfl (hr 2 (by omega)) ?_
  refine g_ialdS dL_law_1301 (by omega) (by omega) ?_
  refine g_aload_n 3 dL_law_1302 rfl ?_
  refine g_iload_n 0 dL_law_1303 rfl ?_
  refine g_iconst (v := 3) dL_law_1304 rfl (i32l rfl) ?_
  refine g_pc (pc' := 1305) rfl ?_
  refine g_iadd dL_law_1305 rfl (hr 3 (by omega)) ?_
  refine g_ialdS dL_law_1306 (by omega) (by omega) ?_
  refine g_i2l dL_law_1307 ?_
  refine g_bip dL_law_1308 rfl ?_
  refine g_lshl dL_law_1310 ?_
  refine g_aload_n 3 dL_law_1311 rfl ?_
  refine g_iload_n 0 dL_law_1312 rfl ?_
  refine g_iconst (v := 4) dL_law_1313 rfl (i32l rfl) ?_
  refine g_iadd dL_law_1314 rfl (hr 4 (by omega)) ?_
  refine g_pc (pc' := 1315) rfl ?_
  refine g_ialdS dL_law_1315 (by omega) (by omega) ?_
  refine g_i2l dL_law_1316 ?_
  refine g_ldc2 (v := 4294967295) dL_law_1317 csL_164 (by decide +kernel) (i64l rfl) ?_
  refine g_land dL_law_1320 ?_
  refine g_lor dL_law_1321 ?_
  refine v_I (ci := 8) (as := [XI (X.2.2.2.2.2 (Int.toNat (i + 1))).toInt, XI (X.2.2.2.2.2 (Int.toNat (i + 2))).toInt, XL (bLor (bLshl (X.2.2.2.2.2 (Int.toNat (i + 3))).toInt 32) (bLand (X.2.2.2.2.2 (Int.toNat (i + 4))).toInt 4294967295))]) dL_law_1322 mlL_170 mdX9_item mvX9_item rfl lw20 rfl (Nat.le_of_ble_eq_true rfl) (kX9_item lw20 er) rfl ?_
  exact g_icmp_eq (tgt := 1427) dL_law_1325 (by decide) (fun _ => K _ hJ) (fun b => absurd hq b)
set_option maxHeartbeats 4000000 in
set_option maxRecDepth 20000 in
theorem law_c37 {X : XC} {d : Nat} {i : Int} {M : Mem} {Post : Option XV → Mem → Prop} (h0 : 0 ≤ i) (h1 : i + 6 ≤ (X.2.2.2.2.1 : Int)) (hL : X.2.2.2.2.1 ≤ 3072) (hI : INV M) (K : ∀ M2, INV M2 → Go X mL_law (d + 9) 1427 [(3, XI i), (2, XR 20000), (1, XR 10), (0, XR 5)] [] M2 Post) : Go X mL_law (d + 9) 1330 [(3, XI i), (2, XR 20000), (1, XR 10), (0, XR 5)] [] M Post := by
  obtain ⟨s, hs, hC, hD⟩ := hI
  have hr : ∀ k : Int, 0 ≤ k ∧ k ≤ 6 → i32 (i + k) := fun k hk => ⟨by omega, by omega⟩
  obtain ⟨q, eq, r, er, hq, hJ⟩ := (op_peek hs (X.2.2.2.2.2 (Int.toNat (i + 1))).toInt (X.2.2.2.2.2 (Int.toNat (i + 2))).toInt).both hC hD
  refine g_aload_n 2 dL_law_1330 rfl ?_
  refine g_aload_n 3 dL_law_1331 rfl ?_
  refine g_iload_n 0 dL_law_1332 rfl ?_
  refine g_iconst (v := 1) dL_law_1333 rfl (i32l rfl) ?_
  refine g_iadd dL_law_1334 rfl (hr 1 (by omega)) ?_
  refine g_ialdS dL_law_1335 (by omega) (by omega) ?_
  refine g_aload_n 3 dL_law_1336 rfl ?_
  refine g_iload_n 0 dL_law_1337 rfl ?_
  refine g_pc (pc' := 1338) rfl ?_
  refine g_iconst (v := 2) dL_law_1338 rfl (i32l rfl) ?_
  refine g_iadd dL_law_1339 rfl (hr 2 (by omega)) ?_
  refine g_ialdS dL_law_1340 (by omega) (by omega) ?_
  refine v_J (ci := 7) (as := [XI (X.2.2.2.2.2 (Int.toNat (i + 1))).toInt, XI (X.2.2.2.2.2 (Int.toNat (i + 2))).toInt]) dL_law_1341 mlL_171 mdX8_peek mvX8_peek rfl lw10 rfl (Nat.le_of_ble_eq_true rfl) (kX8_peek lw10 eq) rfl ?_
  refine g_aload_n 1 dL_law_1344 rfl ?_
  refine g_aload_n 3 dL_law_1345 rfl ?_
  refine g_iload_n 0 dL_law_1346 rfl ?_
  refine g_iconst (v := 1) dL_law_1347 rfl (i32l rfl) ?_
  refine g_pc (pc' := 1348) rfl ?_
  refine g_iadd dL_law_1348 rfl (hr 1 (by omega)) ?_
  refine g_ialdS dL_law_1349 (by omega) (by omega) ?_
  refine g_aload_n 3 dL_law_1350 rfl ?_
  refine g_iload_n 0 dL_law_1351 rfl ?_
  refine g_iconst (v := 2) dL_law_1352 rfl (i32l rfl) ?_
  refine g_iadd dL_law_1353 rfl (hr 2 (by omega)) ?_
  refine g_ialdS dL_law_1354 (by omega) (by omega) ?_
  refine v_J (ci := 8) (as := [XI (X.2.2.2.2.2 (Int.toNat (i + 1))).toInt, XI (X.2.2.2.2.2 (Int.toNat (i + 2))).toInt]) dL_law_1355 mlL_174 mdX9_peek mvX9_peek rfl lw20 rfl (Nat.le_of_ble_eq_true rfl) (kX9_peek lw20 er) rfl ?_
  refine g_pc (pc' := 1358) rfl ?_
  exact g_lcmp_eq (tgt := 1427) dL_law_1358 dL_law_1359 (by decide) (fun _ => K _ hJ) (fun b => absurd hq b)
set_option maxHeartbeats 4000000 in
set_option maxRecDepth 20000 in
theorem law_c38 {X : XC} {d : Nat} {i : Int} {M : Mem} {Post : Option XV → Mem → Prop} (h0 : 0 ≤ i) (h1 : i + 6 ≤ (X.2.2.2.2.1 : Int)) (hL : X.2.2.2.2.1 ≤ 3072) (hI : INV M) (K : ∀ M2, INV M2 → Go X mL_law (d + 9) 1427 [(3, XI i), (2, XR 20000), (1, XR 10), (0, XR 5)] [] M2 Post) : Go X mL_law (d + 9) 1364 [(3, XI i), (2, XR 20000), (1, XR 10), (0, XR 5)] [] M Post := by
  obtain ⟨s, hs, hC, hD⟩ := hI
  have hr : ∀ k : Int, 0 ≤ k ∧ k ≤ 6 → i32 (i + k) := fun k hk => ⟨by omega, by omega⟩
  obtain ⟨q, eq, r, er, hq, hJ⟩ := (op_shift hs (X.2.2.2.2.2 (Int.toNat (i + 1))).toInt (X.2.2.2.2.2 (Int.toNat (i + 2))).toInt (X.2.2.2.2.2 (Int.toNat (i + 3))).toInt (X.2.2.2.2.2 (Int.toNat (i + 4))).toInt (X.2.2.2.2.2 (Int.toNat (i + 5))).toInt (i32_to _).2).both hC hD
  refine g_aload_n 2 dL_law_1364 rfl ?_
  refine g_aload_n 3 dL_law_1365 rfl ?_
  refine g_iload_n 0 dL_law_1366 rfl ?_
  refine g_iconst (v := 1) dL_law_1367 rfl (i32l rfl) ?_
  refine g_iadd dL_law_1368 rfl (hr 1 (by omega)) ?_
  refine g_ialdS dL_law_1369 (by omega) (by omega) ?_
  refine g_aload_n 3 dL_law_1370 rfl ?_
  refine g_iload_n 0 dL_law_1371 rfl ?_
  refine g_pc (pc' := 1372) rfl ?_
  refine g_iconst (v := 2) dL_law_1372 rfl (i32l rfl) ?_
  refine g_iadd dL_law_1373 rfl (hr 2 (by omega)) ?_
  refine g_ialdS dL_law_1374 (by omega) (by omega) ?_
  refine g_aload_n 3 dL_law_1375 rfl ?_
  refine g_iload_n 0 dL_law_1376 rfl ?_
  refine g_iconst (v := 3) dL_law_1377 rfl (i32l rfl) ?_
  refine g_iadd dL_law_1378 rfl (hr 3 (by omega)) ?_
  refine g_ialdS dL_law_1379 (by omega) (by omega) ?_
  refine g_aload_n 3 dL_law_1380 rfl ?_
  refine g_pc (pc' := 1381) rfl ?_
  refine g_iload_n 0 dL_law_1381 rfl ?_
  refine g_iconst (v := 4) dL_law_1382 rfl (i32l rfl) ?_
  refine g_iadd dL_law_1383 rfl (hr 4 (by omega)) ?_
  refine g_ialdS dL_law_1384 (by omega) (by omega) ?_
  refine g_aload_n 3 dL_law_1385 rfl ?_
  refine g_iload_n 0 dL_law_1386 rfl ?_
  refine g_iconst (v := 5) dL_law_1387 rfl (i32l rfl) ?_
  refine g_iadd dL_law_1388 rfl (hr 5 (by omega)) ?_
  refine g_ialdS dL_law_1389 (by omega) (by omega) ?_
  refine g_pc (pc' := 1390) rfl ?_
  refine v_I (ci := 7) (as := [XI (X.2.2.2.2.2 (Int.toNat (i + 1))).toInt, XI (X.2.2.2.2.2 (Int.toNat (i + 2))).toInt, XI (X.2.2.2.2.2 (Int.toNat (i + 3))).toInt, XI (X.2.2.2.2.2 (Int.toNat (i + 4))).toInt, XI (X.2.2.2.2.2 (Int.toNat (i + 5))).toInt]) dL_law_1390 mlL_175 mdX8_shift mvX8_shift rfl lw10 rfl (Nat.le_of_ble_eq_true rfl) (kX8_shift lw10 eq) rfl ?_
  refine g_aload_n 1 dL_law_1393 rfl ?_
  refine g_aload_n 3 dL_law_1394 rfl ?_
  refine g_iload_n 0 dL_law_1395 rfl ?_
  refine g_iconst (v := 1) dL_law_1396 rfl (i32l rfl) ?_
  refine g_iadd dL_law_1397 rfl (hr 1 (by omega)) ?_
  refine g_ialdS dL_law_1398 (by omega) (by omega) ?_
  refine g_aload_n 3 dL_law_1399 rfl ?_
  refine g_pc (pc' := 1400) rfl ?_
  refine g_iload_n 0 dL_law_1400 rfl ?_
  refine g_iconst (v := 2) dL_law_1401 rfl (i32l rfl) ?_
  refine g_iadd dL_law_1402 rfl (hr 2 (by omega)) ?_
  refine g_ialdS dL_law_1403 (by omega) (by omega) ?_
  refine g_aload_n 3 dL_law_1404 rfl ?_
  refine g_iload_n 0 dL_law_1405 rfl ?_
  refine g_iconst (v := 3) dL_law_1406 rfl (i32l rfl) ?_
  refine g_iadd dL_law_1407 rfl (hr 3 (by omega)) ?_
  refine g_ialdS dL_law_1408 (by omega) (by omega) ?_
  refine g_pc (pc' := 1409) rfl ?_
  refine g_aload_n 3 dL_law_1409 rfl ?_
  refine g_iload_n 0 dL_law_1410 rfl ?_
  refine g_iconst (v := 4) dL_law_1411 rfl (i32l rfl) ?_
  refine g_iadd dL_law_1412 rfl (hr 4 (by omega)) ?_
  refine g_ialdS dL_law_1413 (by omega) (by omega) ?_
  refine g_aload_n 3 dL_law_1414 rfl ?_
  refine g_iload_n 0 dL_law_1415 rfl ?_
  refine g_iconst (v := 5) dL_law_1416 rfl (i32l rfl) ?_
  refine g_iadd dL_law_1417 rfl (hr 5 (by omega)) ?_
  refine g_pc (pc' := 1418) rfl ?_
  refine g_ialdS dL_law_1418 (by omega) (by omega) ?_
  refine v_I (ci := 8) (as := [XI (X.2.2.2.2.2 (Int.toNat (i + 1))).toInt, XI (X.2.2.2.2.2 (Int.toNat (i + 2))).toInt, XI (X.2.2.2.2.2 (Int.toNat (i + 3))).toInt, XI (X.2.2.2.2.2 (Int.toNat (i + 4))).toInt, XI (X.2.2.2.2.2 (Int.toNat (i + 5))).toInt]) dL_law_1419 mlL_179 mdX9_shift mvX9_shift rfl lw20 rfl (Nat.le_of_ble_eq_true rfl) (kX9_shift lw20 er) rfl ?_
  exact g_icmp_eq (tgt := 1427) dL_law_1422 (by decide) (fun _ => K _ hJ) (fun b => absurd hq b)
end
