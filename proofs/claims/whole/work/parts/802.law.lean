section
set_option maxHeartbeats 4000000 in
set_option maxRecDepth 20000 in
theorem law_c13 {X : XC} {d : Nat} {i : Int} {M : Mem} {Post : Option XV → Mem → Prop} (h0 : 0 ≤ i) (h1 : i + 6 ≤ (X.2.2.2.2.1 : Int)) (hL : X.2.2.2.2.1 ≤ 3072) (hI : INV M) (K : ∀ M2, INV M2 → Go X mL_law (d + 9) 1427 [(3, XI i), (2, XR 20000), (1, XR 10), (0, XR 5)] [] M2 Post) : Go X mL_law (d + 9) 600 [(3, XI i), (2, XR 20000), (1, XR 10), (0, XR 5)] [] M Post := by
  obtain ⟨s, hs, hC, hD⟩ := hI
  have hr : ∀ k : Int, 0 ≤ k ∧ k ≤ 6 → i32 (i + k) := fun k hk => ⟨by omega, by omega⟩
  obtain ⟨q, eq, r, er, hq, hJ⟩ := (op_votes hs (X.2.2.2.2.2 (Int.toNat (i + 1))).toInt (X.2.2.2.2.2 (Int.toNat (i + 2))).toInt (X.2.2.2.2.2 (Int.toNat (i + 3))).toInt).both hC hD
  refine g_aload_n 2 dL_law_600 rfl ?_
  refine g_aload_n 3 dL_law_601 rfl ?_
  refine g_iload_n 0 dL_law_602 rfl ?_
  refine g_iconst (v := 1) dL_law_603 rfl (i32l rfl) ?_
  refine g_iadd dL_law_604 rfl (hr 1 (by omega)) ?_
  refine g_ialdS dL_law_605 (by omega) (by omega) ?_
  refine g_aload_n 3 dL_law_606 rfl ?_
  refine g_iload_n 0 dL_law_607 rfl ?_
  refine g_pc (pc' := 608) rfl ?_
  refine g_iconst (v := 2) dL_law_608 rfl (i32l rfl) ?_
  refine g_iadd dL_law_609 rfl (hr 2 (by omega)) ?_
  refine g_ialdS dL_law_610 (by omega) (by omega) ?_
  refine g_aload_n 3 dL_law_611 rfl ?_
  refine g_iload_n 0 dL_law_612 rfl ?_
  refine g_iconst (v := 3) dL_law_613 rfl (i32l rfl) ?_
  refine g_iadd dL_law_614 rfl (hr 3 (by omega)) ?_
  refine g_ialdS dL_law_615 (by omega) (by omega) ?_
  refine v_J (ci := 7) (as := [XI (X.2.2.2.2.2 (Int.toNat (i + 1))).toInt, XI (X.2.2.2.2.2 (Int.toNat (i + 2))).toInt, XI (X.2.2.2.2.2 (Int.toNat (i + 3))).toInt]) dL_law_616 mlL_70 mdX8_votes mvX8_votes rfl lw10 rfl (Nat.le_of_ble_eq_true rfl) (kX8_votes lw10 eq) rfl ?_
  refine g_pc (pc' := 619) rfl ?_
  refine g_aload_n 1 dL_law_619 rfl ?_
  refine g_aload_n 3 dL_law_620 rfl ?_
  refine g_iload_n 0 dL_law_621 rfl ?_
  refine g_iconst (v := 1) dL_law_622 rfl (i32l rfl) ?_
  refine g_iadd dL_law_623 rfl (hr 1 (by omega)) ?_
  refine g_ialdS dL_law_624 (by omega) (by omega) ?_
  refine g_aload_n 3 dL_law_625 rfl ?_
  refine g_iload_n 0 dL_law_626 rfl ?_
  refine g_iconst (v := 2) dL_law_627 rfl (i32l rfl) ?_
  refine g_pc (pc' := 628) rfl ?_
  refine g_iadd dL_law_628 rfl (hr 2 (by omega)) ?_
  refine g_ialdS dL_law_629 (by omega) (by omega) ?_
  refine g_aload_n 3 dL_law_630 rfl ?_
  refine g_iload_n 0 dL_law_631 rfl ?_
  refine g_iconst (v := 3) dL_law_632 rfl (i32l rfl) ?_
  refine g_iadd dL_law_633 rfl (hr 3 (by omega)) ?_
  refine g_ialdS dL_law_634 (by omega) (by omega) ?_
  refine v_J (ci := 8) (as := [XI (X.2.2.2.2.2 (Int.toNat (i + 1))).toInt, XI (X.2.2.2.2.2 (Int.toNat (i + 2))).toInt, XI (X.2.2.2.2.2 (Int.toNat (i + 3))).toInt]) dL_law_635 mlL_74 mdX9_votes mvX9_votes rfl lw20 rfl (Nat.le_of_ble_eq_true rfl) (kX9_votes lw20 er) rfl ?_
  refine g_pc (pc' := 638) rfl ?_
  exact g_lcmp_eq (tgt := 1427) dL_law_638 dL_law_639 (by decide) (fun _ => K _ hJ) (fun b => absurd hq b)
set_option maxHeartbeats 4000000 in
set_option maxRecDepth 20000 in
theorem law_c14 {X : XC} {d : Nat} {i : Int} {M : Mem} {Post : Option XV → Mem → Prop} (h0 : 0 ≤ i) (h1 : i + 6 ≤ (X.2.2.2.2.1 : Int)) (hL : X.2.2.2.2.1 ≤ 3072) (hI : INV M) (K : ∀ M2, INV M2 → Go X mL_law (d + 9) 1427 [(3, XI i), (2, XR 20000), (1, XR 10), (0, XR 5)] [] M2 Post) : Go X mL_law (d + 9) 644 [(3, XI i), (2, XR 20000), (1, XR 10), (0, XR 5)] [] M Post := by
  obtain ⟨s, hs, hC, hD⟩ := hI
  have hr : ∀ k : Int, 0 ≤ k ∧ k ≤ 6 → i32 (i + k) := fun k hk => ⟨by omega, by omega⟩
  obtain ⟨q, eq, r, er, hq, hJ⟩ := (op_elected hs (X.2.2.2.2.2 (Int.toNat (i + 1))).toInt).both hC hD
  refine g_aload_n 2 dL_law_644 rfl ?_
  refine g_aload_n 3 dL_law_645 rfl ?_
  refine g_iload_n 0 dL_law_646 rfl ?_
  refine g_iconst (v := 1) dL_law_647 rfl (i32l rfl) ?_
  refine g_iadd dL_law_648 rfl (hr 1 (by omega)) ?_
  refine g_ialdS dL_law_649 (by omega) (by omega) ?_
  refine v_I (ci := 7) (as := [XI (X.2.2.2.2.2 (Int.toNat (i + 1))).toInt]) dL_law_650 mlL_75 mdX8_elected mvX8_elected rfl lw10 rfl (Nat.le_of_ble_eq_true rfl) (kX8_elected lw10 eq) rfl ?_
  refine g_pc (pc' := 653) rfl ?_
  refine g_aload_n 1 dL_law_653 rfl ?_
  refine g_aload_n 3 dL_law_654 rfl ?_
  refine g_iload_n 0 dL_law_655 rfl ?_
  refine g_iconst (v := 1) dL_law_656 rfl (i32l rfl) ?_
  refine g_iadd dL_law_657 rfl (hr 1 (by omega)) ?_
  refine g_ialdS dL_law_658 (by omega) (by omega) ?_
  refine v_I (ci := 8) (as := [XI (X.2.2.2.2.2 (Int.toNat (i + 1))).toInt]) dL_law_659 mlL_78 mdX9_elected mvX9_elected rfl lw20 rfl (Nat.le_of_ble_eq_true rfl) (kX9_elected lw20 er) rfl ?_
  exact g_icmp_eq (tgt := 1427) dL_law_662 (by decide) (fun _ => K _ hJ) (fun b => absurd hq b)
set_option maxHeartbeats 4000000 in
set_option maxRecDepth 20000 in
theorem law_c15 {X : XC} {d : Nat} {i : Int} {M : Mem} {Post : Option XV → Mem → Prop} (h0 : 0 ≤ i) (h1 : i + 6 ≤ (X.2.2.2.2.1 : Int)) (hL : X.2.2.2.2.1 ≤ 3072) (hI : INV M) (K : ∀ M2, INV M2 → Go X mL_law (d + 9) 1427 [(3, XI i), (2, XR 20000), (1, XR 10), (0, XR 5)] [] M2 Post) : Go X mL_law (d + 9) 667 [(3, XI i), (2, XR 20000), (1, XR 10), (0, XR 5)] [] M Post := by
  obtain ⟨s, hs, hC, hD⟩ := hI
  have hr : ∀ k : Int, 0 ≤ k ∧ k ≤ 6 → i32 (i + k) := fun k hk => ⟨by omega, by omega⟩
  obtain ⟨q, eq, r, er, hq, hJ⟩ := (op_ranked hs (X.2.2.2.2.2 (Int.toNat (i + 1))).toInt).both hC hD
  refine g_aload_n 2 dL_law_667 rfl ?_
  refine g_aload_n 3 dL_law_668 rfl ?_
  refine g_iload_n 0 dL_law_669 rfl ?_
  refine g_iconst (v := 1) dL_law_670 rfl (i32l rfl) ?_
  refine g_iadd dL_law_671 rfl (hr 1 (by omega)) ?_
  refine g_ialdS dL_law_672 (by omega) (by omega) ?_
  refine v_I (ci := 7) (as := [XI (X.2.2.2.2.2 (Int.toNat (i + 1))).toInt]) dL_law_673 mlL_79 mdX8_ranked mvX8_ranked rfl lw10 rfl (Nat.le_of_ble_eq_true rfl) (kX8_ranked lw10 eq) rfl ?_
  refine g_pc (pc' := 676) rfl ?_
  refine g_aload_n 1 dL_law_676 rfl ?_
  refine g_aload_n 3 dL_law_677 rfl ?_
  refine g_iload_n 0 dL_law_678 rfl ?_
  refine g_iconst (v := 1) dL_law_679 rfl (i32l rfl) ?_
  refine g_iadd dL_law_680 rfl (hr 1 (by omega)) ?_
  refine g_ialdS dL_law_681 (by omega) (by omega) ?_
  refine v_I (ci := 8) (as := [XI (X.2.2.2.2.2 (Int.toNat (i + 1))).toInt]) dL_law_682 mlL_82 mdX9_ranked mvX9_ranked rfl lw20 rfl (Nat.le_of_ble_eq_true rfl) (kX9_ranked lw20 er) rfl ?_
  exact g_icmp_eq (tgt := 1427) dL_law_685 (by decide) (fun _ => K _ hJ) (fun b => absurd hq b)
set_option maxHeartbeats 4000000 in
set_option maxRecDepth 20000 in
theorem law_c16 {X : XC} {d : Nat} {i : Int} {M : Mem} {Post : Option XV → Mem → Prop} (h0 : 0 ≤ i) (h1 : i + 6 ≤ (X.2.2.2.2.1 : Int)) (hL : X.2.2.2.2.1 ≤ 3072) (hI : INV M) (K : ∀ M2, INV M2 → Go X mL_law (d + 9) 1427 [(3, XI i), (2, XR 20000), (1, XR 10), (0, XR 5)] [] M2 Post) : Go X mL_law (d + 9) 690 [(3, XI i), (2, XR 20000), (1, XR 10), (0, XR 5)] [] M Post := by
  obtain ⟨s, hs, hC, hD⟩ := hI
  have hr : ∀ k : Int, 0 ≤ k ∧ k ≤ 6 → i32 (i + k) := fun k hk => ⟨by omega, by omega⟩
  obtain ⟨q, eq, r, er, hq, hJ⟩ := (op_standing hs (X.2.2.2.2.2 (Int.toNat (i + 1))).toInt (X.2.2.2.2.2 (Int.toNat (i + 2))).toInt).both hC hD
  refine g_aload_n 2 dL_law_690 rfl ?_
  refine g_aload_n 3 dL_law_691 rfl ?_
  refine g_iload_n 0 dL_law_692 rfl ?_
  refine g_iconst (v := 1) dL_law_693 rfl (i32l rfl) ?_
  refine g_iadd dL_law_694 rfl (hr 1 (by omega)) ?_
  refine g_ialdS dL_law_695 (by omega) (by omega) ?_
  refine g_aload_n 3 dL_law_696 rfl ?_
  refine g_iload_n 0 dL_law_697 rfl ?_
  refine g_pc (pc' := 698) rfl ?_
  refine g_iconst (v := 2) dL_law_698 rfl (i32l rfl) ?_
  refine g_iadd dL_law_699 rfl (hr 2 (by omega)) ?_
  refine g_ialdS dL_law_700 (by omega) (by omega) ?_
  refine v_I (ci := 7) (as := [XI (X.2.2.2.2.2 (Int.toNat (i + 1))).toInt, XI (X.2.2.2.2.2 (Int.toNat (i + 2))).toInt]) dL_law_701 mlL_83 mdX8_standing mvX8_standing rfl lw10 rfl (Nat.le_of_ble_eq_true rfl) (kX8_standing lw10 eq) rfl ?_
  refine g_aload_n 1 dL_law_704 rfl ?_
  refine g_aload_n 3 dL_law_705 rfl ?_
  refine g_iload_n 0 dL_law_706 rfl ?_
  refine g_iconst (v := 1) dL_law_707 rfl (i32l rfl) ?_
  refine g_pc (pc' := 708) rfl ?_
  refine g_iadd dL_law_708 rfl (hr 1 (by omega)) ?_
  refine g_ialdS dL_law_709 (by omega) (by omega) ?_
  refine g_aload_n 3 dL_law_710 rfl ?_
  refine g_iload_n 0 dL_law_711 rfl ?_
  refine g_iconst (v := 2) dL_law_712 rfl (i32l rfl) ?_
  refine g_iadd dL_law_713 rfl (hr 2 (by omega)) ?_
  refine g_ialdS dL_law_714 (by omega) (by omega) ?_
  refine v_I (ci := 8) (as := [XI (X.2.2.2.2.2 (Int.toNat (i + 1))).toInt, XI (X.2.2.2.2.2 (Int.toNat (i + 2))).toInt]) dL_law_715 mlL_86 mdX9_standing mvX9_standing rfl lw20 rfl (Nat.le_of_ble_eq_true rfl) (kX9_standing lw20 er) rfl ?_
  refine g_pc (pc' := 718) rfl ?_
  exact g_icmp_eq (tgt := 1427) dL_law_718 (by decide) (fun _ => K _ hJ) (fun b => absurd hq b)
set_option maxHeartbeats 4000000 in
set_option maxRecDepth 20000 in
theorem law_c17 {X : XC} {d : Nat} {i : Int} {M : Mem} {Post : Option XV → Mem → Prop} (h0 : 0 ≤ i) (h1 : i + 6 ≤ (X.2.2.2.2.1 : Int)) (hL : X.2.2.2.2.1 ≤ 3072) (hI : INV M) (K : ∀ M2, INV M2 → Go X mL_law (d + 9) 1427 [(3, XI i), (2, XR 20000), (1, XR 10), (0, XR 5)] [] M2 Post) : Go X mL_law (d + 9) 723 [(3, XI i), (2, XR 20000), (1, XR 10), (0, XR 5)] [] M Post := by
  obtain ⟨s, hs, hC, hD⟩ := hI
  have hr : ∀ k : Int, 0 ≤ k ∧ k ≤ 6 → i32 (i + k) := fun k hk => ⟨by omega, by omega⟩
  obtain ⟨q, eq, r, er, hq, hJ⟩ := (op_pile hs (X.2.2.2.2.2 (Int.toNat (i + 1))).toInt (X.2.2.2.2.2 (Int.toNat (i + 2))).toInt).both hC hD
  refine g_aload_n 2 dL_law_723 rfl ?_
  refine g_aload_n 3 dL_law_724 rfl ?_
  refine g_iload_n 0 dL_law_725 rfl ?_
  refine g_iconst (v := 1) dL_law_726 rfl (i32l rfl) ?_
  refine g_iadd dL_law_727 rfl (hr 1 (by omega)) ?_
  refine g_ialdS dL_law_728 (by omega) (by omega) ?_
  refine g_aload_n 3 dL_law_729 rfl ?_
  refine g_iload_n 0 dL_law_730 rfl ?_
  refine g_pc (pc' := 731) rfl ?_
  refine g_iconst (v := 2) dL_law_731 rfl (i32l rfl) ?_
  refine g_iadd dL_law_732 rfl (hr 2 (by omega)) ?_
  refine g_ialdS dL_law_733 (by omega) (by omega) ?_
  refine v_I (ci := 7) (as := [XI (X.2.2.2.2.2 (Int.toNat (i + 1))).toInt, XI (X.2.2.2.2.2 (Int.toNat (i + 2))).toInt]) dL_law_734 mlL_87 mdX8_pile mvX8_pile rfl lw10 rfl (Nat.le_of_ble_eq_true rfl) (kX8_pile lw10 eq) rfl ?_
  refine g_aload_n 1 dL_law_737 rfl ?_
  refine g_aload_n 3 dL_law_738 rfl ?_
  refine g_iload_n 0 dL_law_739 rfl ?_
  refine g_iconst (v := 1) dL_law_740 rfl (i32l rfl) ?_
  refine g_pc (pc' := 741) rfl ?_
  refine g_iadd dL_law_741 rfl (hr 1 (by omega)) ?_
  refine g_ialdS dL_law_742 (by omega) (by omega) ?_
  refine g_aload_n 3 dL_law_743 rfl ?_
  refine g_iload_n 0 dL_law_744 rfl ?_
  refine g_iconst (v := 2) dL_law_745 rfl (i32l rfl) ?_
  refine g_iadd dL_law_746 rfl (hr 2 (by omega)) ?_
  refine g_ialdS dL_law_747 (by omega) (by omega) ?_
  refine v_I (ci := 8) (as := [XI (X.2.2.2.2.2 (Int.toNat (i + 1))).toInt, XI (X.2.2.2.2.2 (Int.toNat (i + 2))).toInt]) dL_law_748 mlL_90 mdX9_pile mvX9_pile rfl lw20 rfl (Nat.le_of_ble_eq_true rfl) (kX9_pile lw20 er) rfl ?_
  refine g_pc (pc' := 751) rfl ?_
  exact g_icmp_eq (tgt := 1427) dL_law_751 (by decide) (fun _ => K _ hJ) (fun b => absurd hq b)
set_option maxHeartbeats 4000000 in
set_option maxRecDepth 20000 in
theorem law_c18 {X : XC} {d : Nat} {i : Int} {M : Mem} {Post : Option XV → Mem → Prop} (h0 : 0 ≤ i) (h1 : i + 6 ≤ (X.2.2.2.2.1 : Int)) (hL : X.2.2.2.2.1 ≤ 3072) (hI : INV M) (K : ∀ M2, INV M2 → Go X mL_law (d + 9) 1427 [(3, XI i), (2, XR 20000), (1, XR 10), (0, XR 5)] [] M2 Post) : Go X mL_law (d + 9) 756 [(3, XI i), (2, XR 20000), (1, XR 10), (0, XR 5)] [] M Post := by
  obtain ⟨s, hs, hC, hD⟩ := hI
  have hr : ∀ k : Int, 0 ≤ k ∧ k ≤ 6 → i32 (i + k) := fun k hk => ⟨by omega, by omega⟩
  obtain ⟨q, eq, r, er, hq, hJ⟩ := (op_preferred hs (X.2.2.2.2.2 (Int.toNat (i + 1))).toInt (X.2.2.2.2.2 (Int.toNat (i + 2))).toInt).both hC hD
  refine g_aload_n 2 dL_law_756 rfl ?_
  refine g_aload_n 3 dL_law_757 rfl ?_
  refine g_iload_n 0 dL_law_758 rfl ?_
  refine g_iconst (v := 1) dL_law_759 rfl (i32l rfl) ?_
  refine g_iadd dL_law_760 rfl (hr 1 (by omega)) ?_
  refine g_ialdS dL_law_761 (by omega) (by omega) ?_
  refine g_aload_n 3 dL_law_762 rfl ?_
  refine g_iload_n 0 dL_law_763 rfl ?_
  refine g_pc (pc' := 764) rfl ?_
  refine g_iconst (v := 2) dL_law_764 rfl (i32l rfl) ?_
  refine g_iadd dL_law_765 rfl (hr 2 (by omega)) ?_
  refine g_ialdS dL_law_766 (by omega) (by omega) ?_
  refine v_I (ci := 7) (as := [XI (X.2.2.2.2.2 (Int.toNat (i + 1))).toInt, XI (X.2.2.2.2.2 (Int.toNat (i + 2))).toInt]) dL_law_767 mlL_91 mdX8_preferred mvX8_preferred rfl lw10 rfl (Nat.le_of_ble_eq_true rfl) (kX8_preferred lw10 eq) rfl ?_
  refine g_aload_n 1 dL_law_770 rfl ?_
  refine g_aload_n 3 dL_law_771 rfl ?_
  refine g_iload_n 0 dL_law_772 rfl ?_
  refine g_iconst (v := 1) dL_law_773 rfl (i32l rfl) ?_
  refine g_pc (pc' := 774) rfl ?_
  refine g_iadd dL_law_774 rfl (hr 1 (by omega)) ?_
  refine g_ialdS dL_law_775 (by omega) (by omega) ?_
  refine g_aload_n 3 dL_law_776 rfl ?_
  refine g_iload_n 0 dL_law_777 rfl ?_
  refine g_iconst (v := 2) dL_law_778 rfl (i32l rfl) ?_
  refine g_iadd dL_law_779 rfl (hr 2 (by omega)) ?_
  refine g_ialdS dL_law_780 (by omega) (by omega) ?_
  refine v_I (ci := 8) (as := [XI (X.2.2.2.2.2 (Int.toNat (i + 1))).toInt, XI (X.2.2.2.2.2 (Int.toNat (i + 2))).toInt]) dL_law_781 mlL_94 mdX9_preferred mvX9_preferred rfl lw20 rfl (Nat.le_of_ble_eq_true rfl) (kX9_preferred lw20 er) rfl ?_
  refine g_pc (pc' := 784) rfl ?_
  exact g_icmp_eq (tgt := 1427) dL_law_784 (by decide) (fun _ => K _ hJ) (fun b => absurd hq b)
set_option maxHeartbeats 4000000 in
set_option maxRecDepth 20000 in
theorem law_c19 {X : XC} {d : Nat} {i : Int} {M : Mem} {Post : Option XV → Mem → Prop} (h0 : 0 ≤ i) (h1 : i + 6 ≤ (X.2.2.2.2.1 : Int)) (hL : X.2.2.2.2.1 ≤ 3072) (hI : INV M) (K : ∀ M2, INV M2 → Go X mL_law (d + 9) 1427 [(3, XI i), (2, XR 20000), (1, XR 10), (0, XR 5)] [] M2 Post) : Go X mL_law (d + 9) 789 [(3, XI i), (2, XR 20000), (1, XR 10), (0, XR 5)] [] M Post := by
  obtain ⟨s, hs, hC, hD⟩ := hI
  have hr : ∀ k : Int, 0 ≤ k ∧ k ≤ 6 → i32 (i + k) := fun k hk => ⟨by omega, by omega⟩
  obtain ⟨q, eq, r, er, hq, hJ⟩ := (op_best hs).both hC hD
  refine g_aload_n 2 dL_law_789 rfl ?_
  refine v_I (ci := 7) (as := []) dL_law_790 mlL_95 mdX8_best mvX8_best rfl lw10 rfl (Nat.le_of_ble_eq_true rfl) (kX8_best lw10 eq) rfl ?_
  refine g_aload_n 1 dL_law_793 rfl ?_
  refine v_I (ci := 8) (as := []) dL_law_794 mlL_98 mdX9_best mvX9_best rfl lw20 rfl (Nat.le_of_ble_eq_true rfl) (kX9_best lw20 er) rfl ?_
  exact g_icmp_eq (tgt := 1427) dL_law_797 (by decide) (fun _ => K _ hJ) (fun b => absurd hq b)
set_option maxHeartbeats 4000000 in
set_option maxRecDepth 20000 in
theorem law_c20 {X : XC} {d : Nat} {i : Int} {M : Mem} {Post : Option XV → Mem → Prop} (h0 : 0 ≤ i) (h1 : i + 6 ≤ (X.2.2.2.2.1 : Int)) (hL : X.2.2.2.2.1 ≤ 3072) (hI : INV M) (K : ∀ M2, INV M2 → Go X mL_law (d + 9) 1427 [(3, XI i), (2, XR 20000), (1, XR 10), (0, XR 5)] [] M2 Post) : Go X mL_law (d + 9) 802 [(3, XI i), (2, XR 20000), (1, XR 10), (0, XR 5)] [] M Post := by
  obtain ⟨s, hs, hC, hD⟩ := hI
  have hr : ∀ k : Int, 0 ≤ k ∧ k ≤ 6 → i32 (i + k) := fun k hk => ⟨by omega, by omega⟩
  obtain ⟨q, eq, r, er, hq, hJ⟩ := (op_share hs (X.2.2.2.2.2 (Int.toNat (i + 1))).toInt (X.2.2.2.2.2 (Int.toNat (i + 2))).toInt (X.2.2.2.2.2 (Int.toNat (i + 3))).toInt).both hC hD
  refine g_aload_n 2 dL_law_802 rfl ?_
  refine g_aload_n 3 dL_law_803 rfl ?_
  refine g_iload_n 0 dL_law_804 rfl ?_
  refine g_iconst (v := 1) dL_law_805 rfl (i32l rfl) ?_
  refine g_iadd dL_law_806 rfl (hr 1 (by omega)) ?_
  refine g_ialdS dL_law_807 (by omega) (by omega) ?_
  refine g_aload_n 3 dL_law_808 rfl ?_
  refine g_iload_n 0 dL_law_809 rfl ?_
  refine g_pc (pc' := 810) rfl ?_
  refine g_iconst (v := 2) dL_law_810 rfl (i32l rfl) ?_
  refine g_iadd dL_law_811 rfl (hr 2 (by omega)) ?_
  refine g_ialdS dL_law_812 (by omega) (by omega) ?_
  refine g_aload_n 3 dL_law_813 rfl ?_
  refine g_iload_n 0 dL_law_814 rfl ?_
  refine g_iconst (v := 3) dL_law_815 rfl (i32l rfl) ?_
  refine g_iadd dL_law_816 rfl (hr 3 (by omega)) ?_
  refine g_ialdS dL_law_817 (by omega) (by omega) ?_
  refine v_J (ci := 7) (as := [XI (X.2.2.2.2.2 (Int.toNat (i + 1))).toInt, XI (X.2.2.2.2.2 (Int.toNat (i + 2))).toInt, XI (X.2.2.2.2.2 (Int.toNat (i + 3))).toInt]) dL_law_818 mlL_99 mdX8_share mvX8_share rfl lw10 rfl (Nat.le_of_ble_eq_true rfl) (kX8_share lw10 eq) rfl ?_
  refine g_pc (pc' := 821) rfl ?_
  refine g_aload_n 1 dL_law_821 rfl ?_
  refine g_aload_n 3 dL_law_822 rfl ?_
  refine g_iload_n 0 dL_law_823 rfl ?_
  refine g_iconst (v := 1) dL_law_824 rfl (i32l rfl) ?_
  refine g_iadd dL_law_825 rfl (hr 1 (by omega)) ?_
  refine g_ialdS dL_law_826 (by omega) (by omega) ?_
  refine g_aload_n 3 dL_law_827 rfl ?_
  refine g_iload_n 0 dL_law_828 rfl ?_
  refine g_iconst (v := 2) dL_law_829 rfl (i32l rfl) ?_
  refine g_pc (pc' := 830) rfl ?_
  refine g_iadd dL_law_830 rfl (hr 2 (by omega)) ?_
  refine g_ialdS dL_law_831 (by omega) (by omega) ?_
  refine g_aload_n 3 dL_law_832 rfl ?_
  refine g_iload_n 0 dL_law_833 rfl ?_
  refine g_iconst (v := 3) dL_law_834 rfl (i32l rfl) ?_
  refine g_iadd dL_law_835 rfl (hr 3 (by omega)) ?_
  refine g_ialdS dL_law_836 (by omega) (by omega) ?_
  refine v_J (ci := 8) (as := [XI (X.2.2.2.2.2 (Int.toNat (i + 1))).toInt, XI (X.2.2.2.2.2 (Int.toNat (i + 2))).toInt, XI (X.2.2.2.2.2 (Int.toNat (i + 3))).toInt]) dL_law_837 mlL_102 mdX9_share mvX9_share rfl lw20 rfl (Nat.le_of_ble_eq_true rfl) (kX9_share lw20 er) rfl ?_
  refine g_pc (pc' := 840) rfl ?_
  exact g_lcmp_eq (tgt := 1427) dL_law_840 dL_law_841 (by decide) (fun _ => K _ hJ) (fun b => absurd hq b)
set_option maxHeartbeats 4000000 in
set_option maxRecDepth 20000 in
theorem law_c21 {X : XC} {d : Nat} {i : Int} {M : Mem} {Post : Option XV → Mem → Prop} (h0 : 0 ≤ i) (h1 : i + 6 ≤ (X.2.2.2.2.1 : Int)) (hL : X.2.2.2.2.1 ≤ 3072) (hI : INV M) (K : ∀ M2, INV M2 → Go X mL_law (d + 9) 1427 [(3, XI i), (2, XR 20000), (1, XR 10), (0, XR 5)] [] M2 Post) : Go X mL_law (d + 9) 846 [(3, XI i), (2, XR 20000), (1, XR 10), (0, XR 5)] [] M Post := by
  obtain ⟨s, hs, hC, hD⟩ := hI
  have hr : ∀ k : Int, 0 ≤ k ∧ k ≤ 6 → i32 (i + k) := fun k hk => ⟨by omega, by omega⟩
  obtain ⟨q, eq, r, er, hq, hJ⟩ := (op_without hs (X.2.2.2.2.2 (Int.toNat (i + 1))).toInt).both hC hD
  refine g_aload_n 2 dL_law_846 rfl ?_
  refine g_aload_n 3 dL_law_847 rfl ?_
  refine g_iload_n 0 dL_law_848 rfl ?_
  refine g_iconst (v := 1) dL_law_849 rfl (i32l rfl) ?_
  refine g_iadd dL_law_850 rfl (hr 1 (by omega)) ?_
  refine g_ialdS dL_law_851 (by omega) (by omega) ?_
  refine v_I (ci := 7) (as := [XI (X.2.2.2.2.2 (Int.toNat (i + 1))).toInt]) dL_law_852 mlL_103 mdX8_without mvX8_without rfl lw10 rfl (Nat.le_of_ble_eq_true rfl) (kX8_without lw10 eq) rfl ?_
  refine g_pc (pc' := 855) rfl ?_
  refine g_aload_n 1 dL_law_855 rfl ?_
  refine g_aload_n 3 dL_law_856 rfl ?_
  refine g_iload_n 0 dL_law_857 rfl ?_
  refine g_iconst (v := 1) dL_law_858 rfl (i32l rfl) ?_
  refine g_iadd dL_law_859 rfl (hr 1 (by omega)) ?_
  refine g_ialdS dL_law_860 (by omega) (by omega) ?_
  refine v_I (ci := 8) (as := [XI (X.2.2.2.2.2 (Int.toNat (i + 1))).toInt]) dL_law_861 mlL_106 mdX9_without mvX9_without rfl lw20 rfl (Nat.le_of_ble_eq_true rfl) (kX9_without lw20 er) rfl ?_
  exact g_icmp_eq (tgt := 1427) dL_law_864 (by decide) (fun _ => K _ hJ) (fun b => absurd hq b)
set_option maxHeartbeats 4000000 in
set_option maxRecDepth 20000 in
theorem law_c22 {X : XC} {d : Nat} {i : Int} {M : Mem} {Post : Option XV → Mem → Prop} (h0 : 0 ≤ i) (h1 : i + 6 ≤ (X.2.2.2.2.1 : Int)) (hL : X.2.2.2.2.1 ≤ 3072) (hI : INV M) (K : ∀ M2, INV M2 → Go X mL_law (d + 9) 1427 [(3, XI i), (2, XR 20000), (1, XR 10), (0, XR 5)] [] M2 Post) : Go X mL_law (d + 9) 869 [(3, XI i), (2, XR 20000), (1, XR 10), (0, XR 5)] [] M Post := by
  obtain ⟨s, hs, hC, hD⟩ := hI
  have hr : ∀ k : Int, 0 ≤ k ∧ k ≤ 6 → i32 (i + k) := fun k hk => ⟨by omega, by omega⟩
  obtain ⟨q, eq, r, er, hq, hJ⟩ := (op_raised hs (X.2.2.2.2.2 (Int.toNat (i + 1))).toInt (X.2.2.2.2.2 (Int.toNat (i + 2))).toInt).both hC hD
  refine g_aload_n 2 dL_law_869 rfl ?_
  refine g_aload_n 3 dL_law_870 rfl ?_
  refine g_iload_n 0 dL_law_871 rfl ?_
  refine g_iconst (v := 1) dL_law_872 rfl (i32l rfl) ?_
  refine g_iadd dL_law_873 rfl (hr 1 (by omega)) ?_
  refine g_ialdS dL_law_874 (by omega) (by omega) ?_
  refine g_aload_n 3 dL_law_875 rfl ?_
  refine g_iload_n 0 dL_law_876 rfl ?_
  refine g_pc (pc' := 877) rfl ?_
  refine g_iconst (v := 2) dL_law_877 rfl (i32l rfl) ?_
  refine g_iadd dL_law_878 rfl (hr 2 (by omega)) ?_
  refine g_ialdS dL_law_879 (by omega) (by omega) ?_
  refine v_I (ci := 7) (as := [XI (X.2.2.2.2.2 (Int.toNat (i + 1))).toInt, XI (X.2.2.2.2.2 (Int.toNat (i + 2))).toInt]) dL_law_880 mlL_107 mdX8_raised mvX8_raised rfl lw10 rfl (Nat.le_of_ble_eq_true rfl) (kX8_raised lw10 eq) rfl ?_
  refine g_aload_n 1 dL_law_883 rfl ?_
  refine g_aload_n 3 dL_law_884 rfl ?_
  refine g_iload_n 0 dL_law_885 rfl ?_
  refine g_iconst (v := 1) dL_law_886 rfl (i32l rfl) ?_
  refine g_pc (pc' := 887) rfl ?_
  refine g_iadd dL_law_887 rfl (hr 1 (by omega)) ?_
  refine g_ialdS dL_law_888 (by omega) (by omega) ?_
  refine g_aload_n 3 dL_law_889 rfl ?_
  refine g_iload_n 0 dL_law_890 rfl ?_
  refine g_iconst (v := 2) dL_law_891 rfl (i32l rfl) ?_
  refine g_iadd dL_law_892 rfl (hr 2 (by omega)) ?_
  refine g_ialdS dL_law_893 (by omega) (by omega) ?_
  refine v_I (ci := 8) (as := [XI (X.2.2.2.2.2 (Int.toNat (i + 1))).toInt, XI (X.2.2.2.2.2 (Int.toNat (i + 2))).toInt]) dL_law_894 mlL_110 mdX9_raised mvX9_raised rfl lw20 rfl (Nat.le_of_ble_eq_true rfl) (kX9_raised lw20 er) rfl ?_
  refine g_pc (pc' := 897) rfl ?_
  exact g_icmp_eq (tgt := 1427) dL_law_897 (by decide) (fun _ => K _ hJ) (fun b => absurd hq b)
set_option maxHeartbeats 4000000 in
set_option maxRecDepth 20000 in
theorem law_c23 {X : XC} {d : Nat} {i : Int} {M : Mem} {Post : Option XV → Mem → Prop} (h0 : 0 ≤ i) (h1 : i + 6 ≤ (X.2.2.2.2.1 : Int)) (hL : X.2.2.2.2.1 ≤ 3072) (hI : INV M) (K : ∀ M2, INV M2 → Go X mL_law (d + 9) 1427 [(3, XI i), (2, XR 20000), (1, XR 10), (0, XR 5)] [] M2 Post) : Go X mL_law (d + 9) 902 [(3, XI i), (2, XR 20000), (1, XR 10), (0, XR 5)] [] M Post := by
  obtain ⟨s, hs, hC, hD⟩ := hI
  have hr : ∀ k : Int, 0 ≤ k ∧ k ≤ 6 → i32 (i + k) := fun k hk => ⟨by omega, by omega⟩
  obtain ⟨q, eq, r, er, hq, hJ⟩ := (op_needs hs (X.2.2.2.2.2 (Int.toNat (i + 1))).toInt (X.2.2.2.2.2 (Int.toNat (i + 2))).toInt).both hC hD
  refine g_aload_n 2 dL_law_902 rfl ?_
  refine g_aload_n 3 dL_law_903 rfl ?_
  refine g_iload_n 0 dL_law_904 rfl ?_
  refine g_iconst (v := 1) dL_law_905 rfl (i32l rfl) ?_
  refine g_iadd dL_law_906 rfl (hr 1 (by omega)) ?_
  refine g_ialdS dL_law_907 (by omega) (by omega) ?_
  refine g_aload_n 3 dL_law_908 rfl ?_
  refine g_iload_n 0 dL_law_909 rfl ?_
  refine g_pc (pc' := 910) rfl ?_
  refine g_iconst (v := 2) dL_law_910 rfl (i32l rfl) ?_
  refine g_iadd dL_law_911 rfl (hr 2 (by omega)) ?_
  refine g_ialdS dL_law_912 (by omega) (by omega) ?_
  refine v_I (ci := 7) (as := [XI (X.2.2.2.2.2 (Int.toNat (i + 1))).toInt, XI (X.2.2.2.2.2 (Int.toNat (i + 2))).toInt]) dL_law_913 mlL_111 mdX8_needs mvX8_needs rfl lw10 rfl (Nat.le_of_ble_eq_true rfl) (kX8_needs lw10 eq) rfl ?_
  refine g_aload_n 1 dL_law_916 rfl ?_
  refine g_aload_n 3 dL_law_917 rfl ?_
  refine g_iload_n 0 dL_law_918 rfl ?_
  refine g_iconst (v := 1) dL_law_919 rfl (i32l rfl) ?_
  refine g_pc (pc' := 920) rfl ?_
  refine g_iadd dL_law_920 rfl (hr 1 (by omega)) ?_
  refine g_ialdS dL_law_921 (by omega) (by omega) ?_
  refine g_aload_n 3 dL_law_922 rfl ?_
  refine g_iload_n 0 dL_law_923 rfl ?_
  refine g_iconst (v := 2) dL_law_924 rfl (i32l rfl) ?_
  refine g_iadd dL_law_925 rfl (hr 2 (by omega)) ?_
  refine g_ialdS dL_law_926 (by omega) (by omega) ?_
  refine v_I (ci := 8) (as := [XI (X.2.2.2.2.2 (Int.toNat (i + 1))).toInt, XI (X.2.2.2.2.2 (Int.toNat (i + 2))).toInt]) dL_law_927 mlL_114 mdX9_needs mvX9_needs rfl lw20 rfl (Nat.le_of_ble_eq_true rfl) (kX9_needs lw20 er) rfl ?_
  refine g_pc (pc' := 930) rfl ?_
  exact g_icmp_eq (tgt := 1427) dL_law_930 (by decide) (fun _ => K _ hJ) (fun b => absurd hq b)
set_option maxHeartbeats 4000000 in
set_option maxRecDepth 20000 in
theorem law_c24 {X : XC} {d : Nat} {i : Int} {M : Mem} {Post : Option XV → Mem → Prop} (h0 : 0 ≤ i) (h1 : i + 6 ≤ (X.2.2.2.2.1 : Int)) (hL : X.2.2.2.2.1 ≤ 3072) (hI : INV M) (K : ∀ M2, INV M2 → Go X mL_law (d + 9) 1427 [(3, XI i), (2, XR 20000), (1, XR 10), (0, XR 5)] [] M2 Post) : Go X mL_law (d + 9) 935 [(3, XI i), (2, XR 20000), (1, XR 10), (0, XR 5)] [] M Post := by
  obtain ⟨s, hs, hC, hD⟩ := hI
  have hr : ∀ k : Int, 0 ≤ k ∧ k ≤ 6 → i32 (i + k) := fun k hk => ⟨by omega, by omega⟩
  by_cases hb : (X.2.2.2.2.2 (Int.toNat (i + 2))).toInt = 0
  · obtain ⟨q, eq, r, er, hq, hJ⟩ := (op_see hs (X.2.2.2.2.2 (Int.toNat (i + 1))).toInt 0 (Or.inl rfl)).both hC hD
    refine g_aload_n 2 dL_law_935 rfl ?_
    refine g_aload_n 3 dL_law_936 rfl ?_
    refine g_iload_n 0 dL_law_937 rfl ?_
    refine g_iconst (v := 1) dL_law_938 rfl (i32l rfl) ?_
    refine g_iadd dL_law_939 rfl (hr 1 (by omega)) ?_
    refine g_ialdS dL_law_940 (by omega) (by omega) ?_
    refine g_aload_n 3 dL_law_941 rfl ?_
    refine g_iload_n 0 dL_law_942 rfl ?_
    refine g_pc (pc' := 943) rfl ?_
    refine g_iconst (v := 2) dL_law_943 rfl (i32l rfl) ?_
    refine g_iadd dL_law_944 rfl (hr 2 (by omega)) ?_
    refine g_ialdS dL_law_945 (by omega) (by omega) ?_
    refine g_if_eq (tgt := 953) dL_law_946 (by decide) (fun _ => ?_) (fun b => absurd hb b)
    refine g_iconst (v := 0) dL_law_953 rfl (i32l rfl) ?_
    refine v_I (ci := 7) (as := [XI (X.2.2.2.2.2 (Int.toNat (i + 1))).toInt, XI 0]) dL_law_954 mlL_115 mdX8_see mvX8_see rfl lw10 rfl (Nat.le_of_ble_eq_true rfl) (kX8_see lw10 eq) rfl ?_
    refine g_aload_n 1 dL_law_957 rfl ?_
    refine g_aload_n 3 dL_law_958 rfl ?_
    refine g_iload_n 0 dL_law_959 rfl ?_
    refine g_iconst (v := 1) dL_law_960 rfl (i32l rfl) ?_
    refine g_iadd dL_law_961 rfl (hr 1 (by omega)) ?_
    refine g_pc (pc' := 962) rfl ?_
    refine g_ialdS dL_law_962 (by omega) (by omega) ?_
    refine g_aload_n 3 dL_law_963 rfl ?_
    refine g_iload_n 0 dL_law_964 rfl ?_
    refine g_iconst (v := 2) dL_law_965 rfl (i32l rfl) ?_
    refine g_iadd dL_law_966 rfl (hr 2 (by omega)) ?_
    refine g_ialdS dL_law_967 (by omega) (by omega) ?_
    refine g_if_eq (tgt := 975) dL_law_968 (by decide) (fun _ => ?_) (fun b => absurd hb b)
    refine g_iconst (v := 0) dL_law_975 rfl (i32l rfl) ?_
    refine v_I (ci := 8) (as := [XI (X.2.2.2.2.2 (Int.toNat (i + 1))).toInt, XI 0]) dL_law_976 mlL_118 mdX9_see mvX9_see rfl lw20 rfl (Nat.le_of_ble_eq_true rfl) (kX9_see lw20 er) rfl ?_
    exact g_icmp_eq (tgt := 1427) dL_law_979 (by decide) (fun _ => K _ hJ) (fun b => absurd hq b)
  · obtain ⟨q, eq, r, er, hq, hJ⟩ := (op_see hs (X.2.2.2.2.2 (Int.toNat (i + 1))).toInt 1 (Or.inr rfl)).both hC hD
    refine g_aload_n 2 dL_law_935 rfl ?_
    refine g_aload_n 3 dL_law_936 rfl ?_
    refine g_iload_n 0 dL_law_937 rfl ?_
    refine g_iconst (v := 1) dL_law_938 rfl (i32l rfl) ?_
    refine g_iadd dL_law_939 rfl (hr 1 (by omega)) ?_
    refine g_ialdS dL_law_940 (by omega) (by omega) ?_
    refine g_aload_n 3 dL_law_941 rfl ?_
    refine g_iload_n 0 dL_law_942 rfl ?_
    refine g_pc (pc' := 943) rfl ?_
    refine g_iconst (v := 2) dL_law_943 rfl (i32l rfl) ?_
    refine g_iadd dL_law_944 rfl (hr 2 (by omega)) ?_
    refine g_ialdS dL_law_945 (by omega) (by omega) ?_
    refine g_if_eq (tgt := 953) dL_law_946 (by decide) (fun b => absurd b hb) (fun _ => ?_)
    refine g_pc (pc' := 949) rfl ?_
    refine g_iconst (v := 1) dL_law_949 rfl (i32l rfl) ?_
    refine g_goto (tgt := 954) dL_law_950 (by decide) ?_
    refine v_I (ci := 7) (as := [XI (X.2.2.2.2.2 (Int.toNat (i + 1))).toInt, XI 1]) dL_law_954 mlL_115 mdX8_see mvX8_see rfl lw10 rfl (Nat.le_of_ble_eq_true rfl) (kX8_see lw10 eq) rfl ?_
    refine g_aload_n 1 dL_law_957 rfl ?_
    refine g_aload_n 3 dL_law_958 rfl ?_
    refine g_iload_n 0 dL_law_959 rfl ?_
    refine g_iconst (v := 1) dL_law_960 rfl (i32l rfl) ?_
    refine g_iadd dL_law_961 rfl (hr 1 (by omega)) ?_
    refine g_ialdS dL_law_962 (by omega) (by omega) ?_
    refine g_pc (pc' := 963) rfl ?_
    refine g_aload_n 3 dL_law_963 rfl ?_
    refine g_iload_n 0 dL_law_964 rfl ?_
    refine g_iconst (v := 2) dL_law_965 rfl (i32l rfl) ?_
    refine g_iadd dL_law_966 rfl (hr 2 (by omega)) ?_
    refine g_ialdS dL_law_967 (by omega) (by omega) ?_
    refine g_if_eq (tgt := 975) dL_law_968 (by decide) (fun b => absurd b hb) (fun _ => ?_)
    refine g_pc (pc' := 971) rfl ?_
    refine g_iconst (v := 1) dL_law_971 rfl (i32l rfl) ?_
    refine g_goto (tgt := 976) dL_law_972 (by decide) ?_
    refine v_I (ci := 8) (as := [XI (X.2.2.2.2.2 (Int.toNat (i + 1))).toInt, XI 1]) dL_law_976 mlL_118 mdX9_see mvX9_see rfl lw20 rfl (Nat.le_of_ble_eq_true rfl) (kX9_see lw20 er) rfl ?_
    exact g_icmp_eq (tgt := 1427) dL_law_979 (by decide) (fun _ => K _ hJ) (fun b => absurd hq b)
set_option maxHeartbeats 4000000 in
set_option maxRecDepth 20000 in
theorem law_c25 {X : XC} {d : Nat} {i : Int} {M : Mem} {Post : Option XV → Mem → Prop} (h0 : 0 ≤ i) (h1 : i + 6 ≤ (X.2.2.2.2.1 : Int)) (hL : X.2.2.2.2.1 ≤ 3072) (hI : INV M) (K : ∀ M2, INV M2 → Go X mL_law (d + 9) 1427 [(3, XI i), (2, XR 20000), (1, XR 10), (0, XR 5)] [] M2 Post) : Go X mL_law (d + 9) 984 [(3, XI i), (2, XR 20000), (1, XR 10), (0, XR 5)] [] M Post := by
  obtain ⟨s, hs, hC, hD⟩ := hI
  have hr : ∀ k : Int, 0 ≤ k ∧ k ≤ 6 → i32 (i + k) := fun k hk => ⟨by omega, by omega⟩
  obtain ⟨q, eq, r, er, hq, hJ⟩ := (op_fits hs (X.2.2.2.2.2 (Int.toNat (i + 1))).toInt).both hC hD
  refine g_aload_n 2 dL_law_984 rfl ?_
  refine g_aload_n 3 dL_law_985 rfl ?_
  refine g_iload_n 0 dL_law_986 rfl ?_
  refine g_iconst (v := 1) dL_law_987 rfl (i32l rfl) ?_
  refine g_iadd dL_law_988 rfl (hr 1 (by omega)) ?_
  refine g_ialdS dL_law_989 (by omega) (by omega) ?_
  refine v_I (ci := 7) (as := [XI (X.2.2.2.2.2 (Int.toNat (i + 1))).toInt]) dL_law_990 mlL_119 mdX8_fits mvX8_fits rfl lw10 rfl (Nat.le_of_ble_eq_true rfl) (kX8_fits lw10 eq) rfl ?_
  refine g_pc (pc' := 993) rfl ?_
  refine g_aload_n 1 dL_law_993 rfl ?_
  refine g_aload_n 3 dL_law_994 rfl ?_
  refine g_iload_n 0 dL_law_995 rfl ?_
  refine g_iconst (v := 1) dL_law_996 rfl (i32l rfl) ?_
  refine g_iadd dL_law_997 rfl (hr 1 (by omega)) ?_
  refine g_ialdS dL_law_998 (by omega) (by omega) ?_
  refine v_I (ci := 8) (as := [XI (X.2.2.2.2.2 (Int.toNat (i + 1))).toInt]) dL_law_999 mlL_122 mdX9_fits mvX9_fits rfl lw20 rfl (Nat.le_of_ble_eq_true rfl) (kX9_fits lw20 er) rfl ?_
  exact g_icmp_eq (tgt := 1427) dL_law_1002 (by decide) (fun _ => K _ hJ) (fun b => absurd hq b)
end
