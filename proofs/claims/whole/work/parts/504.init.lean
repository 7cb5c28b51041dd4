section
set_option maxRecDepth 100000 in
theorem mcX9_init : MC mX9_init 0 := ⟨at_x 844 rfl rfl, at_x 77 rfl rfl, at_x 843 rfl rfl, ⟨nhX9.1, nhX9.2, by decide +kernel⟩, by decide, rfl, rfl⟩
set_option maxRecDepth 100000 in
theorem fcX9_11 : FC RX9 11 8 2 (tyX9 2) true := ⟨TX9, 69, tyX9, rfl, by decide, x_ps inX9 gdX9, tyX9_ok, nmX9, at_x 850 rfl rfl, rfl, rfl, tyX9_ok 2 (by decide)⟩
set_option maxRecDepth 100000 in
theorem fcX9_15 : FC RX9 15 8 3 (tyX9 3) true := ⟨TX9, 69, tyX9, rfl, by decide, x_ps inX9 gdX9, tyX9_ok, nmX9, at_x 851 rfl rfl, rfl, rfl, tyX9_ok 3 (by decide)⟩
set_option maxRecDepth 100000 in
theorem fcX9_19 : FC RX9 19 8 4 (tyX9 4) true := ⟨TX9, 69, tyX9, rfl, by decide, x_ps inX9 gdX9, tyX9_ok, nmX9, at_x 852 rfl rfl, rfl, rfl, tyX9_ok 4 (by decide)⟩
set_option maxRecDepth 100000 in
theorem fcX9_22 : FC RX9 22 8 5 (tyX9 5) true := ⟨TX9, 69, tyX9, rfl, by decide, x_ps inX9 gdX9, tyX9_ok, nmX9, at_x 853 rfl rfl, rfl, rfl, tyX9_ok 5 (by decide)⟩
set_option maxRecDepth 100000 in
theorem fcX9_25 : FC RX9 25 8 6 (tyX9 6) false := ⟨TX9, 69, tyX9, rfl, by decide, x_ps inX9 gdX9, tyX9_ok, nmX9, at_x 854 rfl rfl, rfl, rfl, tyX9_ok 6 (by decide)⟩
set_option maxRecDepth 100000 in
theorem fcX9_29 : FC RX9 29 8 7 (tyX9 7) false := ⟨TX9, 69, tyX9, rfl, by decide, x_ps inX9 gdX9, tyX9_ok, nmX9, at_x 855 rfl rfl, rfl, rfl, tyX9_ok 7 (by decide)⟩
set_option maxRecDepth 100000 in
theorem fcX9_32 : FC RX9 32 8 8 (tyX9 8) false := ⟨TX9, 69, tyX9, rfl, by decide, x_ps inX9 gdX9, tyX9_ok, nmX9, at_x 856 rfl rfl, rfl, rfl, tyX9_ok 8 (by decide)⟩
set_option maxRecDepth 100000 in
theorem fcX9_35 : FC RX9 35 8 11 (tyX9 11) true := ⟨TX9, 69, tyX9, rfl, by decide, x_ps inX9 gdX9, tyX9_ok, nmX9, at_x 859 rfl rfl, rfl, rfl, tyX9_ok 11 (by decide)⟩
set_option maxRecDepth 100000 in
theorem fcX9_38 : FC RX9 38 8 12 (tyX9 12) true := ⟨TX9, 69, tyX9, rfl, by decide, x_ps inX9 gdX9, tyX9_ok, nmX9, at_x 860 rfl rfl, rfl, rfl, tyX9_ok 12 (by decide)⟩
set_option maxRecDepth 100000 in
theorem fcX9_41 : FC RX9 41 8 13 (tyX9 13) true := ⟨TX9, 69, tyX9, rfl, by decide, x_ps inX9 gdX9, tyX9_ok, nmX9, at_x 861 rfl rfl, rfl, rfl, tyX9_ok 13 (by decide)⟩
set_option maxRecDepth 100000 in
theorem fcX9_44 : FC RX9 44 8 14 (tyX9 14) true := ⟨TX9, 69, tyX9, rfl, by decide, x_ps inX9 gdX9, tyX9_ok, nmX9, at_x 862 rfl rfl, rfl, rfl, tyX9_ok 14 (by decide)⟩
set_option maxRecDepth 100000 in
theorem fcX9_47 : FC RX9 47 8 16 (tyX9 16) true := ⟨TX9, 69, tyX9, rfl, by decide, x_ps inX9 gdX9, tyX9_ok, nmX9, at_x 864 rfl rfl, rfl, rfl, tyX9_ok 16 (by decide)⟩
set_option maxRecDepth 100000 in
theorem fcX9_50 : FC RX9 50 8 17 (tyX9 17) true := ⟨TX9, 69, tyX9, rfl, by decide, x_ps inX9 gdX9, tyX9_ok, nmX9, at_x 865 rfl rfl, rfl, rfl, tyX9_ok 17 (by decide)⟩
set_option maxRecDepth 100000 in
theorem fcX9_53 : FC RX9 53 8 19 (tyX9 19) true := ⟨TX9, 69, tyX9, rfl, by decide, x_ps inX9 gdX9, tyX9_ok, nmX9, at_x 867 rfl rfl, rfl, rfl, tyX9_ok 19 (by decide)⟩
set_option maxRecDepth 100000 in
theorem fcX9_56 : FC RX9 56 8 20 (tyX9 20) true := ⟨TX9, 69, tyX9, rfl, by decide, x_ps inX9 gdX9, tyX9_ok, nmX9, at_x 868 rfl rfl, rfl, rfl, tyX9_ok 20 (by decide)⟩
set_option maxRecDepth 100000 in
theorem fcX9_59 : FC RX9 59 8 21 (tyX9 21) true := ⟨TX9, 69, tyX9, rfl, by decide, x_ps inX9 gdX9, tyX9_ok, nmX9, at_x 869 rfl rfl, rfl, rfl, tyX9_ok 21 (by decide)⟩
set_option maxRecDepth 100000 in
theorem fcX9_62 : FC RX9 62 8 24 (tyX9 24) true := ⟨TX9, 69, tyX9, rfl, by decide, x_ps inX9 gdX9, tyX9_ok, nmX9, at_x 872 rfl rfl, rfl, rfl, tyX9_ok 24 (by decide)⟩
set_option maxRecDepth 100000 in
theorem fcX9_65 : FC RX9 65 8 25 (tyX9 25) true := ⟨TX9, 69, tyX9, rfl, by decide, x_ps inX9 gdX9, tyX9_ok, nmX9, at_x 873 rfl rfl, rfl, rfl, tyX9_ok 25 (by decide)⟩
set_option maxRecDepth 100000 in
theorem fcX9_68 : FC RX9 68 8 26 (tyX9 26) true := ⟨TX9, 69, tyX9, rfl, by decide, x_ps inX9 gdX9, tyX9_ok, nmX9, at_x 874 rfl rfl, rfl, rfl, tyX9_ok 26 (by decide)⟩
set_option maxRecDepth 100000 in
theorem fcX9_71 : FC RX9 71 8 27 (tyX9 27) true := ⟨TX9, 69, tyX9, rfl, by decide, x_ps inX9 gdX9, tyX9_ok, nmX9, at_x 875 rfl rfl, rfl, rfl, tyX9_ok 27 (by decide)⟩
set_option maxRecDepth 100000 in
theorem fcX9_74 : FC RX9 74 8 28 (tyX9 28) true := ⟨TX9, 69, tyX9, rfl, by decide, x_ps inX9 gdX9, tyX9_ok, nmX9, at_x 876 rfl rfl, rfl, rfl, tyX9_ok 28 (by decide)⟩
set_option maxRecDepth 100000 in
theorem fcX9_78 : FC RX9 78 8 33 (tyX9 33) true := ⟨TX9, 69, tyX9, rfl, by decide, x_ps inX9 gdX9, tyX9_ok, nmX9, at_x 881 rfl rfl, rfl, rfl, tyX9_ok 33 (by decide)⟩
set_option maxRecDepth 100000 in
theorem fcX9_81 : FC RX9 81 8 34 (tyX9 34) true := ⟨TX9, 69, tyX9, rfl, by decide, x_ps inX9 gdX9, tyX9_ok, nmX9, at_x 882 rfl rfl, rfl, rfl, tyX9_ok 34 (by decide)⟩
set_option maxRecDepth 100000 in
theorem fcX9_84 : FC RX9 84 8 35 (tyX9 35) true := ⟨TX9, 69, tyX9, rfl, by decide, x_ps inX9 gdX9, tyX9_ok, nmX9, at_x 883 rfl rfl, rfl, rfl, tyX9_ok 35 (by decide)⟩
set_option maxRecDepth 100000 in
theorem fcX9_87 : FC RX9 87 8 36 (tyX9 36) true := ⟨TX9, 69, tyX9, rfl, by decide, x_ps inX9 gdX9, tyX9_ok, nmX9, at_x 884 rfl rfl, rfl, rfl, tyX9_ok 36 (by decide)⟩
set_option maxRecDepth 100000 in
theorem fcX9_90 : FC RX9 90 8 37 (tyX9 37) true := ⟨TX9, 69, tyX9, rfl, by decide, x_ps inX9 gdX9, tyX9_ok, nmX9, at_x 885 rfl rfl, rfl, rfl, tyX9_ok 37 (by decide)⟩
set_option maxRecDepth 100000 in
theorem fcX9_93 : FC RX9 93 8 38 (tyX9 38) true := ⟨TX9, 69, tyX9, rfl, by decide, x_ps inX9 gdX9, tyX9_ok, nmX9, at_x 886 rfl rfl, rfl, rfl, tyX9_ok 38 (by decide)⟩
set_option maxRecDepth 100000 in
theorem fcX9_96 : FC RX9 96 8 39 (tyX9 39) true := ⟨TX9, 69, tyX9, rfl, by decide, x_ps inX9 gdX9, tyX9_ok, nmX9, at_x 887 rfl rfl, rfl, rfl, tyX9_ok 39 (by decide)⟩
set_option maxRecDepth 100000 in
theorem fcX9_99 : FC RX9 99 8 40 (tyX9 40) true := ⟨TX9, 69, tyX9, rfl, by decide, x_ps inX9 gdX9, tyX9_ok, nmX9, at_x 888 rfl rfl, rfl, rfl, tyX9_ok 40 (by decide)⟩
set_option maxRecDepth 100000 in
theorem fcX9_102 : FC RX9 102 8 41 (tyX9 41) true := ⟨TX9, 69, tyX9, rfl, by decide, x_ps inX9 gdX9, tyX9_ok, nmX9, at_x 889 rfl rfl, rfl, rfl, tyX9_ok 41 (by decide)⟩
set_option maxRecDepth 100000 in
theorem fcX9_105 : FC RX9 105 8 42 (tyX9 42) true := ⟨TX9, 69, tyX9, rfl, by decide, x_ps inX9 gdX9, tyX9_ok, nmX9, at_x 890 rfl rfl, rfl, rfl, tyX9_ok 42 (by decide)⟩
set_option maxRecDepth 100000 in
theorem fcX9_108 : FC RX9 108 8 43 (tyX9 43) true := ⟨TX9, 69, tyX9, rfl, by decide, x_ps inX9 gdX9, tyX9_ok, nmX9, at_x 891 rfl rfl, rfl, rfl, tyX9_ok 43 (by decide)⟩
set_option maxRecDepth 100000 in
theorem fcX9_111 : FC RX9 111 8 44 (tyX9 44) true := ⟨TX9, 69, tyX9, rfl, by decide, x_ps inX9 gdX9, tyX9_ok, nmX9, at_x 892 rfl rfl, rfl, rfl, tyX9_ok 44 (by decide)⟩
set_option maxRecDepth 100000 in
theorem fcX9_114 : FC RX9 114 8 45 (tyX9 45) true := ⟨TX9, 69, tyX9, rfl, by decide, x_ps inX9 gdX9, tyX9_ok, nmX9, at_x 893 rfl rfl, rfl, rfl, tyX9_ok 45 (by decide)⟩
set_option maxRecDepth 100000 in
theorem fcX9_117 : FC RX9 117 8 52 (tyX9 52) true := ⟨TX9, 69, tyX9, rfl, by decide, x_ps inX9 gdX9, tyX9_ok, nmX9, at_x 900 rfl rfl, rfl, rfl, tyX9_ok 52 (by decide)⟩
set_option maxRecDepth 100000 in
theorem fcX9_120 : FC RX9 120 8 53 (tyX9 53) true := ⟨TX9, 69, tyX9, rfl, by decide, x_ps inX9 gdX9, tyX9_ok, nmX9, at_x 901 rfl rfl, rfl, rfl, tyX9_ok 53 (by decide)⟩
set_option maxRecDepth 100000 in
theorem fcX9_123 : FC RX9 123 8 54 (tyX9 54) true := ⟨TX9, 69, tyX9, rfl, by decide, x_ps inX9 gdX9, tyX9_ok, nmX9, at_x 902 rfl rfl, rfl, rfl, tyX9_ok 54 (by decide)⟩
set_option maxRecDepth 100000 in
theorem fcX9_126 : FC RX9 126 8 56 (tyX9 56) true := ⟨TX9, 69, tyX9, rfl, by decide, x_ps inX9 gdX9, tyX9_ok, nmX9, at_x 904 rfl rfl, rfl, rfl, tyX9_ok 56 (by decide)⟩
set_option maxRecDepth 100000 in
theorem fcX9_129 : FC RX9 129 8 57 (tyX9 57) true := ⟨TX9, 69, tyX9, rfl, by decide, x_ps inX9 gdX9, tyX9_ok, nmX9, at_x 905 rfl rfl, rfl, rfl, tyX9_ok 57 (by decide)⟩
set_option maxRecDepth 100000 in
theorem fcX9_132 : FC RX9 132 8 58 (tyX9 58) true := ⟨TX9, 69, tyX9, rfl, by decide, x_ps inX9 gdX9, tyX9_ok, nmX9, at_x 906 rfl rfl, rfl, rfl, tyX9_ok 58 (by decide)⟩
set_option maxRecDepth 100000 in
theorem fcX9_135 : FC RX9 135 8 59 (tyX9 59) true := ⟨TX9, 69, tyX9, rfl, by decide, x_ps inX9 gdX9, tyX9_ok, nmX9, at_x 907 rfl rfl, rfl, rfl, tyX9_ok 59 (by decide)⟩
set_option maxRecDepth 100000 in
theorem fcX9_138 : FC RX9 138 8 60 (tyX9 60) true := ⟨TX9, 69, tyX9, rfl, by decide, x_ps inX9 gdX9, tyX9_ok, nmX9, at_x 908 rfl rfl, rfl, rfl, tyX9_ok 60 (by decide)⟩
set_option maxRecDepth 100000 in
theorem fcX9_141 : FC RX9 141 8 61 (tyX9 61) true := ⟨TX9, 69, tyX9, rfl, by decide, x_ps inX9 gdX9, tyX9_ok, nmX9, at_x 909 rfl rfl, rfl, rfl, tyX9_ok 61 (by decide)⟩
set_option maxRecDepth 100000 in
theorem fcX9_144 : FC RX9 144 8 62 (tyX9 62) true := ⟨TX9, 69, tyX9, rfl, by decide, x_ps inX9 gdX9, tyX9_ok, nmX9, at_x 910 rfl rfl, rfl, rfl, tyX9_ok 62 (by decide)⟩
set_option maxRecDepth 100000 in
theorem fcX9_147 : FC RX9 147 8 63 (tyX9 63) true := ⟨TX9, 69, tyX9, rfl, by decide, x_ps inX9 gdX9, tyX9_ok, nmX9, at_x 911 rfl rfl, rfl, rfl, tyX9_ok 63 (by decide)⟩
set_option maxRecDepth 100000 in
theorem fcX9_150 : FC RX9 150 8 64 (tyX9 64) true := ⟨TX9, 69, tyX9, rfl, by decide, x_ps inX9 gdX9, tyX9_ok, nmX9, at_x 912 rfl rfl, rfl, rfl, tyX9_ok 64 (by decide)⟩
set_option maxRecDepth 100000 in
theorem fcX9_153 : FC RX9 153 8 65 (tyX9 65) true := ⟨TX9, 69, tyX9, rfl, by decide, x_ps inX9 gdX9, tyX9_ok, nmX9, at_x 913 rfl rfl, rfl, rfl, tyX9_ok 65 (by decide)⟩
set_option maxRecDepth 100000 in
theorem fcX9_156 : FC RX9 156 8 66 (tyX9 66) true := ⟨TX9, 69, tyX9, rfl, by decide, x_ps inX9 gdX9, tyX9_ok, nmX9, at_x 914 rfl rfl, rfl, rfl, tyX9_ok 66 (by decide)⟩
set_option maxRecDepth 100000 in
theorem fcX9_161 : FC RX9 161 8 67 (tyX9 67) true := ⟨TX9, 69, tyX9, rfl, by decide, x_ps inX9 gdX9, tyX9_ok, nmX9, at_x 915 rfl rfl, rfl, rfl, tyX9_ok 67 (by decide)⟩
set_option maxRecDepth 100000 in
theorem fcX9_164 : FC RX9 164 8 68 (tyX9 68) true := ⟨TX9, 69, tyX9, rfl, by decide, x_ps inX9 gdX9, tyX9_ok, nmX9, at_x 916 rfl rfl, rfl, rfl, tyX9_ok 68 (by decide)⟩
def wX9_init (ca : Nat → ClassId) (x0 q0 q1 q2 q3 q4 q5 q6 q7 q8 q9 q10 q11 q12 q13 q14 q15 q16 q17 q18 q19 q20 q21 q22 q23 q24 q25 q26 q27 q28 q29 q30 q31 q32 q33 q34 q35 q36 q37 q38 q39 q40 q41 q42 q43 q44 q45 q47 : Nat) (r46 : Nat → Nat) : va_W := (x0, .inr (8, [.int (Int32.ofInt 0), .int (Int32.ofInt 0), .ref q0, .ref q1, .ref q2, .ref q3, .int (Int32.ofInt 1), .int (Int32.ofInt 1000), .int (Int32.ofInt 20), .int (Int32.ofInt 0), .int (Int32.ofInt 0), .ref q4, .ref q5, .ref q6, .ref q7, .int (Int32.ofInt 0), .ref q8, .ref q9, .int (Int32.ofInt 0), .ref q10, .ref q11, .ref q12, .int (Int32.ofInt 0), .int (Int32.ofInt 0), .ref q13, .ref q14, .ref q15, .ref q16, .ref q17, .long (Int64.ofInt 0), .long (Int64.ofInt 0), .long (Int64.ofInt 0), .long (Int64.ofInt 0), .ref q18, .ref q19, .ref q20, .ref q21, .ref q22, .ref q23, .ref q24, .ref q25, .ref q26, .ref q27, .ref q28, .ref q29, .ref q30, .int (Int32.ofInt 0), .int (Int32.ofInt 0), .int (Int32.ofInt 0), .int (Int32.ofInt 0), .int (Int32.ofInt 0), .int (Int32.ofInt 0), .ref q31, .ref q32, .ref q33, .int (Int32.ofInt 0), .ref q34, .ref q35, .ref q36, .ref q37, .ref q38, .ref q39, .ref q40, .ref q41, .ref q42, .ref q43, .ref q44, .ref q45, .ref q47])) :: (((((((((((((((((((((((((((((((((((((((((((((((([] ++ [(q0, .inl (ca 2, 8, .inl (fun _ => Int32.ofInt 0)))]) ++ [(q1, .inl (ca 0, 8, .inl (fun _ => Int32.ofInt 0)))]) ++ [(q2, .inl (ca 0, 25, .inl (fun _ => Int32.ofInt 0)))]) ++ [(q3, .inl (ca 0, 25, .inl (fun _ => Int32.ofInt 0)))]) ++ [(q4, .inl (ca 0, 5, .inl (fun _ => Int32.ofInt 0)))]) ++ [(q5, .inl (ca 0, 8, .inl (fun _ => Int32.ofInt 0)))]) ++ [(q6, .inl (ca 0, 8, .inl (fun _ => Int32.ofInt 0)))]) ++ [(q7, .inl (ca 2, 5, .inl (fun _ => Int32.ofInt 0)))]) ++ [(q8, .inl (ca 0, 3, .inl (fun _ => Int32.ofInt 0)))]) ++ [(q9, .inl (ca 0, 3, .inl (fun _ => Int32.ofInt 0)))]) ++ [(q10, .inl (ca 0, 25, .inl (fun _ => Int32.ofInt 0)))]) ++ [(q11, .inl (ca 0, 25, .inl (fun _ => Int32.ofInt 0)))]) ++ [(q12, .inl (ca 0, 25, .inl (fun _ => Int32.ofInt 0)))]) ++ [(q13, .inl (ca 0, 8, .inl (fun _ => Int32.ofInt 0)))]) ++ [(q14, .inl (ca 0, 8, .inl (fun _ => Int32.ofInt 0)))]) ++ [(q15, .inl (ca 0, 8, .inl (fun _ => Int32.ofInt 0)))]) ++ [(q16, .inl (ca 0, 8, .inl (fun _ => Int32.ofInt 0)))]) ++ [(q17, .inl (ca 1, 8, .inr (.inl (fun _ => Int64.ofInt 0))))]) ++ [(q18, .inl (ca 1, 72, .inr (.inl (fun _ => Int64.ofInt 0))))]) ++ [(q19, .inl (ca 1, 9, .inr (.inl (fun _ => Int64.ofInt 0))))]) ++ [(q20, .inl (ca 1, 9, .inr (.inl (fun _ => Int64.ofInt 0))))]) ++ [(q21, .inl (ca 1, 9, .inr (.inl (fun _ => Int64.ofInt 0))))]) ++ [(q22, .inl (ca 1, 9, .inr (.inl (fun _ => Int64.ofInt 0))))]) ++ [(q23, .inl (ca 0, 72, .inl (fun _ => Int32.ofInt 0)))]) ++ [(q24, .inl (ca 0, 9, .inl (fun _ => Int32.ofInt 0)))]) ++ [(q25, .inl (ca 0, 9, .inl (fun _ => Int32.ofInt 0)))]) ++ [(q26, .inl (ca 0, 9, .inl (fun _ => Int32.ofInt 0)))]) ++ [(q27, .inl (ca 0, 8, .inl (fun _ => Int32.ofInt 0)))]) ++ [(q28, .inl (ca 2, 8, .inl (fun _ => Int32.ofInt 0)))]) ++ [(q29, .inl (ca 0, 25, .inl (fun _ => Int32.ofInt 0)))]) ++ [(q30, .inl (ca 0, 100, .inl (fun _ => Int32.ofInt 0)))]) ++ [(q31, .inl (ca 0, 12, .inl (fun _ => Int32.ofInt 0)))]) ++ [(q32, .inl (ca 0, 12, .inl (fun _ => Int32.ofInt 0)))]) ++ [(q33, .inl (ca 0, 12, .inl (fun _ => Int32.ofInt 0)))]) ++ [(q34, .inl (ca 0, 7, .inl (fun _ => Int32.ofInt 0)))]) ++ [(q35, .inl (ca 0, 8, .inl (fun _ => Int32.ofInt 0)))]) ++ [(q36, .inl (ca 0, 25, .inl (fun _ => Int32.ofInt 0)))]) ++ [(q37, .inl (ca 0, 25, .inl (fun _ => Int32.ofInt 0)))]) ++ [(q38, .inl (ca 0, 5, .inl (fun _ => Int32.ofInt 0)))]) ++ [(q39, .inl (ca 0, 8, .inl (fun _ => Int32.ofInt 0)))]) ++ [(q40, .inl (ca 0, 8, .inl (fun _ => Int32.ofInt 0)))]) ++ [(q41, .inl (ca 2, 8, .inl (fun _ => Int32.ofInt 0)))]) ++ [(q42, .inl (ca 2, 5, .inl (fun _ => Int32.ofInt 0)))]) ++ [(q43, .inl (ca 0, 6, .inl (upd (upd (upd (upd (upd (upd (fun _ => Int32.ofInt 0) 0 (Int32.ofInt (-1))) 1 (Int32.ofInt (-1))) 2 (Int32.ofInt (-1))) 3 (Int32.ofInt (-1))) 4 (Int32.ofInt (-1))) 5 (Int32.ofInt (-1)))))]) ++ [(q44, .inl (ca 0, 6, .inl (fun _ => Int32.ofInt 0)))]) ++ [(q45, .inl (ca 5, 6, .inr (.inr (.inr (.inr (fun i => if i < 6 then some (r46 i) else none))))))]) ++ (List.range 6).map (fun i => (r46 i, .inl (ca 1, 60, .inr (.inl (fun _ => Int64.ofInt 0)))))) ++ [(q47, .inl (ca 1, 60, .inr (.inl (fun _ => Int64.ofInt 0))))])
set_option maxRecDepth 100000 in
set_option maxHeartbeats 4000000 in
theorem gkX9_init {G : GX} {d : Nat} {x0  : Nat} : CtG G mX9_init (d + 1) 53 1134 [.ref x0] [(x0, .inr (8, bl8))] (fun ws => ∃ (q0 q1 q2 q3 q4 q5 q6 q7 q8 q9 q10 q11 q12 q13 q14 q15 q16 q17 q18 q19 q20 q21 q22 q23 q24 q25 q26 q27 q28 q29 q30 q31 q32 q33 q34 q35 q36 q37 q38 q39 q40 q41 q42 q43 q44 q45 q47 : Nat) (r46 : Nat → Nat), ws = wX9_init G.2.2 x0 q0 q1 q2 q3 q4 q5 q6 q7 q8 q9 q10 q11 q12 q13 q14 q15 q16 q17 q18 q19 q20 q21 q22 q23 q24 q25 q26 q27 q28 q29 q30 q31 q32 q33 q34 q35 q36 q37 q38 q39 q40 q41 q42 q43 q44 q45 q47 r46) := by
  refine ctg_gc (by decide +kernel) rfl rfl (Nat.le_of_ble_eq_true rfl) rfl ?_
  refine gc_aload_n 0 dX9_init_0 rfl ?_
  refine gc_init dX9_init_1 (at_x 845 rfl rfl) (Nat.le_of_ble_eq_true rfl) (by omega) ?_
  refine gc_aload_n 0 dX9_init_4 rfl ?_
  refine gc_bipush dX9_init_5 rfl ?_
  refine gc_newa0 (t0 := 2) (N' := 8) (8, (.inl (fun _ => Int32.ofInt 0))) dX9_init_7 wa_boolean rfl (fun _ => rfl) (fun _ => rfl) (by decide) rfl (Nat.le_of_ble_eq_true rfl) (Nat.le_of_ble_eq_true rfl) (Nat.le_of_ble_eq_true rfl) (fun q0 => ?_)
  refine gc_put0 dX9_init_9 fcX9_11 rfl rfl rfl ?_
  refine gc_aload_n 0 dX9_init_12 rfl ?_
  refine gc_bipush dX9_init_13 rfl ?_
  refine gc_pc (pc' := 15) rfl ?_
  refine gc_newa0 (t0 := 0) (N' := 8) (8, (.inl (fun _ => Int32.ofInt 0))) dX9_init_15 wa_int rfl (fun _ => rfl) (fun _ => rfl) (by decide) rfl (Nat.le_of_ble_eq_true rfl) (Nat.le_of_ble_eq_true rfl) (Nat.le_of_ble_eq_true rfl) (fun q1 => ?_)
  refine gc_put0 dX9_init_17 fcX9_15 rfl rfl rfl ?_
  refine gc_aload_n 0 dX9_init_20 rfl ?_
  refine gc_bipush dX9_init_21 rfl ?_
  refine gc_newa0 (t0 := 0) (N' := 25) (25, (.inl (fun _ => Int32.ofInt 0))) dX9_init_23 wa_int rfl (fun _ => rfl) (fun _ => rfl) (by decide) rfl (Nat.le_of_ble_eq_true rfl) (Nat.le_of_ble_eq_true rfl) (Nat.le_of_ble_eq_true rfl) (fun q2 => ?_)
  refine gc_put0 dX9_init_25 fcX9_19 rfl rfl rfl ?_
  refine gc_aload_n 0 dX9_init_28 rfl ?_
  refine gc_bipush dX9_init_29 rfl ?_
  refine gc_newa0 (t0 := 0) (N' := 25) (25, (.inl (fun _ => Int32.ofInt 0))) dX9_init_31 wa_int rfl (fun _ => rfl) (fun _ => rfl) (by decide) rfl (Nat.le_of_ble_eq_true rfl) (Nat.le_of_ble_eq_true rfl) (Nat.le_of_ble_eq_true rfl) (fun q3 => ?_)
  refine gc_pc (pc' := 33) rfl ?_
  refine gc_put0 dX9_init_33 fcX9_22 rfl rfl rfl ?_
  refine gc_aload_n 0 dX9_init_36 rfl ?_
  refine gc_iconst dX9_init_37 ?_
  refine gc_put0 dX9_init_38 fcX9_25 rfl rfl rfl ?_
  refine gc_aload_n 0 dX9_init_41 rfl ?_
  refine gc_sipush dX9_init_42 rfl ?_
  refine gc_put0 dX9_init_45 fcX9_29 rfl rfl rfl ?_
  refine gc_aload_n 0 dX9_init_48 rfl ?_
  refine gc_bipush dX9_init_49 rfl ?_
  refine gc_pc (pc' := 51) rfl ?_
  refine gc_put0 dX9_init_51 fcX9_32 rfl rfl rfl ?_
  refine gc_aload_n 0 dX9_init_54 rfl ?_
  refine gc_iconst dX9_init_55 ?_
  refine gc_newa0 (t0 := 0) (N' := 5) (5, (.inl (fun _ => Int32.ofInt 0))) dX9_init_56 wa_int rfl (fun _ => rfl) (fun _ => rfl) (by decide) rfl (Nat.le_of_ble_eq_true rfl) (Nat.le_of_ble_eq_true rfl) (Nat.le_of_ble_eq_true rfl) (fun q4 => ?_)
  refine gc_put0 dX9_init_58 fcX9_35 rfl rfl rfl ?_
  refine gc_aload_n 0 dX9_init_61 rfl ?_
  refine gc_bipush dX9_init_62 rfl ?_
  refine gc_newa0 (t0 := 0) (N' := 8) (8, (.inl (fun _ => Int32.ofInt 0))) dX9_init_64 wa_int rfl (fun _ => rfl) (fun _ => rfl) (by decide) rfl (Nat.le_of_ble_eq_true rfl) (Nat.le_of_ble_eq_true rfl) (Nat.le_of_ble_eq_true rfl) (fun q5 => ?_)
  refine gc_put0 dX9_init_66 fcX9_38 rfl rfl rfl ?_
  refine gc_pc (pc' := 69) rfl ?_
  refine gc_aload_n 0 dX9_init_69 rfl ?_
  refine gc_bipush dX9_init_70 rfl ?_
  refine gc_newa0 (t0 := 0) (N' := 8) (8, (.inl (fun _ => Int32.ofInt 0))) dX9_init_72 wa_int rfl (fun _ => rfl) (fun _ => rfl) (by decide) rfl (Nat.le_of_ble_eq_true rfl) (Nat.le_of_ble_eq_true rfl) (Nat.le_of_ble_eq_true rfl) (fun q6 => ?_)
  refine gc_put0 dX9_init_74 fcX9_41 rfl rfl rfl ?_
  refine gc_aload_n 0 dX9_init_77 rfl ?_
  refine gc_iconst dX9_init_78 ?_
  refine gc_newa0 (t0 := 2) (N' := 5) (5, (.inl (fun _ => Int32.ofInt 0))) dX9_init_79 wa_boolean rfl (fun _ => rfl) (fun _ => rfl) (by decide) rfl (Nat.le_of_ble_eq_true rfl) (Nat.le_of_ble_eq_true rfl) (Nat.le_of_ble_eq_true rfl) (fun q7 => ?_)
  refine gc_put0 dX9_init_81 fcX9_44 rfl rfl rfl ?_
  refine gc_aload_n 0 dX9_init_84 rfl ?_
  refine gc_pc (pc' := 85) rfl ?_
  refine gc_iconst dX9_init_85 ?_
  refine gc_newa0 (t0 := 0) (N' := 3) (3, (.inl (fun _ => Int32.ofInt 0))) dX9_init_86 wa_int rfl (fun _ => rfl) (fun _ => rfl) (by decide) rfl (Nat.le_of_ble_eq_true rfl) (Nat.le_of_ble_eq_true rfl) (Nat.le_of_ble_eq_true rfl) (fun q8 => ?_)
  refine gc_put0 dX9_init_88 fcX9_47 rfl rfl rfl ?_
  refine gc_aload_n 0 dX9_init_91 rfl ?_
  refine gc_iconst dX9_init_92 ?_
  refine gc_newa0 (t0 := 0) (N' := 3) (3, (.inl (fun _ => Int32.ofInt 0))) dX9_init_93 wa_int rfl (fun _ => rfl) (fun _ => rfl) (by decide) rfl (Nat.le_of_ble_eq_true rfl) (Nat.le_of_ble_eq_true rfl) (Nat.le_of_ble_eq_true rfl) (fun q9 => ?_)
  refine gc_put0 dX9_init_95 fcX9_50 rfl rfl rfl ?_
  refine gc_aload_n 0 dX9_init_98 rfl ?_
  refine gc_bipush dX9_init_99 rfl ?_
  refine gc_pc (pc' := 101) rfl ?_
  refine gc_newa0 (t0 := 0) (N' := 25) (25, (.inl (fun _ => Int32.ofInt 0))) dX9_init_101 wa_int rfl (fun _ => rfl) (fun _ => rfl) (by decide) rfl (Nat.le_of_ble_eq_true rfl) (Nat.le_of_ble_eq_true rfl) (Nat.le_of_ble_eq_true rfl) (fun q10 => ?_)
  refine gc_put0 dX9_init_103 fcX9_53 rfl rfl rfl ?_
  refine gc_aload_n 0 dX9_init_106 rfl ?_
  refine gc_bipush dX9_init_107 rfl ?_
  refine gc_newa0 (t0 := 0) (N' := 25) (25, (.inl (fun _ => Int32.ofInt 0))) dX9_init_109 wa_int rfl (fun _ => rfl) (fun _ => rfl) (by decide) rfl (Nat.le_of_ble_eq_true rfl) (Nat.le_of_ble_eq_true rfl) (Nat.le_of_ble_eq_true rfl) (fun q11 => ?_)
  refine gc_put0 dX9_init_111 fcX9_56 rfl rfl rfl ?_
  refine gc_aload_n 0 dX9_init_114 rfl ?_
  refine gc_bipush dX9_init_115 rfl ?_
  refine gc_newa0 (t0 := 0) (N' := 25) (25, (.inl (fun _ => Int32.ofInt 0))) dX9_init_117 wa_int rfl (fun _ => rfl) (fun _ => rfl) (by decide) rfl (Nat.le_of_ble_eq_true rfl) (Nat.le_of_ble_eq_true rfl) (Nat.le_of_ble_eq_true rfl) (fun q12 => ?_)
  refine gc_pc (pc' := 119) rfl ?_
  refine gc_put0 dX9_init_119 fcX9_59 rfl rfl rfl ?_
  refine gc_aload_n 0 dX9_init_122 rfl ?_
  refine gc_bipush dX9_init_123 rfl ?_
  refine gc_newa0 (t0 := 0) (N' := 8) (8, (.inl (fun _ => Int32.ofInt 0))) dX9_init_125 wa_int rfl (fun _ => rfl) (fun _ => rfl) (by decide) rfl (Nat.le_of_ble_eq_true rfl) (Nat.le_of_ble_eq_true rfl) (Nat.le_of_ble_eq_true rfl) (fun q13 => ?_)
  refine gc_put0 dX9_init_127 fcX9_62 rfl rfl rfl ?_
  refine gc_aload_n 0 dX9_init_130 rfl ?_
  refine gc_bipush dX9_init_131 rfl ?_
  refine gc_newa0 (t0 := 0) (N' := 8) (8, (.inl (fun _ => Int32.ofInt 0))) dX9_init_133 wa_int rfl (fun _ => rfl) (fun _ => rfl) (by decide) rfl (Nat.le_of_ble_eq_true rfl) (Nat.le_of_ble_eq_true rfl) (Nat.le_of_ble_eq_true rfl) (fun q14 => ?_)
  refine gc_put0 dX9_init_135 fcX9_65 rfl rfl rfl ?_
  refine gc_pc (pc' := 138) rfl ?_
  refine gc_aload_n 0 dX9_init_138 rfl ?_
  refine gc_bipush dX9_init_139 rfl ?_
  refine gc_newa0 (t0 := 0) (N' := 8) (8, (.inl (fun _ => Int32.ofInt 0))) dX9_init_141 wa_int rfl (fun _ => rfl) (fun _ => rfl) (by decide) rfl (Nat.le_of_ble_eq_true rfl) (Nat.le_of_ble_eq_true rfl) (Nat.le_of_ble_eq_true rfl) (fun q15 => ?_)
  refine gc_put0 dX9_init_143 fcX9_68 rfl rfl rfl ?_
  refine gc_aload_n 0 dX9_init_146 rfl ?_
  refine gc_bipush dX9_init_147 rfl ?_
  refine gc_newa0 (t0 := 0) (N' := 8) (8, (.inl (fun _ => Int32.ofInt 0))) dX9_init_149 wa_int rfl (fun _ => rfl) (fun _ => rfl) (by decide) rfl (Nat.le_of_ble_eq_true rfl) (Nat.le_of_ble_eq_true rfl) (Nat.le_of_ble_eq_true rfl) (fun q16 => ?_)
  refine gc_put0 dX9_init_151 fcX9_71 rfl rfl rfl ?_
  refine gc_aload_n 0 dX9_init_154 rfl ?_
  refine gc_pc (pc' := 155) rfl ?_
  refine gc_bipush dX9_init_155 rfl ?_
  refine gc_newa0 (t0 := 1) (N' := 8) (8, (.inr (.inl (fun _ => Int64.ofInt 0)))) dX9_init_157 wa_long rfl (fun _ => rfl) (fun _ => rfl) (by decide) rfl (Nat.le_of_ble_eq_true rfl) (Nat.le_of_ble_eq_true rfl) (Nat.le_of_ble_eq_true rfl) (fun q17 => ?_)
  refine gc_put0 dX9_init_159 fcX9_74 rfl rfl rfl ?_
  refine gc_aload_n 0 dX9_init_162 rfl ?_
  refine gc_bipush dX9_init_163 rfl ?_
  refine gc_newa0 (t0 := 1) (N' := 72) (72, (.inr (.inl (fun _ => Int64.ofInt 0)))) dX9_init_165 wa_long rfl (fun _ => rfl) (fun _ => rfl) (by decide) rfl (Nat.le_of_ble_eq_true rfl) (Nat.le_of_ble_eq_true rfl) (Nat.le_of_ble_eq_true rfl) (fun q18 => ?_)
  refine gc_put0 dX9_init_167 fcX9_78 rfl rfl rfl ?_
  refine gc_aload_n 0 dX9_init_170 rfl ?_
  refine gc_bipush dX9_init_171 rfl ?_
  refine gc_pc (pc' := 173) rfl ?_
  refine gc_newa0 (t0 := 1) (N' := 9) (9, (.inr (.inl (fun _ => Int64.ofInt 0)))) dX9_init_173 wa_long rfl (fun _ => rfl) (fun _ => rfl) (by decide) rfl (Nat.le_of_ble_eq_true rfl) (Nat.le_of_ble_eq_true rfl) (Nat.le_of_ble_eq_true rfl) (fun q19 => ?_)
  refine gc_put0 dX9_init_175 fcX9_81 rfl rfl rfl ?_
  refine gc_aload_n 0 dX9_init_178 rfl ?_
  refine gc_bipush dX9_init_179 rfl ?_
  refine gc_newa0 (t0 := 1) (N' := 9) (9, (.inr (.inl (fun _ => Int64.ofInt 0)))) dX9_init_181 wa_long rfl (fun _ => rfl) (fun _ => rfl) (by decide) rfl (Nat.le_of_ble_eq_true rfl) (Nat.le_of_ble_eq_true rfl) (Nat.le_of_ble_eq_true rfl) (fun q20 => ?_)
  refine gc_put0 dX9_init_183 fcX9_84 rfl rfl rfl ?_
  refine gc_aload_n 0 dX9_init_186 rfl ?_
  refine gc_bipush dX9_init_187 rfl ?_
  refine gc_newa0 (t0 := 1) (N' := 9) (9, (.inr (.inl (fun _ => Int64.ofInt 0)))) dX9_init_189 wa_long rfl (fun _ => rfl) (fun _ => rfl) (by decide) rfl (Nat.le_of_ble_eq_true rfl) (Nat.le_of_ble_eq_true rfl) (Nat.le_of_ble_eq_true rfl) (fun q21 => ?_)
  refine gc_pc (pc' := 191) rfl ?_
  refine gc_put0 dX9_init_191 fcX9_87 rfl rfl rfl ?_
  refine gc_aload_n 0 dX9_init_194 rfl ?_
  refine gc_bipush dX9_init_195 rfl ?_
  refine gc_newa0 (t0 := 1) (N' := 9) (9, (.inr (.inl (fun _ => Int64.ofInt 0)))) dX9_init_197 wa_long rfl (fun _ => rfl) (fun _ => rfl) (by decide) rfl (Nat.le_of_ble_eq_true rfl) (Nat.le_of_ble_eq_true rfl) (Nat.le_of_ble_eq_true rfl) (fun q22 => ?_)
  refine gc_put0 dX9_init_199 fcX9_90 rfl rfl rfl ?_
  refine gc_aload_n 0 dX9_init_202 rfl ?_
  refine gc_bipush dX9_init_203 rfl ?_
  refine gc_newa0 (t0 := 0) (N' := 72) (72, (.inl (fun _ => Int32.ofInt 0))) dX9_init_205 wa_int rfl (fun _ => rfl) (fun _ => rfl) (by decide) rfl (Nat.le_of_ble_eq_true rfl) (Nat.le_of_ble_eq_true rfl) (Nat.le_of_ble_eq_true rfl) (fun q23 => ?_)
  refine gc_put0 dX9_init_207 fcX9_93 rfl rfl rfl ?_
  refine gc_pc (pc' := 210) rfl ?_
  refine gc_aload_n 0 dX9_init_210 rfl ?_
  refine gc_bipush dX9_init_211 rfl ?_
  refine gc_newa0 (t0 := 0) (N' := 9) (9, (.inl (fun _ => Int32.ofInt 0))) dX9_init_213 wa_int rfl (fun _ => rfl) (fun _ => rfl) (by decide) rfl (Nat.le_of_ble_eq_true rfl) (Nat.le_of_ble_eq_true rfl) (Nat.le_of_ble_eq_true rfl) (fun q24 => ?_)
  refine gc_put0 dX9_init_215 fcX9_96 rfl rfl rfl ?_
  refine gc_aload_n 0 dX9_init_218 rfl ?_
  refine gc_bipush dX9_init_219 rfl ?_
  refine gc_newa0 (t0 := 0) (N' := 9) (9, (.inl (fun _ => Int32.ofInt 0))) dX9_init_221 wa_int rfl (fun _ => rfl) (fun _ => rfl) (by decide) rfl (Nat.le_of_ble_eq_true rfl) (Nat.le_of_ble_eq_true rfl) (Nat.le_of_ble_eq_true rfl) (fun q25 => ?_)
  refine gc_put0 dX9_init_223 fcX9_99 rfl rfl rfl ?_
  refine gc_aload_n 0 dX9_init_226 rfl ?_
  refine gc_pc (pc' := 227) rfl ?_
  refine gc_bipush dX9_init_227 rfl ?_
  refine gc_newa0 (t0 := 0) (N' := 9) (9, (.inl (fun _ => Int32.ofInt 0))) dX9_init_229 wa_int rfl (fun _ => rfl) (fun _ => rfl) (by decide) rfl (Nat.le_of_ble_eq_true rfl) (Nat.le_of_ble_eq_true rfl) (Nat.le_of_ble_eq_true rfl) (fun q26 => ?_)
  refine gc_put0 dX9_init_231 fcX9_102 rfl rfl rfl ?_
  refine gc_aload_n 0 dX9_init_234 rfl ?_
  refine gc_bipush dX9_init_235 rfl ?_
  refine gc_newa0 (t0 := 0) (N' := 8) (8, (.inl (fun _ => Int32.ofInt 0))) dX9_init_237 wa_int rfl (fun _ => rfl) (fun _ => rfl) (by decide) rfl (Nat.le_of_ble_eq_true rfl) (Nat.le_of_ble_eq_true rfl) (Nat.le_of_ble_eq_true rfl) (fun q27 => ?_)
  refine gc_put0 dX9_init_239 fcX9_105 rfl rfl rfl ?_
  refine gc_aload_n 0 dX9_init_242 rfl ?_
  refine gc_bipush dX9_init_243 rfl ?_
  refine gc_pc (pc' := 245) rfl ?_
  refine gc_newa0 (t0 := 2) (N' := 8) (8, (.inl (fun _ => Int32.ofInt 0))) dX9_init_245 wa_boolean rfl (fun _ => rfl) (fun _ => rfl) (by decide) rfl (Nat.le_of_ble_eq_true rfl) (Nat.le_of_ble_eq_true rfl) (Nat.le_of_ble_eq_true rfl) (fun q28 => ?_)
  refine gc_put0 dX9_init_247 fcX9_108 rfl rfl rfl ?_
  refine gc_aload_n 0 dX9_init_250 rfl ?_
  refine gc_bipush dX9_init_251 rfl ?_
  refine gc_newa0 (t0 := 0) (N' := 25) (25, (.inl (fun _ => Int32.ofInt 0))) dX9_init_253 wa_int rfl (fun _ => rfl) (fun _ => rfl) (by decide) rfl (Nat.le_of_ble_eq_true rfl) (Nat.le_of_ble_eq_true rfl) (Nat.le_of_ble_eq_true rfl) (fun q29 => ?_)
  refine gc_put0 dX9_init_255 fcX9_111 rfl rfl rfl ?_
  refine gc_aload_n 0 dX9_init_258 rfl ?_
  refine gc_bipush dX9_init_259 rfl ?_
  refine gc_newa0 (t0 := 0) (N' := 100) (100, (.inl (fun _ => Int32.ofInt 0))) dX9_init_261 wa_int rfl (fun _ => rfl) (fun _ => rfl) (by decide) rfl (Nat.le_of_ble_eq_true rfl) (Nat.le_of_ble_eq_true rfl) (Nat.le_of_ble_eq_true rfl) (fun q30 => ?_)
  refine gc_pc (pc' := 263) rfl ?_
  refine gc_put0 dX9_init_263 fcX9_114 rfl rfl rfl ?_
  refine gc_aload_n 0 dX9_init_266 rfl ?_
  refine gc_bipush dX9_init_267 rfl ?_
  refine gc_newa0 (t0 := 0) (N' := 12) (12, (.inl (fun _ => Int32.ofInt 0))) dX9_init_269 wa_int rfl (fun _ => rfl) (fun _ => rfl) (by decide) rfl (Nat.le_of_ble_eq_true rfl) (Nat.le_of_ble_eq_true rfl) (Nat.le_of_ble_eq_true rfl) (fun q31 => ?_)
  refine gc_put0 dX9_init_271 fcX9_117 rfl rfl rfl ?_
  refine gc_aload_n 0 dX9_init_274 rfl ?_
  refine gc_bipush dX9_init_275 rfl ?_
  refine gc_newa0 (t0 := 0) (N' := 12) (12, (.inl (fun _ => Int32.ofInt 0))) dX9_init_277 wa_int rfl (fun _ => rfl) (fun _ => rfl) (by decide) rfl (Nat.le_of_ble_eq_true rfl) (Nat.le_of_ble_eq_true rfl) (Nat.le_of_ble_eq_true rfl) (fun q32 => ?_)
  refine gc_put0 dX9_init_279 fcX9_120 rfl rfl rfl ?_
  refine gc_pc (pc' := 282) rfl ?_
  refine gc_aload_n 0 dX9_init_282 rfl ?_
  refine gc_bipush dX9_init_283 rfl ?_
  refine gc_newa0 (t0 := 0) (N' := 12) (12, (.inl (fun _ => Int32.ofInt 0))) dX9_init_285 wa_int rfl (fun _ => rfl) (fun _ => rfl) (by decide) rfl (Nat.le_of_ble_eq_true rfl) (Nat.le_of_ble_eq_true rfl) (Nat.le_of_ble_eq_true rfl) (fun q33 => ?_)
  refine gc_put0 dX9_init_287 fcX9_123 rfl rfl rfl ?_
  refine gc_aload_n 0 dX9_init_290 rfl ?_
  refine gc_bipush dX9_init_291 rfl ?_
  refine gc_newa0 (t0 := 0) (N' := 7) (7, (.inl (fun _ => Int32.ofInt 0))) dX9_init_293 wa_int rfl (fun _ => rfl) (fun _ => rfl) (by decide) rfl (Nat.le_of_ble_eq_true rfl) (Nat.le_of_ble_eq_true rfl) (Nat.le_of_ble_eq_true rfl) (fun q34 => ?_)
  refine gc_put0 dX9_init_295 fcX9_126 rfl rfl rfl ?_
  refine gc_aload_n 0 dX9_init_298 rfl ?_
  refine gc_pc (pc' := 299) rfl ?_
  refine gc_bipush dX9_init_299 rfl ?_
  refine gc_newa0 (t0 := 0) (N' := 8) (8, (.inl (fun _ => Int32.ofInt 0))) dX9_init_301 wa_int rfl (fun _ => rfl) (fun _ => rfl) (by decide) rfl (Nat.le_of_ble_eq_true rfl) (Nat.le_of_ble_eq_true rfl) (Nat.le_of_ble_eq_true rfl) (fun q35 => ?_)
  refine gc_put0 dX9_init_303 fcX9_129 rfl rfl rfl ?_
  refine gc_aload_n 0 dX9_init_306 rfl ?_
  refine gc_bipush dX9_init_307 rfl ?_
  refine gc_newa0 (t0 := 0) (N' := 25) (25, (.inl (fun _ => Int32.ofInt 0))) dX9_init_309 wa_int rfl (fun _ => rfl) (fun _ => rfl) (by decide) rfl (Nat.le_of_ble_eq_true rfl) (Nat.le_of_ble_eq_true rfl) (Nat.le_of_ble_eq_true rfl) (fun q36 => ?_)
  refine gc_put0 dX9_init_311 fcX9_132 rfl rfl rfl ?_
  refine gc_aload_n 0 dX9_init_314 rfl ?_
  refine gc_bipush dX9_init_315 rfl ?_
  refine gc_pc (pc' := 317) rfl ?_
  refine gc_newa0 (t0 := 0) (N' := 25) (25, (.inl (fun _ => Int32.ofInt 0))) dX9_init_317 wa_int rfl (fun _ => rfl) (fun _ => rfl) (by decide) rfl (Nat.le_of_ble_eq_true rfl) (Nat.le_of_ble_eq_true rfl) (Nat.le_of_ble_eq_true rfl) (fun q37 => ?_)
  refine gc_put0 dX9_init_319 fcX9_135 rfl rfl rfl ?_
  refine gc_aload_n 0 dX9_init_322 rfl ?_
  refine gc_iconst dX9_init_323 ?_
  refine gc_newa0 (t0 := 0) (N' := 5) (5, (.inl (fun _ => Int32.ofInt 0))) dX9_init_324 wa_int rfl (fun _ => rfl) (fun _ => rfl) (by decide) rfl (Nat.le_of_ble_eq_true rfl) (Nat.le_of_ble_eq_true rfl) (Nat.le_of_ble_eq_true rfl) (fun q38 => ?_)
  refine gc_put0 dX9_init_326 fcX9_138 rfl rfl rfl ?_
  refine gc_aload_n 0 dX9_init_329 rfl ?_
  refine gc_bipush dX9_init_330 rfl ?_
  refine gc_newa0 (t0 := 0) (N' := 8) (8, (.inl (fun _ => Int32.ofInt 0))) dX9_init_332 wa_int rfl (fun _ => rfl) (fun _ => rfl) (by decide) rfl (Nat.le_of_ble_eq_true rfl) (Nat.le_of_ble_eq_true rfl) (Nat.le_of_ble_eq_true rfl) (fun q39 => ?_)
  refine gc_pc (pc' := 334) rfl ?_
  refine gc_put0 dX9_init_334 fcX9_141 rfl rfl rfl ?_
  refine gc_aload_n 0 dX9_init_337 rfl ?_
  refine gc_bipush dX9_init_338 rfl ?_
  refine gc_newa0 (t0 := 0) (N' := 8) (8, (.inl (fun _ => Int32.ofInt 0))) dX9_init_340 wa_int rfl (fun _ => rfl) (fun _ => rfl) (by decide) rfl (Nat.le_of_ble_eq_true rfl) (Nat.le_of_ble_eq_true rfl) (Nat.le_of_ble_eq_true rfl) (fun q40 => ?_)
  refine gc_put0 dX9_init_342 fcX9_144 rfl rfl rfl ?_
  refine gc_aload_n 0 dX9_init_345 rfl ?_
  refine gc_bipush dX9_init_346 rfl ?_
  refine gc_newa0 (t0 := 2) (N' := 8) (8, (.inl (fun _ => Int32.ofInt 0))) dX9_init_348 wa_boolean rfl (fun _ => rfl) (fun _ => rfl) (by decide) rfl (Nat.le_of_ble_eq_true rfl) (Nat.le_of_ble_eq_true rfl) (Nat.le_of_ble_eq_true rfl) (fun q41 => ?_)
  refine gc_put0 dX9_init_350 fcX9_147 rfl rfl rfl ?_
  refine gc_pc (pc' := 353) rfl ?_
  refine gc_aload_n 0 dX9_init_353 rfl ?_
  refine gc_iconst dX9_init_354 ?_
  refine gc_newa0 (t0 := 2) (N' := 5) (5, (.inl (fun _ => Int32.ofInt 0))) dX9_init_355 wa_boolean rfl (fun _ => rfl) (fun _ => rfl) (by decide) rfl (Nat.le_of_ble_eq_true rfl) (Nat.le_of_ble_eq_true rfl) (Nat.le_of_ble_eq_true rfl) (fun q42 => ?_)
  refine gc_put0 dX9_init_357 fcX9_150 rfl rfl rfl ?_
  refine gc_aload_n 0 dX9_init_360 rfl ?_
  refine gc_bipush dX9_init_361 rfl ?_
  refine gc_newa0 (t0 := 0) (N' := 6) (6, (.inl (fun _ => Int32.ofInt 0))) dX9_init_363 wa_int rfl (fun _ => rfl) (fun _ => rfl) (by decide) rfl (Nat.le_of_ble_eq_true rfl) (Nat.le_of_ble_eq_true rfl) (Nat.le_of_ble_eq_true rfl) (fun q43 => ?_)
  refine gc_dup dX9_init_365 ?_
  refine gc_iconst dX9_init_366 ?_
  refine gc_pc (pc' := 367) rfl ?_
  refine gc_iconst dX9_init_367 ?_
  refine gc_iastL dX9_init_368 (vp_in_iff.mpr (by decide)) ?_
  refine gc_dup dX9_init_369 ?_
  refine gc_iconst dX9_init_370 ?_
  refine gc_iconst dX9_init_371 ?_
  refine gc_iastL dX9_init_372 (vp_in_iff.mpr (by decide)) ?_
  refine gc_dup dX9_init_373 ?_
  refine gc_iconst dX9_init_374 ?_
  refine gc_iconst dX9_init_375 ?_
  refine gc_pc (pc' := 376) rfl ?_
  refine gc_iastL dX9_init_376 (vp_in_iff.mpr (by decide)) ?_
  refine gc_dup dX9_init_377 ?_
  refine gc_iconst dX9_init_378 ?_
  refine gc_iconst dX9_init_379 ?_
  refine gc_iastL dX9_init_380 (vp_in_iff.mpr (by decide)) ?_
  refine gc_dup dX9_init_381 ?_
  refine gc_iconst dX9_init_382 ?_
  refine gc_iconst dX9_init_383 ?_
  refine gc_iastL dX9_init_384 (vp_in_iff.mpr (by decide)) ?_
  refine gc_pc (pc' := 385) rfl ?_
  refine gc_dup dX9_init_385 ?_
  refine gc_iconst dX9_init_386 ?_
  refine gc_iconst dX9_init_387 ?_
  refine gc_iastL dX9_init_388 (vp_in_iff.mpr (by decide)) ?_
  refine gc_put0 dX9_init_389 fcX9_153 rfl rfl rfl ?_
  refine gc_aload_n 0 dX9_init_392 rfl ?_
  refine gc_bipush dX9_init_393 rfl ?_
  refine gc_newa0 (t0 := 0) (N' := 6) (6, (.inl (fun _ => Int32.ofInt 0))) dX9_init_395 wa_int rfl (fun _ => rfl) (fun _ => rfl) (by decide) rfl (Nat.le_of_ble_eq_true rfl) (Nat.le_of_ble_eq_true rfl) (Nat.le_of_ble_eq_true rfl) (fun q44 => ?_)
  refine gc_put0 dX9_init_397 fcX9_156 rfl rfl rfl ?_
  refine gc_pc (pc' := 400) rfl ?_
  refine gc_aload_n 0 dX9_init_400 rfl ?_
  refine gc_bipush dX9_init_401 rfl ?_
  refine gc_bipush dX9_init_403 rfl ?_
  refine gc_mna0 (N' := 6) (K' := 60) dX9_init_405 (at_x 846 rfl rfl) wa_long (by decide) (by decide) rfl rfl (by decide) (by decide) (by decide) (Nat.le_of_ble_eq_true rfl) (Nat.le_of_ble_eq_true rfl) (fun q45 r46 => ?_)
  refine gc_put0 dX9_init_409 fcX9_161 rfl rfl rfl ?_
  refine gc_aload_n 0 dX9_init_412 rfl ?_
  refine gc_bipush dX9_init_413 rfl ?_
  refine gc_newa0 (t0 := 1) (N' := 60) (60, (.inr (.inl (fun _ => Int64.ofInt 0)))) dX9_init_415 wa_long rfl (fun _ => rfl) (fun _ => rfl) (by decide) rfl (Nat.le_of_ble_eq_true rfl) (Nat.le_of_ble_eq_true rfl) (Nat.le_of_ble_eq_true rfl) (fun q47 => ?_)
  refine gc_put0 dX9_init_417 fcX9_164 rfl rfl rfl ?_
  refine gc_pc (pc' := 420) rfl ?_
  exact gc_ret dX9_init_420 rfl rfl ⟨q0, q1, q2, q3, q4, q5, q6, q7, q8, q9, q10, q11, q12, q13, q14, q15, q16, q17, q18, q19, q20, q21, q22, q23, q24, q25, q26, q27, q28, q29, q30, q31, q32, q33, q34, q35, q36, q37, q38, q39, q40, q41, q42, q43, q44, q45, q47, r46, rfl⟩
end
