section
theorem dX8_without_11 : decode cX8_without 11 = .ok (.iconst (-1), 1) := by decide +kernel
theorem dX8_without_12 : decode cX8_without 12 = .ok (.ireturn, 1) := by decide +kernel
theorem dX8_without_13 : decode cX8_without 13 = .ok (.aload_n 0, 1) := by decide +kernel
theorem dX8_without_14 : decode cX8_without 14 = .ok (.getfield 18, 3) := by decide +kernel
theorem dX8_without_17 : decode cX8_without 17 = .ok (.aload_n 0, 1) := by decide +kernel
theorem dX8_without_18 : decode cX8_without 18 = .ok (.getfield 14, 3) := by decide +kernel
theorem dX8_without_21 : decode cX8_without 21 = .ok (.invokevirtual 253, 3) := by decide +kernel
theorem dX8_without_24 : decode cX8_without 24 = .ok (.aload_n 0, 1) := by decide +kernel
theorem dX8_without_25 : decode cX8_without 25 = .ok (.getfield 18, 3) := by decide +kernel
theorem dX8_without_28 : decode cX8_without 28 = .ok (.getfield 72, 3) := by decide +kernel
theorem dX8_without_31 : decode cX8_without 31 = .ok (.iload_n 1, 1) := by decide +kernel
theorem dX8_without_32 : decode cX8_without 32 = .ok (.iconst 1, 1) := by decide +kernel
theorem dX8_without_33 : decode cX8_without 33 = .ok (.bastore, 1) := by decide +kernel
theorem dX8_without_34 : decode cX8_without 34 = .ok (.aload_n 0, 1) := by decide +kernel
theorem dX8_without_35 : decode cX8_without 35 = .ok (.invokevirtual 256, 3) := by decide +kernel
theorem dX8_without_38 : decode cX8_without 38 = .ok (.ireturn, 1) := by decide +kernel
theorem dX8_raised_0 : decode cX8_raised 0 = .ok (.aload_n 0, 1) := by decide +kernel
theorem dX8_raised_1 : decode cX8_raised 1 = .ok (.getfield 14, 3) := by decide +kernel
theorem dX8_raised_4 : decode cX8_raised 4 = .ok (.iload_n 1, 1) := by decide +kernel
theorem dX8_raised_5 : decode cX8_raised 5 = .ok (.invokevirtual 99, 3) := by decide +kernel
theorem dX8_raised_8 : decode cX8_raised 8 = .ok (.ifCond .eq 14, 3) := by decide +kernel
theorem dX8_raised_11 : decode cX8_raised 11 = .ok (.aload_n 0, 1) := by decide +kernel
theorem dX8_raised_12 : decode cX8_raised 12 = .ok (.getfield 14, 3) := by decide +kernel
theorem dX8_raised_15 : decode cX8_raised 15 = .ok (.iload_n 2, 1) := by decide +kernel
theorem dX8_raised_16 : decode cX8_raised 16 = .ok (.invokevirtual 103, 3) := by decide +kernel
theorem dX8_raised_19 : decode cX8_raised 19 = .ok (.ifCond .ne 5, 3) := by decide +kernel
theorem dX8_raised_22 : decode cX8_raised 22 = .ok (.iconst (-1), 1) := by decide +kernel
theorem dX8_raised_23 : decode cX8_raised 23 = .ok (.ireturn, 1) := by decide +kernel
theorem dX8_raised_24 : decode cX8_raised 24 = .ok (.aload_n 0, 1) := by decide +kernel
theorem dX8_raised_25 : decode cX8_raised 25 = .ok (.getfield 18, 3) := by decide +kernel
theorem dX8_raised_28 : decode cX8_raised 28 = .ok (.aload_n 0, 1) := by decide +kernel
theorem dX8_raised_29 : decode cX8_raised 29 = .ok (.getfield 14, 3) := by decide +kernel
theorem dX8_raised_32 : decode cX8_raised 32 = .ok (.invokevirtual 253, 3) := by decide +kernel
theorem dX8_raised_35 : decode cX8_raised 35 = .ok (.aload_n 0, 1) := by decide +kernel
theorem dX8_raised_36 : decode cX8_raised 36 = .ok (.getfield 18, 3) := by decide +kernel
theorem dX8_raised_39 : decode cX8_raised 39 = .ok (.getfield 89, 3) := by decide +kernel
theorem dX8_raised_42 : decode cX8_raised 42 = .ok (.iload_n 1, 1) := by decide +kernel
theorem dX8_raised_43 : decode cX8_raised 43 = .ok (.iload_n 2, 1) := by decide +kernel
theorem dX8_raised_44 : decode cX8_raised 44 = .ok (.aload_n 0, 1) := by decide +kernel
theorem dX8_raised_45 : decode cX8_raised 45 = .ok (.getfield 14, 3) := by decide +kernel
theorem dX8_raised_48 : decode cX8_raised 48 = .ok (.getfield 89, 3) := by decide +kernel
theorem dX8_raised_51 : decode cX8_raised 51 = .ok (.iload_n 1, 1) := by decide +kernel
theorem dX8_raised_52 : decode cX8_raised 52 = .ok (.iaload, 1) := by decide +kernel
theorem dX8_raised_53 : decode cX8_raised 53 = .ok (.invokestatic 259, 3) := by decide +kernel
theorem dX8_raised_56 : decode cX8_raised 56 = .ok (.iastore, 1) := by decide +kernel
theorem dX8_raised_57 : decode cX8_raised 57 = .ok (.aload_n 0, 1) := by decide +kernel
theorem dX8_raised_58 : decode cX8_raised 58 = .ok (.invokevirtual 256, 3) := by decide +kernel
theorem dX8_raised_61 : decode cX8_raised 61 = .ok (.ireturn, 1) := by decide +kernel
theorem dX8_needs_0 : decode cX8_needs 0 = .ok (.aload_n 0, 1) := by decide +kernel
theorem dX8_needs_1 : decode cX8_needs 1 = .ok (.getfield 14, 3) := by decide +kernel
theorem dX8_needs_4 : decode cX8_needs 4 = .ok (.iload_n 1, 1) := by decide +kernel
theorem dX8_needs_5 : decode cX8_needs 5 = .ok (.invokevirtual 103, 3) := by decide +kernel
theorem dX8_needs_8 : decode cX8_needs 8 = .ok (.ifCond .ne 5, 3) := by decide +kernel
theorem dX8_needs_11 : decode cX8_needs 11 = .ok (.iconst (-1), 1) := by decide +kernel
theorem dX8_needs_12 : decode cX8_needs 12 = .ok (.ireturn, 1) := by decide +kernel
theorem dX8_needs_13 : decode cX8_needs 13 = .ok (.iload_n 2, 1) := by decide +kernel
theorem dX8_needs_14 : decode cX8_needs 14 = .ok (.iconst 1, 1) := by decide +kernel
theorem dX8_needs_15 : decode cX8_needs 15 = .ok (.if_icmp .lt 10, 3) := by decide +kernel
theorem dX8_needs_18 : decode cX8_needs 18 = .ok (.iload_n 2, 1) := by decide +kernel
theorem dX8_needs_19 : decode cX8_needs 19 = .ok (.sipush 10000, 3) := by decide +kernel
theorem dX8_needs_22 : decode cX8_needs 22 = .ok (.if_icmp .le 6, 3) := by decide +kernel
theorem dX8_needs_25 : decode cX8_needs 25 = .ok (.bipush (-2), 2) := by decide +kernel
theorem dX8_needs_27 : decode cX8_needs 27 = .ok (.ireturn, 1) := by decide +kernel
theorem dX8_needs_28 : decode cX8_needs 28 = .ok (.aload_n 0, 1) := by decide +kernel
theorem dX8_needs_29 : decode cX8_needs 29 = .ok (.getfield 14, 3) := by decide +kernel
theorem dX8_needs_32 : decode cX8_needs 32 = .ok (.getfield 72, 3) := by decide +kernel
theorem dX8_needs_35 : decode cX8_needs 35 = .ok (.iload_n 1, 1) := by decide +kernel
theorem dX8_needs_36 : decode cX8_needs 36 = .ok (.baload, 1) := by decide +kernel
theorem dX8_needs_37 : decode cX8_needs 37 = .ok (.ifCond .eq 6, 3) := by decide +kernel
theorem dX8_needs_40 : decode cX8_needs 40 = .ok (.bipush (-5), 2) := by decide +kernel
theorem dX8_needs_42 : decode cX8_needs 42 = .ok (.ireturn, 1) := by decide +kernel
theorem dX8_needs_43 : decode cX8_needs 43 = .ok (.aload_n 0, 1) := by decide +kernel
theorem dX8_needs_44 : decode cX8_needs 44 = .ok (.getfield 18, 3) := by decide +kernel
theorem dX8_needs_47 : decode cX8_needs 47 = .ok (.aload_n 0, 1) := by decide +kernel
theorem dX8_needs_48 : decode cX8_needs 48 = .ok (.getfield 14, 3) := by decide +kernel
theorem dX8_needs_51 : decode cX8_needs 51 = .ok (.invokevirtual 253, 3) := by decide +kernel
theorem dX8_needs_54 : decode cX8_needs 54 = .ok (.aload_n 0, 1) := by decide +kernel
theorem dX8_needs_55 : decode cX8_needs 55 = .ok (.getfield 14, 3) := by decide +kernel
theorem dX8_needs_58 : decode cX8_needs 58 = .ok (.getfield 83, 3) := by decide +kernel
theorem dX8_needs_61 : decode cX8_needs 61 = .ok (.istore_n 3, 1) := by decide +kernel
theorem dX8_needs_62 : decode cX8_needs 62 = .ok (.aload_n 0, 1) := by decide +kernel
theorem dX8_needs_63 : decode cX8_needs 63 = .ok (.getfield 18, 3) := by decide +kernel
theorem dX8_needs_66 : decode cX8_needs 66 = .ok (.getfield 89, 3) := by decide +kernel
theorem dX8_needs_69 : decode cX8_needs 69 = .ok (.iload_n 3, 1) := by decide +kernel
theorem dX8_needs_70 : decode cX8_needs 70 = .ok (.iload_n 1, 1) := by decide +kernel
theorem dX8_needs_71 : decode cX8_needs 71 = .ok (.iconst 0, 1) := by decide +kernel
theorem dX8_needs_72 : decode cX8_needs 72 = .ok (.invokestatic 259, 3) := by decide +kernel
theorem dX8_needs_75 : decode cX8_needs 75 = .ok (.iastore, 1) := by decide +kernel
theorem dX8_needs_76 : decode cX8_needs 76 = .ok (.aload_n 0, 1) := by decide +kernel
theorem dX8_needs_77 : decode cX8_needs 77 = .ok (.getfield 18, 3) := by decide +kernel
theorem dX8_needs_80 : decode cX8_needs 80 = .ok (.iload_n 3, 1) := by decide +kernel
theorem dX8_needs_81 : decode cX8_needs 81 = .ok (.iconst 1, 1) := by decide +kernel
theorem dX8_needs_82 : decode cX8_needs 82 = .ok (.iadd, 1) := by decide +kernel
theorem dX8_needs_83 : decode cX8_needs 83 = .ok (.putfield 83, 3) := by decide +kernel
theorem dX8_needs_86 : decode cX8_needs 86 = .ok (.aload_n 0, 1) := by decide +kernel
theorem dX8_needs_87 : decode cX8_needs 87 = .ok (.getfield 14, 3) := by decide +kernel
theorem dX8_needs_90 : decode cX8_needs 90 = .ok (.invokevirtual 262, 3) := by decide +kernel
theorem dX8_needs_93 : decode cX8_needs 93 = .ok (.lstore 4, 2) := by decide +kernel
theorem dX8_needs_95 : decode cX8_needs 95 = .ok (.iconst 0, 1) := by decide +kernel
theorem dX8_needs_96 : decode cX8_needs 96 = .ok (.istore 6, 2) := by decide +kernel
theorem dX8_needs_98 : decode cX8_needs 98 = .ok (.iload 6, 2) := by decide +kernel
theorem dX8_needs_100 : decode cX8_needs 100 = .ok (.bipush 30, 2) := by decide +kernel
theorem dX8_needs_102 : decode cX8_needs 102 = .ok (.if_icmp .gt 51, 3) := by decide +kernel
theorem dX8_needs_105 : decode cX8_needs 105 = .ok (.lload 4, 2) := by decide +kernel
theorem dX8_needs_107 : decode cX8_needs 107 = .ok (.iload 6, 2) := by decide +kernel
theorem dX8_needs_109 : decode cX8_needs 109 = .ok (.iload_n 2, 1) := by decide +kernel
theorem dX8_needs_110 : decode cX8_needs 110 = .ok (.imul, 1) := by decide +kernel
theorem dX8_needs_111 : decode cX8_needs 111 = .ok (.i2l, 1) := by decide +kernel
theorem dX8_needs_112 : decode cX8_needs 112 = .ok (.ladd, 1) := by decide +kernel
theorem dX8_needs_113 : decode cX8_needs 113 = .ok (.ldc2_w 131, 3) := by decide +kernel
theorem dX8_needs_116 : decode cX8_needs 116 = .ok (.lcmp, 1) := by decide +kernel
theorem dX8_needs_117 : decode cX8_needs 117 = .ok (.ifCond .gt 36, 3) := by decide +kernel
theorem dX8_needs_120 : decode cX8_needs 120 = .ok (.aload_n 0, 1) := by decide +kernel
theorem dX8_needs_121 : decode cX8_needs 121 = .ok (.getfield 18, 3) := by decide +kernel
theorem dX8_needs_124 : decode cX8_needs 124 = .ok (.getfield 96, 3) := by decide +kernel
theorem dX8_needs_127 : decode cX8_needs 127 = .ok (.iload_n 3, 1) := by decide +kernel
theorem dX8_needs_128 : decode cX8_needs 128 = .ok (.iload 6, 2) := by decide +kernel
theorem dX8_needs_130 : decode cX8_needs 130 = .ok (.iload_n 2, 1) := by decide +kernel
theorem dX8_needs_131 : decode cX8_needs 131 = .ok (.imul, 1) := by decide +kernel
theorem dX8_needs_132 : decode cX8_needs 132 = .ok (.iastore, 1) := by decide +kernel
theorem dX8_needs_133 : decode cX8_needs 133 = .ok (.aload_n 0, 1) := by decide +kernel
theorem dX8_needs_134 : decode cX8_needs 134 = .ok (.invokevirtual 256, 3) := by decide +kernel
theorem dX8_needs_137 : decode cX8_needs 137 = .ok (.iload_n 1, 1) := by decide +kernel
theorem dX8_needs_138 : decode cX8_needs 138 = .ok (.ishr, 1) := by decide +kernel
theorem dX8_needs_139 : decode cX8_needs 139 = .ok (.iconst 1, 1) := by decide +kernel
theorem dX8_needs_140 : decode cX8_needs 140 = .ok (.iand, 1) := by decide +kernel
theorem dX8_needs_141 : decode cX8_needs 141 = .ok (.ifCond .eq 6, 3) := by decide +kernel
theorem dX8_needs_144 : decode cX8_needs 144 = .ok (.iload 6, 2) := by decide +kernel
theorem dX8_needs_146 : decode cX8_needs 146 = .ok (.ireturn, 1) := by decide +kernel
theorem dX8_needs_147 : decode cX8_needs 147 = .ok (.iinc 6 1, 3) := by decide +kernel
theorem dX8_needs_150 : decode cX8_needs 150 = .ok (.goto (-52), 3) := by decide +kernel
theorem dX8_needs_153 : decode cX8_needs 153 = .ok (.bipush (-5), 2) := by decide +kernel
theorem dX8_needs_155 : decode cX8_needs 155 = .ok (.ireturn, 1) := by decide +kernel
theorem dX8_see_0 : decode cX8_see 0 = .ok (.iload_n 1, 1) := by decide +kernel
theorem dX8_see_1 : decode cX8_see 1 = .ok (.iconst (-1), 1) := by decide +kernel
theorem dX8_see_2 : decode cX8_see 2 = .ok (.if_icmp .ne 13, 3) := by decide +kernel
theorem dX8_see_5 : decode cX8_see 5 = .ok (.aload_n 0, 1) := by decide +kernel
theorem dX8_see_6 : decode cX8_see 6 = .ok (.getfield 14, 3) := by decide +kernel
theorem dX8_see_9 : decode cX8_see 9 = .ok (.iconst 0, 1) := by decide +kernel
theorem dX8_see_10 : decode cX8_see 10 = .ok (.putfield 266, 3) := by decide +kernel
theorem dX8_see_13 : decode cX8_see 13 = .ok (.iconst 0, 1) := by decide +kernel
theorem dX8_see_14 : decode cX8_see 14 = .ok (.ireturn, 1) := by decide +kernel
theorem dX8_see_15 : decode cX8_see 15 = .ok (.aload_n 0, 1) := by decide +kernel
theorem dX8_see_16 : decode cX8_see 16 = .ok (.getfield 14, 3) := by decide +kernel
theorem dX8_see_19 : decode cX8_see 19 = .ok (.iload_n 1, 1) := by decide +kernel
theorem dX8_see_20 : decode cX8_see 20 = .ok (.invokevirtual 103, 3) := by decide +kernel
theorem dX8_see_23 : decode cX8_see 23 = .ok (.ifCond .ne 5, 3) := by decide +kernel
theorem dX8_see_26 : decode cX8_see 26 = .ok (.iconst (-1), 1) := by decide +kernel
theorem dX8_see_27 : decode cX8_see 27 = .ok (.ireturn, 1) := by decide +kernel
theorem dX8_see_28 : decode cX8_see 28 = .ok (.aload_n 0, 1) := by decide +kernel
theorem dX8_see_29 : decode cX8_see 29 = .ok (.getfield 14, 3) := by decide +kernel
theorem dX8_see_32 : decode cX8_see 32 = .ok (.getfield 266, 3) := by decide +kernel
theorem dX8_see_35 : decode cX8_see 35 = .ok (.iconst 5, 1) := by decide +kernel
theorem dX8_see_36 : decode cX8_see 36 = .ok (.if_icmp .lt 6, 3) := by decide +kernel
theorem dX8_see_39 : decode cX8_see 39 = .ok (.bipush (-4), 2) := by decide +kernel
theorem dX8_see_41 : decode cX8_see 41 = .ok (.ireturn, 1) := by decide +kernel
theorem dX8_see_42 : decode cX8_see 42 = .ok (.aload_n 0, 1) := by decide +kernel
theorem dX8_see_43 : decode cX8_see 43 = .ok (.getfield 14, 3) := by decide +kernel
theorem dX8_see_46 : decode cX8_see 46 = .ok (.getfield 269, 3) := by decide +kernel
theorem dX8_see_49 : decode cX8_see 49 = .ok (.aload_n 0, 1) := by decide +kernel
theorem dX8_see_50 : decode cX8_see 50 = .ok (.getfield 14, 3) := by decide +kernel
theorem dX8_see_53 : decode cX8_see 53 = .ok (.getfield 266, 3) := by decide +kernel
theorem dX8_see_56 : decode cX8_see 56 = .ok (.iload_n 1, 1) := by decide +kernel
theorem dX8_see_57 : decode cX8_see 57 = .ok (.iastore, 1) := by decide +kernel
theorem dX8_see_58 : decode cX8_see 58 = .ok (.aload_n 0, 1) := by decide +kernel
theorem dX8_see_59 : decode cX8_see 59 = .ok (.getfield 14, 3) := by decide +kernel
theorem dX8_see_62 : decode cX8_see 62 = .ok (.getfield 272, 3) := by decide +kernel
theorem dX8_see_65 : decode cX8_see 65 = .ok (.aload_n 0, 1) := by decide +kernel
theorem dX8_see_66 : decode cX8_see 66 = .ok (.getfield 14, 3) := by decide +kernel
theorem dX8_see_69 : decode cX8_see 69 = .ok (.getfield 266, 3) := by decide +kernel
theorem dX8_see_72 : decode cX8_see 72 = .ok (.iload_n 2, 1) := by decide +kernel
theorem dX8_see_73 : decode cX8_see 73 = .ok (.bastore, 1) := by decide +kernel
theorem dX8_see_74 : decode cX8_see 74 = .ok (.aload_n 0, 1) := by decide +kernel
theorem dX8_see_75 : decode cX8_see 75 = .ok (.getfield 14, 3) := by decide +kernel
theorem dX8_see_78 : decode cX8_see 78 = .ok (.dup, 1) := by decide +kernel
theorem dX8_see_79 : decode cX8_see 79 = .ok (.getfield 266, 3) := by decide +kernel
theorem dX8_see_82 : decode cX8_see 82 = .ok (.iconst 1, 1) := by decide +kernel
theorem dX8_see_83 : decode cX8_see 83 = .ok (.iadd, 1) := by decide +kernel
theorem dX8_see_84 : decode cX8_see 84 = .ok (.putfield 266, 3) := by decide +kernel
theorem dX8_see_87 : decode cX8_see 87 = .ok (.aload_n 0, 1) := by decide +kernel
theorem dX8_see_88 : decode cX8_see 88 = .ok (.getfield 14, 3) := by decide +kernel
theorem dX8_see_91 : decode cX8_see 91 = .ok (.getfield 266, 3) := by decide +kernel
theorem dX8_see_94 : decode cX8_see 94 = .ok (.ireturn, 1) := by decide +kernel
theorem dX8_fits_0 : decode cX8_fits 0 = .ok (.iload_n 1, 1) := by decide +kernel
theorem dX8_fits_1 : decode cX8_fits 1 = .ok (.ifCond .lt 8, 3) := by decide +kernel
theorem dX8_fits_4 : decode cX8_fits 4 = .ok (.iload_n 1, 1) := by decide +kernel
theorem dX8_fits_5 : decode cX8_fits 5 = .ok (.iconst 1, 1) := by decide +kernel
theorem dX8_fits_6 : decode cX8_fits 6 = .ok (.if_icmp .le 5, 3) := by decide +kernel
theorem dX8_fits_9 : decode cX8_fits 9 = .ok (.iconst (-1), 1) := by decide +kernel
theorem dX8_fits_10 : decode cX8_fits 10 = .ok (.ireturn, 1) := by decide +kernel
theorem dX8_fits_11 : decode cX8_fits 11 = .ok (.iconst 0, 1) := by decide +kernel
theorem dX8_fits_12 : decode cX8_fits 12 = .ok (.istore_n 2, 1) := by decide +kernel
theorem dX8_fits_13 : decode cX8_fits 13 = .ok (.bipush (-5), 2) := by decide +kernel
theorem dX8_fits_15 : decode cX8_fits 15 = .ok (.istore_n 3, 1) := by decide +kernel
theorem dX8_fits_16 : decode cX8_fits 16 = .ok (.aload_n 0, 1) := by decide +kernel
theorem dX8_fits_17 : decode cX8_fits 17 = .ok (.getfield 18, 3) := by decide +kernel
theorem dX8_fits_20 : decode cX8_fits 20 = .ok (.aload_n 0, 1) := by decide +kernel
theorem dX8_fits_21 : decode cX8_fits 21 = .ok (.getfield 14, 3) := by decide +kernel
theorem dX8_fits_24 : decode cX8_fits 24 = .ok (.invokevirtual 253, 3) := by decide +kernel
theorem dX8_fits_27 : decode cX8_fits 27 = .ok (.bipush 7, 2) := by decide +kernel
theorem dX8_fits_29 : decode cX8_fits 29 = .ok (.istore 4, 2) := by decide +kernel
theorem dX8_fits_31 : decode cX8_fits 31 = .ok (.iload 4, 2) := by decide +kernel
theorem dX8_fits_33 : decode cX8_fits 33 = .ok (.iconst 1, 1) := by decide +kernel
theorem dX8_fits_34 : decode cX8_fits 34 = .ok (.if_icmp .lt 38, 3) := by decide +kernel
theorem dX8_fits_37 : decode cX8_fits 37 = .ok (.aload_n 0, 1) := by decide +kernel
theorem dX8_fits_38 : decode cX8_fits 38 = .ok (.getfield 18, 3) := by decide +kernel
theorem dX8_fits_41 : decode cX8_fits 41 = .ok (.iload 4, 2) := by decide +kernel
theorem dX8_fits_43 : decode cX8_fits 43 = .ok (.putfield 116, 3) := by decide +kernel
theorem dX8_fits_46 : decode cX8_fits 46 = .ok (.aload_n 0, 1) := by decide +kernel
theorem dX8_fits_47 : decode cX8_fits 47 = .ok (.getfield 14, 3) := by decide +kernel
theorem dX8_fits_50 : decode cX8_fits 50 = .ok (.aload_n 0, 1) := by decide +kernel
theorem dX8_fits_51 : decode cX8_fits 51 = .ok (.invokevirtual 256, 3) := by decide +kernel
theorem dX8_fits_54 : decode cX8_fits 54 = .ok (.invokevirtual 275, 3) := by decide +kernel
theorem dX8_fits_57 : decode cX8_fits 57 = .ok (.ifCond .eq 9, 3) := by decide +kernel
theorem dX8_fits_60 : decode cX8_fits 60 = .ok (.iinc 2 1, 3) := by decide +kernel
theorem dX8_fits_63 : decode cX8_fits 63 = .ok (.iload 4, 2) := by decide +kernel
theorem dX8_fits_65 : decode cX8_fits 65 = .ok (.istore_n 3, 1) := by decide +kernel
theorem dX8_fits_66 : decode cX8_fits 66 = .ok (.iinc 4 (-1), 3) := by decide +kernel
theorem dX8_fits_69 : decode cX8_fits 69 = .ok (.goto (-38), 3) := by decide +kernel
theorem dX8_fits_72 : decode cX8_fits 72 = .ok (.iload_n 1, 1) := by decide +kernel
theorem dX8_fits_73 : decode cX8_fits 73 = .ok (.ifCond .ne 7, 3) := by decide +kernel
theorem dX8_fits_76 : decode cX8_fits 76 = .ok (.iload_n 2, 1) := by decide +kernel
theorem dX8_fits_77 : decode cX8_fits 77 = .ok (.goto 4, 3) := by decide +kernel
theorem dX8_fits_80 : decode cX8_fits 80 = .ok (.iload_n 3, 1) := by decide +kernel
theorem dX8_fits_81 : decode cX8_fits 81 = .ok (.ireturn, 1) := by decide +kernel
theorem dX8_event_0 : decode cX8_event 0 = .ok (.iload_n 1, 1) := by decide +kernel
theorem dX8_event_1 : decode cX8_event 1 = .ok (.iconst (-1), 1) := by decide +kernel
theorem dX8_event_2 : decode cX8_event 2 = .ok (.if_icmp .ne 13, 3) := by decide +kernel
theorem dX8_event_5 : decode cX8_event 5 = .ok (.aload_n 0, 1) := by decide +kernel
theorem dX8_event_6 : decode cX8_event 6 = .ok (.getfield 14, 3) := by decide +kernel
theorem dX8_event_9 : decode cX8_event 9 = .ok (.iconst 0, 1) := by decide +kernel
theorem dX8_event_10 : decode cX8_event 10 = .ok (.putfield 278, 3) := by decide +kernel
theorem dX8_event_13 : decode cX8_event 13 = .ok (.iconst 0, 1) := by decide +kernel
theorem dX8_event_14 : decode cX8_event 14 = .ok (.ireturn, 1) := by decide +kernel
theorem dX8_event_15 : decode cX8_event 15 = .ok (.iload_n 1, 1) := by decide +kernel
theorem dX8_event_16 : decode cX8_event 16 = .ok (.ifCond .lt 8, 3) := by decide +kernel
theorem dX8_event_19 : decode cX8_event 19 = .ok (.iload_n 1, 1) := by decide +kernel
theorem dX8_event_20 : decode cX8_event 20 = .ok (.iconst 3, 1) := by decide +kernel
theorem dX8_event_21 : decode cX8_event 21 = .ok (.if_icmp .le 5, 3) := by decide +kernel
theorem dX8_event_24 : decode cX8_event 24 = .ok (.iconst (-1), 1) := by decide +kernel
theorem dX8_event_25 : decode cX8_event 25 = .ok (.ireturn, 1) := by decide +kernel
theorem dX8_event_26 : decode cX8_event 26 = .ok (.iload_n 1, 1) := by decide +kernel
theorem dX8_event_27 : decode cX8_event 27 = .ok (.iconst 2, 1) := by decide +kernel
theorem dX8_event_28 : decode cX8_event 28 = .ok (.if_icmp .ne 17, 3) := by decide +kernel
theorem dX8_event_31 : decode cX8_event 31 = .ok (.iload_n 2, 1) := by decide +kernel
theorem dX8_event_32 : decode cX8_event 32 = .ok (.iconst 1, 1) := by decide +kernel
theorem dX8_event_33 : decode cX8_event 33 = .ok (.if_icmp .lt 9, 3) := by decide +kernel
theorem dX8_event_36 : decode cX8_event 36 = .ok (.iload_n 2, 1) := by decide +kernel
theorem dX8_event_37 : decode cX8_event 37 = .ok (.bipush 7, 2) := by decide +kernel
theorem dX8_event_39 : decode cX8_event 39 = .ok (.if_icmp .le 19, 3) := by decide +kernel
theorem dX8_event_42 : decode cX8_event 42 = .ok (.bipush (-2), 2) := by decide +kernel
theorem dX8_event_44 : decode cX8_event 44 = .ok (.ireturn, 1) := by decide +kernel
theorem dX8_event_45 : decode cX8_event 45 = .ok (.aload_n 0, 1) := by decide +kernel
theorem dX8_event_46 : decode cX8_event 46 = .ok (.getfield 14, 3) := by decide +kernel
theorem dX8_event_49 : decode cX8_event 49 = .ok (.iload_n 2, 1) := by decide +kernel
theorem dX8_event_50 : decode cX8_event 50 = .ok (.invokevirtual 103, 3) := by decide +kernel
theorem dX8_event_53 : decode cX8_event 53 = .ok (.ifCond .ne 5, 3) := by decide +kernel
theorem dX8_event_56 : decode cX8_event 56 = .ok (.iconst (-1), 1) := by decide +kernel
theorem dX8_event_57 : decode cX8_event 57 = .ok (.ireturn, 1) := by decide +kernel
theorem dX8_event_58 : decode cX8_event 58 = .ok (.aload_n 0, 1) := by decide +kernel
theorem dX8_event_59 : decode cX8_event 59 = .ok (.getfield 14, 3) := by decide +kernel
theorem dX8_event_62 : decode cX8_event 62 = .ok (.getfield 278, 3) := by decide +kernel
theorem dX8_event_65 : decode cX8_event 65 = .ok (.bipush 8, 2) := by decide +kernel
theorem dX8_event_67 : decode cX8_event 67 = .ok (.if_icmp .lt 6, 3) := by decide +kernel
theorem dX8_event_70 : decode cX8_event 70 = .ok (.bipush (-4), 2) := by decide +kernel
theorem dX8_event_72 : decode cX8_event 72 = .ok (.ireturn, 1) := by decide +kernel
theorem dX8_event_73 : decode cX8_event 73 = .ok (.aload_n 0, 1) := by decide +kernel
theorem dX8_event_74 : decode cX8_event 74 = .ok (.getfield 14, 3) := by decide +kernel
theorem dX8_event_77 : decode cX8_event 77 = .ok (.getfield 281, 3) := by decide +kernel
theorem dX8_event_80 : decode cX8_event 80 = .ok (.aload_n 0, 1) := by decide +kernel
theorem dX8_event_81 : decode cX8_event 81 = .ok (.getfield 14, 3) := by decide +kernel
theorem dX8_event_84 : decode cX8_event 84 = .ok (.getfield 278, 3) := by decide +kernel
theorem dX8_event_87 : decode cX8_event 87 = .ok (.iload_n 1, 1) := by decide +kernel
theorem dX8_event_88 : decode cX8_event 88 = .ok (.iastore, 1) := by decide +kernel
theorem dX8_event_89 : decode cX8_event 89 = .ok (.aload_n 0, 1) := by decide +kernel
theorem dX8_event_90 : decode cX8_event 90 = .ok (.getfield 14, 3) := by decide +kernel
theorem dX8_event_93 : decode cX8_event 93 = .ok (.getfield 284, 3) := by decide +kernel
theorem dX8_event_96 : decode cX8_event 96 = .ok (.aload_n 0, 1) := by decide +kernel
theorem dX8_event_97 : decode cX8_event 97 = .ok (.getfield 14, 3) := by decide +kernel
theorem dX8_event_100 : decode cX8_event 100 = .ok (.getfield 278, 3) := by decide +kernel
theorem dX8_event_103 : decode cX8_event 103 = .ok (.iload_n 2, 1) := by decide +kernel
theorem dX8_event_104 : decode cX8_event 104 = .ok (.iastore, 1) := by decide +kernel
theorem dX8_event_105 : decode cX8_event 105 = .ok (.aload_n 0, 1) := by decide +kernel
theorem dX8_event_106 : decode cX8_event 106 = .ok (.getfield 14, 3) := by decide +kernel
theorem dX8_event_109 : decode cX8_event 109 = .ok (.dup, 1) := by decide +kernel
theorem dX8_event_110 : decode cX8_event 110 = .ok (.getfield 278, 3) := by decide +kernel
theorem dX8_event_113 : decode cX8_event 113 = .ok (.iconst 1, 1) := by decide +kernel
theorem dX8_event_114 : decode cX8_event 114 = .ok (.iadd, 1) := by decide +kernel
theorem dX8_event_115 : decode cX8_event 115 = .ok (.putfield 278, 3) := by decide +kernel
theorem dX8_event_118 : decode cX8_event 118 = .ok (.aload_n 0, 1) := by decide +kernel
theorem dX8_event_119 : decode cX8_event 119 = .ok (.getfield 14, 3) := by decide +kernel
theorem dX8_event_122 : decode cX8_event 122 = .ok (.getfield 278, 3) := by decide +kernel
theorem dX8_event_125 : decode cX8_event 125 = .ok (.ireturn, 1) := by decide +kernel
theorem dX8_after_0 : decode cX8_after 0 = .ok (.aload_n 0, 1) := by decide +kernel
theorem dX8_after_1 : decode cX8_after 1 = .ok (.getfield 18, 3) := by decide +kernel
theorem dX8_after_4 : decode cX8_after 4 = .ok (.aload_n 0, 1) := by decide +kernel
theorem dX8_after_5 : decode cX8_after 5 = .ok (.getfield 14, 3) := by decide +kernel
theorem dX8_after_8 : decode cX8_after 8 = .ok (.invokevirtual 253, 3) := by decide +kernel
theorem dX8_after_11 : decode cX8_after 11 = .ok (.iconst 0, 1) := by decide +kernel
theorem dX8_after_12 : decode cX8_after 12 = .ok (.istore_n 1, 1) := by decide +kernel
theorem dX8_after_13 : decode cX8_after 13 = .ok (.iload_n 1, 1) := by decide +kernel
theorem dX8_after_14 : decode cX8_after 14 = .ok (.aload_n 0, 1) := by decide +kernel
theorem dX8_after_15 : decode cX8_after 15 = .ok (.getfield 14, 3) := by decide +kernel
theorem dX8_after_18 : decode cX8_after 18 = .ok (.getfield 278, 3) := by decide +kernel
theorem dX8_after_21 : decode cX8_after 21 = .ok (.if_icmp .ge 34, 3) := by decide +kernel
theorem dX8_after_24 : decode cX8_after 24 = .ok (.aload_n 0, 1) := by decide +kernel
theorem dX8_after_25 : decode cX8_after 25 = .ok (.getfield 18, 3) := by decide +kernel
theorem dX8_after_28 : decode cX8_after 28 = .ok (.aload_n 0, 1) := by decide +kernel
theorem dX8_after_29 : decode cX8_after 29 = .ok (.getfield 14, 3) := by decide +kernel
theorem dX8_after_32 : decode cX8_after 32 = .ok (.getfield 281, 3) := by decide +kernel
theorem dX8_after_35 : decode cX8_after 35 = .ok (.iload_n 1, 1) := by decide +kernel
theorem dX8_after_36 : decode cX8_after 36 = .ok (.iaload, 1) := by decide +kernel
theorem dX8_after_37 : decode cX8_after 37 = .ok (.aload_n 0, 1) := by decide +kernel
theorem dX8_after_38 : decode cX8_after 38 = .ok (.getfield 14, 3) := by decide +kernel
theorem dX8_after_41 : decode cX8_after 41 = .ok (.getfield 284, 3) := by decide +kernel
theorem dX8_after_44 : decode cX8_after 44 = .ok (.iload_n 1, 1) := by decide +kernel
theorem dX8_after_45 : decode cX8_after 45 = .ok (.iaload, 1) := by decide +kernel
theorem dX8_after_46 : decode cX8_after 46 = .ok (.invokevirtual 287, 3) := by decide +kernel
theorem dX8_after_49 : decode cX8_after 49 = .ok (.iinc 1 1, 3) := by decide +kernel
theorem dX8_after_52 : decode cX8_after 52 = .ok (.goto (-39), 3) := by decide +kernel
theorem dX8_after_55 : decode cX8_after 55 = .ok (.aload_n 0, 1) := by decide +kernel
theorem dX8_after_56 : decode cX8_after 56 = .ok (.invokevirtual 256, 3) := by decide +kernel
theorem dX8_after_59 : decode cX8_after 59 = .ok (.ireturn, 1) := by decide +kernel
theorem dX8_feed_0 : decode cX8_feed 0 = .ok (.iload_n 1, 1) := by decide +kernel
theorem dX8_feed_1 : decode cX8_feed 1 = .ok (.ifCond .lt 9, 3) := by decide +kernel
theorem dX8_feed_4 : decode cX8_feed 4 = .ok (.iload_n 1, 1) := by decide +kernel
theorem dX8_feed_5 : decode cX8_feed 5 = .ok (.bipush 127, 2) := by decide +kernel
theorem dX8_feed_7 : decode cX8_feed 7 = .ok (.if_icmp .le 6, 3) := by decide +kernel
theorem dX8_feed_10 : decode cX8_feed 10 = .ok (.bipush (-2), 2) := by decide +kernel
theorem dX8_feed_12 : decode cX8_feed 12 = .ok (.ireturn, 1) := by decide +kernel
theorem dX8_feed_13 : decode cX8_feed 13 = .ok (.aload_n 0, 1) := by decide +kernel
theorem dX8_feed_14 : decode cX8_feed 14 = .ok (.getfield 46, 3) := by decide +kernel
theorem dX8_feed_17 : decode cX8_feed 17 = .ok (.getfield 290, 3) := by decide +kernel
theorem dX8_feed_20 : decode cX8_feed 20 = .ok (.bipush 100, 2) := by decide +kernel
theorem dX8_feed_22 : decode cX8_feed 22 = .ok (.if_icmp .lt 6, 3) := by decide +kernel
theorem dX8_feed_25 : decode cX8_feed 25 = .ok (.bipush (-4), 2) := by decide +kernel
theorem dX8_feed_27 : decode cX8_feed 27 = .ok (.ireturn, 1) := by decide +kernel
theorem dX8_feed_28 : decode cX8_feed 28 = .ok (.aload_n 0, 1) := by decide +kernel
theorem dX8_feed_29 : decode cX8_feed 29 = .ok (.getfield 46, 3) := by decide +kernel
theorem dX8_feed_32 : decode cX8_feed 32 = .ok (.getfield 291, 3) := by decide +kernel
theorem dX8_feed_35 : decode cX8_feed 35 = .ok (.aload_n 0, 1) := by decide +kernel
theorem dX8_feed_36 : decode cX8_feed 36 = .ok (.getfield 46, 3) := by decide +kernel
theorem dX8_feed_39 : decode cX8_feed 39 = .ok (.getfield 290, 3) := by decide +kernel
theorem dX8_feed_42 : decode cX8_feed 42 = .ok (.iload_n 1, 1) := by decide +kernel
theorem dX8_feed_43 : decode cX8_feed 43 = .ok (.iastore, 1) := by decide +kernel
theorem dX8_feed_44 : decode cX8_feed 44 = .ok (.aload_n 0, 1) := by decide +kernel
theorem dX8_feed_45 : decode cX8_feed 45 = .ok (.getfield 46, 3) := by decide +kernel
theorem dX8_feed_48 : decode cX8_feed 48 = .ok (.dup, 1) := by decide +kernel
theorem dX8_feed_49 : decode cX8_feed 49 = .ok (.getfield 290, 3) := by decide +kernel
theorem dX8_feed_52 : decode cX8_feed 52 = .ok (.iconst 1, 1) := by decide +kernel
theorem dX8_feed_53 : decode cX8_feed 53 = .ok (.iadd, 1) := by decide +kernel
theorem dX8_feed_54 : decode cX8_feed 54 = .ok (.putfield 290, 3) := by decide +kernel
theorem dX8_feed_57 : decode cX8_feed 57 = .ok (.aload_n 0, 1) := by decide +kernel
theorem dX8_feed_58 : decode cX8_feed 58 = .ok (.getfield 46, 3) := by decide +kernel
theorem dX8_feed_61 : decode cX8_feed 61 = .ok (.getfield 290, 3) := by decide +kernel
theorem dX8_feed_64 : decode cX8_feed 64 = .ok (.ireturn, 1) := by decide +kernel
theorem dX8_read_0 : decode cX8_read 0 = .ok (.aload_n 0, 1) := by decide +kernel
theorem dX8_read_1 : decode cX8_read 1 = .ok (.getfield 46, 3) := by decide +kernel
theorem dX8_read_4 : decode cX8_read 4 = .ok (.aload_n 0, 1) := by decide +kernel
theorem dX8_read_5 : decode cX8_read 5 = .ok (.getfield 53, 3) := by decide +kernel
theorem dX8_read_8 : decode cX8_read 8 = .ok (.invokevirtual 294, 3) := by decide +kernel
theorem dX8_read_11 : decode cX8_read 11 = .ok (.istore_n 1, 1) := by decide +kernel
theorem dX8_read_12 : decode cX8_read 12 = .ok (.aload_n 0, 1) := by decide +kernel
theorem dX8_read_13 : decode cX8_read 13 = .ok (.getfield 46, 3) := by decide +kernel
theorem dX8_read_16 : decode cX8_read 16 = .ok (.iconst 0, 1) := by decide +kernel
theorem dX8_read_17 : decode cX8_read 17 = .ok (.putfield 290, 3) := by decide +kernel
theorem dX8_read_20 : decode cX8_read 20 = .ok (.iload_n 1, 1) := by decide +kernel
theorem dX8_read_21 : decode cX8_read 21 = .ok (.bipush (-5), 2) := by decide +kernel
theorem dX8_read_23 : decode cX8_read 23 = .ok (.if_icmp .eq 8, 3) := by decide +kernel
theorem dX8_read_26 : decode cX8_read 26 = .ok (.bipush (-10), 2) := by decide +kernel
theorem dX8_read_28 : decode cX8_read 28 = .ok (.iload_n 1, 1) := by decide +kernel
theorem dX8_read_29 : decode cX8_read 29 = .ok (.isub, 1) := by decide +kernel
theorem dX8_read_30 : decode cX8_read 30 = .ok (.ireturn, 1) := by decide +kernel
theorem dX8_read_31 : decode cX8_read 31 = .ok (.iconst 0, 1) := by decide +kernel
theorem dX8_read_32 : decode cX8_read 32 = .ok (.istore_n 2, 1) := by decide +kernel
theorem dX8_read_33 : decode cX8_read 33 = .ok (.iconst 0, 1) := by decide +kernel
theorem dX8_read_34 : decode cX8_read 34 = .ok (.istore_n 3, 1) := by decide +kernel
theorem dX8_read_35 : decode cX8_read 35 = .ok (.iload_n 3, 1) := by decide +kernel
theorem dX8_read_36 : decode cX8_read 36 = .ok (.aload_n 0, 1) := by decide +kernel
theorem dX8_read_37 : decode cX8_read 37 = .ok (.getfield 46, 3) := by decide +kernel
theorem dX8_read_40 : decode cX8_read 40 = .ok (.getfield 298, 3) := by decide +kernel
theorem dX8_read_43 : decode cX8_read 43 = .ok (.if_icmp .ge 46, 3) := by decide +kernel
theorem dX8_read_46 : decode cX8_read 46 = .ok (.aload_n 0, 1) := by decide +kernel
theorem dX8_read_47 : decode cX8_read 47 = .ok (.aload_n 0, 1) := by decide +kernel
theorem dX8_read_48 : decode cX8_read 48 = .ok (.getfield 46, 3) := by decide +kernel
theorem dX8_read_51 : decode cX8_read 51 = .ok (.getfield 301, 3) := by decide +kernel
theorem dX8_read_54 : decode cX8_read 54 = .ok (.iload_n 3, 1) := by decide +kernel
theorem dX8_read_55 : decode cX8_read 55 = .ok (.iaload, 1) := by decide +kernel
theorem dX8_read_56 : decode cX8_read 56 = .ok (.aload_n 0, 1) := by decide +kernel
theorem dX8_read_57 : decode cX8_read 57 = .ok (.getfield 46, 3) := by decide +kernel
theorem dX8_read_60 : decode cX8_read 60 = .ok (.getfield 304, 3) := by decide +kernel
theorem dX8_read_63 : decode cX8_read 63 = .ok (.iload_n 3, 1) := by decide +kernel
theorem dX8_read_64 : decode cX8_read 64 = .ok (.iaload, 1) := by decide +kernel
theorem dX8_read_65 : decode cX8_read 65 = .ok (.aload_n 0, 1) := by decide +kernel
theorem dX8_read_66 : decode cX8_read 66 = .ok (.getfield 46, 3) := by decide +kernel
theorem dX8_read_69 : decode cX8_read 69 = .ok (.getfield 307, 3) := by decide +kernel
theorem dX8_read_72 : decode cX8_read 72 = .ok (.iload_n 3, 1) := by decide +kernel
theorem dX8_read_73 : decode cX8_read 73 = .ok (.iaload, 1) := by decide +kernel
theorem dX8_read_74 : decode cX8_read 74 = .ok (.invokevirtual 310, 3) := by decide +kernel
theorem dX8_read_77 : decode cX8_read 77 = .ok (.ifCond .eq 6, 3) := by decide +kernel
theorem dX8_read_80 : decode cX8_read 80 = .ok (.iinc 2 1, 3) := by decide +kernel
theorem dX8_read_83 : decode cX8_read 83 = .ok (.iinc 3 1, 3) := by decide +kernel
theorem dX8_read_86 : decode cX8_read 86 = .ok (.goto (-51), 3) := by decide +kernel
theorem dX8_read_89 : decode cX8_read 89 = .ok (.iload_n 2, 1) := by decide +kernel
theorem dX8_read_90 : decode cX8_read 90 = .ok (.ireturn, 1) := by decide +kernel
theorem dX8_isDone_0 : decode cX8_isDone 0 = .ok (.iload_n 1, 1) := by decide +kernel
theorem dX8_isDone_1 : decode cX8_isDone 1 = .ok (.lookupswitch 124 #[(98, 64), (99, 51), (103, 109), (108, 94), (115, 79)], 51) := by decide +kernel
theorem dX8_isDone_52 : decode cX8_isDone 52 = .ok (.aload_n 0, 1) := by decide +kernel
theorem dX8_isDone_53 : decode cX8_isDone 53 = .ok (.invokevirtual 314, 3) := by decide +kernel
theorem dX8_isDone_56 : decode cX8_isDone 56 = .ok (.ifCond .lt 7, 3) := by decide +kernel
theorem dX8_isDone_59 : decode cX8_isDone 59 = .ok (.iconst 1, 1) := by decide +kernel
theorem dX8_isDone_60 : decode cX8_isDone 60 = .ok (.goto 4, 3) := by decide +kernel
theorem dX8_isDone_63 : decode cX8_isDone 63 = .ok (.iconst 0, 1) := by decide +kernel
theorem dX8_isDone_64 : decode cX8_isDone 64 = .ok (.ireturn, 1) := by decide +kernel
theorem dX8_isDone_65 : decode cX8_isDone 65 = .ok (.aload_n 0, 1) := by decide +kernel
theorem dX8_isDone_66 : decode cX8_isDone 66 = .ok (.iload_n 2, 1) := by decide +kernel
theorem dX8_isDone_67 : decode cX8_isDone 67 = .ok (.iload_n 3, 1) := by decide +kernel
theorem dX8_isDone_68 : decode cX8_isDone 68 = .ok (.invokevirtual 317, 3) := by decide +kernel
theorem dX8_isDone_71 : decode cX8_isDone 71 = .ok (.ifCond .lt 7, 3) := by decide +kernel
theorem dX8_isDone_74 : decode cX8_isDone 74 = .ok (.iconst 1, 1) := by decide +kernel
theorem dX8_isDone_75 : decode cX8_isDone 75 = .ok (.goto 4, 3) := by decide +kernel
theorem dX8_isDone_78 : decode cX8_isDone 78 = .ok (.iconst 0, 1) := by decide +kernel
theorem dX8_isDone_79 : decode cX8_isDone 79 = .ok (.ireturn, 1) := by decide +kernel
theorem dX8_isDone_80 : decode cX8_isDone 80 = .ok (.aload_n 0, 1) := by decide +kernel
theorem dX8_isDone_81 : decode cX8_isDone 81 = .ok (.iconst 0, 1) := by decide +kernel
theorem dX8_isDone_82 : decode cX8_isDone 82 = .ok (.iload_n 2, 1) := by decide +kernel
theorem dX8_isDone_83 : decode cX8_isDone 83 = .ok (.invokevirtual 320, 3) := by decide +kernel
theorem dX8_isDone_86 : decode cX8_isDone 86 = .ok (.ifCond .lt 7, 3) := by decide +kernel
theorem dX8_isDone_89 : decode cX8_isDone 89 = .ok (.iconst 1, 1) := by decide +kernel
theorem dX8_isDone_90 : decode cX8_isDone 90 = .ok (.goto 4, 3) := by decide +kernel
theorem dX8_isDone_93 : decode cX8_isDone 93 = .ok (.iconst 0, 1) := by decide +kernel
theorem dX8_isDone_94 : decode cX8_isDone 94 = .ok (.ireturn, 1) := by decide +kernel
theorem dX8_isDone_95 : decode cX8_isDone 95 = .ok (.aload_n 0, 1) := by decide +kernel
theorem dX8_isDone_96 : decode cX8_isDone 96 = .ok (.iconst 1, 1) := by decide +kernel
theorem dX8_isDone_97 : decode cX8_isDone 97 = .ok (.iload_n 2, 1) := by decide +kernel
theorem dX8_isDone_98 : decode cX8_isDone 98 = .ok (.invokevirtual 320, 3) := by decide +kernel
theorem dX8_isDone_101 : decode cX8_isDone 101 = .ok (.ifCond .lt 7, 3) := by decide +kernel
theorem dX8_isDone_104 : decode cX8_isDone 104 = .ok (.iconst 1, 1) := by decide +kernel
theorem dX8_isDone_105 : decode cX8_isDone 105 = .ok (.goto 4, 3) := by decide +kernel
theorem dX8_isDone_108 : decode cX8_isDone 108 = .ok (.iconst 0, 1) := by decide +kernel
theorem dX8_isDone_109 : decode cX8_isDone 109 = .ok (.ireturn, 1) := by decide +kernel
theorem dX8_isDone_110 : decode cX8_isDone 110 = .ok (.aload_n 0, 1) := by decide +kernel
theorem dX8_isDone_111 : decode cX8_isDone 111 = .ok (.iload_n 2, 1) := by decide +kernel
theorem dX8_isDone_112 : decode cX8_isDone 112 = .ok (.iconst 1, 1) := by decide +kernel
theorem dX8_isDone_113 : decode cX8_isDone 113 = .ok (.invokevirtual 323, 3) := by decide +kernel
theorem dX8_isDone_116 : decode cX8_isDone 116 = .ok (.ifCond .lt 7, 3) := by decide +kernel
theorem dX8_isDone_119 : decode cX8_isDone 119 = .ok (.iconst 1, 1) := by decide +kernel
theorem dX8_isDone_120 : decode cX8_isDone 120 = .ok (.goto 4, 3) := by decide +kernel
theorem dX8_isDone_123 : decode cX8_isDone 123 = .ok (.iconst 0, 1) := by decide +kernel
theorem dX8_isDone_124 : decode cX8_isDone 124 = .ok (.ireturn, 1) := by decide +kernel
theorem dX8_isDone_125 : decode cX8_isDone 125 = .ok (.iconst 0, 1) := by decide +kernel
theorem dX8_isDone_126 : decode cX8_isDone 126 = .ok (.ireturn, 1) := by decide +kernel
theorem dX8_cause_0 : decode cX8_cause 0 = .ok (.iload_n 1, 1) := by decide +kernel
theorem dX8_cause_1 : decode cX8_cause 1 = .ok (.ifCond .lt 12, 3) := by decide +kernel
theorem dX8_cause_4 : decode cX8_cause 4 = .ok (.iload_n 2, 1) := by decide +kernel
theorem dX8_cause_5 : decode cX8_cause 5 = .ok (.ifCond .lt 8, 3) := by decide +kernel
theorem dX8_cause_8 : decode cX8_cause 8 = .ok (.iload_n 2, 1) := by decide +kernel
theorem dX8_cause_9 : decode cX8_cause 9 = .ok (.iconst 1, 1) := by decide +kernel
theorem dX8_cause_10 : decode cX8_cause 10 = .ok (.if_icmp .le 5, 3) := by decide +kernel
theorem dX8_cause_13 : decode cX8_cause 13 = .ok (.iconst (-1), 1) := by decide +kernel
theorem dX8_cause_14 : decode cX8_cause 14 = .ok (.ireturn, 1) := by decide +kernel
theorem dX8_cause_15 : decode cX8_cause 15 = .ok (.iload_n 1, 1) := by decide +kernel
theorem dX8_cause_16 : decode cX8_cause 16 = .ok (.aload_n 0, 1) := by decide +kernel
theorem dX8_cause_17 : decode cX8_cause 17 = .ok (.getfield 53, 3) := by decide +kernel
theorem dX8_cause_20 : decode cX8_cause 20 = .ok (.getfield 327, 3) := by decide +kernel
theorem dX8_cause_23 : decode cX8_cause 23 = .ok (.if_icmp .lt 6, 3) := by decide +kernel
theorem dX8_cause_26 : decode cX8_cause 26 = .ok (.bipush (-5), 2) := by decide +kernel
theorem dX8_cause_28 : decode cX8_cause 28 = .ok (.ireturn, 1) := by decide +kernel
theorem dX8_cause_29 : decode cX8_cause 29 = .ok (.iload_n 2, 1) := by decide +kernel
theorem dX8_cause_30 : decode cX8_cause 30 = .ok (.ifCond .ne 15, 3) := by decide +kernel
theorem dX8_cause_33 : decode cX8_cause 33 = .ok (.aload_n 0, 1) := by decide +kernel
theorem dX8_cause_34 : decode cX8_cause 34 = .ok (.getfield 53, 3) := by decide +kernel
theorem dX8_cause_37 : decode cX8_cause 37 = .ok (.getfield 328, 3) := by decide +kernel
theorem dX8_cause_40 : decode cX8_cause 40 = .ok (.iload_n 1, 1) := by decide +kernel
theorem dX8_cause_41 : decode cX8_cause 41 = .ok (.iaload, 1) := by decide +kernel
theorem dX8_cause_42 : decode cX8_cause 42 = .ok (.goto 12, 3) := by decide +kernel
theorem dX8_cause_45 : decode cX8_cause 45 = .ok (.aload_n 0, 1) := by decide +kernel
theorem dX8_cause_46 : decode cX8_cause 46 = .ok (.getfield 53, 3) := by decide +kernel
theorem dX8_cause_49 : decode cX8_cause 49 = .ok (.getfield 331, 3) := by decide +kernel
theorem dX8_cause_52 : decode cX8_cause 52 = .ok (.iload_n 1, 1) := by decide +kernel
theorem dX8_cause_53 : decode cX8_cause 53 = .ok (.iaload, 1) := by decide +kernel
theorem dX8_cause_54 : decode cX8_cause 54 = .ok (.ireturn, 1) := by decide +kernel
theorem dX8_tapeAt_0 : decode cX8_tapeAt 0 = .ok (.iload_n 1, 1) := by decide +kernel
theorem dX8_tapeAt_1 : decode cX8_tapeAt 1 = .ok (.ifCond .lt 12, 3) := by decide +kernel
theorem dX8_tapeAt_4 : decode cX8_tapeAt 4 = .ok (.iload_n 1, 1) := by decide +kernel
theorem dX8_tapeAt_5 : decode cX8_tapeAt 5 = .ok (.aload_n 0, 1) := by decide +kernel
theorem dX8_tapeAt_6 : decode cX8_tapeAt 6 = .ok (.getfield 59, 3) := by decide +kernel
theorem dX8_tapeAt_9 : decode cX8_tapeAt 9 = .ok (.arraylength, 1) := by decide +kernel
theorem dX8_tapeAt_10 : decode cX8_tapeAt 10 = .ok (.if_icmp .lt 7, 3) := by decide +kernel
theorem dX8_tapeAt_13 : decode cX8_tapeAt 13 = .ok (.aconst_null, 1) := by decide +kernel
theorem dX8_tapeAt_14 : decode cX8_tapeAt 14 = .ok (.goto 9, 3) := by decide +kernel
theorem dX8_tapeAt_17 : decode cX8_tapeAt 17 = .ok (.aload_n 0, 1) := by decide +kernel
theorem dX8_tapeAt_18 : decode cX8_tapeAt 18 = .ok (.getfield 59, 3) := by decide +kernel
theorem dX8_tapeAt_21 : decode cX8_tapeAt 21 = .ok (.iload_n 1, 1) := by decide +kernel
theorem dX8_tapeAt_22 : decode cX8_tapeAt 22 = .ok (.aaload, 1) := by decide +kernel
theorem dX8_tapeAt_23 : decode cX8_tapeAt 23 = .ok (.areturn, 1) := by decide +kernel
theorem dX8_judge_0 : decode cX8_judge 0 = .ok (.aload_n 0, 1) := by decide +kernel
theorem dX8_judge_1 : decode cX8_judge 1 = .ok (.invokevirtual 143, 3) := by decide +kernel
theorem dX8_judge_4 : decode cX8_judge 4 = .ok (.iload_n 1, 1) := by decide +kernel
theorem dX8_judge_5 : decode cX8_judge 5 = .ok (.invokevirtual 186, 3) := by decide +kernel
theorem dX8_judge_8 : decode cX8_judge 8 = .ok (.astore 4, 2) := by decide +kernel
theorem dX8_judge_10 : decode cX8_judge 10 = .ok (.aload_n 0, 1) := by decide +kernel
theorem dX8_judge_11 : decode cX8_judge 11 = .ok (.iload_n 2, 1) := by decide +kernel
theorem dX8_judge_12 : decode cX8_judge 12 = .ok (.invokevirtual 334, 3) := by decide +kernel
theorem dX8_judge_15 : decode cX8_judge 15 = .ok (.astore 5, 2) := by decide +kernel
theorem dX8_judge_17 : decode cX8_judge 17 = .ok (.aload 4, 2) := by decide +kernel
theorem dX8_judge_19 : decode cX8_judge 19 = .ok (.ifnull 8, 3) := by decide +kernel
theorem dX8_judge_22 : decode cX8_judge 22 = .ok (.aload 5, 2) := by decide +kernel
theorem dX8_judge_24 : decode cX8_judge 24 = .ok (.ifnonnull 5, 3) := by decide +kernel
theorem dX8_judge_27 : decode cX8_judge 27 = .ok (.iconst (-1), 1) := by decide +kernel
theorem dX8_judge_28 : decode cX8_judge 28 = .ok (.ireturn, 1) := by decide +kernel
theorem dX8_judge_29 : decode cX8_judge 29 = .ok (.aload 5, 2) := by decide +kernel
theorem dX8_judge_31 : decode cX8_judge 31 = .ok (.getfield 338, 3) := by decide +kernel
theorem dX8_judge_34 : decode cX8_judge 34 = .ok (.iconst 3, 1) := by decide +kernel
theorem dX8_judge_35 : decode cX8_judge 35 = .ok (.if_icmp .eq 15, 3) := by decide +kernel
theorem dX8_judge_38 : decode cX8_judge 38 = .ok (.aload 5, 2) := by decide +kernel
theorem dX8_judge_40 : decode cX8_judge 40 = .ok (.getfield 338, 3) := by decide +kernel
theorem dX8_judge_43 : decode cX8_judge 43 = .ok (.iconst (-1), 1) := by decide +kernel
theorem dX8_judge_44 : decode cX8_judge 44 = .ok (.if_icmp .eq 6, 3) := by decide +kernel
theorem dX8_judge_47 : decode cX8_judge 47 = .ok (.bipush (-12), 2) := by decide +kernel
theorem dX8_judge_49 : decode cX8_judge 49 = .ok (.ireturn, 1) := by decide +kernel
theorem dX8_judge_50 : decode cX8_judge 50 = .ok (.iload_n 3, 1) := by decide +kernel
theorem dX8_judge_51 : decode cX8_judge 51 = .ok (.ifCond .ge 6, 3) := by decide +kernel
theorem dX8_judge_54 : decode cX8_judge 54 = .ok (.bipush 100, 2) := by decide +kernel
theorem dX8_judge_56 : decode cX8_judge 56 = .ok (.ireturn, 1) := by decide +kernel
theorem dX8_judge_57 : decode cX8_judge 57 = .ok (.iconst 0, 1) := by decide +kernel
theorem dX8_judge_58 : decode cX8_judge 58 = .ok (.istore 6, 2) := by decide +kernel
theorem dX8_judge_60 : decode cX8_judge 60 = .ok (.iload 6, 2) := by decide +kernel
theorem dX8_judge_62 : decode cX8_judge 62 = .ok (.aload_n 0, 1) := by decide +kernel
theorem dX8_judge_63 : decode cX8_judge 63 = .ok (.getfield 14, 3) := by decide +kernel
theorem dX8_judge_66 : decode cX8_judge 66 = .ok (.getfield 64, 3) := by decide +kernel
theorem dX8_judge_69 : decode cX8_judge 69 = .ok (.if_icmp .ge 52, 3) := by decide +kernel
theorem dX8_judge_72 : decode cX8_judge 72 = .ok (.iload_n 3, 1) := by decide +kernel
theorem dX8_judge_73 : decode cX8_judge 73 = .ok (.aload 5, 2) := by decide +kernel
theorem dX8_judge_75 : decode cX8_judge 75 = .ok (.getfield 340, 3) := by decide +kernel
theorem dX8_judge_78 : decode cX8_judge 78 = .ok (.iload 6, 2) := by decide +kernel
theorem dX8_judge_80 : decode cX8_judge 80 = .ok (.isub, 1) := by decide +kernel
theorem dX8_judge_81 : decode cX8_judge 81 = .ok (.if_icmp .lt 9, 3) := by decide +kernel
theorem dX8_judge_84 : decode cX8_judge 84 = .ok (.bipush 100, 2) := by decide +kernel
theorem dX8_judge_86 : decode cX8_judge 86 = .ok (.iload 6, 2) := by decide +kernel
theorem dX8_judge_88 : decode cX8_judge 88 = .ok (.iadd, 1) := by decide +kernel
theorem dX8_judge_89 : decode cX8_judge 89 = .ok (.ireturn, 1) := by decide +kernel
theorem dX8_judge_90 : decode cX8_judge 90 = .ok (.aload 5, 2) := by decide +kernel
theorem dX8_judge_92 : decode cX8_judge 92 = .ok (.getfield 341, 3) := by decide +kernel
theorem dX8_judge_95 : decode cX8_judge 95 = .ok (.iload_n 3, 1) := by decide +kernel
theorem dX8_judge_96 : decode cX8_judge 96 = .ok (.iload 6, 2) := by decide +kernel
theorem dX8_judge_98 : decode cX8_judge 98 = .ok (.iadd, 1) := by decide +kernel
theorem dX8_judge_99 : decode cX8_judge 99 = .ok (.laload, 1) := by decide +kernel
theorem dX8_judge_100 : decode cX8_judge 100 = .ok (.aload 4, 2) := by decide +kernel
theorem dX8_judge_102 : decode cX8_judge 102 = .ok (.getfield 214, 3) := by decide +kernel
theorem dX8_judge_105 : decode cX8_judge 105 = .ok (.iload 6, 2) := by decide +kernel
theorem dX8_judge_107 : decode cX8_judge 107 = .ok (.laload, 1) := by decide +kernel
theorem dX8_judge_108 : decode cX8_judge 108 = .ok (.lcmp, 1) := by decide +kernel
theorem dX8_judge_109 : decode cX8_judge 109 = .ok (.ifCond .eq 6, 3) := by decide +kernel
theorem dX8_judge_112 : decode cX8_judge 112 = .ok (.iload 6, 2) := by decide +kernel
theorem dX8_judge_114 : decode cX8_judge 114 = .ok (.ireturn, 1) := by decide +kernel
theorem dX8_judge_115 : decode cX8_judge 115 = .ok (.iinc 6 1, 3) := by decide +kernel
theorem dX8_judge_118 : decode cX8_judge 118 = .ok (.goto (-58), 3) := by decide +kernel
theorem dX8_judge_121 : decode cX8_judge 121 = .ok (.bipush (-5), 2) := by decide +kernel
theorem dX8_judge_123 : decode cX8_judge 123 = .ok (.ireturn, 1) := by decide +kernel
theorem dX8_image_0 : decode cX8_image 0 = .ok (.aload_n 0, 1) := by decide +kernel
theorem dX8_image_1 : decode cX8_image 1 = .ok (.getfield 21, 3) := by decide +kernel
theorem dX8_image_4 : decode cX8_image 4 = .ok (.aload_n 0, 1) := by decide +kernel
theorem dX8_image_5 : decode cX8_image 5 = .ok (.getfield 14, 3) := by decide +kernel
theorem dX8_image_8 : decode cX8_image 8 = .ok (.invokevirtual 253, 3) := by decide +kernel
theorem dX8_image_11 : decode cX8_image 11 = .ok (.aload_n 0, 1) := by decide +kernel
theorem dX8_image_12 : decode cX8_image 12 = .ok (.iconst 1, 1) := by decide +kernel
theorem dX8_image_13 : decode cX8_image 13 = .ok (.putfield 24, 3) := by decide +kernel
theorem dX8_image_16 : decode cX8_image 16 = .ok (.aload_n 0, 1) := by decide +kernel
theorem dX8_image_17 : decode cX8_image 17 = .ok (.getfield 14, 3) := by decide +kernel
theorem dX8_image_20 : decode cX8_image 20 = .ok (.getfield 83, 3) := by decide +kernel
theorem dX8_image_23 : decode cX8_image 23 = .ok (.ireturn, 1) := by decide +kernel
theorem dX8_undo_0 : decode cX8_undo 0 = .ok (.aload_n 0, 1) := by decide +kernel
theorem dX8_undo_1 : decode cX8_undo 1 = .ok (.getfield 24, 3) := by decide +kernel
theorem dX8_undo_4 : decode cX8_undo 4 = .ok (.ifCond .ne 6, 3) := by decide +kernel
theorem dX8_undo_7 : decode cX8_undo 7 = .ok (.bipush (-3), 2) := by decide +kernel
theorem dX8_undo_9 : decode cX8_undo 9 = .ok (.ireturn, 1) := by decide +kernel
theorem dX8_undo_10 : decode cX8_undo 10 = .ok (.aload_n 0, 1) := by decide +kernel
theorem dX8_undo_11 : decode cX8_undo 11 = .ok (.getfield 14, 3) := by decide +kernel
theorem dX8_undo_14 : decode cX8_undo 14 = .ok (.aload_n 0, 1) := by decide +kernel
theorem dX8_undo_15 : decode cX8_undo 15 = .ok (.getfield 21, 3) := by decide +kernel
theorem dX8_undo_18 : decode cX8_undo 18 = .ok (.invokevirtual 253, 3) := by decide +kernel
theorem dX8_undo_21 : decode cX8_undo 21 = .ok (.aload_n 0, 1) := by decide +kernel
theorem dX8_undo_22 : decode cX8_undo 22 = .ok (.iconst 0, 1) := by decide +kernel
theorem dX8_undo_23 : decode cX8_undo 23 = .ok (.putfield 40, 3) := by decide +kernel
theorem dX8_undo_26 : decode cX8_undo 26 = .ok (.aload_n 0, 1) := by decide +kernel
theorem dX8_undo_27 : decode cX8_undo 27 = .ok (.getfield 14, 3) := by decide +kernel
theorem dX8_undo_30 : decode cX8_undo 30 = .ok (.getfield 83, 3) := by decide +kernel
theorem dX8_undo_33 : decode cX8_undo 33 = .ok (.ireturn, 1) := by decide +kernel
theorem dX8_count_0 : decode cX8_count 0 = .ok (.iload_n 1, 1) := by decide +kernel
theorem dX8_count_1 : decode cX8_count 1 = .ok (.tableswitch 51 0 2 #[27, 35, 43], 27) := by decide +kernel
theorem dX8_count_28 : decode cX8_count 28 = .ok (.aload_n 0, 1) := by decide +kernel
theorem dX8_count_29 : decode cX8_count 29 = .ok (.getfield 14, 3) := by decide +kernel
theorem dX8_count_32 : decode cX8_count 32 = .ok (.getfield 266, 3) := by decide +kernel
theorem dX8_count_35 : decode cX8_count 35 = .ok (.ireturn, 1) := by decide +kernel
theorem dX8_count_36 : decode cX8_count 36 = .ok (.aload_n 0, 1) := by decide +kernel
theorem dX8_count_37 : decode cX8_count 37 = .ok (.getfield 14, 3) := by decide +kernel
theorem dX8_count_40 : decode cX8_count 40 = .ok (.getfield 278, 3) := by decide +kernel
theorem dX8_count_43 : decode cX8_count 43 = .ok (.ireturn, 1) := by decide +kernel
theorem dX8_count_44 : decode cX8_count 44 = .ok (.aload_n 0, 1) := by decide +kernel
theorem dX8_count_45 : decode cX8_count 45 = .ok (.getfield 46, 3) := by decide +kernel
theorem dX8_count_48 : decode cX8_count 48 = .ok (.getfield 290, 3) := by decide +kernel
theorem dX8_count_51 : decode cX8_count 51 = .ok (.ireturn, 1) := by decide +kernel
theorem dX8_count_52 : decode cX8_count 52 = .ok (.bipush (-2), 2) := by decide +kernel
theorem dX8_count_54 : decode cX8_count 54 = .ok (.ireturn, 1) := by decide +kernel
theorem dX8_tape_0 : decode cX8_tape 0 = .ok (.aload_n 0, 1) := by decide +kernel
theorem dX8_tape_1 : decode cX8_tape 1 = .ok (.iload_n 1, 1) := by decide +kernel
theorem dX8_tape_2 : decode cX8_tape 2 = .ok (.invokevirtual 334, 3) := by decide +kernel
theorem dX8_tape_5 : decode cX8_tape 5 = .ok (.astore 4, 2) := by decide +kernel
theorem dX8_tape_7 : decode cX8_tape 7 = .ok (.aload 4, 2) := by decide +kernel
theorem dX8_tape_9 : decode cX8_tape 9 = .ok (.ifnonnull 5, 3) := by decide +kernel
theorem dX8_tape_12 : decode cX8_tape 12 = .ok (.iconst (-1), 1) := by decide +kernel
theorem dX8_tape_13 : decode cX8_tape 13 = .ok (.ireturn, 1) := by decide +kernel
theorem dX8_tape_14 : decode cX8_tape 14 = .ok (.iload_n 2, 1) := by decide +kernel
theorem dX8_tape_15 : decode cX8_tape 15 = .ok (.iconst (-1), 1) := by decide +kernel
theorem dX8_tape_16 : decode cX8_tape 16 = .ok (.if_icmp .ne 12, 3) := by decide +kernel
theorem dX8_tape_19 : decode cX8_tape 19 = .ok (.aload 4, 2) := by decide +kernel
theorem dX8_tape_21 : decode cX8_tape 21 = .ok (.iconst (-1), 1) := by decide +kernel
theorem dX8_tape_22 : decode cX8_tape 22 = .ok (.iconst 0, 1) := by decide +kernel
theorem dX8_tape_23 : decode cX8_tape 23 = .ok (.invokevirtual 344, 3) := by decide +kernel
theorem dX8_tape_26 : decode cX8_tape 26 = .ok (.iconst 1, 1) := by decide +kernel
theorem dX8_tape_27 : decode cX8_tape 27 = .ok (.ireturn, 1) := by decide +kernel
theorem dX8_tape_28 : decode cX8_tape 28 = .ok (.iload_n 2, 1) := by decide +kernel
theorem dX8_tape_29 : decode cX8_tape 29 = .ok (.ifCond .lt 14, 3) := by decide +kernel
theorem dX8_tape_32 : decode cX8_tape 32 = .ok (.iload_n 2, 1) := by decide +kernel
theorem dX8_tape_33 : decode cX8_tape 33 = .ok (.iconst 4, 1) := by decide +kernel
theorem dX8_tape_34 : decode cX8_tape 34 = .ok (.if_icmp .gt 9, 3) := by decide +kernel
theorem dX8_tape_37 : decode cX8_tape 37 = .ok (.iload_n 3, 1) := by decide +kernel
theorem dX8_tape_38 : decode cX8_tape 38 = .ok (.bipush 60, 2) := by decide +kernel
theorem dX8_tape_40 : decode cX8_tape 40 = .ok (.if_icmp .le 6, 3) := by decide +kernel
theorem dX8_tape_43 : decode cX8_tape 43 = .ok (.bipush (-2), 2) := by decide +kernel
theorem dX8_tape_45 : decode cX8_tape 45 = .ok (.ireturn, 1) := by decide +kernel
theorem dX8_tape_46 : decode cX8_tape 46 = .ok (.iload_n 3, 1) := by decide +kernel
theorem dX8_tape_47 : decode cX8_tape 47 = .ok (.ifCond .ge 6, 3) := by decide +kernel
theorem dX8_tape_50 : decode cX8_tape 50 = .ok (.bipush (-14), 2) := by decide +kernel
theorem dX8_tape_52 : decode cX8_tape 52 = .ok (.ireturn, 1) := by decide +kernel
theorem dX8_tape_53 : decode cX8_tape 53 = .ok (.aload 4, 2) := by decide +kernel
theorem dX8_tape_55 : decode cX8_tape 55 = .ok (.iload_n 2, 1) := by decide +kernel
theorem dX8_tape_56 : decode cX8_tape 56 = .ok (.iload_n 3, 1) := by decide +kernel
theorem dX8_tape_57 : decode cX8_tape 57 = .ok (.invokevirtual 344, 3) := by decide +kernel
theorem dX8_tape_60 : decode cX8_tape 60 = .ok (.iconst 1, 1) := by decide +kernel
theorem dX8_tape_61 : decode cX8_tape 61 = .ok (.ireturn, 1) := by decide +kernel
theorem dX8_item_0 : decode cX8_item 0 = .ok (.aload_n 0, 1) := by decide +kernel
theorem dX8_item_1 : decode cX8_item 1 = .ok (.iload_n 1, 1) := by decide +kernel
theorem dX8_item_2 : decode cX8_item 2 = .ok (.invokevirtual 334, 3) := by decide +kernel
theorem dX8_item_5 : decode cX8_item 5 = .ok (.astore 5, 2) := by decide +kernel
theorem dX8_item_7 : decode cX8_item 7 = .ok (.aload 5, 2) := by decide +kernel
theorem dX8_item_9 : decode cX8_item 9 = .ok (.ifnonnull 5, 3) := by decide +kernel
theorem dX8_item_12 : decode cX8_item 12 = .ok (.iconst (-1), 1) := by decide +kernel
theorem dX8_item_13 : decode cX8_item 13 = .ok (.ireturn, 1) := by decide +kernel
theorem dX8_item_14 : decode cX8_item 14 = .ok (.aload 5, 2) := by decide +kernel
theorem dX8_item_16 : decode cX8_item 16 = .ok (.getfield 338, 3) := by decide +kernel
theorem dX8_item_19 : decode cX8_item 19 = .ok (.iconst (-1), 1) := by decide +kernel
theorem dX8_item_20 : decode cX8_item 20 = .ok (.if_icmp .ne 6, 3) := by decide +kernel
theorem dX8_item_23 : decode cX8_item 23 = .ok (.bipush (-11), 2) := by decide +kernel
theorem dX8_item_25 : decode cX8_item 25 = .ok (.ireturn, 1) := by decide +kernel
theorem dX8_item_26 : decode cX8_item 26 = .ok (.iload_n 2, 1) := by decide +kernel
theorem dX8_item_27 : decode cX8_item 27 = .ok (.ifCond .lt 12, 3) := by decide +kernel
theorem dX8_item_30 : decode cX8_item 30 = .ok (.iload_n 2, 1) := by decide +kernel
theorem dX8_item_31 : decode cX8_item 31 = .ok (.aload 5, 2) := by decide +kernel
theorem dX8_item_33 : decode cX8_item 33 = .ok (.getfield 340, 3) := by decide +kernel
theorem dX8_item_36 : decode cX8_item 36 = .ok (.if_icmp .lt 6, 3) := by decide +kernel
theorem dX8_item_39 : decode cX8_item 39 = .ok (.bipush (-13), 2) := by decide +kernel
theorem dX8_item_41 : decode cX8_item 41 = .ok (.ireturn, 1) := by decide +kernel
theorem dX8_item_42 : decode cX8_item 42 = .ok (.aload 5, 2) := by decide +kernel
theorem dX8_item_44 : decode cX8_item 44 = .ok (.getfield 341, 3) := by decide +kernel
theorem dX8_item_47 : decode cX8_item 47 = .ok (.iload_n 2, 1) := by decide +kernel
theorem dX8_item_48 : decode cX8_item 48 = .ok (.aload 5, 2) := by decide +kernel
theorem dX8_item_50 : decode cX8_item 50 = .ok (.lload_n 3, 1) := by decide +kernel
theorem dX8_item_51 : decode cX8_item 51 = .ok (.invokevirtual 347, 3) := by decide +kernel
theorem dX8_item_54 : decode cX8_item 54 = .ok (.lastore, 1) := by decide +kernel
theorem dX8_item_55 : decode cX8_item 55 = .ok (.iconst 1, 1) := by decide +kernel
theorem dX8_item_56 : decode cX8_item 56 = .ok (.ireturn, 1) := by decide +kernel
theorem dX8_peek_0 : decode cX8_peek 0 = .ok (.aload_n 0, 1) := by decide +kernel
theorem dX8_peek_1 : decode cX8_peek 1 = .ok (.iload_n 1, 1) := by decide +kernel
theorem dX8_peek_2 : decode cX8_peek 2 = .ok (.invokevirtual 334, 3) := by decide +kernel
theorem dX8_peek_5 : decode cX8_peek 5 = .ok (.astore_n 3, 1) := by decide +kernel
theorem dX8_peek_6 : decode cX8_peek 6 = .ok (.aload_n 3, 1) := by decide +kernel
theorem dX8_peek_7 : decode cX8_peek 7 = .ok (.ifnull 15, 3) := by decide +kernel
theorem dX8_peek_10 : decode cX8_peek 10 = .ok (.iload_n 2, 1) := by decide +kernel
theorem dX8_peek_11 : decode cX8_peek 11 = .ok (.ifCond .lt 11, 3) := by decide +kernel
theorem dX8_peek_14 : decode cX8_peek 14 = .ok (.iload_n 2, 1) := by decide +kernel
theorem dX8_peek_15 : decode cX8_peek 15 = .ok (.aload_n 3, 1) := by decide +kernel
theorem dX8_peek_16 : decode cX8_peek 16 = .ok (.getfield 340, 3) := by decide +kernel
theorem dX8_peek_19 : decode cX8_peek 19 = .ok (.if_icmp .lt 7, 3) := by decide +kernel
theorem dX8_peek_22 : decode cX8_peek 22 = .ok (.ldc2_w 199, 3) := by decide +kernel
theorem dX8_peek_25 : decode cX8_peek 25 = .ok (.lreturn, 1) := by decide +kernel
theorem dX8_peek_26 : decode cX8_peek 26 = .ok (.aload_n 3, 1) := by decide +kernel
theorem dX8_peek_27 : decode cX8_peek 27 = .ok (.getfield 341, 3) := by decide +kernel
theorem dX8_peek_30 : decode cX8_peek 30 = .ok (.iload_n 2, 1) := by decide +kernel
theorem dX8_peek_31 : decode cX8_peek 31 = .ok (.laload, 1) := by decide +kernel
theorem dX8_peek_32 : decode cX8_peek 32 = .ok (.lreturn, 1) := by decide +kernel
theorem dX8_shift_0 : decode cX8_shift 0 = .ok (.aload_n 0, 1) := by decide +kernel
theorem dX8_shift_1 : decode cX8_shift 1 = .ok (.iload_n 1, 1) := by decide +kernel
theorem dX8_shift_2 : decode cX8_shift 2 = .ok (.invokevirtual 334, 3) := by decide +kernel
theorem dX8_shift_5 : decode cX8_shift 5 = .ok (.astore 6, 2) := by decide +kernel
theorem dX8_shift_7 : decode cX8_shift 7 = .ok (.aload_n 0, 1) := by decide +kernel
theorem dX8_shift_8 : decode cX8_shift 8 = .ok (.iload_n 3, 1) := by decide +kernel
theorem dX8_shift_9 : decode cX8_shift 9 = .ok (.invokevirtual 334, 3) := by decide +kernel
theorem dX8_shift_12 : decode cX8_shift 12 = .ok (.astore 7, 2) := by decide +kernel
theorem dX8_shift_14 : decode cX8_shift 14 = .ok (.aload 6, 2) := by decide +kernel
theorem dX8_shift_16 : decode cX8_shift 16 = .ok (.ifnull 8, 3) := by decide +kernel
theorem dX8_shift_19 : decode cX8_shift 19 = .ok (.aload 7, 2) := by decide +kernel
theorem dX8_shift_21 : decode cX8_shift 21 = .ok (.ifnonnull 5, 3) := by decide +kernel
theorem dX8_shift_24 : decode cX8_shift 24 = .ok (.iconst (-1), 1) := by decide +kernel
theorem dX8_shift_25 : decode cX8_shift 25 = .ok (.ireturn, 1) := by decide +kernel
theorem dX8_shift_26 : decode cX8_shift 26 = .ok (.aload 6, 2) := by decide +kernel
theorem dX8_shift_28 : decode cX8_shift 28 = .ok (.getfield 338, 3) := by decide +kernel
theorem dX8_shift_31 : decode cX8_shift 31 = .ok (.iconst (-1), 1) := by decide +kernel
theorem dX8_shift_32 : decode cX8_shift 32 = .ok (.if_icmp .eq 12, 3) := by decide +kernel
theorem dX8_shift_35 : decode cX8_shift 35 = .ok (.aload 7, 2) := by decide +kernel
theorem dX8_shift_37 : decode cX8_shift 37 = .ok (.getfield 338, 3) := by decide +kernel
theorem dX8_shift_40 : decode cX8_shift 40 = .ok (.iconst (-1), 1) := by decide +kernel
theorem dX8_shift_41 : decode cX8_shift 41 = .ok (.if_icmp .ne 6, 3) := by decide +kernel
theorem dX8_shift_44 : decode cX8_shift 44 = .ok (.bipush (-11), 2) := by decide +kernel
theorem dX8_shift_46 : decode cX8_shift 46 = .ok (.ireturn, 1) := by decide +kernel
theorem dX8_shift_47 : decode cX8_shift 47 = .ok (.aload 6, 2) := by decide +kernel
theorem dX8_shift_49 : decode cX8_shift 49 = .ok (.getfield 338, 3) := by decide +kernel
theorem dX8_shift_52 : decode cX8_shift 52 = .ok (.aload 7, 2) := by decide +kernel
theorem dX8_shift_54 : decode cX8_shift 54 = .ok (.getfield 338, 3) := by decide +kernel
theorem dX8_shift_57 : decode cX8_shift 57 = .ok (.if_icmp .eq 6, 3) := by decide +kernel
theorem dX8_shift_60 : decode cX8_shift 60 = .ok (.bipush (-12), 2) := by decide +kernel
theorem dX8_shift_62 : decode cX8_shift 62 = .ok (.ireturn, 1) := by decide +kernel
theorem dX8_shift_63 : decode cX8_shift 63 = .ok (.iload 5, 2) := by decide +kernel
theorem dX8_shift_65 : decode cX8_shift 65 = .ok (.ifCond .lt 26, 3) := by decide +kernel
theorem dX8_shift_68 : decode cX8_shift 68 = .ok (.aload 6, 2) := by decide +kernel
theorem dX8_shift_70 : decode cX8_shift 70 = .ok (.iload_n 2, 1) := by decide +kernel
theorem dX8_shift_71 : decode cX8_shift 71 = .ok (.iload 5, 2) := by decide +kernel
theorem dX8_shift_73 : decode cX8_shift 73 = .ok (.invokevirtual 351, 3) := by decide +kernel
theorem dX8_shift_76 : decode cX8_shift 76 = .ok (.ifCond .eq 15, 3) := by decide +kernel
theorem dX8_shift_79 : decode cX8_shift 79 = .ok (.aload 7, 2) := by decide +kernel
theorem dX8_shift_81 : decode cX8_shift 81 = .ok (.iload 4, 2) := by decide +kernel
theorem dX8_shift_83 : decode cX8_shift 83 = .ok (.iload 5, 2) := by decide +kernel
theorem dX8_shift_85 : decode cX8_shift 85 = .ok (.invokevirtual 351, 3) := by decide +kernel
theorem dX8_shift_88 : decode cX8_shift 88 = .ok (.ifCond .ne 6, 3) := by decide +kernel
theorem dX8_shift_91 : decode cX8_shift 91 = .ok (.bipush (-13), 2) := by decide +kernel
theorem dX8_shift_93 : decode cX8_shift 93 = .ok (.ireturn, 1) := by decide +kernel
theorem dX8_shift_94 : decode cX8_shift 94 = .ok (.aload 6, 2) := by decide +kernel
theorem dX8_shift_96 : decode cX8_shift 96 = .ok (.getfield 341, 3) := by decide +kernel
theorem dX8_shift_99 : decode cX8_shift 99 = .ok (.iload_n 2, 1) := by decide +kernel
theorem dX8_shift_100 : decode cX8_shift 100 = .ok (.aload 7, 2) := by decide +kernel
theorem dX8_shift_102 : decode cX8_shift 102 = .ok (.getfield 341, 3) := by decide +kernel
theorem dX8_shift_105 : decode cX8_shift 105 = .ok (.iload 4, 2) := by decide +kernel
theorem dX8_shift_107 : decode cX8_shift 107 = .ok (.iload 5, 2) := by decide +kernel
theorem dX8_shift_109 : decode cX8_shift 109 = .ok (.invokestatic 354, 3) := by decide +kernel
theorem dX8_shift_112 : decode cX8_shift 112 = .ok (.iload 5, 2) := by decide +kernel
theorem dX8_shift_114 : decode cX8_shift 114 = .ok (.ireturn, 1) := by decide +kernel
theorem dX9_init_0 : decode cX9_init 0 = .ok (.aload_n 0, 1) := by decide +kernel
theorem dX9_init_1 : decode cX9_init 1 = .ok (.invokespecial 3, 3) := by decide +kernel
theorem dX9_init_4 : decode cX9_init 4 = .ok (.aload_n 0, 1) := by decide +kernel
theorem dX9_init_5 : decode cX9_init 5 = .ok (.bipush 8, 2) := by decide +kernel
theorem dX9_init_7 : decode cX9_init 7 = .ok (.newarray .boolean, 2) := by decide +kernel
theorem dX9_init_9 : decode cX9_init 9 = .ok (.putfield 11, 3) := by decide +kernel
theorem dX9_init_12 : decode cX9_init 12 = .ok (.aload_n 0, 1) := by decide +kernel
theorem dX9_init_13 : decode cX9_init 13 = .ok (.bipush 8, 2) := by decide +kernel
theorem dX9_init_15 : decode cX9_init 15 = .ok (.newarray .int, 2) := by decide +kernel
theorem dX9_init_17 : decode cX9_init 17 = .ok (.putfield 15, 3) := by decide +kernel
theorem dX9_init_20 : decode cX9_init 20 = .ok (.aload_n 0, 1) := by decide +kernel
theorem dX9_init_21 : decode cX9_init 21 = .ok (.bipush 25, 2) := by decide +kernel
theorem dX9_init_23 : decode cX9_init 23 = .ok (.newarray .int, 2) := by decide +kernel
theorem dX9_init_25 : decode cX9_init 25 = .ok (.putfield 19, 3) := by decide +kernel
theorem dX9_init_28 : decode cX9_init 28 = .ok (.aload_n 0, 1) := by decide +kernel
theorem dX9_init_29 : decode cX9_init 29 = .ok (.bipush 25, 2) := by decide +kernel
theorem dX9_init_31 : decode cX9_init 31 = .ok (.newarray .int, 2) := by decide +kernel
theorem dX9_init_33 : decode cX9_init 33 = .ok (.putfield 22, 3) := by decide +kernel
theorem dX9_init_36 : decode cX9_init 36 = .ok (.aload_n 0, 1) := by decide +kernel
theorem dX9_init_37 : decode cX9_init 37 = .ok (.iconst 1, 1) := by decide +kernel
theorem dX9_init_38 : decode cX9_init 38 = .ok (.putfield 25, 3) := by decide +kernel
theorem dX9_init_41 : decode cX9_init 41 = .ok (.aload_n 0, 1) := by decide +kernel
theorem dX9_init_42 : decode cX9_init 42 = .ok (.sipush 1000, 3) := by decide +kernel
theorem dX9_init_45 : decode cX9_init 45 = .ok (.putfield 29, 3) := by decide +kernel
theorem dX9_init_48 : decode cX9_init 48 = .ok (.aload_n 0, 1) := by decide +kernel
theorem dX9_init_49 : decode cX9_init 49 = .ok (.bipush 20, 2) := by decide +kernel
theorem dX9_init_51 : decode cX9_init 51 = .ok (.putfield 32, 3) := by decide +kernel
theorem dX9_init_54 : decode cX9_init 54 = .ok (.aload_n 0, 1) := by decide +kernel
theorem dX9_init_55 : decode cX9_init 55 = .ok (.iconst 5, 1) := by decide +kernel
theorem dX9_init_56 : decode cX9_init 56 = .ok (.newarray .int, 2) := by decide +kernel
theorem dX9_init_58 : decode cX9_init 58 = .ok (.putfield 35, 3) := by decide +kernel
theorem dX9_init_61 : decode cX9_init 61 = .ok (.aload_n 0, 1) := by decide +kernel
theorem dX9_init_62 : decode cX9_init 62 = .ok (.bipush 8, 2) := by decide +kernel
theorem dX9_init_64 : decode cX9_init 64 = .ok (.newarray .int, 2) := by decide +kernel
theorem dX9_init_66 : decode cX9_init 66 = .ok (.putfield 38, 3) := by decide +kernel
theorem dX9_init_69 : decode cX9_init 69 = .ok (.aload_n 0, 1) := by decide +kernel
theorem dX9_init_70 : decode cX9_init 70 = .ok (.bipush 8, 2) := by decide +kernel
theorem dX9_init_72 : decode cX9_init 72 = .ok (.newarray .int, 2) := by decide +kernel
theorem dX9_init_74 : decode cX9_init 74 = .ok (.putfield 41, 3) := by decide +kernel
theorem dX9_init_77 : decode cX9_init 77 = .ok (.aload_n 0, 1) := by decide +kernel
theorem dX9_init_78 : decode cX9_init 78 = .ok (.iconst 5, 1) := by decide +kernel
theorem dX9_init_79 : decode cX9_init 79 = .ok (.newarray .boolean, 2) := by decide +kernel
theorem dX9_init_81 : decode cX9_init 81 = .ok (.putfield 44, 3) := by decide +kernel
theorem dX9_init_84 : decode cX9_init 84 = .ok (.aload_n 0, 1) := by decide +kernel
theorem dX9_init_85 : decode cX9_init 85 = .ok (.iconst 3, 1) := by decide +kernel
theorem dX9_init_86 : decode cX9_init 86 = .ok (.newarray .int, 2) := by decide +kernel
theorem dX9_init_88 : decode cX9_init 88 = .ok (.putfield 47, 3) := by decide +kernel
theorem dX9_init_91 : decode cX9_init 91 = .ok (.aload_n 0, 1) := by decide +kernel
theorem dX9_init_92 : decode cX9_init 92 = .ok (.iconst 3, 1) := by decide +kernel
theorem dX9_init_93 : decode cX9_init 93 = .ok (.newarray .int, 2) := by decide +kernel
theorem dX9_init_95 : decode cX9_init 95 = .ok (.putfield 50, 3) := by decide +kernel
theorem dX9_init_98 : decode cX9_init 98 = .ok (.aload_n 0, 1) := by decide +kernel
theorem dX9_init_99 : decode cX9_init 99 = .ok (.bipush 25, 2) := by decide +kernel
theorem dX9_init_101 : decode cX9_init 101 = .ok (.newarray .int, 2) := by decide +kernel
theorem dX9_init_103 : decode cX9_init 103 = .ok (.putfield 53, 3) := by decide +kernel
theorem dX9_init_106 : decode cX9_init 106 = .ok (.aload_n 0, 1) := by decide +kernel
theorem dX9_init_107 : decode cX9_init 107 = .ok (.bipush 25, 2) := by decide +kernel
theorem dX9_init_109 : decode cX9_init 109 = .ok (.newarray .int, 2) := by decide +kernel
theorem dX9_init_111 : decode cX9_init 111 = .ok (.putfield 56, 3) := by decide +kernel
theorem dX9_init_114 : decode cX9_init 114 = .ok (.aload_n 0, 1) := by decide +kernel
theorem dX9_init_115 : decode cX9_init 115 = .ok (.bipush 25, 2) := by decide +kernel
theorem dX9_init_117 : decode cX9_init 117 = .ok (.newarray .int, 2) := by decide +kernel
theorem dX9_init_119 : decode cX9_init 119 = .ok (.putfield 59, 3) := by decide +kernel
theorem dX9_init_122 : decode cX9_init 122 = .ok (.aload_n 0, 1) := by decide +kernel
theorem dX9_init_123 : decode cX9_init 123 = .ok (.bipush 8, 2) := by decide +kernel
theorem dX9_init_125 : decode cX9_init 125 = .ok (.newarray .int, 2) := by decide +kernel
theorem dX9_init_127 : decode cX9_init 127 = .ok (.putfield 62, 3) := by decide +kernel
theorem dX9_init_130 : decode cX9_init 130 = .ok (.aload_n 0, 1) := by decide +kernel
theorem dX9_init_131 : decode cX9_init 131 = .ok (.bipush 8, 2) := by decide +kernel
theorem dX9_init_133 : decode cX9_init 133 = .ok (.newarray .int, 2) := by decide +kernel
theorem dX9_init_135 : decode cX9_init 135 = .ok (.putfield 65, 3) := by decide +kernel
theorem dX9_init_138 : decode cX9_init 138 = .ok (.aload_n 0, 1) := by decide +kernel
theorem dX9_init_139 : decode cX9_init 139 = .ok (.bipush 8, 2) := by decide +kernel
theorem dX9_init_141 : decode cX9_init 141 = .ok (.newarray .int, 2) := by decide +kernel
theorem dX9_init_143 : decode cX9_init 143 = .ok (.putfield 68, 3) := by decide +kernel
theorem dX9_init_146 : decode cX9_init 146 = .ok (.aload_n 0, 1) := by decide +kernel
theorem dX9_init_147 : decode cX9_init 147 = .ok (.bipush 8, 2) := by decide +kernel
theorem dX9_init_149 : decode cX9_init 149 = .ok (.newarray .int, 2) := by decide +kernel
theorem dX9_init_151 : decode cX9_init 151 = .ok (.putfield 71, 3) := by decide +kernel
theorem dX9_init_154 : decode cX9_init 154 = .ok (.aload_n 0, 1) := by decide +kernel
theorem dX9_init_155 : decode cX9_init 155 = .ok (.bipush 8, 2) := by decide +kernel
theorem dX9_init_157 : decode cX9_init 157 = .ok (.newarray .long, 2) := by decide +kernel
theorem dX9_init_159 : decode cX9_init 159 = .ok (.putfield 74, 3) := by decide +kernel
theorem dX9_init_162 : decode cX9_init 162 = .ok (.aload_n 0, 1) := by decide +kernel
theorem dX9_init_163 : decode cX9_init 163 = .ok (.bipush 72, 2) := by decide +kernel
theorem dX9_init_165 : decode cX9_init 165 = .ok (.newarray .long, 2) := by decide +kernel
theorem dX9_init_167 : decode cX9_init 167 = .ok (.putfield 78, 3) := by decide +kernel
theorem dX9_init_170 : decode cX9_init 170 = .ok (.aload_n 0, 1) := by decide +kernel
theorem dX9_init_171 : decode cX9_init 171 = .ok (.bipush 9, 2) := by decide +kernel
theorem dX9_init_173 : decode cX9_init 173 = .ok (.newarray .long, 2) := by decide +kernel
theorem dX9_init_175 : decode cX9_init 175 = .ok (.putfield 81, 3) := by decide +kernel
theorem dX9_init_178 : decode cX9_init 178 = .ok (.aload_n 0, 1) := by decide +kernel
theorem dX9_init_179 : decode cX9_init 179 = .ok (.bipush 9, 2) := by decide +kernel
theorem dX9_init_181 : decode cX9_init 181 = .ok (.newarray .long, 2) := by decide +kernel
theorem dX9_init_183 : decode cX9_init 183 = .ok (.putfield 84, 3) := by decide +kernel
theorem dX9_init_186 : decode cX9_init 186 = .ok (.aload_n 0, 1) := by decide +kernel
theorem dX9_init_187 : decode cX9_init 187 = .ok (.bipush 9, 2) := by decide +kernel
theorem dX9_init_189 : decode cX9_init 189 = .ok (.newarray .long, 2) := by decide +kernel
theorem dX9_init_191 : decode cX9_init 191 = .ok (.putfield 87, 3) := by decide +kernel
theorem dX9_init_194 : decode cX9_init 194 = .ok (.aload_n 0, 1) := by decide +kernel
theorem dX9_init_195 : decode cX9_init 195 = .ok (.bipush 9, 2) := by decide +kernel
theorem dX9_init_197 : decode cX9_init 197 = .ok (.newarray .long, 2) := by decide +kernel
theorem dX9_init_199 : decode cX9_init 199 = .ok (.putfield 90, 3) := by decide +kernel
theorem dX9_init_202 : decode cX9_init 202 = .ok (.aload_n 0, 1) := by decide +kernel
theorem dX9_init_203 : decode cX9_init 203 = .ok (.bipush 72, 2) := by decide +kernel
theorem dX9_init_205 : decode cX9_init 205 = .ok (.newarray .int, 2) := by decide +kernel
theorem dX9_init_207 : decode cX9_init 207 = .ok (.putfield 93, 3) := by decide +kernel
theorem dX9_init_210 : decode cX9_init 210 = .ok (.aload_n 0, 1) := by decide +kernel
theorem dX9_init_211 : decode cX9_init 211 = .ok (.bipush 9, 2) := by decide +kernel
theorem dX9_init_213 : decode cX9_init 213 = .ok (.newarray .int, 2) := by decide +kernel
theorem dX9_init_215 : decode cX9_init 215 = .ok (.putfield 96, 3) := by decide +kernel
theorem dX9_init_218 : decode cX9_init 218 = .ok (.aload_n 0, 1) := by decide +kernel
theorem dX9_init_219 : decode cX9_init 219 = .ok (.bipush 9, 2) := by decide +kernel
theorem dX9_init_221 : decode cX9_init 221 = .ok (.newarray .int, 2) := by decide +kernel
theorem dX9_init_223 : decode cX9_init 223 = .ok (.putfield 99, 3) := by decide +kernel
theorem dX9_init_226 : decode cX9_init 226 = .ok (.aload_n 0, 1) := by decide +kernel
theorem dX9_init_227 : decode cX9_init 227 = .ok (.bipush 9, 2) := by decide +kernel
theorem dX9_init_229 : decode cX9_init 229 = .ok (.newarray .int, 2) := by decide +kernel
theorem dX9_init_231 : decode cX9_init 231 = .ok (.putfield 102, 3) := by decide +kernel
theorem dX9_init_234 : decode cX9_init 234 = .ok (.aload_n 0, 1) := by decide +kernel
theorem dX9_init_235 : decode cX9_init 235 = .ok (.bipush 8, 2) := by decide +kernel
theorem dX9_init_237 : decode cX9_init 237 = .ok (.newarray .int, 2) := by decide +kernel
theorem dX9_init_239 : decode cX9_init 239 = .ok (.putfield 105, 3) := by decide +kernel
theorem dX9_init_242 : decode cX9_init 242 = .ok (.aload_n 0, 1) := by decide +kernel
theorem dX9_init_243 : decode cX9_init 243 = .ok (.bipush 8, 2) := by decide +kernel
theorem dX9_init_245 : decode cX9_init 245 = .ok (.newarray .boolean, 2) := by decide +kernel
theorem dX9_init_247 : decode cX9_init 247 = .ok (.putfield 108, 3) := by decide +kernel
theorem dX9_init_250 : decode cX9_init 250 = .ok (.aload_n 0, 1) := by decide +kernel
theorem dX9_init_251 : decode cX9_init 251 = .ok (.bipush 25, 2) := by decide +kernel
theorem dX9_init_253 : decode cX9_init 253 = .ok (.newarray .int, 2) := by decide +kernel
theorem dX9_init_255 : decode cX9_init 255 = .ok (.putfield 111, 3) := by decide +kernel
theorem dX9_init_258 : decode cX9_init 258 = .ok (.aload_n 0, 1) := by decide +kernel
theorem dX9_init_259 : decode cX9_init 259 = .ok (.bipush 100, 2) := by decide +kernel
theorem dX9_init_261 : decode cX9_init 261 = .ok (.newarray .int, 2) := by decide +kernel
theorem dX9_init_263 : decode cX9_init 263 = .ok (.putfield 114, 3) := by decide +kernel
theorem dX9_init_266 : decode cX9_init 266 = .ok (.aload_n 0, 1) := by decide +kernel
theorem dX9_init_267 : decode cX9_init 267 = .ok (.bipush 12, 2) := by decide +kernel
theorem dX9_init_269 : decode cX9_init 269 = .ok (.newarray .int, 2) := by decide +kernel
theorem dX9_init_271 : decode cX9_init 271 = .ok (.putfield 117, 3) := by decide +kernel
theorem dX9_init_274 : decode cX9_init 274 = .ok (.aload_n 0, 1) := by decide +kernel
theorem dX9_init_275 : decode cX9_init 275 = .ok (.bipush 12, 2) := by decide +kernel
theorem dX9_init_277 : decode cX9_init 277 = .ok (.newarray .int, 2) := by decide +kernel
theorem dX9_init_279 : decode cX9_init 279 = .ok (.putfield 120, 3) := by decide +kernel
theorem dX9_init_282 : decode cX9_init 282 = .ok (.aload_n 0, 1) := by decide +kernel
theorem dX9_init_283 : decode cX9_init 283 = .ok (.bipush 12, 2) := by decide +kernel
theorem dX9_init_285 : decode cX9_init 285 = .ok (.newarray .int, 2) := by decide +kernel
theorem dX9_init_287 : decode cX9_init 287 = .ok (.putfield 123, 3) := by decide +kernel
theorem dX9_init_290 : decode cX9_init 290 = .ok (.aload_n 0, 1) := by decide +kernel
theorem dX9_init_291 : decode cX9_init 291 = .ok (.bipush 7, 2) := by decide +kernel
theorem dX9_init_293 : decode cX9_init 293 = .ok (.newarray .int, 2) := by decide +kernel
theorem dX9_init_295 : decode cX9_init 295 = .ok (.putfield 126, 3) := by decide +kernel
theorem dX9_init_298 : decode cX9_init 298 = .ok (.aload_n 0, 1) := by decide +kernel
theorem dX9_init_299 : decode cX9_init 299 = .ok (.bipush 8, 2) := by decide +kernel
theorem dX9_init_301 : decode cX9_init 301 = .ok (.newarray .int, 2) := by decide +kernel
theorem dX9_init_303 : decode cX9_init 303 = .ok (.putfield 129, 3) := by decide +kernel
theorem dX9_init_306 : decode cX9_init 306 = .ok (.aload_n 0, 1) := by decide +kernel
theorem dX9_init_307 : decode cX9_init 307 = .ok (.bipush 25, 2) := by decide +kernel
theorem dX9_init_309 : decode cX9_init 309 = .ok (.newarray .int, 2) := by decide +kernel
theorem dX9_init_311 : decode cX9_init 311 = .ok (.putfield 132, 3) := by decide +kernel
theorem dX9_init_314 : decode cX9_init 314 = .ok (.aload_n 0, 1) := by decide +kernel
theorem dX9_init_315 : decode cX9_init 315 = .ok (.bipush 25, 2) := by decide +kernel
theorem dX9_init_317 : decode cX9_init 317 = .ok (.newarray .int, 2) := by decide +kernel
theorem dX9_init_319 : decode cX9_init 319 = .ok (.putfield 135, 3) := by decide +kernel
theorem dX9_init_322 : decode cX9_init 322 = .ok (.aload_n 0, 1) := by decide +kernel
theorem dX9_init_323 : decode cX9_init 323 = .ok (.iconst 5, 1) := by decide +kernel
theorem dX9_init_324 : decode cX9_init 324 = .ok (.newarray .int, 2) := by decide +kernel
theorem dX9_init_326 : decode cX9_init 326 = .ok (.putfield 138, 3) := by decide +kernel
theorem dX9_init_329 : decode cX9_init 329 = .ok (.aload_n 0, 1) := by decide +kernel
theorem dX9_init_330 : decode cX9_init 330 = .ok (.bipush 8, 2) := by decide +kernel
theorem dX9_init_332 : decode cX9_init 332 = .ok (.newarray .int, 2) := by decide +kernel
theorem dX9_init_334 : decode cX9_init 334 = .ok (.putfield 141, 3) := by decide +kernel
theorem dX9_init_337 : decode cX9_init 337 = .ok (.aload_n 0, 1) := by decide +kernel
theorem dX9_init_338 : decode cX9_init 338 = .ok (.bipush 8, 2) := by decide +kernel
theorem dX9_init_340 : decode cX9_init 340 = .ok (.newarray .int, 2) := by decide +kernel
theorem dX9_init_342 : decode cX9_init 342 = .ok (.putfield 144, 3) := by decide +kernel
theorem dX9_init_345 : decode cX9_init 345 = .ok (.aload_n 0, 1) := by decide +kernel
theorem dX9_init_346 : decode cX9_init 346 = .ok (.bipush 8, 2) := by decide +kernel
theorem dX9_init_348 : decode cX9_init 348 = .ok (.newarray .boolean, 2) := by decide +kernel
theorem dX9_init_350 : decode cX9_init 350 = .ok (.putfield 147, 3) := by decide +kernel
theorem dX9_init_353 : decode cX9_init 353 = .ok (.aload_n 0, 1) := by decide +kernel
theorem dX9_init_354 : decode cX9_init 354 = .ok (.iconst 5, 1) := by decide +kernel
theorem dX9_init_355 : decode cX9_init 355 = .ok (.newarray .boolean, 2) := by decide +kernel
theorem dX9_init_357 : decode cX9_init 357 = .ok (.putfield 150, 3) := by decide +kernel
theorem dX9_init_360 : decode cX9_init 360 = .ok (.aload_n 0, 1) := by decide +kernel
theorem dX9_init_361 : decode cX9_init 361 = .ok (.bipush 6, 2) := by decide +kernel
theorem dX9_init_363 : decode cX9_init 363 = .ok (.newarray .int, 2) := by decide +kernel
theorem dX9_init_365 : decode cX9_init 365 = .ok (.dup, 1) := by decide +kernel
theorem dX9_init_366 : decode cX9_init 366 = .ok (.iconst 0, 1) := by decide +kernel
theorem dX9_init_367 : decode cX9_init 367 = .ok (.iconst (-1), 1) := by decide +kernel
theorem dX9_init_368 : decode cX9_init 368 = .ok (.iastore, 1) := by decide +kernel
theorem dX9_init_369 : decode cX9_init 369 = .ok (.dup, 1) := by decide +kernel
theorem dX9_init_370 : decode cX9_init 370 = .ok (.iconst 1, 1) := by decide +kernel
theorem dX9_init_371 : decode cX9_init 371 = .ok (.iconst (-1), 1) := by decide +kernel
theorem dX9_init_372 : decode cX9_init 372 = .ok (.iastore, 1) := by decide +kernel
theorem dX9_init_373 : decode cX9_init 373 = .ok (.dup, 1) := by decide +kernel
theorem dX9_init_374 : decode cX9_init 374 = .ok (.iconst 2, 1) := by decide +kernel
theorem dX9_init_375 : decode cX9_init 375 = .ok (.iconst (-1), 1) := by decide +kernel
theorem dX9_init_376 : decode cX9_init 376 = .ok (.iastore, 1) := by decide +kernel
theorem dX9_init_377 : decode cX9_init 377 = .ok (.dup, 1) := by decide +kernel
theorem dX9_init_378 : decode cX9_init 378 = .ok (.iconst 3, 1) := by decide +kernel
theorem dX9_init_379 : decode cX9_init 379 = .ok (.iconst (-1), 1) := by decide +kernel
theorem dX9_init_380 : decode cX9_init 380 = .ok (.iastore, 1) := by decide +kernel
theorem dX9_init_381 : decode cX9_init 381 = .ok (.dup, 1) := by decide +kernel
theorem dX9_init_382 : decode cX9_init 382 = .ok (.iconst 4, 1) := by decide +kernel
theorem dX9_init_383 : decode cX9_init 383 = .ok (.iconst (-1), 1) := by decide +kernel
theorem dX9_init_384 : decode cX9_init 384 = .ok (.iastore, 1) := by decide +kernel
theorem dX9_init_385 : decode cX9_init 385 = .ok (.dup, 1) := by decide +kernel
theorem dX9_init_386 : decode cX9_init 386 = .ok (.iconst 5, 1) := by decide +kernel
theorem dX9_init_387 : decode cX9_init 387 = .ok (.iconst (-1), 1) := by decide +kernel
theorem dX9_init_388 : decode cX9_init 388 = .ok (.iastore, 1) := by decide +kernel
theorem dX9_init_389 : decode cX9_init 389 = .ok (.putfield 153, 3) := by decide +kernel
theorem dX9_init_392 : decode cX9_init 392 = .ok (.aload_n 0, 1) := by decide +kernel
theorem dX9_init_393 : decode cX9_init 393 = .ok (.bipush 6, 2) := by decide +kernel
theorem dX9_init_395 : decode cX9_init 395 = .ok (.newarray .int, 2) := by decide +kernel
theorem dX9_init_397 : decode cX9_init 397 = .ok (.putfield 156, 3) := by decide +kernel
theorem dX9_init_400 : decode cX9_init 400 = .ok (.aload_n 0, 1) := by decide +kernel
theorem dX9_init_401 : decode cX9_init 401 = .ok (.bipush 6, 2) := by decide +kernel
theorem dX9_init_403 : decode cX9_init 403 = .ok (.bipush 60, 2) := by decide +kernel
theorem dX9_init_405 : decode cX9_init 405 = .ok (.multianewarray 159 2, 4) := by decide +kernel
theorem dX9_init_409 : decode cX9_init 409 = .ok (.putfield 161, 3) := by decide +kernel
theorem dX9_init_412 : decode cX9_init 412 = .ok (.aload_n 0, 1) := by decide +kernel
theorem dX9_init_413 : decode cX9_init 413 = .ok (.bipush 60, 2) := by decide +kernel
theorem dX9_init_415 : decode cX9_init 415 = .ok (.newarray .long, 2) := by decide +kernel
theorem dX9_init_417 : decode cX9_init 417 = .ok (.putfield 164, 3) := by decide +kernel
theorem dX9_init_420 : decode cX9_init 420 = .ok (.return_, 1) := by decide +kernel
theorem dX9_in_0 : decode cX9_in 0 = .ok (.lload_n 0, 1) := by decide +kernel
theorem dX9_in_1 : decode cX9_in 1 = .ok (.lload_n 2, 1) := by decide +kernel
theorem dX9_in_2 : decode cX9_in 2 = .ok (.lcmp, 1) := by decide +kernel
theorem dX9_in_3 : decode cX9_in 3 = .ok (.ifCond .lt 14, 3) := by decide +kernel
theorem dX9_in_6 : decode cX9_in 6 = .ok (.lload_n 0, 1) := by decide +kernel
theorem dX9_in_7 : decode cX9_in 7 = .ok (.lload 4, 2) := by decide +kernel
theorem dX9_in_9 : decode cX9_in 9 = .ok (.lcmp, 1) := by decide +kernel
theorem dX9_in_10 : decode cX9_in 10 = .ok (.ifCond .gt 7, 3) := by decide +kernel
theorem dX9_in_13 : decode cX9_in 13 = .ok (.iconst 1, 1) := by decide +kernel
theorem dX9_in_14 : decode cX9_in 14 = .ok (.goto 4, 3) := by decide +kernel
theorem dX9_in_17 : decode cX9_in 17 = .ok (.iconst 0, 1) := by decide +kernel
theorem dX9_in_18 : decode cX9_in 18 = .ok (.ireturn, 1) := by decide +kernel
theorem dX9_isOne_0 : decode cX9_isOne 0 = .ok (.iload_n 1, 1) := by decide +kernel
theorem dX9_isOne_1 : decode cX9_isOne 1 = .ok (.i2l, 1) := by decide +kernel
theorem dX9_isOne_2 : decode cX9_isOne 2 = .ok (.lconst 0, 1) := by decide +kernel
theorem dX9_isOne_3 : decode cX9_isOne 3 = .ok (.aload_n 0, 1) := by decide +kernel
theorem dX9_isOne_4 : decode cX9_isOne 4 = .ok (.getfield 167, 3) := by decide +kernel
theorem dX9_isOne_7 : decode cX9_isOne 7 = .ok (.iconst 1, 1) := by decide +kernel
theorem dX9_isOne_8 : decode cX9_isOne 8 = .ok (.isub, 1) := by decide +kernel
theorem dX9_isOne_9 : decode cX9_isOne 9 = .ok (.i2l, 1) := by decide +kernel
theorem dX9_isOne_10 : decode cX9_isOne 10 = .ok (.invokestatic 170, 3) := by decide +kernel
theorem dX9_isOne_13 : decode cX9_isOne 13 = .ok (.ireturn, 1) := by decide +kernel
theorem dX9_isBallot_0 : decode cX9_isBallot 0 = .ok (.iload_n 1, 1) := by decide +kernel
theorem dX9_isBallot_1 : decode cX9_isBallot 1 = .ok (.i2l, 1) := by decide +kernel
theorem dX9_isBallot_2 : decode cX9_isBallot 2 = .ok (.lconst 0, 1) := by decide +kernel
theorem dX9_isBallot_3 : decode cX9_isBallot 3 = .ok (.aload_n 0, 1) := by decide +kernel
theorem dX9_isBallot_4 : decode cX9_isBallot 4 = .ok (.getfield 174, 3) := by decide +kernel
theorem dX9_isBallot_7 : decode cX9_isBallot 7 = .ok (.iconst 1, 1) := by decide +kernel
theorem dX9_isBallot_8 : decode cX9_isBallot 8 = .ok (.isub, 1) := by decide +kernel
theorem dX9_isBallot_9 : decode cX9_isBallot 9 = .ok (.i2l, 1) := by decide +kernel
theorem dX9_isBallot_10 : decode cX9_isBallot 10 = .ok (.invokestatic 170, 3) := by decide +kernel
theorem dX9_isBallot_13 : decode cX9_isBallot 13 = .ok (.ireturn, 1) := by decide +kernel
theorem dX9_has_0 : decode cX9_has 0 = .ok (.iload_n 0, 1) := by decide +kernel
theorem dX9_has_1 : decode cX9_has 1 = .ok (.iload_n 1, 1) := by decide +kernel
theorem dX9_has_2 : decode cX9_has 2 = .ok (.ishr, 1) := by decide +kernel
theorem dX9_has_3 : decode cX9_has 3 = .ok (.iconst 1, 1) := by decide +kernel
theorem dX9_has_4 : decode cX9_has 4 = .ok (.iand, 1) := by decide +kernel
theorem dX9_has_5 : decode cX9_has 5 = .ok (.iconst 1, 1) := by decide +kernel
theorem dX9_has_6 : decode cX9_has 6 = .ok (.if_icmp .ne 7, 3) := by decide +kernel
theorem dX9_has_9 : decode cX9_has 9 = .ok (.iconst 1, 1) := by decide +kernel
theorem dX9_has_10 : decode cX9_has 10 = .ok (.goto 4, 3) := by decide +kernel
theorem dX9_has_13 : decode cX9_has 13 = .ok (.iconst 0, 1) := by decide +kernel
theorem dX9_has_14 : decode cX9_has 14 = .ok (.ireturn, 1) := by decide +kernel
theorem dX9_lengthOf_0 : decode cX9_lengthOf 0 = .ok (.iconst 0, 1) := by decide +kernel
theorem dX9_lengthOf_1 : decode cX9_lengthOf 1 = .ok (.istore_n 1, 1) := by decide +kernel
theorem dX9_lengthOf_2 : decode cX9_lengthOf 2 = .ok (.iload_n 0, 1) := by decide +kernel
theorem dX9_lengthOf_3 : decode cX9_lengthOf 3 = .ok (.istore_n 2, 1) := by decide +kernel
theorem dX9_lengthOf_4 : decode cX9_lengthOf 4 = .ok (.iload_n 2, 1) := by decide +kernel
theorem dX9_lengthOf_5 : decode cX9_lengthOf 5 = .ok (.ifCond .le 14, 3) := by decide +kernel
theorem dX9_lengthOf_8 : decode cX9_lengthOf 8 = .ok (.iinc 1 1, 3) := by decide +kernel
theorem dX9_lengthOf_11 : decode cX9_lengthOf 11 = .ok (.iload_n 2, 1) := by decide +kernel
theorem dX9_lengthOf_12 : decode cX9_lengthOf 12 = .ok (.bipush 10, 2) := by decide +kernel
theorem dX9_lengthOf_14 : decode cX9_lengthOf 14 = .ok (.idiv, 1) := by decide +kernel
theorem dX9_lengthOf_15 : decode cX9_lengthOf 15 = .ok (.istore_n 2, 1) := by decide +kernel
theorem dX9_lengthOf_16 : decode cX9_lengthOf 16 = .ok (.goto (-12), 3) := by decide +kernel
theorem dX9_lengthOf_19 : decode cX9_lengthOf 19 = .ok (.iload_n 1, 1) := by decide +kernel
theorem dX9_lengthOf_20 : decode cX9_lengthOf 20 = .ok (.ireturn, 1) := by decide +kernel
theorem dX9_digitAt_0 : decode cX9_digitAt 0 = .ok (.iload_n 0, 1) := by decide +kernel
theorem dX9_digitAt_1 : decode cX9_digitAt 1 = .ok (.istore_n 2, 1) := by decide +kernel
theorem dX9_digitAt_2 : decode cX9_digitAt 2 = .ok (.iload_n 0, 1) := by decide +kernel
theorem dX9_digitAt_3 : decode cX9_digitAt 3 = .ok (.invokestatic 177, 3) := by decide +kernel
theorem dX9_digitAt_6 : decode cX9_digitAt 6 = .ok (.iconst 1, 1) := by decide +kernel
theorem dX9_digitAt_7 : decode cX9_digitAt 7 = .ok (.isub, 1) := by decide +kernel
theorem dX9_digitAt_8 : decode cX9_digitAt 8 = .ok (.istore_n 3, 1) := by decide +kernel
theorem dX9_digitAt_9 : decode cX9_digitAt 9 = .ok (.iload_n 3, 1) := by decide +kernel
theorem dX9_digitAt_10 : decode cX9_digitAt 10 = .ok (.iload_n 1, 1) := by decide +kernel
theorem dX9_digitAt_11 : decode cX9_digitAt 11 = .ok (.if_icmp .le 14, 3) := by decide +kernel
theorem dX9_digitAt_14 : decode cX9_digitAt 14 = .ok (.iload_n 2, 1) := by decide +kernel
theorem dX9_digitAt_15 : decode cX9_digitAt 15 = .ok (.bipush 10, 2) := by decide +kernel
theorem dX9_digitAt_17 : decode cX9_digitAt 17 = .ok (.idiv, 1) := by decide +kernel
theorem dX9_digitAt_18 : decode cX9_digitAt 18 = .ok (.istore_n 2, 1) := by decide +kernel
theorem dX9_digitAt_19 : decode cX9_digitAt 19 = .ok (.iinc 3 (-1), 3) := by decide +kernel
theorem dX9_digitAt_22 : decode cX9_digitAt 22 = .ok (.goto (-13), 3) := by decide +kernel
theorem dX9_digitAt_25 : decode cX9_digitAt 25 = .ok (.iload_n 2, 1) := by decide +kernel
theorem dX9_digitAt_26 : decode cX9_digitAt 26 = .ok (.bipush 10, 2) := by decide +kernel
theorem dX9_digitAt_28 : decode cX9_digitAt 28 = .ok (.irem, 1) := by decide +kernel
theorem dX9_digitAt_29 : decode cX9_digitAt 29 = .ok (.ireturn, 1) := by decide +kernel
theorem dX9_left_0 : decode cX9_left 0 = .ok (.iconst 0, 1) := by decide +kernel
theorem dX9_left_1 : decode cX9_left 1 = .ok (.istore_n 2, 1) := by decide +kernel
theorem dX9_left_2 : decode cX9_left 2 = .ok (.iconst 0, 1) := by decide +kernel
theorem dX9_left_3 : decode cX9_left 3 = .ok (.istore_n 3, 1) := by decide +kernel
theorem dX9_left_4 : decode cX9_left 4 = .ok (.iload_n 3, 1) := by decide +kernel
theorem dX9_left_5 : decode cX9_left 5 = .ok (.iload_n 1, 1) := by decide +kernel
theorem dX9_left_6 : decode cX9_left 6 = .ok (.invokestatic 177, 3) := by decide +kernel
theorem dX9_left_9 : decode cX9_left 9 = .ok (.if_icmp .ge 36, 3) := by decide +kernel
theorem dX9_left_12 : decode cX9_left 12 = .ok (.iload_n 1, 1) := by decide +kernel
theorem dX9_left_13 : decode cX9_left 13 = .ok (.iload_n 3, 1) := by decide +kernel
theorem dX9_left_14 : decode cX9_left 14 = .ok (.invokestatic 181, 3) := by decide +kernel
theorem dX9_left_17 : decode cX9_left 17 = .ok (.istore 4, 2) := by decide +kernel
theorem dX9_left_19 : decode cX9_left 19 = .ok (.aload_n 0, 1) := by decide +kernel
theorem dX9_left_20 : decode cX9_left 20 = .ok (.getfield 11, 3) := by decide +kernel
theorem dX9_left_23 : decode cX9_left 23 = .ok (.iload 4, 2) := by decide +kernel
theorem dX9_left_25 : decode cX9_left 25 = .ok (.iconst 1, 1) := by decide +kernel
theorem dX9_left_26 : decode cX9_left 26 = .ok (.isub, 1) := by decide +kernel
theorem dX9_left_27 : decode cX9_left 27 = .ok (.baload, 1) := by decide +kernel
theorem dX9_left_28 : decode cX9_left 28 = .ok (.ifCond .ne 11, 3) := by decide +kernel
theorem dX9_left_31 : decode cX9_left 31 = .ok (.bipush 10, 2) := by decide +kernel
theorem dX9_left_33 : decode cX9_left 33 = .ok (.iload_n 2, 1) := by decide +kernel
theorem dX9_left_34 : decode cX9_left 34 = .ok (.imul, 1) := by decide +kernel
theorem dX9_left_35 : decode cX9_left 35 = .ok (.iload 4, 2) := by decide +kernel
theorem dX9_left_37 : decode cX9_left 37 = .ok (.iadd, 1) := by decide +kernel
theorem dX9_left_38 : decode cX9_left 38 = .ok (.istore_n 2, 1) := by decide +kernel
theorem dX9_left_39 : decode cX9_left 39 = .ok (.iinc 3 1, 3) := by decide +kernel
theorem dX9_left_42 : decode cX9_left 42 = .ok (.goto (-38), 3) := by decide +kernel
theorem dX9_left_45 : decode cX9_left 45 = .ok (.iload_n 2, 1) := by decide +kernel
theorem dX9_left_46 : decode cX9_left 46 = .ok (.ireturn, 1) := by decide +kernel
theorem dX9_firstOver_0 : decode cX9_firstOver 0 = .ok (.lconst 0, 1) := by decide +kernel
theorem dX9_firstOver_1 : decode cX9_firstOver 1 = .ok (.lstore_n 2, 1) := by decide +kernel
theorem dX9_firstOver_2 : decode cX9_firstOver 2 = .ok (.iconst 0, 1) := by decide +kernel
theorem dX9_firstOver_3 : decode cX9_firstOver 3 = .ok (.istore 4, 2) := by decide +kernel
theorem dX9_firstOver_5 : decode cX9_firstOver 5 = .ok (.iload 4, 2) := by decide +kernel
theorem dX9_firstOver_7 : decode cX9_firstOver 7 = .ok (.iload_n 1, 1) := by decide +kernel
theorem dX9_firstOver_8 : decode cX9_firstOver 8 = .ok (.if_icmp .ge 31, 3) := by decide +kernel
theorem dX9_firstOver_11 : decode cX9_firstOver 11 = .ok (.lload_n 2, 1) := by decide +kernel
theorem dX9_firstOver_12 : decode cX9_firstOver 12 = .ok (.aload_n 0, 1) := by decide +kernel
theorem dX9_firstOver_13 : decode cX9_firstOver 13 = .ok (.getfield 22, 3) := by decide +kernel
theorem dX9_firstOver_16 : decode cX9_firstOver 16 = .ok (.iload 4, 2) := by decide +kernel
theorem dX9_firstOver_18 : decode cX9_firstOver 18 = .ok (.iaload, 1) := by decide +kernel
theorem dX9_firstOver_19 : decode cX9_firstOver 19 = .ok (.i2l, 1) := by decide +kernel
theorem dX9_firstOver_20 : decode cX9_firstOver 20 = .ok (.ladd, 1) := by decide +kernel
theorem dX9_firstOver_21 : decode cX9_firstOver 21 = .ok (.lstore_n 2, 1) := by decide +kernel
theorem dX9_firstOver_22 : decode cX9_firstOver 22 = .ok (.lload_n 2, 1) := by decide +kernel
theorem dX9_firstOver_23 : decode cX9_firstOver 23 = .ok (.ldc2_w 185, 3) := by decide +kernel
theorem dX9_firstOver_26 : decode cX9_firstOver 26 = .ok (.lcmp, 1) := by decide +kernel
theorem dX9_firstOver_27 : decode cX9_firstOver 27 = .ok (.ifCond .le 6, 3) := by decide +kernel
theorem dX9_firstOver_30 : decode cX9_firstOver 30 = .ok (.iload 4, 2) := by decide +kernel
theorem dX9_firstOver_32 : decode cX9_firstOver 32 = .ok (.ireturn, 1) := by decide +kernel
theorem dX9_firstOver_33 : decode cX9_firstOver 33 = .ok (.iinc 4 1, 3) := by decide +kernel
theorem dX9_firstOver_36 : decode cX9_firstOver 36 = .ok (.goto (-31), 3) := by decide +kernel
theorem dX9_firstOver_39 : decode cX9_firstOver 39 = .ok (.iconst (-1), 1) := by decide +kernel
theorem dX9_firstOver_40 : decode cX9_firstOver 40 = .ok (.ireturn, 1) := by decide +kernel
theorem dX9_over_0 : decode cX9_over 0 = .ok (.aload_n 0, 1) := by decide +kernel
theorem dX9_over_1 : decode cX9_over 1 = .ok (.iconst 3, 1) := by decide +kernel
theorem dX9_over_2 : decode cX9_over 2 = .ok (.putfield 187, 3) := by decide +kernel
theorem dX9_over_5 : decode cX9_over 5 = .ok (.aload_n 0, 1) := by decide +kernel
theorem dX9_over_6 : decode cX9_over 6 = .ok (.getfield 47, 3) := by decide +kernel
theorem dX9_over_9 : decode cX9_over 9 = .ok (.iconst 0, 1) := by decide +kernel
theorem dX9_over_10 : decode cX9_over 10 = .ok (.iconst 5, 1) := by decide +kernel
theorem dX9_over_11 : decode cX9_over 11 = .ok (.iastore, 1) := by decide +kernel
theorem dX9_over_12 : decode cX9_over 12 = .ok (.aload_n 0, 1) := by decide +kernel
theorem dX9_over_13 : decode cX9_over 13 = .ok (.getfield 50, 3) := by decide +kernel
theorem dX9_over_16 : decode cX9_over 16 = .ok (.iconst 0, 1) := by decide +kernel
theorem dX9_over_17 : decode cX9_over 17 = .ok (.aload_n 0, 1) := by decide +kernel
theorem dX9_over_18 : decode cX9_over 18 = .ok (.getfield 174, 3) := by decide +kernel
theorem dX9_over_21 : decode cX9_over 21 = .ok (.iastore, 1) := by decide +kernel
theorem dX9_over_22 : decode cX9_over 22 = .ok (.aload_n 0, 1) := by decide +kernel
theorem dX9_over_23 : decode cX9_over 23 = .ok (.getfield 47, 3) := by decide +kernel
theorem dX9_over_26 : decode cX9_over 26 = .ok (.iconst 1, 1) := by decide +kernel
theorem dX9_over_27 : decode cX9_over 27 = .ok (.bipush 6, 2) := by decide +kernel
theorem dX9_over_29 : decode cX9_over 29 = .ok (.iastore, 1) := by decide +kernel
theorem dX9_over_30 : decode cX9_over 30 = .ok (.aload_n 0, 1) := by decide +kernel
theorem dX9_over_31 : decode cX9_over 31 = .ok (.getfield 50, 3) := by decide +kernel
theorem dX9_over_34 : decode cX9_over 34 = .ok (.iconst 1, 1) := by decide +kernel
theorem dX9_over_35 : decode cX9_over 35 = .ok (.iload_n 1, 1) := by decide +kernel
theorem dX9_over_36 : decode cX9_over 36 = .ok (.iastore, 1) := by decide +kernel
theorem dX9_over_37 : decode cX9_over 37 = .ok (.aload_n 0, 1) := by decide +kernel
theorem dX9_over_38 : decode cX9_over 38 = .ok (.getfield 47, 3) := by decide +kernel
theorem dX9_over_41 : decode cX9_over 41 = .ok (.iconst 2, 1) := by decide +kernel
theorem dX9_over_42 : decode cX9_over 42 = .ok (.bipush 7, 2) := by decide +kernel
theorem dX9_over_44 : decode cX9_over 44 = .ok (.iastore, 1) := by decide +kernel
theorem dX9_over_45 : decode cX9_over 45 = .ok (.aload_n 0, 1) := by decide +kernel
theorem dX9_over_46 : decode cX9_over 46 = .ok (.getfield 50, 3) := by decide +kernel
theorem dX9_over_49 : decode cX9_over 49 = .ok (.iconst 2, 1) := by decide +kernel
theorem dX9_over_50 : decode cX9_over 50 = .ok (.iconst 0, 1) := by decide +kernel
theorem dX9_over_51 : decode cX9_over 51 = .ok (.iastore, 1) := by decide +kernel
theorem dX9_over_52 : decode cX9_over 52 = .ok (.bipush (-15), 2) := by decide +kernel
theorem dX9_over_54 : decode cX9_over 54 = .ok (.ireturn, 1) := by decide +kernel
theorem dX9_candidate_0 : decode cX9_candidate 0 = .ok (.aload_n 0, 1) := by decide +kernel
theorem dX9_candidate_1 : decode cX9_candidate 1 = .ok (.getfield 167, 3) := by decide +kernel
theorem dX9_candidate_4 : decode cX9_candidate 4 = .ok (.bipush 8, 2) := by decide +kernel
theorem dX9_candidate_6 : decode cX9_candidate 6 = .ok (.if_icmp .ne 6, 3) := by decide +kernel
theorem dX9_candidate_9 : decode cX9_candidate 9 = .ok (.bipush (-4), 2) := by decide +kernel
theorem dX9_candidate_11 : decode cX9_candidate 11 = .ok (.ireturn, 1) := by decide +kernel
theorem dX9_candidate_12 : decode cX9_candidate 12 = .ok (.aload_n 0, 1) := by decide +kernel
theorem dX9_candidate_13 : decode cX9_candidate 13 = .ok (.getfield 11, 3) := by decide +kernel
theorem dX9_candidate_16 : decode cX9_candidate 16 = .ok (.aload_n 0, 1) := by decide +kernel
theorem dX9_candidate_17 : decode cX9_candidate 17 = .ok (.getfield 167, 3) := by decide +kernel
theorem dX9_candidate_20 : decode cX9_candidate 20 = .ok (.iconst 0, 1) := by decide +kernel
theorem dX9_candidate_21 : decode cX9_candidate 21 = .ok (.bastore, 1) := by decide +kernel
theorem dX9_candidate_22 : decode cX9_candidate 22 = .ok (.aload_n 0, 1) := by decide +kernel
theorem dX9_candidate_23 : decode cX9_candidate 23 = .ok (.getfield 15, 3) := by decide +kernel
theorem dX9_candidate_26 : decode cX9_candidate 26 = .ok (.aload_n 0, 1) := by decide +kernel
theorem dX9_candidate_27 : decode cX9_candidate 27 = .ok (.getfield 167, 3) := by decide +kernel
theorem dX9_candidate_30 : decode cX9_candidate 30 = .ok (.aload_n 0, 1) := by decide +kernel
theorem dX9_candidate_31 : decode cX9_candidate 31 = .ok (.getfield 167, 3) := by decide +kernel
theorem dX9_candidate_34 : decode cX9_candidate 34 = .ok (.iastore, 1) := by decide +kernel
theorem dX9_candidate_35 : decode cX9_candidate 35 = .ok (.aload_n 0, 1) := by decide +kernel
theorem dX9_candidate_36 : decode cX9_candidate 36 = .ok (.dup, 1) := by decide +kernel
theorem dX9_candidate_37 : decode cX9_candidate 37 = .ok (.getfield 167, 3) := by decide +kernel
theorem dX9_candidate_40 : decode cX9_candidate 40 = .ok (.iconst 1, 1) := by decide +kernel
theorem dX9_candidate_41 : decode cX9_candidate 41 = .ok (.iadd, 1) := by decide +kernel
theorem dX9_candidate_42 : decode cX9_candidate 42 = .ok (.putfield 167, 3) := by decide +kernel
theorem dX9_candidate_45 : decode cX9_candidate 45 = .ok (.aload_n 0, 1) := by decide +kernel
theorem dX9_candidate_46 : decode cX9_candidate 46 = .ok (.getfield 167, 3) := by decide +kernel
theorem dX9_candidate_49 : decode cX9_candidate 49 = .ok (.iconst 1, 1) := by decide +kernel
theorem dX9_candidate_50 : decode cX9_candidate 50 = .ok (.isub, 1) := by decide +kernel
theorem dX9_candidate_51 : decode cX9_candidate 51 = .ok (.ireturn, 1) := by decide +kernel
theorem dX9_isRow_0 : decode cX9_isRow 0 = .ok (.iload_n 1, 1) := by decide +kernel
theorem dX9_isRow_1 : decode cX9_isRow 1 = .ok (.i2l, 1) := by decide +kernel
theorem dX9_isRow_2 : decode cX9_isRow 2 = .ok (.lconst 1, 1) := by decide +kernel
theorem dX9_isRow_3 : decode cX9_isRow 3 = .ok (.ldc2_w 190, 3) := by decide +kernel
theorem dX9_isRow_6 : decode cX9_isRow 6 = .ok (.invokestatic 170, 3) := by decide +kernel
theorem dX9_isRow_9 : decode cX9_isRow 9 = .ok (.ifCond .ne 5, 3) := by decide +kernel
theorem dX9_isRow_12 : decode cX9_isRow 12 = .ok (.iconst 0, 1) := by decide +kernel
theorem dX9_isRow_13 : decode cX9_isRow 13 = .ok (.ireturn, 1) := by decide +kernel
theorem dX9_isRow_14 : decode cX9_isRow 14 = .ok (.iconst 0, 1) := by decide +kernel
theorem dX9_isRow_15 : decode cX9_isRow 15 = .ok (.istore_n 2, 1) := by decide +kernel
theorem dX9_isRow_16 : decode cX9_isRow 16 = .ok (.iload_n 1, 1) := by decide +kernel
theorem dX9_isRow_17 : decode cX9_isRow 17 = .ok (.istore_n 3, 1) := by decide +kernel
theorem dX9_isRow_18 : decode cX9_isRow 18 = .ok (.iload_n 3, 1) := by decide +kernel
theorem dX9_isRow_19 : decode cX9_isRow 19 = .ok (.ifCond .le 50, 3) := by decide +kernel
theorem dX9_isRow_22 : decode cX9_isRow 22 = .ok (.iload_n 3, 1) := by decide +kernel
theorem dX9_isRow_23 : decode cX9_isRow 23 = .ok (.bipush 10, 2) := by decide +kernel
theorem dX9_isRow_25 : decode cX9_isRow 25 = .ok (.irem, 1) := by decide +kernel
theorem dX9_isRow_26 : decode cX9_isRow 26 = .ok (.istore 4, 2) := by decide +kernel
theorem dX9_isRow_28 : decode cX9_isRow 28 = .ok (.iload 4, 2) := by decide +kernel
theorem dX9_isRow_30 : decode cX9_isRow 30 = .ok (.i2l, 1) := by decide +kernel
theorem dX9_isRow_31 : decode cX9_isRow 31 = .ok (.lconst 1, 1) := by decide +kernel
theorem dX9_isRow_32 : decode cX9_isRow 32 = .ok (.aload_n 0, 1) := by decide +kernel
theorem dX9_isRow_33 : decode cX9_isRow 33 = .ok (.getfield 167, 3) := by decide +kernel
theorem dX9_isRow_36 : decode cX9_isRow 36 = .ok (.i2l, 1) := by decide +kernel
theorem dX9_isRow_37 : decode cX9_isRow 37 = .ok (.invokestatic 170, 3) := by decide +kernel
theorem dX9_isRow_40 : decode cX9_isRow 40 = .ok (.ifCond .eq 12, 3) := by decide +kernel
theorem dX9_isRow_43 : decode cX9_isRow 43 = .ok (.iload_n 2, 1) := by decide +kernel
theorem dX9_isRow_44 : decode cX9_isRow 44 = .ok (.iload 4, 2) := by decide +kernel
theorem dX9_isRow_46 : decode cX9_isRow 46 = .ok (.invokestatic 192, 3) := by decide +kernel
theorem dX9_isRow_49 : decode cX9_isRow 49 = .ok (.ifCond .eq 5, 3) := by decide +kernel
theorem dX9_isRow_52 : decode cX9_isRow 52 = .ok (.iconst 0, 1) := by decide +kernel
theorem dX9_isRow_53 : decode cX9_isRow 53 = .ok (.ireturn, 1) := by decide +kernel
theorem dX9_isRow_54 : decode cX9_isRow 54 = .ok (.iload_n 2, 1) := by decide +kernel
theorem dX9_isRow_55 : decode cX9_isRow 55 = .ok (.iconst 1, 1) := by decide +kernel
theorem dX9_isRow_56 : decode cX9_isRow 56 = .ok (.iload 4, 2) := by decide +kernel
theorem dX9_isRow_58 : decode cX9_isRow 58 = .ok (.ishl, 1) := by decide +kernel
theorem dX9_isRow_59 : decode cX9_isRow 59 = .ok (.ior, 1) := by decide +kernel
theorem dX9_isRow_60 : decode cX9_isRow 60 = .ok (.istore_n 2, 1) := by decide +kernel
theorem dX9_isRow_61 : decode cX9_isRow 61 = .ok (.iload_n 3, 1) := by decide +kernel
theorem dX9_isRow_62 : decode cX9_isRow 62 = .ok (.bipush 10, 2) := by decide +kernel
theorem dX9_isRow_64 : decode cX9_isRow 64 = .ok (.idiv, 1) := by decide +kernel
theorem dX9_isRow_65 : decode cX9_isRow 65 = .ok (.istore_n 3, 1) := by decide +kernel
theorem dX9_isRow_66 : decode cX9_isRow 66 = .ok (.goto (-48), 3) := by decide +kernel
theorem dX9_isRow_69 : decode cX9_isRow 69 = .ok (.iconst 1, 1) := by decide +kernel
theorem dX9_isRow_70 : decode cX9_isRow 70 = .ok (.ireturn, 1) := by decide +kernel
theorem dX9_ballot_0 : decode cX9_ballot 0 = .ok (.aload_n 0, 1) := by decide +kernel
theorem dX9_ballot_1 : decode cX9_ballot 1 = .ok (.iload_n 1, 1) := by decide +kernel
theorem dX9_ballot_2 : decode cX9_ballot 2 = .ok (.invokevirtual 196, 3) := by decide +kernel
theorem dX9_ballot_5 : decode cX9_ballot 5 = .ok (.ifCond .eq 15, 3) := by decide +kernel
theorem dX9_ballot_8 : decode cX9_ballot 8 = .ok (.iload_n 2, 1) := by decide +kernel
theorem dX9_ballot_9 : decode cX9_ballot 9 = .ok (.i2l, 1) := by decide +kernel
theorem dX9_ballot_10 : decode cX9_ballot 10 = .ok (.lconst 0, 1) := by decide +kernel
theorem dX9_ballot_11 : decode cX9_ballot 11 = .ok (.ldc2_w 200, 3) := by decide +kernel
theorem dX9_ballot_14 : decode cX9_ballot 14 = .ok (.invokestatic 170, 3) := by decide +kernel
theorem dX9_ballot_17 : decode cX9_ballot 17 = .ok (.ifCond .ne 6, 3) := by decide +kernel
theorem dX9_ballot_20 : decode cX9_ballot 20 = .ok (.bipush (-2), 2) := by decide +kernel
theorem dX9_ballot_22 : decode cX9_ballot 22 = .ok (.ireturn, 1) := by decide +kernel
theorem dX9_ballot_23 : decode cX9_ballot 23 = .ok (.aload_n 0, 1) := by decide +kernel
theorem dX9_ballot_24 : decode cX9_ballot 24 = .ok (.getfield 174, 3) := by decide +kernel
theorem dX9_ballot_27 : decode cX9_ballot 27 = .ok (.bipush 24, 2) := by decide +kernel
theorem dX9_ballot_29 : decode cX9_ballot 29 = .ok (.if_icmp .ne 6, 3) := by decide +kernel
theorem dX9_ballot_32 : decode cX9_ballot 32 = .ok (.bipush (-4), 2) := by decide +kernel
theorem dX9_ballot_34 : decode cX9_ballot 34 = .ok (.ireturn, 1) := by decide +kernel
theorem dX9_ballot_35 : decode cX9_ballot 35 = .ok (.aload_n 0, 1) := by decide +kernel
theorem dX9_ballot_36 : decode cX9_ballot 36 = .ok (.getfield 19, 3) := by decide +kernel
theorem dX9_ballot_39 : decode cX9_ballot 39 = .ok (.aload_n 0, 1) := by decide +kernel
theorem dX9_ballot_40 : decode cX9_ballot 40 = .ok (.getfield 174, 3) := by decide +kernel
theorem dX9_ballot_43 : decode cX9_ballot 43 = .ok (.iload_n 1, 1) := by decide +kernel
theorem dX9_ballot_44 : decode cX9_ballot 44 = .ok (.iastore, 1) := by decide +kernel
theorem dX9_ballot_45 : decode cX9_ballot 45 = .ok (.aload_n 0, 1) := by decide +kernel
theorem dX9_ballot_46 : decode cX9_ballot 46 = .ok (.getfield 22, 3) := by decide +kernel
theorem dX9_ballot_49 : decode cX9_ballot 49 = .ok (.aload_n 0, 1) := by decide +kernel
theorem dX9_ballot_50 : decode cX9_ballot 50 = .ok (.getfield 174, 3) := by decide +kernel
theorem dX9_ballot_53 : decode cX9_ballot 53 = .ok (.iload_n 2, 1) := by decide +kernel
theorem dX9_ballot_54 : decode cX9_ballot 54 = .ok (.iastore, 1) := by decide +kernel
theorem dX9_ballot_55 : decode cX9_ballot 55 = .ok (.aload_n 0, 1) := by decide +kernel
theorem dX9_ballot_56 : decode cX9_ballot 56 = .ok (.aload_n 0, 1) := by decide +kernel
theorem dX9_ballot_57 : decode cX9_ballot 57 = .ok (.getfield 174, 3) := by decide +kernel
theorem dX9_ballot_60 : decode cX9_ballot 60 = .ok (.iconst 1, 1) := by decide +kernel
theorem dX9_ballot_61 : decode cX9_ballot 61 = .ok (.iadd, 1) := by decide +kernel
theorem dX9_ballot_62 : decode cX9_ballot 62 = .ok (.invokevirtual 202, 3) := by decide +kernel
theorem dX9_ballot_65 : decode cX9_ballot 65 = .ok (.istore_n 3, 1) := by decide +kernel
theorem dX9_ballot_66 : decode cX9_ballot 66 = .ok (.iload_n 3, 1) := by decide +kernel
theorem dX9_ballot_67 : decode cX9_ballot 67 = .ok (.iconst (-1), 1) := by decide +kernel
theorem dX9_ballot_68 : decode cX9_ballot 68 = .ok (.if_icmp .eq 9, 3) := by decide +kernel
theorem dX9_ballot_71 : decode cX9_ballot 71 = .ok (.aload_n 0, 1) := by decide +kernel
theorem dX9_ballot_72 : decode cX9_ballot 72 = .ok (.iload_n 3, 1) := by decide +kernel
theorem dX9_ballot_73 : decode cX9_ballot 73 = .ok (.invokevirtual 205, 3) := by decide +kernel
theorem dX9_ballot_76 : decode cX9_ballot 76 = .ok (.ireturn, 1) := by decide +kernel
theorem dX9_ballot_77 : decode cX9_ballot 77 = .ok (.aload_n 0, 1) := by decide +kernel
theorem dX9_ballot_78 : decode cX9_ballot 78 = .ok (.dup, 1) := by decide +kernel
theorem dX9_ballot_79 : decode cX9_ballot 79 = .ok (.getfield 174, 3) := by decide +kernel
theorem dX9_ballot_82 : decode cX9_ballot 82 = .ok (.iconst 1, 1) := by decide +kernel
theorem dX9_ballot_83 : decode cX9_ballot 83 = .ok (.iadd, 1) := by decide +kernel
theorem dX9_ballot_84 : decode cX9_ballot 84 = .ok (.putfield 174, 3) := by decide +kernel
theorem dX9_ballot_87 : decode cX9_ballot 87 = .ok (.aload_n 0, 1) := by decide +kernel
theorem dX9_ballot_88 : decode cX9_ballot 88 = .ok (.getfield 174, 3) := by decide +kernel
theorem dX9_ballot_91 : decode cX9_ballot 91 = .ok (.iconst 1, 1) := by decide +kernel
theorem dX9_ballot_92 : decode cX9_ballot 92 = .ok (.isub, 1) := by decide +kernel
theorem dX9_ballot_93 : decode cX9_ballot 93 = .ok (.ireturn, 1) := by decide +kernel
theorem dX9_many_0 : decode cX9_many 0 = .ok (.aload_n 0, 1) := by decide +kernel
theorem dX9_many_1 : decode cX9_many 1 = .ok (.iload_n 1, 1) := by decide +kernel
theorem dX9_many_2 : decode cX9_many 2 = .ok (.invokevirtual 208, 3) := by decide +kernel
theorem dX9_many_5 : decode cX9_many 5 = .ok (.ifCond .ne 5, 3) := by decide +kernel
theorem dX9_many_8 : decode cX9_many 8 = .ok (.iconst (-1), 1) := by decide +kernel
theorem dX9_many_9 : decode cX9_many 9 = .ok (.ireturn, 1) := by decide +kernel
theorem dX9_many_10 : decode cX9_many 10 = .ok (.iload_n 2, 1) := by decide +kernel
theorem dX9_many_11 : decode cX9_many 11 = .ok (.i2l, 1) := by decide +kernel
theorem dX9_many_12 : decode cX9_many 12 = .ok (.lconst 0, 1) := by decide +kernel
theorem dX9_many_13 : decode cX9_many 13 = .ok (.ldc2_w 200, 3) := by decide +kernel
theorem dX9_many_16 : decode cX9_many 16 = .ok (.invokestatic 170, 3) := by decide +kernel
theorem dX9_many_19 : decode cX9_many 19 = .ok (.ifCond .ne 6, 3) := by decide +kernel
theorem dX9_many_22 : decode cX9_many 22 = .ok (.bipush (-2), 2) := by decide +kernel
theorem dX9_many_24 : decode cX9_many 24 = .ok (.ireturn, 1) := by decide +kernel
theorem dX9_many_25 : decode cX9_many 25 = .ok (.aload_n 0, 1) := by decide +kernel
theorem dX9_many_26 : decode cX9_many 26 = .ok (.getfield 22, 3) := by decide +kernel
theorem dX9_many_29 : decode cX9_many 29 = .ok (.iload_n 1, 1) := by decide +kernel
theorem dX9_many_30 : decode cX9_many 30 = .ok (.iaload, 1) := by decide +kernel
theorem dX9_many_31 : decode cX9_many 31 = .ok (.istore_n 3, 1) := by decide +kernel
theorem dX9_many_32 : decode cX9_many 32 = .ok (.aload_n 0, 1) := by decide +kernel
theorem dX9_many_33 : decode cX9_many 33 = .ok (.getfield 22, 3) := by decide +kernel
theorem dX9_many_36 : decode cX9_many 36 = .ok (.iload_n 1, 1) := by decide +kernel
theorem dX9_many_37 : decode cX9_many 37 = .ok (.iload_n 2, 1) := by decide +kernel
theorem dX9_many_38 : decode cX9_many 38 = .ok (.iastore, 1) := by decide +kernel
theorem dX9_many_39 : decode cX9_many 39 = .ok (.aload_n 0, 1) := by decide +kernel
theorem dX9_many_40 : decode cX9_many 40 = .ok (.aload_n 0, 1) := by decide +kernel
theorem dX9_many_41 : decode cX9_many 41 = .ok (.getfield 174, 3) := by decide +kernel
theorem dX9_many_44 : decode cX9_many 44 = .ok (.invokevirtual 202, 3) := by decide +kernel
theorem dX9_many_47 : decode cX9_many 47 = .ok (.istore 4, 2) := by decide +kernel
theorem dX9_many_49 : decode cX9_many 49 = .ok (.iload 4, 2) := by decide +kernel
theorem dX9_many_51 : decode cX9_many 51 = .ok (.iconst (-1), 1) := by decide +kernel
theorem dX9_many_52 : decode cX9_many 52 = .ok (.if_icmp .ne 5, 3) := by decide +kernel
theorem dX9_many_55 : decode cX9_many 55 = .ok (.iload_n 3, 1) := by decide +kernel
theorem dX9_many_56 : decode cX9_many 56 = .ok (.ireturn, 1) := by decide +kernel
theorem dX9_many_57 : decode cX9_many 57 = .ok (.aload_n 0, 1) := by decide +kernel
theorem dX9_many_58 : decode cX9_many 58 = .ok (.getfield 22, 3) := by decide +kernel
theorem dX9_many_61 : decode cX9_many 61 = .ok (.iload_n 1, 1) := by decide +kernel
theorem dX9_many_62 : decode cX9_many 62 = .ok (.iload_n 3, 1) := by decide +kernel
theorem dX9_many_63 : decode cX9_many 63 = .ok (.iastore, 1) := by decide +kernel
theorem dX9_many_64 : decode cX9_many 64 = .ok (.aload_n 0, 1) := by decide +kernel
theorem dX9_many_65 : decode cX9_many 65 = .ok (.iload 4, 2) := by decide +kernel
theorem dX9_many_67 : decode cX9_many 67 = .ok (.invokevirtual 205, 3) := by decide +kernel
theorem dX9_many_70 : decode cX9_many 70 = .ok (.ireturn, 1) := by decide +kernel
theorem dX9_drop_0 : decode cX9_drop 0 = .ok (.aload_n 0, 1) := by decide +kernel
theorem dX9_drop_1 : decode cX9_drop 1 = .ok (.getfield 174, 3) := by decide +kernel
theorem dX9_drop_4 : decode cX9_drop 4 = .ok (.ifCond .ne 6, 3) := by decide +kernel
theorem dX9_drop_7 : decode cX9_drop 7 = .ok (.bipush (-3), 2) := by decide +kernel
theorem dX9_drop_9 : decode cX9_drop 9 = .ok (.ireturn, 1) := by decide +kernel
theorem dX9_drop_10 : decode cX9_drop 10 = .ok (.aload_n 0, 1) := by decide +kernel
theorem dX9_drop_11 : decode cX9_drop 11 = .ok (.dup, 1) := by decide +kernel
theorem dX9_drop_12 : decode cX9_drop 12 = .ok (.getfield 174, 3) := by decide +kernel
theorem dX9_drop_15 : decode cX9_drop 15 = .ok (.iconst 1, 1) := by decide +kernel
theorem dX9_drop_16 : decode cX9_drop 16 = .ok (.isub, 1) := by decide +kernel
theorem dX9_drop_17 : decode cX9_drop 17 = .ok (.putfield 174, 3) := by decide +kernel
theorem dX9_drop_20 : decode cX9_drop 20 = .ok (.aload_n 0, 1) := by decide +kernel
theorem dX9_drop_21 : decode cX9_drop 21 = .ok (.getfield 174, 3) := by decide +kernel
theorem dX9_drop_24 : decode cX9_drop 24 = .ok (.ireturn, 1) := by decide +kernel
theorem dX9_gone_0 : decode cX9_gone 0 = .ok (.aload_n 0, 1) := by decide +kernel
theorem dX9_gone_1 : decode cX9_gone 1 = .ok (.iload_n 1, 1) := by decide +kernel
theorem dX9_gone_2 : decode cX9_gone 2 = .ok (.invokevirtual 211, 3) := by decide +kernel
theorem dX9_gone_5 : decode cX9_gone 5 = .ok (.ifCond .ne 5, 3) := by decide +kernel
theorem dX9_gone_8 : decode cX9_gone 8 = .ok (.iconst (-1), 1) := by decide +kernel
theorem dX9_gone_9 : decode cX9_gone 9 = .ok (.ireturn, 1) := by decide +kernel
theorem dX9_gone_10 : decode cX9_gone 10 = .ok (.aload_n 0, 1) := by decide +kernel
theorem dX9_gone_11 : decode cX9_gone 11 = .ok (.getfield 11, 3) := by decide +kernel
theorem dX9_gone_14 : decode cX9_gone 14 = .ok (.iload_n 1, 1) := by decide +kernel
theorem dX9_gone_15 : decode cX9_gone 15 = .ok (.baload, 1) := by decide +kernel
theorem dX9_gone_16 : decode cX9_gone 16 = .ok (.ifCond .eq 7, 3) := by decide +kernel
theorem dX9_gone_19 : decode cX9_gone 19 = .ok (.iconst 1, 1) := by decide +kernel
theorem dX9_gone_20 : decode cX9_gone 20 = .ok (.goto 4, 3) := by decide +kernel
theorem dX9_gone_23 : decode cX9_gone 23 = .ok (.iconst 0, 1) := by decide +kernel
theorem dX9_gone_24 : decode cX9_gone 24 = .ok (.istore_n 3, 1) := by decide +kernel
theorem dX9_gone_25 : decode cX9_gone 25 = .ok (.aload_n 0, 1) := by decide +kernel
theorem dX9_gone_26 : decode cX9_gone 26 = .ok (.getfield 11, 3) := by decide +kernel
theorem dX9_gone_29 : decode cX9_gone 29 = .ok (.iload_n 1, 1) := by decide +kernel
theorem dX9_gone_30 : decode cX9_gone 30 = .ok (.iload_n 2, 1) := by decide +kernel
theorem dX9_gone_31 : decode cX9_gone 31 = .ok (.bastore, 1) := by decide +kernel
theorem dX9_gone_32 : decode cX9_gone 32 = .ok (.iload_n 3, 1) := by decide +kernel
theorem dX9_gone_33 : decode cX9_gone 33 = .ok (.ireturn, 1) := by decide +kernel
theorem dX9_set_0 : decode cX9_set 0 = .ok (.iload_n 1, 1) := by decide +kernel
theorem dX9_set_1 : decode cX9_set 1 = .ok (.i2l, 1) := by decide +kernel
theorem dX9_set_2 : decode cX9_set 2 = .ok (.lconst 0, 1) := by decide +kernel
theorem dX9_set_3 : decode cX9_set 3 = .ok (.ldc2_w 214, 3) := by decide +kernel
theorem dX9_set_6 : decode cX9_set 6 = .ok (.invokestatic 170, 3) := by decide +kernel
theorem dX9_set_9 : decode cX9_set 9 = .ok (.ifCond .ne 5, 3) := by decide +kernel
theorem dX9_set_12 : decode cX9_set 12 = .ok (.iconst (-1), 1) := by decide +kernel
theorem dX9_set_13 : decode cX9_set 13 = .ok (.ireturn, 1) := by decide +kernel
theorem dX9_set_14 : decode cX9_set 14 = .ok (.iload_n 1, 1) := by decide +kernel
theorem dX9_set_15 : decode cX9_set 15 = .ok (.ifCond .ne 18, 3) := by decide +kernel
theorem dX9_set_18 : decode cX9_set 18 = .ok (.iload_n 2, 1) := by decide +kernel
theorem dX9_set_19 : decode cX9_set 19 = .ok (.i2l, 1) := by decide +kernel
theorem dX9_set_20 : decode cX9_set 20 = .ok (.lconst 1, 1) := by decide +kernel
theorem dX9_set_21 : decode cX9_set 21 = .ok (.ldc2_w 216, 3) := by decide +kernel
theorem dX9_set_24 : decode cX9_set 24 = .ok (.invokestatic 170, 3) := by decide +kernel
theorem dX9_set_27 : decode cX9_set 27 = .ok (.ifCond .ne 41, 3) := by decide +kernel
theorem dX9_set_30 : decode cX9_set 30 = .ok (.goto 35, 3) := by decide +kernel
theorem dX9_set_33 : decode cX9_set 33 = .ok (.iload_n 1, 1) := by decide +kernel
theorem dX9_set_34 : decode cX9_set 34 = .ok (.iconst 1, 1) := by decide +kernel
theorem dX9_set_35 : decode cX9_set 35 = .ok (.if_icmp .ne 18, 3) := by decide +kernel
theorem dX9_set_38 : decode cX9_set 38 = .ok (.iload_n 2, 1) := by decide +kernel
theorem dX9_set_39 : decode cX9_set 39 = .ok (.i2l, 1) := by decide +kernel
theorem dX9_set_40 : decode cX9_set 40 = .ok (.lconst 0, 1) := by decide +kernel
theorem dX9_set_41 : decode cX9_set 41 = .ok (.ldc2_w 218, 3) := by decide +kernel
theorem dX9_set_44 : decode cX9_set 44 = .ok (.invokestatic 170, 3) := by decide +kernel
theorem dX9_set_47 : decode cX9_set 47 = .ok (.ifCond .ne 21, 3) := by decide +kernel
theorem dX9_set_50 : decode cX9_set 50 = .ok (.goto 15, 3) := by decide +kernel
theorem dX9_set_53 : decode cX9_set 53 = .ok (.iload_n 2, 1) := by decide +kernel
theorem dX9_set_54 : decode cX9_set 54 = .ok (.i2l, 1) := by decide +kernel
theorem dX9_set_55 : decode cX9_set 55 = .ok (.lconst 1, 1) := by decide +kernel
theorem dX9_set_56 : decode cX9_set 56 = .ok (.ldc2_w 220, 3) := by decide +kernel
theorem dX9_set_59 : decode cX9_set 59 = .ok (.invokestatic 170, 3) := by decide +kernel
theorem dX9_set_62 : decode cX9_set 62 = .ok (.ifCond .ne 6, 3) := by decide +kernel
theorem dX9_set_65 : decode cX9_set 65 = .ok (.bipush (-2), 2) := by decide +kernel
theorem dX9_set_67 : decode cX9_set 67 = .ok (.ireturn, 1) := by decide +kernel
theorem dX9_set_68 : decode cX9_set 68 = .ok (.iload_n 1, 1) := by decide +kernel
theorem dX9_set_69 : decode cX9_set 69 = .ok (.ifCond .ne 10, 3) := by decide +kernel
theorem dX9_set_72 : decode cX9_set 72 = .ok (.aload_n 0, 1) := by decide +kernel
theorem dX9_set_73 : decode cX9_set 73 = .ok (.getfield 25, 3) := by decide +kernel
theorem dX9_set_76 : decode cX9_set 76 = .ok (.goto 19, 3) := by decide +kernel
theorem dX9_set_79 : decode cX9_set 79 = .ok (.iload_n 1, 1) := by decide +kernel
theorem dX9_set_80 : decode cX9_set 80 = .ok (.iconst 1, 1) := by decide +kernel
theorem dX9_set_81 : decode cX9_set 81 = .ok (.if_icmp .ne 10, 3) := by decide +kernel
theorem dX9_set_84 : decode cX9_set 84 = .ok (.aload_n 0, 1) := by decide +kernel
theorem dX9_set_85 : decode cX9_set 85 = .ok (.getfield 29, 3) := by decide +kernel
theorem dX9_set_88 : decode cX9_set 88 = .ok (.goto 7, 3) := by decide +kernel
theorem dX9_set_91 : decode cX9_set 91 = .ok (.aload_n 0, 1) := by decide +kernel
theorem dX9_set_92 : decode cX9_set 92 = .ok (.getfield 32, 3) := by decide +kernel
theorem dX9_set_95 : decode cX9_set 95 = .ok (.istore_n 3, 1) := by decide +kernel
theorem dX9_set_96 : decode cX9_set 96 = .ok (.iload_n 1, 1) := by decide +kernel
theorem dX9_set_97 : decode cX9_set 97 = .ok (.ifCond .ne 8, 3) := by decide +kernel
theorem dX9_set_100 : decode cX9_set 100 = .ok (.aload_n 0, 1) := by decide +kernel
theorem dX9_set_101 : decode cX9_set 101 = .ok (.iload_n 2, 1) := by decide +kernel
theorem dX9_set_102 : decode cX9_set 102 = .ok (.putfield 25, 3) := by decide +kernel
theorem dX9_set_105 : decode cX9_set 105 = .ok (.iload_n 1, 1) := by decide +kernel
theorem dX9_set_106 : decode cX9_set 106 = .ok (.iconst 1, 1) := by decide +kernel
theorem dX9_set_107 : decode cX9_set 107 = .ok (.if_icmp .ne 8, 3) := by decide +kernel
theorem dX9_set_110 : decode cX9_set 110 = .ok (.aload_n 0, 1) := by decide +kernel
theorem dX9_set_111 : decode cX9_set 111 = .ok (.iload_n 2, 1) := by decide +kernel
theorem dX9_set_112 : decode cX9_set 112 = .ok (.putfield 29, 3) := by decide +kernel
theorem dX9_set_115 : decode cX9_set 115 = .ok (.iload_n 1, 1) := by decide +kernel
theorem dX9_set_116 : decode cX9_set 116 = .ok (.iconst 2, 1) := by decide +kernel
theorem dX9_set_117 : decode cX9_set 117 = .ok (.if_icmp .ne 8, 3) := by decide +kernel
theorem dX9_set_120 : decode cX9_set 120 = .ok (.aload_n 0, 1) := by decide +kernel
theorem dX9_set_121 : decode cX9_set 121 = .ok (.iload_n 2, 1) := by decide +kernel
theorem dX9_set_122 : decode cX9_set 122 = .ok (.putfield 32, 3) := by decide +kernel
theorem dX9_set_125 : decode cX9_set 125 = .ok (.iload_n 3, 1) := by decide +kernel
theorem dX9_set_126 : decode cX9_set 126 = .ok (.ireturn, 1) := by decide +kernel
theorem dX9_swap_0 : decode cX9_swap 0 = .ok (.aload_n 0, 1) := by decide +kernel
theorem dX9_swap_1 : decode cX9_swap 1 = .ok (.iload_n 1, 1) := by decide +kernel
theorem dX9_swap_2 : decode cX9_swap 2 = .ok (.invokevirtual 211, 3) := by decide +kernel
theorem dX9_swap_5 : decode cX9_swap 5 = .ok (.ifCond .eq 16, 3) := by decide +kernel
theorem dX9_swap_8 : decode cX9_swap 8 = .ok (.aload_n 0, 1) := by decide +kernel
theorem dX9_swap_9 : decode cX9_swap 9 = .ok (.iload_n 2, 1) := by decide +kernel
theorem dX9_swap_10 : decode cX9_swap 10 = .ok (.invokevirtual 211, 3) := by decide +kernel
theorem dX9_swap_13 : decode cX9_swap 13 = .ok (.ifCond .eq 8, 3) := by decide +kernel
theorem dX9_swap_16 : decode cX9_swap 16 = .ok (.iload_n 1, 1) := by decide +kernel
theorem dX9_swap_17 : decode cX9_swap 17 = .ok (.iload_n 2, 1) := by decide +kernel
theorem dX9_swap_18 : decode cX9_swap 18 = .ok (.if_icmp .ne 5, 3) := by decide +kernel
theorem dX9_swap_21 : decode cX9_swap 21 = .ok (.iconst (-1), 1) := by decide +kernel
theorem dX9_swap_22 : decode cX9_swap 22 = .ok (.ireturn, 1) := by decide +kernel
theorem dX9_swap_23 : decode cX9_swap 23 = .ok (.aload_n 0, 1) := by decide +kernel
theorem dX9_swap_24 : decode cX9_swap 24 = .ok (.getfield 15, 3) := by decide +kernel
theorem dX9_swap_27 : decode cX9_swap 27 = .ok (.iload_n 1, 1) := by decide +kernel
theorem dX9_swap_28 : decode cX9_swap 28 = .ok (.iaload, 1) := by decide +kernel
theorem dX9_swap_29 : decode cX9_swap 29 = .ok (.istore_n 3, 1) := by decide +kernel
theorem dX9_swap_30 : decode cX9_swap 30 = .ok (.aload_n 0, 1) := by decide +kernel
theorem dX9_swap_31 : decode cX9_swap 31 = .ok (.getfield 15, 3) := by decide +kernel
theorem dX9_swap_34 : decode cX9_swap 34 = .ok (.iload_n 1, 1) := by decide +kernel
theorem dX9_swap_35 : decode cX9_swap 35 = .ok (.aload_n 0, 1) := by decide +kernel
theorem dX9_swap_36 : decode cX9_swap 36 = .ok (.getfield 15, 3) := by decide +kernel
theorem dX9_swap_39 : decode cX9_swap 39 = .ok (.iload_n 2, 1) := by decide +kernel
theorem dX9_swap_40 : decode cX9_swap 40 = .ok (.iaload, 1) := by decide +kernel
theorem dX9_swap_41 : decode cX9_swap 41 = .ok (.iastore, 1) := by decide +kernel
theorem dX9_swap_42 : decode cX9_swap 42 = .ok (.aload_n 0, 1) := by decide +kernel
theorem dX9_swap_43 : decode cX9_swap 43 = .ok (.getfield 15, 3) := by decide +kernel
theorem dX9_swap_46 : decode cX9_swap 46 = .ok (.iload_n 2, 1) := by decide +kernel
theorem dX9_swap_47 : decode cX9_swap 47 = .ok (.iload_n 3, 1) := by decide +kernel
theorem dX9_swap_48 : decode cX9_swap 48 = .ok (.iastore, 1) := by decide +kernel
theorem dX9_swap_49 : decode cX9_swap 49 = .ok (.aload_n 0, 1) := by decide +kernel
theorem dX9_swap_50 : decode cX9_swap 50 = .ok (.getfield 15, 3) := by decide +kernel
theorem dX9_swap_53 : decode cX9_swap 53 = .ok (.iload_n 1, 1) := by decide +kernel
theorem dX9_swap_54 : decode cX9_swap 54 = .ok (.iaload, 1) := by decide +kernel
theorem dX9_swap_55 : decode cX9_swap 55 = .ok (.ireturn, 1) := by decide +kernel
theorem dX9_lotOf_0 : decode cX9_lotOf 0 = .ok (.iconst 0, 1) := by decide +kernel
theorem dX9_lotOf_1 : decode cX9_lotOf 1 = .ok (.istore_n 2, 1) := by decide +kernel
theorem dX9_lotOf_2 : decode cX9_lotOf 2 = .ok (.aload_n 0, 1) := by decide +kernel
theorem dX9_lotOf_3 : decode cX9_lotOf 3 = .ok (.getfield 15, 3) := by decide +kernel
theorem dX9_lotOf_6 : decode cX9_lotOf 6 = .ok (.iload_n 2, 1) := by decide +kernel
theorem dX9_lotOf_7 : decode cX9_lotOf 7 = .ok (.iaload, 1) := by decide +kernel
theorem dX9_lotOf_8 : decode cX9_lotOf 8 = .ok (.iload_n 1, 1) := by decide +kernel
theorem dX9_lotOf_9 : decode cX9_lotOf 9 = .ok (.if_icmp .eq 9, 3) := by decide +kernel
theorem dX9_lotOf_12 : decode cX9_lotOf 12 = .ok (.iinc 2 1, 3) := by decide +kernel
theorem dX9_lotOf_15 : decode cX9_lotOf 15 = .ok (.goto (-13), 3) := by decide +kernel
theorem dX9_lotOf_18 : decode cX9_lotOf 18 = .ok (.iload_n 2, 1) := by decide +kernel
theorem dX9_lotOf_19 : decode cX9_lotOf 19 = .ok (.ireturn, 1) := by decide +kernel
theorem dX9_keyOf_0 : decode cX9_keyOf 0 = .ok (.iload_n 0, 1) := by decide +kernel
theorem dX9_keyOf_1 : decode cX9_keyOf 1 = .ok (.istore_n 1, 1) := by decide +kernel
theorem dX9_keyOf_2 : decode cX9_keyOf 2 = .ok (.iload_n 0, 1) := by decide +kernel
theorem dX9_keyOf_3 : decode cX9_keyOf 3 = .ok (.invokestatic 177, 3) := by decide +kernel
theorem dX9_keyOf_6 : decode cX9_keyOf 6 = .ok (.istore_n 2, 1) := by decide +kernel
theorem dX9_keyOf_7 : decode cX9_keyOf 7 = .ok (.iload_n 2, 1) := by decide +kernel
theorem dX9_keyOf_8 : decode cX9_keyOf 8 = .ok (.bipush 8, 2) := by decide +kernel
theorem dX9_keyOf_10 : decode cX9_keyOf 10 = .ok (.if_icmp .ge 14, 3) := by decide +kernel
theorem dX9_keyOf_13 : decode cX9_keyOf 13 = .ok (.iload_n 1, 1) := by decide +kernel
theorem dX9_keyOf_14 : decode cX9_keyOf 14 = .ok (.bipush 10, 2) := by decide +kernel
theorem dX9_keyOf_16 : decode cX9_keyOf 16 = .ok (.imul, 1) := by decide +kernel
theorem dX9_keyOf_17 : decode cX9_keyOf 17 = .ok (.istore_n 1, 1) := by decide +kernel
theorem dX9_keyOf_18 : decode cX9_keyOf 18 = .ok (.iinc 2 1, 3) := by decide +kernel
theorem dX9_keyOf_21 : decode cX9_keyOf 21 = .ok (.goto (-14), 3) := by decide +kernel
theorem dX9_keyOf_24 : decode cX9_keyOf 24 = .ok (.iload_n 1, 1) := by decide +kernel
theorem dX9_keyOf_25 : decode cX9_keyOf 25 = .ok (.ireturn, 1) := by decide +kernel
theorem dX9_comesTo_0 : decode cX9_comesTo 0 = .ok (.iload_n 1, 1) := by decide +kernel
theorem dX9_comesTo_1 : decode cX9_comesTo 1 = .ok (.invokestatic 222, 3) := by decide +kernel
theorem dX9_comesTo_4 : decode cX9_comesTo 4 = .ok (.istore_n 3, 1) := by decide +kernel
theorem dX9_comesTo_5 : decode cX9_comesTo 5 = .ok (.iconst 0, 1) := by decide +kernel
theorem dX9_comesTo_6 : decode cX9_comesTo 6 = .ok (.istore 4, 2) := by decide +kernel
theorem dX9_comesTo_8 : decode cX9_comesTo 8 = .ok (.iload 4, 2) := by decide +kernel
theorem dX9_comesTo_10 : decode cX9_comesTo 10 = .ok (.aload_n 0, 1) := by decide +kernel
theorem dX9_comesTo_11 : decode cX9_comesTo 11 = .ok (.getfield 225, 3) := by decide +kernel
theorem dX9_comesTo_14 : decode cX9_comesTo 14 = .ok (.if_icmp .ge 20, 3) := by decide +kernel
theorem dX9_comesTo_17 : decode cX9_comesTo 17 = .ok (.aload_n 0, 1) := by decide +kernel
theorem dX9_comesTo_18 : decode cX9_comesTo 18 = .ok (.getfield 56, 3) := by decide +kernel
theorem dX9_comesTo_21 : decode cX9_comesTo 21 = .ok (.iload 4, 2) := by decide +kernel
theorem dX9_comesTo_23 : decode cX9_comesTo 23 = .ok (.iaload, 1) := by decide +kernel
theorem dX9_comesTo_24 : decode cX9_comesTo 24 = .ok (.iload_n 3, 1) := by decide +kernel
theorem dX9_comesTo_25 : decode cX9_comesTo 25 = .ok (.if_icmp .ge 9, 3) := by decide +kernel
theorem dX9_comesTo_28 : decode cX9_comesTo 28 = .ok (.iinc 4 1, 3) := by decide +kernel
theorem dX9_comesTo_31 : decode cX9_comesTo 31 = .ok (.goto (-23), 3) := by decide +kernel
theorem dX9_comesTo_34 : decode cX9_comesTo 34 = .ok (.iload 4, 2) := by decide +kernel
theorem dX9_comesTo_36 : decode cX9_comesTo 36 = .ok (.aload_n 0, 1) := by decide +kernel
theorem dX9_comesTo_37 : decode cX9_comesTo 37 = .ok (.getfield 225, 3) := by decide +kernel
theorem dX9_comesTo_40 : decode cX9_comesTo 40 = .ok (.if_icmp .ge 26, 3) := by decide +kernel
theorem dX9_comesTo_43 : decode cX9_comesTo 43 = .ok (.aload_n 0, 1) := by decide +kernel
theorem dX9_comesTo_44 : decode cX9_comesTo 44 = .ok (.getfield 56, 3) := by decide +kernel
theorem dX9_comesTo_47 : decode cX9_comesTo 47 = .ok (.iload 4, 2) := by decide +kernel
theorem dX9_comesTo_49 : decode cX9_comesTo 49 = .ok (.iaload, 1) := by decide +kernel
theorem dX9_comesTo_50 : decode cX9_comesTo 50 = .ok (.iload_n 3, 1) := by decide +kernel
theorem dX9_comesTo_51 : decode cX9_comesTo 51 = .ok (.if_icmp .ne 15, 3) := by decide +kernel
theorem dX9_comesTo_54 : decode cX9_comesTo 54 = .ok (.aload_n 0, 1) := by decide +kernel
theorem dX9_comesTo_55 : decode cX9_comesTo 55 = .ok (.getfield 59, 3) := by decide +kernel
theorem dX9_comesTo_58 : decode cX9_comesTo 58 = .ok (.iload 4, 2) := by decide +kernel
theorem dX9_comesTo_60 : decode cX9_comesTo 60 = .ok (.dup2, 1) := by decide +kernel
theorem dX9_comesTo_61 : decode cX9_comesTo 61 = .ok (.iaload, 1) := by decide +kernel
theorem dX9_comesTo_62 : decode cX9_comesTo 62 = .ok (.iload_n 2, 1) := by decide +kernel
theorem dX9_comesTo_63 : decode cX9_comesTo 63 = .ok (.iadd, 1) := by decide +kernel
theorem dX9_comesTo_64 : decode cX9_comesTo 64 = .ok (.iastore, 1) := by decide +kernel
theorem dX9_comesTo_65 : decode cX9_comesTo 65 = .ok (.return_, 1) := by decide +kernel
theorem dX9_comesTo_66 : decode cX9_comesTo 66 = .ok (.aload_n 0, 1) := by decide +kernel
theorem dX9_comesTo_67 : decode cX9_comesTo 67 = .ok (.getfield 225, 3) := by decide +kernel
theorem dX9_comesTo_70 : decode cX9_comesTo 70 = .ok (.istore 5, 2) := by decide +kernel
theorem dX9_comesTo_72 : decode cX9_comesTo 72 = .ok (.iload 5, 2) := by decide +kernel
theorem dX9_comesTo_74 : decode cX9_comesTo 74 = .ok (.iload 4, 2) := by decide +kernel
theorem dX9_comesTo_76 : decode cX9_comesTo 76 = .ok (.if_icmp .le 57, 3) := by decide +kernel
theorem dX9_comesTo_79 : decode cX9_comesTo 79 = .ok (.aload_n 0, 1) := by decide +kernel
theorem dX9_comesTo_80 : decode cX9_comesTo 80 = .ok (.getfield 53, 3) := by decide +kernel
theorem dX9_comesTo_83 : decode cX9_comesTo 83 = .ok (.iload 5, 2) := by decide +kernel
theorem dX9_comesTo_85 : decode cX9_comesTo 85 = .ok (.aload_n 0, 1) := by decide +kernel
theorem dX9_comesTo_86 : decode cX9_comesTo 86 = .ok (.getfield 53, 3) := by decide +kernel
theorem dX9_comesTo_89 : decode cX9_comesTo 89 = .ok (.iload 5, 2) := by decide +kernel
theorem dX9_comesTo_91 : decode cX9_comesTo 91 = .ok (.iconst 1, 1) := by decide +kernel
theorem dX9_comesTo_92 : decode cX9_comesTo 92 = .ok (.isub, 1) := by decide +kernel
theorem dX9_comesTo_93 : decode cX9_comesTo 93 = .ok (.iaload, 1) := by decide +kernel
theorem dX9_comesTo_94 : decode cX9_comesTo 94 = .ok (.iastore, 1) := by decide +kernel
theorem dX9_comesTo_95 : decode cX9_comesTo 95 = .ok (.aload_n 0, 1) := by decide +kernel
theorem dX9_comesTo_96 : decode cX9_comesTo 96 = .ok (.getfield 56, 3) := by decide +kernel
theorem dX9_comesTo_99 : decode cX9_comesTo 99 = .ok (.iload 5, 2) := by decide +kernel
theorem dX9_comesTo_101 : decode cX9_comesTo 101 = .ok (.aload_n 0, 1) := by decide +kernel
theorem dX9_comesTo_102 : decode cX9_comesTo 102 = .ok (.getfield 56, 3) := by decide +kernel
theorem dX9_comesTo_105 : decode cX9_comesTo 105 = .ok (.iload 5, 2) := by decide +kernel
theorem dX9_comesTo_107 : decode cX9_comesTo 107 = .ok (.iconst 1, 1) := by decide +kernel
theorem dX9_comesTo_108 : decode cX9_comesTo 108 = .ok (.isub, 1) := by decide +kernel
theorem dX9_comesTo_109 : decode cX9_comesTo 109 = .ok (.iaload, 1) := by decide +kernel
theorem dX9_comesTo_110 : decode cX9_comesTo 110 = .ok (.iastore, 1) := by decide +kernel
theorem dX9_comesTo_111 : decode cX9_comesTo 111 = .ok (.aload_n 0, 1) := by decide +kernel
theorem dX9_comesTo_112 : decode cX9_comesTo 112 = .ok (.getfield 59, 3) := by decide +kernel
theorem dX9_comesTo_115 : decode cX9_comesTo 115 = .ok (.iload 5, 2) := by decide +kernel
theorem dX9_comesTo_117 : decode cX9_comesTo 117 = .ok (.aload_n 0, 1) := by decide +kernel
theorem dX9_comesTo_118 : decode cX9_comesTo 118 = .ok (.getfield 59, 3) := by decide +kernel
theorem dX9_comesTo_121 : decode cX9_comesTo 121 = .ok (.iload 5, 2) := by decide +kernel
theorem dX9_comesTo_123 : decode cX9_comesTo 123 = .ok (.iconst 1, 1) := by decide +kernel
theorem dX9_comesTo_124 : decode cX9_comesTo 124 = .ok (.isub, 1) := by decide +kernel
theorem dX9_comesTo_125 : decode cX9_comesTo 125 = .ok (.iaload, 1) := by decide +kernel
theorem dX9_comesTo_126 : decode cX9_comesTo 126 = .ok (.iastore, 1) := by decide +kernel
theorem dX9_comesTo_127 : decode cX9_comesTo 127 = .ok (.iinc 5 (-1), 3) := by decide +kernel
theorem dX9_comesTo_130 : decode cX9_comesTo 130 = .ok (.goto (-58), 3) := by decide +kernel
theorem dX9_comesTo_133 : decode cX9_comesTo 133 = .ok (.aload_n 0, 1) := by decide +kernel
theorem dX9_comesTo_134 : decode cX9_comesTo 134 = .ok (.getfield 53, 3) := by decide +kernel
theorem dX9_comesTo_137 : decode cX9_comesTo 137 = .ok (.iload 4, 2) := by decide +kernel
theorem dX9_comesTo_139 : decode cX9_comesTo 139 = .ok (.iload_n 1, 1) := by decide +kernel
theorem dX9_comesTo_140 : decode cX9_comesTo 140 = .ok (.iastore, 1) := by decide +kernel
theorem dX9_comesTo_141 : decode cX9_comesTo 141 = .ok (.aload_n 0, 1) := by decide +kernel
theorem dX9_comesTo_142 : decode cX9_comesTo 142 = .ok (.getfield 56, 3) := by decide +kernel
theorem dX9_comesTo_145 : decode cX9_comesTo 145 = .ok (.iload 4, 2) := by decide +kernel
theorem dX9_comesTo_147 : decode cX9_comesTo 147 = .ok (.iload_n 3, 1) := by decide +kernel
theorem dX9_comesTo_148 : decode cX9_comesTo 148 = .ok (.iastore, 1) := by decide +kernel
theorem dX9_comesTo_149 : decode cX9_comesTo 149 = .ok (.aload_n 0, 1) := by decide +kernel
theorem dX9_comesTo_150 : decode cX9_comesTo 150 = .ok (.getfield 59, 3) := by decide +kernel
theorem dX9_comesTo_153 : decode cX9_comesTo 153 = .ok (.iload 4, 2) := by decide +kernel
theorem dX9_comesTo_155 : decode cX9_comesTo 155 = .ok (.iload_n 2, 1) := by decide +kernel
theorem dX9_comesTo_156 : decode cX9_comesTo 156 = .ok (.iastore, 1) := by decide +kernel
theorem dX9_comesTo_157 : decode cX9_comesTo 157 = .ok (.aload_n 0, 1) := by decide +kernel
theorem dX9_comesTo_158 : decode cX9_comesTo 158 = .ok (.dup, 1) := by decide +kernel
theorem dX9_comesTo_159 : decode cX9_comesTo 159 = .ok (.getfield 225, 3) := by decide +kernel
theorem dX9_comesTo_162 : decode cX9_comesTo 162 = .ok (.iconst 1, 1) := by decide +kernel
theorem dX9_comesTo_163 : decode cX9_comesTo 163 = .ok (.iadd, 1) := by decide +kernel
theorem dX9_comesTo_164 : decode cX9_comesTo 164 = .ok (.putfield 225, 3) := by decide +kernel
theorem dX9_comesTo_167 : decode cX9_comesTo 167 = .ok (.return_, 1) := by decide +kernel
theorem dX9_tellPiles_0 : decode cX9_tellPiles 0 = .ok (.aload_n 0, 1) := by decide +kernel
theorem dX9_tellPiles_1 : decode cX9_tellPiles 1 = .ok (.iconst 0, 1) := by decide +kernel
theorem dX9_tellPiles_2 : decode cX9_tellPiles 2 = .ok (.putfield 225, 3) := by decide +kernel
theorem dX9_tellPiles_5 : decode cX9_tellPiles 5 = .ok (.iconst 0, 1) := by decide +kernel
theorem dX9_tellPiles_6 : decode cX9_tellPiles 6 = .ok (.istore_n 1, 1) := by decide +kernel
theorem dX9_tellPiles_7 : decode cX9_tellPiles 7 = .ok (.iload_n 1, 1) := by decide +kernel
theorem dX9_tellPiles_8 : decode cX9_tellPiles 8 = .ok (.aload_n 0, 1) := by decide +kernel
theorem dX9_tellPiles_9 : decode cX9_tellPiles 9 = .ok (.getfield 174, 3) := by decide +kernel
theorem dX9_tellPiles_12 : decode cX9_tellPiles 12 = .ok (.if_icmp .ge 44, 3) := by decide +kernel
theorem dX9_tellPiles_15 : decode cX9_tellPiles 15 = .ok (.aload_n 0, 1) := by decide +kernel
theorem dX9_tellPiles_16 : decode cX9_tellPiles 16 = .ok (.aload_n 0, 1) := by decide +kernel
theorem dX9_tellPiles_17 : decode cX9_tellPiles 17 = .ok (.getfield 19, 3) := by decide +kernel
theorem dX9_tellPiles_20 : decode cX9_tellPiles 20 = .ok (.iload_n 1, 1) := by decide +kernel
theorem dX9_tellPiles_21 : decode cX9_tellPiles 21 = .ok (.iaload, 1) := by decide +kernel
theorem dX9_tellPiles_22 : decode cX9_tellPiles 22 = .ok (.invokevirtual 228, 3) := by decide +kernel
theorem dX9_tellPiles_25 : decode cX9_tellPiles 25 = .ok (.istore_n 2, 1) := by decide +kernel
theorem dX9_tellPiles_26 : decode cX9_tellPiles 26 = .ok (.iload_n 2, 1) := by decide +kernel
theorem dX9_tellPiles_27 : decode cX9_tellPiles 27 = .ok (.ifCond .le 23, 3) := by decide +kernel
theorem dX9_tellPiles_30 : decode cX9_tellPiles 30 = .ok (.aload_n 0, 1) := by decide +kernel
theorem dX9_tellPiles_31 : decode cX9_tellPiles 31 = .ok (.getfield 22, 3) := by decide +kernel
theorem dX9_tellPiles_34 : decode cX9_tellPiles 34 = .ok (.iload_n 1, 1) := by decide +kernel
theorem dX9_tellPiles_35 : decode cX9_tellPiles 35 = .ok (.iaload, 1) := by decide +kernel
theorem dX9_tellPiles_36 : decode cX9_tellPiles 36 = .ok (.ifCond .le 14, 3) := by decide +kernel
theorem dX9_tellPiles_39 : decode cX9_tellPiles 39 = .ok (.aload_n 0, 1) := by decide +kernel
theorem dX9_tellPiles_40 : decode cX9_tellPiles 40 = .ok (.iload_n 2, 1) := by decide +kernel
theorem dX9_tellPiles_41 : decode cX9_tellPiles 41 = .ok (.aload_n 0, 1) := by decide +kernel
theorem dX9_tellPiles_42 : decode cX9_tellPiles 42 = .ok (.getfield 22, 3) := by decide +kernel
theorem dX9_tellPiles_45 : decode cX9_tellPiles 45 = .ok (.iload_n 1, 1) := by decide +kernel
theorem dX9_tellPiles_46 : decode cX9_tellPiles 46 = .ok (.iaload, 1) := by decide +kernel
theorem dX9_tellPiles_47 : decode cX9_tellPiles 47 = .ok (.invokevirtual 231, 3) := by decide +kernel
theorem dX9_tellPiles_50 : decode cX9_tellPiles 50 = .ok (.iinc 1 1, 3) := by decide +kernel
theorem dX9_tellPiles_53 : decode cX9_tellPiles 53 = .ok (.goto (-46), 3) := by decide +kernel
theorem dX9_tellPiles_56 : decode cX9_tellPiles 56 = .ok (.return_, 1) := by decide +kernel
theorem dX9_many__0 : decode cX9_many_ 0 = .ok (.iconst 0, 1) := by decide +kernel
theorem dX9_many__1 : decode cX9_many_ 1 = .ok (.istore_n 2, 1) := by decide +kernel
theorem dX9_many__2 : decode cX9_many_ 2 = .ok (.iconst 0, 1) := by decide +kernel
theorem dX9_many__3 : decode cX9_many_ 3 = .ok (.istore_n 3, 1) := by decide +kernel
theorem dX9_many__4 : decode cX9_many_ 4 = .ok (.iload_n 3, 1) := by decide +kernel
theorem dX9_many__5 : decode cX9_many_ 5 = .ok (.aload_n 0, 1) := by decide +kernel
theorem dX9_many__6 : decode cX9_many_ 6 = .ok (.getfield 167, 3) := by decide +kernel
theorem dX9_many__9 : decode cX9_many_ 9 = .ok (.if_icmp .ge 22, 3) := by decide +kernel
theorem dX9_many__12 : decode cX9_many_ 12 = .ok (.aload_n 0, 1) := by decide +kernel
theorem dX9_many__13 : decode cX9_many_ 13 = .ok (.getfield 62, 3) := by decide +kernel
theorem dX9_many__16 : decode cX9_many_ 16 = .ok (.iload_n 3, 1) := by decide +kernel
theorem dX9_many__17 : decode cX9_many_ 17 = .ok (.iaload, 1) := by decide +kernel
theorem dX9_many__18 : decode cX9_many_ 18 = .ok (.iload_n 1, 1) := by decide +kernel
theorem dX9_many__19 : decode cX9_many_ 19 = .ok (.if_icmp .ne 6, 3) := by decide +kernel
theorem dX9_many__22 : decode cX9_many_ 22 = .ok (.iinc 2 1, 3) := by decide +kernel
theorem dX9_many__25 : decode cX9_many_ 25 = .ok (.iinc 3 1, 3) := by decide +kernel
theorem dX9_many__28 : decode cX9_many_ 28 = .ok (.goto (-24), 3) := by decide +kernel
theorem dX9_many__31 : decode cX9_many_ 31 = .ok (.iload_n 2, 1) := by decide +kernel
theorem dX9_many__32 : decode cX9_many_ 32 = .ok (.ireturn, 1) := by decide +kernel
theorem dX9_tellVotes_0 : decode cX9_tellVotes 0 = .ok (.iconst 0, 1) := by decide +kernel
theorem dX9_tellVotes_1 : decode cX9_tellVotes 1 = .ok (.istore_n 1, 1) := by decide +kernel
theorem dX9_tellVotes_2 : decode cX9_tellVotes 2 = .ok (.iload_n 1, 1) := by decide +kernel
theorem dX9_tellVotes_3 : decode cX9_tellVotes 3 = .ok (.aload_n 0, 1) := by decide +kernel
theorem dX9_tellVotes_4 : decode cX9_tellVotes 4 = .ok (.getfield 167, 3) := by decide +kernel
theorem dX9_tellVotes_7 : decode cX9_tellVotes 7 = .ok (.if_icmp .ge 16, 3) := by decide +kernel
theorem dX9_tellVotes_10 : decode cX9_tellVotes 10 = .ok (.aload_n 0, 1) := by decide +kernel
theorem dX9_tellVotes_11 : decode cX9_tellVotes 11 = .ok (.getfield 74, 3) := by decide +kernel
theorem dX9_tellVotes_14 : decode cX9_tellVotes 14 = .ok (.iload_n 1, 1) := by decide +kernel
theorem dX9_tellVotes_15 : decode cX9_tellVotes 15 = .ok (.lconst 0, 1) := by decide +kernel
theorem dX9_tellVotes_16 : decode cX9_tellVotes 16 = .ok (.lastore, 1) := by decide +kernel
theorem dX9_tellVotes_17 : decode cX9_tellVotes 17 = .ok (.iinc 1 1, 3) := by decide +kernel
theorem dX9_tellVotes_20 : decode cX9_tellVotes 20 = .ok (.goto (-18), 3) := by decide +kernel
theorem dX9_tellVotes_23 : decode cX9_tellVotes 23 = .ok (.aload_n 0, 1) := by decide +kernel
theorem dX9_tellVotes_24 : decode cX9_tellVotes 24 = .ok (.lconst 0, 1) := by decide +kernel
theorem dX9_tellVotes_25 : decode cX9_tellVotes 25 = .ok (.putfield 235, 3) := by decide +kernel
theorem dX9_tellVotes_28 : decode cX9_tellVotes 28 = .ok (.iconst 0, 1) := by decide +kernel
theorem dX9_tellVotes_29 : decode cX9_tellVotes 29 = .ok (.istore_n 1, 1) := by decide +kernel
theorem dX9_tellVotes_30 : decode cX9_tellVotes 30 = .ok (.iload_n 1, 1) := by decide +kernel
theorem dX9_tellVotes_31 : decode cX9_tellVotes 31 = .ok (.aload_n 0, 1) := by decide +kernel
theorem dX9_tellVotes_32 : decode cX9_tellVotes 32 = .ok (.getfield 225, 3) := by decide +kernel
theorem dX9_tellVotes_35 : decode cX9_tellVotes 35 = .ok (.if_icmp .ge 102, 3) := by decide +kernel
theorem dX9_tellVotes_38 : decode cX9_tellVotes 38 = .ok (.ldc2_w 200, 3) := by decide +kernel
theorem dX9_tellVotes_41 : decode cX9_tellVotes 41 = .ok (.aload_n 0, 1) := by decide +kernel
theorem dX9_tellVotes_42 : decode cX9_tellVotes 42 = .ok (.getfield 59, 3) := by decide +kernel
theorem dX9_tellVotes_45 : decode cX9_tellVotes 45 = .ok (.iload_n 1, 1) := by decide +kernel
theorem dX9_tellVotes_46 : decode cX9_tellVotes 46 = .ok (.iaload, 1) := by decide +kernel
theorem dX9_tellVotes_47 : decode cX9_tellVotes 47 = .ok (.i2l, 1) := by decide +kernel
theorem dX9_tellVotes_48 : decode cX9_tellVotes 48 = .ok (.lmul, 1) := by decide +kernel
theorem dX9_tellVotes_49 : decode cX9_tellVotes 49 = .ok (.lstore_n 2, 1) := by decide +kernel
theorem dX9_tellVotes_50 : decode cX9_tellVotes 50 = .ok (.iconst 0, 1) := by decide +kernel
theorem dX9_tellVotes_51 : decode cX9_tellVotes 51 = .ok (.istore 4, 2) := by decide +kernel
theorem dX9_tellVotes_53 : decode cX9_tellVotes 53 = .ok (.iload 4, 2) := by decide +kernel
theorem dX9_tellVotes_55 : decode cX9_tellVotes 55 = .ok (.aload_n 0, 1) := by decide +kernel
theorem dX9_tellVotes_56 : decode cX9_tellVotes 56 = .ok (.getfield 53, 3) := by decide +kernel
theorem dX9_tellVotes_59 : decode cX9_tellVotes 59 = .ok (.iload_n 1, 1) := by decide +kernel
theorem dX9_tellVotes_60 : decode cX9_tellVotes 60 = .ok (.iaload, 1) := by decide +kernel
theorem dX9_tellVotes_61 : decode cX9_tellVotes 61 = .ok (.invokestatic 177, 3) := by decide +kernel
theorem dX9_tellVotes_64 : decode cX9_tellVotes 64 = .ok (.if_icmp .ge 57, 3) := by decide +kernel
theorem dX9_tellVotes_67 : decode cX9_tellVotes 67 = .ok (.aload_n 0, 1) := by decide +kernel
theorem dX9_tellVotes_68 : decode cX9_tellVotes 68 = .ok (.getfield 53, 3) := by decide +kernel
theorem dX9_tellVotes_71 : decode cX9_tellVotes 71 = .ok (.iload_n 1, 1) := by decide +kernel
theorem dX9_tellVotes_72 : decode cX9_tellVotes 72 = .ok (.iaload, 1) := by decide +kernel
theorem dX9_tellVotes_73 : decode cX9_tellVotes 73 = .ok (.iload 4, 2) := by decide +kernel
theorem dX9_tellVotes_75 : decode cX9_tellVotes 75 = .ok (.invokestatic 181, 3) := by decide +kernel
theorem dX9_tellVotes_78 : decode cX9_tellVotes 78 = .ok (.iconst 1, 1) := by decide +kernel
theorem dX9_tellVotes_79 : decode cX9_tellVotes 79 = .ok (.isub, 1) := by decide +kernel
theorem dX9_tellVotes_80 : decode cX9_tellVotes 80 = .ok (.istore 5, 2) := by decide +kernel
theorem dX9_tellVotes_82 : decode cX9_tellVotes 82 = .ok (.lload_n 2, 1) := by decide +kernel
theorem dX9_tellVotes_83 : decode cX9_tellVotes 83 = .ok (.aload_n 0, 1) := by decide +kernel
theorem dX9_tellVotes_84 : decode cX9_tellVotes 84 = .ok (.getfield 65, 3) := by decide +kernel
theorem dX9_tellVotes_87 : decode cX9_tellVotes 87 = .ok (.iload 5, 2) := by decide +kernel
theorem dX9_tellVotes_89 : decode cX9_tellVotes 89 = .ok (.iaload, 1) := by decide +kernel
theorem dX9_tellVotes_90 : decode cX9_tellVotes 90 = .ok (.i2l, 1) := by decide +kernel
theorem dX9_tellVotes_91 : decode cX9_tellVotes 91 = .ok (.lmul, 1) := by decide +kernel
theorem dX9_tellVotes_92 : decode cX9_tellVotes 92 = .ok (.ldc2_w 200, 3) := by decide +kernel
theorem dX9_tellVotes_95 : decode cX9_tellVotes 95 = .ok (.ldiv, 1) := by decide +kernel
theorem dX9_tellVotes_96 : decode cX9_tellVotes 96 = .ok (.lstore 6, 2) := by decide +kernel
theorem dX9_tellVotes_98 : decode cX9_tellVotes 98 = .ok (.aload_n 0, 1) := by decide +kernel
theorem dX9_tellVotes_99 : decode cX9_tellVotes 99 = .ok (.getfield 74, 3) := by decide +kernel
theorem dX9_tellVotes_102 : decode cX9_tellVotes 102 = .ok (.iload 5, 2) := by decide +kernel
theorem dX9_tellVotes_104 : decode cX9_tellVotes 104 = .ok (.dup2, 1) := by decide +kernel
theorem dX9_tellVotes_105 : decode cX9_tellVotes 105 = .ok (.laload, 1) := by decide +kernel
theorem dX9_tellVotes_106 : decode cX9_tellVotes 106 = .ok (.lload 6, 2) := by decide +kernel
theorem dX9_tellVotes_108 : decode cX9_tellVotes 108 = .ok (.ladd, 1) := by decide +kernel
theorem dX9_tellVotes_109 : decode cX9_tellVotes 109 = .ok (.lastore, 1) := by decide +kernel
theorem dX9_tellVotes_110 : decode cX9_tellVotes 110 = .ok (.lload_n 2, 1) := by decide +kernel
theorem dX9_tellVotes_111 : decode cX9_tellVotes 111 = .ok (.lload 6, 2) := by decide +kernel
theorem dX9_tellVotes_113 : decode cX9_tellVotes 113 = .ok (.lsub, 1) := by decide +kernel
theorem dX9_tellVotes_114 : decode cX9_tellVotes 114 = .ok (.lstore_n 2, 1) := by decide +kernel
theorem dX9_tellVotes_115 : decode cX9_tellVotes 115 = .ok (.iinc 4 1, 3) := by decide +kernel
theorem dX9_tellVotes_118 : decode cX9_tellVotes 118 = .ok (.goto (-65), 3) := by decide +kernel
theorem dX9_tellVotes_121 : decode cX9_tellVotes 121 = .ok (.aload_n 0, 1) := by decide +kernel
theorem dX9_tellVotes_122 : decode cX9_tellVotes 122 = .ok (.dup, 1) := by decide +kernel
theorem dX9_tellVotes_123 : decode cX9_tellVotes 123 = .ok (.getfield 235, 3) := by decide +kernel
theorem dX9_tellVotes_126 : decode cX9_tellVotes 126 = .ok (.lload_n 2, 1) := by decide +kernel
theorem dX9_tellVotes_127 : decode cX9_tellVotes 127 = .ok (.ladd, 1) := by decide +kernel
theorem dX9_tellVotes_128 : decode cX9_tellVotes 128 = .ok (.putfield 235, 3) := by decide +kernel
theorem dX9_tellVotes_131 : decode cX9_tellVotes 131 = .ok (.iinc 1 1, 3) := by decide +kernel
theorem dX9_tellVotes_134 : decode cX9_tellVotes 134 = .ok (.goto (-104), 3) := by decide +kernel
theorem dX9_tellVotes_137 : decode cX9_tellVotes 137 = .ok (.aload_n 0, 1) := by decide +kernel
theorem dX9_tellVotes_138 : decode cX9_tellVotes 138 = .ok (.lconst 0, 1) := by decide +kernel
theorem dX9_tellVotes_139 : decode cX9_tellVotes 139 = .ok (.putfield 239, 3) := by decide +kernel
theorem dX9_tellVotes_142 : decode cX9_tellVotes 142 = .ok (.iconst 0, 1) := by decide +kernel
theorem dX9_tellVotes_143 : decode cX9_tellVotes 143 = .ok (.istore_n 1, 1) := by decide +kernel
theorem dX9_tellVotes_144 : decode cX9_tellVotes 144 = .ok (.iload_n 1, 1) := by decide +kernel
theorem dX9_tellVotes_145 : decode cX9_tellVotes 145 = .ok (.aload_n 0, 1) := by decide +kernel
theorem dX9_tellVotes_146 : decode cX9_tellVotes 146 = .ok (.getfield 167, 3) := by decide +kernel
theorem dX9_tellVotes_149 : decode cX9_tellVotes 149 = .ok (.if_icmp .ge 24, 3) := by decide +kernel
theorem dX9_tellVotes_152 : decode cX9_tellVotes 152 = .ok (.aload_n 0, 1) := by decide +kernel
theorem dX9_tellVotes_153 : decode cX9_tellVotes 153 = .ok (.dup, 1) := by decide +kernel
theorem dX9_tellVotes_154 : decode cX9_tellVotes 154 = .ok (.getfield 239, 3) := by decide +kernel
theorem dX9_tellVotes_157 : decode cX9_tellVotes 157 = .ok (.aload_n 0, 1) := by decide +kernel
theorem dX9_tellVotes_158 : decode cX9_tellVotes 158 = .ok (.getfield 74, 3) := by decide +kernel
theorem dX9_tellVotes_161 : decode cX9_tellVotes 161 = .ok (.iload_n 1, 1) := by decide +kernel
theorem dX9_tellVotes_162 : decode cX9_tellVotes 162 = .ok (.laload, 1) := by decide +kernel
theorem dX9_tellVotes_163 : decode cX9_tellVotes 163 = .ok (.ladd, 1) := by decide +kernel
theorem dX9_tellVotes_164 : decode cX9_tellVotes 164 = .ok (.putfield 239, 3) := by decide +kernel
theorem dX9_tellVotes_167 : decode cX9_tellVotes 167 = .ok (.iinc 1 1, 3) := by decide +kernel
theorem dX9_tellVotes_170 : decode cX9_tellVotes 170 = .ok (.goto (-26), 3) := by decide +kernel
theorem dX9_tellVotes_173 : decode cX9_tellVotes 173 = .ok (.aload_n 0, 1) := by decide +kernel
theorem dX9_tellVotes_174 : decode cX9_tellVotes 174 = .ok (.aload_n 0, 1) := by decide +kernel
theorem dX9_tellVotes_175 : decode cX9_tellVotes 175 = .ok (.getfield 239, 3) := by decide +kernel
theorem dX9_tellVotes_178 : decode cX9_tellVotes 178 = .ok (.aload_n 0, 1) := by decide +kernel
theorem dX9_tellVotes_179 : decode cX9_tellVotes 179 = .ok (.getfield 25, 3) := by decide +kernel
theorem dX9_tellVotes_182 : decode cX9_tellVotes 182 = .ok (.iconst 1, 1) := by decide +kernel
theorem dX9_tellVotes_183 : decode cX9_tellVotes 183 = .ok (.iadd, 1) := by decide +kernel
theorem dX9_tellVotes_184 : decode cX9_tellVotes 184 = .ok (.i2l, 1) := by decide +kernel
theorem dX9_tellVotes_185 : decode cX9_tellVotes 185 = .ok (.ldiv, 1) := by decide +kernel
theorem dX9_tellVotes_186 : decode cX9_tellVotes 186 = .ok (.lconst 1, 1) := by decide +kernel
theorem dX9_tellVotes_187 : decode cX9_tellVotes 187 = .ok (.ladd, 1) := by decide +kernel
theorem dX9_tellVotes_188 : decode cX9_tellVotes 188 = .ok (.putfield 242, 3) := by decide +kernel
theorem dX9_tellVotes_191 : decode cX9_tellVotes 191 = .ok (.return_, 1) := by decide +kernel
theorem dX9_isAhead_0 : decode cX9_isAhead 0 = .ok (.aload_n 0, 1) := by decide +kernel
theorem dX9_isAhead_1 : decode cX9_isAhead 1 = .ok (.getfield 74, 3) := by decide +kernel
theorem dX9_isAhead_4 : decode cX9_isAhead 4 = .ok (.iload_n 1, 1) := by decide +kernel
theorem dX9_isAhead_5 : decode cX9_isAhead 5 = .ok (.laload, 1) := by decide +kernel
theorem dX9_isAhead_6 : decode cX9_isAhead 6 = .ok (.aload_n 0, 1) := by decide +kernel
theorem dX9_isAhead_7 : decode cX9_isAhead 7 = .ok (.getfield 74, 3) := by decide +kernel
theorem dX9_isAhead_10 : decode cX9_isAhead 10 = .ok (.iload_n 2, 1) := by decide +kernel
theorem dX9_isAhead_11 : decode cX9_isAhead 11 = .ok (.laload, 1) := by decide +kernel
theorem dX9_isAhead_12 : decode cX9_isAhead 12 = .ok (.lcmp, 1) := by decide +kernel
theorem dX9_isAhead_13 : decode cX9_isAhead 13 = .ok (.ifCond .gt 32, 3) := by decide +kernel
theorem dX9_isAhead_16 : decode cX9_isAhead 16 = .ok (.aload_n 0, 1) := by decide +kernel
theorem dX9_isAhead_17 : decode cX9_isAhead 17 = .ok (.getfield 74, 3) := by decide +kernel
theorem dX9_isAhead_20 : decode cX9_isAhead 20 = .ok (.iload_n 1, 1) := by decide +kernel
theorem dX9_isAhead_21 : decode cX9_isAhead 21 = .ok (.laload, 1) := by decide +kernel
theorem dX9_isAhead_22 : decode cX9_isAhead 22 = .ok (.aload_n 0, 1) := by decide +kernel
theorem dX9_isAhead_23 : decode cX9_isAhead 23 = .ok (.getfield 74, 3) := by decide +kernel
theorem dX9_isAhead_26 : decode cX9_isAhead 26 = .ok (.iload_n 2, 1) := by decide +kernel
theorem dX9_isAhead_27 : decode cX9_isAhead 27 = .ok (.laload, 1) := by decide +kernel
theorem dX9_isAhead_28 : decode cX9_isAhead 28 = .ok (.lcmp, 1) := by decide +kernel
theorem dX9_isAhead_29 : decode cX9_isAhead 29 = .ok (.ifCond .ne 20, 3) := by decide +kernel
theorem dX9_isAhead_32 : decode cX9_isAhead 32 = .ok (.aload_n 0, 1) := by decide +kernel
theorem dX9_isAhead_33 : decode cX9_isAhead 33 = .ok (.iload_n 1, 1) := by decide +kernel
theorem dX9_isAhead_34 : decode cX9_isAhead 34 = .ok (.invokevirtual 245, 3) := by decide +kernel
theorem dX9_isAhead_37 : decode cX9_isAhead 37 = .ok (.aload_n 0, 1) := by decide +kernel
theorem dX9_isAhead_38 : decode cX9_isAhead 38 = .ok (.iload_n 2, 1) := by decide +kernel
theorem dX9_isAhead_39 : decode cX9_isAhead 39 = .ok (.invokevirtual 245, 3) := by decide +kernel
theorem dX9_isAhead_42 : decode cX9_isAhead 42 = .ok (.if_icmp .ge 7, 3) := by decide +kernel
theorem dX9_isAhead_45 : decode cX9_isAhead 45 = .ok (.iconst 1, 1) := by decide +kernel
theorem dX9_isAhead_46 : decode cX9_isAhead 46 = .ok (.goto 4, 3) := by decide +kernel
theorem dX9_isAhead_49 : decode cX9_isAhead 49 = .ok (.iconst 0, 1) := by decide +kernel
theorem dX9_isAhead_50 : decode cX9_isAhead 50 = .ok (.ireturn, 1) := by decide +kernel
theorem dX9_becomesElected_0 : decode cX9_becomesElected 0 = .ok (.aload_n 0, 1) := by decide +kernel
theorem dX9_becomesElected_1 : decode cX9_becomesElected 1 = .ok (.getfield 62, 3) := by decide +kernel
theorem dX9_becomesElected_4 : decode cX9_becomesElected 4 = .ok (.iload_n 1, 1) := by decide +kernel
theorem dX9_becomesElected_5 : decode cX9_becomesElected 5 = .ok (.iconst 2, 1) := by decide +kernel
theorem dX9_becomesElected_6 : decode cX9_becomesElected 6 = .ok (.iastore, 1) := by decide +kernel
theorem dX9_becomesElected_7 : decode cX9_becomesElected 7 = .ok (.aload_n 0, 1) := by decide +kernel
theorem dX9_becomesElected_8 : decode cX9_becomesElected 8 = .ok (.getfield 68, 3) := by decide +kernel
theorem dX9_becomesElected_11 : decode cX9_becomesElected 11 = .ok (.iload_n 1, 1) := by decide +kernel
theorem dX9_becomesElected_12 : decode cX9_becomesElected 12 = .ok (.aload_n 0, 1) := by decide +kernel
theorem dX9_becomesElected_13 : decode cX9_becomesElected 13 = .ok (.getfield 248, 3) := by decide +kernel
theorem dX9_becomesElected_16 : decode cX9_becomesElected 16 = .ok (.iastore, 1) := by decide +kernel
theorem dX9_becomesElected_17 : decode cX9_becomesElected 17 = .ok (.aload_n 0, 1) := by decide +kernel
theorem dX9_becomesElected_18 : decode cX9_becomesElected 18 = .ok (.getfield 102, 3) := by decide +kernel
theorem dX9_becomesElected_21 : decode cX9_becomesElected 21 = .ok (.aload_n 0, 1) := by decide +kernel
theorem dX9_becomesElected_22 : decode cX9_becomesElected 22 = .ok (.getfield 248, 3) := by decide +kernel
theorem dX9_becomesElected_25 : decode cX9_becomesElected 25 = .ok (.dup2, 1) := by decide +kernel
theorem dX9_becomesElected_26 : decode cX9_becomesElected 26 = .ok (.iaload, 1) := by decide +kernel
theorem dX9_becomesElected_27 : decode cX9_becomesElected 27 = .ok (.iconst 1, 1) := by decide +kernel
theorem dX9_becomesElected_28 : decode cX9_becomesElected 28 = .ok (.iload_n 1, 1) := by decide +kernel
theorem dX9_becomesElected_29 : decode cX9_becomesElected 29 = .ok (.ishl, 1) := by decide +kernel
theorem dX9_becomesElected_30 : decode cX9_becomesElected 30 = .ok (.ior, 1) := by decide +kernel
theorem dX9_becomesElected_31 : decode cX9_becomesElected 31 = .ok (.iastore, 1) := by decide +kernel
theorem dX9_becomesElected_32 : decode cX9_becomesElected 32 = .ok (.return_, 1) := by decide +kernel
theorem dX9_lines_0 : decode cX9_lines 0 = .ok (.iconst 0, 1) := by decide +kernel
theorem dX9_lines_1 : decode cX9_lines 1 = .ok (.istore_n 1, 1) := by decide +kernel
theorem dX9_lines_2 : decode cX9_lines 2 = .ok (.iload_n 1, 1) := by decide +kernel
theorem dX9_lines_3 : decode cX9_lines 3 = .ok (.aload_n 0, 1) := by decide +kernel
theorem dX9_lines_4 : decode cX9_lines 4 = .ok (.getfield 167, 3) := by decide +kernel
theorem dX9_lines_7 : decode cX9_lines 7 = .ok (.if_icmp .ge 110, 3) := by decide +kernel
theorem dX9_lines_10 : decode cX9_lines 10 = .ok (.aload_n 0, 1) := by decide +kernel
theorem dX9_lines_11 : decode cX9_lines 11 = .ok (.getfield 102, 3) := by decide +kernel
theorem dX9_lines_14 : decode cX9_lines 14 = .ok (.aload_n 0, 1) := by decide +kernel
theorem dX9_lines_15 : decode cX9_lines 15 = .ok (.getfield 248, 3) := by decide +kernel
theorem dX9_lines_18 : decode cX9_lines 18 = .ok (.iaload, 1) := by decide +kernel
theorem dX9_lines_19 : decode cX9_lines 19 = .ok (.iload_n 1, 1) := by decide +kernel
theorem dX9_lines_20 : decode cX9_lines 20 = .ok (.invokestatic 192, 3) := by decide +kernel
theorem dX9_lines_23 : decode cX9_lines 23 = .ok (.ifCond .ne 6, 3) := by decide +kernel
theorem dX9_lines_26 : decode cX9_lines 26 = .ok (.goto 85, 3) := by decide +kernel
theorem dX9_lines_29 : decode cX9_lines 29 = .ok (.aload_n 0, 1) := by decide +kernel
theorem dX9_lines_30 : decode cX9_lines 30 = .ok (.getfield 251, 3) := by decide +kernel
theorem dX9_lines_33 : decode cX9_lines 33 = .ok (.istore_n 2, 1) := by decide +kernel
theorem dX9_lines_34 : decode cX9_lines 34 = .ok (.iload_n 2, 1) := by decide +kernel
theorem dX9_lines_35 : decode cX9_lines 35 = .ok (.ifCond .le 59, 3) := by decide +kernel
theorem dX9_lines_38 : decode cX9_lines 38 = .ok (.aload_n 0, 1) := by decide +kernel
theorem dX9_lines_39 : decode cX9_lines 39 = .ok (.getfield 68, 3) := by decide +kernel
theorem dX9_lines_42 : decode cX9_lines 42 = .ok (.aload_n 0, 1) := by decide +kernel
theorem dX9_lines_43 : decode cX9_lines 43 = .ok (.getfield 71, 3) := by decide +kernel
theorem dX9_lines_46 : decode cX9_lines 46 = .ok (.iload_n 2, 1) := by decide +kernel
theorem dX9_lines_47 : decode cX9_lines 47 = .ok (.iconst 1, 1) := by decide +kernel
theorem dX9_lines_48 : decode cX9_lines 48 = .ok (.isub, 1) := by decide +kernel
theorem dX9_lines_49 : decode cX9_lines 49 = .ok (.iaload, 1) := by decide +kernel
theorem dX9_lines_50 : decode cX9_lines 50 = .ok (.iaload, 1) := by decide +kernel
theorem dX9_lines_51 : decode cX9_lines 51 = .ok (.aload_n 0, 1) := by decide +kernel
theorem dX9_lines_52 : decode cX9_lines 52 = .ok (.getfield 248, 3) := by decide +kernel
theorem dX9_lines_55 : decode cX9_lines 55 = .ok (.if_icmp .ne 39, 3) := by decide +kernel
theorem dX9_lines_58 : decode cX9_lines 58 = .ok (.aload_n 0, 1) := by decide +kernel
theorem dX9_lines_59 : decode cX9_lines 59 = .ok (.iload_n 1, 1) := by decide +kernel
theorem dX9_lines_60 : decode cX9_lines 60 = .ok (.aload_n 0, 1) := by decide +kernel
theorem dX9_lines_61 : decode cX9_lines 61 = .ok (.getfield 71, 3) := by decide +kernel
theorem dX9_lines_64 : decode cX9_lines 64 = .ok (.iload_n 2, 1) := by decide +kernel
theorem dX9_lines_65 : decode cX9_lines 65 = .ok (.iconst 1, 1) := by decide +kernel
theorem dX9_lines_66 : decode cX9_lines 66 = .ok (.isub, 1) := by decide +kernel
theorem dX9_lines_67 : decode cX9_lines 67 = .ok (.iaload, 1) := by decide +kernel
theorem dX9_lines_68 : decode cX9_lines 68 = .ok (.invokevirtual 254, 3) := by decide +kernel
theorem dX9_lines_71 : decode cX9_lines 71 = .ok (.ifCond .eq 23, 3) := by decide +kernel
theorem dX9_lines_74 : decode cX9_lines 74 = .ok (.aload_n 0, 1) := by decide +kernel
theorem dX9_lines_75 : decode cX9_lines 75 = .ok (.getfield 71, 3) := by decide +kernel
theorem dX9_lines_78 : decode cX9_lines 78 = .ok (.iload_n 2, 1) := by decide +kernel
theorem dX9_lines_79 : decode cX9_lines 79 = .ok (.aload_n 0, 1) := by decide +kernel
theorem dX9_lines_80 : decode cX9_lines 80 = .ok (.getfield 71, 3) := by decide +kernel
theorem dX9_lines_83 : decode cX9_lines 83 = .ok (.iload_n 2, 1) := by decide +kernel
theorem dX9_lines_84 : decode cX9_lines 84 = .ok (.iconst 1, 1) := by decide +kernel
theorem dX9_lines_85 : decode cX9_lines 85 = .ok (.isub, 1) := by decide +kernel
theorem dX9_lines_86 : decode cX9_lines 86 = .ok (.iaload, 1) := by decide +kernel
theorem dX9_lines_87 : decode cX9_lines 87 = .ok (.iastore, 1) := by decide +kernel
theorem dX9_lines_88 : decode cX9_lines 88 = .ok (.iinc 2 (-1), 3) := by decide +kernel
theorem dX9_lines_91 : decode cX9_lines 91 = .ok (.goto (-57), 3) := by decide +kernel
theorem dX9_lines_94 : decode cX9_lines 94 = .ok (.aload_n 0, 1) := by decide +kernel
theorem dX9_lines_95 : decode cX9_lines 95 = .ok (.getfield 71, 3) := by decide +kernel
theorem dX9_lines_98 : decode cX9_lines 98 = .ok (.iload_n 2, 1) := by decide +kernel
theorem dX9_lines_99 : decode cX9_lines 99 = .ok (.iload_n 1, 1) := by decide +kernel
theorem dX9_lines_100 : decode cX9_lines 100 = .ok (.iastore, 1) := by decide +kernel
theorem dX9_lines_101 : decode cX9_lines 101 = .ok (.aload_n 0, 1) := by decide +kernel
theorem dX9_lines_102 : decode cX9_lines 102 = .ok (.dup, 1) := by decide +kernel
theorem dX9_lines_103 : decode cX9_lines 103 = .ok (.getfield 251, 3) := by decide +kernel
theorem dX9_lines_106 : decode cX9_lines 106 = .ok (.iconst 1, 1) := by decide +kernel
theorem dX9_lines_107 : decode cX9_lines 107 = .ok (.iadd, 1) := by decide +kernel
theorem dX9_lines_108 : decode cX9_lines 108 = .ok (.putfield 251, 3) := by decide +kernel
theorem dX9_lines_111 : decode cX9_lines 111 = .ok (.iinc 1 1, 3) := by decide +kernel
theorem dX9_lines_114 : decode cX9_lines 114 = .ok (.goto (-112), 3) := by decide +kernel
theorem dX9_lines_117 : decode cX9_lines 117 = .ok (.return_, 1) := by decide +kernel
theorem dX9_fills_0 : decode cX9_fills 0 = .ok (.aload_n 0, 1) := by decide +kernel
theorem dX9_fills_1 : decode cX9_fills 1 = .ok (.invokevirtual 257, 3) := by decide +kernel
theorem dX9_fills_4 : decode cX9_fills 4 = .ok (.aload_n 0, 1) := by decide +kernel
theorem dX9_fills_5 : decode cX9_fills 5 = .ok (.lconst 0, 1) := by decide +kernel
theorem dX9_fills_6 : decode cX9_fills 6 = .ok (.putfield 260, 3) := by decide +kernel
theorem dX9_fills_9 : decode cX9_fills 9 = .ok (.iconst 0, 1) := by decide +kernel
theorem dX9_fills_10 : decode cX9_fills 10 = .ok (.istore_n 1, 1) := by decide +kernel
theorem dX9_fills_11 : decode cX9_fills 11 = .ok (.iload_n 1, 1) := by decide +kernel
theorem dX9_fills_12 : decode cX9_fills 12 = .ok (.aload_n 0, 1) := by decide +kernel
theorem dX9_fills_13 : decode cX9_fills 13 = .ok (.getfield 167, 3) := by decide +kernel
theorem dX9_fills_16 : decode cX9_fills 16 = .ok (.if_icmp .ge 24, 3) := by decide +kernel
theorem dX9_fills_19 : decode cX9_fills 19 = .ok (.aload_n 0, 1) := by decide +kernel
theorem dX9_fills_20 : decode cX9_fills 20 = .ok (.getfield 62, 3) := by decide +kernel
theorem dX9_fills_23 : decode cX9_fills 23 = .ok (.iload_n 1, 1) := by decide +kernel
theorem dX9_fills_24 : decode cX9_fills 24 = .ok (.iaload, 1) := by decide +kernel
theorem dX9_fills_25 : decode cX9_fills 25 = .ok (.iconst 1, 1) := by decide +kernel
theorem dX9_fills_26 : decode cX9_fills 26 = .ok (.if_icmp .ne 8, 3) := by decide +kernel
theorem dX9_fills_29 : decode cX9_fills 29 = .ok (.aload_n 0, 1) := by decide +kernel
theorem dX9_fills_30 : decode cX9_fills 30 = .ok (.iload_n 1, 1) := by decide +kernel
theorem dX9_fills_31 : decode cX9_fills 31 = .ok (.invokevirtual 263, 3) := by decide +kernel
theorem dX9_fills_34 : decode cX9_fills 34 = .ok (.iinc 1 1, 3) := by decide +kernel
theorem dX9_fills_37 : decode cX9_fills 37 = .ok (.goto (-26), 3) := by decide +kernel
theorem dX9_fills_40 : decode cX9_fills 40 = .ok (.aload_n 0, 1) := by decide +kernel
theorem dX9_fills_41 : decode cX9_fills 41 = .ok (.iconst 0, 1) := by decide +kernel
theorem dX9_fills_42 : decode cX9_fills 42 = .ok (.invokevirtual 267, 3) := by decide +kernel
theorem dX9_fills_45 : decode cX9_fills 45 = .ok (.return_, 1) := by decide +kernel
theorem dX9_keepsAnew_0 : decode cX9_keepsAnew 0 = .ok (.iconst 0, 1) := by decide +kernel
theorem dX9_keepsAnew_1 : decode cX9_keepsAnew 1 = .ok (.istore_n 1, 1) := by decide +kernel
theorem dX9_keepsAnew_2 : decode cX9_keepsAnew 2 = .ok (.iload_n 1, 1) := by decide +kernel
theorem dX9_keepsAnew_3 : decode cX9_keepsAnew 3 = .ok (.aload_n 0, 1) := by decide +kernel
theorem dX9_keepsAnew_4 : decode cX9_keepsAnew 4 = .ok (.getfield 167, 3) := by decide +kernel
theorem dX9_keepsAnew_7 : decode cX9_keepsAnew 7 = .ok (.if_icmp .ge 76, 3) := by decide +kernel
theorem dX9_keepsAnew_10 : decode cX9_keepsAnew 10 = .ok (.aload_n 0, 1) := by decide +kernel
theorem dX9_keepsAnew_11 : decode cX9_keepsAnew 11 = .ok (.getfield 62, 3) := by decide +kernel
theorem dX9_keepsAnew_14 : decode cX9_keepsAnew 14 = .ok (.iload_n 1, 1) := by decide +kernel
theorem dX9_keepsAnew_15 : decode cX9_keepsAnew 15 = .ok (.iaload, 1) := by decide +kernel
theorem dX9_keepsAnew_16 : decode cX9_keepsAnew 16 = .ok (.iconst 2, 1) := by decide +kernel
theorem dX9_keepsAnew_17 : decode cX9_keepsAnew 17 = .ok (.if_icmp .ne 60, 3) := by decide +kernel
theorem dX9_keepsAnew_20 : decode cX9_keepsAnew 20 = .ok (.aload_n 0, 1) := by decide +kernel
theorem dX9_keepsAnew_21 : decode cX9_keepsAnew 21 = .ok (.getfield 74, 3) := by decide +kernel
theorem dX9_keepsAnew_24 : decode cX9_keepsAnew 24 = .ok (.iload_n 1, 1) := by decide +kernel
theorem dX9_keepsAnew_25 : decode cX9_keepsAnew 25 = .ok (.laload, 1) := by decide +kernel
theorem dX9_keepsAnew_26 : decode cX9_keepsAnew 26 = .ok (.lconst 0, 1) := by decide +kernel
theorem dX9_keepsAnew_27 : decode cX9_keepsAnew 27 = .ok (.lcmp, 1) := by decide +kernel
theorem dX9_keepsAnew_28 : decode cX9_keepsAnew 28 = .ok (.ifCond .ne 6, 3) := by decide +kernel
theorem dX9_keepsAnew_31 : decode cX9_keepsAnew 31 = .ok (.goto 46, 3) := by decide +kernel
theorem dX9_keepsAnew_34 : decode cX9_keepsAnew 34 = .ok (.aload_n 0, 1) := by decide +kernel
theorem dX9_keepsAnew_35 : decode cX9_keepsAnew 35 = .ok (.getfield 65, 3) := by decide +kernel
theorem dX9_keepsAnew_38 : decode cX9_keepsAnew 38 = .ok (.iload_n 1, 1) := by decide +kernel
theorem dX9_keepsAnew_39 : decode cX9_keepsAnew 39 = .ok (.iaload, 1) := by decide +kernel
theorem dX9_keepsAnew_40 : decode cX9_keepsAnew 40 = .ok (.i2l, 1) := by decide +kernel
theorem dX9_keepsAnew_41 : decode cX9_keepsAnew 41 = .ok (.aload_n 0, 1) := by decide +kernel
theorem dX9_keepsAnew_42 : decode cX9_keepsAnew 42 = .ok (.getfield 242, 3) := by decide +kernel
theorem dX9_keepsAnew_45 : decode cX9_keepsAnew 45 = .ok (.lmul, 1) := by decide +kernel
theorem dX9_keepsAnew_46 : decode cX9_keepsAnew 46 = .ok (.aload_n 0, 1) := by decide +kernel
theorem dX9_keepsAnew_47 : decode cX9_keepsAnew 47 = .ok (.getfield 74, 3) := by decide +kernel
theorem dX9_keepsAnew_50 : decode cX9_keepsAnew 50 = .ok (.iload_n 1, 1) := by decide +kernel
theorem dX9_keepsAnew_51 : decode cX9_keepsAnew 51 = .ok (.laload, 1) := by decide +kernel
theorem dX9_keepsAnew_52 : decode cX9_keepsAnew 52 = .ok (.ladd, 1) := by decide +kernel
theorem dX9_keepsAnew_53 : decode cX9_keepsAnew 53 = .ok (.lconst 1, 1) := by decide +kernel
theorem dX9_keepsAnew_54 : decode cX9_keepsAnew 54 = .ok (.lsub, 1) := by decide +kernel
theorem dX9_keepsAnew_55 : decode cX9_keepsAnew 55 = .ok (.aload_n 0, 1) := by decide +kernel
theorem dX9_keepsAnew_56 : decode cX9_keepsAnew 56 = .ok (.getfield 74, 3) := by decide +kernel
theorem dX9_keepsAnew_59 : decode cX9_keepsAnew 59 = .ok (.iload_n 1, 1) := by decide +kernel
theorem dX9_keepsAnew_60 : decode cX9_keepsAnew 60 = .ok (.laload, 1) := by decide +kernel
theorem dX9_keepsAnew_61 : decode cX9_keepsAnew 61 = .ok (.ldiv, 1) := by decide +kernel
theorem dX9_keepsAnew_62 : decode cX9_keepsAnew 62 = .ok (.lstore_n 2, 1) := by decide +kernel
theorem dX9_keepsAnew_63 : decode cX9_keepsAnew 63 = .ok (.aload_n 0, 1) := by decide +kernel
theorem dX9_keepsAnew_64 : decode cX9_keepsAnew 64 = .ok (.getfield 65, 3) := by decide +kernel
theorem dX9_keepsAnew_67 : decode cX9_keepsAnew 67 = .ok (.iload_n 1, 1) := by decide +kernel
theorem dX9_keepsAnew_68 : decode cX9_keepsAnew 68 = .ok (.ldc2_w 200, 3) := by decide +kernel
theorem dX9_keepsAnew_71 : decode cX9_keepsAnew 71 = .ok (.lload_n 2, 1) := by decide +kernel
theorem dX9_keepsAnew_72 : decode cX9_keepsAnew 72 = .ok (.invokestatic 270, 3) := by decide +kernel
theorem dX9_keepsAnew_75 : decode cX9_keepsAnew 75 = .ok (.l2i, 1) := by decide +kernel
theorem dX9_keepsAnew_76 : decode cX9_keepsAnew 76 = .ok (.iastore, 1) := by decide +kernel
theorem dX9_keepsAnew_77 : decode cX9_keepsAnew 77 = .ok (.iinc 1 1, 3) := by decide +kernel
theorem dX9_keepsAnew_80 : decode cX9_keepsAnew 80 = .ok (.goto (-78), 3) := by decide +kernel
theorem dX9_keepsAnew_83 : decode cX9_keepsAnew 83 = .ok (.return_, 1) := by decide +kernel
theorem dX9_elects_0 : decode cX9_elects 0 = .ok (.iconst 0, 1) := by decide +kernel
theorem dX9_elects_1 : decode cX9_elects 1 = .ok (.istore_n 1, 1) := by decide +kernel
theorem dX9_elects_2 : decode cX9_elects 2 = .ok (.aload_n 0, 1) := by decide +kernel
theorem dX9_elects_3 : decode cX9_elects 3 = .ok (.iconst 2, 1) := by decide +kernel
theorem dX9_elects_4 : decode cX9_elects 4 = .ok (.invokevirtual 276, 3) := by decide +kernel
theorem dX9_elects_7 : decode cX9_elects 7 = .ok (.aload_n 0, 1) := by decide +kernel
theorem dX9_elects_8 : decode cX9_elects 8 = .ok (.getfield 25, 3) := by decide +kernel
theorem dX9_elects_11 : decode cX9_elects 11 = .ok (.if_icmp .ge 78, 3) := by decide +kernel
theorem dX9_elects_14 : decode cX9_elects 14 = .ok (.iconst (-1), 1) := by decide +kernel
theorem dX9_elects_15 : decode cX9_elects 15 = .ok (.istore_n 2, 1) := by decide +kernel
theorem dX9_elects_16 : decode cX9_elects 16 = .ok (.iconst 0, 1) := by decide +kernel
theorem dX9_elects_17 : decode cX9_elects 17 = .ok (.istore_n 3, 1) := by decide +kernel
theorem dX9_elects_18 : decode cX9_elects 18 = .ok (.iload_n 3, 1) := by decide +kernel
theorem dX9_elects_19 : decode cX9_elects 19 = .ok (.aload_n 0, 1) := by decide +kernel
theorem dX9_elects_20 : decode cX9_elects 20 = .ok (.getfield 167, 3) := by decide +kernel
theorem dX9_elects_23 : decode cX9_elects 23 = .ok (.if_icmp .ge 49, 3) := by decide +kernel
theorem dX9_elects_26 : decode cX9_elects 26 = .ok (.aload_n 0, 1) := by decide +kernel
theorem dX9_elects_27 : decode cX9_elects 27 = .ok (.getfield 62, 3) := by decide +kernel
theorem dX9_elects_30 : decode cX9_elects 30 = .ok (.iload_n 3, 1) := by decide +kernel
theorem dX9_elects_31 : decode cX9_elects 31 = .ok (.iaload, 1) := by decide +kernel
theorem dX9_elects_32 : decode cX9_elects 32 = .ok (.iconst 1, 1) := by decide +kernel
theorem dX9_elects_33 : decode cX9_elects 33 = .ok (.if_icmp .ne 33, 3) := by decide +kernel
theorem dX9_elects_36 : decode cX9_elects 36 = .ok (.aload_n 0, 1) := by decide +kernel
theorem dX9_elects_37 : decode cX9_elects 37 = .ok (.getfield 74, 3) := by decide +kernel
theorem dX9_elects_40 : decode cX9_elects 40 = .ok (.iload_n 3, 1) := by decide +kernel
theorem dX9_elects_41 : decode cX9_elects 41 = .ok (.laload, 1) := by decide +kernel
theorem dX9_elects_42 : decode cX9_elects 42 = .ok (.aload_n 0, 1) := by decide +kernel
theorem dX9_elects_43 : decode cX9_elects 43 = .ok (.getfield 242, 3) := by decide +kernel
theorem dX9_elects_46 : decode cX9_elects 46 = .ok (.lcmp, 1) := by decide +kernel
theorem dX9_elects_47 : decode cX9_elects 47 = .ok (.ifCond .lt 19, 3) := by decide +kernel
theorem dX9_elects_50 : decode cX9_elects 50 = .ok (.iload_n 2, 1) := by decide +kernel
theorem dX9_elects_51 : decode cX9_elects 51 = .ok (.iconst (-1), 1) := by decide +kernel
theorem dX9_elects_52 : decode cX9_elects 52 = .ok (.if_icmp .eq 12, 3) := by decide +kernel
theorem dX9_elects_55 : decode cX9_elects 55 = .ok (.aload_n 0, 1) := by decide +kernel
theorem dX9_elects_56 : decode cX9_elects 56 = .ok (.iload_n 3, 1) := by decide +kernel
theorem dX9_elects_57 : decode cX9_elects 57 = .ok (.iload_n 2, 1) := by decide +kernel
theorem dX9_elects_58 : decode cX9_elects 58 = .ok (.invokevirtual 254, 3) := by decide +kernel
theorem dX9_elects_61 : decode cX9_elects 61 = .ok (.ifCond .eq 5, 3) := by decide +kernel
theorem dX9_elects_64 : decode cX9_elects 64 = .ok (.iload_n 3, 1) := by decide +kernel
theorem dX9_elects_65 : decode cX9_elects 65 = .ok (.istore_n 2, 1) := by decide +kernel
theorem dX9_elects_66 : decode cX9_elects 66 = .ok (.iinc 3 1, 3) := by decide +kernel
theorem dX9_elects_69 : decode cX9_elects 69 = .ok (.goto (-51), 3) := by decide +kernel
theorem dX9_elects_72 : decode cX9_elects 72 = .ok (.iload_n 2, 1) := by decide +kernel
theorem dX9_elects_73 : decode cX9_elects 73 = .ok (.iconst (-1), 1) := by decide +kernel
theorem dX9_elects_74 : decode cX9_elects 74 = .ok (.if_icmp .ne 5, 3) := by decide +kernel
theorem dX9_elects_77 : decode cX9_elects 77 = .ok (.iload_n 1, 1) := by decide +kernel
theorem dX9_elects_78 : decode cX9_elects 78 = .ok (.ireturn, 1) := by decide +kernel
theorem dX9_elects_79 : decode cX9_elects 79 = .ok (.aload_n 0, 1) := by decide +kernel
theorem dX9_elects_80 : decode cX9_elects 80 = .ok (.iload_n 2, 1) := by decide +kernel
theorem dX9_elects_81 : decode cX9_elects 81 = .ok (.invokevirtual 263, 3) := by decide +kernel
theorem dX9_elects_84 : decode cX9_elects 84 = .ok (.iconst 1, 1) := by decide +kernel
theorem dX9_elects_85 : decode cX9_elects 85 = .ok (.istore_n 1, 1) := by decide +kernel
theorem dX9_elects_86 : decode cX9_elects 86 = .ok (.goto (-84), 3) := by decide +kernel
theorem dX9_elects_89 : decode cX9_elects 89 = .ok (.iload_n 1, 1) := by decide +kernel
theorem dX9_elects_90 : decode cX9_elects 90 = .ok (.ireturn, 1) := by decide +kernel
theorem dX9_tellSurplus_0 : decode cX9_tellSurplus 0 = .ok (.aload_n 0, 1) := by decide +kernel
theorem dX9_tellSurplus_1 : decode cX9_tellSurplus 1 = .ok (.lconst 0, 1) := by decide +kernel
theorem dX9_tellSurplus_2 : decode cX9_tellSurplus 2 = .ok (.putfield 260, 3) := by decide +kernel
theorem dX9_tellSurplus_5 : decode cX9_tellSurplus 5 = .ok (.iconst 0, 1) := by decide +kernel
theorem dX9_tellSurplus_6 : decode cX9_tellSurplus 6 = .ok (.istore_n 1, 1) := by decide +kernel
theorem dX9_tellSurplus_7 : decode cX9_tellSurplus 7 = .ok (.iload_n 1, 1) := by decide +kernel
theorem dX9_tellSurplus_8 : decode cX9_tellSurplus 8 = .ok (.aload_n 0, 1) := by decide +kernel
theorem dX9_tellSurplus_9 : decode cX9_tellSurplus 9 = .ok (.getfield 167, 3) := by decide +kernel
theorem dX9_tellSurplus_12 : decode cX9_tellSurplus 12 = .ok (.if_icmp .ge 53, 3) := by decide +kernel
theorem dX9_tellSurplus_15 : decode cX9_tellSurplus 15 = .ok (.aload_n 0, 1) := by decide +kernel
theorem dX9_tellSurplus_16 : decode cX9_tellSurplus 16 = .ok (.getfield 62, 3) := by decide +kernel
theorem dX9_tellSurplus_19 : decode cX9_tellSurplus 19 = .ok (.iload_n 1, 1) := by decide +kernel
theorem dX9_tellSurplus_20 : decode cX9_tellSurplus 20 = .ok (.iaload, 1) := by decide +kernel
theorem dX9_tellSurplus_21 : decode cX9_tellSurplus 21 = .ok (.iconst 2, 1) := by decide +kernel
theorem dX9_tellSurplus_22 : decode cX9_tellSurplus 22 = .ok (.if_icmp .ne 37, 3) := by decide +kernel
theorem dX9_tellSurplus_25 : decode cX9_tellSurplus 25 = .ok (.aload_n 0, 1) := by decide +kernel
theorem dX9_tellSurplus_26 : decode cX9_tellSurplus 26 = .ok (.getfield 74, 3) := by decide +kernel
theorem dX9_tellSurplus_29 : decode cX9_tellSurplus 29 = .ok (.iload_n 1, 1) := by decide +kernel
theorem dX9_tellSurplus_30 : decode cX9_tellSurplus 30 = .ok (.laload, 1) := by decide +kernel
theorem dX9_tellSurplus_31 : decode cX9_tellSurplus 31 = .ok (.aload_n 0, 1) := by decide +kernel
theorem dX9_tellSurplus_32 : decode cX9_tellSurplus 32 = .ok (.getfield 242, 3) := by decide +kernel
theorem dX9_tellSurplus_35 : decode cX9_tellSurplus 35 = .ok (.lcmp, 1) := by decide +kernel
theorem dX9_tellSurplus_36 : decode cX9_tellSurplus 36 = .ok (.ifCond .le 23, 3) := by decide +kernel
theorem dX9_tellSurplus_39 : decode cX9_tellSurplus 39 = .ok (.aload_n 0, 1) := by decide +kernel
theorem dX9_tellSurplus_40 : decode cX9_tellSurplus 40 = .ok (.dup, 1) := by decide +kernel
theorem dX9_tellSurplus_41 : decode cX9_tellSurplus 41 = .ok (.getfield 260, 3) := by decide +kernel
theorem dX9_tellSurplus_44 : decode cX9_tellSurplus 44 = .ok (.aload_n 0, 1) := by decide +kernel
theorem dX9_tellSurplus_45 : decode cX9_tellSurplus 45 = .ok (.getfield 74, 3) := by decide +kernel
theorem dX9_tellSurplus_48 : decode cX9_tellSurplus 48 = .ok (.iload_n 1, 1) := by decide +kernel
theorem dX9_tellSurplus_49 : decode cX9_tellSurplus 49 = .ok (.laload, 1) := by decide +kernel
theorem dX9_tellSurplus_50 : decode cX9_tellSurplus 50 = .ok (.aload_n 0, 1) := by decide +kernel
theorem dX9_tellSurplus_51 : decode cX9_tellSurplus 51 = .ok (.getfield 242, 3) := by decide +kernel
theorem dX9_tellSurplus_54 : decode cX9_tellSurplus 54 = .ok (.lsub, 1) := by decide +kernel
theorem dX9_tellSurplus_55 : decode cX9_tellSurplus 55 = .ok (.ladd, 1) := by decide +kernel
theorem dX9_tellSurplus_56 : decode cX9_tellSurplus 56 = .ok (.putfield 260, 3) := by decide +kernel
theorem dX9_tellSurplus_59 : decode cX9_tellSurplus 59 = .ok (.iinc 1 1, 3) := by decide +kernel
theorem dX9_tellSurplus_62 : decode cX9_tellSurplus 62 = .ok (.goto (-55), 3) := by decide +kernel
theorem dX9_tellSurplus_65 : decode cX9_tellSurplus 65 = .ok (.return_, 1) := by decide +kernel
theorem dX9_goesRather_0 : decode cX9_goesRather 0 = .ok (.aload_n 0, 1) := by decide +kernel
theorem dX9_goesRather_1 : decode cX9_goesRather 1 = .ok (.getfield 74, 3) := by decide +kernel
theorem dX9_goesRather_4 : decode cX9_goesRather 4 = .ok (.iload_n 1, 1) := by decide +kernel
theorem dX9_goesRather_5 : decode cX9_goesRather 5 = .ok (.laload, 1) := by decide +kernel
theorem dX9_goesRather_6 : decode cX9_goesRather 6 = .ok (.aload_n 0, 1) := by decide +kernel
theorem dX9_goesRather_7 : decode cX9_goesRather 7 = .ok (.getfield 74, 3) := by decide +kernel
theorem dX9_goesRather_10 : decode cX9_goesRather 10 = .ok (.iload_n 2, 1) := by decide +kernel
theorem dX9_goesRather_11 : decode cX9_goesRather 11 = .ok (.laload, 1) := by decide +kernel
theorem dX9_goesRather_12 : decode cX9_goesRather 12 = .ok (.lcmp, 1) := by decide +kernel
theorem dX9_goesRather_13 : decode cX9_goesRather 13 = .ok (.ifCond .eq 25, 3) := by decide +kernel
theorem dX9_goesRather_16 : decode cX9_goesRather 16 = .ok (.aload_n 0, 1) := by decide +kernel
theorem dX9_goesRather_17 : decode cX9_goesRather 17 = .ok (.getfield 74, 3) := by decide +kernel
theorem dX9_goesRather_20 : decode cX9_goesRather 20 = .ok (.iload_n 1, 1) := by decide +kernel
theorem dX9_goesRather_21 : decode cX9_goesRather 21 = .ok (.laload, 1) := by decide +kernel
theorem dX9_goesRather_22 : decode cX9_goesRather 22 = .ok (.aload_n 0, 1) := by decide +kernel
theorem dX9_goesRather_23 : decode cX9_goesRather 23 = .ok (.getfield 74, 3) := by decide +kernel
theorem dX9_goesRather_26 : decode cX9_goesRather 26 = .ok (.iload_n 2, 1) := by decide +kernel
theorem dX9_goesRather_27 : decode cX9_goesRather 27 = .ok (.laload, 1) := by decide +kernel
theorem dX9_goesRather_28 : decode cX9_goesRather 28 = .ok (.lcmp, 1) := by decide +kernel
theorem dX9_goesRather_29 : decode cX9_goesRather 29 = .ok (.ifCond .ge 7, 3) := by decide +kernel
theorem dX9_goesRather_32 : decode cX9_goesRather 32 = .ok (.iconst 1, 1) := by decide +kernel
theorem dX9_goesRather_33 : decode cX9_goesRather 33 = .ok (.goto 4, 3) := by decide +kernel
theorem dX9_goesRather_36 : decode cX9_goesRather 36 = .ok (.iconst 0, 1) := by decide +kernel
theorem dX9_goesRather_37 : decode cX9_goesRather 37 = .ok (.ireturn, 1) := by decide +kernel
theorem dX9_goesRather_38 : decode cX9_goesRather 38 = .ok (.aload_n 0, 1) := by decide +kernel
theorem dX9_goesRather_39 : decode cX9_goesRather 39 = .ok (.getfield 248, 3) := by decide +kernel
theorem dX9_goesRather_42 : decode cX9_goesRather 42 = .ok (.iconst 1, 1) := by decide +kernel
theorem dX9_goesRather_43 : decode cX9_goesRather 43 = .ok (.isub, 1) := by decide +kernel
theorem dX9_goesRather_44 : decode cX9_goesRather 44 = .ok (.istore_n 3, 1) := by decide +kernel
theorem dX9_goesRather_45 : decode cX9_goesRather 45 = .ok (.iload_n 3, 1) := by decide +kernel
theorem dX9_goesRather_46 : decode cX9_goesRather 46 = .ok (.ifCond .lt 57, 3) := by decide +kernel
theorem dX9_goesRather_49 : decode cX9_goesRather 49 = .ok (.aload_n 0, 1) := by decide +kernel
theorem dX9_goesRather_50 : decode cX9_goesRather 50 = .ok (.getfield 78, 3) := by decide +kernel
theorem dX9_goesRather_53 : decode cX9_goesRather 53 = .ok (.bipush 8, 2) := by decide +kernel
theorem dX9_goesRather_55 : decode cX9_goesRather 55 = .ok (.iload_n 3, 1) := by decide +kernel
theorem dX9_goesRather_56 : decode cX9_goesRather 56 = .ok (.imul, 1) := by decide +kernel
theorem dX9_goesRather_57 : decode cX9_goesRather 57 = .ok (.iload_n 1, 1) := by decide +kernel
theorem dX9_goesRather_58 : decode cX9_goesRather 58 = .ok (.iadd, 1) := by decide +kernel
theorem dX9_goesRather_59 : decode cX9_goesRather 59 = .ok (.laload, 1) := by decide +kernel
theorem dX9_goesRather_60 : decode cX9_goesRather 60 = .ok (.lstore 4, 2) := by decide +kernel
theorem dX9_goesRather_62 : decode cX9_goesRather 62 = .ok (.aload_n 0, 1) := by decide +kernel
theorem dX9_goesRather_63 : decode cX9_goesRather 63 = .ok (.getfield 78, 3) := by decide +kernel
theorem dX9_goesRather_66 : decode cX9_goesRather 66 = .ok (.bipush 8, 2) := by decide +kernel
theorem dX9_goesRather_68 : decode cX9_goesRather 68 = .ok (.iload_n 3, 1) := by decide +kernel
theorem dX9_goesRather_69 : decode cX9_goesRather 69 = .ok (.imul, 1) := by decide +kernel
theorem dX9_goesRather_70 : decode cX9_goesRather 70 = .ok (.iload_n 2, 1) := by decide +kernel
theorem dX9_goesRather_71 : decode cX9_goesRather 71 = .ok (.iadd, 1) := by decide +kernel
theorem dX9_goesRather_72 : decode cX9_goesRather 72 = .ok (.laload, 1) := by decide +kernel
theorem dX9_goesRather_73 : decode cX9_goesRather 73 = .ok (.lstore 6, 2) := by decide +kernel
theorem dX9_goesRather_75 : decode cX9_goesRather 75 = .ok (.lload 4, 2) := by decide +kernel
theorem dX9_goesRather_77 : decode cX9_goesRather 77 = .ok (.lload 6, 2) := by decide +kernel
theorem dX9_goesRather_79 : decode cX9_goesRather 79 = .ok (.lcmp, 1) := by decide +kernel
theorem dX9_goesRather_80 : decode cX9_goesRather 80 = .ok (.ifCond .eq 17, 3) := by decide +kernel
theorem dX9_goesRather_83 : decode cX9_goesRather 83 = .ok (.lload 4, 2) := by decide +kernel
theorem dX9_goesRather_85 : decode cX9_goesRather 85 = .ok (.lload 6, 2) := by decide +kernel
theorem dX9_goesRather_87 : decode cX9_goesRather 87 = .ok (.lcmp, 1) := by decide +kernel
theorem dX9_goesRather_88 : decode cX9_goesRather 88 = .ok (.ifCond .ge 7, 3) := by decide +kernel
theorem dX9_goesRather_91 : decode cX9_goesRather 91 = .ok (.iconst 1, 1) := by decide +kernel
theorem dX9_goesRather_92 : decode cX9_goesRather 92 = .ok (.goto 4, 3) := by decide +kernel
theorem dX9_goesRather_95 : decode cX9_goesRather 95 = .ok (.iconst 0, 1) := by decide +kernel
theorem dX9_goesRather_96 : decode cX9_goesRather 96 = .ok (.ireturn, 1) := by decide +kernel
theorem dX9_goesRather_97 : decode cX9_goesRather 97 = .ok (.iinc 3 (-1), 3) := by decide +kernel
theorem dX9_goesRather_100 : decode cX9_goesRather 100 = .ok (.goto (-55), 3) := by decide +kernel
theorem dX9_goesRather_103 : decode cX9_goesRather 103 = .ok (.aload_n 0, 1) := by decide +kernel
theorem dX9_goesRather_104 : decode cX9_goesRather 104 = .ok (.iload_n 1, 1) := by decide +kernel
theorem dX9_goesRather_105 : decode cX9_goesRather 105 = .ok (.invokevirtual 245, 3) := by decide +kernel
theorem dX9_goesRather_108 : decode cX9_goesRather 108 = .ok (.aload_n 0, 1) := by decide +kernel
theorem dX9_goesRather_109 : decode cX9_goesRather 109 = .ok (.iload_n 2, 1) := by decide +kernel
theorem dX9_goesRather_110 : decode cX9_goesRather 110 = .ok (.invokevirtual 245, 3) := by decide +kernel
theorem dX9_goesRather_113 : decode cX9_goesRather 113 = .ok (.if_icmp .le 7, 3) := by decide +kernel
theorem dX9_goesRather_116 : decode cX9_goesRather 116 = .ok (.iconst 1, 1) := by decide +kernel
theorem dX9_goesRather_117 : decode cX9_goesRather 117 = .ok (.goto 4, 3) := by decide +kernel
theorem dX9_goesRather_120 : decode cX9_goesRather 120 = .ok (.iconst 0, 1) := by decide +kernel
theorem dX9_goesRather_121 : decode cX9_goesRather 121 = .ok (.ireturn, 1) := by decide +kernel
theorem dX9_worst_0 : decode cX9_worst 0 = .ok (.iconst (-1), 1) := by decide +kernel
theorem dX9_worst_1 : decode cX9_worst 1 = .ok (.istore_n 1, 1) := by decide +kernel
theorem dX9_worst_2 : decode cX9_worst 2 = .ok (.iconst 0, 1) := by decide +kernel
theorem dX9_worst_3 : decode cX9_worst 3 = .ok (.istore_n 2, 1) := by decide +kernel
theorem dX9_worst_4 : decode cX9_worst 4 = .ok (.iload_n 2, 1) := by decide +kernel
theorem dX9_worst_5 : decode cX9_worst 5 = .ok (.aload_n 0, 1) := by decide +kernel
theorem dX9_worst_6 : decode cX9_worst 6 = .ok (.getfield 167, 3) := by decide +kernel
theorem dX9_worst_9 : decode cX9_worst 9 = .ok (.if_icmp .ge 35, 3) := by decide +kernel
theorem dX9_worst_12 : decode cX9_worst 12 = .ok (.aload_n 0, 1) := by decide +kernel
theorem dX9_worst_13 : decode cX9_worst 13 = .ok (.getfield 62, 3) := by decide +kernel
theorem dX9_worst_16 : decode cX9_worst 16 = .ok (.iload_n 2, 1) := by decide +kernel
theorem dX9_worst_17 : decode cX9_worst 17 = .ok (.iaload, 1) := by decide +kernel
theorem dX9_worst_18 : decode cX9_worst 18 = .ok (.iconst 1, 1) := by decide +kernel
theorem dX9_worst_19 : decode cX9_worst 19 = .ok (.if_icmp .ne 19, 3) := by decide +kernel
theorem dX9_worst_22 : decode cX9_worst 22 = .ok (.iload_n 1, 1) := by decide +kernel
theorem dX9_worst_23 : decode cX9_worst 23 = .ok (.iconst (-1), 1) := by decide +kernel
theorem dX9_worst_24 : decode cX9_worst 24 = .ok (.if_icmp .eq 12, 3) := by decide +kernel
theorem dX9_worst_27 : decode cX9_worst 27 = .ok (.aload_n 0, 1) := by decide +kernel
theorem dX9_worst_28 : decode cX9_worst 28 = .ok (.iload_n 2, 1) := by decide +kernel
theorem dX9_worst_29 : decode cX9_worst 29 = .ok (.iload_n 1, 1) := by decide +kernel
theorem dX9_worst_30 : decode cX9_worst 30 = .ok (.invokevirtual 279, 3) := by decide +kernel
theorem dX9_worst_33 : decode cX9_worst 33 = .ok (.ifCond .eq 5, 3) := by decide +kernel
theorem dX9_worst_36 : decode cX9_worst 36 = .ok (.iload_n 2, 1) := by decide +kernel
theorem dX9_worst_37 : decode cX9_worst 37 = .ok (.istore_n 1, 1) := by decide +kernel
theorem dX9_worst_38 : decode cX9_worst 38 = .ok (.iinc 2 1, 3) := by decide +kernel
theorem dX9_worst_41 : decode cX9_worst 41 = .ok (.goto (-37), 3) := by decide +kernel
theorem dX9_worst_44 : decode cX9_worst 44 = .ok (.iload_n 1, 1) := by decide +kernel
theorem dX9_worst_45 : decode cX9_worst 45 = .ok (.ireturn, 1) := by decide +kernel
theorem dX9_endsStage_0 : decode cX9_endsStage 0 = .ok (.iconst 0, 1) := by decide +kernel
theorem dX9_endsStage_1 : decode cX9_endsStage 1 = .ok (.istore_n 2, 1) := by decide +kernel
theorem dX9_endsStage_2 : decode cX9_endsStage 2 = .ok (.iload_n 2, 1) := by decide +kernel
theorem dX9_endsStage_3 : decode cX9_endsStage 3 = .ok (.aload_n 0, 1) := by decide +kernel
theorem dX9_endsStage_4 : decode cX9_endsStage 4 = .ok (.getfield 167, 3) := by decide +kernel
theorem dX9_endsStage_7 : decode cX9_endsStage 7 = .ok (.if_icmp .ge 49, 3) := by decide +kernel
theorem dX9_endsStage_10 : decode cX9_endsStage 10 = .ok (.aload_n 0, 1) := by decide +kernel
theorem dX9_endsStage_11 : decode cX9_endsStage 11 = .ok (.getfield 78, 3) := by decide +kernel
theorem dX9_endsStage_14 : decode cX9_endsStage 14 = .ok (.bipush 8, 2) := by decide +kernel
theorem dX9_endsStage_16 : decode cX9_endsStage 16 = .ok (.aload_n 0, 1) := by decide +kernel
theorem dX9_endsStage_17 : decode cX9_endsStage 17 = .ok (.getfield 248, 3) := by decide +kernel
theorem dX9_endsStage_20 : decode cX9_endsStage 20 = .ok (.imul, 1) := by decide +kernel
theorem dX9_endsStage_21 : decode cX9_endsStage 21 = .ok (.iload_n 2, 1) := by decide +kernel
theorem dX9_endsStage_22 : decode cX9_endsStage 22 = .ok (.iadd, 1) := by decide +kernel
theorem dX9_endsStage_23 : decode cX9_endsStage 23 = .ok (.aload_n 0, 1) := by decide +kernel
theorem dX9_endsStage_24 : decode cX9_endsStage 24 = .ok (.getfield 74, 3) := by decide +kernel
theorem dX9_endsStage_27 : decode cX9_endsStage 27 = .ok (.iload_n 2, 1) := by decide +kernel
theorem dX9_endsStage_28 : decode cX9_endsStage 28 = .ok (.laload, 1) := by decide +kernel
theorem dX9_endsStage_29 : decode cX9_endsStage 29 = .ok (.lastore, 1) := by decide +kernel
theorem dX9_endsStage_30 : decode cX9_endsStage 30 = .ok (.aload_n 0, 1) := by decide +kernel
theorem dX9_endsStage_31 : decode cX9_endsStage 31 = .ok (.getfield 93, 3) := by decide +kernel
theorem dX9_endsStage_34 : decode cX9_endsStage 34 = .ok (.bipush 8, 2) := by decide +kernel
theorem dX9_endsStage_36 : decode cX9_endsStage 36 = .ok (.aload_n 0, 1) := by decide +kernel
theorem dX9_endsStage_37 : decode cX9_endsStage 37 = .ok (.getfield 248, 3) := by decide +kernel
theorem dX9_endsStage_40 : decode cX9_endsStage 40 = .ok (.imul, 1) := by decide +kernel
theorem dX9_endsStage_41 : decode cX9_endsStage 41 = .ok (.iload_n 2, 1) := by decide +kernel
theorem dX9_endsStage_42 : decode cX9_endsStage 42 = .ok (.iadd, 1) := by decide +kernel
theorem dX9_endsStage_43 : decode cX9_endsStage 43 = .ok (.aload_n 0, 1) := by decide +kernel
theorem dX9_endsStage_44 : decode cX9_endsStage 44 = .ok (.getfield 65, 3) := by decide +kernel
theorem dX9_endsStage_47 : decode cX9_endsStage 47 = .ok (.iload_n 2, 1) := by decide +kernel
theorem dX9_endsStage_48 : decode cX9_endsStage 48 = .ok (.iaload, 1) := by decide +kernel
theorem dX9_endsStage_49 : decode cX9_endsStage 49 = .ok (.iastore, 1) := by decide +kernel
theorem dX9_endsStage_50 : decode cX9_endsStage 50 = .ok (.iinc 2 1, 3) := by decide +kernel
theorem dX9_endsStage_53 : decode cX9_endsStage 53 = .ok (.goto (-51), 3) := by decide +kernel
theorem dX9_endsStage_56 : decode cX9_endsStage 56 = .ok (.aload_n 0, 1) := by decide +kernel
theorem dX9_endsStage_57 : decode cX9_endsStage 57 = .ok (.getfield 81, 3) := by decide +kernel
theorem dX9_endsStage_60 : decode cX9_endsStage 60 = .ok (.aload_n 0, 1) := by decide +kernel
theorem dX9_endsStage_61 : decode cX9_endsStage 61 = .ok (.getfield 248, 3) := by decide +kernel
theorem dX9_endsStage_64 : decode cX9_endsStage 64 = .ok (.aload_n 0, 1) := by decide +kernel
theorem dX9_endsStage_65 : decode cX9_endsStage 65 = .ok (.getfield 242, 3) := by decide +kernel
theorem dX9_endsStage_68 : decode cX9_endsStage 68 = .ok (.lastore, 1) := by decide +kernel
theorem dX9_endsStage_69 : decode cX9_endsStage 69 = .ok (.aload_n 0, 1) := by decide +kernel
theorem dX9_endsStage_70 : decode cX9_endsStage 70 = .ok (.getfield 84, 3) := by decide +kernel
theorem dX9_endsStage_73 : decode cX9_endsStage 73 = .ok (.aload_n 0, 1) := by decide +kernel
theorem dX9_endsStage_74 : decode cX9_endsStage 74 = .ok (.getfield 248, 3) := by decide +kernel
theorem dX9_endsStage_77 : decode cX9_endsStage 77 = .ok (.aload_n 0, 1) := by decide +kernel
theorem dX9_endsStage_78 : decode cX9_endsStage 78 = .ok (.getfield 235, 3) := by decide +kernel
theorem dX9_endsStage_81 : decode cX9_endsStage 81 = .ok (.lastore, 1) := by decide +kernel
theorem dX9_endsStage_82 : decode cX9_endsStage 82 = .ok (.aload_n 0, 1) := by decide +kernel
theorem dX9_endsStage_83 : decode cX9_endsStage 83 = .ok (.getfield 87, 3) := by decide +kernel
theorem dX9_endsStage_86 : decode cX9_endsStage 86 = .ok (.aload_n 0, 1) := by decide +kernel
theorem dX9_endsStage_87 : decode cX9_endsStage 87 = .ok (.getfield 248, 3) := by decide +kernel
theorem dX9_endsStage_90 : decode cX9_endsStage 90 = .ok (.aload_n 0, 1) := by decide +kernel
theorem dX9_endsStage_91 : decode cX9_endsStage 91 = .ok (.getfield 260, 3) := by decide +kernel
theorem dX9_endsStage_94 : decode cX9_endsStage 94 = .ok (.lastore, 1) := by decide +kernel
theorem dX9_endsStage_95 : decode cX9_endsStage 95 = .ok (.aload_n 0, 1) := by decide +kernel
theorem dX9_endsStage_96 : decode cX9_endsStage 96 = .ok (.getfield 90, 3) := by decide +kernel
theorem dX9_endsStage_99 : decode cX9_endsStage 99 = .ok (.aload_n 0, 1) := by decide +kernel
theorem dX9_endsStage_100 : decode cX9_endsStage 100 = .ok (.getfield 248, 3) := by decide +kernel
theorem dX9_endsStage_103 : decode cX9_endsStage 103 = .ok (.aload_n 0, 1) := by decide +kernel
theorem dX9_endsStage_104 : decode cX9_endsStage 104 = .ok (.getfield 239, 3) := by decide +kernel
theorem dX9_endsStage_107 : decode cX9_endsStage 107 = .ok (.lastore, 1) := by decide +kernel
theorem dX9_endsStage_108 : decode cX9_endsStage 108 = .ok (.aload_n 0, 1) := by decide +kernel
theorem dX9_endsStage_109 : decode cX9_endsStage 109 = .ok (.getfield 96, 3) := by decide +kernel
theorem dX9_endsStage_112 : decode cX9_endsStage 112 = .ok (.aload_n 0, 1) := by decide +kernel
theorem dX9_endsStage_113 : decode cX9_endsStage 113 = .ok (.getfield 248, 3) := by decide +kernel
theorem dX9_endsStage_116 : decode cX9_endsStage 116 = .ok (.iload_n 1, 1) := by decide +kernel
theorem dX9_endsStage_117 : decode cX9_endsStage 117 = .ok (.iastore, 1) := by decide +kernel
theorem dX9_endsStage_118 : decode cX9_endsStage 118 = .ok (.aload_n 0, 1) := by decide +kernel
theorem dX9_endsStage_119 : decode cX9_endsStage 119 = .ok (.invokevirtual 282, 3) := by decide +kernel
theorem dX9_endsStage_122 : decode cX9_endsStage 122 = .ok (.return_, 1) := by decide +kernel
theorem dX9_goesStage_0 : decode cX9_goesStage 0 = .ok (.iconst 0, 1) := by decide +kernel
theorem dX9_goesStage_1 : decode cX9_goesStage 1 = .ok (.istore_n 2, 1) := by decide +kernel
theorem dX9_goesStage_2 : decode cX9_goesStage 2 = .ok (.iconst 1, 1) := by decide +kernel
theorem dX9_goesStage_3 : decode cX9_goesStage 3 = .ok (.istore_n 3, 1) := by decide +kernel
theorem dX9_goesStage_4 : decode cX9_goesStage 4 = .ok (.iload_n 2, 1) := by decide +kernel
theorem dX9_goesStage_5 : decode cX9_goesStage 5 = .ok (.ifCond .ne 127, 3) := by decide +kernel
theorem dX9_goesStage_8 : decode cX9_goesStage 8 = .ok (.aload_n 0, 1) := by decide +kernel
theorem dX9_goesStage_9 : decode cX9_goesStage 9 = .ok (.iconst 2, 1) := by decide +kernel
theorem dX9_goesStage_10 : decode cX9_goesStage 10 = .ok (.invokevirtual 276, 3) := by decide +kernel
theorem dX9_goesStage_13 : decode cX9_goesStage 13 = .ok (.ifCond .le 16, 3) := by decide +kernel
theorem dX9_goesStage_16 : decode cX9_goesStage 16 = .ok (.iload_n 3, 1) := by decide +kernel
theorem dX9_goesStage_17 : decode cX9_goesStage 17 = .ok (.iconst 1, 1) := by decide +kernel
theorem dX9_goesStage_18 : decode cX9_goesStage 18 = .ok (.if_icmp .ne 7, 3) := by decide +kernel
theorem dX9_goesStage_21 : decode cX9_goesStage 21 = .ok (.iload_n 1, 1) := by decide +kernel
theorem dX9_goesStage_22 : decode cX9_goesStage 22 = .ok (.ifCond .ne 7, 3) := by decide +kernel
theorem dX9_goesStage_25 : decode cX9_goesStage 25 = .ok (.aload_n 0, 1) := by decide +kernel
theorem dX9_goesStage_26 : decode cX9_goesStage 26 = .ok (.invokevirtual 285, 3) := by decide +kernel
theorem dX9_goesStage_29 : decode cX9_goesStage 29 = .ok (.aload_n 0, 1) := by decide +kernel
theorem dX9_goesStage_30 : decode cX9_goesStage 30 = .ok (.invokevirtual 257, 3) := by decide +kernel
theorem dX9_goesStage_33 : decode cX9_goesStage 33 = .ok (.aload_n 0, 1) := by decide +kernel
theorem dX9_goesStage_34 : decode cX9_goesStage 34 = .ok (.invokevirtual 288, 3) := by decide +kernel
theorem dX9_goesStage_37 : decode cX9_goesStage 37 = .ok (.aload_n 0, 1) := by decide +kernel
theorem dX9_goesStage_38 : decode cX9_goesStage 38 = .ok (.invokevirtual 291, 3) := by decide +kernel
theorem dX9_goesStage_41 : decode cX9_goesStage 41 = .ok (.ifCond .eq 13, 3) := by decide +kernel
theorem dX9_goesStage_44 : decode cX9_goesStage 44 = .ok (.aload_n 0, 1) := by decide +kernel
theorem dX9_goesStage_45 : decode cX9_goesStage 45 = .ok (.iload_n 3, 1) := by decide +kernel
theorem dX9_goesStage_46 : decode cX9_goesStage 46 = .ok (.invokevirtual 267, 3) := by decide +kernel
theorem dX9_goesStage_49 : decode cX9_goesStage 49 = .ok (.iconst 1, 1) := by decide +kernel
theorem dX9_goesStage_50 : decode cX9_goesStage 50 = .ok (.istore_n 2, 1) := by decide +kernel
theorem dX9_goesStage_51 : decode cX9_goesStage 51 = .ok (.goto 75, 3) := by decide +kernel
theorem dX9_goesStage_54 : decode cX9_goesStage 54 = .ok (.aload_n 0, 1) := by decide +kernel
theorem dX9_goesStage_55 : decode cX9_goesStage 55 = .ok (.getfield 260, 3) := by decide +kernel
theorem dX9_goesStage_58 : decode cX9_goesStage 58 = .ok (.aload_n 0, 1) := by decide +kernel
theorem dX9_goesStage_59 : decode cX9_goesStage 59 = .ok (.getfield 29, 3) := by decide +kernel
theorem dX9_goesStage_62 : decode cX9_goesStage 62 = .ok (.i2l, 1) := by decide +kernel
theorem dX9_goesStage_63 : decode cX9_goesStage 63 = .ok (.lcmp, 1) := by decide +kernel
theorem dX9_goesStage_64 : decode cX9_goesStage 64 = .ok (.ifCond .le 11, 3) := by decide +kernel
theorem dX9_goesStage_67 : decode cX9_goesStage 67 = .ok (.iload_n 3, 1) := by decide +kernel
theorem dX9_goesStage_68 : decode cX9_goesStage 68 = .ok (.aload_n 0, 1) := by decide +kernel
theorem dX9_goesStage_69 : decode cX9_goesStage 69 = .ok (.getfield 32, 3) := by decide +kernel
theorem dX9_goesStage_72 : decode cX9_goesStage 72 = .ok (.if_icmp .ne 54, 3) := by decide +kernel
theorem dX9_goesStage_75 : decode cX9_goesStage 75 = .ok (.aload_n 0, 1) := by decide +kernel
theorem dX9_goesStage_76 : decode cX9_goesStage 76 = .ok (.invokevirtual 295, 3) := by decide +kernel
theorem dX9_goesStage_79 : decode cX9_goesStage 79 = .ok (.istore 4, 2) := by decide +kernel
theorem dX9_goesStage_81 : decode cX9_goesStage 81 = .ok (.aload_n 0, 1) := by decide +kernel
theorem dX9_goesStage_82 : decode cX9_goesStage 82 = .ok (.getfield 99, 3) := by decide +kernel
theorem dX9_goesStage_85 : decode cX9_goesStage 85 = .ok (.aload_n 0, 1) := by decide +kernel
theorem dX9_goesStage_86 : decode cX9_goesStage 86 = .ok (.getfield 248, 3) := by decide +kernel
theorem dX9_goesStage_89 : decode cX9_goesStage 89 = .ok (.iload 4, 2) := by decide +kernel
theorem dX9_goesStage_91 : decode cX9_goesStage 91 = .ok (.iastore, 1) := by decide +kernel
theorem dX9_goesStage_92 : decode cX9_goesStage 92 = .ok (.aload_n 0, 1) := by decide +kernel
theorem dX9_goesStage_93 : decode cX9_goesStage 93 = .ok (.iload_n 3, 1) := by decide +kernel
theorem dX9_goesStage_94 : decode cX9_goesStage 94 = .ok (.invokevirtual 267, 3) := by decide +kernel
theorem dX9_goesStage_97 : decode cX9_goesStage 97 = .ok (.aload_n 0, 1) := by decide +kernel
theorem dX9_goesStage_98 : decode cX9_goesStage 98 = .ok (.getfield 62, 3) := by decide +kernel
theorem dX9_goesStage_101 : decode cX9_goesStage 101 = .ok (.iload 4, 2) := by decide +kernel
theorem dX9_goesStage_103 : decode cX9_goesStage 103 = .ok (.iconst 3, 1) := by decide +kernel
theorem dX9_goesStage_104 : decode cX9_goesStage 104 = .ok (.iastore, 1) := by decide +kernel
theorem dX9_goesStage_105 : decode cX9_goesStage 105 = .ok (.aload_n 0, 1) := by decide +kernel
theorem dX9_goesStage_106 : decode cX9_goesStage 106 = .ok (.getfield 68, 3) := by decide +kernel
theorem dX9_goesStage_109 : decode cX9_goesStage 109 = .ok (.iload 4, 2) := by decide +kernel
theorem dX9_goesStage_111 : decode cX9_goesStage 111 = .ok (.aload_n 0, 1) := by decide +kernel
theorem dX9_goesStage_112 : decode cX9_goesStage 112 = .ok (.getfield 248, 3) := by decide +kernel
theorem dX9_goesStage_115 : decode cX9_goesStage 115 = .ok (.iastore, 1) := by decide +kernel
theorem dX9_goesStage_116 : decode cX9_goesStage 116 = .ok (.aload_n 0, 1) := by decide +kernel
theorem dX9_goesStage_117 : decode cX9_goesStage 117 = .ok (.getfield 65, 3) := by decide +kernel
theorem dX9_goesStage_120 : decode cX9_goesStage 120 = .ok (.iload 4, 2) := by decide +kernel
theorem dX9_goesStage_122 : decode cX9_goesStage 122 = .ok (.iconst 0, 1) := by decide +kernel
theorem dX9_goesStage_123 : decode cX9_goesStage 123 = .ok (.iastore, 1) := by decide +kernel
theorem dX9_goesStage_124 : decode cX9_goesStage 124 = .ok (.iconst 1, 1) := by decide +kernel
theorem dX9_goesStage_125 : decode cX9_goesStage 125 = .ok (.istore_n 2, 1) := by decide +kernel
theorem dX9_goesStage_126 : decode cX9_goesStage 126 = .ok (.iinc 3 1, 3) := by decide +kernel
theorem dX9_goesStage_129 : decode cX9_goesStage 129 = .ok (.goto (-125), 3) := by decide +kernel
theorem dX9_goesStage_132 : decode cX9_goesStage 132 = .ok (.return_, 1) := by decide +kernel
theorem dX9_counts_0 : decode cX9_counts 0 = .ok (.aload_n 0, 1) := by decide +kernel
theorem dX9_counts_1 : decode cX9_counts 1 = .ok (.invokevirtual 299, 3) := by decide +kernel
theorem dX9_counts_4 : decode cX9_counts 4 = .ok (.aload_n 0, 1) := by decide +kernel
theorem dX9_counts_5 : decode cX9_counts 5 = .ok (.iconst 0, 1) := by decide +kernel
theorem dX9_counts_6 : decode cX9_counts 6 = .ok (.putfield 248, 3) := by decide +kernel
theorem dX9_counts_9 : decode cX9_counts 9 = .ok (.aload_n 0, 1) := by decide +kernel
theorem dX9_counts_10 : decode cX9_counts 10 = .ok (.iconst 0, 1) := by decide +kernel
theorem dX9_counts_11 : decode cX9_counts 11 = .ok (.putfield 251, 3) := by decide +kernel
theorem dX9_counts_14 : decode cX9_counts 14 = .ok (.iconst 0, 1) := by decide +kernel
theorem dX9_counts_15 : decode cX9_counts 15 = .ok (.istore_n 1, 1) := by decide +kernel
theorem dX9_counts_16 : decode cX9_counts 16 = .ok (.iload_n 1, 1) := by decide +kernel
theorem dX9_counts_17 : decode cX9_counts 17 = .ok (.aload_n 0, 1) := by decide +kernel
theorem dX9_counts_18 : decode cX9_counts 18 = .ok (.getfield 167, 3) := by decide +kernel
theorem dX9_counts_21 : decode cX9_counts 21 = .ok (.if_icmp .ge 59, 3) := by decide +kernel
theorem dX9_counts_24 : decode cX9_counts 24 = .ok (.aload_n 0, 1) := by decide +kernel
theorem dX9_counts_25 : decode cX9_counts 25 = .ok (.getfield 62, 3) := by decide +kernel
theorem dX9_counts_28 : decode cX9_counts 28 = .ok (.iload_n 1, 1) := by decide +kernel
theorem dX9_counts_29 : decode cX9_counts 29 = .ok (.aload_n 0, 1) := by decide +kernel
theorem dX9_counts_30 : decode cX9_counts 30 = .ok (.getfield 11, 3) := by decide +kernel
theorem dX9_counts_33 : decode cX9_counts 33 = .ok (.iload_n 1, 1) := by decide +kernel
theorem dX9_counts_34 : decode cX9_counts 34 = .ok (.baload, 1) := by decide +kernel
theorem dX9_counts_35 : decode cX9_counts 35 = .ok (.ifCond .eq 7, 3) := by decide +kernel
theorem dX9_counts_38 : decode cX9_counts 38 = .ok (.iconst 0, 1) := by decide +kernel
theorem dX9_counts_39 : decode cX9_counts 39 = .ok (.goto 4, 3) := by decide +kernel
theorem dX9_counts_42 : decode cX9_counts 42 = .ok (.iconst 1, 1) := by decide +kernel
theorem dX9_counts_43 : decode cX9_counts 43 = .ok (.iastore, 1) := by decide +kernel
theorem dX9_counts_44 : decode cX9_counts 44 = .ok (.aload_n 0, 1) := by decide +kernel
theorem dX9_counts_45 : decode cX9_counts 45 = .ok (.getfield 65, 3) := by decide +kernel
theorem dX9_counts_48 : decode cX9_counts 48 = .ok (.iload_n 1, 1) := by decide +kernel
theorem dX9_counts_49 : decode cX9_counts 49 = .ok (.aload_n 0, 1) := by decide +kernel
theorem dX9_counts_50 : decode cX9_counts 50 = .ok (.getfield 11, 3) := by decide +kernel
theorem dX9_counts_53 : decode cX9_counts 53 = .ok (.iload_n 1, 1) := by decide +kernel
theorem dX9_counts_54 : decode cX9_counts 54 = .ok (.baload, 1) := by decide +kernel
theorem dX9_counts_55 : decode cX9_counts 55 = .ok (.ifCond .eq 7, 3) := by decide +kernel
theorem dX9_counts_58 : decode cX9_counts 58 = .ok (.iconst 0, 1) := by decide +kernel
theorem dX9_counts_59 : decode cX9_counts 59 = .ok (.goto 6, 3) := by decide +kernel
theorem dX9_counts_62 : decode cX9_counts 62 = .ok (.ldc_w 302, 3) := by decide +kernel
theorem dX9_counts_65 : decode cX9_counts 65 = .ok (.iastore, 1) := by decide +kernel
theorem dX9_counts_66 : decode cX9_counts 66 = .ok (.aload_n 0, 1) := by decide +kernel
theorem dX9_counts_67 : decode cX9_counts 67 = .ok (.getfield 68, 3) := by decide +kernel
theorem dX9_counts_70 : decode cX9_counts 70 = .ok (.iload_n 1, 1) := by decide +kernel
theorem dX9_counts_71 : decode cX9_counts 71 = .ok (.bipush (-5), 2) := by decide +kernel
theorem dX9_counts_73 : decode cX9_counts 73 = .ok (.iastore, 1) := by decide +kernel
theorem dX9_counts_74 : decode cX9_counts 74 = .ok (.iinc 1 1, 3) := by decide +kernel
theorem dX9_counts_77 : decode cX9_counts 77 = .ok (.goto (-61), 3) := by decide +kernel
theorem dX9_counts_80 : decode cX9_counts 80 = .ok (.iconst 0, 1) := by decide +kernel
theorem dX9_counts_81 : decode cX9_counts 81 = .ok (.istore_n 1, 1) := by decide +kernel
theorem dX9_counts_82 : decode cX9_counts 82 = .ok (.aload_n 0, 1) := by decide +kernel
theorem dX9_counts_83 : decode cX9_counts 83 = .ok (.iconst 2, 1) := by decide +kernel
theorem dX9_counts_84 : decode cX9_counts 84 = .ok (.invokevirtual 276, 3) := by decide +kernel
theorem dX9_counts_87 : decode cX9_counts 87 = .ok (.aload_n 0, 1) := by decide +kernel
theorem dX9_counts_88 : decode cX9_counts 88 = .ok (.getfield 25, 3) := by decide +kernel
theorem dX9_counts_91 : decode cX9_counts 91 = .ok (.if_icmp .ge 95, 3) := by decide +kernel
theorem dX9_counts_94 : decode cX9_counts 94 = .ok (.aload_n 0, 1) := by decide +kernel
theorem dX9_counts_95 : decode cX9_counts 95 = .ok (.iconst 1, 1) := by decide +kernel
theorem dX9_counts_96 : decode cX9_counts 96 = .ok (.invokevirtual 276, 3) := by decide +kernel
theorem dX9_counts_99 : decode cX9_counts 99 = .ok (.ifCond .le 87, 3) := by decide +kernel
theorem dX9_counts_102 : decode cX9_counts 102 = .ok (.aload_n 0, 1) := by decide +kernel
theorem dX9_counts_103 : decode cX9_counts 103 = .ok (.getfield 99, 3) := by decide +kernel
theorem dX9_counts_106 : decode cX9_counts 106 = .ok (.aload_n 0, 1) := by decide +kernel
theorem dX9_counts_107 : decode cX9_counts 107 = .ok (.getfield 248, 3) := by decide +kernel
theorem dX9_counts_110 : decode cX9_counts 110 = .ok (.bipush (-5), 2) := by decide +kernel
theorem dX9_counts_112 : decode cX9_counts 112 = .ok (.iastore, 1) := by decide +kernel
theorem dX9_counts_113 : decode cX9_counts 113 = .ok (.aload_n 0, 1) := by decide +kernel
theorem dX9_counts_114 : decode cX9_counts 114 = .ok (.getfield 102, 3) := by decide +kernel
theorem dX9_counts_117 : decode cX9_counts 117 = .ok (.aload_n 0, 1) := by decide +kernel
theorem dX9_counts_118 : decode cX9_counts 118 = .ok (.getfield 248, 3) := by decide +kernel
theorem dX9_counts_121 : decode cX9_counts 121 = .ok (.iconst 0, 1) := by decide +kernel
theorem dX9_counts_122 : decode cX9_counts 122 = .ok (.iastore, 1) := by decide +kernel
theorem dX9_counts_123 : decode cX9_counts 123 = .ok (.aload_n 0, 1) := by decide +kernel
theorem dX9_counts_124 : decode cX9_counts 124 = .ok (.iconst 1, 1) := by decide +kernel
theorem dX9_counts_125 : decode cX9_counts 125 = .ok (.invokevirtual 276, 3) := by decide +kernel
theorem dX9_counts_128 : decode cX9_counts 128 = .ok (.aload_n 0, 1) := by decide +kernel
theorem dX9_counts_129 : decode cX9_counts 129 = .ok (.iconst 2, 1) := by decide +kernel
theorem dX9_counts_130 : decode cX9_counts 130 = .ok (.invokevirtual 276, 3) := by decide +kernel
theorem dX9_counts_133 : decode cX9_counts 133 = .ok (.iadd, 1) := by decide +kernel
theorem dX9_counts_134 : decode cX9_counts 134 = .ok (.aload_n 0, 1) := by decide +kernel
theorem dX9_counts_135 : decode cX9_counts 135 = .ok (.getfield 25, 3) := by decide +kernel
theorem dX9_counts_138 : decode cX9_counts 138 = .ok (.if_icmp .gt 10, 3) := by decide +kernel
theorem dX9_counts_141 : decode cX9_counts 141 = .ok (.aload_n 0, 1) := by decide +kernel
theorem dX9_counts_142 : decode cX9_counts 142 = .ok (.invokevirtual 303, 3) := by decide +kernel
theorem dX9_counts_145 : decode cX9_counts 145 = .ok (.goto 8, 3) := by decide +kernel
theorem dX9_counts_148 : decode cX9_counts 148 = .ok (.aload_n 0, 1) := by decide +kernel
theorem dX9_counts_149 : decode cX9_counts 149 = .ok (.iload_n 1, 1) := by decide +kernel
theorem dX9_counts_150 : decode cX9_counts 150 = .ok (.invokevirtual 306, 3) := by decide +kernel
theorem dX9_counts_153 : decode cX9_counts 153 = .ok (.aload_n 0, 1) := by decide +kernel
theorem dX9_counts_154 : decode cX9_counts 154 = .ok (.getfield 99, 3) := by decide +kernel
theorem dX9_counts_157 : decode cX9_counts 157 = .ok (.aload_n 0, 1) := by decide +kernel
theorem dX9_counts_158 : decode cX9_counts 158 = .ok (.getfield 248, 3) := by decide +kernel
theorem dX9_counts_161 : decode cX9_counts 161 = .ok (.iaload, 1) := by decide +kernel
theorem dX9_counts_162 : decode cX9_counts 162 = .ok (.bipush (-5), 2) := by decide +kernel
theorem dX9_counts_164 : decode cX9_counts 164 = .ok (.if_icmp .eq 7, 3) := by decide +kernel
theorem dX9_counts_167 : decode cX9_counts 167 = .ok (.iconst 1, 1) := by decide +kernel
theorem dX9_counts_168 : decode cX9_counts 168 = .ok (.goto 4, 3) := by decide +kernel
theorem dX9_counts_171 : decode cX9_counts 171 = .ok (.iconst 0, 1) := by decide +kernel
theorem dX9_counts_172 : decode cX9_counts 172 = .ok (.istore_n 1, 1) := by decide +kernel
theorem dX9_counts_173 : decode cX9_counts 173 = .ok (.aload_n 0, 1) := by decide +kernel
theorem dX9_counts_174 : decode cX9_counts 174 = .ok (.dup, 1) := by decide +kernel
theorem dX9_counts_175 : decode cX9_counts 175 = .ok (.getfield 248, 3) := by decide +kernel
theorem dX9_counts_178 : decode cX9_counts 178 = .ok (.iconst 1, 1) := by decide +kernel
theorem dX9_counts_179 : decode cX9_counts 179 = .ok (.iadd, 1) := by decide +kernel
theorem dX9_counts_180 : decode cX9_counts 180 = .ok (.putfield 248, 3) := by decide +kernel
theorem dX9_counts_183 : decode cX9_counts 183 = .ok (.goto (-101), 3) := by decide +kernel
theorem dX9_counts_186 : decode cX9_counts 186 = .ok (.return_, 1) := by decide +kernel
theorem dX9_electedSet_0 : decode cX9_electedSet 0 = .ok (.aload_n 0, 1) := by decide +kernel
theorem dX9_electedSet_1 : decode cX9_electedSet 1 = .ok (.invokevirtual 310, 3) := by decide +kernel
theorem dX9_electedSet_4 : decode cX9_electedSet 4 = .ok (.iconst 0, 1) := by decide +kernel
theorem dX9_electedSet_5 : decode cX9_electedSet 5 = .ok (.istore_n 1, 1) := by decide +kernel
theorem dX9_electedSet_6 : decode cX9_electedSet 6 = .ok (.iconst 0, 1) := by decide +kernel
theorem dX9_electedSet_7 : decode cX9_electedSet 7 = .ok (.istore_n 2, 1) := by decide +kernel
theorem dX9_electedSet_8 : decode cX9_electedSet 8 = .ok (.iload_n 2, 1) := by decide +kernel
theorem dX9_electedSet_9 : decode cX9_electedSet 9 = .ok (.aload_n 0, 1) := by decide +kernel
theorem dX9_electedSet_10 : decode cX9_electedSet 10 = .ok (.getfield 167, 3) := by decide +kernel
theorem dX9_electedSet_13 : decode cX9_electedSet 13 = .ok (.if_icmp .ge 25, 3) := by decide +kernel
theorem dX9_electedSet_16 : decode cX9_electedSet 16 = .ok (.aload_n 0, 1) := by decide +kernel
theorem dX9_electedSet_17 : decode cX9_electedSet 17 = .ok (.getfield 62, 3) := by decide +kernel
theorem dX9_electedSet_20 : decode cX9_electedSet 20 = .ok (.iload_n 2, 1) := by decide +kernel
theorem dX9_electedSet_21 : decode cX9_electedSet 21 = .ok (.iaload, 1) := by decide +kernel
theorem dX9_electedSet_22 : decode cX9_electedSet 22 = .ok (.iconst 2, 1) := by decide +kernel
theorem dX9_electedSet_23 : decode cX9_electedSet 23 = .ok (.if_icmp .ne 9, 3) := by decide +kernel
theorem dX9_electedSet_26 : decode cX9_electedSet 26 = .ok (.iload_n 1, 1) := by decide +kernel
theorem dX9_electedSet_27 : decode cX9_electedSet 27 = .ok (.iconst 1, 1) := by decide +kernel
theorem dX9_electedSet_28 : decode cX9_electedSet 28 = .ok (.iload_n 2, 1) := by decide +kernel
theorem dX9_electedSet_29 : decode cX9_electedSet 29 = .ok (.ishl, 1) := by decide +kernel
theorem dX9_electedSet_30 : decode cX9_electedSet 30 = .ok (.ior, 1) := by decide +kernel
theorem dX9_electedSet_31 : decode cX9_electedSet 31 = .ok (.istore_n 1, 1) := by decide +kernel
theorem dX9_electedSet_32 : decode cX9_electedSet 32 = .ok (.iinc 2 1, 3) := by decide +kernel
theorem dX9_electedSet_35 : decode cX9_electedSet 35 = .ok (.goto (-27), 3) := by decide +kernel
theorem dX9_electedSet_38 : decode cX9_electedSet 38 = .ok (.iload_n 1, 1) := by decide +kernel
theorem dX9_electedSet_39 : decode cX9_electedSet 39 = .ok (.ireturn, 1) := by decide +kernel
theorem dX9_firstMany_0 : decode cX9_firstMany 0 = .ok (.iconst 0, 1) := by decide +kernel
theorem dX9_firstMany_1 : decode cX9_firstMany 1 = .ok (.istore_n 2, 1) := by decide +kernel
theorem dX9_firstMany_2 : decode cX9_firstMany 2 = .ok (.iconst 0, 1) := by decide +kernel
theorem dX9_firstMany_3 : decode cX9_firstMany 3 = .ok (.istore_n 3, 1) := by decide +kernel
theorem dX9_firstMany_4 : decode cX9_firstMany 4 = .ok (.iload_n 3, 1) := by decide +kernel
theorem dX9_firstMany_5 : decode cX9_firstMany 5 = .ok (.aload_n 0, 1) := by decide +kernel
theorem dX9_firstMany_6 : decode cX9_firstMany 6 = .ok (.getfield 174, 3) := by decide +kernel
theorem dX9_firstMany_9 : decode cX9_firstMany 9 = .ok (.if_icmp .ge 47, 3) := by decide +kernel
theorem dX9_firstMany_12 : decode cX9_firstMany 12 = .ok (.aload_n 0, 1) := by decide +kernel
theorem dX9_firstMany_13 : decode cX9_firstMany 13 = .ok (.aload_n 0, 1) := by decide +kernel
theorem dX9_firstMany_14 : decode cX9_firstMany 14 = .ok (.getfield 19, 3) := by decide +kernel
theorem dX9_firstMany_17 : decode cX9_firstMany 17 = .ok (.iload_n 3, 1) := by decide +kernel
theorem dX9_firstMany_18 : decode cX9_firstMany 18 = .ok (.iaload, 1) := by decide +kernel
theorem dX9_firstMany_19 : decode cX9_firstMany 19 = .ok (.invokevirtual 228, 3) := by decide +kernel
theorem dX9_firstMany_22 : decode cX9_firstMany 22 = .ok (.istore 4, 2) := by decide +kernel
theorem dX9_firstMany_24 : decode cX9_firstMany 24 = .ok (.iload 4, 2) := by decide +kernel
theorem dX9_firstMany_26 : decode cX9_firstMany 26 = .ok (.ifCond .le 24, 3) := by decide +kernel
theorem dX9_firstMany_29 : decode cX9_firstMany 29 = .ok (.iload 4, 2) := by decide +kernel
theorem dX9_firstMany_31 : decode cX9_firstMany 31 = .ok (.iconst 0, 1) := by decide +kernel
theorem dX9_firstMany_32 : decode cX9_firstMany 32 = .ok (.invokestatic 181, 3) := by decide +kernel
theorem dX9_firstMany_35 : decode cX9_firstMany 35 = .ok (.iload_n 1, 1) := by decide +kernel
theorem dX9_firstMany_36 : decode cX9_firstMany 36 = .ok (.iconst 1, 1) := by decide +kernel
theorem dX9_firstMany_37 : decode cX9_firstMany 37 = .ok (.iadd, 1) := by decide +kernel
theorem dX9_firstMany_38 : decode cX9_firstMany 38 = .ok (.if_icmp .ne 12, 3) := by decide +kernel
theorem dX9_firstMany_41 : decode cX9_firstMany 41 = .ok (.iload_n 2, 1) := by decide +kernel
theorem dX9_firstMany_42 : decode cX9_firstMany 42 = .ok (.aload_n 0, 1) := by decide +kernel
theorem dX9_firstMany_43 : decode cX9_firstMany 43 = .ok (.getfield 22, 3) := by decide +kernel
theorem dX9_firstMany_46 : decode cX9_firstMany 46 = .ok (.iload_n 3, 1) := by decide +kernel
theorem dX9_firstMany_47 : decode cX9_firstMany 47 = .ok (.iaload, 1) := by decide +kernel
theorem dX9_firstMany_48 : decode cX9_firstMany 48 = .ok (.iadd, 1) := by decide +kernel
theorem dX9_firstMany_49 : decode cX9_firstMany 49 = .ok (.istore_n 2, 1) := by decide +kernel
theorem dX9_firstMany_50 : decode cX9_firstMany 50 = .ok (.iinc 3 1, 3) := by decide +kernel
theorem dX9_firstMany_53 : decode cX9_firstMany 53 = .ok (.goto (-49), 3) := by decide +kernel
theorem dX9_firstMany_56 : decode cX9_firstMany 56 = .ok (.iload_n 2, 1) := by decide +kernel
theorem dX9_firstMany_57 : decode cX9_firstMany 57 = .ok (.ireturn, 1) := by decide +kernel
theorem dX9_of_0 : decode cX9_of 0 = .ok (.aload_n 0, 1) := by decide +kernel
theorem dX9_of_1 : decode cX9_of 1 = .ok (.iload_n 1, 1) := by decide +kernel
theorem dX9_of_2 : decode cX9_of 2 = .ok (.invokevirtual 211, 3) := by decide +kernel
theorem dX9_of_5 : decode cX9_of 5 = .ok (.ifCond .eq 15, 3) := by decide +kernel
theorem dX9_of_8 : decode cX9_of 8 = .ok (.iload_n 2, 1) := by decide +kernel
theorem dX9_of_9 : decode cX9_of 9 = .ok (.i2l, 1) := by decide +kernel
theorem dX9_of_10 : decode cX9_of 10 = .ok (.lconst 0, 1) := by decide +kernel
theorem dX9_of_11 : decode cX9_of 11 = .ok (.ldc2_w 313, 3) := by decide +kernel
theorem dX9_of_14 : decode cX9_of 14 = .ok (.invokestatic 170, 3) := by decide +kernel
theorem dX9_of_17 : decode cX9_of 17 = .ok (.ifCond .ne 5, 3) := by decide +kernel
theorem dX9_of_20 : decode cX9_of 20 = .ok (.iconst (-1), 1) := by decide +kernel
theorem dX9_of_21 : decode cX9_of 21 = .ok (.ireturn, 1) := by decide +kernel
theorem dX9_of_22 : decode cX9_of 22 = .ok (.aload_n 0, 1) := by decide +kernel
theorem dX9_of_23 : decode cX9_of 23 = .ok (.invokevirtual 310, 3) := by decide +kernel
theorem dX9_of_26 : decode cX9_of 26 = .ok (.iload_n 2, 1) := by decide +kernel
theorem dX9_of_27 : decode cX9_of 27 = .ok (.ifCond .ne 12, 3) := by decide +kernel
theorem dX9_of_30 : decode cX9_of 30 = .ok (.aload_n 0, 1) := by decide +kernel
theorem dX9_of_31 : decode cX9_of 31 = .ok (.getfield 62, 3) := by decide +kernel
theorem dX9_of_34 : decode cX9_of 34 = .ok (.iload_n 1, 1) := by decide +kernel
theorem dX9_of_35 : decode cX9_of 35 = .ok (.iaload, 1) := by decide +kernel
theorem dX9_of_36 : decode cX9_of 36 = .ok (.goto 35, 3) := by decide +kernel
theorem dX9_of_39 : decode cX9_of 39 = .ok (.iload_n 2, 1) := by decide +kernel
theorem dX9_of_40 : decode cX9_of 40 = .ok (.iconst 1, 1) := by decide +kernel
theorem dX9_of_41 : decode cX9_of 41 = .ok (.if_icmp .ne 12, 3) := by decide +kernel
theorem dX9_of_44 : decode cX9_of 44 = .ok (.aload_n 0, 1) := by decide +kernel
theorem dX9_of_45 : decode cX9_of 45 = .ok (.getfield 68, 3) := by decide +kernel
theorem dX9_of_48 : decode cX9_of 48 = .ok (.iload_n 1, 1) := by decide +kernel
theorem dX9_of_49 : decode cX9_of 49 = .ok (.iaload, 1) := by decide +kernel
theorem dX9_of_50 : decode cX9_of 50 = .ok (.goto 21, 3) := by decide +kernel
theorem dX9_of_53 : decode cX9_of 53 = .ok (.iload_n 2, 1) := by decide +kernel
theorem dX9_of_54 : decode cX9_of 54 = .ok (.iconst 2, 1) := by decide +kernel
theorem dX9_of_55 : decode cX9_of 55 = .ok (.if_icmp .ne 11, 3) := by decide +kernel
theorem dX9_of_58 : decode cX9_of 58 = .ok (.aload_n 0, 1) := by decide +kernel
theorem dX9_of_59 : decode cX9_of 59 = .ok (.iload_n 1, 1) := by decide +kernel
theorem dX9_of_60 : decode cX9_of 60 = .ok (.invokevirtual 245, 3) := by decide +kernel
theorem dX9_of_63 : decode cX9_of 63 = .ok (.goto 8, 3) := by decide +kernel
theorem dX9_of_66 : decode cX9_of 66 = .ok (.aload_n 0, 1) := by decide +kernel
theorem dX9_of_67 : decode cX9_of 67 = .ok (.iload_n 1, 1) := by decide +kernel
theorem dX9_of_68 : decode cX9_of 68 = .ok (.invokevirtual 315, 3) := by decide +kernel
theorem dX9_of_71 : decode cX9_of 71 = .ok (.ireturn, 1) := by decide +kernel
theorem dX9_ballotOf_0 : decode cX9_ballotOf 0 = .ok (.aload_n 0, 1) := by decide +kernel
theorem dX9_ballotOf_1 : decode cX9_ballotOf 1 = .ok (.iload_n 1, 1) := by decide +kernel
theorem dX9_ballotOf_2 : decode cX9_ballotOf 2 = .ok (.invokevirtual 208, 3) := by decide +kernel
theorem dX9_ballotOf_5 : decode cX9_ballotOf 5 = .ok (.ifCond .eq 15, 3) := by decide +kernel
theorem dX9_ballotOf_8 : decode cX9_ballotOf 8 = .ok (.iload_n 2, 1) := by decide +kernel
theorem dX9_ballotOf_9 : decode cX9_ballotOf 9 = .ok (.i2l, 1) := by decide +kernel
theorem dX9_ballotOf_10 : decode cX9_ballotOf 10 = .ok (.lconst 0, 1) := by decide +kernel
theorem dX9_ballotOf_11 : decode cX9_ballotOf 11 = .ok (.ldc2_w 214, 3) := by decide +kernel
theorem dX9_ballotOf_14 : decode cX9_ballotOf 14 = .ok (.invokestatic 170, 3) := by decide +kernel
theorem dX9_ballotOf_17 : decode cX9_ballotOf 17 = .ok (.ifCond .ne 5, 3) := by decide +kernel
theorem dX9_ballotOf_20 : decode cX9_ballotOf 20 = .ok (.iconst (-1), 1) := by decide +kernel
theorem dX9_ballotOf_21 : decode cX9_ballotOf 21 = .ok (.ireturn, 1) := by decide +kernel
theorem dX9_ballotOf_22 : decode cX9_ballotOf 22 = .ok (.aload_n 0, 1) := by decide +kernel
theorem dX9_ballotOf_23 : decode cX9_ballotOf 23 = .ok (.aload_n 0, 1) := by decide +kernel
theorem dX9_ballotOf_24 : decode cX9_ballotOf 24 = .ok (.getfield 19, 3) := by decide +kernel
theorem dX9_ballotOf_27 : decode cX9_ballotOf 27 = .ok (.iload_n 1, 1) := by decide +kernel
theorem dX9_ballotOf_28 : decode cX9_ballotOf 28 = .ok (.iaload, 1) := by decide +kernel
theorem dX9_ballotOf_29 : decode cX9_ballotOf 29 = .ok (.invokevirtual 228, 3) := by decide +kernel
theorem dX9_ballotOf_32 : decode cX9_ballotOf 32 = .ok (.istore_n 3, 1) := by decide +kernel
theorem dX9_ballotOf_33 : decode cX9_ballotOf 33 = .ok (.iload_n 2, 1) := by decide +kernel
theorem dX9_ballotOf_34 : decode cX9_ballotOf 34 = .ok (.ifCond .ne 12, 3) := by decide +kernel
theorem dX9_ballotOf_37 : decode cX9_ballotOf 37 = .ok (.aload_n 0, 1) := by decide +kernel
theorem dX9_ballotOf_38 : decode cX9_ballotOf 38 = .ok (.getfield 22, 3) := by decide +kernel
theorem dX9_ballotOf_41 : decode cX9_ballotOf 41 = .ok (.iload_n 1, 1) := by decide +kernel
theorem dX9_ballotOf_42 : decode cX9_ballotOf 42 = .ok (.iaload, 1) := by decide +kernel
theorem dX9_ballotOf_43 : decode cX9_ballotOf 43 = .ok (.goto 36, 3) := by decide +kernel
theorem dX9_ballotOf_46 : decode cX9_ballotOf 46 = .ok (.iload_n 2, 1) := by decide +kernel
theorem dX9_ballotOf_47 : decode cX9_ballotOf 47 = .ok (.iconst 1, 1) := by decide +kernel
theorem dX9_ballotOf_48 : decode cX9_ballotOf 48 = .ok (.if_icmp .ne 15, 3) := by decide +kernel
theorem dX9_ballotOf_51 : decode cX9_ballotOf 51 = .ok (.aload_n 0, 1) := by decide +kernel
theorem dX9_ballotOf_52 : decode cX9_ballotOf 52 = .ok (.getfield 19, 3) := by decide +kernel
theorem dX9_ballotOf_55 : decode cX9_ballotOf 55 = .ok (.iload_n 1, 1) := by decide +kernel
theorem dX9_ballotOf_56 : decode cX9_ballotOf 56 = .ok (.iaload, 1) := by decide +kernel
theorem dX9_ballotOf_57 : decode cX9_ballotOf 57 = .ok (.invokestatic 177, 3) := by decide +kernel
theorem dX9_ballotOf_60 : decode cX9_ballotOf 60 = .ok (.goto 19, 3) := by decide +kernel
theorem dX9_ballotOf_63 : decode cX9_ballotOf 63 = .ok (.iload_n 3, 1) := by decide +kernel
theorem dX9_ballotOf_64 : decode cX9_ballotOf 64 = .ok (.ifCond .ne 8, 3) := by decide +kernel
theorem dX9_ballotOf_67 : decode cX9_ballotOf 67 = .ok (.bipush (-5), 2) := by decide +kernel
theorem dX9_ballotOf_69 : decode cX9_ballotOf 69 = .ok (.goto 10, 3) := by decide +kernel
theorem dX9_ballotOf_72 : decode cX9_ballotOf 72 = .ok (.iload_n 3, 1) := by decide +kernel
theorem dX9_ballotOf_73 : decode cX9_ballotOf 73 = .ok (.iconst 0, 1) := by decide +kernel
theorem dX9_ballotOf_74 : decode cX9_ballotOf 74 = .ok (.invokestatic 181, 3) := by decide +kernel
theorem dX9_ballotOf_77 : decode cX9_ballotOf 77 = .ok (.iconst 1, 1) := by decide +kernel
theorem dX9_ballotOf_78 : decode cX9_ballotOf 78 = .ok (.isub, 1) := by decide +kernel
theorem dX9_ballotOf_79 : decode cX9_ballotOf 79 = .ok (.ireturn, 1) := by decide +kernel
theorem dX9_rowOf_0 : decode cX9_rowOf 0 = .ok (.aload_n 0, 1) := by decide +kernel
theorem dX9_rowOf_1 : decode cX9_rowOf 1 = .ok (.iload_n 1, 1) := by decide +kernel
theorem dX9_rowOf_2 : decode cX9_rowOf 2 = .ok (.invokevirtual 208, 3) := by decide +kernel
theorem dX9_rowOf_5 : decode cX9_rowOf 5 = .ok (.ifCond .eq 24, 3) := by decide +kernel
theorem dX9_rowOf_8 : decode cX9_rowOf 8 = .ok (.iload_n 2, 1) := by decide +kernel
theorem dX9_rowOf_9 : decode cX9_rowOf 9 = .ok (.i2l, 1) := by decide +kernel
theorem dX9_rowOf_10 : decode cX9_rowOf 10 = .ok (.lconst 0, 1) := by decide +kernel
theorem dX9_rowOf_11 : decode cX9_rowOf 11 = .ok (.aload_n 0, 1) := by decide +kernel
theorem dX9_rowOf_12 : decode cX9_rowOf 12 = .ok (.getfield 19, 3) := by decide +kernel
theorem dX9_rowOf_15 : decode cX9_rowOf 15 = .ok (.iload_n 1, 1) := by decide +kernel
theorem dX9_rowOf_16 : decode cX9_rowOf 16 = .ok (.iaload, 1) := by decide +kernel
theorem dX9_rowOf_17 : decode cX9_rowOf 17 = .ok (.invokestatic 177, 3) := by decide +kernel
theorem dX9_rowOf_20 : decode cX9_rowOf 20 = .ok (.iconst 1, 1) := by decide +kernel
theorem dX9_rowOf_21 : decode cX9_rowOf 21 = .ok (.isub, 1) := by decide +kernel
theorem dX9_rowOf_22 : decode cX9_rowOf 22 = .ok (.i2l, 1) := by decide +kernel
theorem dX9_rowOf_23 : decode cX9_rowOf 23 = .ok (.invokestatic 170, 3) := by decide +kernel
theorem dX9_rowOf_26 : decode cX9_rowOf 26 = .ok (.ifCond .ne 5, 3) := by decide +kernel
theorem dX9_rowOf_29 : decode cX9_rowOf 29 = .ok (.iconst (-1), 1) := by decide +kernel
theorem dX9_rowOf_30 : decode cX9_rowOf 30 = .ok (.ireturn, 1) := by decide +kernel
theorem dX9_rowOf_31 : decode cX9_rowOf 31 = .ok (.aload_n 0, 1) := by decide +kernel
theorem dX9_rowOf_32 : decode cX9_rowOf 32 = .ok (.getfield 19, 3) := by decide +kernel
theorem dX9_rowOf_35 : decode cX9_rowOf 35 = .ok (.iload_n 1, 1) := by decide +kernel
theorem dX9_rowOf_36 : decode cX9_rowOf 36 = .ok (.iaload, 1) := by decide +kernel
theorem dX9_rowOf_37 : decode cX9_rowOf 37 = .ok (.iload_n 2, 1) := by decide +kernel
theorem dX9_rowOf_38 : decode cX9_rowOf 38 = .ok (.invokestatic 181, 3) := by decide +kernel
theorem dX9_rowOf_41 : decode cX9_rowOf 41 = .ok (.iconst 1, 1) := by decide +kernel
theorem dX9_rowOf_42 : decode cX9_rowOf 42 = .ok (.isub, 1) := by decide +kernel
theorem dX9_rowOf_43 : decode cX9_rowOf 43 = .ok (.ireturn, 1) := by decide +kernel
theorem dX9_told_0 : decode cX9_told 0 = .ok (.iload_n 1, 1) := by decide +kernel
theorem dX9_told_1 : decode cX9_told 1 = .ok (.i2l, 1) := by decide +kernel
theorem dX9_told_2 : decode cX9_told 2 = .ok (.lconst 0, 1) := by decide +kernel
theorem dX9_told_3 : decode cX9_told 3 = .ok (.ldc2_w 318, 3) := by decide +kernel
theorem dX9_told_6 : decode cX9_told 6 = .ok (.invokestatic 170, 3) := by decide +kernel
theorem dX9_told_9 : decode cX9_told 9 = .ok (.ifCond .ne 5, 3) := by decide +kernel
theorem dX9_told_12 : decode cX9_told 12 = .ok (.iconst (-1), 1) := by decide +kernel
theorem dX9_told_13 : decode cX9_told 13 = .ok (.ireturn, 1) := by decide +kernel
theorem dX9_told_14 : decode cX9_told 14 = .ok (.aload_n 0, 1) := by decide +kernel
theorem dX9_told_15 : decode cX9_told 15 = .ok (.invokevirtual 320, 3) := by decide +kernel
theorem dX9_told_18 : decode cX9_told 18 = .ok (.istore_n 2, 1) := by decide +kernel
theorem dX9_told_19 : decode cX9_told 19 = .ok (.iload_n 1, 1) := by decide +kernel
theorem dX9_told_20 : decode cX9_told 20 = .ok (.tableswitch 85 0 7 #[48, 53, 58, 63, 68, 73, 78, 83], 48) := by decide +kernel
theorem dX9_told_68 : decode cX9_told 68 = .ok (.aload_n 0, 1) := by decide +kernel
theorem dX9_told_69 : decode cX9_told 69 = .ok (.getfield 167, 3) := by decide +kernel
theorem dX9_told_72 : decode cX9_told 72 = .ok (.ireturn, 1) := by decide +kernel
theorem dX9_told_73 : decode cX9_told 73 = .ok (.aload_n 0, 1) := by decide +kernel
theorem dX9_told_74 : decode cX9_told 74 = .ok (.getfield 174, 3) := by decide +kernel
theorem dX9_told_77 : decode cX9_told 77 = .ok (.ireturn, 1) := by decide +kernel
theorem dX9_told_78 : decode cX9_told 78 = .ok (.aload_n 0, 1) := by decide +kernel
theorem dX9_told_79 : decode cX9_told 79 = .ok (.getfield 248, 3) := by decide +kernel
theorem dX9_told_82 : decode cX9_told 82 = .ok (.ireturn, 1) := by decide +kernel
theorem dX9_told_83 : decode cX9_told 83 = .ok (.aload_n 0, 1) := by decide +kernel
theorem dX9_told_84 : decode cX9_told 84 = .ok (.getfield 25, 3) := by decide +kernel
theorem dX9_told_87 : decode cX9_told 87 = .ok (.ireturn, 1) := by decide +kernel
theorem dX9_told_88 : decode cX9_told 88 = .ok (.aload_n 0, 1) := by decide +kernel
theorem dX9_told_89 : decode cX9_told 89 = .ok (.getfield 29, 3) := by decide +kernel
theorem dX9_told_92 : decode cX9_told 92 = .ok (.ireturn, 1) := by decide +kernel
theorem dX9_told_93 : decode cX9_told 93 = .ok (.aload_n 0, 1) := by decide +kernel
theorem dX9_told_94 : decode cX9_told 94 = .ok (.getfield 32, 3) := by decide +kernel
theorem dX9_told_97 : decode cX9_told 97 = .ok (.ireturn, 1) := by decide +kernel
theorem dX9_told_98 : decode cX9_told 98 = .ok (.aload_n 0, 1) := by decide +kernel
theorem dX9_told_99 : decode cX9_told 99 = .ok (.getfield 251, 3) := by decide +kernel
theorem dX9_told_102 : decode cX9_told 102 = .ok (.ireturn, 1) := by decide +kernel
theorem dX9_told_103 : decode cX9_told 103 = .ok (.iload_n 2, 1) := by decide +kernel
theorem dX9_told_104 : decode cX9_told 104 = .ok (.ireturn, 1) := by decide +kernel
theorem dX9_told_105 : decode cX9_told 105 = .ok (.aload_n 0, 1) := by decide +kernel
theorem dX9_told_106 : decode cX9_told 106 = .ok (.getfield 225, 3) := by decide +kernel
theorem dX9_told_109 : decode cX9_told 109 = .ok (.ireturn, 1) := by decide +kernel
theorem dX9_isStage_0 : decode cX9_isStage 0 = .ok (.aload_n 0, 1) := by decide +kernel
theorem dX9_isStage_1 : decode cX9_isStage 1 = .ok (.invokevirtual 310, 3) := by decide +kernel
theorem dX9_isStage_4 : decode cX9_isStage 4 = .ok (.iload_n 1, 1) := by decide +kernel
theorem dX9_isStage_5 : decode cX9_isStage 5 = .ok (.i2l, 1) := by decide +kernel
theorem dX9_isStage_6 : decode cX9_isStage 6 = .ok (.lconst 0, 1) := by decide +kernel
theorem dX9_isStage_7 : decode cX9_isStage 7 = .ok (.aload_n 0, 1) := by decide +kernel
theorem dX9_isStage_8 : decode cX9_isStage 8 = .ok (.getfield 248, 3) := by decide +kernel
theorem dX9_isStage_11 : decode cX9_isStage 11 = .ok (.iconst 1, 1) := by decide +kernel
theorem dX9_isStage_12 : decode cX9_isStage 12 = .ok (.isub, 1) := by decide +kernel
theorem dX9_isStage_13 : decode cX9_isStage 13 = .ok (.i2l, 1) := by decide +kernel
theorem dX9_isStage_14 : decode cX9_isStage 14 = .ok (.invokestatic 170, 3) := by decide +kernel
theorem dX9_isStage_17 : decode cX9_isStage 17 = .ok (.ireturn, 1) := by decide +kernel
theorem dX9_stageOf_0 : decode cX9_stageOf 0 = .ok (.aload_n 0, 1) := by decide +kernel
theorem dX9_stageOf_1 : decode cX9_stageOf 1 = .ok (.iload_n 1, 1) := by decide +kernel
theorem dX9_stageOf_2 : decode cX9_stageOf 2 = .ok (.invokevirtual 323, 3) := by decide +kernel
theorem dX9_stageOf_5 : decode cX9_stageOf 5 = .ok (.ifCond .eq 15, 3) := by decide +kernel
theorem dX9_stageOf_8 : decode cX9_stageOf 8 = .ok (.iload_n 2, 1) := by decide +kernel
theorem dX9_stageOf_9 : decode cX9_stageOf 9 = .ok (.i2l, 1) := by decide +kernel
theorem dX9_stageOf_10 : decode cX9_stageOf 10 = .ok (.lconst 0, 1) := by decide +kernel
theorem dX9_stageOf_11 : decode cX9_stageOf 11 = .ok (.ldc2_w 214, 3) := by decide +kernel
theorem dX9_stageOf_14 : decode cX9_stageOf 14 = .ok (.invokestatic 170, 3) := by decide +kernel
theorem dX9_stageOf_17 : decode cX9_stageOf 17 = .ok (.ifCond .ne 5, 3) := by decide +kernel
theorem dX9_stageOf_20 : decode cX9_stageOf 20 = .ok (.iconst (-1), 1) := by decide +kernel
theorem dX9_stageOf_21 : decode cX9_stageOf 21 = .ok (.ireturn, 1) := by decide +kernel
theorem dX9_stageOf_22 : decode cX9_stageOf 22 = .ok (.iload_n 2, 1) := by decide +kernel
theorem dX9_stageOf_23 : decode cX9_stageOf 23 = .ok (.ifCond .ne 12, 3) := by decide +kernel
theorem dX9_stageOf_26 : decode cX9_stageOf 26 = .ok (.aload_n 0, 1) := by decide +kernel
theorem dX9_stageOf_27 : decode cX9_stageOf 27 = .ok (.getfield 96, 3) := by decide +kernel
theorem dX9_stageOf_30 : decode cX9_stageOf 30 = .ok (.iload_n 1, 1) := by decide +kernel
theorem dX9_stageOf_31 : decode cX9_stageOf 31 = .ok (.iaload, 1) := by decide +kernel
theorem dX9_stageOf_32 : decode cX9_stageOf 32 = .ok (.goto 23, 3) := by decide +kernel
theorem dX9_stageOf_35 : decode cX9_stageOf 35 = .ok (.iload_n 2, 1) := by decide +kernel
theorem dX9_stageOf_36 : decode cX9_stageOf 36 = .ok (.iconst 1, 1) := by decide +kernel
theorem dX9_stageOf_37 : decode cX9_stageOf 37 = .ok (.if_icmp .ne 12, 3) := by decide +kernel
theorem dX9_stageOf_40 : decode cX9_stageOf 40 = .ok (.aload_n 0, 1) := by decide +kernel
theorem dX9_stageOf_41 : decode cX9_stageOf 41 = .ok (.getfield 99, 3) := by decide +kernel
theorem dX9_stageOf_44 : decode cX9_stageOf 44 = .ok (.iload_n 1, 1) := by decide +kernel
theorem dX9_stageOf_45 : decode cX9_stageOf 45 = .ok (.iaload, 1) := by decide +kernel
theorem dX9_stageOf_46 : decode cX9_stageOf 46 = .ok (.goto 9, 3) := by decide +kernel
theorem dX9_stageOf_49 : decode cX9_stageOf 49 = .ok (.aload_n 0, 1) := by decide +kernel
theorem dX9_stageOf_50 : decode cX9_stageOf 50 = .ok (.getfield 102, 3) := by decide +kernel
theorem dX9_stageOf_53 : decode cX9_stageOf 53 = .ok (.iload_n 1, 1) := by decide +kernel
theorem dX9_stageOf_54 : decode cX9_stageOf 54 = .ok (.iaload, 1) := by decide +kernel
theorem dX9_stageOf_55 : decode cX9_stageOf 55 = .ok (.ireturn, 1) := by decide +kernel
theorem dX9_amount_0 : decode cX9_amount 0 = .ok (.aload_n 0, 1) := by decide +kernel
theorem dX9_amount_1 : decode cX9_amount 1 = .ok (.iload_n 1, 1) := by decide +kernel
theorem dX9_amount_2 : decode cX9_amount 2 = .ok (.invokevirtual 323, 3) := by decide +kernel
theorem dX9_amount_5 : decode cX9_amount 5 = .ok (.ifCond .eq 15, 3) := by decide +kernel
theorem dX9_amount_8 : decode cX9_amount 8 = .ok (.iload_n 2, 1) := by decide +kernel
theorem dX9_amount_9 : decode cX9_amount 9 = .ok (.i2l, 1) := by decide +kernel
theorem dX9_amount_10 : decode cX9_amount 10 = .ok (.lconst 0, 1) := by decide +kernel
theorem dX9_amount_11 : decode cX9_amount 11 = .ok (.ldc2_w 313, 3) := by decide +kernel
theorem dX9_amount_14 : decode cX9_amount 14 = .ok (.invokestatic 170, 3) := by decide +kernel
theorem dX9_amount_17 : decode cX9_amount 17 = .ok (.ifCond .ne 7, 3) := by decide +kernel
theorem dX9_amount_20 : decode cX9_amount 20 = .ok (.ldc2_w 326, 3) := by decide +kernel
theorem dX9_amount_23 : decode cX9_amount 23 = .ok (.lreturn, 1) := by decide +kernel
theorem dX9_amount_24 : decode cX9_amount 24 = .ok (.iload_n 2, 1) := by decide +kernel
theorem dX9_amount_25 : decode cX9_amount 25 = .ok (.ifCond .ne 12, 3) := by decide +kernel
theorem dX9_amount_28 : decode cX9_amount 28 = .ok (.aload_n 0, 1) := by decide +kernel
theorem dX9_amount_29 : decode cX9_amount 29 = .ok (.getfield 81, 3) := by decide +kernel
theorem dX9_amount_32 : decode cX9_amount 32 = .ok (.iload_n 1, 1) := by decide +kernel
theorem dX9_amount_33 : decode cX9_amount 33 = .ok (.laload, 1) := by decide +kernel
theorem dX9_amount_34 : decode cX9_amount 34 = .ok (.goto 37, 3) := by decide +kernel
theorem dX9_amount_37 : decode cX9_amount 37 = .ok (.iload_n 2, 1) := by decide +kernel
theorem dX9_amount_38 : decode cX9_amount 38 = .ok (.iconst 1, 1) := by decide +kernel
theorem dX9_amount_39 : decode cX9_amount 39 = .ok (.if_icmp .ne 12, 3) := by decide +kernel
theorem dX9_amount_42 : decode cX9_amount 42 = .ok (.aload_n 0, 1) := by decide +kernel
theorem dX9_amount_43 : decode cX9_amount 43 = .ok (.getfield 84, 3) := by decide +kernel
theorem dX9_amount_46 : decode cX9_amount 46 = .ok (.iload_n 1, 1) := by decide +kernel
theorem dX9_amount_47 : decode cX9_amount 47 = .ok (.laload, 1) := by decide +kernel
theorem dX9_amount_48 : decode cX9_amount 48 = .ok (.goto 23, 3) := by decide +kernel
theorem dX9_amount_51 : decode cX9_amount 51 = .ok (.iload_n 2, 1) := by decide +kernel
theorem dX9_amount_52 : decode cX9_amount 52 = .ok (.iconst 2, 1) := by decide +kernel
theorem dX9_amount_53 : decode cX9_amount 53 = .ok (.if_icmp .ne 12, 3) := by decide +kernel
theorem dX9_amount_56 : decode cX9_amount 56 = .ok (.aload_n 0, 1) := by decide +kernel
theorem dX9_amount_57 : decode cX9_amount 57 = .ok (.getfield 87, 3) := by decide +kernel
theorem dX9_amount_60 : decode cX9_amount 60 = .ok (.iload_n 1, 1) := by decide +kernel
theorem dX9_amount_61 : decode cX9_amount 61 = .ok (.laload, 1) := by decide +kernel
theorem dX9_amount_62 : decode cX9_amount 62 = .ok (.goto 9, 3) := by decide +kernel
theorem dX9_amount_65 : decode cX9_amount 65 = .ok (.aload_n 0, 1) := by decide +kernel
theorem dX9_amount_66 : decode cX9_amount 66 = .ok (.getfield 90, 3) := by decide +kernel
theorem dX9_amount_69 : decode cX9_amount 69 = .ok (.iload_n 1, 1) := by decide +kernel
theorem dX9_amount_70 : decode cX9_amount 70 = .ok (.laload, 1) := by decide +kernel
theorem dX9_amount_71 : decode cX9_amount 71 = .ok (.lreturn, 1) := by decide +kernel
theorem dX9_votes_0 : decode cX9_votes 0 = .ok (.aload_n 0, 1) := by decide +kernel
theorem dX9_votes_1 : decode cX9_votes 1 = .ok (.iload_n 1, 1) := by decide +kernel
theorem dX9_votes_2 : decode cX9_votes 2 = .ok (.invokevirtual 323, 3) := by decide +kernel
theorem dX9_votes_5 : decode cX9_votes 5 = .ok (.ifCond .eq 21, 3) := by decide +kernel
theorem dX9_votes_8 : decode cX9_votes 8 = .ok (.aload_n 0, 1) := by decide +kernel
theorem dX9_votes_9 : decode cX9_votes 9 = .ok (.iload_n 2, 1) := by decide +kernel
theorem dX9_votes_10 : decode cX9_votes 10 = .ok (.invokevirtual 211, 3) := by decide +kernel
theorem dX9_votes_13 : decode cX9_votes 13 = .ok (.ifCond .eq 13, 3) := by decide +kernel
theorem dX9_votes_16 : decode cX9_votes 16 = .ok (.iload_n 3, 1) := by decide +kernel
theorem dX9_votes_17 : decode cX9_votes 17 = .ok (.i2l, 1) := by decide +kernel
theorem dX9_votes_18 : decode cX9_votes 18 = .ok (.lconst 0, 1) := by decide +kernel
theorem dX9_votes_19 : decode cX9_votes 19 = .ok (.lconst 1, 1) := by decide +kernel
theorem dX9_votes_20 : decode cX9_votes 20 = .ok (.invokestatic 170, 3) := by decide +kernel
theorem dX9_votes_23 : decode cX9_votes 23 = .ok (.ifCond .ne 7, 3) := by decide +kernel
theorem dX9_votes_26 : decode cX9_votes 26 = .ok (.ldc2_w 326, 3) := by decide +kernel
theorem dX9_votes_29 : decode cX9_votes 29 = .ok (.lreturn, 1) := by decide +kernel
theorem dX9_votes_30 : decode cX9_votes 30 = .ok (.iload_n 3, 1) := by decide +kernel
theorem dX9_votes_31 : decode cX9_votes 31 = .ok (.ifCond .ne 17, 3) := by decide +kernel
theorem dX9_votes_34 : decode cX9_votes 34 = .ok (.aload_n 0, 1) := by decide +kernel
theorem dX9_votes_35 : decode cX9_votes 35 = .ok (.getfield 78, 3) := by decide +kernel
theorem dX9_votes_38 : decode cX9_votes 38 = .ok (.bipush 8, 2) := by decide +kernel
theorem dX9_votes_40 : decode cX9_votes 40 = .ok (.iload_n 1, 1) := by decide +kernel
theorem dX9_votes_41 : decode cX9_votes 41 = .ok (.imul, 1) := by decide +kernel
theorem dX9_votes_42 : decode cX9_votes 42 = .ok (.iload_n 2, 1) := by decide +kernel
theorem dX9_votes_43 : decode cX9_votes 43 = .ok (.iadd, 1) := by decide +kernel
theorem dX9_votes_44 : decode cX9_votes 44 = .ok (.laload, 1) := by decide +kernel
theorem dX9_votes_45 : decode cX9_votes 45 = .ok (.goto 15, 3) := by decide +kernel
theorem dX9_votes_48 : decode cX9_votes 48 = .ok (.aload_n 0, 1) := by decide +kernel
theorem dX9_votes_49 : decode cX9_votes 49 = .ok (.getfield 93, 3) := by decide +kernel
theorem dX9_votes_52 : decode cX9_votes 52 = .ok (.bipush 8, 2) := by decide +kernel
theorem dX9_votes_54 : decode cX9_votes 54 = .ok (.iload_n 1, 1) := by decide +kernel
theorem dX9_votes_55 : decode cX9_votes 55 = .ok (.imul, 1) := by decide +kernel
theorem dX9_votes_56 : decode cX9_votes 56 = .ok (.iload_n 2, 1) := by decide +kernel
theorem dX9_votes_57 : decode cX9_votes 57 = .ok (.iadd, 1) := by decide +kernel
theorem dX9_votes_58 : decode cX9_votes 58 = .ok (.iaload, 1) := by decide +kernel
theorem dX9_votes_59 : decode cX9_votes 59 = .ok (.i2l, 1) := by decide +kernel
theorem dX9_votes_60 : decode cX9_votes 60 = .ok (.lreturn, 1) := by decide +kernel
theorem dX9_elected_0 : decode cX9_elected 0 = .ok (.aload_n 0, 1) := by decide +kernel
theorem dX9_elected_1 : decode cX9_elected 1 = .ok (.invokevirtual 310, 3) := by decide +kernel
theorem dX9_elected_4 : decode cX9_elected 4 = .ok (.iload_n 1, 1) := by decide +kernel
theorem dX9_elected_5 : decode cX9_elected 5 = .ok (.i2l, 1) := by decide +kernel
theorem dX9_elected_6 : decode cX9_elected 6 = .ok (.lconst 0, 1) := by decide +kernel
theorem dX9_elected_7 : decode cX9_elected 7 = .ok (.aload_n 0, 1) := by decide +kernel
theorem dX9_elected_8 : decode cX9_elected 8 = .ok (.getfield 251, 3) := by decide +kernel
theorem dX9_elected_11 : decode cX9_elected 11 = .ok (.iconst 1, 1) := by decide +kernel
theorem dX9_elected_12 : decode cX9_elected 12 = .ok (.isub, 1) := by decide +kernel
theorem dX9_elected_13 : decode cX9_elected 13 = .ok (.i2l, 1) := by decide +kernel
theorem dX9_elected_14 : decode cX9_elected 14 = .ok (.invokestatic 170, 3) := by decide +kernel
theorem dX9_elected_17 : decode cX9_elected 17 = .ok (.ifCond .eq 12, 3) := by decide +kernel
theorem dX9_elected_20 : decode cX9_elected 20 = .ok (.aload_n 0, 1) := by decide +kernel
theorem dX9_elected_21 : decode cX9_elected 21 = .ok (.getfield 71, 3) := by decide +kernel
theorem dX9_elected_24 : decode cX9_elected 24 = .ok (.iload_n 1, 1) := by decide +kernel
theorem dX9_elected_25 : decode cX9_elected 25 = .ok (.iaload, 1) := by decide +kernel
theorem dX9_elected_26 : decode cX9_elected 26 = .ok (.goto 5, 3) := by decide +kernel
theorem dX9_elected_29 : decode cX9_elected 29 = .ok (.bipush (-5), 2) := by decide +kernel
theorem dX9_elected_31 : decode cX9_elected 31 = .ok (.ireturn, 1) := by decide +kernel
theorem dX9_ranksBy_0 : decode cX9_ranksBy 0 = .ok (.iload_n 1, 1) := by decide +kernel
theorem dX9_ranksBy_1 : decode cX9_ranksBy 1 = .ok (.istore 4, 2) := by decide +kernel
theorem dX9_ranksBy_3 : decode cX9_ranksBy 3 = .ok (.iconst 0, 1) := by decide +kernel
theorem dX9_ranksBy_4 : decode cX9_ranksBy 4 = .ok (.istore 5, 2) := by decide +kernel
theorem dX9_ranksBy_6 : decode cX9_ranksBy 6 = .ok (.iload 5, 2) := by decide +kernel
theorem dX9_ranksBy_8 : decode cX9_ranksBy 8 = .ok (.aload_n 0, 1) := by decide +kernel
theorem dX9_ranksBy_9 : decode cX9_ranksBy 9 = .ok (.getfield 167, 3) := by decide +kernel
theorem dX9_ranksBy_12 : decode cX9_ranksBy 12 = .ok (.if_icmp .ge 121, 3) := by decide +kernel
theorem dX9_ranksBy_15 : decode cX9_ranksBy 15 = .ok (.iload_n 2, 1) := by decide +kernel
theorem dX9_ranksBy_16 : decode cX9_ranksBy 16 = .ok (.iconst (-1), 1) := by decide +kernel
theorem dX9_ranksBy_17 : decode cX9_ranksBy 17 = .ok (.if_icmp .ne 21, 3) := by decide +kernel
theorem dX9_ranksBy_20 : decode cX9_ranksBy 20 = .ok (.aload_n 0, 1) := by decide +kernel
theorem dX9_ranksBy_21 : decode cX9_ranksBy 21 = .ok (.getfield 62, 3) := by decide +kernel
theorem dX9_ranksBy_24 : decode cX9_ranksBy 24 = .ok (.iload 5, 2) := by decide +kernel
theorem dX9_ranksBy_26 : decode cX9_ranksBy 26 = .ok (.iaload, 1) := by decide +kernel
theorem dX9_ranksBy_27 : decode cX9_ranksBy 27 = .ok (.ifCond .eq 7, 3) := by decide +kernel
theorem dX9_ranksBy_30 : decode cX9_ranksBy 30 = .ok (.iconst 1, 1) := by decide +kernel
theorem dX9_ranksBy_31 : decode cX9_ranksBy 31 = .ok (.goto 23, 3) := by decide +kernel
theorem dX9_ranksBy_34 : decode cX9_ranksBy 34 = .ok (.iconst 0, 1) := by decide +kernel
theorem dX9_ranksBy_35 : decode cX9_ranksBy 35 = .ok (.goto 19, 3) := by decide +kernel
theorem dX9_ranksBy_38 : decode cX9_ranksBy 38 = .ok (.aload_n 0, 1) := by decide +kernel
theorem dX9_ranksBy_39 : decode cX9_ranksBy 39 = .ok (.getfield 62, 3) := by decide +kernel
theorem dX9_ranksBy_42 : decode cX9_ranksBy 42 = .ok (.iload 5, 2) := by decide +kernel
theorem dX9_ranksBy_44 : decode cX9_ranksBy 44 = .ok (.iaload, 1) := by decide +kernel
theorem dX9_ranksBy_45 : decode cX9_ranksBy 45 = .ok (.iload_n 2, 1) := by decide +kernel
theorem dX9_ranksBy_46 : decode cX9_ranksBy 46 = .ok (.if_icmp .ne 7, 3) := by decide +kernel
theorem dX9_ranksBy_49 : decode cX9_ranksBy 49 = .ok (.iconst 1, 1) := by decide +kernel
theorem dX9_ranksBy_50 : decode cX9_ranksBy 50 = .ok (.goto 4, 3) := by decide +kernel
theorem dX9_ranksBy_53 : decode cX9_ranksBy 53 = .ok (.iconst 0, 1) := by decide +kernel
theorem dX9_ranksBy_54 : decode cX9_ranksBy 54 = .ok (.istore 6, 2) := by decide +kernel
theorem dX9_ranksBy_56 : decode cX9_ranksBy 56 = .ok (.iload 6, 2) := by decide +kernel
theorem dX9_ranksBy_58 : decode cX9_ranksBy 58 = .ok (.ifCond .ne 6, 3) := by decide +kernel
theorem dX9_ranksBy_61 : decode cX9_ranksBy 61 = .ok (.goto 66, 3) := by decide +kernel
theorem dX9_ranksBy_64 : decode cX9_ranksBy 64 = .ok (.iload 4, 2) := by decide +kernel
theorem dX9_ranksBy_66 : decode cX9_ranksBy 66 = .ok (.istore 7, 2) := by decide +kernel
theorem dX9_ranksBy_68 : decode cX9_ranksBy 68 = .ok (.iload 7, 2) := by decide +kernel
theorem dX9_ranksBy_70 : decode cX9_ranksBy 70 = .ok (.iload_n 1, 1) := by decide +kernel
theorem dX9_ranksBy_71 : decode cX9_ranksBy 71 = .ok (.if_icmp .le 44, 3) := by decide +kernel
theorem dX9_ranksBy_74 : decode cX9_ranksBy 74 = .ok (.aload_n 0, 1) := by decide +kernel
theorem dX9_ranksBy_75 : decode cX9_ranksBy 75 = .ok (.iload 5, 2) := by decide +kernel
theorem dX9_ranksBy_77 : decode cX9_ranksBy 77 = .ok (.aload_n 0, 1) := by decide +kernel
theorem dX9_ranksBy_78 : decode cX9_ranksBy 78 = .ok (.getfield 105, 3) := by decide +kernel
theorem dX9_ranksBy_81 : decode cX9_ranksBy 81 = .ok (.iload 7, 2) := by decide +kernel
theorem dX9_ranksBy_83 : decode cX9_ranksBy 83 = .ok (.iconst 1, 1) := by decide +kernel
theorem dX9_ranksBy_84 : decode cX9_ranksBy 84 = .ok (.isub, 1) := by decide +kernel
theorem dX9_ranksBy_85 : decode cX9_ranksBy 85 = .ok (.iaload, 1) := by decide +kernel
theorem dX9_ranksBy_86 : decode cX9_ranksBy 86 = .ok (.iload_n 3, 1) := by decide +kernel
theorem dX9_ranksBy_87 : decode cX9_ranksBy 87 = .ok (.invokevirtual 328, 3) := by decide +kernel
theorem dX9_ranksBy_90 : decode cX9_ranksBy 90 = .ok (.ifCond .eq 25, 3) := by decide +kernel
theorem dX9_ranksBy_93 : decode cX9_ranksBy 93 = .ok (.aload_n 0, 1) := by decide +kernel
theorem dX9_ranksBy_94 : decode cX9_ranksBy 94 = .ok (.getfield 105, 3) := by decide +kernel
theorem dX9_ranksBy_97 : decode cX9_ranksBy 97 = .ok (.iload 7, 2) := by decide +kernel
theorem dX9_ranksBy_99 : decode cX9_ranksBy 99 = .ok (.aload_n 0, 1) := by decide +kernel
theorem dX9_ranksBy_100 : decode cX9_ranksBy 100 = .ok (.getfield 105, 3) := by decide +kernel
theorem dX9_ranksBy_103 : decode cX9_ranksBy 103 = .ok (.iload 7, 2) := by decide +kernel
theorem dX9_ranksBy_105 : decode cX9_ranksBy 105 = .ok (.iconst 1, 1) := by decide +kernel
theorem dX9_ranksBy_106 : decode cX9_ranksBy 106 = .ok (.isub, 1) := by decide +kernel
theorem dX9_ranksBy_107 : decode cX9_ranksBy 107 = .ok (.iaload, 1) := by decide +kernel
theorem dX9_ranksBy_108 : decode cX9_ranksBy 108 = .ok (.iastore, 1) := by decide +kernel
theorem dX9_ranksBy_109 : decode cX9_ranksBy 109 = .ok (.iinc 7 (-1), 3) := by decide +kernel
theorem dX9_ranksBy_112 : decode cX9_ranksBy 112 = .ok (.goto (-44), 3) := by decide +kernel
theorem dX9_ranksBy_115 : decode cX9_ranksBy 115 = .ok (.aload_n 0, 1) := by decide +kernel
theorem dX9_ranksBy_116 : decode cX9_ranksBy 116 = .ok (.getfield 105, 3) := by decide +kernel
theorem dX9_ranksBy_119 : decode cX9_ranksBy 119 = .ok (.iload 7, 2) := by decide +kernel
theorem dX9_ranksBy_121 : decode cX9_ranksBy 121 = .ok (.iload 5, 2) := by decide +kernel
theorem dX9_ranksBy_123 : decode cX9_ranksBy 123 = .ok (.iastore, 1) := by decide +kernel
theorem dX9_ranksBy_124 : decode cX9_ranksBy 124 = .ok (.iinc 4 1, 3) := by decide +kernel
theorem dX9_ranksBy_127 : decode cX9_ranksBy 127 = .ok (.iinc 5 1, 3) := by decide +kernel
theorem dX9_ranksBy_130 : decode cX9_ranksBy 130 = .ok (.goto (-124), 3) := by decide +kernel
theorem dX9_ranksBy_133 : decode cX9_ranksBy 133 = .ok (.iload 4, 2) := by decide +kernel
theorem dX9_ranksBy_135 : decode cX9_ranksBy 135 = .ok (.ireturn, 1) := by decide +kernel
theorem dX9_isBefore_0 : decode cX9_isBefore 0 = .ok (.aload_n 0, 1) := by decide +kernel
theorem dX9_isBefore_1 : decode cX9_isBefore 1 = .ok (.getfield 78, 3) := by decide +kernel
theorem dX9_isBefore_4 : decode cX9_isBefore 4 = .ok (.bipush 8, 2) := by decide +kernel
theorem dX9_isBefore_6 : decode cX9_isBefore 6 = .ok (.iload_n 3, 1) := by decide +kernel
theorem dX9_isBefore_7 : decode cX9_isBefore 7 = .ok (.imul, 1) := by decide +kernel
theorem dX9_isBefore_8 : decode cX9_isBefore 8 = .ok (.iload_n 1, 1) := by decide +kernel
theorem dX9_isBefore_9 : decode cX9_isBefore 9 = .ok (.iadd, 1) := by decide +kernel
theorem dX9_isBefore_10 : decode cX9_isBefore 10 = .ok (.laload, 1) := by decide +kernel
theorem dX9_isBefore_11 : decode cX9_isBefore 11 = .ok (.lstore 4, 2) := by decide +kernel
theorem dX9_isBefore_13 : decode cX9_isBefore 13 = .ok (.aload_n 0, 1) := by decide +kernel
theorem dX9_isBefore_14 : decode cX9_isBefore 14 = .ok (.getfield 78, 3) := by decide +kernel
theorem dX9_isBefore_17 : decode cX9_isBefore 17 = .ok (.bipush 8, 2) := by decide +kernel
theorem dX9_isBefore_19 : decode cX9_isBefore 19 = .ok (.iload_n 3, 1) := by decide +kernel
theorem dX9_isBefore_20 : decode cX9_isBefore 20 = .ok (.imul, 1) := by decide +kernel
theorem dX9_isBefore_21 : decode cX9_isBefore 21 = .ok (.iload_n 2, 1) := by decide +kernel
theorem dX9_isBefore_22 : decode cX9_isBefore 22 = .ok (.iadd, 1) := by decide +kernel
theorem dX9_isBefore_23 : decode cX9_isBefore 23 = .ok (.laload, 1) := by decide +kernel
theorem dX9_isBefore_24 : decode cX9_isBefore 24 = .ok (.lstore 6, 2) := by decide +kernel
theorem dX9_isBefore_26 : decode cX9_isBefore 26 = .ok (.lload 4, 2) := by decide +kernel
theorem dX9_isBefore_28 : decode cX9_isBefore 28 = .ok (.lload 6, 2) := by decide +kernel
theorem dX9_isBefore_30 : decode cX9_isBefore 30 = .ok (.lcmp, 1) := by decide +kernel
theorem dX9_isBefore_31 : decode cX9_isBefore 31 = .ok (.ifCond .gt 24, 3) := by decide +kernel
theorem dX9_isBefore_34 : decode cX9_isBefore 34 = .ok (.lload 4, 2) := by decide +kernel
theorem dX9_isBefore_36 : decode cX9_isBefore 36 = .ok (.lload 6, 2) := by decide +kernel
theorem dX9_isBefore_38 : decode cX9_isBefore 38 = .ok (.lcmp, 1) := by decide +kernel
theorem dX9_isBefore_39 : decode cX9_isBefore 39 = .ok (.ifCond .ne 20, 3) := by decide +kernel
theorem dX9_isBefore_42 : decode cX9_isBefore 42 = .ok (.aload_n 0, 1) := by decide +kernel
theorem dX9_isBefore_43 : decode cX9_isBefore 43 = .ok (.iload_n 1, 1) := by decide +kernel
theorem dX9_isBefore_44 : decode cX9_isBefore 44 = .ok (.invokevirtual 245, 3) := by decide +kernel
theorem dX9_isBefore_47 : decode cX9_isBefore 47 = .ok (.aload_n 0, 1) := by decide +kernel
theorem dX9_isBefore_48 : decode cX9_isBefore 48 = .ok (.iload_n 2, 1) := by decide +kernel
theorem dX9_isBefore_49 : decode cX9_isBefore 49 = .ok (.invokevirtual 245, 3) := by decide +kernel
theorem dX9_isBefore_52 : decode cX9_isBefore 52 = .ok (.if_icmp .ge 7, 3) := by decide +kernel
theorem dX9_isBefore_55 : decode cX9_isBefore 55 = .ok (.iconst 1, 1) := by decide +kernel
theorem dX9_isBefore_56 : decode cX9_isBefore 56 = .ok (.goto 4, 3) := by decide +kernel
theorem dX9_isBefore_59 : decode cX9_isBefore 59 = .ok (.iconst 0, 1) := by decide +kernel
theorem dX9_isBefore_60 : decode cX9_isBefore 60 = .ok (.ireturn, 1) := by decide +kernel
theorem dX9_ranked_0 : decode cX9_ranked 0 = .ok (.aload_n 0, 1) := by decide +kernel
theorem dX9_ranked_1 : decode cX9_ranked 1 = .ok (.iload_n 1, 1) := by decide +kernel
theorem dX9_ranked_2 : decode cX9_ranked 2 = .ok (.invokevirtual 211, 3) := by decide +kernel
theorem dX9_ranked_5 : decode cX9_ranked 5 = .ok (.ifCond .ne 5, 3) := by decide +kernel
theorem dX9_ranked_8 : decode cX9_ranked 8 = .ok (.iconst (-1), 1) := by decide +kernel
theorem dX9_ranked_9 : decode cX9_ranked 9 = .ok (.ireturn, 1) := by decide +kernel
theorem dX9_ranked_10 : decode cX9_ranked 10 = .ok (.aload_n 0, 1) := by decide +kernel
theorem dX9_ranked_11 : decode cX9_ranked 11 = .ok (.invokevirtual 310, 3) := by decide +kernel
theorem dX9_ranked_14 : decode cX9_ranked 14 = .ok (.aload_n 0, 1) := by decide +kernel
theorem dX9_ranked_15 : decode cX9_ranked 15 = .ok (.getfield 71, 3) := by decide +kernel
theorem dX9_ranked_18 : decode cX9_ranked 18 = .ok (.iconst 0, 1) := by decide +kernel
theorem dX9_ranked_19 : decode cX9_ranked 19 = .ok (.aload_n 0, 1) := by decide +kernel
theorem dX9_ranked_20 : decode cX9_ranked 20 = .ok (.getfield 105, 3) := by decide +kernel
theorem dX9_ranked_23 : decode cX9_ranked 23 = .ok (.iconst 0, 1) := by decide +kernel
theorem dX9_ranked_24 : decode cX9_ranked 24 = .ok (.aload_n 0, 1) := by decide +kernel
theorem dX9_ranked_25 : decode cX9_ranked 25 = .ok (.getfield 251, 3) := by decide +kernel
theorem dX9_ranked_28 : decode cX9_ranked 28 = .ok (.invokestatic 332, 3) := by decide +kernel
theorem dX9_ranked_31 : decode cX9_ranked 31 = .ok (.aload_n 0, 1) := by decide +kernel
theorem dX9_ranked_32 : decode cX9_ranked 32 = .ok (.aload_n 0, 1) := by decide +kernel
theorem dX9_ranked_33 : decode cX9_ranked 33 = .ok (.getfield 251, 3) := by decide +kernel
theorem dX9_ranked_36 : decode cX9_ranked 36 = .ok (.iconst 1, 1) := by decide +kernel
theorem dX9_ranked_37 : decode cX9_ranked 37 = .ok (.iconst 0, 1) := by decide +kernel
theorem dX9_ranked_38 : decode cX9_ranked 38 = .ok (.aload_n 0, 1) := by decide +kernel
theorem dX9_ranked_39 : decode cX9_ranked 39 = .ok (.getfield 248, 3) := by decide +kernel
theorem dX9_ranked_42 : decode cX9_ranked 42 = .ok (.iconst 1, 1) := by decide +kernel
theorem dX9_ranked_43 : decode cX9_ranked 43 = .ok (.isub, 1) := by decide +kernel
theorem dX9_ranked_44 : decode cX9_ranked 44 = .ok (.invokestatic 338, 3) := by decide +kernel
theorem dX9_ranked_47 : decode cX9_ranked 47 = .ok (.invokevirtual 341, 3) := by decide +kernel
theorem dX9_ranked_50 : decode cX9_ranked 50 = .ok (.istore_n 2, 1) := by decide +kernel
theorem dX9_ranked_51 : decode cX9_ranked 51 = .ok (.aload_n 0, 1) := by decide +kernel
theorem dX9_ranked_52 : decode cX9_ranked 52 = .ok (.getfield 248, 3) := by decide +kernel
theorem dX9_ranked_55 : decode cX9_ranked 55 = .ok (.iconst 1, 1) := by decide +kernel
theorem dX9_ranked_56 : decode cX9_ranked 56 = .ok (.isub, 1) := by decide +kernel
theorem dX9_ranked_57 : decode cX9_ranked 57 = .ok (.istore_n 3, 1) := by decide +kernel
theorem dX9_ranked_58 : decode cX9_ranked 58 = .ok (.iload_n 3, 1) := by decide +kernel
theorem dX9_ranked_59 : decode cX9_ranked 59 = .ok (.ifCond .lt 38, 3) := by decide +kernel
theorem dX9_ranked_62 : decode cX9_ranked 62 = .ok (.aload_n 0, 1) := by decide +kernel
theorem dX9_ranked_63 : decode cX9_ranked 63 = .ok (.getfield 99, 3) := by decide +kernel
theorem dX9_ranked_66 : decode cX9_ranked 66 = .ok (.iload_n 3, 1) := by decide +kernel
theorem dX9_ranked_67 : decode cX9_ranked 67 = .ok (.iaload, 1) := by decide +kernel
theorem dX9_ranked_68 : decode cX9_ranked 68 = .ok (.bipush (-5), 2) := by decide +kernel
theorem dX9_ranked_70 : decode cX9_ranked 70 = .ok (.if_icmp .ne 6, 3) := by decide +kernel
theorem dX9_ranked_73 : decode cX9_ranked 73 = .ok (.goto 18, 3) := by decide +kernel
theorem dX9_ranked_76 : decode cX9_ranked 76 = .ok (.aload_n 0, 1) := by decide +kernel
theorem dX9_ranked_77 : decode cX9_ranked 77 = .ok (.getfield 105, 3) := by decide +kernel
theorem dX9_ranked_80 : decode cX9_ranked 80 = .ok (.iload_n 2, 1) := by decide +kernel
theorem dX9_ranked_81 : decode cX9_ranked 81 = .ok (.aload_n 0, 1) := by decide +kernel
theorem dX9_ranked_82 : decode cX9_ranked 82 = .ok (.getfield 99, 3) := by decide +kernel
theorem dX9_ranked_85 : decode cX9_ranked 85 = .ok (.iload_n 3, 1) := by decide +kernel
theorem dX9_ranked_86 : decode cX9_ranked 86 = .ok (.iaload, 1) := by decide +kernel
theorem dX9_ranked_87 : decode cX9_ranked 87 = .ok (.iastore, 1) := by decide +kernel
theorem dX9_ranked_88 : decode cX9_ranked 88 = .ok (.iinc 2 1, 3) := by decide +kernel
theorem dX9_ranked_91 : decode cX9_ranked 91 = .ok (.iinc 3 (-1), 3) := by decide +kernel
theorem dX9_ranked_94 : decode cX9_ranked 94 = .ok (.goto (-36), 3) := by decide +kernel
theorem dX9_ranked_97 : decode cX9_ranked 97 = .ok (.iconst 0, 1) := by decide +kernel
theorem dX9_ranked_98 : decode cX9_ranked 98 = .ok (.istore_n 3, 1) := by decide +kernel
theorem dX9_ranked_99 : decode cX9_ranked 99 = .ok (.iload_n 3, 1) := by decide +kernel
theorem dX9_ranked_100 : decode cX9_ranked 100 = .ok (.aload_n 0, 1) := by decide +kernel
theorem dX9_ranked_101 : decode cX9_ranked 101 = .ok (.getfield 167, 3) := by decide +kernel
theorem dX9_ranked_104 : decode cX9_ranked 104 = .ok (.if_icmp .ge 31, 3) := by decide +kernel
theorem dX9_ranked_107 : decode cX9_ranked 107 = .ok (.aload_n 0, 1) := by decide +kernel
theorem dX9_ranked_108 : decode cX9_ranked 108 = .ok (.getfield 62, 3) := by decide +kernel
theorem dX9_ranked_111 : decode cX9_ranked 111 = .ok (.iload_n 3, 1) := by decide +kernel
theorem dX9_ranked_112 : decode cX9_ranked 112 = .ok (.iaload, 1) := by decide +kernel
theorem dX9_ranked_113 : decode cX9_ranked 113 = .ok (.ifCond .eq 6, 3) := by decide +kernel
theorem dX9_ranked_116 : decode cX9_ranked 116 = .ok (.goto 13, 3) := by decide +kernel
theorem dX9_ranked_119 : decode cX9_ranked 119 = .ok (.aload_n 0, 1) := by decide +kernel
theorem dX9_ranked_120 : decode cX9_ranked 120 = .ok (.getfield 105, 3) := by decide +kernel
theorem dX9_ranked_123 : decode cX9_ranked 123 = .ok (.iload_n 2, 1) := by decide +kernel
theorem dX9_ranked_124 : decode cX9_ranked 124 = .ok (.iload_n 3, 1) := by decide +kernel
theorem dX9_ranked_125 : decode cX9_ranked 125 = .ok (.iastore, 1) := by decide +kernel
theorem dX9_ranked_126 : decode cX9_ranked 126 = .ok (.iinc 2 1, 3) := by decide +kernel
theorem dX9_ranked_129 : decode cX9_ranked 129 = .ok (.iinc 3 1, 3) := by decide +kernel
theorem dX9_ranked_132 : decode cX9_ranked 132 = .ok (.goto (-33), 3) := by decide +kernel
theorem dX9_ranked_135 : decode cX9_ranked 135 = .ok (.aload_n 0, 1) := by decide +kernel
theorem dX9_ranked_136 : decode cX9_ranked 136 = .ok (.getfield 105, 3) := by decide +kernel
theorem dX9_ranked_139 : decode cX9_ranked 139 = .ok (.iload_n 1, 1) := by decide +kernel
theorem dX9_ranked_140 : decode cX9_ranked 140 = .ok (.iaload, 1) := by decide +kernel
theorem dX9_ranked_141 : decode cX9_ranked 141 = .ok (.ireturn, 1) := by decide +kernel
theorem dX9_standing_0 : decode cX9_standing 0 = .ok (.aload_n 0, 1) := by decide +kernel
theorem dX9_standing_1 : decode cX9_standing 1 = .ok (.iload_n 1, 1) := by decide +kernel
theorem dX9_standing_2 : decode cX9_standing 2 = .ok (.invokevirtual 323, 3) := by decide +kernel
theorem dX9_standing_5 : decode cX9_standing 5 = .ok (.ifCond .ne 5, 3) := by decide +kernel
theorem dX9_standing_8 : decode cX9_standing 8 = .ok (.iconst (-1), 1) := by decide +kernel
theorem dX9_standing_9 : decode cX9_standing 9 = .ok (.ireturn, 1) := by decide +kernel
theorem dX9_standing_10 : decode cX9_standing 10 = .ok (.aload_n 0, 1) := by decide +kernel
theorem dX9_standing_11 : decode cX9_standing 11 = .ok (.iconst 0, 1) := by decide +kernel
theorem dX9_standing_12 : decode cX9_standing 12 = .ok (.iconst (-1), 1) := by decide +kernel
theorem dX9_standing_13 : decode cX9_standing 13 = .ok (.iload_n 1, 1) := by decide +kernel
theorem dX9_standing_14 : decode cX9_standing 14 = .ok (.invokevirtual 341, 3) := by decide +kernel
theorem dX9_standing_17 : decode cX9_standing 17 = .ok (.istore_n 3, 1) := by decide +kernel
theorem dX9_standing_18 : decode cX9_standing 18 = .ok (.iload_n 2, 1) := by decide +kernel
theorem dX9_standing_19 : decode cX9_standing 19 = .ok (.i2l, 1) := by decide +kernel
theorem dX9_standing_20 : decode cX9_standing 20 = .ok (.lconst 0, 1) := by decide +kernel
theorem dX9_standing_21 : decode cX9_standing 21 = .ok (.iload_n 3, 1) := by decide +kernel
theorem dX9_standing_22 : decode cX9_standing 22 = .ok (.iconst 1, 1) := by decide +kernel
theorem dX9_standing_23 : decode cX9_standing 23 = .ok (.isub, 1) := by decide +kernel
theorem dX9_standing_24 : decode cX9_standing 24 = .ok (.i2l, 1) := by decide +kernel
theorem dX9_standing_25 : decode cX9_standing 25 = .ok (.invokestatic 170, 3) := by decide +kernel
theorem dX9_standing_28 : decode cX9_standing 28 = .ok (.ifCond .eq 12, 3) := by decide +kernel
theorem dX9_standing_31 : decode cX9_standing 31 = .ok (.aload_n 0, 1) := by decide +kernel
theorem dX9_standing_32 : decode cX9_standing 32 = .ok (.getfield 105, 3) := by decide +kernel
theorem dX9_standing_35 : decode cX9_standing 35 = .ok (.iload_n 2, 1) := by decide +kernel
theorem dX9_standing_36 : decode cX9_standing 36 = .ok (.iaload, 1) := by decide +kernel
theorem dX9_standing_37 : decode cX9_standing 37 = .ok (.goto 4, 3) := by decide +kernel
theorem dX9_standing_40 : decode cX9_standing 40 = .ok (.iconst (-1), 1) := by decide +kernel
theorem dX9_standing_41 : decode cX9_standing 41 = .ok (.ireturn, 1) := by decide +kernel
theorem dX9_pile_0 : decode cX9_pile 0 = .ok (.aload_n 0, 1) := by decide +kernel
theorem dX9_pile_1 : decode cX9_pile 1 = .ok (.invokevirtual 299, 3) := by decide +kernel
theorem dX9_pile_4 : decode cX9_pile 4 = .ok (.iload_n 1, 1) := by decide +kernel
theorem dX9_pile_5 : decode cX9_pile 5 = .ok (.i2l, 1) := by decide +kernel
theorem dX9_pile_6 : decode cX9_pile 6 = .ok (.lconst 0, 1) := by decide +kernel
theorem dX9_pile_7 : decode cX9_pile 7 = .ok (.aload_n 0, 1) := by decide +kernel
theorem dX9_pile_8 : decode cX9_pile 8 = .ok (.getfield 225, 3) := by decide +kernel
theorem dX9_pile_11 : decode cX9_pile 11 = .ok (.iconst 1, 1) := by decide +kernel
theorem dX9_pile_12 : decode cX9_pile 12 = .ok (.isub, 1) := by decide +kernel
theorem dX9_pile_13 : decode cX9_pile 13 = .ok (.i2l, 1) := by decide +kernel
theorem dX9_pile_14 : decode cX9_pile 14 = .ok (.invokestatic 170, 3) := by decide +kernel
theorem dX9_pile_17 : decode cX9_pile 17 = .ok (.ifCond .eq 13, 3) := by decide +kernel
theorem dX9_pile_20 : decode cX9_pile 20 = .ok (.iload_n 2, 1) := by decide +kernel
theorem dX9_pile_21 : decode cX9_pile 21 = .ok (.i2l, 1) := by decide +kernel
theorem dX9_pile_22 : decode cX9_pile 22 = .ok (.lconst 0, 1) := by decide +kernel
theorem dX9_pile_23 : decode cX9_pile 23 = .ok (.lconst 1, 1) := by decide +kernel
theorem dX9_pile_24 : decode cX9_pile 24 = .ok (.invokestatic 170, 3) := by decide +kernel
theorem dX9_pile_27 : decode cX9_pile 27 = .ok (.ifCond .ne 5, 3) := by decide +kernel
theorem dX9_pile_30 : decode cX9_pile 30 = .ok (.iconst (-1), 1) := by decide +kernel
theorem dX9_pile_31 : decode cX9_pile 31 = .ok (.ireturn, 1) := by decide +kernel
theorem dX9_pile_32 : decode cX9_pile 32 = .ok (.iload_n 2, 1) := by decide +kernel
theorem dX9_pile_33 : decode cX9_pile 33 = .ok (.ifCond .ne 12, 3) := by decide +kernel
theorem dX9_pile_36 : decode cX9_pile 36 = .ok (.aload_n 0, 1) := by decide +kernel
theorem dX9_pile_37 : decode cX9_pile 37 = .ok (.getfield 53, 3) := by decide +kernel
theorem dX9_pile_40 : decode cX9_pile 40 = .ok (.iload_n 1, 1) := by decide +kernel
theorem dX9_pile_41 : decode cX9_pile 41 = .ok (.iaload, 1) := by decide +kernel
theorem dX9_pile_42 : decode cX9_pile 42 = .ok (.goto 9, 3) := by decide +kernel
theorem dX9_pile_45 : decode cX9_pile 45 = .ok (.aload_n 0, 1) := by decide +kernel
theorem dX9_pile_46 : decode cX9_pile 46 = .ok (.getfield 59, 3) := by decide +kernel
theorem dX9_pile_49 : decode cX9_pile 49 = .ok (.iload_n 1, 1) := by decide +kernel
theorem dX9_pile_50 : decode cX9_pile 50 = .ok (.iaload, 1) := by decide +kernel
theorem dX9_pile_51 : decode cX9_pile 51 = .ok (.ireturn, 1) := by decide +kernel
theorem dX9_isTwo_0 : decode cX9_isTwo 0 = .ok (.aload_n 0, 1) := by decide +kernel
theorem dX9_isTwo_1 : decode cX9_isTwo 1 = .ok (.iload_n 1, 1) := by decide +kernel
theorem dX9_isTwo_2 : decode cX9_isTwo 2 = .ok (.invokevirtual 211, 3) := by decide +kernel
theorem dX9_isTwo_5 : decode cX9_isTwo 5 = .ok (.ifCond .eq 20, 3) := by decide +kernel
theorem dX9_isTwo_8 : decode cX9_isTwo 8 = .ok (.aload_n 0, 1) := by decide +kernel
theorem dX9_isTwo_9 : decode cX9_isTwo 9 = .ok (.iload_n 2, 1) := by decide +kernel
theorem dX9_isTwo_10 : decode cX9_isTwo 10 = .ok (.invokevirtual 211, 3) := by decide +kernel
theorem dX9_isTwo_13 : decode cX9_isTwo 13 = .ok (.ifCond .eq 12, 3) := by decide +kernel
theorem dX9_isTwo_16 : decode cX9_isTwo 16 = .ok (.iload_n 1, 1) := by decide +kernel
theorem dX9_isTwo_17 : decode cX9_isTwo 17 = .ok (.iload_n 2, 1) := by decide +kernel
theorem dX9_isTwo_18 : decode cX9_isTwo 18 = .ok (.if_icmp .eq 7, 3) := by decide +kernel
theorem dX9_isTwo_21 : decode cX9_isTwo 21 = .ok (.iconst 1, 1) := by decide +kernel
theorem dX9_isTwo_22 : decode cX9_isTwo 22 = .ok (.goto 4, 3) := by decide +kernel
theorem dX9_isTwo_25 : decode cX9_isTwo 25 = .ok (.iconst 0, 1) := by decide +kernel
theorem dX9_isTwo_26 : decode cX9_isTwo 26 = .ok (.ireturn, 1) := by decide +kernel
end
