section
theorem dX9_preferredTo_0 : decode cX9_preferredTo 0 = .ok (.iconst 0, 1) := by decide +kernel
theorem dX9_preferredTo_1 : decode cX9_preferredTo 1 = .ok (.istore_n 3, 1) := by decide +kernel
theorem dX9_preferredTo_2 : decode cX9_preferredTo 2 = .ok (.iconst 0, 1) := by decide +kernel
theorem dX9_preferredTo_3 : decode cX9_preferredTo 3 = .ok (.istore 4, 2) := by decide +kernel
theorem dX9_preferredTo_5 : decode cX9_preferredTo 5 = .ok (.iload 4, 2) := by decide +kernel
theorem dX9_preferredTo_7 : decode cX9_preferredTo 7 = .ok (.aload_n 0, 1) := by decide +kernel
theorem dX9_preferredTo_8 : decode cX9_preferredTo 8 = .ok (.getfield 174, 3) := by decide +kernel
theorem dX9_preferredTo_11 : decode cX9_preferredTo 11 = .ok (.if_icmp .ge 84, 3) := by decide +kernel
theorem dX9_preferredTo_14 : decode cX9_preferredTo 14 = .ok (.aload_n 0, 1) := by decide +kernel
theorem dX9_preferredTo_15 : decode cX9_preferredTo 15 = .ok (.getfield 19, 3) := by decide +kernel
theorem dX9_preferredTo_18 : decode cX9_preferredTo 18 = .ok (.iload 4, 2) := by decide +kernel
theorem dX9_preferredTo_20 : decode cX9_preferredTo 20 = .ok (.iaload, 1) := by decide +kernel
theorem dX9_preferredTo_21 : decode cX9_preferredTo 21 = .ok (.istore 5, 2) := by decide +kernel
theorem dX9_preferredTo_23 : decode cX9_preferredTo 23 = .ok (.iconst (-1), 1) := by decide +kernel
theorem dX9_preferredTo_24 : decode cX9_preferredTo 24 = .ok (.istore 6, 2) := by decide +kernel
theorem dX9_preferredTo_26 : decode cX9_preferredTo 26 = .ok (.iload 5, 2) := by decide +kernel
theorem dX9_preferredTo_28 : decode cX9_preferredTo 28 = .ok (.invokestatic 177, 3) := by decide +kernel
theorem dX9_preferredTo_31 : decode cX9_preferredTo 31 = .ok (.iconst 1, 1) := by decide +kernel
theorem dX9_preferredTo_32 : decode cX9_preferredTo 32 = .ok (.isub, 1) := by decide +kernel
theorem dX9_preferredTo_33 : decode cX9_preferredTo 33 = .ok (.istore 7, 2) := by decide +kernel
theorem dX9_preferredTo_35 : decode cX9_preferredTo 35 = .ok (.iload 7, 2) := by decide +kernel
theorem dX9_preferredTo_37 : decode cX9_preferredTo 37 = .ok (.ifCond .lt 36, 3) := by decide +kernel
theorem dX9_preferredTo_40 : decode cX9_preferredTo 40 = .ok (.iload 5, 2) := by decide +kernel
theorem dX9_preferredTo_42 : decode cX9_preferredTo 42 = .ok (.iload 7, 2) := by decide +kernel
theorem dX9_preferredTo_44 : decode cX9_preferredTo 44 = .ok (.invokestatic 181, 3) := by decide +kernel
theorem dX9_preferredTo_47 : decode cX9_preferredTo 47 = .ok (.iconst 1, 1) := by decide +kernel
theorem dX9_preferredTo_48 : decode cX9_preferredTo 48 = .ok (.isub, 1) := by decide +kernel
theorem dX9_preferredTo_49 : decode cX9_preferredTo 49 = .ok (.istore 8, 2) := by decide +kernel
theorem dX9_preferredTo_51 : decode cX9_preferredTo 51 = .ok (.iload 8, 2) := by decide +kernel
theorem dX9_preferredTo_53 : decode cX9_preferredTo 53 = .ok (.iload_n 1, 1) := by decide +kernel
theorem dX9_preferredTo_54 : decode cX9_preferredTo 54 = .ok (.if_icmp .eq 9, 3) := by decide +kernel
theorem dX9_preferredTo_57 : decode cX9_preferredTo 57 = .ok (.iload 8, 2) := by decide +kernel
theorem dX9_preferredTo_59 : decode cX9_preferredTo 59 = .ok (.iload_n 2, 1) := by decide +kernel
theorem dX9_preferredTo_60 : decode cX9_preferredTo 60 = .ok (.if_icmp .ne 7, 3) := by decide +kernel
theorem dX9_preferredTo_63 : decode cX9_preferredTo 63 = .ok (.iload 8, 2) := by decide +kernel
theorem dX9_preferredTo_65 : decode cX9_preferredTo 65 = .ok (.istore 6, 2) := by decide +kernel
theorem dX9_preferredTo_67 : decode cX9_preferredTo 67 = .ok (.iinc 7 (-1), 3) := by decide +kernel
theorem dX9_preferredTo_70 : decode cX9_preferredTo 70 = .ok (.goto (-35), 3) := by decide +kernel
theorem dX9_preferredTo_73 : decode cX9_preferredTo 73 = .ok (.iload 6, 2) := by decide +kernel
theorem dX9_preferredTo_75 : decode cX9_preferredTo 75 = .ok (.iload_n 1, 1) := by decide +kernel
theorem dX9_preferredTo_76 : decode cX9_preferredTo 76 = .ok (.if_icmp .ne 13, 3) := by decide +kernel
theorem dX9_preferredTo_79 : decode cX9_preferredTo 79 = .ok (.iload_n 3, 1) := by decide +kernel
theorem dX9_preferredTo_80 : decode cX9_preferredTo 80 = .ok (.aload_n 0, 1) := by decide +kernel
theorem dX9_preferredTo_81 : decode cX9_preferredTo 81 = .ok (.getfield 22, 3) := by decide +kernel
theorem dX9_preferredTo_84 : decode cX9_preferredTo 84 = .ok (.iload 4, 2) := by decide +kernel
theorem dX9_preferredTo_86 : decode cX9_preferredTo 86 = .ok (.iaload, 1) := by decide +kernel
theorem dX9_preferredTo_87 : decode cX9_preferredTo 87 = .ok (.iadd, 1) := by decide +kernel
theorem dX9_preferredTo_88 : decode cX9_preferredTo 88 = .ok (.istore_n 3, 1) := by decide +kernel
theorem dX9_preferredTo_89 : decode cX9_preferredTo 89 = .ok (.iinc 4 1, 3) := by decide +kernel
theorem dX9_preferredTo_92 : decode cX9_preferredTo 92 = .ok (.goto (-87), 3) := by decide +kernel
theorem dX9_preferredTo_95 : decode cX9_preferredTo 95 = .ok (.iload_n 3, 1) := by decide +kernel
theorem dX9_preferredTo_96 : decode cX9_preferredTo 96 = .ok (.ireturn, 1) := by decide +kernel
theorem dX9_preferred_0 : decode cX9_preferred 0 = .ok (.aload_n 0, 1) := by decide +kernel
theorem dX9_preferred_1 : decode cX9_preferred 1 = .ok (.iload_n 1, 1) := by decide +kernel
theorem dX9_preferred_2 : decode cX9_preferred 2 = .ok (.iload_n 2, 1) := by decide +kernel
theorem dX9_preferred_3 : decode cX9_preferred 3 = .ok (.invokevirtual 345, 3) := by decide +kernel
theorem dX9_preferred_6 : decode cX9_preferred 6 = .ok (.ifCond .eq 12, 3) := by decide +kernel
theorem dX9_preferred_9 : decode cX9_preferred 9 = .ok (.aload_n 0, 1) := by decide +kernel
theorem dX9_preferred_10 : decode cX9_preferred 10 = .ok (.iload_n 1, 1) := by decide +kernel
theorem dX9_preferred_11 : decode cX9_preferred 11 = .ok (.iload_n 2, 1) := by decide +kernel
theorem dX9_preferred_12 : decode cX9_preferred 12 = .ok (.invokevirtual 348, 3) := by decide +kernel
theorem dX9_preferred_15 : decode cX9_preferred 15 = .ok (.goto 4, 3) := by decide +kernel
theorem dX9_preferred_18 : decode cX9_preferred 18 = .ok (.iconst (-1), 1) := by decide +kernel
theorem dX9_preferred_19 : decode cX9_preferred 19 = .ok (.ireturn, 1) := by decide +kernel
theorem dX9_isBest_0 : decode cX9_isBest 0 = .ok (.aload_n 0, 1) := by decide +kernel
theorem dX9_isBest_1 : decode cX9_isBest 1 = .ok (.getfield 11, 3) := by decide +kernel
theorem dX9_isBest_4 : decode cX9_isBest 4 = .ok (.iload_n 1, 1) := by decide +kernel
theorem dX9_isBest_5 : decode cX9_isBest 5 = .ok (.baload, 1) := by decide +kernel
theorem dX9_isBest_6 : decode cX9_isBest 6 = .ok (.ifCond .ne 7, 3) := by decide +kernel
theorem dX9_isBest_9 : decode cX9_isBest 9 = .ok (.iconst 1, 1) := by decide +kernel
theorem dX9_isBest_10 : decode cX9_isBest 10 = .ok (.goto 4, 3) := by decide +kernel
theorem dX9_isBest_13 : decode cX9_isBest 13 = .ok (.iconst 0, 1) := by decide +kernel
theorem dX9_isBest_14 : decode cX9_isBest 14 = .ok (.istore_n 2, 1) := by decide +kernel
theorem dX9_isBest_15 : decode cX9_isBest 15 = .ok (.iconst 0, 1) := by decide +kernel
theorem dX9_isBest_16 : decode cX9_isBest 16 = .ok (.istore_n 3, 1) := by decide +kernel
theorem dX9_isBest_17 : decode cX9_isBest 17 = .ok (.iload_n 3, 1) := by decide +kernel
theorem dX9_isBest_18 : decode cX9_isBest 18 = .ok (.aload_n 0, 1) := by decide +kernel
theorem dX9_isBest_19 : decode cX9_isBest 19 = .ok (.getfield 167, 3) := by decide +kernel
theorem dX9_isBest_22 : decode cX9_isBest 22 = .ok (.if_icmp .ge 48, 3) := by decide +kernel
theorem dX9_isBest_25 : decode cX9_isBest 25 = .ok (.iload_n 3, 1) := by decide +kernel
theorem dX9_isBest_26 : decode cX9_isBest 26 = .ok (.iload_n 1, 1) := by decide +kernel
theorem dX9_isBest_27 : decode cX9_isBest 27 = .ok (.if_icmp .eq 37, 3) := by decide +kernel
theorem dX9_isBest_30 : decode cX9_isBest 30 = .ok (.aload_n 0, 1) := by decide +kernel
theorem dX9_isBest_31 : decode cX9_isBest 31 = .ok (.getfield 11, 3) := by decide +kernel
theorem dX9_isBest_34 : decode cX9_isBest 34 = .ok (.iload_n 3, 1) := by decide +kernel
theorem dX9_isBest_35 : decode cX9_isBest 35 = .ok (.baload, 1) := by decide +kernel
theorem dX9_isBest_36 : decode cX9_isBest 36 = .ok (.ifCond .ne 28, 3) := by decide +kernel
theorem dX9_isBest_39 : decode cX9_isBest 39 = .ok (.iload_n 2, 1) := by decide +kernel
theorem dX9_isBest_40 : decode cX9_isBest 40 = .ok (.ifCond .eq 22, 3) := by decide +kernel
theorem dX9_isBest_43 : decode cX9_isBest 43 = .ok (.aload_n 0, 1) := by decide +kernel
theorem dX9_isBest_44 : decode cX9_isBest 44 = .ok (.iload_n 1, 1) := by decide +kernel
theorem dX9_isBest_45 : decode cX9_isBest 45 = .ok (.iload_n 3, 1) := by decide +kernel
theorem dX9_isBest_46 : decode cX9_isBest 46 = .ok (.invokevirtual 348, 3) := by decide +kernel
theorem dX9_isBest_49 : decode cX9_isBest 49 = .ok (.aload_n 0, 1) := by decide +kernel
theorem dX9_isBest_50 : decode cX9_isBest 50 = .ok (.iload_n 3, 1) := by decide +kernel
theorem dX9_isBest_51 : decode cX9_isBest 51 = .ok (.iload_n 1, 1) := by decide +kernel
theorem dX9_isBest_52 : decode cX9_isBest 52 = .ok (.invokevirtual 348, 3) := by decide +kernel
theorem dX9_isBest_55 : decode cX9_isBest 55 = .ok (.if_icmp .le 7, 3) := by decide +kernel
theorem dX9_isBest_58 : decode cX9_isBest 58 = .ok (.iconst 1, 1) := by decide +kernel
theorem dX9_isBest_59 : decode cX9_isBest 59 = .ok (.goto 4, 3) := by decide +kernel
theorem dX9_isBest_62 : decode cX9_isBest 62 = .ok (.iconst 0, 1) := by decide +kernel
theorem dX9_isBest_63 : decode cX9_isBest 63 = .ok (.istore_n 2, 1) := by decide +kernel
theorem dX9_isBest_64 : decode cX9_isBest 64 = .ok (.iinc 3 1, 3) := by decide +kernel
theorem dX9_isBest_67 : decode cX9_isBest 67 = .ok (.goto (-50), 3) := by decide +kernel
theorem dX9_isBest_70 : decode cX9_isBest 70 = .ok (.iload_n 2, 1) := by decide +kernel
theorem dX9_isBest_71 : decode cX9_isBest 71 = .ok (.ireturn, 1) := by decide +kernel
theorem dX9_best_0 : decode cX9_best 0 = .ok (.iconst 0, 1) := by decide +kernel
theorem dX9_best_1 : decode cX9_best 1 = .ok (.istore_n 1, 1) := by decide +kernel
theorem dX9_best_2 : decode cX9_best 2 = .ok (.iload_n 1, 1) := by decide +kernel
theorem dX9_best_3 : decode cX9_best 3 = .ok (.aload_n 0, 1) := by decide +kernel
theorem dX9_best_4 : decode cX9_best 4 = .ok (.getfield 167, 3) := by decide +kernel
theorem dX9_best_7 : decode cX9_best 7 = .ok (.if_icmp .ge 19, 3) := by decide +kernel
theorem dX9_best_10 : decode cX9_best 10 = .ok (.aload_n 0, 1) := by decide +kernel
theorem dX9_best_11 : decode cX9_best 11 = .ok (.iload_n 1, 1) := by decide +kernel
theorem dX9_best_12 : decode cX9_best 12 = .ok (.invokevirtual 351, 3) := by decide +kernel
theorem dX9_best_15 : decode cX9_best 15 = .ok (.ifCond .eq 5, 3) := by decide +kernel
theorem dX9_best_18 : decode cX9_best 18 = .ok (.iload_n 1, 1) := by decide +kernel
theorem dX9_best_19 : decode cX9_best 19 = .ok (.ireturn, 1) := by decide +kernel
theorem dX9_best_20 : decode cX9_best 20 = .ok (.iinc 1 1, 3) := by decide +kernel
theorem dX9_best_23 : decode cX9_best 23 = .ok (.goto (-21), 3) := by decide +kernel
theorem dX9_best_26 : decode cX9_best 26 = .ok (.bipush (-5), 2) := by decide +kernel
theorem dX9_best_28 : decode cX9_best 28 = .ok (.ireturn, 1) := by decide +kernel
theorem dX9_lowest_0 : decode cX9_lowest 0 = .ok (.lload_n 0, 1) := by decide +kernel
theorem dX9_lowest_1 : decode cX9_lowest 1 = .ok (.lstore 5, 2) := by decide +kernel
theorem dX9_lowest_3 : decode cX9_lowest 3 = .ok (.lload_n 2, 1) := by decide +kernel
theorem dX9_lowest_4 : decode cX9_lowest 4 = .ok (.lstore 7, 2) := by decide +kernel
theorem dX9_lowest_6 : decode cX9_lowest 6 = .ok (.lload 7, 2) := by decide +kernel
theorem dX9_lowest_8 : decode cX9_lowest 8 = .ok (.lconst 0, 1) := by decide +kernel
theorem dX9_lowest_9 : decode cX9_lowest 9 = .ok (.lcmp, 1) := by decide +kernel
theorem dX9_lowest_10 : decode cX9_lowest 10 = .ok (.ifCond .eq 21, 3) := by decide +kernel
theorem dX9_lowest_13 : decode cX9_lowest 13 = .ok (.lload 5, 2) := by decide +kernel
theorem dX9_lowest_15 : decode cX9_lowest 15 = .ok (.lload 7, 2) := by decide +kernel
theorem dX9_lowest_17 : decode cX9_lowest 17 = .ok (.lrem, 1) := by decide +kernel
theorem dX9_lowest_18 : decode cX9_lowest 18 = .ok (.lstore 9, 2) := by decide +kernel
theorem dX9_lowest_20 : decode cX9_lowest 20 = .ok (.lload 7, 2) := by decide +kernel
theorem dX9_lowest_22 : decode cX9_lowest 22 = .ok (.lstore 5, 2) := by decide +kernel
theorem dX9_lowest_24 : decode cX9_lowest 24 = .ok (.lload 9, 2) := by decide +kernel
theorem dX9_lowest_26 : decode cX9_lowest 26 = .ok (.lstore 7, 2) := by decide +kernel
theorem dX9_lowest_28 : decode cX9_lowest 28 = .ok (.goto (-22), 3) := by decide +kernel
theorem dX9_lowest_31 : decode cX9_lowest 31 = .ok (.iload 4, 2) := by decide +kernel
theorem dX9_lowest_33 : decode cX9_lowest 33 = .ok (.ifCond .ne 7, 3) := by decide +kernel
theorem dX9_lowest_36 : decode cX9_lowest 36 = .ok (.lload_n 0, 1) := by decide +kernel
theorem dX9_lowest_37 : decode cX9_lowest 37 = .ok (.goto 4, 3) := by decide +kernel
theorem dX9_lowest_40 : decode cX9_lowest 40 = .ok (.lload_n 2, 1) := by decide +kernel
theorem dX9_lowest_41 : decode cX9_lowest 41 = .ok (.lload 5, 2) := by decide +kernel
theorem dX9_lowest_43 : decode cX9_lowest 43 = .ok (.ldiv, 1) := by decide +kernel
theorem dX9_lowest_44 : decode cX9_lowest 44 = .ok (.lreturn, 1) := by decide +kernel
theorem dX9_share_0 : decode cX9_share 0 = .ok (.aload_n 0, 1) := by decide +kernel
theorem dX9_share_1 : decode cX9_share 1 = .ok (.iload_n 1, 1) := by decide +kernel
theorem dX9_share_2 : decode cX9_share 2 = .ok (.invokevirtual 323, 3) := by decide +kernel
theorem dX9_share_5 : decode cX9_share 5 = .ok (.ifCond .eq 21, 3) := by decide +kernel
theorem dX9_share_8 : decode cX9_share 8 = .ok (.aload_n 0, 1) := by decide +kernel
theorem dX9_share_9 : decode cX9_share 9 = .ok (.iload_n 2, 1) := by decide +kernel
theorem dX9_share_10 : decode cX9_share 10 = .ok (.invokevirtual 211, 3) := by decide +kernel
theorem dX9_share_13 : decode cX9_share 13 = .ok (.ifCond .eq 13, 3) := by decide +kernel
theorem dX9_share_16 : decode cX9_share 16 = .ok (.iload_n 3, 1) := by decide +kernel
theorem dX9_share_17 : decode cX9_share 17 = .ok (.i2l, 1) := by decide +kernel
theorem dX9_share_18 : decode cX9_share 18 = .ok (.lconst 0, 1) := by decide +kernel
theorem dX9_share_19 : decode cX9_share 19 = .ok (.lconst 1, 1) := by decide +kernel
theorem dX9_share_20 : decode cX9_share 20 = .ok (.invokestatic 170, 3) := by decide +kernel
theorem dX9_share_23 : decode cX9_share 23 = .ok (.ifCond .ne 7, 3) := by decide +kernel
theorem dX9_share_26 : decode cX9_share 26 = .ok (.ldc2_w 326, 3) := by decide +kernel
theorem dX9_share_29 : decode cX9_share 29 = .ok (.lreturn, 1) := by decide +kernel
theorem dX9_share_30 : decode cX9_share 30 = .ok (.aload_n 0, 1) := by decide +kernel
theorem dX9_share_31 : decode cX9_share 31 = .ok (.getfield 90, 3) := by decide +kernel
theorem dX9_share_34 : decode cX9_share 34 = .ok (.iload_n 1, 1) := by decide +kernel
theorem dX9_share_35 : decode cX9_share 35 = .ok (.laload, 1) := by decide +kernel
theorem dX9_share_36 : decode cX9_share 36 = .ok (.lconst 0, 1) := by decide +kernel
theorem dX9_share_37 : decode cX9_share 37 = .ok (.lcmp, 1) := by decide +kernel
theorem dX9_share_38 : decode cX9_share 38 = .ok (.ifCond .ne 6, 3) := by decide +kernel
theorem dX9_share_41 : decode cX9_share 41 = .ok (.iload_n 3, 1) := by decide +kernel
theorem dX9_share_42 : decode cX9_share 42 = .ok (.i2l, 1) := by decide +kernel
theorem dX9_share_43 : decode cX9_share 43 = .ok (.lreturn, 1) := by decide +kernel
theorem dX9_share_44 : decode cX9_share 44 = .ok (.aload_n 0, 1) := by decide +kernel
theorem dX9_share_45 : decode cX9_share 45 = .ok (.getfield 78, 3) := by decide +kernel
theorem dX9_share_48 : decode cX9_share 48 = .ok (.bipush 8, 2) := by decide +kernel
theorem dX9_share_50 : decode cX9_share 50 = .ok (.iload_n 1, 1) := by decide +kernel
theorem dX9_share_51 : decode cX9_share 51 = .ok (.imul, 1) := by decide +kernel
theorem dX9_share_52 : decode cX9_share 52 = .ok (.iload_n 2, 1) := by decide +kernel
theorem dX9_share_53 : decode cX9_share 53 = .ok (.iadd, 1) := by decide +kernel
theorem dX9_share_54 : decode cX9_share 54 = .ok (.laload, 1) := by decide +kernel
theorem dX9_share_55 : decode cX9_share 55 = .ok (.aload_n 0, 1) := by decide +kernel
theorem dX9_share_56 : decode cX9_share 56 = .ok (.getfield 90, 3) := by decide +kernel
theorem dX9_share_59 : decode cX9_share 59 = .ok (.iload_n 1, 1) := by decide +kernel
theorem dX9_share_60 : decode cX9_share 60 = .ok (.laload, 1) := by decide +kernel
theorem dX9_share_61 : decode cX9_share 61 = .ok (.iload_n 3, 1) := by decide +kernel
theorem dX9_share_62 : decode cX9_share 62 = .ok (.invokestatic 354, 3) := by decide +kernel
theorem dX9_share_65 : decode cX9_share 65 = .ok (.lreturn, 1) := by decide +kernel
theorem dX9_without_0 : decode cX9_without 0 = .ok (.aload_n 0, 1) := by decide +kernel
theorem dX9_without_1 : decode cX9_without 1 = .ok (.iload_n 1, 1) := by decide +kernel
theorem dX9_without_2 : decode cX9_without 2 = .ok (.invokevirtual 211, 3) := by decide +kernel
theorem dX9_without_5 : decode cX9_without 5 = .ok (.ifCond .ne 5, 3) := by decide +kernel
theorem dX9_without_8 : decode cX9_without 8 = .ok (.iconst (-1), 1) := by decide +kernel
theorem dX9_without_9 : decode cX9_without 9 = .ok (.ireturn, 1) := by decide +kernel
theorem dX9_without_10 : decode cX9_without 10 = .ok (.aload_n 0, 1) := by decide +kernel
theorem dX9_without_11 : decode cX9_without 11 = .ok (.getfield 11, 3) := by decide +kernel
theorem dX9_without_14 : decode cX9_without 14 = .ok (.iload_n 1, 1) := by decide +kernel
theorem dX9_without_15 : decode cX9_without 15 = .ok (.baload, 1) := by decide +kernel
theorem dX9_without_16 : decode cX9_without 16 = .ok (.istore_n 2, 1) := by decide +kernel
theorem dX9_without_17 : decode cX9_without 17 = .ok (.aload_n 0, 1) := by decide +kernel
theorem dX9_without_18 : decode cX9_without 18 = .ok (.getfield 11, 3) := by decide +kernel
theorem dX9_without_21 : decode cX9_without 21 = .ok (.iload_n 1, 1) := by decide +kernel
theorem dX9_without_22 : decode cX9_without 22 = .ok (.iconst 1, 1) := by decide +kernel
theorem dX9_without_23 : decode cX9_without 23 = .ok (.bastore, 1) := by decide +kernel
theorem dX9_without_24 : decode cX9_without 24 = .ok (.aload_n 0, 1) := by decide +kernel
theorem dX9_without_25 : decode cX9_without 25 = .ok (.invokevirtual 320, 3) := by decide +kernel
theorem dX9_without_28 : decode cX9_without 28 = .ok (.istore_n 3, 1) := by decide +kernel
theorem dX9_without_29 : decode cX9_without 29 = .ok (.aload_n 0, 1) := by decide +kernel
theorem dX9_without_30 : decode cX9_without 30 = .ok (.getfield 11, 3) := by decide +kernel
theorem dX9_without_33 : decode cX9_without 33 = .ok (.iload_n 1, 1) := by decide +kernel
theorem dX9_without_34 : decode cX9_without 34 = .ok (.iload_n 2, 1) := by decide +kernel
theorem dX9_without_35 : decode cX9_without 35 = .ok (.bastore, 1) := by decide +kernel
theorem dX9_without_36 : decode cX9_without 36 = .ok (.iload_n 3, 1) := by decide +kernel
theorem dX9_without_37 : decode cX9_without 37 = .ok (.ireturn, 1) := by decide +kernel
theorem dX9_raised_0 : decode cX9_raised 0 = .ok (.aload_n 0, 1) := by decide +kernel
theorem dX9_raised_1 : decode cX9_raised 1 = .ok (.iload_n 1, 1) := by decide +kernel
theorem dX9_raised_2 : decode cX9_raised 2 = .ok (.invokevirtual 208, 3) := by decide +kernel
theorem dX9_raised_5 : decode cX9_raised 5 = .ok (.ifCond .eq 11, 3) := by decide +kernel
theorem dX9_raised_8 : decode cX9_raised 8 = .ok (.aload_n 0, 1) := by decide +kernel
theorem dX9_raised_9 : decode cX9_raised 9 = .ok (.iload_n 2, 1) := by decide +kernel
theorem dX9_raised_10 : decode cX9_raised 10 = .ok (.invokevirtual 211, 3) := by decide +kernel
theorem dX9_raised_13 : decode cX9_raised 13 = .ok (.ifCond .ne 5, 3) := by decide +kernel
theorem dX9_raised_16 : decode cX9_raised 16 = .ok (.iconst (-1), 1) := by decide +kernel
theorem dX9_raised_17 : decode cX9_raised 17 = .ok (.ireturn, 1) := by decide +kernel
theorem dX9_raised_18 : decode cX9_raised 18 = .ok (.aload_n 0, 1) := by decide +kernel
theorem dX9_raised_19 : decode cX9_raised 19 = .ok (.getfield 19, 3) := by decide +kernel
theorem dX9_raised_22 : decode cX9_raised 22 = .ok (.iload_n 1, 1) := by decide +kernel
theorem dX9_raised_23 : decode cX9_raised 23 = .ok (.iaload, 1) := by decide +kernel
theorem dX9_raised_24 : decode cX9_raised 24 = .ok (.istore_n 3, 1) := by decide +kernel
theorem dX9_raised_25 : decode cX9_raised 25 = .ok (.iload_n 2, 1) := by decide +kernel
theorem dX9_raised_26 : decode cX9_raised 26 = .ok (.iconst 1, 1) := by decide +kernel
theorem dX9_raised_27 : decode cX9_raised 27 = .ok (.iadd, 1) := by decide +kernel
theorem dX9_raised_28 : decode cX9_raised 28 = .ok (.istore 4, 2) := by decide +kernel
theorem dX9_raised_30 : decode cX9_raised 30 = .ok (.iconst 0, 1) := by decide +kernel
theorem dX9_raised_31 : decode cX9_raised 31 = .ok (.istore 5, 2) := by decide +kernel
theorem dX9_raised_33 : decode cX9_raised 33 = .ok (.iload 5, 2) := by decide +kernel
theorem dX9_raised_35 : decode cX9_raised 35 = .ok (.iload_n 3, 1) := by decide +kernel
theorem dX9_raised_36 : decode cX9_raised 36 = .ok (.invokestatic 177, 3) := by decide +kernel
theorem dX9_raised_39 : decode cX9_raised 39 = .ok (.if_icmp .ge 35, 3) := by decide +kernel
theorem dX9_raised_42 : decode cX9_raised 42 = .ok (.iload_n 3, 1) := by decide +kernel
theorem dX9_raised_43 : decode cX9_raised 43 = .ok (.iload 5, 2) := by decide +kernel
theorem dX9_raised_45 : decode cX9_raised 45 = .ok (.invokestatic 181, 3) := by decide +kernel
theorem dX9_raised_48 : decode cX9_raised 48 = .ok (.iload_n 2, 1) := by decide +kernel
theorem dX9_raised_49 : decode cX9_raised 49 = .ok (.iconst 1, 1) := by decide +kernel
theorem dX9_raised_50 : decode cX9_raised 50 = .ok (.iadd, 1) := by decide +kernel
theorem dX9_raised_51 : decode cX9_raised 51 = .ok (.if_icmp .eq 17, 3) := by decide +kernel
theorem dX9_raised_54 : decode cX9_raised 54 = .ok (.bipush 10, 2) := by decide +kernel
theorem dX9_raised_56 : decode cX9_raised 56 = .ok (.iload 4, 2) := by decide +kernel
theorem dX9_raised_58 : decode cX9_raised 58 = .ok (.imul, 1) := by decide +kernel
theorem dX9_raised_59 : decode cX9_raised 59 = .ok (.iload_n 3, 1) := by decide +kernel
theorem dX9_raised_60 : decode cX9_raised 60 = .ok (.iload 5, 2) := by decide +kernel
theorem dX9_raised_62 : decode cX9_raised 62 = .ok (.invokestatic 181, 3) := by decide +kernel
theorem dX9_raised_65 : decode cX9_raised 65 = .ok (.iadd, 1) := by decide +kernel
theorem dX9_raised_66 : decode cX9_raised 66 = .ok (.istore 4, 2) := by decide +kernel
theorem dX9_raised_68 : decode cX9_raised 68 = .ok (.iinc 5 1, 3) := by decide +kernel
theorem dX9_raised_71 : decode cX9_raised 71 = .ok (.goto (-38), 3) := by decide +kernel
theorem dX9_raised_74 : decode cX9_raised 74 = .ok (.aload_n 0, 1) := by decide +kernel
theorem dX9_raised_75 : decode cX9_raised 75 = .ok (.getfield 19, 3) := by decide +kernel
theorem dX9_raised_78 : decode cX9_raised 78 = .ok (.iload_n 1, 1) := by decide +kernel
theorem dX9_raised_79 : decode cX9_raised 79 = .ok (.iload 4, 2) := by decide +kernel
theorem dX9_raised_81 : decode cX9_raised 81 = .ok (.iastore, 1) := by decide +kernel
theorem dX9_raised_82 : decode cX9_raised 82 = .ok (.aload_n 0, 1) := by decide +kernel
theorem dX9_raised_83 : decode cX9_raised 83 = .ok (.invokevirtual 320, 3) := by decide +kernel
theorem dX9_raised_86 : decode cX9_raised 86 = .ok (.istore 5, 2) := by decide +kernel
theorem dX9_raised_88 : decode cX9_raised 88 = .ok (.aload_n 0, 1) := by decide +kernel
theorem dX9_raised_89 : decode cX9_raised 89 = .ok (.getfield 19, 3) := by decide +kernel
theorem dX9_raised_92 : decode cX9_raised 92 = .ok (.iload_n 1, 1) := by decide +kernel
theorem dX9_raised_93 : decode cX9_raised 93 = .ok (.iload_n 3, 1) := by decide +kernel
theorem dX9_raised_94 : decode cX9_raised 94 = .ok (.iastore, 1) := by decide +kernel
theorem dX9_raised_95 : decode cX9_raised 95 = .ok (.iload 5, 2) := by decide +kernel
theorem dX9_raised_97 : decode cX9_raised 97 = .ok (.ireturn, 1) := by decide +kernel
theorem dX9_needs_0 : decode cX9_needs 0 = .ok (.aload_n 0, 1) := by decide +kernel
theorem dX9_needs_1 : decode cX9_needs 1 = .ok (.iload_n 1, 1) := by decide +kernel
theorem dX9_needs_2 : decode cX9_needs 2 = .ok (.invokevirtual 211, 3) := by decide +kernel
theorem dX9_needs_5 : decode cX9_needs 5 = .ok (.ifCond .ne 5, 3) := by decide +kernel
theorem dX9_needs_8 : decode cX9_needs 8 = .ok (.iconst (-1), 1) := by decide +kernel
theorem dX9_needs_9 : decode cX9_needs 9 = .ok (.ireturn, 1) := by decide +kernel
theorem dX9_needs_10 : decode cX9_needs 10 = .ok (.iload_n 2, 1) := by decide +kernel
theorem dX9_needs_11 : decode cX9_needs 11 = .ok (.i2l, 1) := by decide +kernel
theorem dX9_needs_12 : decode cX9_needs 12 = .ok (.lconst 1, 1) := by decide +kernel
theorem dX9_needs_13 : decode cX9_needs 13 = .ok (.ldc2_w 358, 3) := by decide +kernel
theorem dX9_needs_16 : decode cX9_needs 16 = .ok (.invokestatic 170, 3) := by decide +kernel
theorem dX9_needs_19 : decode cX9_needs 19 = .ok (.ifCond .ne 6, 3) := by decide +kernel
theorem dX9_needs_22 : decode cX9_needs 22 = .ok (.bipush (-2), 2) := by decide +kernel
theorem dX9_needs_24 : decode cX9_needs 24 = .ok (.ireturn, 1) := by decide +kernel
theorem dX9_needs_25 : decode cX9_needs 25 = .ok (.aload_n 0, 1) := by decide +kernel
theorem dX9_needs_26 : decode cX9_needs 26 = .ok (.getfield 11, 3) := by decide +kernel
theorem dX9_needs_29 : decode cX9_needs 29 = .ok (.iload_n 1, 1) := by decide +kernel
theorem dX9_needs_30 : decode cX9_needs 30 = .ok (.baload, 1) := by decide +kernel
theorem dX9_needs_31 : decode cX9_needs 31 = .ok (.ifCond .eq 6, 3) := by decide +kernel
theorem dX9_needs_34 : decode cX9_needs 34 = .ok (.bipush (-5), 2) := by decide +kernel
theorem dX9_needs_36 : decode cX9_needs 36 = .ok (.ireturn, 1) := by decide +kernel
theorem dX9_needs_37 : decode cX9_needs 37 = .ok (.aload_n 0, 1) := by decide +kernel
theorem dX9_needs_38 : decode cX9_needs 38 = .ok (.getfield 19, 3) := by decide +kernel
theorem dX9_needs_41 : decode cX9_needs 41 = .ok (.aload_n 0, 1) := by decide +kernel
theorem dX9_needs_42 : decode cX9_needs 42 = .ok (.getfield 174, 3) := by decide +kernel
theorem dX9_needs_45 : decode cX9_needs 45 = .ok (.iload_n 1, 1) := by decide +kernel
theorem dX9_needs_46 : decode cX9_needs 46 = .ok (.iconst 1, 1) := by decide +kernel
theorem dX9_needs_47 : decode cX9_needs 47 = .ok (.iadd, 1) := by decide +kernel
theorem dX9_needs_48 : decode cX9_needs 48 = .ok (.iastore, 1) := by decide +kernel
theorem dX9_needs_49 : decode cX9_needs 49 = .ok (.bipush (-5), 2) := by decide +kernel
theorem dX9_needs_51 : decode cX9_needs 51 = .ok (.istore_n 3, 1) := by decide +kernel
theorem dX9_needs_52 : decode cX9_needs 52 = .ok (.iconst 0, 1) := by decide +kernel
theorem dX9_needs_53 : decode cX9_needs 53 = .ok (.istore 4, 2) := by decide +kernel
theorem dX9_needs_55 : decode cX9_needs 55 = .ok (.iload 4, 2) := by decide +kernel
theorem dX9_needs_57 : decode cX9_needs 57 = .ok (.bipush 30, 2) := by decide +kernel
theorem dX9_needs_59 : decode cX9_needs 59 = .ok (.if_icmp .gt 79, 3) := by decide +kernel
theorem dX9_needs_62 : decode cX9_needs 62 = .ok (.iload_n 3, 1) := by decide +kernel
theorem dX9_needs_63 : decode cX9_needs 63 = .ok (.bipush (-5), 2) := by decide +kernel
theorem dX9_needs_65 : decode cX9_needs 65 = .ok (.if_icmp .ne 73, 3) := by decide +kernel
theorem dX9_needs_68 : decode cX9_needs 68 = .ok (.aload_n 0, 1) := by decide +kernel
theorem dX9_needs_69 : decode cX9_needs 69 = .ok (.getfield 22, 3) := by decide +kernel
theorem dX9_needs_72 : decode cX9_needs 72 = .ok (.aload_n 0, 1) := by decide +kernel
theorem dX9_needs_73 : decode cX9_needs 73 = .ok (.getfield 174, 3) := by decide +kernel
theorem dX9_needs_76 : decode cX9_needs 76 = .ok (.iload 4, 2) := by decide +kernel
theorem dX9_needs_78 : decode cX9_needs 78 = .ok (.iload_n 2, 1) := by decide +kernel
theorem dX9_needs_79 : decode cX9_needs 79 = .ok (.imul, 1) := by decide +kernel
theorem dX9_needs_80 : decode cX9_needs 80 = .ok (.iastore, 1) := by decide +kernel
theorem dX9_needs_81 : decode cX9_needs 81 = .ok (.aload_n 0, 1) := by decide +kernel
theorem dX9_needs_82 : decode cX9_needs 82 = .ok (.aload_n 0, 1) := by decide +kernel
theorem dX9_needs_83 : decode cX9_needs 83 = .ok (.getfield 174, 3) := by decide +kernel
theorem dX9_needs_86 : decode cX9_needs 86 = .ok (.iconst 1, 1) := by decide +kernel
theorem dX9_needs_87 : decode cX9_needs 87 = .ok (.iadd, 1) := by decide +kernel
theorem dX9_needs_88 : decode cX9_needs 88 = .ok (.invokevirtual 202, 3) := by decide +kernel
theorem dX9_needs_91 : decode cX9_needs 91 = .ok (.iconst (-1), 1) := by decide +kernel
theorem dX9_needs_92 : decode cX9_needs 92 = .ok (.if_icmp .eq 6, 3) := by decide +kernel
theorem dX9_needs_95 : decode cX9_needs 95 = .ok (.bipush (-5), 2) := by decide +kernel
theorem dX9_needs_97 : decode cX9_needs 97 = .ok (.ireturn, 1) := by decide +kernel
theorem dX9_needs_98 : decode cX9_needs 98 = .ok (.aload_n 0, 1) := by decide +kernel
theorem dX9_needs_99 : decode cX9_needs 99 = .ok (.dup, 1) := by decide +kernel
theorem dX9_needs_100 : decode cX9_needs 100 = .ok (.getfield 174, 3) := by decide +kernel
theorem dX9_needs_103 : decode cX9_needs 103 = .ok (.iconst 1, 1) := by decide +kernel
theorem dX9_needs_104 : decode cX9_needs 104 = .ok (.iadd, 1) := by decide +kernel
theorem dX9_needs_105 : decode cX9_needs 105 = .ok (.putfield 174, 3) := by decide +kernel
theorem dX9_needs_108 : decode cX9_needs 108 = .ok (.aload_n 0, 1) := by decide +kernel
theorem dX9_needs_109 : decode cX9_needs 109 = .ok (.invokevirtual 320, 3) := by decide +kernel
theorem dX9_needs_112 : decode cX9_needs 112 = .ok (.iload_n 1, 1) := by decide +kernel
theorem dX9_needs_113 : decode cX9_needs 113 = .ok (.invokestatic 192, 3) := by decide +kernel
theorem dX9_needs_116 : decode cX9_needs 116 = .ok (.ifCond .eq 6, 3) := by decide +kernel
theorem dX9_needs_119 : decode cX9_needs 119 = .ok (.iload 4, 2) := by decide +kernel
theorem dX9_needs_121 : decode cX9_needs 121 = .ok (.istore_n 3, 1) := by decide +kernel
theorem dX9_needs_122 : decode cX9_needs 122 = .ok (.aload_n 0, 1) := by decide +kernel
theorem dX9_needs_123 : decode cX9_needs 123 = .ok (.dup, 1) := by decide +kernel
theorem dX9_needs_124 : decode cX9_needs 124 = .ok (.getfield 174, 3) := by decide +kernel
theorem dX9_needs_127 : decode cX9_needs 127 = .ok (.iconst 1, 1) := by decide +kernel
theorem dX9_needs_128 : decode cX9_needs 128 = .ok (.isub, 1) := by decide +kernel
theorem dX9_needs_129 : decode cX9_needs 129 = .ok (.putfield 174, 3) := by decide +kernel
theorem dX9_needs_132 : decode cX9_needs 132 = .ok (.iinc 4 1, 3) := by decide +kernel
theorem dX9_needs_135 : decode cX9_needs 135 = .ok (.goto (-80), 3) := by decide +kernel
theorem dX9_needs_138 : decode cX9_needs 138 = .ok (.iload_n 3, 1) := by decide +kernel
theorem dX9_needs_139 : decode cX9_needs 139 = .ok (.ireturn, 1) := by decide +kernel
theorem dX9_see_0 : decode cX9_see 0 = .ok (.iload_n 1, 1) := by decide +kernel
theorem dX9_see_1 : decode cX9_see 1 = .ok (.iconst (-1), 1) := by decide +kernel
theorem dX9_see_2 : decode cX9_see 2 = .ok (.if_icmp .ne 10, 3) := by decide +kernel
theorem dX9_see_5 : decode cX9_see 5 = .ok (.aload_n 0, 1) := by decide +kernel
theorem dX9_see_6 : decode cX9_see 6 = .ok (.iconst 0, 1) := by decide +kernel
theorem dX9_see_7 : decode cX9_see 7 = .ok (.putfield 360, 3) := by decide +kernel
theorem dX9_see_10 : decode cX9_see 10 = .ok (.iconst 0, 1) := by decide +kernel
theorem dX9_see_11 : decode cX9_see 11 = .ok (.ireturn, 1) := by decide +kernel
theorem dX9_see_12 : decode cX9_see 12 = .ok (.aload_n 0, 1) := by decide +kernel
theorem dX9_see_13 : decode cX9_see 13 = .ok (.iload_n 1, 1) := by decide +kernel
theorem dX9_see_14 : decode cX9_see 14 = .ok (.invokevirtual 211, 3) := by decide +kernel
theorem dX9_see_17 : decode cX9_see 17 = .ok (.ifCond .ne 5, 3) := by decide +kernel
theorem dX9_see_20 : decode cX9_see 20 = .ok (.iconst (-1), 1) := by decide +kernel
theorem dX9_see_21 : decode cX9_see 21 = .ok (.ireturn, 1) := by decide +kernel
theorem dX9_see_22 : decode cX9_see 22 = .ok (.aload_n 0, 1) := by decide +kernel
theorem dX9_see_23 : decode cX9_see 23 = .ok (.getfield 360, 3) := by decide +kernel
theorem dX9_see_26 : decode cX9_see 26 = .ok (.iconst 5, 1) := by decide +kernel
theorem dX9_see_27 : decode cX9_see 27 = .ok (.if_icmp .ne 6, 3) := by decide +kernel
theorem dX9_see_30 : decode cX9_see 30 = .ok (.bipush (-4), 2) := by decide +kernel
theorem dX9_see_32 : decode cX9_see 32 = .ok (.ireturn, 1) := by decide +kernel
theorem dX9_see_33 : decode cX9_see 33 = .ok (.aload_n 0, 1) := by decide +kernel
theorem dX9_see_34 : decode cX9_see 34 = .ok (.getfield 35, 3) := by decide +kernel
theorem dX9_see_37 : decode cX9_see 37 = .ok (.aload_n 0, 1) := by decide +kernel
theorem dX9_see_38 : decode cX9_see 38 = .ok (.getfield 360, 3) := by decide +kernel
theorem dX9_see_41 : decode cX9_see 41 = .ok (.iload_n 1, 1) := by decide +kernel
theorem dX9_see_42 : decode cX9_see 42 = .ok (.iastore, 1) := by decide +kernel
theorem dX9_see_43 : decode cX9_see 43 = .ok (.aload_n 0, 1) := by decide +kernel
theorem dX9_see_44 : decode cX9_see 44 = .ok (.getfield 44, 3) := by decide +kernel
theorem dX9_see_47 : decode cX9_see 47 = .ok (.aload_n 0, 1) := by decide +kernel
theorem dX9_see_48 : decode cX9_see 48 = .ok (.getfield 360, 3) := by decide +kernel
theorem dX9_see_51 : decode cX9_see 51 = .ok (.iload_n 2, 1) := by decide +kernel
theorem dX9_see_52 : decode cX9_see 52 = .ok (.bastore, 1) := by decide +kernel
theorem dX9_see_53 : decode cX9_see 53 = .ok (.aload_n 0, 1) := by decide +kernel
theorem dX9_see_54 : decode cX9_see 54 = .ok (.dup, 1) := by decide +kernel
theorem dX9_see_55 : decode cX9_see 55 = .ok (.getfield 360, 3) := by decide +kernel
theorem dX9_see_58 : decode cX9_see 58 = .ok (.iconst 1, 1) := by decide +kernel
theorem dX9_see_59 : decode cX9_see 59 = .ok (.iadd, 1) := by decide +kernel
theorem dX9_see_60 : decode cX9_see 60 = .ok (.putfield 360, 3) := by decide +kernel
theorem dX9_see_63 : decode cX9_see 63 = .ok (.aload_n 0, 1) := by decide +kernel
theorem dX9_see_64 : decode cX9_see 64 = .ok (.getfield 360, 3) := by decide +kernel
theorem dX9_see_67 : decode cX9_see 67 = .ok (.ireturn, 1) := by decide +kernel
theorem dX9_isAsSeen_0 : decode cX9_isAsSeen 0 = .ok (.aload_n 0, 1) := by decide +kernel
theorem dX9_isAsSeen_1 : decode cX9_isAsSeen 1 = .ok (.invokevirtual 320, 3) := by decide +kernel
theorem dX9_isAsSeen_4 : decode cX9_isAsSeen 4 = .ok (.istore_n 1, 1) := by decide +kernel
theorem dX9_isAsSeen_5 : decode cX9_isAsSeen 5 = .ok (.iconst 0, 1) := by decide +kernel
theorem dX9_isAsSeen_6 : decode cX9_isAsSeen 6 = .ok (.istore_n 2, 1) := by decide +kernel
theorem dX9_isAsSeen_7 : decode cX9_isAsSeen 7 = .ok (.iload_n 2, 1) := by decide +kernel
theorem dX9_isAsSeen_8 : decode cX9_isAsSeen 8 = .ok (.aload_n 0, 1) := by decide +kernel
theorem dX9_isAsSeen_9 : decode cX9_isAsSeen 9 = .ok (.getfield 360, 3) := by decide +kernel
theorem dX9_isAsSeen_12 : decode cX9_isAsSeen 12 = .ok (.if_icmp .ge 30, 3) := by decide +kernel
theorem dX9_isAsSeen_15 : decode cX9_isAsSeen 15 = .ok (.iload_n 1, 1) := by decide +kernel
theorem dX9_isAsSeen_16 : decode cX9_isAsSeen 16 = .ok (.aload_n 0, 1) := by decide +kernel
theorem dX9_isAsSeen_17 : decode cX9_isAsSeen 17 = .ok (.getfield 35, 3) := by decide +kernel
theorem dX9_isAsSeen_20 : decode cX9_isAsSeen 20 = .ok (.iload_n 2, 1) := by decide +kernel
theorem dX9_isAsSeen_21 : decode cX9_isAsSeen 21 = .ok (.iaload, 1) := by decide +kernel
theorem dX9_isAsSeen_22 : decode cX9_isAsSeen 22 = .ok (.invokestatic 192, 3) := by decide +kernel
theorem dX9_isAsSeen_25 : decode cX9_isAsSeen 25 = .ok (.aload_n 0, 1) := by decide +kernel
theorem dX9_isAsSeen_26 : decode cX9_isAsSeen 26 = .ok (.getfield 44, 3) := by decide +kernel
theorem dX9_isAsSeen_29 : decode cX9_isAsSeen 29 = .ok (.iload_n 2, 1) := by decide +kernel
theorem dX9_isAsSeen_30 : decode cX9_isAsSeen 30 = .ok (.baload, 1) := by decide +kernel
theorem dX9_isAsSeen_31 : decode cX9_isAsSeen 31 = .ok (.if_icmp .eq 5, 3) := by decide +kernel
theorem dX9_isAsSeen_34 : decode cX9_isAsSeen 34 = .ok (.iconst 0, 1) := by decide +kernel
theorem dX9_isAsSeen_35 : decode cX9_isAsSeen 35 = .ok (.ireturn, 1) := by decide +kernel
theorem dX9_isAsSeen_36 : decode cX9_isAsSeen 36 = .ok (.iinc 2 1, 3) := by decide +kernel
theorem dX9_isAsSeen_39 : decode cX9_isAsSeen 39 = .ok (.goto (-32), 3) := by decide +kernel
theorem dX9_isAsSeen_42 : decode cX9_isAsSeen 42 = .ok (.iconst 1, 1) := by decide +kernel
theorem dX9_isAsSeen_43 : decode cX9_isAsSeen 43 = .ok (.ireturn, 1) := by decide +kernel
theorem dX9_fits_0 : decode cX9_fits 0 = .ok (.iload_n 1, 1) := by decide +kernel
theorem dX9_fits_1 : decode cX9_fits 1 = .ok (.i2l, 1) := by decide +kernel
theorem dX9_fits_2 : decode cX9_fits 2 = .ok (.lconst 0, 1) := by decide +kernel
theorem dX9_fits_3 : decode cX9_fits 3 = .ok (.lconst 1, 1) := by decide +kernel
theorem dX9_fits_4 : decode cX9_fits 4 = .ok (.invokestatic 170, 3) := by decide +kernel
theorem dX9_fits_7 : decode cX9_fits 7 = .ok (.ifCond .ne 5, 3) := by decide +kernel
theorem dX9_fits_10 : decode cX9_fits 10 = .ok (.iconst (-1), 1) := by decide +kernel
theorem dX9_fits_11 : decode cX9_fits 11 = .ok (.ireturn, 1) := by decide +kernel
theorem dX9_fits_12 : decode cX9_fits 12 = .ok (.aload_n 0, 1) := by decide +kernel
theorem dX9_fits_13 : decode cX9_fits 13 = .ok (.getfield 25, 3) := by decide +kernel
theorem dX9_fits_16 : decode cX9_fits 16 = .ok (.istore_n 2, 1) := by decide +kernel
theorem dX9_fits_17 : decode cX9_fits 17 = .ok (.iconst 0, 1) := by decide +kernel
theorem dX9_fits_18 : decode cX9_fits 18 = .ok (.istore_n 3, 1) := by decide +kernel
theorem dX9_fits_19 : decode cX9_fits 19 = .ok (.bipush (-5), 2) := by decide +kernel
theorem dX9_fits_21 : decode cX9_fits 21 = .ok (.istore 4, 2) := by decide +kernel
theorem dX9_fits_23 : decode cX9_fits 23 = .ok (.bipush 7, 2) := by decide +kernel
theorem dX9_fits_25 : decode cX9_fits 25 = .ok (.istore 5, 2) := by decide +kernel
theorem dX9_fits_27 : decode cX9_fits 27 = .ok (.iload 5, 2) := by decide +kernel
theorem dX9_fits_29 : decode cX9_fits 29 = .ok (.iconst 1, 1) := by decide +kernel
theorem dX9_fits_30 : decode cX9_fits 30 = .ok (.if_icmp .lt 32, 3) := by decide +kernel
theorem dX9_fits_33 : decode cX9_fits 33 = .ok (.aload_n 0, 1) := by decide +kernel
theorem dX9_fits_34 : decode cX9_fits 34 = .ok (.iload 5, 2) := by decide +kernel
theorem dX9_fits_36 : decode cX9_fits 36 = .ok (.putfield 25, 3) := by decide +kernel
theorem dX9_fits_39 : decode cX9_fits 39 = .ok (.aload_n 0, 1) := by decide +kernel
theorem dX9_fits_40 : decode cX9_fits 40 = .ok (.invokevirtual 363, 3) := by decide +kernel
theorem dX9_fits_43 : decode cX9_fits 43 = .ok (.ifCond .ne 6, 3) := by decide +kernel
theorem dX9_fits_46 : decode cX9_fits 46 = .ok (.goto 10, 3) := by decide +kernel
theorem dX9_fits_49 : decode cX9_fits 49 = .ok (.iinc 3 1, 3) := by decide +kernel
theorem dX9_fits_52 : decode cX9_fits 52 = .ok (.iload 5, 2) := by decide +kernel
theorem dX9_fits_54 : decode cX9_fits 54 = .ok (.istore 4, 2) := by decide +kernel
theorem dX9_fits_56 : decode cX9_fits 56 = .ok (.iinc 5 (-1), 3) := by decide +kernel
theorem dX9_fits_59 : decode cX9_fits 59 = .ok (.goto (-32), 3) := by decide +kernel
theorem dX9_fits_62 : decode cX9_fits 62 = .ok (.aload_n 0, 1) := by decide +kernel
theorem dX9_fits_63 : decode cX9_fits 63 = .ok (.iload_n 2, 1) := by decide +kernel
theorem dX9_fits_64 : decode cX9_fits 64 = .ok (.putfield 25, 3) := by decide +kernel
theorem dX9_fits_67 : decode cX9_fits 67 = .ok (.iload_n 1, 1) := by decide +kernel
theorem dX9_fits_68 : decode cX9_fits 68 = .ok (.ifCond .ne 7, 3) := by decide +kernel
theorem dX9_fits_71 : decode cX9_fits 71 = .ok (.iload_n 3, 1) := by decide +kernel
theorem dX9_fits_72 : decode cX9_fits 72 = .ok (.goto 5, 3) := by decide +kernel
theorem dX9_fits_75 : decode cX9_fits 75 = .ok (.iload 4, 2) := by decide +kernel
theorem dX9_fits_77 : decode cX9_fits 77 = .ok (.ireturn, 1) := by decide +kernel
theorem dX9_event_0 : decode cX9_event 0 = .ok (.iload_n 1, 1) := by decide +kernel
theorem dX9_event_1 : decode cX9_event 1 = .ok (.iconst (-1), 1) := by decide +kernel
theorem dX9_event_2 : decode cX9_event 2 = .ok (.if_icmp .ne 10, 3) := by decide +kernel
theorem dX9_event_5 : decode cX9_event 5 = .ok (.aload_n 0, 1) := by decide +kernel
theorem dX9_event_6 : decode cX9_event 6 = .ok (.iconst 0, 1) := by decide +kernel
theorem dX9_event_7 : decode cX9_event 7 = .ok (.putfield 366, 3) := by decide +kernel
theorem dX9_event_10 : decode cX9_event 10 = .ok (.iconst 0, 1) := by decide +kernel
theorem dX9_event_11 : decode cX9_event 11 = .ok (.ireturn, 1) := by decide +kernel
theorem dX9_event_12 : decode cX9_event 12 = .ok (.iload_n 1, 1) := by decide +kernel
theorem dX9_event_13 : decode cX9_event 13 = .ok (.i2l, 1) := by decide +kernel
theorem dX9_event_14 : decode cX9_event 14 = .ok (.lconst 0, 1) := by decide +kernel
theorem dX9_event_15 : decode cX9_event 15 = .ok (.ldc2_w 313, 3) := by decide +kernel
theorem dX9_event_18 : decode cX9_event 18 = .ok (.invokestatic 170, 3) := by decide +kernel
theorem dX9_event_21 : decode cX9_event 21 = .ok (.ifCond .eq 16, 3) := by decide +kernel
theorem dX9_event_24 : decode cX9_event 24 = .ok (.iload_n 1, 1) := by decide +kernel
theorem dX9_event_25 : decode cX9_event 25 = .ok (.iconst 2, 1) := by decide +kernel
theorem dX9_event_26 : decode cX9_event 26 = .ok (.if_icmp .eq 13, 3) := by decide +kernel
theorem dX9_event_29 : decode cX9_event 29 = .ok (.aload_n 0, 1) := by decide +kernel
theorem dX9_event_30 : decode cX9_event 30 = .ok (.iload_n 2, 1) := by decide +kernel
theorem dX9_event_31 : decode cX9_event 31 = .ok (.invokevirtual 211, 3) := by decide +kernel
theorem dX9_event_34 : decode cX9_event 34 = .ok (.ifCond .ne 5, 3) := by decide +kernel
theorem dX9_event_37 : decode cX9_event 37 = .ok (.iconst (-1), 1) := by decide +kernel
theorem dX9_event_38 : decode cX9_event 38 = .ok (.ireturn, 1) := by decide +kernel
theorem dX9_event_39 : decode cX9_event 39 = .ok (.iload_n 1, 1) := by decide +kernel
theorem dX9_event_40 : decode cX9_event 40 = .ok (.iconst 2, 1) := by decide +kernel
theorem dX9_event_41 : decode cX9_event 41 = .ok (.if_icmp .ne 18, 3) := by decide +kernel
theorem dX9_event_44 : decode cX9_event 44 = .ok (.iload_n 2, 1) := by decide +kernel
theorem dX9_event_45 : decode cX9_event 45 = .ok (.i2l, 1) := by decide +kernel
theorem dX9_event_46 : decode cX9_event 46 = .ok (.lconst 1, 1) := by decide +kernel
theorem dX9_event_47 : decode cX9_event 47 = .ok (.ldc2_w 216, 3) := by decide +kernel
theorem dX9_event_50 : decode cX9_event 50 = .ok (.invokestatic 170, 3) := by decide +kernel
theorem dX9_event_53 : decode cX9_event 53 = .ok (.ifCond .ne 6, 3) := by decide +kernel
theorem dX9_event_56 : decode cX9_event 56 = .ok (.bipush (-2), 2) := by decide +kernel
theorem dX9_event_58 : decode cX9_event 58 = .ok (.ireturn, 1) := by decide +kernel
theorem dX9_event_59 : decode cX9_event 59 = .ok (.aload_n 0, 1) := by decide +kernel
theorem dX9_event_60 : decode cX9_event 60 = .ok (.getfield 366, 3) := by decide +kernel
theorem dX9_event_63 : decode cX9_event 63 = .ok (.bipush 8, 2) := by decide +kernel
theorem dX9_event_65 : decode cX9_event 65 = .ok (.if_icmp .ne 6, 3) := by decide +kernel
theorem dX9_event_68 : decode cX9_event 68 = .ok (.bipush (-4), 2) := by decide +kernel
theorem dX9_event_70 : decode cX9_event 70 = .ok (.ireturn, 1) := by decide +kernel
theorem dX9_event_71 : decode cX9_event 71 = .ok (.aload_n 0, 1) := by decide +kernel
theorem dX9_event_72 : decode cX9_event 72 = .ok (.getfield 38, 3) := by decide +kernel
theorem dX9_event_75 : decode cX9_event 75 = .ok (.aload_n 0, 1) := by decide +kernel
theorem dX9_event_76 : decode cX9_event 76 = .ok (.getfield 366, 3) := by decide +kernel
theorem dX9_event_79 : decode cX9_event 79 = .ok (.iload_n 1, 1) := by decide +kernel
theorem dX9_event_80 : decode cX9_event 80 = .ok (.iastore, 1) := by decide +kernel
theorem dX9_event_81 : decode cX9_event 81 = .ok (.aload_n 0, 1) := by decide +kernel
theorem dX9_event_82 : decode cX9_event 82 = .ok (.getfield 41, 3) := by decide +kernel
theorem dX9_event_85 : decode cX9_event 85 = .ok (.aload_n 0, 1) := by decide +kernel
theorem dX9_event_86 : decode cX9_event 86 = .ok (.getfield 366, 3) := by decide +kernel
theorem dX9_event_89 : decode cX9_event 89 = .ok (.iload_n 2, 1) := by decide +kernel
theorem dX9_event_90 : decode cX9_event 90 = .ok (.iastore, 1) := by decide +kernel
theorem dX9_event_91 : decode cX9_event 91 = .ok (.aload_n 0, 1) := by decide +kernel
theorem dX9_event_92 : decode cX9_event 92 = .ok (.dup, 1) := by decide +kernel
theorem dX9_event_93 : decode cX9_event 93 = .ok (.getfield 366, 3) := by decide +kernel
theorem dX9_event_96 : decode cX9_event 96 = .ok (.iconst 1, 1) := by decide +kernel
theorem dX9_event_97 : decode cX9_event 97 = .ok (.iadd, 1) := by decide +kernel
theorem dX9_event_98 : decode cX9_event 98 = .ok (.putfield 366, 3) := by decide +kernel
theorem dX9_event_101 : decode cX9_event 101 = .ok (.aload_n 0, 1) := by decide +kernel
theorem dX9_event_102 : decode cX9_event 102 = .ok (.getfield 366, 3) := by decide +kernel
theorem dX9_event_105 : decode cX9_event 105 = .ok (.ireturn, 1) := by decide +kernel
theorem dX9_happens_0 : decode cX9_happens 0 = .ok (.iload_n 1, 1) := by decide +kernel
theorem dX9_happens_1 : decode cX9_happens 1 = .ok (.iconst 2, 1) := by decide +kernel
theorem dX9_happens_2 : decode cX9_happens 2 = .ok (.if_icmp .ge 18, 3) := by decide +kernel
theorem dX9_happens_5 : decode cX9_happens 5 = .ok (.aload_n 0, 1) := by decide +kernel
theorem dX9_happens_6 : decode cX9_happens 6 = .ok (.getfield 11, 3) := by decide +kernel
theorem dX9_happens_9 : decode cX9_happens 9 = .ok (.iload_n 2, 1) := by decide +kernel
theorem dX9_happens_10 : decode cX9_happens 10 = .ok (.iload_n 1, 1) := by decide +kernel
theorem dX9_happens_11 : decode cX9_happens 11 = .ok (.ifCond .ne 7, 3) := by decide +kernel
theorem dX9_happens_14 : decode cX9_happens 14 = .ok (.iconst 1, 1) := by decide +kernel
theorem dX9_happens_15 : decode cX9_happens 15 = .ok (.goto 4, 3) := by decide +kernel
theorem dX9_happens_18 : decode cX9_happens 18 = .ok (.iconst 0, 1) := by decide +kernel
theorem dX9_happens_19 : decode cX9_happens 19 = .ok (.bastore, 1) := by decide +kernel
theorem dX9_happens_20 : decode cX9_happens 20 = .ok (.iload_n 1, 1) := by decide +kernel
theorem dX9_happens_21 : decode cX9_happens 21 = .ok (.iconst 2, 1) := by decide +kernel
theorem dX9_happens_22 : decode cX9_happens 22 = .ok (.if_icmp .ne 8, 3) := by decide +kernel
theorem dX9_happens_25 : decode cX9_happens 25 = .ok (.aload_n 0, 1) := by decide +kernel
theorem dX9_happens_26 : decode cX9_happens 26 = .ok (.iload_n 2, 1) := by decide +kernel
theorem dX9_happens_27 : decode cX9_happens 27 = .ok (.putfield 25, 3) := by decide +kernel
theorem dX9_happens_30 : decode cX9_happens 30 = .ok (.iconst 0, 1) := by decide +kernel
theorem dX9_happens_31 : decode cX9_happens 31 = .ok (.istore_n 3, 1) := by decide +kernel
theorem dX9_happens_32 : decode cX9_happens 32 = .ok (.iload_n 1, 1) := by decide +kernel
theorem dX9_happens_33 : decode cX9_happens 33 = .ok (.iconst 3, 1) := by decide +kernel
theorem dX9_happens_34 : decode cX9_happens 34 = .ok (.if_icmp .ne 53, 3) := by decide +kernel
theorem dX9_happens_37 : decode cX9_happens 37 = .ok (.iload_n 3, 1) := by decide +kernel
theorem dX9_happens_38 : decode cX9_happens 38 = .ok (.aload_n 0, 1) := by decide +kernel
theorem dX9_happens_39 : decode cX9_happens 39 = .ok (.getfield 174, 3) := by decide +kernel
theorem dX9_happens_42 : decode cX9_happens 42 = .ok (.if_icmp .ge 45, 3) := by decide +kernel
theorem dX9_happens_45 : decode cX9_happens 45 = .ok (.aload_n 0, 1) := by decide +kernel
theorem dX9_happens_46 : decode cX9_happens 46 = .ok (.aload_n 0, 1) := by decide +kernel
theorem dX9_happens_47 : decode cX9_happens 47 = .ok (.getfield 19, 3) := by decide +kernel
theorem dX9_happens_50 : decode cX9_happens 50 = .ok (.iload_n 3, 1) := by decide +kernel
theorem dX9_happens_51 : decode cX9_happens 51 = .ok (.iaload, 1) := by decide +kernel
theorem dX9_happens_52 : decode cX9_happens 52 = .ok (.invokevirtual 228, 3) := by decide +kernel
theorem dX9_happens_55 : decode cX9_happens 55 = .ok (.istore 4, 2) := by decide +kernel
theorem dX9_happens_57 : decode cX9_happens 57 = .ok (.iload 4, 2) := by decide +kernel
theorem dX9_happens_59 : decode cX9_happens 59 = .ok (.ifCond .le 22, 3) := by decide +kernel
theorem dX9_happens_62 : decode cX9_happens 62 = .ok (.iload 4, 2) := by decide +kernel
theorem dX9_happens_64 : decode cX9_happens 64 = .ok (.iconst 0, 1) := by decide +kernel
theorem dX9_happens_65 : decode cX9_happens 65 = .ok (.invokestatic 181, 3) := by decide +kernel
theorem dX9_happens_68 : decode cX9_happens 68 = .ok (.iload_n 2, 1) := by decide +kernel
theorem dX9_happens_69 : decode cX9_happens 69 = .ok (.iconst 1, 1) := by decide +kernel
theorem dX9_happens_70 : decode cX9_happens 70 = .ok (.iadd, 1) := by decide +kernel
theorem dX9_happens_71 : decode cX9_happens 71 = .ok (.if_icmp .ne 10, 3) := by decide +kernel
theorem dX9_happens_74 : decode cX9_happens 74 = .ok (.aload_n 0, 1) := by decide +kernel
theorem dX9_happens_75 : decode cX9_happens 75 = .ok (.getfield 22, 3) := by decide +kernel
theorem dX9_happens_78 : decode cX9_happens 78 = .ok (.iload_n 3, 1) := by decide +kernel
theorem dX9_happens_79 : decode cX9_happens 79 = .ok (.iconst 0, 1) := by decide +kernel
theorem dX9_happens_80 : decode cX9_happens 80 = .ok (.iastore, 1) := by decide +kernel
theorem dX9_happens_81 : decode cX9_happens 81 = .ok (.iinc 3 1, 3) := by decide +kernel
theorem dX9_happens_84 : decode cX9_happens 84 = .ok (.goto (-52), 3) := by decide +kernel
theorem dX9_happens_87 : decode cX9_happens 87 = .ok (.return_, 1) := by decide +kernel
theorem dX9_after_0 : decode cX9_after 0 = .ok (.aload_n 0, 1) := by decide +kernel
theorem dX9_after_1 : decode cX9_after 1 = .ok (.getfield 25, 3) := by decide +kernel
theorem dX9_after_4 : decode cX9_after 4 = .ok (.istore_n 1, 1) := by decide +kernel
theorem dX9_after_5 : decode cX9_after 5 = .ok (.aload_n 0, 1) := by decide +kernel
theorem dX9_after_6 : decode cX9_after 6 = .ok (.getfield 11, 3) := by decide +kernel
theorem dX9_after_9 : decode cX9_after 9 = .ok (.iconst 0, 1) := by decide +kernel
theorem dX9_after_10 : decode cX9_after 10 = .ok (.aload_n 0, 1) := by decide +kernel
theorem dX9_after_11 : decode cX9_after 11 = .ok (.getfield 108, 3) := by decide +kernel
theorem dX9_after_14 : decode cX9_after 14 = .ok (.iconst 0, 1) := by decide +kernel
theorem dX9_after_15 : decode cX9_after 15 = .ok (.bipush 8, 2) := by decide +kernel
theorem dX9_after_17 : decode cX9_after 17 = .ok (.invokestatic 332, 3) := by decide +kernel
theorem dX9_after_20 : decode cX9_after 20 = .ok (.aload_n 0, 1) := by decide +kernel
theorem dX9_after_21 : decode cX9_after 21 = .ok (.getfield 22, 3) := by decide +kernel
theorem dX9_after_24 : decode cX9_after 24 = .ok (.iconst 0, 1) := by decide +kernel
theorem dX9_after_25 : decode cX9_after 25 = .ok (.aload_n 0, 1) := by decide +kernel
theorem dX9_after_26 : decode cX9_after 26 = .ok (.getfield 111, 3) := by decide +kernel
theorem dX9_after_29 : decode cX9_after 29 = .ok (.iconst 0, 1) := by decide +kernel
theorem dX9_after_30 : decode cX9_after 30 = .ok (.bipush 25, 2) := by decide +kernel
theorem dX9_after_32 : decode cX9_after 32 = .ok (.invokestatic 332, 3) := by decide +kernel
theorem dX9_after_35 : decode cX9_after 35 = .ok (.iconst 0, 1) := by decide +kernel
theorem dX9_after_36 : decode cX9_after 36 = .ok (.istore_n 2, 1) := by decide +kernel
theorem dX9_after_37 : decode cX9_after 37 = .ok (.iload_n 2, 1) := by decide +kernel
theorem dX9_after_38 : decode cX9_after 38 = .ok (.aload_n 0, 1) := by decide +kernel
theorem dX9_after_39 : decode cX9_after 39 = .ok (.getfield 366, 3) := by decide +kernel
theorem dX9_after_42 : decode cX9_after 42 = .ok (.if_icmp .ge 25, 3) := by decide +kernel
theorem dX9_after_45 : decode cX9_after 45 = .ok (.aload_n 0, 1) := by decide +kernel
theorem dX9_after_46 : decode cX9_after 46 = .ok (.aload_n 0, 1) := by decide +kernel
theorem dX9_after_47 : decode cX9_after 47 = .ok (.getfield 38, 3) := by decide +kernel
theorem dX9_after_50 : decode cX9_after 50 = .ok (.iload_n 2, 1) := by decide +kernel
theorem dX9_after_51 : decode cX9_after 51 = .ok (.iaload, 1) := by decide +kernel
theorem dX9_after_52 : decode cX9_after 52 = .ok (.aload_n 0, 1) := by decide +kernel
theorem dX9_after_53 : decode cX9_after 53 = .ok (.getfield 41, 3) := by decide +kernel
theorem dX9_after_56 : decode cX9_after 56 = .ok (.iload_n 2, 1) := by decide +kernel
theorem dX9_after_57 : decode cX9_after 57 = .ok (.iaload, 1) := by decide +kernel
theorem dX9_after_58 : decode cX9_after 58 = .ok (.invokevirtual 369, 3) := by decide +kernel
theorem dX9_after_61 : decode cX9_after 61 = .ok (.iinc 2 1, 3) := by decide +kernel
theorem dX9_after_64 : decode cX9_after 64 = .ok (.goto (-27), 3) := by decide +kernel
theorem dX9_after_67 : decode cX9_after 67 = .ok (.aload_n 0, 1) := by decide +kernel
theorem dX9_after_68 : decode cX9_after 68 = .ok (.invokevirtual 320, 3) := by decide +kernel
theorem dX9_after_71 : decode cX9_after 71 = .ok (.istore_n 2, 1) := by decide +kernel
theorem dX9_after_72 : decode cX9_after 72 = .ok (.aload_n 0, 1) := by decide +kernel
theorem dX9_after_73 : decode cX9_after 73 = .ok (.iload_n 1, 1) := by decide +kernel
theorem dX9_after_74 : decode cX9_after 74 = .ok (.putfield 25, 3) := by decide +kernel
theorem dX9_after_77 : decode cX9_after 77 = .ok (.aload_n 0, 1) := by decide +kernel
theorem dX9_after_78 : decode cX9_after 78 = .ok (.getfield 108, 3) := by decide +kernel
theorem dX9_after_81 : decode cX9_after 81 = .ok (.iconst 0, 1) := by decide +kernel
theorem dX9_after_82 : decode cX9_after 82 = .ok (.aload_n 0, 1) := by decide +kernel
theorem dX9_after_83 : decode cX9_after 83 = .ok (.getfield 11, 3) := by decide +kernel
theorem dX9_after_86 : decode cX9_after 86 = .ok (.iconst 0, 1) := by decide +kernel
theorem dX9_after_87 : decode cX9_after 87 = .ok (.bipush 8, 2) := by decide +kernel
theorem dX9_after_89 : decode cX9_after 89 = .ok (.invokestatic 332, 3) := by decide +kernel
theorem dX9_after_92 : decode cX9_after 92 = .ok (.aload_n 0, 1) := by decide +kernel
theorem dX9_after_93 : decode cX9_after 93 = .ok (.getfield 111, 3) := by decide +kernel
theorem dX9_after_96 : decode cX9_after 96 = .ok (.iconst 0, 1) := by decide +kernel
theorem dX9_after_97 : decode cX9_after 97 = .ok (.aload_n 0, 1) := by decide +kernel
theorem dX9_after_98 : decode cX9_after 98 = .ok (.getfield 22, 3) := by decide +kernel
theorem dX9_after_101 : decode cX9_after 101 = .ok (.iconst 0, 1) := by decide +kernel
theorem dX9_after_102 : decode cX9_after 102 = .ok (.bipush 25, 2) := by decide +kernel
theorem dX9_after_104 : decode cX9_after 104 = .ok (.invokestatic 332, 3) := by decide +kernel
theorem dX9_after_107 : decode cX9_after 107 = .ok (.iload_n 2, 1) := by decide +kernel
theorem dX9_after_108 : decode cX9_after 108 = .ok (.ireturn, 1) := by decide +kernel
theorem dX9_feed_0 : decode cX9_feed 0 = .ok (.iload_n 1, 1) := by decide +kernel
theorem dX9_feed_1 : decode cX9_feed 1 = .ok (.i2l, 1) := by decide +kernel
theorem dX9_feed_2 : decode cX9_feed 2 = .ok (.lconst 0, 1) := by decide +kernel
theorem dX9_feed_3 : decode cX9_feed 3 = .ok (.ldc2_w 372, 3) := by decide +kernel
theorem dX9_feed_6 : decode cX9_feed 6 = .ok (.invokestatic 170, 3) := by decide +kernel
theorem dX9_feed_9 : decode cX9_feed 9 = .ok (.ifCond .ne 6, 3) := by decide +kernel
theorem dX9_feed_12 : decode cX9_feed 12 = .ok (.bipush (-2), 2) := by decide +kernel
theorem dX9_feed_14 : decode cX9_feed 14 = .ok (.ireturn, 1) := by decide +kernel
theorem dX9_feed_15 : decode cX9_feed 15 = .ok (.aload_n 0, 1) := by decide +kernel
theorem dX9_feed_16 : decode cX9_feed 16 = .ok (.getfield 374, 3) := by decide +kernel
theorem dX9_feed_19 : decode cX9_feed 19 = .ok (.bipush 100, 2) := by decide +kernel
theorem dX9_feed_21 : decode cX9_feed 21 = .ok (.if_icmp .ne 6, 3) := by decide +kernel
theorem dX9_feed_24 : decode cX9_feed 24 = .ok (.bipush (-4), 2) := by decide +kernel
theorem dX9_feed_26 : decode cX9_feed 26 = .ok (.ireturn, 1) := by decide +kernel
theorem dX9_feed_27 : decode cX9_feed 27 = .ok (.aload_n 0, 1) := by decide +kernel
theorem dX9_feed_28 : decode cX9_feed 28 = .ok (.getfield 114, 3) := by decide +kernel
theorem dX9_feed_31 : decode cX9_feed 31 = .ok (.aload_n 0, 1) := by decide +kernel
theorem dX9_feed_32 : decode cX9_feed 32 = .ok (.getfield 374, 3) := by decide +kernel
theorem dX9_feed_35 : decode cX9_feed 35 = .ok (.iload_n 1, 1) := by decide +kernel
theorem dX9_feed_36 : decode cX9_feed 36 = .ok (.iastore, 1) := by decide +kernel
theorem dX9_feed_37 : decode cX9_feed 37 = .ok (.aload_n 0, 1) := by decide +kernel
theorem dX9_feed_38 : decode cX9_feed 38 = .ok (.dup, 1) := by decide +kernel
theorem dX9_feed_39 : decode cX9_feed 39 = .ok (.getfield 374, 3) := by decide +kernel
theorem dX9_feed_42 : decode cX9_feed 42 = .ok (.iconst 1, 1) := by decide +kernel
theorem dX9_feed_43 : decode cX9_feed 43 = .ok (.iadd, 1) := by decide +kernel
theorem dX9_feed_44 : decode cX9_feed 44 = .ok (.putfield 374, 3) := by decide +kernel
theorem dX9_feed_47 : decode cX9_feed 47 = .ok (.aload_n 0, 1) := by decide +kernel
theorem dX9_feed_48 : decode cX9_feed 48 = .ok (.getfield 374, 3) := by decide +kernel
theorem dX9_feed_51 : decode cX9_feed 51 = .ok (.ireturn, 1) := by decide +kernel
theorem dX9_signAt_0 : decode cX9_signAt 0 = .ok (.iload_n 1, 1) := by decide +kernel
theorem dX9_signAt_1 : decode cX9_signAt 1 = .ok (.aload_n 0, 1) := by decide +kernel
theorem dX9_signAt_2 : decode cX9_signAt 2 = .ok (.getfield 374, 3) := by decide +kernel
theorem dX9_signAt_5 : decode cX9_signAt 5 = .ok (.if_icmp .ge 12, 3) := by decide +kernel
theorem dX9_signAt_8 : decode cX9_signAt 8 = .ok (.aload_n 0, 1) := by decide +kernel
theorem dX9_signAt_9 : decode cX9_signAt 9 = .ok (.getfield 114, 3) := by decide +kernel
theorem dX9_signAt_12 : decode cX9_signAt 12 = .ok (.iload_n 1, 1) := by decide +kernel
theorem dX9_signAt_13 : decode cX9_signAt 13 = .ok (.iaload, 1) := by decide +kernel
theorem dX9_signAt_14 : decode cX9_signAt 14 = .ok (.goto 4, 3) := by decide +kernel
theorem dX9_signAt_17 : decode cX9_signAt 17 = .ok (.iconst (-1), 1) := by decide +kernel
theorem dX9_signAt_18 : decode cX9_signAt 18 = .ok (.ireturn, 1) := by decide +kernel
theorem dX9_fails_0 : decode cX9_fails 0 = .ok (.aload_n 0, 1) := by decide +kernel
theorem dX9_fails_1 : decode cX9_fails 1 = .ok (.getfield 377, 3) := by decide +kernel
theorem dX9_fails_4 : decode cX9_fails 4 = .ok (.ifCond .lt 4, 3) := by decide +kernel
theorem dX9_fails_7 : decode cX9_fails 7 = .ok (.return_, 1) := by decide +kernel
theorem dX9_fails_8 : decode cX9_fails 8 = .ok (.aload_n 0, 1) := by decide +kernel
theorem dX9_fails_9 : decode cX9_fails 9 = .ok (.aload_n 0, 1) := by decide +kernel
theorem dX9_fails_10 : decode cX9_fails 10 = .ok (.getfield 380, 3) := by decide +kernel
theorem dX9_fails_13 : decode cX9_fails 13 = .ok (.putfield 377, 3) := by decide +kernel
theorem dX9_fails_16 : decode cX9_fails 16 = .ok (.aload_n 0, 1) := by decide +kernel
theorem dX9_fails_17 : decode cX9_fails 17 = .ok (.iload_n 1, 1) := by decide +kernel
theorem dX9_fails_18 : decode cX9_fails 18 = .ok (.putfield 383, 3) := by decide +kernel
theorem dX9_fails_21 : decode cX9_fails 21 = .ok (.return_, 1) := by decide +kernel
theorem dX9_numberRead_0 : decode cX9_numberRead 0 = .ok (.iconst 0, 1) := by decide +kernel
theorem dX9_numberRead_1 : decode cX9_numberRead 1 = .ok (.istore_n 2, 1) := by decide +kernel
theorem dX9_numberRead_2 : decode cX9_numberRead 2 = .ok (.iconst 0, 1) := by decide +kernel
theorem dX9_numberRead_3 : decode cX9_numberRead 3 = .ok (.istore_n 3, 1) := by decide +kernel
theorem dX9_numberRead_4 : decode cX9_numberRead 4 = .ok (.aload_n 0, 1) := by decide +kernel
theorem dX9_numberRead_5 : decode cX9_numberRead 5 = .ok (.getfield 377, 3) := by decide +kernel
theorem dX9_numberRead_8 : decode cX9_numberRead 8 = .ok (.ifCond .ge 63, 3) := by decide +kernel
theorem dX9_numberRead_11 : decode cX9_numberRead 11 = .ok (.iload_n 2, 1) := by decide +kernel
theorem dX9_numberRead_12 : decode cX9_numberRead 12 = .ok (.iload_n 1, 1) := by decide +kernel
theorem dX9_numberRead_13 : decode cX9_numberRead 13 = .ok (.if_icmp .ge 58, 3) := by decide +kernel
theorem dX9_numberRead_16 : decode cX9_numberRead 16 = .ok (.aload_n 0, 1) := by decide +kernel
theorem dX9_numberRead_17 : decode cX9_numberRead 17 = .ok (.aload_n 0, 1) := by decide +kernel
theorem dX9_numberRead_18 : decode cX9_numberRead 18 = .ok (.getfield 380, 3) := by decide +kernel
theorem dX9_numberRead_21 : decode cX9_numberRead 21 = .ok (.invokevirtual 387, 3) := by decide +kernel
theorem dX9_numberRead_24 : decode cX9_numberRead 24 = .ok (.i2l, 1) := by decide +kernel
theorem dX9_numberRead_25 : decode cX9_numberRead 25 = .ok (.ldc2_w 390, 3) := by decide +kernel
theorem dX9_numberRead_28 : decode cX9_numberRead 28 = .ok (.ldc2_w 392, 3) := by decide +kernel
theorem dX9_numberRead_31 : decode cX9_numberRead 31 = .ok (.invokestatic 170, 3) := by decide +kernel
theorem dX9_numberRead_34 : decode cX9_numberRead 34 = .ok (.ifCond .eq 37, 3) := by decide +kernel
theorem dX9_numberRead_37 : decode cX9_numberRead 37 = .ok (.bipush 10, 2) := by decide +kernel
theorem dX9_numberRead_39 : decode cX9_numberRead 39 = .ok (.iload_n 3, 1) := by decide +kernel
theorem dX9_numberRead_40 : decode cX9_numberRead 40 = .ok (.imul, 1) := by decide +kernel
theorem dX9_numberRead_41 : decode cX9_numberRead 41 = .ok (.aload_n 0, 1) := by decide +kernel
theorem dX9_numberRead_42 : decode cX9_numberRead 42 = .ok (.getfield 114, 3) := by decide +kernel
theorem dX9_numberRead_45 : decode cX9_numberRead 45 = .ok (.aload_n 0, 1) := by decide +kernel
theorem dX9_numberRead_46 : decode cX9_numberRead 46 = .ok (.getfield 380, 3) := by decide +kernel
theorem dX9_numberRead_49 : decode cX9_numberRead 49 = .ok (.iaload, 1) := by decide +kernel
theorem dX9_numberRead_50 : decode cX9_numberRead 50 = .ok (.iadd, 1) := by decide +kernel
theorem dX9_numberRead_51 : decode cX9_numberRead 51 = .ok (.bipush 48, 2) := by decide +kernel
theorem dX9_numberRead_53 : decode cX9_numberRead 53 = .ok (.isub, 1) := by decide +kernel
theorem dX9_numberRead_54 : decode cX9_numberRead 54 = .ok (.istore_n 3, 1) := by decide +kernel
theorem dX9_numberRead_55 : decode cX9_numberRead 55 = .ok (.iinc 2 1, 3) := by decide +kernel
theorem dX9_numberRead_58 : decode cX9_numberRead 58 = .ok (.aload_n 0, 1) := by decide +kernel
theorem dX9_numberRead_59 : decode cX9_numberRead 59 = .ok (.dup, 1) := by decide +kernel
theorem dX9_numberRead_60 : decode cX9_numberRead 60 = .ok (.getfield 380, 3) := by decide +kernel
theorem dX9_numberRead_63 : decode cX9_numberRead 63 = .ok (.iconst 1, 1) := by decide +kernel
theorem dX9_numberRead_64 : decode cX9_numberRead 64 = .ok (.iadd, 1) := by decide +kernel
theorem dX9_numberRead_65 : decode cX9_numberRead 65 = .ok (.putfield 380, 3) := by decide +kernel
theorem dX9_numberRead_68 : decode cX9_numberRead 68 = .ok (.goto (-64), 3) := by decide +kernel
theorem dX9_numberRead_71 : decode cX9_numberRead 71 = .ok (.iload_n 2, 1) := by decide +kernel
theorem dX9_numberRead_72 : decode cX9_numberRead 72 = .ok (.ifCond .ne 8, 3) := by decide +kernel
theorem dX9_numberRead_75 : decode cX9_numberRead 75 = .ok (.aload_n 0, 1) := by decide +kernel
theorem dX9_numberRead_76 : decode cX9_numberRead 76 = .ok (.iconst 1, 1) := by decide +kernel
theorem dX9_numberRead_77 : decode cX9_numberRead 77 = .ok (.invokevirtual 394, 3) := by decide +kernel
theorem dX9_numberRead_80 : decode cX9_numberRead 80 = .ok (.iload_n 3, 1) := by decide +kernel
theorem dX9_numberRead_81 : decode cX9_numberRead 81 = .ok (.ireturn, 1) := by decide +kernel
theorem dX9_clauseRead_0 : decode cX9_clauseRead 0 = .ok (.aload_n 0, 1) := by decide +kernel
theorem dX9_clauseRead_1 : decode cX9_clauseRead 1 = .ok (.aload_n 0, 1) := by decide +kernel
theorem dX9_clauseRead_2 : decode cX9_clauseRead 2 = .ok (.getfield 380, 3) := by decide +kernel
theorem dX9_clauseRead_5 : decode cX9_clauseRead 5 = .ok (.putfield 397, 3) := by decide +kernel
theorem dX9_clauseRead_8 : decode cX9_clauseRead 8 = .ok (.aload_n 0, 1) := by decide +kernel
theorem dX9_clauseRead_9 : decode cX9_clauseRead 9 = .ok (.aload_n 0, 1) := by decide +kernel
theorem dX9_clauseRead_10 : decode cX9_clauseRead 10 = .ok (.getfield 380, 3) := by decide +kernel
theorem dX9_clauseRead_13 : decode cX9_clauseRead 13 = .ok (.invokevirtual 387, 3) := by decide +kernel
theorem dX9_clauseRead_16 : decode cX9_clauseRead 16 = .ok (.istore_n 1, 1) := by decide +kernel
theorem dX9_clauseRead_17 : decode cX9_clauseRead 17 = .ok (.iload_n 1, 1) := by decide +kernel
theorem dX9_clauseRead_18 : decode cX9_clauseRead 18 = .ok (.bipush 99, 2) := by decide +kernel
theorem dX9_clauseRead_20 : decode cX9_clauseRead 20 = .ok (.if_icmp .eq 33, 3) := by decide +kernel
theorem dX9_clauseRead_23 : decode cX9_clauseRead 23 = .ok (.iload_n 1, 1) := by decide +kernel
theorem dX9_clauseRead_24 : decode cX9_clauseRead 24 = .ok (.bipush 98, 2) := by decide +kernel
theorem dX9_clauseRead_26 : decode cX9_clauseRead 26 = .ok (.if_icmp .eq 27, 3) := by decide +kernel
theorem dX9_clauseRead_29 : decode cX9_clauseRead 29 = .ok (.iload_n 1, 1) := by decide +kernel
theorem dX9_clauseRead_30 : decode cX9_clauseRead 30 = .ok (.bipush 115, 2) := by decide +kernel
theorem dX9_clauseRead_32 : decode cX9_clauseRead 32 = .ok (.if_icmp .eq 21, 3) := by decide +kernel
theorem dX9_clauseRead_35 : decode cX9_clauseRead 35 = .ok (.iload_n 1, 1) := by decide +kernel
theorem dX9_clauseRead_36 : decode cX9_clauseRead 36 = .ok (.bipush 108, 2) := by decide +kernel
theorem dX9_clauseRead_38 : decode cX9_clauseRead 38 = .ok (.if_icmp .eq 15, 3) := by decide +kernel
theorem dX9_clauseRead_41 : decode cX9_clauseRead 41 = .ok (.iload_n 1, 1) := by decide +kernel
theorem dX9_clauseRead_42 : decode cX9_clauseRead 42 = .ok (.bipush 103, 2) := by decide +kernel
theorem dX9_clauseRead_44 : decode cX9_clauseRead 44 = .ok (.if_icmp .eq 9, 3) := by decide +kernel
theorem dX9_clauseRead_47 : decode cX9_clauseRead 47 = .ok (.aload_n 0, 1) := by decide +kernel
theorem dX9_clauseRead_48 : decode cX9_clauseRead 48 = .ok (.iconst 0, 1) := by decide +kernel
theorem dX9_clauseRead_49 : decode cX9_clauseRead 49 = .ok (.invokevirtual 394, 3) := by decide +kernel
theorem dX9_clauseRead_52 : decode cX9_clauseRead 52 = .ok (.return_, 1) := by decide +kernel
theorem dX9_clauseRead_53 : decode cX9_clauseRead 53 = .ok (.aload_n 0, 1) := by decide +kernel
theorem dX9_clauseRead_54 : decode cX9_clauseRead 54 = .ok (.dup, 1) := by decide +kernel
theorem dX9_clauseRead_55 : decode cX9_clauseRead 55 = .ok (.getfield 380, 3) := by decide +kernel
theorem dX9_clauseRead_58 : decode cX9_clauseRead 58 = .ok (.iconst 1, 1) := by decide +kernel
theorem dX9_clauseRead_59 : decode cX9_clauseRead 59 = .ok (.iadd, 1) := by decide +kernel
theorem dX9_clauseRead_60 : decode cX9_clauseRead 60 = .ok (.putfield 380, 3) := by decide +kernel
theorem dX9_clauseRead_63 : decode cX9_clauseRead 63 = .ok (.aload_n 0, 1) := by decide +kernel
theorem dX9_clauseRead_64 : decode cX9_clauseRead 64 = .ok (.getfield 117, 3) := by decide +kernel
theorem dX9_clauseRead_67 : decode cX9_clauseRead 67 = .ok (.aload_n 0, 1) := by decide +kernel
theorem dX9_clauseRead_68 : decode cX9_clauseRead 68 = .ok (.getfield 400, 3) := by decide +kernel
theorem dX9_clauseRead_71 : decode cX9_clauseRead 71 = .ok (.iload_n 1, 1) := by decide +kernel
theorem dX9_clauseRead_72 : decode cX9_clauseRead 72 = .ok (.iastore, 1) := by decide +kernel
theorem dX9_clauseRead_73 : decode cX9_clauseRead 73 = .ok (.iload_n 1, 1) := by decide +kernel
theorem dX9_clauseRead_74 : decode cX9_clauseRead 74 = .ok (.bipush 98, 2) := by decide +kernel
theorem dX9_clauseRead_76 : decode cX9_clauseRead 76 = .ok (.if_icmp .ne 79, 3) := by decide +kernel
theorem dX9_clauseRead_79 : decode cX9_clauseRead 79 = .ok (.aload_n 0, 1) := by decide +kernel
theorem dX9_clauseRead_80 : decode cX9_clauseRead 80 = .ok (.getfield 120, 3) := by decide +kernel
theorem dX9_clauseRead_83 : decode cX9_clauseRead 83 = .ok (.aload_n 0, 1) := by decide +kernel
theorem dX9_clauseRead_84 : decode cX9_clauseRead 84 = .ok (.getfield 400, 3) := by decide +kernel
theorem dX9_clauseRead_87 : decode cX9_clauseRead 87 = .ok (.aload_n 0, 1) := by decide +kernel
theorem dX9_clauseRead_88 : decode cX9_clauseRead 88 = .ok (.bipush 8, 2) := by decide +kernel
theorem dX9_clauseRead_90 : decode cX9_clauseRead 90 = .ok (.invokevirtual 403, 3) := by decide +kernel
theorem dX9_clauseRead_93 : decode cX9_clauseRead 93 = .ok (.iastore, 1) := by decide +kernel
theorem dX9_clauseRead_94 : decode cX9_clauseRead 94 = .ok (.aload_n 0, 1) := by decide +kernel
theorem dX9_clauseRead_95 : decode cX9_clauseRead 95 = .ok (.getfield 377, 3) := by decide +kernel
theorem dX9_clauseRead_98 : decode cX9_clauseRead 98 = .ok (.ifCond .ge 21, 3) := by decide +kernel
theorem dX9_clauseRead_101 : decode cX9_clauseRead 101 = .ok (.aload_n 0, 1) := by decide +kernel
theorem dX9_clauseRead_102 : decode cX9_clauseRead 102 = .ok (.aload_n 0, 1) := by decide +kernel
theorem dX9_clauseRead_103 : decode cX9_clauseRead 103 = .ok (.getfield 380, 3) := by decide +kernel
theorem dX9_clauseRead_106 : decode cX9_clauseRead 106 = .ok (.invokevirtual 387, 3) := by decide +kernel
theorem dX9_clauseRead_109 : decode cX9_clauseRead 109 = .ok (.bipush 42, 2) := by decide +kernel
theorem dX9_clauseRead_111 : decode cX9_clauseRead 111 = .ok (.if_icmp .eq 8, 3) := by decide +kernel
theorem dX9_clauseRead_114 : decode cX9_clauseRead 114 = .ok (.aload_n 0, 1) := by decide +kernel
theorem dX9_clauseRead_115 : decode cX9_clauseRead 115 = .ok (.iconst 0, 1) := by decide +kernel
theorem dX9_clauseRead_116 : decode cX9_clauseRead 116 = .ok (.invokevirtual 394, 3) := by decide +kernel
theorem dX9_clauseRead_119 : decode cX9_clauseRead 119 = .ok (.aload_n 0, 1) := by decide +kernel
theorem dX9_clauseRead_120 : decode cX9_clauseRead 120 = .ok (.getfield 377, 3) := by decide +kernel
theorem dX9_clauseRead_123 : decode cX9_clauseRead 123 = .ok (.ifCond .lt 4, 3) := by decide +kernel
theorem dX9_clauseRead_126 : decode cX9_clauseRead 126 = .ok (.return_, 1) := by decide +kernel
theorem dX9_clauseRead_127 : decode cX9_clauseRead 127 = .ok (.aload_n 0, 1) := by decide +kernel
theorem dX9_clauseRead_128 : decode cX9_clauseRead 128 = .ok (.dup, 1) := by decide +kernel
theorem dX9_clauseRead_129 : decode cX9_clauseRead 129 = .ok (.getfield 380, 3) := by decide +kernel
theorem dX9_clauseRead_132 : decode cX9_clauseRead 132 = .ok (.iconst 1, 1) := by decide +kernel
theorem dX9_clauseRead_133 : decode cX9_clauseRead 133 = .ok (.iadd, 1) := by decide +kernel
theorem dX9_clauseRead_134 : decode cX9_clauseRead 134 = .ok (.putfield 380, 3) := by decide +kernel
theorem dX9_clauseRead_137 : decode cX9_clauseRead 137 = .ok (.aload_n 0, 1) := by decide +kernel
theorem dX9_clauseRead_138 : decode cX9_clauseRead 138 = .ok (.getfield 123, 3) := by decide +kernel
theorem dX9_clauseRead_141 : decode cX9_clauseRead 141 = .ok (.aload_n 0, 1) := by decide +kernel
theorem dX9_clauseRead_142 : decode cX9_clauseRead 142 = .ok (.getfield 400, 3) := by decide +kernel
theorem dX9_clauseRead_145 : decode cX9_clauseRead 145 = .ok (.aload_n 0, 1) := by decide +kernel
theorem dX9_clauseRead_146 : decode cX9_clauseRead 146 = .ok (.bipush 7, 2) := by decide +kernel
theorem dX9_clauseRead_148 : decode cX9_clauseRead 148 = .ok (.invokevirtual 403, 3) := by decide +kernel
theorem dX9_clauseRead_151 : decode cX9_clauseRead 151 = .ok (.iastore, 1) := by decide +kernel
theorem dX9_clauseRead_152 : decode cX9_clauseRead 152 = .ok (.goto 34, 3) := by decide +kernel
theorem dX9_clauseRead_155 : decode cX9_clauseRead 155 = .ok (.iload_n 1, 1) := by decide +kernel
theorem dX9_clauseRead_156 : decode cX9_clauseRead 156 = .ok (.bipush 99, 2) := by decide +kernel
theorem dX9_clauseRead_158 : decode cX9_clauseRead 158 = .ok (.if_icmp .eq 28, 3) := by decide +kernel
theorem dX9_clauseRead_161 : decode cX9_clauseRead 161 = .ok (.aload_n 0, 1) := by decide +kernel
theorem dX9_clauseRead_162 : decode cX9_clauseRead 162 = .ok (.getfield 120, 3) := by decide +kernel
theorem dX9_clauseRead_165 : decode cX9_clauseRead 165 = .ok (.aload_n 0, 1) := by decide +kernel
theorem dX9_clauseRead_166 : decode cX9_clauseRead 166 = .ok (.getfield 400, 3) := by decide +kernel
theorem dX9_clauseRead_169 : decode cX9_clauseRead 169 = .ok (.aload_n 0, 1) := by decide +kernel
theorem dX9_clauseRead_170 : decode cX9_clauseRead 170 = .ok (.iload_n 1, 1) := by decide +kernel
theorem dX9_clauseRead_171 : decode cX9_clauseRead 171 = .ok (.bipush 108, 2) := by decide +kernel
theorem dX9_clauseRead_173 : decode cX9_clauseRead 173 = .ok (.if_icmp .ne 8, 3) := by decide +kernel
theorem dX9_clauseRead_176 : decode cX9_clauseRead 176 = .ok (.bipush 9, 2) := by decide +kernel
theorem dX9_clauseRead_178 : decode cX9_clauseRead 178 = .ok (.goto 4, 3) := by decide +kernel
theorem dX9_clauseRead_181 : decode cX9_clauseRead 181 = .ok (.iconst 1, 1) := by decide +kernel
theorem dX9_clauseRead_182 : decode cX9_clauseRead 182 = .ok (.invokevirtual 403, 3) := by decide +kernel
theorem dX9_clauseRead_185 : decode cX9_clauseRead 185 = .ok (.iastore, 1) := by decide +kernel
theorem dX9_clauseRead_186 : decode cX9_clauseRead 186 = .ok (.aload_n 0, 1) := by decide +kernel
theorem dX9_clauseRead_187 : decode cX9_clauseRead 187 = .ok (.getfield 377, 3) := by decide +kernel
theorem dX9_clauseRead_190 : decode cX9_clauseRead 190 = .ok (.ifCond .ge 13, 3) := by decide +kernel
theorem dX9_clauseRead_193 : decode cX9_clauseRead 193 = .ok (.aload_n 0, 1) := by decide +kernel
theorem dX9_clauseRead_194 : decode cX9_clauseRead 194 = .ok (.dup, 1) := by decide +kernel
theorem dX9_clauseRead_195 : decode cX9_clauseRead 195 = .ok (.getfield 400, 3) := by decide +kernel
theorem dX9_clauseRead_198 : decode cX9_clauseRead 198 = .ok (.iconst 1, 1) := by decide +kernel
theorem dX9_clauseRead_199 : decode cX9_clauseRead 199 = .ok (.iadd, 1) := by decide +kernel
theorem dX9_clauseRead_200 : decode cX9_clauseRead 200 = .ok (.putfield 400, 3) := by decide +kernel
theorem dX9_clauseRead_203 : decode cX9_clauseRead 203 = .ok (.return_, 1) := by decide +kernel
theorem dX9_done_0 : decode cX9_done 0 = .ok (.aload_n 0, 1) := by decide +kernel
theorem dX9_done_1 : decode cX9_done 1 = .ok (.getfield 117, 3) := by decide +kernel
theorem dX9_done_4 : decode cX9_done 4 = .ok (.iload_n 1, 1) := by decide +kernel
theorem dX9_done_5 : decode cX9_done 5 = .ok (.iaload, 1) := by decide +kernel
theorem dX9_done_6 : decode cX9_done 6 = .ok (.lookupswitch 88 #[(98, 47), (99, 42), (108, 76), (115, 64)], 42) := by decide +kernel
theorem dX9_done_48 : decode cX9_done 48 = .ok (.aload_n 0, 1) := by decide +kernel
theorem dX9_done_49 : decode cX9_done 49 = .ok (.invokevirtual 406, 3) := by decide +kernel
theorem dX9_done_52 : decode cX9_done 52 = .ok (.ireturn, 1) := by decide +kernel
theorem dX9_done_53 : decode cX9_done 53 = .ok (.aload_n 0, 1) := by decide +kernel
theorem dX9_done_54 : decode cX9_done 54 = .ok (.aload_n 0, 1) := by decide +kernel
theorem dX9_done_55 : decode cX9_done 55 = .ok (.getfield 120, 3) := by decide +kernel
theorem dX9_done_58 : decode cX9_done 58 = .ok (.iload_n 1, 1) := by decide +kernel
theorem dX9_done_59 : decode cX9_done 59 = .ok (.iaload, 1) := by decide +kernel
theorem dX9_done_60 : decode cX9_done 60 = .ok (.aload_n 0, 1) := by decide +kernel
theorem dX9_done_61 : decode cX9_done 61 = .ok (.getfield 123, 3) := by decide +kernel
theorem dX9_done_64 : decode cX9_done 64 = .ok (.iload_n 1, 1) := by decide +kernel
theorem dX9_done_65 : decode cX9_done 65 = .ok (.iaload, 1) := by decide +kernel
theorem dX9_done_66 : decode cX9_done 66 = .ok (.invokevirtual 409, 3) := by decide +kernel
theorem dX9_done_69 : decode cX9_done 69 = .ok (.ireturn, 1) := by decide +kernel
theorem dX9_done_70 : decode cX9_done 70 = .ok (.aload_n 0, 1) := by decide +kernel
theorem dX9_done_71 : decode cX9_done 71 = .ok (.iconst 0, 1) := by decide +kernel
theorem dX9_done_72 : decode cX9_done 72 = .ok (.aload_n 0, 1) := by decide +kernel
theorem dX9_done_73 : decode cX9_done 73 = .ok (.getfield 120, 3) := by decide +kernel
theorem dX9_done_76 : decode cX9_done 76 = .ok (.iload_n 1, 1) := by decide +kernel
theorem dX9_done_77 : decode cX9_done 77 = .ok (.iaload, 1) := by decide +kernel
theorem dX9_done_78 : decode cX9_done 78 = .ok (.invokevirtual 412, 3) := by decide +kernel
theorem dX9_done_81 : decode cX9_done 81 = .ok (.ireturn, 1) := by decide +kernel
theorem dX9_done_82 : decode cX9_done 82 = .ok (.aload_n 0, 1) := by decide +kernel
theorem dX9_done_83 : decode cX9_done 83 = .ok (.iconst 1, 1) := by decide +kernel
theorem dX9_done_84 : decode cX9_done 84 = .ok (.aload_n 0, 1) := by decide +kernel
theorem dX9_done_85 : decode cX9_done 85 = .ok (.getfield 120, 3) := by decide +kernel
theorem dX9_done_88 : decode cX9_done 88 = .ok (.iload_n 1, 1) := by decide +kernel
theorem dX9_done_89 : decode cX9_done 89 = .ok (.iaload, 1) := by decide +kernel
theorem dX9_done_90 : decode cX9_done 90 = .ok (.invokevirtual 412, 3) := by decide +kernel
theorem dX9_done_93 : decode cX9_done 93 = .ok (.ireturn, 1) := by decide +kernel
theorem dX9_done_94 : decode cX9_done 94 = .ok (.aload_n 0, 1) := by decide +kernel
theorem dX9_done_95 : decode cX9_done 95 = .ok (.aload_n 0, 1) := by decide +kernel
theorem dX9_done_96 : decode cX9_done 96 = .ok (.getfield 120, 3) := by decide +kernel
theorem dX9_done_99 : decode cX9_done 99 = .ok (.iload_n 1, 1) := by decide +kernel
theorem dX9_done_100 : decode cX9_done 100 = .ok (.iaload, 1) := by decide +kernel
theorem dX9_done_101 : decode cX9_done 101 = .ok (.iconst 1, 1) := by decide +kernel
theorem dX9_done_102 : decode cX9_done 102 = .ok (.invokevirtual 415, 3) := by decide +kernel
theorem dX9_done_105 : decode cX9_done 105 = .ok (.ireturn, 1) := by decide +kernel
theorem dX9_faulty_0 : decode cX9_faulty 0 = .ok (.aload_n 0, 1) := by decide +kernel
theorem dX9_faulty_1 : decode cX9_faulty 1 = .ok (.getfield 397, 3) := by decide +kernel
theorem dX9_faulty_4 : decode cX9_faulty 4 = .ok (.iconst (-1), 1) := by decide +kernel
theorem dX9_faulty_5 : decode cX9_faulty 5 = .ok (.if_icmp .ne 7, 3) := by decide +kernel
theorem dX9_faulty_8 : decode cX9_faulty 8 = .ok (.iconst 1, 1) := by decide +kernel
theorem dX9_faulty_9 : decode cX9_faulty 9 = .ok (.goto 4, 3) := by decide +kernel
theorem dX9_faulty_12 : decode cX9_faulty 12 = .ok (.iconst 2, 1) := by decide +kernel
theorem dX9_faulty_13 : decode cX9_faulty 13 = .ok (.istore_n 1, 1) := by decide +kernel
theorem dX9_faulty_14 : decode cX9_faulty 14 = .ok (.aload_n 0, 1) := by decide +kernel
theorem dX9_faulty_15 : decode cX9_faulty 15 = .ok (.iload_n 1, 1) := by decide +kernel
theorem dX9_faulty_16 : decode cX9_faulty 16 = .ok (.iconst 1, 1) := by decide +kernel
theorem dX9_faulty_17 : decode cX9_faulty 17 = .ok (.iadd, 1) := by decide +kernel
theorem dX9_faulty_18 : decode cX9_faulty 18 = .ok (.putfield 187, 3) := by decide +kernel
theorem dX9_faulty_21 : decode cX9_faulty 21 = .ok (.aload_n 0, 1) := by decide +kernel
theorem dX9_faulty_22 : decode cX9_faulty 22 = .ok (.getfield 47, 3) := by decide +kernel
theorem dX9_faulty_25 : decode cX9_faulty 25 = .ok (.iconst 0, 1) := by decide +kernel
theorem dX9_faulty_26 : decode cX9_faulty 26 = .ok (.iconst 1, 1) := by decide +kernel
theorem dX9_faulty_27 : decode cX9_faulty 27 = .ok (.iastore, 1) := by decide +kernel
theorem dX9_faulty_28 : decode cX9_faulty 28 = .ok (.aload_n 0, 1) := by decide +kernel
theorem dX9_faulty_29 : decode cX9_faulty 29 = .ok (.getfield 50, 3) := by decide +kernel
theorem dX9_faulty_32 : decode cX9_faulty 32 = .ok (.iconst 0, 1) := by decide +kernel
theorem dX9_faulty_33 : decode cX9_faulty 33 = .ok (.aload_n 0, 1) := by decide +kernel
theorem dX9_faulty_34 : decode cX9_faulty 34 = .ok (.getfield 400, 3) := by decide +kernel
theorem dX9_faulty_37 : decode cX9_faulty 37 = .ok (.iastore, 1) := by decide +kernel
theorem dX9_faulty_38 : decode cX9_faulty 38 = .ok (.aload_n 0, 1) := by decide +kernel
theorem dX9_faulty_39 : decode cX9_faulty 39 = .ok (.getfield 47, 3) := by decide +kernel
theorem dX9_faulty_42 : decode cX9_faulty 42 = .ok (.iconst 1, 1) := by decide +kernel
theorem dX9_faulty_43 : decode cX9_faulty 43 = .ok (.iconst 2, 1) := by decide +kernel
theorem dX9_faulty_44 : decode cX9_faulty 44 = .ok (.iastore, 1) := by decide +kernel
theorem dX9_faulty_45 : decode cX9_faulty 45 = .ok (.aload_n 0, 1) := by decide +kernel
theorem dX9_faulty_46 : decode cX9_faulty 46 = .ok (.getfield 50, 3) := by decide +kernel
theorem dX9_faulty_49 : decode cX9_faulty 49 = .ok (.iconst 1, 1) := by decide +kernel
theorem dX9_faulty_50 : decode cX9_faulty 50 = .ok (.aload_n 0, 1) := by decide +kernel
theorem dX9_faulty_51 : decode cX9_faulty 51 = .ok (.getfield 397, 3) := by decide +kernel
theorem dX9_faulty_54 : decode cX9_faulty 54 = .ok (.iastore, 1) := by decide +kernel
theorem dX9_faulty_55 : decode cX9_faulty 55 = .ok (.aload_n 0, 1) := by decide +kernel
theorem dX9_faulty_56 : decode cX9_faulty 56 = .ok (.getfield 47, 3) := by decide +kernel
theorem dX9_faulty_59 : decode cX9_faulty 59 = .ok (.iload_n 1, 1) := by decide +kernel
theorem dX9_faulty_60 : decode cX9_faulty 60 = .ok (.aload_n 0, 1) := by decide +kernel
theorem dX9_faulty_61 : decode cX9_faulty 61 = .ok (.getfield 383, 3) := by decide +kernel
theorem dX9_faulty_64 : decode cX9_faulty 64 = .ok (.ifCond .eq 7, 3) := by decide +kernel
theorem dX9_faulty_67 : decode cX9_faulty 67 = .ok (.iconst 3, 1) := by decide +kernel
theorem dX9_faulty_68 : decode cX9_faulty 68 = .ok (.goto 4, 3) := by decide +kernel
theorem dX9_faulty_71 : decode cX9_faulty 71 = .ok (.iconst 4, 1) := by decide +kernel
theorem dX9_faulty_72 : decode cX9_faulty 72 = .ok (.iastore, 1) := by decide +kernel
theorem dX9_faulty_73 : decode cX9_faulty 73 = .ok (.aload_n 0, 1) := by decide +kernel
theorem dX9_faulty_74 : decode cX9_faulty 74 = .ok (.getfield 50, 3) := by decide +kernel
theorem dX9_faulty_77 : decode cX9_faulty 77 = .ok (.iload_n 1, 1) := by decide +kernel
theorem dX9_faulty_78 : decode cX9_faulty 78 = .ok (.aload_n 0, 1) := by decide +kernel
theorem dX9_faulty_79 : decode cX9_faulty 79 = .ok (.getfield 383, 3) := by decide +kernel
theorem dX9_faulty_82 : decode cX9_faulty 82 = .ok (.ifCond .eq 10, 3) := by decide +kernel
theorem dX9_faulty_85 : decode cX9_faulty 85 = .ok (.aload_n 0, 1) := by decide +kernel
theorem dX9_faulty_86 : decode cX9_faulty 86 = .ok (.getfield 377, 3) := by decide +kernel
theorem dX9_faulty_89 : decode cX9_faulty 89 = .ok (.goto 11, 3) := by decide +kernel
theorem dX9_faulty_92 : decode cX9_faulty 92 = .ok (.aload_n 0, 1) := by decide +kernel
theorem dX9_faulty_93 : decode cX9_faulty 93 = .ok (.aload_n 0, 1) := by decide +kernel
theorem dX9_faulty_94 : decode cX9_faulty 94 = .ok (.getfield 377, 3) := by decide +kernel
theorem dX9_faulty_97 : decode cX9_faulty 97 = .ok (.invokevirtual 387, 3) := by decide +kernel
theorem dX9_faulty_100 : decode cX9_faulty 100 = .ok (.iastore, 1) := by decide +kernel
theorem dX9_faulty_101 : decode cX9_faulty 101 = .ok (.bipush (-10), 2) := by decide +kernel
theorem dX9_faulty_103 : decode cX9_faulty 103 = .ok (.aload_n 0, 1) := by decide +kernel
theorem dX9_faulty_104 : decode cX9_faulty 104 = .ok (.getfield 377, 3) := by decide +kernel
theorem dX9_faulty_107 : decode cX9_faulty 107 = .ok (.isub, 1) := by decide +kernel
theorem dX9_faulty_108 : decode cX9_faulty 108 = .ok (.ireturn, 1) := by decide +kernel
theorem dX9_read_0 : decode cX9_read 0 = .ok (.aload_n 0, 1) := by decide +kernel
theorem dX9_read_1 : decode cX9_read 1 = .ok (.iconst 0, 1) := by decide +kernel
theorem dX9_read_2 : decode cX9_read 2 = .ok (.putfield 380, 3) := by decide +kernel
theorem dX9_read_5 : decode cX9_read 5 = .ok (.aload_n 0, 1) := by decide +kernel
theorem dX9_read_6 : decode cX9_read 6 = .ok (.iconst (-1), 1) := by decide +kernel
theorem dX9_read_7 : decode cX9_read 7 = .ok (.putfield 377, 3) := by decide +kernel
theorem dX9_read_10 : decode cX9_read 10 = .ok (.aload_n 0, 1) := by decide +kernel
theorem dX9_read_11 : decode cX9_read 11 = .ok (.iconst 0, 1) := by decide +kernel
theorem dX9_read_12 : decode cX9_read 12 = .ok (.putfield 400, 3) := by decide +kernel
theorem dX9_read_15 : decode cX9_read 15 = .ok (.aload_n 0, 1) := by decide +kernel
theorem dX9_read_16 : decode cX9_read 16 = .ok (.invokevirtual 419, 3) := by decide +kernel
theorem dX9_read_19 : decode cX9_read 19 = .ok (.aload_n 0, 1) := by decide +kernel
theorem dX9_read_20 : decode cX9_read 20 = .ok (.getfield 377, 3) := by decide +kernel
theorem dX9_read_23 : decode cX9_read 23 = .ok (.ifCond .ge 67, 3) := by decide +kernel
theorem dX9_read_26 : decode cX9_read 26 = .ok (.aload_n 0, 1) := by decide +kernel
theorem dX9_read_27 : decode cX9_read 27 = .ok (.getfield 380, 3) := by decide +kernel
theorem dX9_read_30 : decode cX9_read 30 = .ok (.aload_n 0, 1) := by decide +kernel
theorem dX9_read_31 : decode cX9_read 31 = .ok (.getfield 374, 3) := by decide +kernel
theorem dX9_read_34 : decode cX9_read 34 = .ok (.if_icmp .ge 56, 3) := by decide +kernel
theorem dX9_read_37 : decode cX9_read 37 = .ok (.aload_n 0, 1) := by decide +kernel
theorem dX9_read_38 : decode cX9_read 38 = .ok (.getfield 114, 3) := by decide +kernel
theorem dX9_read_41 : decode cX9_read 41 = .ok (.aload_n 0, 1) := by decide +kernel
theorem dX9_read_42 : decode cX9_read 42 = .ok (.getfield 380, 3) := by decide +kernel
theorem dX9_read_45 : decode cX9_read 45 = .ok (.iaload, 1) := by decide +kernel
theorem dX9_read_46 : decode cX9_read 46 = .ok (.bipush 59, 2) := by decide +kernel
theorem dX9_read_48 : decode cX9_read 48 = .ok (.if_icmp .ne 12, 3) := by decide +kernel
theorem dX9_read_51 : decode cX9_read 51 = .ok (.aload_n 0, 1) := by decide +kernel
theorem dX9_read_52 : decode cX9_read 52 = .ok (.getfield 400, 3) := by decide +kernel
theorem dX9_read_55 : decode cX9_read 55 = .ok (.bipush 12, 2) := by decide +kernel
theorem dX9_read_57 : decode cX9_read 57 = .ok (.if_icmp .ne 16, 3) := by decide +kernel
theorem dX9_read_60 : decode cX9_read 60 = .ok (.aload_n 0, 1) := by decide +kernel
theorem dX9_read_61 : decode cX9_read 61 = .ok (.iconst (-1), 1) := by decide +kernel
theorem dX9_read_62 : decode cX9_read 62 = .ok (.putfield 397, 3) := by decide +kernel
theorem dX9_read_65 : decode cX9_read 65 = .ok (.aload_n 0, 1) := by decide +kernel
theorem dX9_read_66 : decode cX9_read 66 = .ok (.iconst 0, 1) := by decide +kernel
theorem dX9_read_67 : decode cX9_read 67 = .ok (.invokevirtual 394, 3) := by decide +kernel
theorem dX9_read_70 : decode cX9_read 70 = .ok (.goto (-51), 3) := by decide +kernel
theorem dX9_read_73 : decode cX9_read 73 = .ok (.aload_n 0, 1) := by decide +kernel
theorem dX9_read_74 : decode cX9_read 74 = .ok (.dup, 1) := by decide +kernel
theorem dX9_read_75 : decode cX9_read 75 = .ok (.getfield 380, 3) := by decide +kernel
theorem dX9_read_78 : decode cX9_read 78 = .ok (.iconst 1, 1) := by decide +kernel
theorem dX9_read_79 : decode cX9_read 79 = .ok (.iadd, 1) := by decide +kernel
theorem dX9_read_80 : decode cX9_read 80 = .ok (.putfield 380, 3) := by decide +kernel
theorem dX9_read_83 : decode cX9_read 83 = .ok (.aload_n 0, 1) := by decide +kernel
theorem dX9_read_84 : decode cX9_read 84 = .ok (.invokevirtual 419, 3) := by decide +kernel
theorem dX9_read_87 : decode cX9_read 87 = .ok (.goto (-68), 3) := by decide +kernel
theorem dX9_read_90 : decode cX9_read 90 = .ok (.aload_n 0, 1) := by decide +kernel
theorem dX9_read_91 : decode cX9_read 91 = .ok (.getfield 377, 3) := by decide +kernel
theorem dX9_read_94 : decode cX9_read 94 = .ok (.ifCond .ge 7, 3) := by decide +kernel
theorem dX9_read_97 : decode cX9_read 97 = .ok (.iconst 0, 1) := by decide +kernel
theorem dX9_read_98 : decode cX9_read 98 = .ok (.goto 7, 3) := by decide +kernel
theorem dX9_read_101 : decode cX9_read 101 = .ok (.aload_n 0, 1) := by decide +kernel
theorem dX9_read_102 : decode cX9_read 102 = .ok (.invokevirtual 422, 3) := by decide +kernel
theorem dX9_read_105 : decode cX9_read 105 = .ok (.istore_n 1, 1) := by decide +kernel
theorem dX9_read_106 : decode cX9_read 106 = .ok (.aload_n 0, 1) := by decide +kernel
theorem dX9_read_107 : decode cX9_read 107 = .ok (.iconst 0, 1) := by decide +kernel
theorem dX9_read_108 : decode cX9_read 108 = .ok (.putfield 374, 3) := by decide +kernel
theorem dX9_read_111 : decode cX9_read 111 = .ok (.iload_n 1, 1) := by decide +kernel
theorem dX9_read_112 : decode cX9_read 112 = .ok (.ifCond .eq 5, 3) := by decide +kernel
theorem dX9_read_115 : decode cX9_read 115 = .ok (.iload_n 1, 1) := by decide +kernel
theorem dX9_read_116 : decode cX9_read 116 = .ok (.ireturn, 1) := by decide +kernel
theorem dX9_read_117 : decode cX9_read 117 = .ok (.iconst 0, 1) := by decide +kernel
theorem dX9_read_118 : decode cX9_read 118 = .ok (.istore_n 2, 1) := by decide +kernel
theorem dX9_read_119 : decode cX9_read 119 = .ok (.iconst 0, 1) := by decide +kernel
theorem dX9_read_120 : decode cX9_read 120 = .ok (.istore_n 3, 1) := by decide +kernel
theorem dX9_read_121 : decode cX9_read 121 = .ok (.iload_n 3, 1) := by decide +kernel
theorem dX9_read_122 : decode cX9_read 122 = .ok (.aload_n 0, 1) := by decide +kernel
theorem dX9_read_123 : decode cX9_read 123 = .ok (.getfield 400, 3) := by decide +kernel
theorem dX9_read_126 : decode cX9_read 126 = .ok (.if_icmp .ge 20, 3) := by decide +kernel
theorem dX9_read_129 : decode cX9_read 129 = .ok (.aload_n 0, 1) := by decide +kernel
theorem dX9_read_130 : decode cX9_read 130 = .ok (.iload_n 3, 1) := by decide +kernel
theorem dX9_read_131 : decode cX9_read 131 = .ok (.invokevirtual 425, 3) := by decide +kernel
theorem dX9_read_134 : decode cX9_read 134 = .ok (.ifCond .lt 6, 3) := by decide +kernel
theorem dX9_read_137 : decode cX9_read 137 = .ok (.iinc 2 1, 3) := by decide +kernel
theorem dX9_read_140 : decode cX9_read 140 = .ok (.iinc 3 1, 3) := by decide +kernel
theorem dX9_read_143 : decode cX9_read 143 = .ok (.goto (-22), 3) := by decide +kernel
theorem dX9_read_146 : decode cX9_read 146 = .ok (.iload_n 2, 1) := by decide +kernel
theorem dX9_read_147 : decode cX9_read 147 = .ok (.ireturn, 1) := by decide +kernel
theorem dX9_cause_0 : decode cX9_cause 0 = .ok (.iload_n 1, 1) := by decide +kernel
theorem dX9_cause_1 : decode cX9_cause 1 = .ok (.ifCond .lt 13, 3) := by decide +kernel
theorem dX9_cause_4 : decode cX9_cause 4 = .ok (.iload_n 2, 1) := by decide +kernel
theorem dX9_cause_5 : decode cX9_cause 5 = .ok (.i2l, 1) := by decide +kernel
theorem dX9_cause_6 : decode cX9_cause 6 = .ok (.lconst 0, 1) := by decide +kernel
theorem dX9_cause_7 : decode cX9_cause 7 = .ok (.lconst 1, 1) := by decide +kernel
theorem dX9_cause_8 : decode cX9_cause 8 = .ok (.invokestatic 170, 3) := by decide +kernel
theorem dX9_cause_11 : decode cX9_cause 11 = .ok (.ifCond .ne 5, 3) := by decide +kernel
theorem dX9_cause_14 : decode cX9_cause 14 = .ok (.iconst (-1), 1) := by decide +kernel
theorem dX9_cause_15 : decode cX9_cause 15 = .ok (.ireturn, 1) := by decide +kernel
theorem dX9_cause_16 : decode cX9_cause 16 = .ok (.iload_n 1, 1) := by decide +kernel
theorem dX9_cause_17 : decode cX9_cause 17 = .ok (.aload_n 0, 1) := by decide +kernel
theorem dX9_cause_18 : decode cX9_cause 18 = .ok (.getfield 187, 3) := by decide +kernel
theorem dX9_cause_21 : decode cX9_cause 21 = .ok (.if_icmp .lt 6, 3) := by decide +kernel
theorem dX9_cause_24 : decode cX9_cause 24 = .ok (.bipush (-5), 2) := by decide +kernel
theorem dX9_cause_26 : decode cX9_cause 26 = .ok (.ireturn, 1) := by decide +kernel
theorem dX9_cause_27 : decode cX9_cause 27 = .ok (.iload_n 2, 1) := by decide +kernel
theorem dX9_cause_28 : decode cX9_cause 28 = .ok (.ifCond .ne 12, 3) := by decide +kernel
theorem dX9_cause_31 : decode cX9_cause 31 = .ok (.aload_n 0, 1) := by decide +kernel
theorem dX9_cause_32 : decode cX9_cause 32 = .ok (.getfield 47, 3) := by decide +kernel
theorem dX9_cause_35 : decode cX9_cause 35 = .ok (.iload_n 1, 1) := by decide +kernel
theorem dX9_cause_36 : decode cX9_cause 36 = .ok (.iaload, 1) := by decide +kernel
theorem dX9_cause_37 : decode cX9_cause 37 = .ok (.goto 9, 3) := by decide +kernel
theorem dX9_cause_40 : decode cX9_cause 40 = .ok (.aload_n 0, 1) := by decide +kernel
theorem dX9_cause_41 : decode cX9_cause 41 = .ok (.getfield 50, 3) := by decide +kernel
theorem dX9_cause_44 : decode cX9_cause 44 = .ok (.iload_n 1, 1) := by decide +kernel
theorem dX9_cause_45 : decode cX9_cause 45 = .ok (.iaload, 1) := by decide +kernel
theorem dX9_cause_46 : decode cX9_cause 46 = .ok (.ireturn, 1) := by decide +kernel
theorem dX9_judge_0 : decode cX9_judge 0 = .ok (.aload_n 0, 1) := by decide +kernel
theorem dX9_judge_1 : decode cX9_judge 1 = .ok (.iload_n 1, 1) := by decide +kernel
theorem dX9_judge_2 : decode cX9_judge 2 = .ok (.invokevirtual 323, 3) := by decide +kernel
theorem dX9_judge_5 : decode cX9_judge 5 = .ok (.ifCond .eq 10, 3) := by decide +kernel
theorem dX9_judge_8 : decode cX9_judge 8 = .ok (.iload_n 2, 1) := by decide +kernel
theorem dX9_judge_9 : decode cX9_judge 9 = .ok (.invokestatic 428, 3) := by decide +kernel
theorem dX9_judge_12 : decode cX9_judge 12 = .ok (.ifCond .ne 5, 3) := by decide +kernel
theorem dX9_judge_15 : decode cX9_judge 15 = .ok (.iconst (-1), 1) := by decide +kernel
theorem dX9_judge_16 : decode cX9_judge 16 = .ok (.ireturn, 1) := by decide +kernel
theorem dX9_judge_17 : decode cX9_judge 17 = .ok (.aload_n 0, 1) := by decide +kernel
theorem dX9_judge_18 : decode cX9_judge 18 = .ok (.getfield 153, 3) := by decide +kernel
theorem dX9_judge_21 : decode cX9_judge 21 = .ok (.iload_n 2, 1) := by decide +kernel
theorem dX9_judge_22 : decode cX9_judge 22 = .ok (.iaload, 1) := by decide +kernel
theorem dX9_judge_23 : decode cX9_judge 23 = .ok (.ifCond .lt 16, 3) := by decide +kernel
theorem dX9_judge_26 : decode cX9_judge 26 = .ok (.aload_n 0, 1) := by decide +kernel
theorem dX9_judge_27 : decode cX9_judge 27 = .ok (.getfield 153, 3) := by decide +kernel
theorem dX9_judge_30 : decode cX9_judge 30 = .ok (.iload_n 2, 1) := by decide +kernel
theorem dX9_judge_31 : decode cX9_judge 31 = .ok (.iaload, 1) := by decide +kernel
theorem dX9_judge_32 : decode cX9_judge 32 = .ok (.iconst 3, 1) := by decide +kernel
theorem dX9_judge_33 : decode cX9_judge 33 = .ok (.if_icmp .eq 6, 3) := by decide +kernel
theorem dX9_judge_36 : decode cX9_judge 36 = .ok (.bipush (-12), 2) := by decide +kernel
theorem dX9_judge_38 : decode cX9_judge 38 = .ok (.ireturn, 1) := by decide +kernel
theorem dX9_judge_39 : decode cX9_judge 39 = .ok (.aload_n 0, 1) := by decide +kernel
theorem dX9_judge_40 : decode cX9_judge 40 = .ok (.getfield 153, 3) := by decide +kernel
theorem dX9_judge_43 : decode cX9_judge 43 = .ok (.iload_n 2, 1) := by decide +kernel
theorem dX9_judge_44 : decode cX9_judge 44 = .ok (.iaload, 1) := by decide +kernel
theorem dX9_judge_45 : decode cX9_judge 45 = .ok (.ifCond .lt 7, 3) := by decide +kernel
theorem dX9_judge_48 : decode cX9_judge 48 = .ok (.iload_n 3, 1) := by decide +kernel
theorem dX9_judge_49 : decode cX9_judge 49 = .ok (.ifCond .ge 6, 3) := by decide +kernel
theorem dX9_judge_52 : decode cX9_judge 52 = .ok (.bipush 100, 2) := by decide +kernel
theorem dX9_judge_54 : decode cX9_judge 54 = .ok (.ireturn, 1) := by decide +kernel
theorem dX9_judge_55 : decode cX9_judge 55 = .ok (.iconst 0, 1) := by decide +kernel
theorem dX9_judge_56 : decode cX9_judge 56 = .ok (.istore 4, 2) := by decide +kernel
theorem dX9_judge_58 : decode cX9_judge 58 = .ok (.iload 4, 2) := by decide +kernel
theorem dX9_judge_60 : decode cX9_judge 60 = .ok (.aload_n 0, 1) := by decide +kernel
theorem dX9_judge_61 : decode cX9_judge 61 = .ok (.getfield 167, 3) := by decide +kernel
theorem dX9_judge_64 : decode cX9_judge 64 = .ok (.if_icmp .ge 58, 3) := by decide +kernel
theorem dX9_judge_67 : decode cX9_judge 67 = .ok (.iload_n 3, 1) := by decide +kernel
theorem dX9_judge_68 : decode cX9_judge 68 = .ok (.aload_n 0, 1) := by decide +kernel
theorem dX9_judge_69 : decode cX9_judge 69 = .ok (.getfield 156, 3) := by decide +kernel
theorem dX9_judge_72 : decode cX9_judge 72 = .ok (.iload_n 2, 1) := by decide +kernel
theorem dX9_judge_73 : decode cX9_judge 73 = .ok (.iaload, 1) := by decide +kernel
theorem dX9_judge_74 : decode cX9_judge 74 = .ok (.iload 4, 2) := by decide +kernel
theorem dX9_judge_76 : decode cX9_judge 76 = .ok (.isub, 1) := by decide +kernel
theorem dX9_judge_77 : decode cX9_judge 77 = .ok (.if_icmp .lt 9, 3) := by decide +kernel
theorem dX9_judge_80 : decode cX9_judge 80 = .ok (.bipush 100, 2) := by decide +kernel
theorem dX9_judge_82 : decode cX9_judge 82 = .ok (.iload 4, 2) := by decide +kernel
theorem dX9_judge_84 : decode cX9_judge 84 = .ok (.iadd, 1) := by decide +kernel
theorem dX9_judge_85 : decode cX9_judge 85 = .ok (.ireturn, 1) := by decide +kernel
theorem dX9_judge_86 : decode cX9_judge 86 = .ok (.aload_n 0, 1) := by decide +kernel
theorem dX9_judge_87 : decode cX9_judge 87 = .ok (.getfield 161, 3) := by decide +kernel
theorem dX9_judge_90 : decode cX9_judge 90 = .ok (.iload_n 2, 1) := by decide +kernel
theorem dX9_judge_91 : decode cX9_judge 91 = .ok (.aaload, 1) := by decide +kernel
theorem dX9_judge_92 : decode cX9_judge 92 = .ok (.iload_n 3, 1) := by decide +kernel
theorem dX9_judge_93 : decode cX9_judge 93 = .ok (.iload 4, 2) := by decide +kernel
theorem dX9_judge_95 : decode cX9_judge 95 = .ok (.iadd, 1) := by decide +kernel
theorem dX9_judge_96 : decode cX9_judge 96 = .ok (.laload, 1) := by decide +kernel
theorem dX9_judge_97 : decode cX9_judge 97 = .ok (.aload_n 0, 1) := by decide +kernel
theorem dX9_judge_98 : decode cX9_judge 98 = .ok (.getfield 78, 3) := by decide +kernel
theorem dX9_judge_101 : decode cX9_judge 101 = .ok (.bipush 8, 2) := by decide +kernel
theorem dX9_judge_103 : decode cX9_judge 103 = .ok (.iload_n 1, 1) := by decide +kernel
theorem dX9_judge_104 : decode cX9_judge 104 = .ok (.imul, 1) := by decide +kernel
theorem dX9_judge_105 : decode cX9_judge 105 = .ok (.iload 4, 2) := by decide +kernel
theorem dX9_judge_107 : decode cX9_judge 107 = .ok (.iadd, 1) := by decide +kernel
theorem dX9_judge_108 : decode cX9_judge 108 = .ok (.laload, 1) := by decide +kernel
theorem dX9_judge_109 : decode cX9_judge 109 = .ok (.lcmp, 1) := by decide +kernel
theorem dX9_judge_110 : decode cX9_judge 110 = .ok (.ifCond .eq 6, 3) := by decide +kernel
theorem dX9_judge_113 : decode cX9_judge 113 = .ok (.iload 4, 2) := by decide +kernel
theorem dX9_judge_115 : decode cX9_judge 115 = .ok (.ireturn, 1) := by decide +kernel
theorem dX9_judge_116 : decode cX9_judge 116 = .ok (.iinc 4 1, 3) := by decide +kernel
theorem dX9_judge_119 : decode cX9_judge 119 = .ok (.goto (-61), 3) := by decide +kernel
theorem dX9_judge_122 : decode cX9_judge 122 = .ok (.bipush (-5), 2) := by decide +kernel
theorem dX9_judge_124 : decode cX9_judge 124 = .ok (.ireturn, 1) := by decide +kernel
theorem dX9_image_0 : decode cX9_image 0 = .ok (.aload_n 0, 1) := by decide +kernel
theorem dX9_image_1 : decode cX9_image 1 = .ok (.iconst 1, 1) := by decide +kernel
theorem dX9_image_2 : decode cX9_image 2 = .ok (.putfield 431, 3) := by decide +kernel
theorem dX9_image_5 : decode cX9_image 5 = .ok (.aload_n 0, 1) := by decide +kernel
theorem dX9_image_6 : decode cX9_image 6 = .ok (.getfield 126, 3) := by decide +kernel
theorem dX9_image_9 : decode cX9_image 9 = .ok (.iconst 0, 1) := by decide +kernel
theorem dX9_image_10 : decode cX9_image 10 = .ok (.aload_n 0, 1) := by decide +kernel
theorem dX9_image_11 : decode cX9_image 11 = .ok (.getfield 167, 3) := by decide +kernel
theorem dX9_image_14 : decode cX9_image 14 = .ok (.iastore, 1) := by decide +kernel
theorem dX9_image_15 : decode cX9_image 15 = .ok (.aload_n 0, 1) := by decide +kernel
theorem dX9_image_16 : decode cX9_image 16 = .ok (.getfield 126, 3) := by decide +kernel
theorem dX9_image_19 : decode cX9_image 19 = .ok (.iconst 1, 1) := by decide +kernel
theorem dX9_image_20 : decode cX9_image 20 = .ok (.aload_n 0, 1) := by decide +kernel
theorem dX9_image_21 : decode cX9_image 21 = .ok (.getfield 174, 3) := by decide +kernel
theorem dX9_image_24 : decode cX9_image 24 = .ok (.iastore, 1) := by decide +kernel
theorem dX9_image_25 : decode cX9_image 25 = .ok (.aload_n 0, 1) := by decide +kernel
theorem dX9_image_26 : decode cX9_image 26 = .ok (.getfield 126, 3) := by decide +kernel
theorem dX9_image_29 : decode cX9_image 29 = .ok (.iconst 2, 1) := by decide +kernel
theorem dX9_image_30 : decode cX9_image 30 = .ok (.aload_n 0, 1) := by decide +kernel
theorem dX9_image_31 : decode cX9_image 31 = .ok (.getfield 25, 3) := by decide +kernel
theorem dX9_image_34 : decode cX9_image 34 = .ok (.iastore, 1) := by decide +kernel
theorem dX9_image_35 : decode cX9_image 35 = .ok (.aload_n 0, 1) := by decide +kernel
theorem dX9_image_36 : decode cX9_image 36 = .ok (.getfield 126, 3) := by decide +kernel
theorem dX9_image_39 : decode cX9_image 39 = .ok (.iconst 3, 1) := by decide +kernel
theorem dX9_image_40 : decode cX9_image 40 = .ok (.aload_n 0, 1) := by decide +kernel
theorem dX9_image_41 : decode cX9_image 41 = .ok (.getfield 29, 3) := by decide +kernel
theorem dX9_image_44 : decode cX9_image 44 = .ok (.iastore, 1) := by decide +kernel
theorem dX9_image_45 : decode cX9_image 45 = .ok (.aload_n 0, 1) := by decide +kernel
theorem dX9_image_46 : decode cX9_image 46 = .ok (.getfield 126, 3) := by decide +kernel
theorem dX9_image_49 : decode cX9_image 49 = .ok (.iconst 4, 1) := by decide +kernel
theorem dX9_image_50 : decode cX9_image 50 = .ok (.aload_n 0, 1) := by decide +kernel
theorem dX9_image_51 : decode cX9_image 51 = .ok (.getfield 32, 3) := by decide +kernel
theorem dX9_image_54 : decode cX9_image 54 = .ok (.iastore, 1) := by decide +kernel
theorem dX9_image_55 : decode cX9_image 55 = .ok (.aload_n 0, 1) := by decide +kernel
theorem dX9_image_56 : decode cX9_image 56 = .ok (.getfield 126, 3) := by decide +kernel
theorem dX9_image_59 : decode cX9_image 59 = .ok (.iconst 5, 1) := by decide +kernel
theorem dX9_image_60 : decode cX9_image 60 = .ok (.aload_n 0, 1) := by decide +kernel
theorem dX9_image_61 : decode cX9_image 61 = .ok (.getfield 360, 3) := by decide +kernel
theorem dX9_image_64 : decode cX9_image 64 = .ok (.iastore, 1) := by decide +kernel
theorem dX9_image_65 : decode cX9_image 65 = .ok (.aload_n 0, 1) := by decide +kernel
theorem dX9_image_66 : decode cX9_image 66 = .ok (.getfield 126, 3) := by decide +kernel
theorem dX9_image_69 : decode cX9_image 69 = .ok (.bipush 6, 2) := by decide +kernel
theorem dX9_image_71 : decode cX9_image 71 = .ok (.aload_n 0, 1) := by decide +kernel
theorem dX9_image_72 : decode cX9_image 72 = .ok (.getfield 366, 3) := by decide +kernel
theorem dX9_image_75 : decode cX9_image 75 = .ok (.iastore, 1) := by decide +kernel
theorem dX9_image_76 : decode cX9_image 76 = .ok (.aload_n 0, 1) := by decide +kernel
theorem dX9_image_77 : decode cX9_image 77 = .ok (.getfield 15, 3) := by decide +kernel
theorem dX9_image_80 : decode cX9_image 80 = .ok (.iconst 0, 1) := by decide +kernel
theorem dX9_image_81 : decode cX9_image 81 = .ok (.aload_n 0, 1) := by decide +kernel
theorem dX9_image_82 : decode cX9_image 82 = .ok (.getfield 129, 3) := by decide +kernel
theorem dX9_image_85 : decode cX9_image 85 = .ok (.iconst 0, 1) := by decide +kernel
theorem dX9_image_86 : decode cX9_image 86 = .ok (.bipush 8, 2) := by decide +kernel
theorem dX9_image_88 : decode cX9_image 88 = .ok (.invokestatic 332, 3) := by decide +kernel
theorem dX9_image_91 : decode cX9_image 91 = .ok (.aload_n 0, 1) := by decide +kernel
theorem dX9_image_92 : decode cX9_image 92 = .ok (.getfield 19, 3) := by decide +kernel
theorem dX9_image_95 : decode cX9_image 95 = .ok (.iconst 0, 1) := by decide +kernel
theorem dX9_image_96 : decode cX9_image 96 = .ok (.aload_n 0, 1) := by decide +kernel
theorem dX9_image_97 : decode cX9_image 97 = .ok (.getfield 132, 3) := by decide +kernel
theorem dX9_image_100 : decode cX9_image 100 = .ok (.iconst 0, 1) := by decide +kernel
theorem dX9_image_101 : decode cX9_image 101 = .ok (.bipush 24, 2) := by decide +kernel
theorem dX9_image_103 : decode cX9_image 103 = .ok (.invokestatic 332, 3) := by decide +kernel
theorem dX9_image_106 : decode cX9_image 106 = .ok (.aload_n 0, 1) := by decide +kernel
theorem dX9_image_107 : decode cX9_image 107 = .ok (.getfield 22, 3) := by decide +kernel
theorem dX9_image_110 : decode cX9_image 110 = .ok (.iconst 0, 1) := by decide +kernel
theorem dX9_image_111 : decode cX9_image 111 = .ok (.aload_n 0, 1) := by decide +kernel
theorem dX9_image_112 : decode cX9_image 112 = .ok (.getfield 135, 3) := by decide +kernel
theorem dX9_image_115 : decode cX9_image 115 = .ok (.iconst 0, 1) := by decide +kernel
theorem dX9_image_116 : decode cX9_image 116 = .ok (.bipush 24, 2) := by decide +kernel
theorem dX9_image_118 : decode cX9_image 118 = .ok (.invokestatic 332, 3) := by decide +kernel
theorem dX9_image_121 : decode cX9_image 121 = .ok (.aload_n 0, 1) := by decide +kernel
theorem dX9_image_122 : decode cX9_image 122 = .ok (.getfield 35, 3) := by decide +kernel
theorem dX9_image_125 : decode cX9_image 125 = .ok (.iconst 0, 1) := by decide +kernel
theorem dX9_image_126 : decode cX9_image 126 = .ok (.aload_n 0, 1) := by decide +kernel
theorem dX9_image_127 : decode cX9_image 127 = .ok (.getfield 138, 3) := by decide +kernel
theorem dX9_image_130 : decode cX9_image 130 = .ok (.iconst 0, 1) := by decide +kernel
theorem dX9_image_131 : decode cX9_image 131 = .ok (.iconst 5, 1) := by decide +kernel
theorem dX9_image_132 : decode cX9_image 132 = .ok (.invokestatic 332, 3) := by decide +kernel
theorem dX9_image_135 : decode cX9_image 135 = .ok (.aload_n 0, 1) := by decide +kernel
theorem dX9_image_136 : decode cX9_image 136 = .ok (.getfield 38, 3) := by decide +kernel
theorem dX9_image_139 : decode cX9_image 139 = .ok (.iconst 0, 1) := by decide +kernel
theorem dX9_image_140 : decode cX9_image 140 = .ok (.aload_n 0, 1) := by decide +kernel
theorem dX9_image_141 : decode cX9_image 141 = .ok (.getfield 141, 3) := by decide +kernel
theorem dX9_image_144 : decode cX9_image 144 = .ok (.iconst 0, 1) := by decide +kernel
theorem dX9_image_145 : decode cX9_image 145 = .ok (.bipush 8, 2) := by decide +kernel
theorem dX9_image_147 : decode cX9_image 147 = .ok (.invokestatic 332, 3) := by decide +kernel
theorem dX9_image_150 : decode cX9_image 150 = .ok (.aload_n 0, 1) := by decide +kernel
theorem dX9_image_151 : decode cX9_image 151 = .ok (.getfield 41, 3) := by decide +kernel
theorem dX9_image_154 : decode cX9_image 154 = .ok (.iconst 0, 1) := by decide +kernel
theorem dX9_image_155 : decode cX9_image 155 = .ok (.aload_n 0, 1) := by decide +kernel
theorem dX9_image_156 : decode cX9_image 156 = .ok (.getfield 144, 3) := by decide +kernel
theorem dX9_image_159 : decode cX9_image 159 = .ok (.iconst 0, 1) := by decide +kernel
theorem dX9_image_160 : decode cX9_image 160 = .ok (.bipush 8, 2) := by decide +kernel
theorem dX9_image_162 : decode cX9_image 162 = .ok (.invokestatic 332, 3) := by decide +kernel
theorem dX9_image_165 : decode cX9_image 165 = .ok (.aload_n 0, 1) := by decide +kernel
theorem dX9_image_166 : decode cX9_image 166 = .ok (.getfield 11, 3) := by decide +kernel
theorem dX9_image_169 : decode cX9_image 169 = .ok (.iconst 0, 1) := by decide +kernel
theorem dX9_image_170 : decode cX9_image 170 = .ok (.aload_n 0, 1) := by decide +kernel
theorem dX9_image_171 : decode cX9_image 171 = .ok (.getfield 147, 3) := by decide +kernel
theorem dX9_image_174 : decode cX9_image 174 = .ok (.iconst 0, 1) := by decide +kernel
theorem dX9_image_175 : decode cX9_image 175 = .ok (.bipush 8, 2) := by decide +kernel
theorem dX9_image_177 : decode cX9_image 177 = .ok (.invokestatic 332, 3) := by decide +kernel
theorem dX9_image_180 : decode cX9_image 180 = .ok (.aload_n 0, 1) := by decide +kernel
theorem dX9_image_181 : decode cX9_image 181 = .ok (.getfield 44, 3) := by decide +kernel
theorem dX9_image_184 : decode cX9_image 184 = .ok (.iconst 0, 1) := by decide +kernel
theorem dX9_image_185 : decode cX9_image 185 = .ok (.aload_n 0, 1) := by decide +kernel
theorem dX9_image_186 : decode cX9_image 186 = .ok (.getfield 150, 3) := by decide +kernel
theorem dX9_image_189 : decode cX9_image 189 = .ok (.iconst 0, 1) := by decide +kernel
theorem dX9_image_190 : decode cX9_image 190 = .ok (.iconst 5, 1) := by decide +kernel
theorem dX9_image_191 : decode cX9_image 191 = .ok (.invokestatic 332, 3) := by decide +kernel
theorem dX9_image_194 : decode cX9_image 194 = .ok (.aload_n 0, 1) := by decide +kernel
theorem dX9_image_195 : decode cX9_image 195 = .ok (.getfield 174, 3) := by decide +kernel
theorem dX9_image_198 : decode cX9_image 198 = .ok (.ireturn, 1) := by decide +kernel
theorem dX9_undo_0 : decode cX9_undo 0 = .ok (.aload_n 0, 1) := by decide +kernel
theorem dX9_undo_1 : decode cX9_undo 1 = .ok (.getfield 431, 3) := by decide +kernel
theorem dX9_undo_4 : decode cX9_undo 4 = .ok (.ifCond .ne 6, 3) := by decide +kernel
theorem dX9_undo_7 : decode cX9_undo 7 = .ok (.bipush (-3), 2) := by decide +kernel
theorem dX9_undo_9 : decode cX9_undo 9 = .ok (.ireturn, 1) := by decide +kernel
theorem dX9_undo_10 : decode cX9_undo 10 = .ok (.aload_n 0, 1) := by decide +kernel
theorem dX9_undo_11 : decode cX9_undo 11 = .ok (.aload_n 0, 1) := by decide +kernel
theorem dX9_undo_12 : decode cX9_undo 12 = .ok (.getfield 126, 3) := by decide +kernel
theorem dX9_undo_15 : decode cX9_undo 15 = .ok (.iconst 0, 1) := by decide +kernel
theorem dX9_undo_16 : decode cX9_undo 16 = .ok (.iaload, 1) := by decide +kernel
theorem dX9_undo_17 : decode cX9_undo 17 = .ok (.putfield 167, 3) := by decide +kernel
theorem dX9_undo_20 : decode cX9_undo 20 = .ok (.aload_n 0, 1) := by decide +kernel
theorem dX9_undo_21 : decode cX9_undo 21 = .ok (.aload_n 0, 1) := by decide +kernel
theorem dX9_undo_22 : decode cX9_undo 22 = .ok (.getfield 126, 3) := by decide +kernel
theorem dX9_undo_25 : decode cX9_undo 25 = .ok (.iconst 1, 1) := by decide +kernel
theorem dX9_undo_26 : decode cX9_undo 26 = .ok (.iaload, 1) := by decide +kernel
theorem dX9_undo_27 : decode cX9_undo 27 = .ok (.putfield 174, 3) := by decide +kernel
theorem dX9_undo_30 : decode cX9_undo 30 = .ok (.aload_n 0, 1) := by decide +kernel
theorem dX9_undo_31 : decode cX9_undo 31 = .ok (.aload_n 0, 1) := by decide +kernel
theorem dX9_undo_32 : decode cX9_undo 32 = .ok (.getfield 126, 3) := by decide +kernel
theorem dX9_undo_35 : decode cX9_undo 35 = .ok (.iconst 2, 1) := by decide +kernel
theorem dX9_undo_36 : decode cX9_undo 36 = .ok (.iaload, 1) := by decide +kernel
theorem dX9_undo_37 : decode cX9_undo 37 = .ok (.putfield 25, 3) := by decide +kernel
theorem dX9_undo_40 : decode cX9_undo 40 = .ok (.aload_n 0, 1) := by decide +kernel
theorem dX9_undo_41 : decode cX9_undo 41 = .ok (.aload_n 0, 1) := by decide +kernel
theorem dX9_undo_42 : decode cX9_undo 42 = .ok (.getfield 126, 3) := by decide +kernel
theorem dX9_undo_45 : decode cX9_undo 45 = .ok (.iconst 3, 1) := by decide +kernel
theorem dX9_undo_46 : decode cX9_undo 46 = .ok (.iaload, 1) := by decide +kernel
theorem dX9_undo_47 : decode cX9_undo 47 = .ok (.putfield 29, 3) := by decide +kernel
theorem dX9_undo_50 : decode cX9_undo 50 = .ok (.aload_n 0, 1) := by decide +kernel
theorem dX9_undo_51 : decode cX9_undo 51 = .ok (.aload_n 0, 1) := by decide +kernel
theorem dX9_undo_52 : decode cX9_undo 52 = .ok (.getfield 126, 3) := by decide +kernel
theorem dX9_undo_55 : decode cX9_undo 55 = .ok (.iconst 4, 1) := by decide +kernel
theorem dX9_undo_56 : decode cX9_undo 56 = .ok (.iaload, 1) := by decide +kernel
theorem dX9_undo_57 : decode cX9_undo 57 = .ok (.putfield 32, 3) := by decide +kernel
theorem dX9_undo_60 : decode cX9_undo 60 = .ok (.aload_n 0, 1) := by decide +kernel
theorem dX9_undo_61 : decode cX9_undo 61 = .ok (.aload_n 0, 1) := by decide +kernel
theorem dX9_undo_62 : decode cX9_undo 62 = .ok (.getfield 126, 3) := by decide +kernel
theorem dX9_undo_65 : decode cX9_undo 65 = .ok (.iconst 5, 1) := by decide +kernel
theorem dX9_undo_66 : decode cX9_undo 66 = .ok (.iaload, 1) := by decide +kernel
theorem dX9_undo_67 : decode cX9_undo 67 = .ok (.putfield 360, 3) := by decide +kernel
theorem dX9_undo_70 : decode cX9_undo 70 = .ok (.aload_n 0, 1) := by decide +kernel
theorem dX9_undo_71 : decode cX9_undo 71 = .ok (.aload_n 0, 1) := by decide +kernel
theorem dX9_undo_72 : decode cX9_undo 72 = .ok (.getfield 126, 3) := by decide +kernel
theorem dX9_undo_75 : decode cX9_undo 75 = .ok (.bipush 6, 2) := by decide +kernel
theorem dX9_undo_77 : decode cX9_undo 77 = .ok (.iaload, 1) := by decide +kernel
theorem dX9_undo_78 : decode cX9_undo 78 = .ok (.putfield 366, 3) := by decide +kernel
theorem dX9_undo_81 : decode cX9_undo 81 = .ok (.aload_n 0, 1) := by decide +kernel
theorem dX9_undo_82 : decode cX9_undo 82 = .ok (.getfield 129, 3) := by decide +kernel
theorem dX9_undo_85 : decode cX9_undo 85 = .ok (.iconst 0, 1) := by decide +kernel
theorem dX9_undo_86 : decode cX9_undo 86 = .ok (.aload_n 0, 1) := by decide +kernel
theorem dX9_undo_87 : decode cX9_undo 87 = .ok (.getfield 15, 3) := by decide +kernel
theorem dX9_undo_90 : decode cX9_undo 90 = .ok (.iconst 0, 1) := by decide +kernel
theorem dX9_undo_91 : decode cX9_undo 91 = .ok (.bipush 8, 2) := by decide +kernel
theorem dX9_undo_93 : decode cX9_undo 93 = .ok (.invokestatic 332, 3) := by decide +kernel
theorem dX9_undo_96 : decode cX9_undo 96 = .ok (.aload_n 0, 1) := by decide +kernel
theorem dX9_undo_97 : decode cX9_undo 97 = .ok (.getfield 132, 3) := by decide +kernel
theorem dX9_undo_100 : decode cX9_undo 100 = .ok (.iconst 0, 1) := by decide +kernel
theorem dX9_undo_101 : decode cX9_undo 101 = .ok (.aload_n 0, 1) := by decide +kernel
theorem dX9_undo_102 : decode cX9_undo 102 = .ok (.getfield 19, 3) := by decide +kernel
theorem dX9_undo_105 : decode cX9_undo 105 = .ok (.iconst 0, 1) := by decide +kernel
theorem dX9_undo_106 : decode cX9_undo 106 = .ok (.bipush 24, 2) := by decide +kernel
theorem dX9_undo_108 : decode cX9_undo 108 = .ok (.invokestatic 332, 3) := by decide +kernel
theorem dX9_undo_111 : decode cX9_undo 111 = .ok (.aload_n 0, 1) := by decide +kernel
theorem dX9_undo_112 : decode cX9_undo 112 = .ok (.getfield 135, 3) := by decide +kernel
theorem dX9_undo_115 : decode cX9_undo 115 = .ok (.iconst 0, 1) := by decide +kernel
theorem dX9_undo_116 : decode cX9_undo 116 = .ok (.aload_n 0, 1) := by decide +kernel
theorem dX9_undo_117 : decode cX9_undo 117 = .ok (.getfield 22, 3) := by decide +kernel
theorem dX9_undo_120 : decode cX9_undo 120 = .ok (.iconst 0, 1) := by decide +kernel
theorem dX9_undo_121 : decode cX9_undo 121 = .ok (.bipush 24, 2) := by decide +kernel
theorem dX9_undo_123 : decode cX9_undo 123 = .ok (.invokestatic 332, 3) := by decide +kernel
theorem dX9_undo_126 : decode cX9_undo 126 = .ok (.aload_n 0, 1) := by decide +kernel
theorem dX9_undo_127 : decode cX9_undo 127 = .ok (.getfield 138, 3) := by decide +kernel
theorem dX9_undo_130 : decode cX9_undo 130 = .ok (.iconst 0, 1) := by decide +kernel
theorem dX9_undo_131 : decode cX9_undo 131 = .ok (.aload_n 0, 1) := by decide +kernel
theorem dX9_undo_132 : decode cX9_undo 132 = .ok (.getfield 35, 3) := by decide +kernel
theorem dX9_undo_135 : decode cX9_undo 135 = .ok (.iconst 0, 1) := by decide +kernel
theorem dX9_undo_136 : decode cX9_undo 136 = .ok (.iconst 5, 1) := by decide +kernel
theorem dX9_undo_137 : decode cX9_undo 137 = .ok (.invokestatic 332, 3) := by decide +kernel
theorem dX9_undo_140 : decode cX9_undo 140 = .ok (.aload_n 0, 1) := by decide +kernel
theorem dX9_undo_141 : decode cX9_undo 141 = .ok (.getfield 141, 3) := by decide +kernel
theorem dX9_undo_144 : decode cX9_undo 144 = .ok (.iconst 0, 1) := by decide +kernel
theorem dX9_undo_145 : decode cX9_undo 145 = .ok (.aload_n 0, 1) := by decide +kernel
theorem dX9_undo_146 : decode cX9_undo 146 = .ok (.getfield 38, 3) := by decide +kernel
theorem dX9_undo_149 : decode cX9_undo 149 = .ok (.iconst 0, 1) := by decide +kernel
theorem dX9_undo_150 : decode cX9_undo 150 = .ok (.bipush 8, 2) := by decide +kernel
theorem dX9_undo_152 : decode cX9_undo 152 = .ok (.invokestatic 332, 3) := by decide +kernel
theorem dX9_undo_155 : decode cX9_undo 155 = .ok (.aload_n 0, 1) := by decide +kernel
theorem dX9_undo_156 : decode cX9_undo 156 = .ok (.getfield 144, 3) := by decide +kernel
theorem dX9_undo_159 : decode cX9_undo 159 = .ok (.iconst 0, 1) := by decide +kernel
theorem dX9_undo_160 : decode cX9_undo 160 = .ok (.aload_n 0, 1) := by decide +kernel
theorem dX9_undo_161 : decode cX9_undo 161 = .ok (.getfield 41, 3) := by decide +kernel
theorem dX9_undo_164 : decode cX9_undo 164 = .ok (.iconst 0, 1) := by decide +kernel
theorem dX9_undo_165 : decode cX9_undo 165 = .ok (.bipush 8, 2) := by decide +kernel
theorem dX9_undo_167 : decode cX9_undo 167 = .ok (.invokestatic 332, 3) := by decide +kernel
theorem dX9_undo_170 : decode cX9_undo 170 = .ok (.aload_n 0, 1) := by decide +kernel
theorem dX9_undo_171 : decode cX9_undo 171 = .ok (.getfield 147, 3) := by decide +kernel
theorem dX9_undo_174 : decode cX9_undo 174 = .ok (.iconst 0, 1) := by decide +kernel
theorem dX9_undo_175 : decode cX9_undo 175 = .ok (.aload_n 0, 1) := by decide +kernel
theorem dX9_undo_176 : decode cX9_undo 176 = .ok (.getfield 11, 3) := by decide +kernel
theorem dX9_undo_179 : decode cX9_undo 179 = .ok (.iconst 0, 1) := by decide +kernel
theorem dX9_undo_180 : decode cX9_undo 180 = .ok (.bipush 8, 2) := by decide +kernel
theorem dX9_undo_182 : decode cX9_undo 182 = .ok (.invokestatic 332, 3) := by decide +kernel
theorem dX9_undo_185 : decode cX9_undo 185 = .ok (.aload_n 0, 1) := by decide +kernel
theorem dX9_undo_186 : decode cX9_undo 186 = .ok (.getfield 150, 3) := by decide +kernel
theorem dX9_undo_189 : decode cX9_undo 189 = .ok (.iconst 0, 1) := by decide +kernel
theorem dX9_undo_190 : decode cX9_undo 190 = .ok (.aload_n 0, 1) := by decide +kernel
theorem dX9_undo_191 : decode cX9_undo 191 = .ok (.getfield 44, 3) := by decide +kernel
theorem dX9_undo_194 : decode cX9_undo 194 = .ok (.iconst 0, 1) := by decide +kernel
theorem dX9_undo_195 : decode cX9_undo 195 = .ok (.iconst 5, 1) := by decide +kernel
theorem dX9_undo_196 : decode cX9_undo 196 = .ok (.invokestatic 332, 3) := by decide +kernel
theorem dX9_undo_199 : decode cX9_undo 199 = .ok (.aload_n 0, 1) := by decide +kernel
theorem dX9_undo_200 : decode cX9_undo 200 = .ok (.getfield 174, 3) := by decide +kernel
theorem dX9_undo_203 : decode cX9_undo 203 = .ok (.ireturn, 1) := by decide +kernel
theorem dX9_count_0 : decode cX9_count 0 = .ok (.iload_n 1, 1) := by decide +kernel
theorem dX9_count_1 : decode cX9_count 1 = .ok (.ifCond .ne 10, 3) := by decide +kernel
theorem dX9_count_4 : decode cX9_count 4 = .ok (.aload_n 0, 1) := by decide +kernel
theorem dX9_count_5 : decode cX9_count 5 = .ok (.getfield 360, 3) := by decide +kernel
theorem dX9_count_8 : decode cX9_count 8 = .ok (.goto 29, 3) := by decide +kernel
theorem dX9_count_11 : decode cX9_count 11 = .ok (.iload_n 1, 1) := by decide +kernel
theorem dX9_count_12 : decode cX9_count 12 = .ok (.iconst 1, 1) := by decide +kernel
theorem dX9_count_13 : decode cX9_count 13 = .ok (.if_icmp .ne 10, 3) := by decide +kernel
theorem dX9_count_16 : decode cX9_count 16 = .ok (.aload_n 0, 1) := by decide +kernel
theorem dX9_count_17 : decode cX9_count 17 = .ok (.getfield 366, 3) := by decide +kernel
theorem dX9_count_20 : decode cX9_count 20 = .ok (.goto 17, 3) := by decide +kernel
theorem dX9_count_23 : decode cX9_count 23 = .ok (.iload_n 1, 1) := by decide +kernel
theorem dX9_count_24 : decode cX9_count 24 = .ok (.iconst 2, 1) := by decide +kernel
theorem dX9_count_25 : decode cX9_count 25 = .ok (.if_icmp .ne 10, 3) := by decide +kernel
theorem dX9_count_28 : decode cX9_count 28 = .ok (.aload_n 0, 1) := by decide +kernel
theorem dX9_count_29 : decode cX9_count 29 = .ok (.getfield 374, 3) := by decide +kernel
theorem dX9_count_32 : decode cX9_count 32 = .ok (.goto 5, 3) := by decide +kernel
theorem dX9_count_35 : decode cX9_count 35 = .ok (.bipush (-2), 2) := by decide +kernel
theorem dX9_count_37 : decode cX9_count 37 = .ok (.ireturn, 1) := by decide +kernel
theorem dX9_isTape_0 : decode cX9_isTape 0 = .ok (.iload_n 0, 1) := by decide +kernel
theorem dX9_isTape_1 : decode cX9_isTape 1 = .ok (.i2l, 1) := by decide +kernel
theorem dX9_isTape_2 : decode cX9_isTape 2 = .ok (.lconst 0, 1) := by decide +kernel
theorem dX9_isTape_3 : decode cX9_isTape 3 = .ok (.ldc2_w 434, 3) := by decide +kernel
theorem dX9_isTape_6 : decode cX9_isTape 6 = .ok (.invokestatic 170, 3) := by decide +kernel
theorem dX9_isTape_9 : decode cX9_isTape 9 = .ok (.ireturn, 1) := by decide +kernel
theorem dX9_tape_0 : decode cX9_tape 0 = .ok (.iload_n 1, 1) := by decide +kernel
theorem dX9_tape_1 : decode cX9_tape 1 = .ok (.invokestatic 428, 3) := by decide +kernel
theorem dX9_tape_4 : decode cX9_tape 4 = .ok (.ifCond .ne 5, 3) := by decide +kernel
theorem dX9_tape_7 : decode cX9_tape 7 = .ok (.iconst (-1), 1) := by decide +kernel
theorem dX9_tape_8 : decode cX9_tape 8 = .ok (.ireturn, 1) := by decide +kernel
theorem dX9_tape_9 : decode cX9_tape 9 = .ok (.iload_n 2, 1) := by decide +kernel
theorem dX9_tape_10 : decode cX9_tape 10 = .ok (.i2l, 1) := by decide +kernel
theorem dX9_tape_11 : decode cX9_tape 11 = .ok (.ldc2_w 436, 3) := by decide +kernel
theorem dX9_tape_14 : decode cX9_tape 14 = .ok (.ldc2_w 438, 3) := by decide +kernel
theorem dX9_tape_17 : decode cX9_tape 17 = .ok (.invokestatic 170, 3) := by decide +kernel
theorem dX9_tape_20 : decode cX9_tape 20 = .ok (.ifCond .eq 13, 3) := by decide +kernel
theorem dX9_tape_23 : decode cX9_tape 23 = .ok (.iload_n 2, 1) := by decide +kernel
theorem dX9_tape_24 : decode cX9_tape 24 = .ok (.ifCond .lt 12, 3) := by decide +kernel
theorem dX9_tape_27 : decode cX9_tape 27 = .ok (.iload_n 3, 1) := by decide +kernel
theorem dX9_tape_28 : decode cX9_tape 28 = .ok (.bipush 60, 2) := by decide +kernel
theorem dX9_tape_30 : decode cX9_tape 30 = .ok (.if_icmp .le 6, 3) := by decide +kernel
theorem dX9_tape_33 : decode cX9_tape 33 = .ok (.bipush (-2), 2) := by decide +kernel
theorem dX9_tape_35 : decode cX9_tape 35 = .ok (.ireturn, 1) := by decide +kernel
theorem dX9_tape_36 : decode cX9_tape 36 = .ok (.iload_n 2, 1) := by decide +kernel
theorem dX9_tape_37 : decode cX9_tape 37 = .ok (.ifCond .lt 10, 3) := by decide +kernel
theorem dX9_tape_40 : decode cX9_tape 40 = .ok (.iload_n 3, 1) := by decide +kernel
theorem dX9_tape_41 : decode cX9_tape 41 = .ok (.ifCond .ge 6, 3) := by decide +kernel
theorem dX9_tape_44 : decode cX9_tape 44 = .ok (.bipush (-14), 2) := by decide +kernel
theorem dX9_tape_46 : decode cX9_tape 46 = .ok (.ireturn, 1) := by decide +kernel
theorem dX9_tape_47 : decode cX9_tape 47 = .ok (.aload_n 0, 1) := by decide +kernel
theorem dX9_tape_48 : decode cX9_tape 48 = .ok (.getfield 153, 3) := by decide +kernel
theorem dX9_tape_51 : decode cX9_tape 51 = .ok (.iload_n 1, 1) := by decide +kernel
theorem dX9_tape_52 : decode cX9_tape 52 = .ok (.iload_n 2, 1) := by decide +kernel
theorem dX9_tape_53 : decode cX9_tape 53 = .ok (.iastore, 1) := by decide +kernel
theorem dX9_tape_54 : decode cX9_tape 54 = .ok (.aload_n 0, 1) := by decide +kernel
theorem dX9_tape_55 : decode cX9_tape 55 = .ok (.getfield 156, 3) := by decide +kernel
theorem dX9_tape_58 : decode cX9_tape 58 = .ok (.iload_n 1, 1) := by decide +kernel
theorem dX9_tape_59 : decode cX9_tape 59 = .ok (.iload_n 2, 1) := by decide +kernel
theorem dX9_tape_60 : decode cX9_tape 60 = .ok (.ifCond .ge 7, 3) := by decide +kernel
theorem dX9_tape_63 : decode cX9_tape 63 = .ok (.iconst 0, 1) := by decide +kernel
theorem dX9_tape_64 : decode cX9_tape 64 = .ok (.goto 4, 3) := by decide +kernel
theorem dX9_tape_67 : decode cX9_tape 67 = .ok (.iload_n 3, 1) := by decide +kernel
theorem dX9_tape_68 : decode cX9_tape 68 = .ok (.iastore, 1) := by decide +kernel
theorem dX9_tape_69 : decode cX9_tape 69 = .ok (.iconst 0, 1) := by decide +kernel
theorem dX9_tape_70 : decode cX9_tape 70 = .ok (.istore 4, 2) := by decide +kernel
theorem dX9_tape_72 : decode cX9_tape 72 = .ok (.iload 4, 2) := by decide +kernel
theorem dX9_tape_74 : decode cX9_tape 74 = .ok (.bipush 60, 2) := by decide +kernel
theorem dX9_tape_76 : decode cX9_tape 76 = .ok (.if_icmp .ge 19, 3) := by decide +kernel
theorem dX9_tape_79 : decode cX9_tape 79 = .ok (.aload_n 0, 1) := by decide +kernel
theorem dX9_tape_80 : decode cX9_tape 80 = .ok (.getfield 161, 3) := by decide +kernel
theorem dX9_tape_83 : decode cX9_tape 83 = .ok (.iload_n 1, 1) := by decide +kernel
theorem dX9_tape_84 : decode cX9_tape 84 = .ok (.aaload, 1) := by decide +kernel
theorem dX9_tape_85 : decode cX9_tape 85 = .ok (.iload 4, 2) := by decide +kernel
theorem dX9_tape_87 : decode cX9_tape 87 = .ok (.lconst 0, 1) := by decide +kernel
theorem dX9_tape_88 : decode cX9_tape 88 = .ok (.lastore, 1) := by decide +kernel
theorem dX9_tape_89 : decode cX9_tape 89 = .ok (.iinc 4 1, 3) := by decide +kernel
theorem dX9_tape_92 : decode cX9_tape 92 = .ok (.goto (-20), 3) := by decide +kernel
theorem dX9_tape_95 : decode cX9_tape 95 = .ok (.iconst 1, 1) := by decide +kernel
theorem dX9_tape_96 : decode cX9_tape 96 = .ok (.ireturn, 1) := by decide +kernel
theorem dX9_refusal_0 : decode cX9_refusal 0 = .ok (.iload_n 1, 1) := by decide +kernel
theorem dX9_refusal_1 : decode cX9_refusal 1 = .ok (.invokestatic 428, 3) := by decide +kernel
theorem dX9_refusal_4 : decode cX9_refusal 4 = .ok (.ifCond .ne 7, 3) := by decide +kernel
theorem dX9_refusal_7 : decode cX9_refusal 7 = .ok (.iconst (-1), 1) := by decide +kernel
theorem dX9_refusal_8 : decode cX9_refusal 8 = .ok (.goto 41, 3) := by decide +kernel
theorem dX9_refusal_11 : decode cX9_refusal 11 = .ok (.aload_n 0, 1) := by decide +kernel
theorem dX9_refusal_12 : decode cX9_refusal 12 = .ok (.getfield 153, 3) := by decide +kernel
theorem dX9_refusal_15 : decode cX9_refusal 15 = .ok (.iload_n 1, 1) := by decide +kernel
theorem dX9_refusal_16 : decode cX9_refusal 16 = .ok (.iaload, 1) := by decide +kernel
theorem dX9_refusal_17 : decode cX9_refusal 17 = .ok (.ifCond .ge 8, 3) := by decide +kernel
theorem dX9_refusal_20 : decode cX9_refusal 20 = .ok (.bipush (-11), 2) := by decide +kernel
theorem dX9_refusal_22 : decode cX9_refusal 22 = .ok (.goto 27, 3) := by decide +kernel
theorem dX9_refusal_25 : decode cX9_refusal 25 = .ok (.iload_n 2, 1) := by decide +kernel
theorem dX9_refusal_26 : decode cX9_refusal 26 = .ok (.i2l, 1) := by decide +kernel
theorem dX9_refusal_27 : decode cX9_refusal 27 = .ok (.lconst 0, 1) := by decide +kernel
theorem dX9_refusal_28 : decode cX9_refusal 28 = .ok (.aload_n 0, 1) := by decide +kernel
theorem dX9_refusal_29 : decode cX9_refusal 29 = .ok (.getfield 156, 3) := by decide +kernel
theorem dX9_refusal_32 : decode cX9_refusal 32 = .ok (.iload_n 1, 1) := by decide +kernel
theorem dX9_refusal_33 : decode cX9_refusal 33 = .ok (.iaload, 1) := by decide +kernel
theorem dX9_refusal_34 : decode cX9_refusal 34 = .ok (.iconst 1, 1) := by decide +kernel
theorem dX9_refusal_35 : decode cX9_refusal 35 = .ok (.isub, 1) := by decide +kernel
theorem dX9_refusal_36 : decode cX9_refusal 36 = .ok (.i2l, 1) := by decide +kernel
theorem dX9_refusal_37 : decode cX9_refusal 37 = .ok (.invokestatic 170, 3) := by decide +kernel
theorem dX9_refusal_40 : decode cX9_refusal 40 = .ok (.ifCond .eq 7, 3) := by decide +kernel
theorem dX9_refusal_43 : decode cX9_refusal 43 = .ok (.iconst 0, 1) := by decide +kernel
theorem dX9_refusal_44 : decode cX9_refusal 44 = .ok (.goto 5, 3) := by decide +kernel
theorem dX9_refusal_47 : decode cX9_refusal 47 = .ok (.bipush (-13), 2) := by decide +kernel
theorem dX9_refusal_49 : decode cX9_refusal 49 = .ok (.ireturn, 1) := by decide +kernel
theorem dX9_item_0 : decode cX9_item 0 = .ok (.aload_n 0, 1) := by decide +kernel
theorem dX9_item_1 : decode cX9_item 1 = .ok (.iload_n 1, 1) := by decide +kernel
theorem dX9_item_2 : decode cX9_item 2 = .ok (.iload_n 2, 1) := by decide +kernel
theorem dX9_item_3 : decode cX9_item 3 = .ok (.invokevirtual 440, 3) := by decide +kernel
theorem dX9_item_6 : decode cX9_item 6 = .ok (.istore 5, 2) := by decide +kernel
theorem dX9_item_8 : decode cX9_item 8 = .ok (.iload 5, 2) := by decide +kernel
theorem dX9_item_10 : decode cX9_item 10 = .ok (.ifCond .eq 6, 3) := by decide +kernel
theorem dX9_item_13 : decode cX9_item 13 = .ok (.iload 5, 2) := by decide +kernel
theorem dX9_item_15 : decode cX9_item 15 = .ok (.ireturn, 1) := by decide +kernel
theorem dX9_item_16 : decode cX9_item 16 = .ok (.aload_n 0, 1) := by decide +kernel
theorem dX9_item_17 : decode cX9_item 17 = .ok (.getfield 153, 3) := by decide +kernel
theorem dX9_item_20 : decode cX9_item 20 = .ok (.iload_n 1, 1) := by decide +kernel
theorem dX9_item_21 : decode cX9_item 21 = .ok (.iaload, 1) := by decide +kernel
theorem dX9_item_22 : decode cX9_item 22 = .ok (.istore 6, 2) := by decide +kernel
theorem dX9_item_24 : decode cX9_item 24 = .ok (.aload_n 0, 1) := by decide +kernel
theorem dX9_item_25 : decode cX9_item 25 = .ok (.getfield 161, 3) := by decide +kernel
theorem dX9_item_28 : decode cX9_item 28 = .ok (.iload_n 1, 1) := by decide +kernel
theorem dX9_item_29 : decode cX9_item 29 = .ok (.aaload, 1) := by decide +kernel
theorem dX9_item_30 : decode cX9_item 30 = .ok (.iload_n 2, 1) := by decide +kernel
theorem dX9_item_31 : decode cX9_item 31 = .ok (.iload 6, 2) := by decide +kernel
theorem dX9_item_33 : decode cX9_item 33 = .ok (.ifCond .ne 10, 3) := by decide +kernel
theorem dX9_item_36 : decode cX9_item 36 = .ok (.lload_n 3, 1) := by decide +kernel
theorem dX9_item_37 : decode cX9_item 37 = .ok (.l2i, 1) := by decide +kernel
theorem dX9_item_38 : decode cX9_item 38 = .ok (.i2b, 1) := by decide +kernel
theorem dX9_item_39 : decode cX9_item 39 = .ok (.i2l, 1) := by decide +kernel
theorem dX9_item_40 : decode cX9_item 40 = .ok (.goto 49, 3) := by decide +kernel
theorem dX9_item_43 : decode cX9_item 43 = .ok (.iload 6, 2) := by decide +kernel
theorem dX9_item_45 : decode cX9_item 45 = .ok (.iconst 1, 1) := by decide +kernel
theorem dX9_item_46 : decode cX9_item 46 = .ok (.if_icmp .ne 10, 3) := by decide +kernel
theorem dX9_item_49 : decode cX9_item 49 = .ok (.lload_n 3, 1) := by decide +kernel
theorem dX9_item_50 : decode cX9_item 50 = .ok (.l2i, 1) := by decide +kernel
theorem dX9_item_51 : decode cX9_item 51 = .ok (.i2s, 1) := by decide +kernel
theorem dX9_item_52 : decode cX9_item 52 = .ok (.i2l, 1) := by decide +kernel
theorem dX9_item_53 : decode cX9_item 53 = .ok (.goto 36, 3) := by decide +kernel
theorem dX9_item_56 : decode cX9_item 56 = .ok (.iload 6, 2) := by decide +kernel
theorem dX9_item_58 : decode cX9_item 58 = .ok (.iconst 2, 1) := by decide +kernel
theorem dX9_item_59 : decode cX9_item 59 = .ok (.if_icmp .ne 9, 3) := by decide +kernel
theorem dX9_item_62 : decode cX9_item 62 = .ok (.lload_n 3, 1) := by decide +kernel
theorem dX9_item_63 : decode cX9_item 63 = .ok (.l2i, 1) := by decide +kernel
theorem dX9_item_64 : decode cX9_item 64 = .ok (.i2l, 1) := by decide +kernel
theorem dX9_item_65 : decode cX9_item 65 = .ok (.goto 24, 3) := by decide +kernel
theorem dX9_item_68 : decode cX9_item 68 = .ok (.iload 6, 2) := by decide +kernel
theorem dX9_item_70 : decode cX9_item 70 = .ok (.iconst 3, 1) := by decide +kernel
theorem dX9_item_71 : decode cX9_item 71 = .ok (.if_icmp .ne 7, 3) := by decide +kernel
theorem dX9_item_74 : decode cX9_item 74 = .ok (.lload_n 3, 1) := by decide +kernel
theorem dX9_item_75 : decode cX9_item 75 = .ok (.goto 14, 3) := by decide +kernel
theorem dX9_item_78 : decode cX9_item 78 = .ok (.lload_n 3, 1) := by decide +kernel
theorem dX9_item_79 : decode cX9_item 79 = .ok (.lconst 0, 1) := by decide +kernel
theorem dX9_item_80 : decode cX9_item 80 = .ok (.lcmp, 1) := by decide +kernel
theorem dX9_item_81 : decode cX9_item 81 = .ok (.ifCond .eq 7, 3) := by decide +kernel
theorem dX9_item_84 : decode cX9_item 84 = .ok (.lconst 1, 1) := by decide +kernel
theorem dX9_item_85 : decode cX9_item 85 = .ok (.goto 4, 3) := by decide +kernel
theorem dX9_item_88 : decode cX9_item 88 = .ok (.lconst 0, 1) := by decide +kernel
theorem dX9_item_89 : decode cX9_item 89 = .ok (.lastore, 1) := by decide +kernel
theorem dX9_item_90 : decode cX9_item 90 = .ok (.iconst 1, 1) := by decide +kernel
theorem dX9_item_91 : decode cX9_item 91 = .ok (.ireturn, 1) := by decide +kernel
theorem dX9_peek_0 : decode cX9_peek 0 = .ok (.aload_n 0, 1) := by decide +kernel
theorem dX9_peek_1 : decode cX9_peek 1 = .ok (.iload_n 1, 1) := by decide +kernel
theorem dX9_peek_2 : decode cX9_peek 2 = .ok (.iload_n 2, 1) := by decide +kernel
theorem dX9_peek_3 : decode cX9_peek 3 = .ok (.invokevirtual 440, 3) := by decide +kernel
theorem dX9_peek_6 : decode cX9_peek 6 = .ok (.ifCond .eq 9, 3) := by decide +kernel
theorem dX9_peek_9 : decode cX9_peek 9 = .ok (.ldc2_w 326, 3) := by decide +kernel
theorem dX9_peek_12 : decode cX9_peek 12 = .ok (.goto 11, 3) := by decide +kernel
theorem dX9_peek_15 : decode cX9_peek 15 = .ok (.aload_n 0, 1) := by decide +kernel
theorem dX9_peek_16 : decode cX9_peek 16 = .ok (.getfield 161, 3) := by decide +kernel
theorem dX9_peek_19 : decode cX9_peek 19 = .ok (.iload_n 1, 1) := by decide +kernel
theorem dX9_peek_20 : decode cX9_peek 20 = .ok (.aaload, 1) := by decide +kernel
theorem dX9_peek_21 : decode cX9_peek 21 = .ok (.iload_n 2, 1) := by decide +kernel
theorem dX9_peek_22 : decode cX9_peek 22 = .ok (.laload, 1) := by decide +kernel
theorem dX9_peek_23 : decode cX9_peek 23 = .ok (.lreturn, 1) := by decide +kernel
theorem dX9_shift_0 : decode cX9_shift 0 = .ok (.iload_n 1, 1) := by decide +kernel
theorem dX9_shift_1 : decode cX9_shift 1 = .ok (.invokestatic 428, 3) := by decide +kernel
theorem dX9_shift_4 : decode cX9_shift 4 = .ok (.ifCond .eq 10, 3) := by decide +kernel
theorem dX9_shift_7 : decode cX9_shift 7 = .ok (.iload_n 3, 1) := by decide +kernel
theorem dX9_shift_8 : decode cX9_shift 8 = .ok (.invokestatic 428, 3) := by decide +kernel
theorem dX9_shift_11 : decode cX9_shift 11 = .ok (.ifCond .ne 5, 3) := by decide +kernel
theorem dX9_shift_14 : decode cX9_shift 14 = .ok (.iconst (-1), 1) := by decide +kernel
theorem dX9_shift_15 : decode cX9_shift 15 = .ok (.ireturn, 1) := by decide +kernel
theorem dX9_shift_16 : decode cX9_shift 16 = .ok (.aload_n 0, 1) := by decide +kernel
theorem dX9_shift_17 : decode cX9_shift 17 = .ok (.getfield 153, 3) := by decide +kernel
theorem dX9_shift_20 : decode cX9_shift 20 = .ok (.iload_n 1, 1) := by decide +kernel
theorem dX9_shift_21 : decode cX9_shift 21 = .ok (.iaload, 1) := by decide +kernel
theorem dX9_shift_22 : decode cX9_shift 22 = .ok (.ifCond .lt 12, 3) := by decide +kernel
theorem dX9_shift_25 : decode cX9_shift 25 = .ok (.aload_n 0, 1) := by decide +kernel
theorem dX9_shift_26 : decode cX9_shift 26 = .ok (.getfield 153, 3) := by decide +kernel
theorem dX9_shift_29 : decode cX9_shift 29 = .ok (.iload_n 3, 1) := by decide +kernel
theorem dX9_shift_30 : decode cX9_shift 30 = .ok (.iaload, 1) := by decide +kernel
theorem dX9_shift_31 : decode cX9_shift 31 = .ok (.ifCond .ge 6, 3) := by decide +kernel
theorem dX9_shift_34 : decode cX9_shift 34 = .ok (.bipush (-11), 2) := by decide +kernel
theorem dX9_shift_36 : decode cX9_shift 36 = .ok (.ireturn, 1) := by decide +kernel
theorem dX9_shift_37 : decode cX9_shift 37 = .ok (.aload_n 0, 1) := by decide +kernel
theorem dX9_shift_38 : decode cX9_shift 38 = .ok (.getfield 153, 3) := by decide +kernel
theorem dX9_shift_41 : decode cX9_shift 41 = .ok (.iload_n 1, 1) := by decide +kernel
theorem dX9_shift_42 : decode cX9_shift 42 = .ok (.iaload, 1) := by decide +kernel
theorem dX9_shift_43 : decode cX9_shift 43 = .ok (.aload_n 0, 1) := by decide +kernel
theorem dX9_shift_44 : decode cX9_shift 44 = .ok (.getfield 153, 3) := by decide +kernel
theorem dX9_shift_47 : decode cX9_shift 47 = .ok (.iload_n 3, 1) := by decide +kernel
theorem dX9_shift_48 : decode cX9_shift 48 = .ok (.iaload, 1) := by decide +kernel
theorem dX9_shift_49 : decode cX9_shift 49 = .ok (.if_icmp .eq 6, 3) := by decide +kernel
theorem dX9_shift_52 : decode cX9_shift 52 = .ok (.bipush (-12), 2) := by decide +kernel
theorem dX9_shift_54 : decode cX9_shift 54 = .ok (.ireturn, 1) := by decide +kernel
theorem dX9_shift_55 : decode cX9_shift 55 = .ok (.iload 5, 2) := by decide +kernel
theorem dX9_shift_57 : decode cX9_shift 57 = .ok (.ifCond .lt 39, 3) := by decide +kernel
theorem dX9_shift_60 : decode cX9_shift 60 = .ok (.iload_n 2, 1) := by decide +kernel
theorem dX9_shift_61 : decode cX9_shift 61 = .ok (.ifCond .lt 35, 3) := by decide +kernel
theorem dX9_shift_64 : decode cX9_shift 64 = .ok (.iload 4, 2) := by decide +kernel
theorem dX9_shift_66 : decode cX9_shift 66 = .ok (.ifCond .lt 30, 3) := by decide +kernel
theorem dX9_shift_69 : decode cX9_shift 69 = .ok (.iload_n 2, 1) := by decide +kernel
theorem dX9_shift_70 : decode cX9_shift 70 = .ok (.aload_n 0, 1) := by decide +kernel
theorem dX9_shift_71 : decode cX9_shift 71 = .ok (.getfield 156, 3) := by decide +kernel
theorem dX9_shift_74 : decode cX9_shift 74 = .ok (.iload_n 1, 1) := by decide +kernel
theorem dX9_shift_75 : decode cX9_shift 75 = .ok (.iaload, 1) := by decide +kernel
theorem dX9_shift_76 : decode cX9_shift 76 = .ok (.iload 5, 2) := by decide +kernel
theorem dX9_shift_78 : decode cX9_shift 78 = .ok (.isub, 1) := by decide +kernel
theorem dX9_shift_79 : decode cX9_shift 79 = .ok (.if_icmp .gt 17, 3) := by decide +kernel
theorem dX9_shift_82 : decode cX9_shift 82 = .ok (.iload 4, 2) := by decide +kernel
theorem dX9_shift_84 : decode cX9_shift 84 = .ok (.aload_n 0, 1) := by decide +kernel
theorem dX9_shift_85 : decode cX9_shift 85 = .ok (.getfield 156, 3) := by decide +kernel
theorem dX9_shift_88 : decode cX9_shift 88 = .ok (.iload_n 3, 1) := by decide +kernel
theorem dX9_shift_89 : decode cX9_shift 89 = .ok (.iaload, 1) := by decide +kernel
theorem dX9_shift_90 : decode cX9_shift 90 = .ok (.iload 5, 2) := by decide +kernel
theorem dX9_shift_92 : decode cX9_shift 92 = .ok (.isub, 1) := by decide +kernel
theorem dX9_shift_93 : decode cX9_shift 93 = .ok (.if_icmp .le 6, 3) := by decide +kernel
theorem dX9_shift_96 : decode cX9_shift 96 = .ok (.bipush (-13), 2) := by decide +kernel
theorem dX9_shift_98 : decode cX9_shift 98 = .ok (.ireturn, 1) := by decide +kernel
theorem dX9_shift_99 : decode cX9_shift 99 = .ok (.aload_n 0, 1) := by decide +kernel
theorem dX9_shift_100 : decode cX9_shift 100 = .ok (.getfield 161, 3) := by decide +kernel
theorem dX9_shift_103 : decode cX9_shift 103 = .ok (.iload_n 1, 1) := by decide +kernel
theorem dX9_shift_104 : decode cX9_shift 104 = .ok (.aaload, 1) := by decide +kernel
theorem dX9_shift_105 : decode cX9_shift 105 = .ok (.iload_n 2, 1) := by decide +kernel
theorem dX9_shift_106 : decode cX9_shift 106 = .ok (.aload_n 0, 1) := by decide +kernel
theorem dX9_shift_107 : decode cX9_shift 107 = .ok (.getfield 164, 3) := by decide +kernel
theorem dX9_shift_110 : decode cX9_shift 110 = .ok (.iconst 0, 1) := by decide +kernel
theorem dX9_shift_111 : decode cX9_shift 111 = .ok (.iload 5, 2) := by decide +kernel
theorem dX9_shift_113 : decode cX9_shift 113 = .ok (.invokestatic 332, 3) := by decide +kernel
theorem dX9_shift_116 : decode cX9_shift 116 = .ok (.aload_n 0, 1) := by decide +kernel
theorem dX9_shift_117 : decode cX9_shift 117 = .ok (.getfield 164, 3) := by decide +kernel
theorem dX9_shift_120 : decode cX9_shift 120 = .ok (.iconst 0, 1) := by decide +kernel
theorem dX9_shift_121 : decode cX9_shift 121 = .ok (.aload_n 0, 1) := by decide +kernel
theorem dX9_shift_122 : decode cX9_shift 122 = .ok (.getfield 161, 3) := by decide +kernel
theorem dX9_shift_125 : decode cX9_shift 125 = .ok (.iload_n 3, 1) := by decide +kernel
theorem dX9_shift_126 : decode cX9_shift 126 = .ok (.aaload, 1) := by decide +kernel
theorem dX9_shift_127 : decode cX9_shift 127 = .ok (.iload 4, 2) := by decide +kernel
theorem dX9_shift_129 : decode cX9_shift 129 = .ok (.iload 5, 2) := by decide +kernel
theorem dX9_shift_131 : decode cX9_shift 131 = .ok (.invokestatic 332, 3) := by decide +kernel
theorem dX9_shift_134 : decode cX9_shift 134 = .ok (.iload 5, 2) := by decide +kernel
theorem dX9_shift_136 : decode cX9_shift 136 = .ok (.ireturn, 1) := by decide +kernel
theorem dJ9_max_7cf53_0 : decode cJ9_max_7cf53 0 = .ok (.iload_n 0, 1) := by decide +kernel
theorem dJ9_max_7cf53_1 : decode cJ9_max_7cf53 1 = .ok (.iload_n 1, 1) := by decide +kernel
theorem dJ9_max_7cf53_2 : decode cJ9_max_7cf53 2 = .ok (.if_icmp .lt 7, 3) := by decide +kernel
theorem dJ9_max_7cf53_5 : decode cJ9_max_7cf53 5 = .ok (.iload_n 0, 1) := by decide +kernel
theorem dJ9_max_7cf53_6 : decode cJ9_max_7cf53 6 = .ok (.goto 4, 3) := by decide +kernel
theorem dJ9_max_7cf53_9 : decode cJ9_max_7cf53 9 = .ok (.iload_n 1, 1) := by decide +kernel
theorem dJ9_max_7cf53_10 : decode cJ9_max_7cf53 10 = .ok (.ireturn, 1) := by decide +kernel
theorem dJ9_max_f86c9_0 : decode cJ9_max_f86c9 0 = .ok (.lload_n 0, 1) := by decide +kernel
theorem dJ9_max_f86c9_1 : decode cJ9_max_f86c9 1 = .ok (.lload_n 2, 1) := by decide +kernel
theorem dJ9_max_f86c9_2 : decode cJ9_max_f86c9 2 = .ok (.lcmp, 1) := by decide +kernel
theorem dJ9_max_f86c9_3 : decode cJ9_max_f86c9 3 = .ok (.ifCond .lt 7, 3) := by decide +kernel
theorem dJ9_max_f86c9_6 : decode cJ9_max_f86c9 6 = .ok (.lload_n 0, 1) := by decide +kernel
theorem dJ9_max_f86c9_7 : decode cJ9_max_f86c9 7 = .ok (.goto 4, 3) := by decide +kernel
theorem dJ9_max_f86c9_10 : decode cJ9_max_f86c9 10 = .ok (.lload_n 2, 1) := by decide +kernel
theorem dJ9_max_f86c9_11 : decode cJ9_max_f86c9 11 = .ok (.lreturn, 1) := by decide +kernel
theorem dJ9_min_f86c9_0 : decode cJ9_min_f86c9 0 = .ok (.lload_n 0, 1) := by decide +kernel
theorem dJ9_min_f86c9_1 : decode cJ9_min_f86c9 1 = .ok (.lload_n 2, 1) := by decide +kernel
theorem dJ9_min_f86c9_2 : decode cJ9_min_f86c9 2 = .ok (.lcmp, 1) := by decide +kernel
theorem dJ9_min_f86c9_3 : decode cJ9_min_f86c9 3 = .ok (.ifCond .gt 7, 3) := by decide +kernel
theorem dJ9_min_f86c9_6 : decode cJ9_min_f86c9 6 = .ok (.lload_n 0, 1) := by decide +kernel
theorem dJ9_min_f86c9_7 : decode cJ9_min_f86c9 7 = .ok (.goto 4, 3) := by decide +kernel
theorem dJ9_min_f86c9_10 : decode cJ9_min_f86c9 10 = .ok (.lload_n 2, 1) := by decide +kernel
theorem dJ9_min_f86c9_11 : decode cJ9_min_f86c9 11 = .ok (.lreturn, 1) := by decide +kernel
theorem dJ7_fill_d0a16_0 : decode cJ7_fill_d0a16 0 = .ok (.iconst 0, 1) := by decide +kernel
theorem dJ7_fill_d0a16_1 : decode cJ7_fill_d0a16 1 = .ok (.istore_n 3, 1) := by decide +kernel
theorem dJ7_fill_d0a16_2 : decode cJ7_fill_d0a16 2 = .ok (.aload_n 0, 1) := by decide +kernel
theorem dJ7_fill_d0a16_3 : decode cJ7_fill_d0a16 3 = .ok (.arraylength, 1) := by decide +kernel
theorem dJ7_fill_d0a16_4 : decode cJ7_fill_d0a16 4 = .ok (.istore 4, 2) := by decide +kernel
theorem dJ7_fill_d0a16_6 : decode cJ7_fill_d0a16 6 = .ok (.iload_n 3, 1) := by decide +kernel
theorem dJ7_fill_d0a16_7 : decode cJ7_fill_d0a16 7 = .ok (.iload 4, 2) := by decide +kernel
theorem dJ7_fill_d0a16_9 : decode cJ7_fill_d0a16 9 = .ok (.if_icmp .ge 13, 3) := by decide +kernel
theorem dJ7_fill_d0a16_12 : decode cJ7_fill_d0a16 12 = .ok (.aload_n 0, 1) := by decide +kernel
theorem dJ7_fill_d0a16_13 : decode cJ7_fill_d0a16 13 = .ok (.iload_n 3, 1) := by decide +kernel
theorem dJ7_fill_d0a16_14 : decode cJ7_fill_d0a16 14 = .ok (.lload_n 1, 1) := by decide +kernel
theorem dJ7_fill_d0a16_15 : decode cJ7_fill_d0a16 15 = .ok (.lastore, 1) := by decide +kernel
theorem dJ7_fill_d0a16_16 : decode cJ7_fill_d0a16 16 = .ok (.iinc 3 1, 3) := by decide +kernel
theorem dJ7_fill_d0a16_19 : decode cJ7_fill_d0a16 19 = .ok (.goto (-13), 3) := by decide +kernel
theorem dJ7_fill_d0a16_22 : decode cJ7_fill_d0a16 22 = .ok (.return_, 1) := by decide +kernel
theorem dL_law_0 : decode cL_law 0 = .ok (.new 7, 3) := by decide +kernel
theorem dL_law_3 : decode cL_law 3 = .ok (.dup, 1) := by decide +kernel
theorem dL_law_4 : decode cL_law 4 = .ok (.invokespecial 9, 3) := by decide +kernel
theorem dL_law_7 : decode cL_law 7 = .ok (.astore_n 1, 1) := by decide +kernel
theorem dL_law_8 : decode cL_law 8 = .ok (.new 10, 3) := by decide +kernel
theorem dL_law_11 : decode cL_law 11 = .ok (.dup, 1) := by decide +kernel
theorem dL_law_12 : decode cL_law 12 = .ok (.invokespecial 12, 3) := by decide +kernel
theorem dL_law_15 : decode cL_law 15 = .ok (.astore_n 2, 1) := by decide +kernel
theorem dL_law_16 : decode cL_law 16 = .ok (.iconst 0, 1) := by decide +kernel
theorem dL_law_17 : decode cL_law 17 = .ok (.istore_n 3, 1) := by decide +kernel
theorem dL_law_18 : decode cL_law 18 = .ok (.iload_n 3, 1) := by decide +kernel
theorem dL_law_19 : decode cL_law 19 = .ok (.aload_n 0, 1) := by decide +kernel
theorem dL_law_20 : decode cL_law 20 = .ok (.arraylength, 1) := by decide +kernel
theorem dL_law_21 : decode cL_law 21 = .ok (.bipush 6, 2) := by decide +kernel
theorem dL_law_23 : decode cL_law 23 = .ok (.isub, 1) := by decide +kernel
theorem dL_law_24 : decode cL_law 24 = .ok (.if_icmp .gt 1409, 3) := by decide +kernel
theorem dL_law_27 : decode cL_law 27 = .ok (.aload_n 0, 1) := by decide +kernel
theorem dL_law_28 : decode cL_law 28 = .ok (.iload_n 3, 1) := by decide +kernel
theorem dL_law_29 : decode cL_law 29 = .ok (.iaload, 1) := by decide +kernel
theorem dL_law_30 : decode cL_law 30 = .ok (.bipush 63, 2) := by decide +kernel
theorem dL_law_32 : decode cL_law 32 = .ok (.iand, 1) := by decide +kernel
theorem dL_law_33 : decode cL_law 33 = .ok (.tableswitch 1394 0 38 #[171, 184, 217, 250, 263, 312, 345, 378, 411, 444, 477, 500, 533, 567, 611, 634, 657, 690, 723, 756, 769, 813, 836, 869, 902, 951, 974, 1007, 1020, 1043, 1056, 1089, 1132, 1145, 1158, 1181, 1224, 1297, 1331], 171) := by decide +kernel
theorem dL_law_204 : decode cL_law 204 = .ok (.aload_n 1, 1) := by decide +kernel
theorem dL_law_205 : decode cL_law 205 = .ok (.invokevirtual 13, 3) := by decide +kernel
theorem dL_law_208 : decode cL_law 208 = .ok (.aload_n 2, 1) := by decide +kernel
theorem dL_law_209 : decode cL_law 209 = .ok (.invokevirtual 17, 3) := by decide +kernel
theorem dL_law_212 : decode cL_law 212 = .ok (.if_icmp .eq 1215, 3) := by decide +kernel
theorem dL_law_215 : decode cL_law 215 = .ok (.iconst 0, 1) := by decide +kernel
theorem dL_law_216 : decode cL_law 216 = .ok (.ireturn, 1) := by decide +kernel
theorem dL_law_217 : decode cL_law 217 = .ok (.aload_n 1, 1) := by decide +kernel
theorem dL_law_218 : decode cL_law 218 = .ok (.aload_n 0, 1) := by decide +kernel
theorem dL_law_219 : decode cL_law 219 = .ok (.iload_n 3, 1) := by decide +kernel
theorem dL_law_220 : decode cL_law 220 = .ok (.iconst 1, 1) := by decide +kernel
theorem dL_law_221 : decode cL_law 221 = .ok (.iadd, 1) := by decide +kernel
theorem dL_law_222 : decode cL_law 222 = .ok (.iaload, 1) := by decide +kernel
theorem dL_law_223 : decode cL_law 223 = .ok (.aload_n 0, 1) := by decide +kernel
theorem dL_law_224 : decode cL_law 224 = .ok (.iload_n 3, 1) := by decide +kernel
theorem dL_law_225 : decode cL_law 225 = .ok (.iconst 2, 1) := by decide +kernel
theorem dL_law_226 : decode cL_law 226 = .ok (.iadd, 1) := by decide +kernel
theorem dL_law_227 : decode cL_law 227 = .ok (.iaload, 1) := by decide +kernel
theorem dL_law_228 : decode cL_law 228 = .ok (.invokevirtual 18, 3) := by decide +kernel
theorem dL_law_231 : decode cL_law 231 = .ok (.aload_n 2, 1) := by decide +kernel
theorem dL_law_232 : decode cL_law 232 = .ok (.aload_n 0, 1) := by decide +kernel
theorem dL_law_233 : decode cL_law 233 = .ok (.iload_n 3, 1) := by decide +kernel
theorem dL_law_234 : decode cL_law 234 = .ok (.iconst 1, 1) := by decide +kernel
theorem dL_law_235 : decode cL_law 235 = .ok (.iadd, 1) := by decide +kernel
theorem dL_law_236 : decode cL_law 236 = .ok (.iaload, 1) := by decide +kernel
theorem dL_law_237 : decode cL_law 237 = .ok (.aload_n 0, 1) := by decide +kernel
theorem dL_law_238 : decode cL_law 238 = .ok (.iload_n 3, 1) := by decide +kernel
theorem dL_law_239 : decode cL_law 239 = .ok (.iconst 2, 1) := by decide +kernel
theorem dL_law_240 : decode cL_law 240 = .ok (.iadd, 1) := by decide +kernel
theorem dL_law_241 : decode cL_law 241 = .ok (.iaload, 1) := by decide +kernel
theorem dL_law_242 : decode cL_law 242 = .ok (.invokevirtual 22, 3) := by decide +kernel
theorem dL_law_245 : decode cL_law 245 = .ok (.if_icmp .eq 1182, 3) := by decide +kernel
theorem dL_law_248 : decode cL_law 248 = .ok (.iconst 0, 1) := by decide +kernel
theorem dL_law_249 : decode cL_law 249 = .ok (.ireturn, 1) := by decide +kernel
theorem dL_law_250 : decode cL_law 250 = .ok (.aload_n 1, 1) := by decide +kernel
theorem dL_law_251 : decode cL_law 251 = .ok (.aload_n 0, 1) := by decide +kernel
theorem dL_law_252 : decode cL_law 252 = .ok (.iload_n 3, 1) := by decide +kernel
theorem dL_law_253 : decode cL_law 253 = .ok (.iconst 1, 1) := by decide +kernel
theorem dL_law_254 : decode cL_law 254 = .ok (.iadd, 1) := by decide +kernel
theorem dL_law_255 : decode cL_law 255 = .ok (.iaload, 1) := by decide +kernel
theorem dL_law_256 : decode cL_law 256 = .ok (.aload_n 0, 1) := by decide +kernel
theorem dL_law_257 : decode cL_law 257 = .ok (.iload_n 3, 1) := by decide +kernel
theorem dL_law_258 : decode cL_law 258 = .ok (.iconst 2, 1) := by decide +kernel
theorem dL_law_259 : decode cL_law 259 = .ok (.iadd, 1) := by decide +kernel
theorem dL_law_260 : decode cL_law 260 = .ok (.iaload, 1) := by decide +kernel
theorem dL_law_261 : decode cL_law 261 = .ok (.invokevirtual 23, 3) := by decide +kernel
theorem dL_law_264 : decode cL_law 264 = .ok (.aload_n 2, 1) := by decide +kernel
theorem dL_law_265 : decode cL_law 265 = .ok (.aload_n 0, 1) := by decide +kernel
theorem dL_law_266 : decode cL_law 266 = .ok (.iload_n 3, 1) := by decide +kernel
theorem dL_law_267 : decode cL_law 267 = .ok (.iconst 1, 1) := by decide +kernel
theorem dL_law_268 : decode cL_law 268 = .ok (.iadd, 1) := by decide +kernel
theorem dL_law_269 : decode cL_law 269 = .ok (.iaload, 1) := by decide +kernel
theorem dL_law_270 : decode cL_law 270 = .ok (.aload_n 0, 1) := by decide +kernel
theorem dL_law_271 : decode cL_law 271 = .ok (.iload_n 3, 1) := by decide +kernel
theorem dL_law_272 : decode cL_law 272 = .ok (.iconst 2, 1) := by decide +kernel
theorem dL_law_273 : decode cL_law 273 = .ok (.iadd, 1) := by decide +kernel
theorem dL_law_274 : decode cL_law 274 = .ok (.iaload, 1) := by decide +kernel
theorem dL_law_275 : decode cL_law 275 = .ok (.invokevirtual 26, 3) := by decide +kernel
theorem dL_law_278 : decode cL_law 278 = .ok (.if_icmp .eq 1149, 3) := by decide +kernel
theorem dL_law_281 : decode cL_law 281 = .ok (.iconst 0, 1) := by decide +kernel
theorem dL_law_282 : decode cL_law 282 = .ok (.ireturn, 1) := by decide +kernel
theorem dL_law_283 : decode cL_law 283 = .ok (.aload_n 1, 1) := by decide +kernel
theorem dL_law_284 : decode cL_law 284 = .ok (.invokevirtual 27, 3) := by decide +kernel
theorem dL_law_287 : decode cL_law 287 = .ok (.aload_n 2, 1) := by decide +kernel
theorem dL_law_288 : decode cL_law 288 = .ok (.invokevirtual 30, 3) := by decide +kernel
theorem dL_law_291 : decode cL_law 291 = .ok (.if_icmp .eq 1136, 3) := by decide +kernel
theorem dL_law_294 : decode cL_law 294 = .ok (.iconst 0, 1) := by decide +kernel
theorem dL_law_295 : decode cL_law 295 = .ok (.ireturn, 1) := by decide +kernel
theorem dL_law_296 : decode cL_law 296 = .ok (.aload_n 1, 1) := by decide +kernel
theorem dL_law_297 : decode cL_law 297 = .ok (.aload_n 0, 1) := by decide +kernel
theorem dL_law_298 : decode cL_law 298 = .ok (.iload_n 3, 1) := by decide +kernel
theorem dL_law_299 : decode cL_law 299 = .ok (.iconst 1, 1) := by decide +kernel
theorem dL_law_300 : decode cL_law 300 = .ok (.iadd, 1) := by decide +kernel
theorem dL_law_301 : decode cL_law 301 = .ok (.iaload, 1) := by decide +kernel
theorem dL_law_302 : decode cL_law 302 = .ok (.aload_n 0, 1) := by decide +kernel
theorem dL_law_303 : decode cL_law 303 = .ok (.iload_n 3, 1) := by decide +kernel
theorem dL_law_304 : decode cL_law 304 = .ok (.iconst 2, 1) := by decide +kernel
theorem dL_law_305 : decode cL_law 305 = .ok (.iadd, 1) := by decide +kernel
theorem dL_law_306 : decode cL_law 306 = .ok (.iaload, 1) := by decide +kernel
theorem dL_law_307 : decode cL_law 307 = .ok (.ifCond .eq 7, 3) := by decide +kernel
theorem dL_law_310 : decode cL_law 310 = .ok (.iconst 1, 1) := by decide +kernel
theorem dL_law_311 : decode cL_law 311 = .ok (.goto 4, 3) := by decide +kernel
theorem dL_law_314 : decode cL_law 314 = .ok (.iconst 0, 1) := by decide +kernel
theorem dL_law_315 : decode cL_law 315 = .ok (.invokevirtual 31, 3) := by decide +kernel
theorem dL_law_318 : decode cL_law 318 = .ok (.aload_n 2, 1) := by decide +kernel
theorem dL_law_319 : decode cL_law 319 = .ok (.aload_n 0, 1) := by decide +kernel
theorem dL_law_320 : decode cL_law 320 = .ok (.iload_n 3, 1) := by decide +kernel
theorem dL_law_321 : decode cL_law 321 = .ok (.iconst 1, 1) := by decide +kernel
theorem dL_law_322 : decode cL_law 322 = .ok (.iadd, 1) := by decide +kernel
theorem dL_law_323 : decode cL_law 323 = .ok (.iaload, 1) := by decide +kernel
theorem dL_law_324 : decode cL_law 324 = .ok (.aload_n 0, 1) := by decide +kernel
theorem dL_law_325 : decode cL_law 325 = .ok (.iload_n 3, 1) := by decide +kernel
theorem dL_law_326 : decode cL_law 326 = .ok (.iconst 2, 1) := by decide +kernel
theorem dL_law_327 : decode cL_law 327 = .ok (.iadd, 1) := by decide +kernel
theorem dL_law_328 : decode cL_law 328 = .ok (.iaload, 1) := by decide +kernel
theorem dL_law_329 : decode cL_law 329 = .ok (.ifCond .eq 7, 3) := by decide +kernel
theorem dL_law_332 : decode cL_law 332 = .ok (.iconst 1, 1) := by decide +kernel
theorem dL_law_333 : decode cL_law 333 = .ok (.goto 4, 3) := by decide +kernel
theorem dL_law_336 : decode cL_law 336 = .ok (.iconst 0, 1) := by decide +kernel
theorem dL_law_337 : decode cL_law 337 = .ok (.invokevirtual 35, 3) := by decide +kernel
theorem dL_law_340 : decode cL_law 340 = .ok (.if_icmp .eq 1087, 3) := by decide +kernel
theorem dL_law_343 : decode cL_law 343 = .ok (.iconst 0, 1) := by decide +kernel
theorem dL_law_344 : decode cL_law 344 = .ok (.ireturn, 1) := by decide +kernel
theorem dL_law_345 : decode cL_law 345 = .ok (.aload_n 1, 1) := by decide +kernel
theorem dL_law_346 : decode cL_law 346 = .ok (.aload_n 0, 1) := by decide +kernel
theorem dL_law_347 : decode cL_law 347 = .ok (.iload_n 3, 1) := by decide +kernel
theorem dL_law_348 : decode cL_law 348 = .ok (.iconst 1, 1) := by decide +kernel
theorem dL_law_349 : decode cL_law 349 = .ok (.iadd, 1) := by decide +kernel
theorem dL_law_350 : decode cL_law 350 = .ok (.iaload, 1) := by decide +kernel
theorem dL_law_351 : decode cL_law 351 = .ok (.aload_n 0, 1) := by decide +kernel
theorem dL_law_352 : decode cL_law 352 = .ok (.iload_n 3, 1) := by decide +kernel
theorem dL_law_353 : decode cL_law 353 = .ok (.iconst 2, 1) := by decide +kernel
theorem dL_law_354 : decode cL_law 354 = .ok (.iadd, 1) := by decide +kernel
theorem dL_law_355 : decode cL_law 355 = .ok (.iaload, 1) := by decide +kernel
theorem dL_law_356 : decode cL_law 356 = .ok (.invokevirtual 36, 3) := by decide +kernel
theorem dL_law_359 : decode cL_law 359 = .ok (.aload_n 2, 1) := by decide +kernel
theorem dL_law_360 : decode cL_law 360 = .ok (.aload_n 0, 1) := by decide +kernel
theorem dL_law_361 : decode cL_law 361 = .ok (.iload_n 3, 1) := by decide +kernel
theorem dL_law_362 : decode cL_law 362 = .ok (.iconst 1, 1) := by decide +kernel
theorem dL_law_363 : decode cL_law 363 = .ok (.iadd, 1) := by decide +kernel
theorem dL_law_364 : decode cL_law 364 = .ok (.iaload, 1) := by decide +kernel
theorem dL_law_365 : decode cL_law 365 = .ok (.aload_n 0, 1) := by decide +kernel
theorem dL_law_366 : decode cL_law 366 = .ok (.iload_n 3, 1) := by decide +kernel
theorem dL_law_367 : decode cL_law 367 = .ok (.iconst 2, 1) := by decide +kernel
theorem dL_law_368 : decode cL_law 368 = .ok (.iadd, 1) := by decide +kernel
theorem dL_law_369 : decode cL_law 369 = .ok (.iaload, 1) := by decide +kernel
theorem dL_law_370 : decode cL_law 370 = .ok (.invokevirtual 39, 3) := by decide +kernel
theorem dL_law_373 : decode cL_law 373 = .ok (.if_icmp .eq 1054, 3) := by decide +kernel
theorem dL_law_376 : decode cL_law 376 = .ok (.iconst 0, 1) := by decide +kernel
theorem dL_law_377 : decode cL_law 377 = .ok (.ireturn, 1) := by decide +kernel
theorem dL_law_378 : decode cL_law 378 = .ok (.aload_n 1, 1) := by decide +kernel
theorem dL_law_379 : decode cL_law 379 = .ok (.aload_n 0, 1) := by decide +kernel
theorem dL_law_380 : decode cL_law 380 = .ok (.iload_n 3, 1) := by decide +kernel
theorem dL_law_381 : decode cL_law 381 = .ok (.iconst 1, 1) := by decide +kernel
theorem dL_law_382 : decode cL_law 382 = .ok (.iadd, 1) := by decide +kernel
theorem dL_law_383 : decode cL_law 383 = .ok (.iaload, 1) := by decide +kernel
theorem dL_law_384 : decode cL_law 384 = .ok (.aload_n 0, 1) := by decide +kernel
theorem dL_law_385 : decode cL_law 385 = .ok (.iload_n 3, 1) := by decide +kernel
theorem dL_law_386 : decode cL_law 386 = .ok (.iconst 2, 1) := by decide +kernel
theorem dL_law_387 : decode cL_law 387 = .ok (.iadd, 1) := by decide +kernel
theorem dL_law_388 : decode cL_law 388 = .ok (.iaload, 1) := by decide +kernel
theorem dL_law_389 : decode cL_law 389 = .ok (.invokevirtual 40, 3) := by decide +kernel
theorem dL_law_392 : decode cL_law 392 = .ok (.aload_n 2, 1) := by decide +kernel
theorem dL_law_393 : decode cL_law 393 = .ok (.aload_n 0, 1) := by decide +kernel
theorem dL_law_394 : decode cL_law 394 = .ok (.iload_n 3, 1) := by decide +kernel
theorem dL_law_395 : decode cL_law 395 = .ok (.iconst 1, 1) := by decide +kernel
theorem dL_law_396 : decode cL_law 396 = .ok (.iadd, 1) := by decide +kernel
theorem dL_law_397 : decode cL_law 397 = .ok (.iaload, 1) := by decide +kernel
theorem dL_law_398 : decode cL_law 398 = .ok (.aload_n 0, 1) := by decide +kernel
theorem dL_law_399 : decode cL_law 399 = .ok (.iload_n 3, 1) := by decide +kernel
theorem dL_law_400 : decode cL_law 400 = .ok (.iconst 2, 1) := by decide +kernel
theorem dL_law_401 : decode cL_law 401 = .ok (.iadd, 1) := by decide +kernel
theorem dL_law_402 : decode cL_law 402 = .ok (.iaload, 1) := by decide +kernel
theorem dL_law_403 : decode cL_law 403 = .ok (.invokevirtual 43, 3) := by decide +kernel
theorem dL_law_406 : decode cL_law 406 = .ok (.if_icmp .eq 1021, 3) := by decide +kernel
theorem dL_law_409 : decode cL_law 409 = .ok (.iconst 0, 1) := by decide +kernel
theorem dL_law_410 : decode cL_law 410 = .ok (.ireturn, 1) := by decide +kernel
theorem dL_law_411 : decode cL_law 411 = .ok (.aload_n 1, 1) := by decide +kernel
theorem dL_law_412 : decode cL_law 412 = .ok (.aload_n 0, 1) := by decide +kernel
theorem dL_law_413 : decode cL_law 413 = .ok (.iload_n 3, 1) := by decide +kernel
theorem dL_law_414 : decode cL_law 414 = .ok (.iconst 1, 1) := by decide +kernel
theorem dL_law_415 : decode cL_law 415 = .ok (.iadd, 1) := by decide +kernel
theorem dL_law_416 : decode cL_law 416 = .ok (.iaload, 1) := by decide +kernel
theorem dL_law_417 : decode cL_law 417 = .ok (.aload_n 0, 1) := by decide +kernel
theorem dL_law_418 : decode cL_law 418 = .ok (.iload_n 3, 1) := by decide +kernel
theorem dL_law_419 : decode cL_law 419 = .ok (.iconst 2, 1) := by decide +kernel
theorem dL_law_420 : decode cL_law 420 = .ok (.iadd, 1) := by decide +kernel
theorem dL_law_421 : decode cL_law 421 = .ok (.iaload, 1) := by decide +kernel
theorem dL_law_422 : decode cL_law 422 = .ok (.invokevirtual 44, 3) := by decide +kernel
theorem dL_law_425 : decode cL_law 425 = .ok (.aload_n 2, 1) := by decide +kernel
theorem dL_law_426 : decode cL_law 426 = .ok (.aload_n 0, 1) := by decide +kernel
theorem dL_law_427 : decode cL_law 427 = .ok (.iload_n 3, 1) := by decide +kernel
theorem dL_law_428 : decode cL_law 428 = .ok (.iconst 1, 1) := by decide +kernel
theorem dL_law_429 : decode cL_law 429 = .ok (.iadd, 1) := by decide +kernel
theorem dL_law_430 : decode cL_law 430 = .ok (.iaload, 1) := by decide +kernel
theorem dL_law_431 : decode cL_law 431 = .ok (.aload_n 0, 1) := by decide +kernel
theorem dL_law_432 : decode cL_law 432 = .ok (.iload_n 3, 1) := by decide +kernel
theorem dL_law_433 : decode cL_law 433 = .ok (.iconst 2, 1) := by decide +kernel
theorem dL_law_434 : decode cL_law 434 = .ok (.iadd, 1) := by decide +kernel
theorem dL_law_435 : decode cL_law 435 = .ok (.iaload, 1) := by decide +kernel
theorem dL_law_436 : decode cL_law 436 = .ok (.invokevirtual 47, 3) := by decide +kernel
theorem dL_law_439 : decode cL_law 439 = .ok (.if_icmp .eq 988, 3) := by decide +kernel
theorem dL_law_442 : decode cL_law 442 = .ok (.iconst 0, 1) := by decide +kernel
theorem dL_law_443 : decode cL_law 443 = .ok (.ireturn, 1) := by decide +kernel
theorem dL_law_444 : decode cL_law 444 = .ok (.aload_n 1, 1) := by decide +kernel
theorem dL_law_445 : decode cL_law 445 = .ok (.aload_n 0, 1) := by decide +kernel
theorem dL_law_446 : decode cL_law 446 = .ok (.iload_n 3, 1) := by decide +kernel
theorem dL_law_447 : decode cL_law 447 = .ok (.iconst 1, 1) := by decide +kernel
theorem dL_law_448 : decode cL_law 448 = .ok (.iadd, 1) := by decide +kernel
theorem dL_law_449 : decode cL_law 449 = .ok (.iaload, 1) := by decide +kernel
theorem dL_law_450 : decode cL_law 450 = .ok (.aload_n 0, 1) := by decide +kernel
theorem dL_law_451 : decode cL_law 451 = .ok (.iload_n 3, 1) := by decide +kernel
theorem dL_law_452 : decode cL_law 452 = .ok (.iconst 2, 1) := by decide +kernel
theorem dL_law_453 : decode cL_law 453 = .ok (.iadd, 1) := by decide +kernel
theorem dL_law_454 : decode cL_law 454 = .ok (.iaload, 1) := by decide +kernel
theorem dL_law_455 : decode cL_law 455 = .ok (.invokevirtual 48, 3) := by decide +kernel
theorem dL_law_458 : decode cL_law 458 = .ok (.aload_n 2, 1) := by decide +kernel
theorem dL_law_459 : decode cL_law 459 = .ok (.aload_n 0, 1) := by decide +kernel
theorem dL_law_460 : decode cL_law 460 = .ok (.iload_n 3, 1) := by decide +kernel
theorem dL_law_461 : decode cL_law 461 = .ok (.iconst 1, 1) := by decide +kernel
theorem dL_law_462 : decode cL_law 462 = .ok (.iadd, 1) := by decide +kernel
theorem dL_law_463 : decode cL_law 463 = .ok (.iaload, 1) := by decide +kernel
theorem dL_law_464 : decode cL_law 464 = .ok (.aload_n 0, 1) := by decide +kernel
theorem dL_law_465 : decode cL_law 465 = .ok (.iload_n 3, 1) := by decide +kernel
theorem dL_law_466 : decode cL_law 466 = .ok (.iconst 2, 1) := by decide +kernel
theorem dL_law_467 : decode cL_law 467 = .ok (.iadd, 1) := by decide +kernel
theorem dL_law_468 : decode cL_law 468 = .ok (.iaload, 1) := by decide +kernel
theorem dL_law_469 : decode cL_law 469 = .ok (.invokevirtual 51, 3) := by decide +kernel
theorem dL_law_472 : decode cL_law 472 = .ok (.if_icmp .eq 955, 3) := by decide +kernel
theorem dL_law_475 : decode cL_law 475 = .ok (.iconst 0, 1) := by decide +kernel
theorem dL_law_476 : decode cL_law 476 = .ok (.ireturn, 1) := by decide +kernel
theorem dL_law_477 : decode cL_law 477 = .ok (.aload_n 1, 1) := by decide +kernel
theorem dL_law_478 : decode cL_law 478 = .ok (.aload_n 0, 1) := by decide +kernel
theorem dL_law_479 : decode cL_law 479 = .ok (.iload_n 3, 1) := by decide +kernel
theorem dL_law_480 : decode cL_law 480 = .ok (.iconst 1, 1) := by decide +kernel
theorem dL_law_481 : decode cL_law 481 = .ok (.iadd, 1) := by decide +kernel
theorem dL_law_482 : decode cL_law 482 = .ok (.iaload, 1) := by decide +kernel
theorem dL_law_483 : decode cL_law 483 = .ok (.aload_n 0, 1) := by decide +kernel
theorem dL_law_484 : decode cL_law 484 = .ok (.iload_n 3, 1) := by decide +kernel
theorem dL_law_485 : decode cL_law 485 = .ok (.iconst 2, 1) := by decide +kernel
theorem dL_law_486 : decode cL_law 486 = .ok (.iadd, 1) := by decide +kernel
theorem dL_law_487 : decode cL_law 487 = .ok (.iaload, 1) := by decide +kernel
theorem dL_law_488 : decode cL_law 488 = .ok (.invokevirtual 52, 3) := by decide +kernel
theorem dL_law_491 : decode cL_law 491 = .ok (.aload_n 2, 1) := by decide +kernel
theorem dL_law_492 : decode cL_law 492 = .ok (.aload_n 0, 1) := by decide +kernel
theorem dL_law_493 : decode cL_law 493 = .ok (.iload_n 3, 1) := by decide +kernel
theorem dL_law_494 : decode cL_law 494 = .ok (.iconst 1, 1) := by decide +kernel
theorem dL_law_495 : decode cL_law 495 = .ok (.iadd, 1) := by decide +kernel
theorem dL_law_496 : decode cL_law 496 = .ok (.iaload, 1) := by decide +kernel
theorem dL_law_497 : decode cL_law 497 = .ok (.aload_n 0, 1) := by decide +kernel
theorem dL_law_498 : decode cL_law 498 = .ok (.iload_n 3, 1) := by decide +kernel
theorem dL_law_499 : decode cL_law 499 = .ok (.iconst 2, 1) := by decide +kernel
theorem dL_law_500 : decode cL_law 500 = .ok (.iadd, 1) := by decide +kernel
theorem dL_law_501 : decode cL_law 501 = .ok (.iaload, 1) := by decide +kernel
theorem dL_law_502 : decode cL_law 502 = .ok (.invokevirtual 55, 3) := by decide +kernel
theorem dL_law_505 : decode cL_law 505 = .ok (.if_icmp .eq 922, 3) := by decide +kernel
theorem dL_law_508 : decode cL_law 508 = .ok (.iconst 0, 1) := by decide +kernel
theorem dL_law_509 : decode cL_law 509 = .ok (.ireturn, 1) := by decide +kernel
theorem dL_law_510 : decode cL_law 510 = .ok (.aload_n 1, 1) := by decide +kernel
theorem dL_law_511 : decode cL_law 511 = .ok (.aload_n 0, 1) := by decide +kernel
theorem dL_law_512 : decode cL_law 512 = .ok (.iload_n 3, 1) := by decide +kernel
theorem dL_law_513 : decode cL_law 513 = .ok (.iconst 1, 1) := by decide +kernel
theorem dL_law_514 : decode cL_law 514 = .ok (.iadd, 1) := by decide +kernel
theorem dL_law_515 : decode cL_law 515 = .ok (.iaload, 1) := by decide +kernel
theorem dL_law_516 : decode cL_law 516 = .ok (.invokevirtual 56, 3) := by decide +kernel
theorem dL_law_519 : decode cL_law 519 = .ok (.aload_n 2, 1) := by decide +kernel
theorem dL_law_520 : decode cL_law 520 = .ok (.aload_n 0, 1) := by decide +kernel
theorem dL_law_521 : decode cL_law 521 = .ok (.iload_n 3, 1) := by decide +kernel
theorem dL_law_522 : decode cL_law 522 = .ok (.iconst 1, 1) := by decide +kernel
theorem dL_law_523 : decode cL_law 523 = .ok (.iadd, 1) := by decide +kernel
theorem dL_law_524 : decode cL_law 524 = .ok (.iaload, 1) := by decide +kernel
theorem dL_law_525 : decode cL_law 525 = .ok (.invokevirtual 60, 3) := by decide +kernel
theorem dL_law_528 : decode cL_law 528 = .ok (.if_icmp .eq 899, 3) := by decide +kernel
theorem dL_law_531 : decode cL_law 531 = .ok (.iconst 0, 1) := by decide +kernel
theorem dL_law_532 : decode cL_law 532 = .ok (.ireturn, 1) := by decide +kernel
theorem dL_law_533 : decode cL_law 533 = .ok (.aload_n 1, 1) := by decide +kernel
theorem dL_law_534 : decode cL_law 534 = .ok (.aload_n 0, 1) := by decide +kernel
theorem dL_law_535 : decode cL_law 535 = .ok (.iload_n 3, 1) := by decide +kernel
theorem dL_law_536 : decode cL_law 536 = .ok (.iconst 1, 1) := by decide +kernel
theorem dL_law_537 : decode cL_law 537 = .ok (.iadd, 1) := by decide +kernel
theorem dL_law_538 : decode cL_law 538 = .ok (.iaload, 1) := by decide +kernel
theorem dL_law_539 : decode cL_law 539 = .ok (.aload_n 0, 1) := by decide +kernel
theorem dL_law_540 : decode cL_law 540 = .ok (.iload_n 3, 1) := by decide +kernel
theorem dL_law_541 : decode cL_law 541 = .ok (.iconst 2, 1) := by decide +kernel
theorem dL_law_542 : decode cL_law 542 = .ok (.iadd, 1) := by decide +kernel
theorem dL_law_543 : decode cL_law 543 = .ok (.iaload, 1) := by decide +kernel
theorem dL_law_544 : decode cL_law 544 = .ok (.invokevirtual 61, 3) := by decide +kernel
theorem dL_law_547 : decode cL_law 547 = .ok (.aload_n 2, 1) := by decide +kernel
theorem dL_law_548 : decode cL_law 548 = .ok (.aload_n 0, 1) := by decide +kernel
theorem dL_law_549 : decode cL_law 549 = .ok (.iload_n 3, 1) := by decide +kernel
theorem dL_law_550 : decode cL_law 550 = .ok (.iconst 1, 1) := by decide +kernel
theorem dL_law_551 : decode cL_law 551 = .ok (.iadd, 1) := by decide +kernel
theorem dL_law_552 : decode cL_law 552 = .ok (.iaload, 1) := by decide +kernel
theorem dL_law_553 : decode cL_law 553 = .ok (.aload_n 0, 1) := by decide +kernel
theorem dL_law_554 : decode cL_law 554 = .ok (.iload_n 3, 1) := by decide +kernel
theorem dL_law_555 : decode cL_law 555 = .ok (.iconst 2, 1) := by decide +kernel
theorem dL_law_556 : decode cL_law 556 = .ok (.iadd, 1) := by decide +kernel
theorem dL_law_557 : decode cL_law 557 = .ok (.iaload, 1) := by decide +kernel
theorem dL_law_558 : decode cL_law 558 = .ok (.invokevirtual 64, 3) := by decide +kernel
theorem dL_law_561 : decode cL_law 561 = .ok (.if_icmp .eq 866, 3) := by decide +kernel
theorem dL_law_564 : decode cL_law 564 = .ok (.iconst 0, 1) := by decide +kernel
theorem dL_law_565 : decode cL_law 565 = .ok (.ireturn, 1) := by decide +kernel
theorem dL_law_566 : decode cL_law 566 = .ok (.aload_n 1, 1) := by decide +kernel
theorem dL_law_567 : decode cL_law 567 = .ok (.aload_n 0, 1) := by decide +kernel
theorem dL_law_568 : decode cL_law 568 = .ok (.iload_n 3, 1) := by decide +kernel
theorem dL_law_569 : decode cL_law 569 = .ok (.iconst 1, 1) := by decide +kernel
theorem dL_law_570 : decode cL_law 570 = .ok (.iadd, 1) := by decide +kernel
theorem dL_law_571 : decode cL_law 571 = .ok (.iaload, 1) := by decide +kernel
theorem dL_law_572 : decode cL_law 572 = .ok (.aload_n 0, 1) := by decide +kernel
theorem dL_law_573 : decode cL_law 573 = .ok (.iload_n 3, 1) := by decide +kernel
theorem dL_law_574 : decode cL_law 574 = .ok (.iconst 2, 1) := by decide +kernel
theorem dL_law_575 : decode cL_law 575 = .ok (.iadd, 1) := by decide +kernel
theorem dL_law_576 : decode cL_law 576 = .ok (.iaload, 1) := by decide +kernel
theorem dL_law_577 : decode cL_law 577 = .ok (.invokevirtual 65, 3) := by decide +kernel
theorem dL_law_580 : decode cL_law 580 = .ok (.aload_n 2, 1) := by decide +kernel
theorem dL_law_581 : decode cL_law 581 = .ok (.aload_n 0, 1) := by decide +kernel
theorem dL_law_582 : decode cL_law 582 = .ok (.iload_n 3, 1) := by decide +kernel
theorem dL_law_583 : decode cL_law 583 = .ok (.iconst 1, 1) := by decide +kernel
theorem dL_law_584 : decode cL_law 584 = .ok (.iadd, 1) := by decide +kernel
theorem dL_law_585 : decode cL_law 585 = .ok (.iaload, 1) := by decide +kernel
theorem dL_law_586 : decode cL_law 586 = .ok (.aload_n 0, 1) := by decide +kernel
theorem dL_law_587 : decode cL_law 587 = .ok (.iload_n 3, 1) := by decide +kernel
theorem dL_law_588 : decode cL_law 588 = .ok (.iconst 2, 1) := by decide +kernel
theorem dL_law_589 : decode cL_law 589 = .ok (.iadd, 1) := by decide +kernel
theorem dL_law_590 : decode cL_law 590 = .ok (.iaload, 1) := by decide +kernel
theorem dL_law_591 : decode cL_law 591 = .ok (.invokevirtual 69, 3) := by decide +kernel
theorem dL_law_594 : decode cL_law 594 = .ok (.lcmp, 1) := by decide +kernel
theorem dL_law_595 : decode cL_law 595 = .ok (.ifCond .eq 832, 3) := by decide +kernel
theorem dL_law_598 : decode cL_law 598 = .ok (.iconst 0, 1) := by decide +kernel
theorem dL_law_599 : decode cL_law 599 = .ok (.ireturn, 1) := by decide +kernel
theorem dL_law_600 : decode cL_law 600 = .ok (.aload_n 1, 1) := by decide +kernel
theorem dL_law_601 : decode cL_law 601 = .ok (.aload_n 0, 1) := by decide +kernel
theorem dL_law_602 : decode cL_law 602 = .ok (.iload_n 3, 1) := by decide +kernel
theorem dL_law_603 : decode cL_law 603 = .ok (.iconst 1, 1) := by decide +kernel
theorem dL_law_604 : decode cL_law 604 = .ok (.iadd, 1) := by decide +kernel
theorem dL_law_605 : decode cL_law 605 = .ok (.iaload, 1) := by decide +kernel
theorem dL_law_606 : decode cL_law 606 = .ok (.aload_n 0, 1) := by decide +kernel
theorem dL_law_607 : decode cL_law 607 = .ok (.iload_n 3, 1) := by decide +kernel
theorem dL_law_608 : decode cL_law 608 = .ok (.iconst 2, 1) := by decide +kernel
theorem dL_law_609 : decode cL_law 609 = .ok (.iadd, 1) := by decide +kernel
theorem dL_law_610 : decode cL_law 610 = .ok (.iaload, 1) := by decide +kernel
theorem dL_law_611 : decode cL_law 611 = .ok (.aload_n 0, 1) := by decide +kernel
theorem dL_law_612 : decode cL_law 612 = .ok (.iload_n 3, 1) := by decide +kernel
theorem dL_law_613 : decode cL_law 613 = .ok (.iconst 3, 1) := by decide +kernel
theorem dL_law_614 : decode cL_law 614 = .ok (.iadd, 1) := by decide +kernel
theorem dL_law_615 : decode cL_law 615 = .ok (.iaload, 1) := by decide +kernel
theorem dL_law_616 : decode cL_law 616 = .ok (.invokevirtual 70, 3) := by decide +kernel
theorem dL_law_619 : decode cL_law 619 = .ok (.aload_n 2, 1) := by decide +kernel
theorem dL_law_620 : decode cL_law 620 = .ok (.aload_n 0, 1) := by decide +kernel
theorem dL_law_621 : decode cL_law 621 = .ok (.iload_n 3, 1) := by decide +kernel
theorem dL_law_622 : decode cL_law 622 = .ok (.iconst 1, 1) := by decide +kernel
theorem dL_law_623 : decode cL_law 623 = .ok (.iadd, 1) := by decide +kernel
theorem dL_law_624 : decode cL_law 624 = .ok (.iaload, 1) := by decide +kernel
theorem dL_law_625 : decode cL_law 625 = .ok (.aload_n 0, 1) := by decide +kernel
theorem dL_law_626 : decode cL_law 626 = .ok (.iload_n 3, 1) := by decide +kernel
theorem dL_law_627 : decode cL_law 627 = .ok (.iconst 2, 1) := by decide +kernel
theorem dL_law_628 : decode cL_law 628 = .ok (.iadd, 1) := by decide +kernel
theorem dL_law_629 : decode cL_law 629 = .ok (.iaload, 1) := by decide +kernel
theorem dL_law_630 : decode cL_law 630 = .ok (.aload_n 0, 1) := by decide +kernel
theorem dL_law_631 : decode cL_law 631 = .ok (.iload_n 3, 1) := by decide +kernel
theorem dL_law_632 : decode cL_law 632 = .ok (.iconst 3, 1) := by decide +kernel
theorem dL_law_633 : decode cL_law 633 = .ok (.iadd, 1) := by decide +kernel
theorem dL_law_634 : decode cL_law 634 = .ok (.iaload, 1) := by decide +kernel
theorem dL_law_635 : decode cL_law 635 = .ok (.invokevirtual 74, 3) := by decide +kernel
theorem dL_law_638 : decode cL_law 638 = .ok (.lcmp, 1) := by decide +kernel
theorem dL_law_639 : decode cL_law 639 = .ok (.ifCond .eq 788, 3) := by decide +kernel
theorem dL_law_642 : decode cL_law 642 = .ok (.iconst 0, 1) := by decide +kernel
theorem dL_law_643 : decode cL_law 643 = .ok (.ireturn, 1) := by decide +kernel
theorem dL_law_644 : decode cL_law 644 = .ok (.aload_n 1, 1) := by decide +kernel
theorem dL_law_645 : decode cL_law 645 = .ok (.aload_n 0, 1) := by decide +kernel
theorem dL_law_646 : decode cL_law 646 = .ok (.iload_n 3, 1) := by decide +kernel
theorem dL_law_647 : decode cL_law 647 = .ok (.iconst 1, 1) := by decide +kernel
theorem dL_law_648 : decode cL_law 648 = .ok (.iadd, 1) := by decide +kernel
theorem dL_law_649 : decode cL_law 649 = .ok (.iaload, 1) := by decide +kernel
theorem dL_law_650 : decode cL_law 650 = .ok (.invokevirtual 75, 3) := by decide +kernel
theorem dL_law_653 : decode cL_law 653 = .ok (.aload_n 2, 1) := by decide +kernel
theorem dL_law_654 : decode cL_law 654 = .ok (.aload_n 0, 1) := by decide +kernel
theorem dL_law_655 : decode cL_law 655 = .ok (.iload_n 3, 1) := by decide +kernel
theorem dL_law_656 : decode cL_law 656 = .ok (.iconst 1, 1) := by decide +kernel
theorem dL_law_657 : decode cL_law 657 = .ok (.iadd, 1) := by decide +kernel
theorem dL_law_658 : decode cL_law 658 = .ok (.iaload, 1) := by decide +kernel
theorem dL_law_659 : decode cL_law 659 = .ok (.invokevirtual 78, 3) := by decide +kernel
theorem dL_law_662 : decode cL_law 662 = .ok (.if_icmp .eq 765, 3) := by decide +kernel
theorem dL_law_665 : decode cL_law 665 = .ok (.iconst 0, 1) := by decide +kernel
theorem dL_law_666 : decode cL_law 666 = .ok (.ireturn, 1) := by decide +kernel
theorem dL_law_667 : decode cL_law 667 = .ok (.aload_n 1, 1) := by decide +kernel
theorem dL_law_668 : decode cL_law 668 = .ok (.aload_n 0, 1) := by decide +kernel
theorem dL_law_669 : decode cL_law 669 = .ok (.iload_n 3, 1) := by decide +kernel
theorem dL_law_670 : decode cL_law 670 = .ok (.iconst 1, 1) := by decide +kernel
theorem dL_law_671 : decode cL_law 671 = .ok (.iadd, 1) := by decide +kernel
theorem dL_law_672 : decode cL_law 672 = .ok (.iaload, 1) := by decide +kernel
theorem dL_law_673 : decode cL_law 673 = .ok (.invokevirtual 79, 3) := by decide +kernel
theorem dL_law_676 : decode cL_law 676 = .ok (.aload_n 2, 1) := by decide +kernel
theorem dL_law_677 : decode cL_law 677 = .ok (.aload_n 0, 1) := by decide +kernel
theorem dL_law_678 : decode cL_law 678 = .ok (.iload_n 3, 1) := by decide +kernel
theorem dL_law_679 : decode cL_law 679 = .ok (.iconst 1, 1) := by decide +kernel
theorem dL_law_680 : decode cL_law 680 = .ok (.iadd, 1) := by decide +kernel
theorem dL_law_681 : decode cL_law 681 = .ok (.iaload, 1) := by decide +kernel
theorem dL_law_682 : decode cL_law 682 = .ok (.invokevirtual 82, 3) := by decide +kernel
theorem dL_law_685 : decode cL_law 685 = .ok (.if_icmp .eq 742, 3) := by decide +kernel
theorem dL_law_688 : decode cL_law 688 = .ok (.iconst 0, 1) := by decide +kernel
theorem dL_law_689 : decode cL_law 689 = .ok (.ireturn, 1) := by decide +kernel
theorem dL_law_690 : decode cL_law 690 = .ok (.aload_n 1, 1) := by decide +kernel
theorem dL_law_691 : decode cL_law 691 = .ok (.aload_n 0, 1) := by decide +kernel
theorem dL_law_692 : decode cL_law 692 = .ok (.iload_n 3, 1) := by decide +kernel
theorem dL_law_693 : decode cL_law 693 = .ok (.iconst 1, 1) := by decide +kernel
theorem dL_law_694 : decode cL_law 694 = .ok (.iadd, 1) := by decide +kernel
theorem dL_law_695 : decode cL_law 695 = .ok (.iaload, 1) := by decide +kernel
theorem dL_law_696 : decode cL_law 696 = .ok (.aload_n 0, 1) := by decide +kernel
theorem dL_law_697 : decode cL_law 697 = .ok (.iload_n 3, 1) := by decide +kernel
theorem dL_law_698 : decode cL_law 698 = .ok (.iconst 2, 1) := by decide +kernel
theorem dL_law_699 : decode cL_law 699 = .ok (.iadd, 1) := by decide +kernel
theorem dL_law_700 : decode cL_law 700 = .ok (.iaload, 1) := by decide +kernel
theorem dL_law_701 : decode cL_law 701 = .ok (.invokevirtual 83, 3) := by decide +kernel
theorem dL_law_704 : decode cL_law 704 = .ok (.aload_n 2, 1) := by decide +kernel
theorem dL_law_705 : decode cL_law 705 = .ok (.aload_n 0, 1) := by decide +kernel
theorem dL_law_706 : decode cL_law 706 = .ok (.iload_n 3, 1) := by decide +kernel
theorem dL_law_707 : decode cL_law 707 = .ok (.iconst 1, 1) := by decide +kernel
theorem dL_law_708 : decode cL_law 708 = .ok (.iadd, 1) := by decide +kernel
theorem dL_law_709 : decode cL_law 709 = .ok (.iaload, 1) := by decide +kernel
theorem dL_law_710 : decode cL_law 710 = .ok (.aload_n 0, 1) := by decide +kernel
theorem dL_law_711 : decode cL_law 711 = .ok (.iload_n 3, 1) := by decide +kernel
theorem dL_law_712 : decode cL_law 712 = .ok (.iconst 2, 1) := by decide +kernel
theorem dL_law_713 : decode cL_law 713 = .ok (.iadd, 1) := by decide +kernel
theorem dL_law_714 : decode cL_law 714 = .ok (.iaload, 1) := by decide +kernel
theorem dL_law_715 : decode cL_law 715 = .ok (.invokevirtual 86, 3) := by decide +kernel
theorem dL_law_718 : decode cL_law 718 = .ok (.if_icmp .eq 709, 3) := by decide +kernel
theorem dL_law_721 : decode cL_law 721 = .ok (.iconst 0, 1) := by decide +kernel
theorem dL_law_722 : decode cL_law 722 = .ok (.ireturn, 1) := by decide +kernel
theorem dL_law_723 : decode cL_law 723 = .ok (.aload_n 1, 1) := by decide +kernel
theorem dL_law_724 : decode cL_law 724 = .ok (.aload_n 0, 1) := by decide +kernel
theorem dL_law_725 : decode cL_law 725 = .ok (.iload_n 3, 1) := by decide +kernel
theorem dL_law_726 : decode cL_law 726 = .ok (.iconst 1, 1) := by decide +kernel
theorem dL_law_727 : decode cL_law 727 = .ok (.iadd, 1) := by decide +kernel
theorem dL_law_728 : decode cL_law 728 = .ok (.iaload, 1) := by decide +kernel
theorem dL_law_729 : decode cL_law 729 = .ok (.aload_n 0, 1) := by decide +kernel
theorem dL_law_730 : decode cL_law 730 = .ok (.iload_n 3, 1) := by decide +kernel
theorem dL_law_731 : decode cL_law 731 = .ok (.iconst 2, 1) := by decide +kernel
theorem dL_law_732 : decode cL_law 732 = .ok (.iadd, 1) := by decide +kernel
theorem dL_law_733 : decode cL_law 733 = .ok (.iaload, 1) := by decide +kernel
theorem dL_law_734 : decode cL_law 734 = .ok (.invokevirtual 87, 3) := by decide +kernel
theorem dL_law_737 : decode cL_law 737 = .ok (.aload_n 2, 1) := by decide +kernel
theorem dL_law_738 : decode cL_law 738 = .ok (.aload_n 0, 1) := by decide +kernel
theorem dL_law_739 : decode cL_law 739 = .ok (.iload_n 3, 1) := by decide +kernel
theorem dL_law_740 : decode cL_law 740 = .ok (.iconst 1, 1) := by decide +kernel
theorem dL_law_741 : decode cL_law 741 = .ok (.iadd, 1) := by decide +kernel
theorem dL_law_742 : decode cL_law 742 = .ok (.iaload, 1) := by decide +kernel
theorem dL_law_743 : decode cL_law 743 = .ok (.aload_n 0, 1) := by decide +kernel
theorem dL_law_744 : decode cL_law 744 = .ok (.iload_n 3, 1) := by decide +kernel
theorem dL_law_745 : decode cL_law 745 = .ok (.iconst 2, 1) := by decide +kernel
theorem dL_law_746 : decode cL_law 746 = .ok (.iadd, 1) := by decide +kernel
theorem dL_law_747 : decode cL_law 747 = .ok (.iaload, 1) := by decide +kernel
theorem dL_law_748 : decode cL_law 748 = .ok (.invokevirtual 90, 3) := by decide +kernel
theorem dL_law_751 : decode cL_law 751 = .ok (.if_icmp .eq 676, 3) := by decide +kernel
theorem dL_law_754 : decode cL_law 754 = .ok (.iconst 0, 1) := by decide +kernel
theorem dL_law_755 : decode cL_law 755 = .ok (.ireturn, 1) := by decide +kernel
theorem dL_law_756 : decode cL_law 756 = .ok (.aload_n 1, 1) := by decide +kernel
theorem dL_law_757 : decode cL_law 757 = .ok (.aload_n 0, 1) := by decide +kernel
theorem dL_law_758 : decode cL_law 758 = .ok (.iload_n 3, 1) := by decide +kernel
theorem dL_law_759 : decode cL_law 759 = .ok (.iconst 1, 1) := by decide +kernel
theorem dL_law_760 : decode cL_law 760 = .ok (.iadd, 1) := by decide +kernel
theorem dL_law_761 : decode cL_law 761 = .ok (.iaload, 1) := by decide +kernel
theorem dL_law_762 : decode cL_law 762 = .ok (.aload_n 0, 1) := by decide +kernel
theorem dL_law_763 : decode cL_law 763 = .ok (.iload_n 3, 1) := by decide +kernel
theorem dL_law_764 : decode cL_law 764 = .ok (.iconst 2, 1) := by decide +kernel
theorem dL_law_765 : decode cL_law 765 = .ok (.iadd, 1) := by decide +kernel
theorem dL_law_766 : decode cL_law 766 = .ok (.iaload, 1) := by decide +kernel
theorem dL_law_767 : decode cL_law 767 = .ok (.invokevirtual 91, 3) := by decide +kernel
theorem dL_law_770 : decode cL_law 770 = .ok (.aload_n 2, 1) := by decide +kernel
theorem dL_law_771 : decode cL_law 771 = .ok (.aload_n 0, 1) := by decide +kernel
theorem dL_law_772 : decode cL_law 772 = .ok (.iload_n 3, 1) := by decide +kernel
theorem dL_law_773 : decode cL_law 773 = .ok (.iconst 1, 1) := by decide +kernel
theorem dL_law_774 : decode cL_law 774 = .ok (.iadd, 1) := by decide +kernel
theorem dL_law_775 : decode cL_law 775 = .ok (.iaload, 1) := by decide +kernel
theorem dL_law_776 : decode cL_law 776 = .ok (.aload_n 0, 1) := by decide +kernel
theorem dL_law_777 : decode cL_law 777 = .ok (.iload_n 3, 1) := by decide +kernel
theorem dL_law_778 : decode cL_law 778 = .ok (.iconst 2, 1) := by decide +kernel
theorem dL_law_779 : decode cL_law 779 = .ok (.iadd, 1) := by decide +kernel
theorem dL_law_780 : decode cL_law 780 = .ok (.iaload, 1) := by decide +kernel
theorem dL_law_781 : decode cL_law 781 = .ok (.invokevirtual 94, 3) := by decide +kernel
theorem dL_law_784 : decode cL_law 784 = .ok (.if_icmp .eq 643, 3) := by decide +kernel
theorem dL_law_787 : decode cL_law 787 = .ok (.iconst 0, 1) := by decide +kernel
theorem dL_law_788 : decode cL_law 788 = .ok (.ireturn, 1) := by decide +kernel
theorem dL_law_789 : decode cL_law 789 = .ok (.aload_n 1, 1) := by decide +kernel
theorem dL_law_790 : decode cL_law 790 = .ok (.invokevirtual 95, 3) := by decide +kernel
theorem dL_law_793 : decode cL_law 793 = .ok (.aload_n 2, 1) := by decide +kernel
theorem dL_law_794 : decode cL_law 794 = .ok (.invokevirtual 98, 3) := by decide +kernel
theorem dL_law_797 : decode cL_law 797 = .ok (.if_icmp .eq 630, 3) := by decide +kernel
theorem dL_law_800 : decode cL_law 800 = .ok (.iconst 0, 1) := by decide +kernel
theorem dL_law_801 : decode cL_law 801 = .ok (.ireturn, 1) := by decide +kernel
theorem dL_law_802 : decode cL_law 802 = .ok (.aload_n 1, 1) := by decide +kernel
theorem dL_law_803 : decode cL_law 803 = .ok (.aload_n 0, 1) := by decide +kernel
theorem dL_law_804 : decode cL_law 804 = .ok (.iload_n 3, 1) := by decide +kernel
theorem dL_law_805 : decode cL_law 805 = .ok (.iconst 1, 1) := by decide +kernel
theorem dL_law_806 : decode cL_law 806 = .ok (.iadd, 1) := by decide +kernel
theorem dL_law_807 : decode cL_law 807 = .ok (.iaload, 1) := by decide +kernel
theorem dL_law_808 : decode cL_law 808 = .ok (.aload_n 0, 1) := by decide +kernel
theorem dL_law_809 : decode cL_law 809 = .ok (.iload_n 3, 1) := by decide +kernel
theorem dL_law_810 : decode cL_law 810 = .ok (.iconst 2, 1) := by decide +kernel
theorem dL_law_811 : decode cL_law 811 = .ok (.iadd, 1) := by decide +kernel
theorem dL_law_812 : decode cL_law 812 = .ok (.iaload, 1) := by decide +kernel
theorem dL_law_813 : decode cL_law 813 = .ok (.aload_n 0, 1) := by decide +kernel
theorem dL_law_814 : decode cL_law 814 = .ok (.iload_n 3, 1) := by decide +kernel
theorem dL_law_815 : decode cL_law 815 = .ok (.iconst 3, 1) := by decide +kernel
theorem dL_law_816 : decode cL_law 816 = .ok (.iadd, 1) := by decide +kernel
theorem dL_law_817 : decode cL_law 817 = .ok (.iaload, 1) := by decide +kernel
theorem dL_law_818 : decode cL_law 818 = .ok (.invokevirtual 99, 3) := by decide +kernel
theorem dL_law_821 : decode cL_law 821 = .ok (.aload_n 2, 1) := by decide +kernel
theorem dL_law_822 : decode cL_law 822 = .ok (.aload_n 0, 1) := by decide +kernel
theorem dL_law_823 : decode cL_law 823 = .ok (.iload_n 3, 1) := by decide +kernel
theorem dL_law_824 : decode cL_law 824 = .ok (.iconst 1, 1) := by decide +kernel
theorem dL_law_825 : decode cL_law 825 = .ok (.iadd, 1) := by decide +kernel
theorem dL_law_826 : decode cL_law 826 = .ok (.iaload, 1) := by decide +kernel
theorem dL_law_827 : decode cL_law 827 = .ok (.aload_n 0, 1) := by decide +kernel
theorem dL_law_828 : decode cL_law 828 = .ok (.iload_n 3, 1) := by decide +kernel
theorem dL_law_829 : decode cL_law 829 = .ok (.iconst 2, 1) := by decide +kernel
theorem dL_law_830 : decode cL_law 830 = .ok (.iadd, 1) := by decide +kernel
theorem dL_law_831 : decode cL_law 831 = .ok (.iaload, 1) := by decide +kernel
theorem dL_law_832 : decode cL_law 832 = .ok (.aload_n 0, 1) := by decide +kernel
theorem dL_law_833 : decode cL_law 833 = .ok (.iload_n 3, 1) := by decide +kernel
theorem dL_law_834 : decode cL_law 834 = .ok (.iconst 3, 1) := by decide +kernel
theorem dL_law_835 : decode cL_law 835 = .ok (.iadd, 1) := by decide +kernel
theorem dL_law_836 : decode cL_law 836 = .ok (.iaload, 1) := by decide +kernel
theorem dL_law_837 : decode cL_law 837 = .ok (.invokevirtual 102, 3) := by decide +kernel
theorem dL_law_840 : decode cL_law 840 = .ok (.lcmp, 1) := by decide +kernel
theorem dL_law_841 : decode cL_law 841 = .ok (.ifCond .eq 586, 3) := by decide +kernel
theorem dL_law_844 : decode cL_law 844 = .ok (.iconst 0, 1) := by decide +kernel
theorem dL_law_845 : decode cL_law 845 = .ok (.ireturn, 1) := by decide +kernel
theorem dL_law_846 : decode cL_law 846 = .ok (.aload_n 1, 1) := by decide +kernel
theorem dL_law_847 : decode cL_law 847 = .ok (.aload_n 0, 1) := by decide +kernel
theorem dL_law_848 : decode cL_law 848 = .ok (.iload_n 3, 1) := by decide +kernel
theorem dL_law_849 : decode cL_law 849 = .ok (.iconst 1, 1) := by decide +kernel
theorem dL_law_850 : decode cL_law 850 = .ok (.iadd, 1) := by decide +kernel
theorem dL_law_851 : decode cL_law 851 = .ok (.iaload, 1) := by decide +kernel
theorem dL_law_852 : decode cL_law 852 = .ok (.invokevirtual 103, 3) := by decide +kernel
theorem dL_law_855 : decode cL_law 855 = .ok (.aload_n 2, 1) := by decide +kernel
theorem dL_law_856 : decode cL_law 856 = .ok (.aload_n 0, 1) := by decide +kernel
theorem dL_law_857 : decode cL_law 857 = .ok (.iload_n 3, 1) := by decide +kernel
theorem dL_law_858 : decode cL_law 858 = .ok (.iconst 1, 1) := by decide +kernel
theorem dL_law_859 : decode cL_law 859 = .ok (.iadd, 1) := by decide +kernel
theorem dL_law_860 : decode cL_law 860 = .ok (.iaload, 1) := by decide +kernel
theorem dL_law_861 : decode cL_law 861 = .ok (.invokevirtual 106, 3) := by decide +kernel
theorem dL_law_864 : decode cL_law 864 = .ok (.if_icmp .eq 563, 3) := by decide +kernel
theorem dL_law_867 : decode cL_law 867 = .ok (.iconst 0, 1) := by decide +kernel
theorem dL_law_868 : decode cL_law 868 = .ok (.ireturn, 1) := by decide +kernel
theorem dL_law_869 : decode cL_law 869 = .ok (.aload_n 1, 1) := by decide +kernel
theorem dL_law_870 : decode cL_law 870 = .ok (.aload_n 0, 1) := by decide +kernel
theorem dL_law_871 : decode cL_law 871 = .ok (.iload_n 3, 1) := by decide +kernel
theorem dL_law_872 : decode cL_law 872 = .ok (.iconst 1, 1) := by decide +kernel
theorem dL_law_873 : decode cL_law 873 = .ok (.iadd, 1) := by decide +kernel
theorem dL_law_874 : decode cL_law 874 = .ok (.iaload, 1) := by decide +kernel
theorem dL_law_875 : decode cL_law 875 = .ok (.aload_n 0, 1) := by decide +kernel
theorem dL_law_876 : decode cL_law 876 = .ok (.iload_n 3, 1) := by decide +kernel
theorem dL_law_877 : decode cL_law 877 = .ok (.iconst 2, 1) := by decide +kernel
theorem dL_law_878 : decode cL_law 878 = .ok (.iadd, 1) := by decide +kernel
theorem dL_law_879 : decode cL_law 879 = .ok (.iaload, 1) := by decide +kernel
theorem dL_law_880 : decode cL_law 880 = .ok (.invokevirtual 107, 3) := by decide +kernel
theorem dL_law_883 : decode cL_law 883 = .ok (.aload_n 2, 1) := by decide +kernel
theorem dL_law_884 : decode cL_law 884 = .ok (.aload_n 0, 1) := by decide +kernel
theorem dL_law_885 : decode cL_law 885 = .ok (.iload_n 3, 1) := by decide +kernel
theorem dL_law_886 : decode cL_law 886 = .ok (.iconst 1, 1) := by decide +kernel
theorem dL_law_887 : decode cL_law 887 = .ok (.iadd, 1) := by decide +kernel
theorem dL_law_888 : decode cL_law 888 = .ok (.iaload, 1) := by decide +kernel
theorem dL_law_889 : decode cL_law 889 = .ok (.aload_n 0, 1) := by decide +kernel
theorem dL_law_890 : decode cL_law 890 = .ok (.iload_n 3, 1) := by decide +kernel
theorem dL_law_891 : decode cL_law 891 = .ok (.iconst 2, 1) := by decide +kernel
theorem dL_law_892 : decode cL_law 892 = .ok (.iadd, 1) := by decide +kernel
theorem dL_law_893 : decode cL_law 893 = .ok (.iaload, 1) := by decide +kernel
theorem dL_law_894 : decode cL_law 894 = .ok (.invokevirtual 110, 3) := by decide +kernel
theorem dL_law_897 : decode cL_law 897 = .ok (.if_icmp .eq 530, 3) := by decide +kernel
theorem dL_law_900 : decode cL_law 900 = .ok (.iconst 0, 1) := by decide +kernel
theorem dL_law_901 : decode cL_law 901 = .ok (.ireturn, 1) := by decide +kernel
theorem dL_law_902 : decode cL_law 902 = .ok (.aload_n 1, 1) := by decide +kernel
theorem dL_law_903 : decode cL_law 903 = .ok (.aload_n 0, 1) := by decide +kernel
theorem dL_law_904 : decode cL_law 904 = .ok (.iload_n 3, 1) := by decide +kernel
theorem dL_law_905 : decode cL_law 905 = .ok (.iconst 1, 1) := by decide +kernel
theorem dL_law_906 : decode cL_law 906 = .ok (.iadd, 1) := by decide +kernel
theorem dL_law_907 : decode cL_law 907 = .ok (.iaload, 1) := by decide +kernel
theorem dL_law_908 : decode cL_law 908 = .ok (.aload_n 0, 1) := by decide +kernel
theorem dL_law_909 : decode cL_law 909 = .ok (.iload_n 3, 1) := by decide +kernel
theorem dL_law_910 : decode cL_law 910 = .ok (.iconst 2, 1) := by decide +kernel
theorem dL_law_911 : decode cL_law 911 = .ok (.iadd, 1) := by decide +kernel
theorem dL_law_912 : decode cL_law 912 = .ok (.iaload, 1) := by decide +kernel
theorem dL_law_913 : decode cL_law 913 = .ok (.invokevirtual 111, 3) := by decide +kernel
theorem dL_law_916 : decode cL_law 916 = .ok (.aload_n 2, 1) := by decide +kernel
theorem dL_law_917 : decode cL_law 917 = .ok (.aload_n 0, 1) := by decide +kernel
theorem dL_law_918 : decode cL_law 918 = .ok (.iload_n 3, 1) := by decide +kernel
theorem dL_law_919 : decode cL_law 919 = .ok (.iconst 1, 1) := by decide +kernel
theorem dL_law_920 : decode cL_law 920 = .ok (.iadd, 1) := by decide +kernel
theorem dL_law_921 : decode cL_law 921 = .ok (.iaload, 1) := by decide +kernel
theorem dL_law_922 : decode cL_law 922 = .ok (.aload_n 0, 1) := by decide +kernel
theorem dL_law_923 : decode cL_law 923 = .ok (.iload_n 3, 1) := by decide +kernel
theorem dL_law_924 : decode cL_law 924 = .ok (.iconst 2, 1) := by decide +kernel
theorem dL_law_925 : decode cL_law 925 = .ok (.iadd, 1) := by decide +kernel
theorem dL_law_926 : decode cL_law 926 = .ok (.iaload, 1) := by decide +kernel
theorem dL_law_927 : decode cL_law 927 = .ok (.invokevirtual 114, 3) := by decide +kernel
theorem dL_law_930 : decode cL_law 930 = .ok (.if_icmp .eq 497, 3) := by decide +kernel
theorem dL_law_933 : decode cL_law 933 = .ok (.iconst 0, 1) := by decide +kernel
theorem dL_law_934 : decode cL_law 934 = .ok (.ireturn, 1) := by decide +kernel
theorem dL_law_935 : decode cL_law 935 = .ok (.aload_n 1, 1) := by decide +kernel
theorem dL_law_936 : decode cL_law 936 = .ok (.aload_n 0, 1) := by decide +kernel
theorem dL_law_937 : decode cL_law 937 = .ok (.iload_n 3, 1) := by decide +kernel
theorem dL_law_938 : decode cL_law 938 = .ok (.iconst 1, 1) := by decide +kernel
theorem dL_law_939 : decode cL_law 939 = .ok (.iadd, 1) := by decide +kernel
theorem dL_law_940 : decode cL_law 940 = .ok (.iaload, 1) := by decide +kernel
theorem dL_law_941 : decode cL_law 941 = .ok (.aload_n 0, 1) := by decide +kernel
theorem dL_law_942 : decode cL_law 942 = .ok (.iload_n 3, 1) := by decide +kernel
theorem dL_law_943 : decode cL_law 943 = .ok (.iconst 2, 1) := by decide +kernel
theorem dL_law_944 : decode cL_law 944 = .ok (.iadd, 1) := by decide +kernel
theorem dL_law_945 : decode cL_law 945 = .ok (.iaload, 1) := by decide +kernel
theorem dL_law_946 : decode cL_law 946 = .ok (.ifCond .eq 7, 3) := by decide +kernel
theorem dL_law_949 : decode cL_law 949 = .ok (.iconst 1, 1) := by decide +kernel
theorem dL_law_950 : decode cL_law 950 = .ok (.goto 4, 3) := by decide +kernel
theorem dL_law_953 : decode cL_law 953 = .ok (.iconst 0, 1) := by decide +kernel
theorem dL_law_954 : decode cL_law 954 = .ok (.invokevirtual 115, 3) := by decide +kernel
theorem dL_law_957 : decode cL_law 957 = .ok (.aload_n 2, 1) := by decide +kernel
theorem dL_law_958 : decode cL_law 958 = .ok (.aload_n 0, 1) := by decide +kernel
theorem dL_law_959 : decode cL_law 959 = .ok (.iload_n 3, 1) := by decide +kernel
theorem dL_law_960 : decode cL_law 960 = .ok (.iconst 1, 1) := by decide +kernel
theorem dL_law_961 : decode cL_law 961 = .ok (.iadd, 1) := by decide +kernel
theorem dL_law_962 : decode cL_law 962 = .ok (.iaload, 1) := by decide +kernel
theorem dL_law_963 : decode cL_law 963 = .ok (.aload_n 0, 1) := by decide +kernel
theorem dL_law_964 : decode cL_law 964 = .ok (.iload_n 3, 1) := by decide +kernel
theorem dL_law_965 : decode cL_law 965 = .ok (.iconst 2, 1) := by decide +kernel
theorem dL_law_966 : decode cL_law 966 = .ok (.iadd, 1) := by decide +kernel
theorem dL_law_967 : decode cL_law 967 = .ok (.iaload, 1) := by decide +kernel
theorem dL_law_968 : decode cL_law 968 = .ok (.ifCond .eq 7, 3) := by decide +kernel
theorem dL_law_971 : decode cL_law 971 = .ok (.iconst 1, 1) := by decide +kernel
theorem dL_law_972 : decode cL_law 972 = .ok (.goto 4, 3) := by decide +kernel
theorem dL_law_975 : decode cL_law 975 = .ok (.iconst 0, 1) := by decide +kernel
theorem dL_law_976 : decode cL_law 976 = .ok (.invokevirtual 118, 3) := by decide +kernel
theorem dL_law_979 : decode cL_law 979 = .ok (.if_icmp .eq 448, 3) := by decide +kernel
theorem dL_law_982 : decode cL_law 982 = .ok (.iconst 0, 1) := by decide +kernel
theorem dL_law_983 : decode cL_law 983 = .ok (.ireturn, 1) := by decide +kernel
theorem dL_law_984 : decode cL_law 984 = .ok (.aload_n 1, 1) := by decide +kernel
theorem dL_law_985 : decode cL_law 985 = .ok (.aload_n 0, 1) := by decide +kernel
theorem dL_law_986 : decode cL_law 986 = .ok (.iload_n 3, 1) := by decide +kernel
theorem dL_law_987 : decode cL_law 987 = .ok (.iconst 1, 1) := by decide +kernel
theorem dL_law_988 : decode cL_law 988 = .ok (.iadd, 1) := by decide +kernel
theorem dL_law_989 : decode cL_law 989 = .ok (.iaload, 1) := by decide +kernel
theorem dL_law_990 : decode cL_law 990 = .ok (.invokevirtual 119, 3) := by decide +kernel
theorem dL_law_993 : decode cL_law 993 = .ok (.aload_n 2, 1) := by decide +kernel
theorem dL_law_994 : decode cL_law 994 = .ok (.aload_n 0, 1) := by decide +kernel
theorem dL_law_995 : decode cL_law 995 = .ok (.iload_n 3, 1) := by decide +kernel
theorem dL_law_996 : decode cL_law 996 = .ok (.iconst 1, 1) := by decide +kernel
theorem dL_law_997 : decode cL_law 997 = .ok (.iadd, 1) := by decide +kernel
theorem dL_law_998 : decode cL_law 998 = .ok (.iaload, 1) := by decide +kernel
theorem dL_law_999 : decode cL_law 999 = .ok (.invokevirtual 122, 3) := by decide +kernel
theorem dL_law_1002 : decode cL_law 1002 = .ok (.if_icmp .eq 425, 3) := by decide +kernel
theorem dL_law_1005 : decode cL_law 1005 = .ok (.iconst 0, 1) := by decide +kernel
theorem dL_law_1006 : decode cL_law 1006 = .ok (.ireturn, 1) := by decide +kernel
theorem dL_law_1007 : decode cL_law 1007 = .ok (.aload_n 1, 1) := by decide +kernel
theorem dL_law_1008 : decode cL_law 1008 = .ok (.aload_n 0, 1) := by decide +kernel
theorem dL_law_1009 : decode cL_law 1009 = .ok (.iload_n 3, 1) := by decide +kernel
theorem dL_law_1010 : decode cL_law 1010 = .ok (.iconst 1, 1) := by decide +kernel
theorem dL_law_1011 : decode cL_law 1011 = .ok (.iadd, 1) := by decide +kernel
theorem dL_law_1012 : decode cL_law 1012 = .ok (.iaload, 1) := by decide +kernel
theorem dL_law_1013 : decode cL_law 1013 = .ok (.aload_n 0, 1) := by decide +kernel
theorem dL_law_1014 : decode cL_law 1014 = .ok (.iload_n 3, 1) := by decide +kernel
theorem dL_law_1015 : decode cL_law 1015 = .ok (.iconst 2, 1) := by decide +kernel
theorem dL_law_1016 : decode cL_law 1016 = .ok (.iadd, 1) := by decide +kernel
theorem dL_law_1017 : decode cL_law 1017 = .ok (.iaload, 1) := by decide +kernel
theorem dL_law_1018 : decode cL_law 1018 = .ok (.invokevirtual 123, 3) := by decide +kernel
theorem dL_law_1021 : decode cL_law 1021 = .ok (.aload_n 2, 1) := by decide +kernel
theorem dL_law_1022 : decode cL_law 1022 = .ok (.aload_n 0, 1) := by decide +kernel
theorem dL_law_1023 : decode cL_law 1023 = .ok (.iload_n 3, 1) := by decide +kernel
theorem dL_law_1024 : decode cL_law 1024 = .ok (.iconst 1, 1) := by decide +kernel
theorem dL_law_1025 : decode cL_law 1025 = .ok (.iadd, 1) := by decide +kernel
theorem dL_law_1026 : decode cL_law 1026 = .ok (.iaload, 1) := by decide +kernel
theorem dL_law_1027 : decode cL_law 1027 = .ok (.aload_n 0, 1) := by decide +kernel
theorem dL_law_1028 : decode cL_law 1028 = .ok (.iload_n 3, 1) := by decide +kernel
theorem dL_law_1029 : decode cL_law 1029 = .ok (.iconst 2, 1) := by decide +kernel
theorem dL_law_1030 : decode cL_law 1030 = .ok (.iadd, 1) := by decide +kernel
theorem dL_law_1031 : decode cL_law 1031 = .ok (.iaload, 1) := by decide +kernel
theorem dL_law_1032 : decode cL_law 1032 = .ok (.invokevirtual 126, 3) := by decide +kernel
theorem dL_law_1035 : decode cL_law 1035 = .ok (.if_icmp .eq 392, 3) := by decide +kernel
theorem dL_law_1038 : decode cL_law 1038 = .ok (.iconst 0, 1) := by decide +kernel
theorem dL_law_1039 : decode cL_law 1039 = .ok (.ireturn, 1) := by decide +kernel
theorem dL_law_1040 : decode cL_law 1040 = .ok (.aload_n 1, 1) := by decide +kernel
theorem dL_law_1041 : decode cL_law 1041 = .ok (.invokevirtual 127, 3) := by decide +kernel
theorem dL_law_1044 : decode cL_law 1044 = .ok (.aload_n 2, 1) := by decide +kernel
theorem dL_law_1045 : decode cL_law 1045 = .ok (.invokevirtual 130, 3) := by decide +kernel
theorem dL_law_1048 : decode cL_law 1048 = .ok (.if_icmp .eq 379, 3) := by decide +kernel
theorem dL_law_1051 : decode cL_law 1051 = .ok (.iconst 0, 1) := by decide +kernel
theorem dL_law_1052 : decode cL_law 1052 = .ok (.ireturn, 1) := by decide +kernel
theorem dL_law_1053 : decode cL_law 1053 = .ok (.aload_n 1, 1) := by decide +kernel
theorem dL_law_1054 : decode cL_law 1054 = .ok (.aload_n 0, 1) := by decide +kernel
theorem dL_law_1055 : decode cL_law 1055 = .ok (.iload_n 3, 1) := by decide +kernel
theorem dL_law_1056 : decode cL_law 1056 = .ok (.iconst 1, 1) := by decide +kernel
theorem dL_law_1057 : decode cL_law 1057 = .ok (.iadd, 1) := by decide +kernel
theorem dL_law_1058 : decode cL_law 1058 = .ok (.iaload, 1) := by decide +kernel
theorem dL_law_1059 : decode cL_law 1059 = .ok (.invokevirtual 131, 3) := by decide +kernel
theorem dL_law_1062 : decode cL_law 1062 = .ok (.aload_n 2, 1) := by decide +kernel
theorem dL_law_1063 : decode cL_law 1063 = .ok (.aload_n 0, 1) := by decide +kernel
theorem dL_law_1064 : decode cL_law 1064 = .ok (.iload_n 3, 1) := by decide +kernel
theorem dL_law_1065 : decode cL_law 1065 = .ok (.iconst 1, 1) := by decide +kernel
theorem dL_law_1066 : decode cL_law 1066 = .ok (.iadd, 1) := by decide +kernel
theorem dL_law_1067 : decode cL_law 1067 = .ok (.iaload, 1) := by decide +kernel
theorem dL_law_1068 : decode cL_law 1068 = .ok (.invokevirtual 134, 3) := by decide +kernel
theorem dL_law_1071 : decode cL_law 1071 = .ok (.if_icmp .eq 356, 3) := by decide +kernel
theorem dL_law_1074 : decode cL_law 1074 = .ok (.iconst 0, 1) := by decide +kernel
theorem dL_law_1075 : decode cL_law 1075 = .ok (.ireturn, 1) := by decide +kernel
theorem dL_law_1076 : decode cL_law 1076 = .ok (.aload_n 1, 1) := by decide +kernel
theorem dL_law_1077 : decode cL_law 1077 = .ok (.invokevirtual 135, 3) := by decide +kernel
theorem dL_law_1080 : decode cL_law 1080 = .ok (.aload_n 2, 1) := by decide +kernel
theorem dL_law_1081 : decode cL_law 1081 = .ok (.invokevirtual 138, 3) := by decide +kernel
theorem dL_law_1084 : decode cL_law 1084 = .ok (.if_icmp .eq 343, 3) := by decide +kernel
theorem dL_law_1087 : decode cL_law 1087 = .ok (.iconst 0, 1) := by decide +kernel
theorem dL_law_1088 : decode cL_law 1088 = .ok (.ireturn, 1) := by decide +kernel
theorem dL_law_1089 : decode cL_law 1089 = .ok (.aload_n 1, 1) := by decide +kernel
theorem dL_law_1090 : decode cL_law 1090 = .ok (.aload_n 0, 1) := by decide +kernel
theorem dL_law_1091 : decode cL_law 1091 = .ok (.iload_n 3, 1) := by decide +kernel
theorem dL_law_1092 : decode cL_law 1092 = .ok (.iconst 1, 1) := by decide +kernel
theorem dL_law_1093 : decode cL_law 1093 = .ok (.iadd, 1) := by decide +kernel
theorem dL_law_1094 : decode cL_law 1094 = .ok (.iaload, 1) := by decide +kernel
theorem dL_law_1095 : decode cL_law 1095 = .ok (.aload_n 0, 1) := by decide +kernel
theorem dL_law_1096 : decode cL_law 1096 = .ok (.iload_n 3, 1) := by decide +kernel
theorem dL_law_1097 : decode cL_law 1097 = .ok (.iconst 2, 1) := by decide +kernel
theorem dL_law_1098 : decode cL_law 1098 = .ok (.iadd, 1) := by decide +kernel
theorem dL_law_1099 : decode cL_law 1099 = .ok (.iaload, 1) := by decide +kernel
theorem dL_law_1100 : decode cL_law 1100 = .ok (.invokevirtual 139, 3) := by decide +kernel
theorem dL_law_1103 : decode cL_law 1103 = .ok (.aload_n 2, 1) := by decide +kernel
theorem dL_law_1104 : decode cL_law 1104 = .ok (.aload_n 0, 1) := by decide +kernel
theorem dL_law_1105 : decode cL_law 1105 = .ok (.iload_n 3, 1) := by decide +kernel
theorem dL_law_1106 : decode cL_law 1106 = .ok (.iconst 1, 1) := by decide +kernel
theorem dL_law_1107 : decode cL_law 1107 = .ok (.iadd, 1) := by decide +kernel
theorem dL_law_1108 : decode cL_law 1108 = .ok (.iaload, 1) := by decide +kernel
theorem dL_law_1109 : decode cL_law 1109 = .ok (.aload_n 0, 1) := by decide +kernel
theorem dL_law_1110 : decode cL_law 1110 = .ok (.iload_n 3, 1) := by decide +kernel
theorem dL_law_1111 : decode cL_law 1111 = .ok (.iconst 2, 1) := by decide +kernel
theorem dL_law_1112 : decode cL_law 1112 = .ok (.iadd, 1) := by decide +kernel
theorem dL_law_1113 : decode cL_law 1113 = .ok (.iaload, 1) := by decide +kernel
theorem dL_law_1114 : decode cL_law 1114 = .ok (.invokevirtual 142, 3) := by decide +kernel
theorem dL_law_1117 : decode cL_law 1117 = .ok (.if_icmp .eq 310, 3) := by decide +kernel
theorem dL_law_1120 : decode cL_law 1120 = .ok (.iconst 0, 1) := by decide +kernel
theorem dL_law_1121 : decode cL_law 1121 = .ok (.ireturn, 1) := by decide +kernel
theorem dL_law_1122 : decode cL_law 1122 = .ok (.aload_n 1, 1) := by decide +kernel
theorem dL_law_1123 : decode cL_law 1123 = .ok (.aload_n 0, 1) := by decide +kernel
theorem dL_law_1124 : decode cL_law 1124 = .ok (.iload_n 3, 1) := by decide +kernel
theorem dL_law_1125 : decode cL_law 1125 = .ok (.iconst 1, 1) := by decide +kernel
theorem dL_law_1126 : decode cL_law 1126 = .ok (.iadd, 1) := by decide +kernel
theorem dL_law_1127 : decode cL_law 1127 = .ok (.iaload, 1) := by decide +kernel
theorem dL_law_1128 : decode cL_law 1128 = .ok (.aload_n 0, 1) := by decide +kernel
theorem dL_law_1129 : decode cL_law 1129 = .ok (.iload_n 3, 1) := by decide +kernel
theorem dL_law_1130 : decode cL_law 1130 = .ok (.iconst 2, 1) := by decide +kernel
theorem dL_law_1131 : decode cL_law 1131 = .ok (.iadd, 1) := by decide +kernel
theorem dL_law_1132 : decode cL_law 1132 = .ok (.iaload, 1) := by decide +kernel
theorem dL_law_1133 : decode cL_law 1133 = .ok (.aload_n 0, 1) := by decide +kernel
theorem dL_law_1134 : decode cL_law 1134 = .ok (.iload_n 3, 1) := by decide +kernel
theorem dL_law_1135 : decode cL_law 1135 = .ok (.iconst 3, 1) := by decide +kernel
theorem dL_law_1136 : decode cL_law 1136 = .ok (.iadd, 1) := by decide +kernel
theorem dL_law_1137 : decode cL_law 1137 = .ok (.iaload, 1) := by decide +kernel
theorem dL_law_1138 : decode cL_law 1138 = .ok (.invokevirtual 143, 3) := by decide +kernel
theorem dL_law_1141 : decode cL_law 1141 = .ok (.aload_n 2, 1) := by decide +kernel
theorem dL_law_1142 : decode cL_law 1142 = .ok (.aload_n 0, 1) := by decide +kernel
theorem dL_law_1143 : decode cL_law 1143 = .ok (.iload_n 3, 1) := by decide +kernel
theorem dL_law_1144 : decode cL_law 1144 = .ok (.iconst 1, 1) := by decide +kernel
theorem dL_law_1145 : decode cL_law 1145 = .ok (.iadd, 1) := by decide +kernel
theorem dL_law_1146 : decode cL_law 1146 = .ok (.iaload, 1) := by decide +kernel
theorem dL_law_1147 : decode cL_law 1147 = .ok (.aload_n 0, 1) := by decide +kernel
theorem dL_law_1148 : decode cL_law 1148 = .ok (.iload_n 3, 1) := by decide +kernel
theorem dL_law_1149 : decode cL_law 1149 = .ok (.iconst 2, 1) := by decide +kernel
theorem dL_law_1150 : decode cL_law 1150 = .ok (.iadd, 1) := by decide +kernel
theorem dL_law_1151 : decode cL_law 1151 = .ok (.iaload, 1) := by decide +kernel
theorem dL_law_1152 : decode cL_law 1152 = .ok (.aload_n 0, 1) := by decide +kernel
theorem dL_law_1153 : decode cL_law 1153 = .ok (.iload_n 3, 1) := by decide +kernel
theorem dL_law_1154 : decode cL_law 1154 = .ok (.iconst 3, 1) := by decide +kernel
theorem dL_law_1155 : decode cL_law 1155 = .ok (.iadd, 1) := by decide +kernel
theorem dL_law_1156 : decode cL_law 1156 = .ok (.iaload, 1) := by decide +kernel
theorem dL_law_1157 : decode cL_law 1157 = .ok (.invokevirtual 147, 3) := by decide +kernel
theorem dL_law_1160 : decode cL_law 1160 = .ok (.if_icmp .eq 267, 3) := by decide +kernel
theorem dL_law_1163 : decode cL_law 1163 = .ok (.iconst 0, 1) := by decide +kernel
theorem dL_law_1164 : decode cL_law 1164 = .ok (.ireturn, 1) := by decide +kernel
theorem dL_law_1165 : decode cL_law 1165 = .ok (.aload_n 1, 1) := by decide +kernel
theorem dL_law_1166 : decode cL_law 1166 = .ok (.invokevirtual 148, 3) := by decide +kernel
theorem dL_law_1169 : decode cL_law 1169 = .ok (.aload_n 2, 1) := by decide +kernel
theorem dL_law_1170 : decode cL_law 1170 = .ok (.invokevirtual 151, 3) := by decide +kernel
theorem dL_law_1173 : decode cL_law 1173 = .ok (.if_icmp .eq 254, 3) := by decide +kernel
theorem dL_law_1176 : decode cL_law 1176 = .ok (.iconst 0, 1) := by decide +kernel
theorem dL_law_1177 : decode cL_law 1177 = .ok (.ireturn, 1) := by decide +kernel
theorem dL_law_1178 : decode cL_law 1178 = .ok (.aload_n 1, 1) := by decide +kernel
theorem dL_law_1179 : decode cL_law 1179 = .ok (.invokevirtual 152, 3) := by decide +kernel
theorem dL_law_1182 : decode cL_law 1182 = .ok (.aload_n 2, 1) := by decide +kernel
theorem dL_law_1183 : decode cL_law 1183 = .ok (.invokevirtual 155, 3) := by decide +kernel
theorem dL_law_1186 : decode cL_law 1186 = .ok (.if_icmp .eq 241, 3) := by decide +kernel
theorem dL_law_1189 : decode cL_law 1189 = .ok (.iconst 0, 1) := by decide +kernel
theorem dL_law_1190 : decode cL_law 1190 = .ok (.ireturn, 1) := by decide +kernel
theorem dL_law_1191 : decode cL_law 1191 = .ok (.aload_n 1, 1) := by decide +kernel
theorem dL_law_1192 : decode cL_law 1192 = .ok (.aload_n 0, 1) := by decide +kernel
theorem dL_law_1193 : decode cL_law 1193 = .ok (.iload_n 3, 1) := by decide +kernel
theorem dL_law_1194 : decode cL_law 1194 = .ok (.iconst 1, 1) := by decide +kernel
theorem dL_law_1195 : decode cL_law 1195 = .ok (.iadd, 1) := by decide +kernel
theorem dL_law_1196 : decode cL_law 1196 = .ok (.iaload, 1) := by decide +kernel
theorem dL_law_1197 : decode cL_law 1197 = .ok (.invokevirtual 156, 3) := by decide +kernel
theorem dL_law_1200 : decode cL_law 1200 = .ok (.aload_n 2, 1) := by decide +kernel
theorem dL_law_1201 : decode cL_law 1201 = .ok (.aload_n 0, 1) := by decide +kernel
theorem dL_law_1202 : decode cL_law 1202 = .ok (.iload_n 3, 1) := by decide +kernel
theorem dL_law_1203 : decode cL_law 1203 = .ok (.iconst 1, 1) := by decide +kernel
theorem dL_law_1204 : decode cL_law 1204 = .ok (.iadd, 1) := by decide +kernel
theorem dL_law_1205 : decode cL_law 1205 = .ok (.iaload, 1) := by decide +kernel
theorem dL_law_1206 : decode cL_law 1206 = .ok (.invokevirtual 159, 3) := by decide +kernel
theorem dL_law_1209 : decode cL_law 1209 = .ok (.if_icmp .eq 218, 3) := by decide +kernel
theorem dL_law_1212 : decode cL_law 1212 = .ok (.iconst 0, 1) := by decide +kernel
theorem dL_law_1213 : decode cL_law 1213 = .ok (.ireturn, 1) := by decide +kernel
theorem dL_law_1214 : decode cL_law 1214 = .ok (.aload_n 1, 1) := by decide +kernel
theorem dL_law_1215 : decode cL_law 1215 = .ok (.aload_n 0, 1) := by decide +kernel
theorem dL_law_1216 : decode cL_law 1216 = .ok (.iload_n 3, 1) := by decide +kernel
theorem dL_law_1217 : decode cL_law 1217 = .ok (.iconst 1, 1) := by decide +kernel
theorem dL_law_1218 : decode cL_law 1218 = .ok (.iadd, 1) := by decide +kernel
theorem dL_law_1219 : decode cL_law 1219 = .ok (.iaload, 1) := by decide +kernel
theorem dL_law_1220 : decode cL_law 1220 = .ok (.aload_n 0, 1) := by decide +kernel
theorem dL_law_1221 : decode cL_law 1221 = .ok (.iload_n 3, 1) := by decide +kernel
theorem dL_law_1222 : decode cL_law 1222 = .ok (.iconst 2, 1) := by decide +kernel
theorem dL_law_1223 : decode cL_law 1223 = .ok (.iadd, 1) := by decide +kernel
theorem dL_law_1224 : decode cL_law 1224 = .ok (.iaload, 1) := by decide +kernel
theorem dL_law_1225 : decode cL_law 1225 = .ok (.aload_n 0, 1) := by decide +kernel
theorem dL_law_1226 : decode cL_law 1226 = .ok (.iload_n 3, 1) := by decide +kernel
theorem dL_law_1227 : decode cL_law 1227 = .ok (.iconst 3, 1) := by decide +kernel
theorem dL_law_1228 : decode cL_law 1228 = .ok (.iadd, 1) := by decide +kernel
theorem dL_law_1229 : decode cL_law 1229 = .ok (.iaload, 1) := by decide +kernel
theorem dL_law_1230 : decode cL_law 1230 = .ok (.invokevirtual 160, 3) := by decide +kernel
theorem dL_law_1233 : decode cL_law 1233 = .ok (.aload_n 2, 1) := by decide +kernel
theorem dL_law_1234 : decode cL_law 1234 = .ok (.aload_n 0, 1) := by decide +kernel
theorem dL_law_1235 : decode cL_law 1235 = .ok (.iload_n 3, 1) := by decide +kernel
theorem dL_law_1236 : decode cL_law 1236 = .ok (.iconst 1, 1) := by decide +kernel
theorem dL_law_1237 : decode cL_law 1237 = .ok (.iadd, 1) := by decide +kernel
theorem dL_law_1238 : decode cL_law 1238 = .ok (.iaload, 1) := by decide +kernel
theorem dL_law_1239 : decode cL_law 1239 = .ok (.aload_n 0, 1) := by decide +kernel
theorem dL_law_1240 : decode cL_law 1240 = .ok (.iload_n 3, 1) := by decide +kernel
theorem dL_law_1241 : decode cL_law 1241 = .ok (.iconst 2, 1) := by decide +kernel
theorem dL_law_1242 : decode cL_law 1242 = .ok (.iadd, 1) := by decide +kernel
theorem dL_law_1243 : decode cL_law 1243 = .ok (.iaload, 1) := by decide +kernel
theorem dL_law_1244 : decode cL_law 1244 = .ok (.aload_n 0, 1) := by decide +kernel
theorem dL_law_1245 : decode cL_law 1245 = .ok (.iload_n 3, 1) := by decide +kernel
theorem dL_law_1246 : decode cL_law 1246 = .ok (.iconst 3, 1) := by decide +kernel
theorem dL_law_1247 : decode cL_law 1247 = .ok (.iadd, 1) := by decide +kernel
theorem dL_law_1248 : decode cL_law 1248 = .ok (.iaload, 1) := by decide +kernel
theorem dL_law_1249 : decode cL_law 1249 = .ok (.invokevirtual 163, 3) := by decide +kernel
theorem dL_law_1252 : decode cL_law 1252 = .ok (.if_icmp .eq 175, 3) := by decide +kernel
theorem dL_law_1255 : decode cL_law 1255 = .ok (.iconst 0, 1) := by decide +kernel
theorem dL_law_1256 : decode cL_law 1256 = .ok (.ireturn, 1) := by decide +kernel
theorem dL_law_1257 : decode cL_law 1257 = .ok (.aload_n 1, 1) := by decide +kernel
theorem dL_law_1258 : decode cL_law 1258 = .ok (.aload_n 0, 1) := by decide +kernel
theorem dL_law_1259 : decode cL_law 1259 = .ok (.iload_n 3, 1) := by decide +kernel
theorem dL_law_1260 : decode cL_law 1260 = .ok (.iconst 1, 1) := by decide +kernel
theorem dL_law_1261 : decode cL_law 1261 = .ok (.iadd, 1) := by decide +kernel
theorem dL_law_1262 : decode cL_law 1262 = .ok (.iaload, 1) := by decide +kernel
theorem dL_law_1263 : decode cL_law 1263 = .ok (.aload_n 0, 1) := by decide +kernel
theorem dL_law_1264 : decode cL_law 1264 = .ok (.iload_n 3, 1) := by decide +kernel
theorem dL_law_1265 : decode cL_law 1265 = .ok (.iconst 2, 1) := by decide +kernel
theorem dL_law_1266 : decode cL_law 1266 = .ok (.iadd, 1) := by decide +kernel
theorem dL_law_1267 : decode cL_law 1267 = .ok (.iaload, 1) := by decide +kernel
theorem dL_law_1268 : decode cL_law 1268 = .ok (.aload_n 0, 1) := by decide +kernel
theorem dL_law_1269 : decode cL_law 1269 = .ok (.iload_n 3, 1) := by decide +kernel
theorem dL_law_1270 : decode cL_law 1270 = .ok (.iconst 3, 1) := by decide +kernel
theorem dL_law_1271 : decode cL_law 1271 = .ok (.iadd, 1) := by decide +kernel
theorem dL_law_1272 : decode cL_law 1272 = .ok (.iaload, 1) := by decide +kernel
theorem dL_law_1273 : decode cL_law 1273 = .ok (.i2l, 1) := by decide +kernel
theorem dL_law_1274 : decode cL_law 1274 = .ok (.bipush 32, 2) := by decide +kernel
theorem dL_law_1276 : decode cL_law 1276 = .ok (.lshl, 1) := by decide +kernel
theorem dL_law_1277 : decode cL_law 1277 = .ok (.aload_n 0, 1) := by decide +kernel
theorem dL_law_1278 : decode cL_law 1278 = .ok (.iload_n 3, 1) := by decide +kernel
theorem dL_law_1279 : decode cL_law 1279 = .ok (.iconst 4, 1) := by decide +kernel
theorem dL_law_1280 : decode cL_law 1280 = .ok (.iadd, 1) := by decide +kernel
theorem dL_law_1281 : decode cL_law 1281 = .ok (.iaload, 1) := by decide +kernel
theorem dL_law_1282 : decode cL_law 1282 = .ok (.i2l, 1) := by decide +kernel
theorem dL_law_1283 : decode cL_law 1283 = .ok (.ldc2_w 164, 3) := by decide +kernel
theorem dL_law_1286 : decode cL_law 1286 = .ok (.land, 1) := by decide +kernel
theorem dL_law_1287 : decode cL_law 1287 = .ok (.lor, 1) := by decide +kernel
theorem dL_law_1288 : decode cL_law 1288 = .ok (.invokevirtual 166, 3) := by decide +kernel
theorem dL_law_1291 : decode cL_law 1291 = .ok (.aload_n 2, 1) := by decide +kernel
theorem dL_law_1292 : decode cL_law 1292 = .ok (.aload_n 0, 1) := by decide +kernel
theorem dL_law_1293 : decode cL_law 1293 = .ok (.iload_n 3, 1) := by decide +kernel
theorem dL_law_1294 : decode cL_law 1294 = .ok (.iconst 1, 1) := by decide +kernel
theorem dL_law_1295 : decode cL_law 1295 = .ok (.iadd, 1) := by decide +kernel
theorem dL_law_1296 : decode cL_law 1296 = .ok (.iaload, 1) := by decide +kernel
theorem dL_law_1297 : decode cL_law 1297 = .ok (.aload_n 0, 1) := by decide +kernel
theorem dL_law_1298 : decode cL_law 1298 = .ok (.iload_n 3, 1) := by decide +kernel
theorem dL_law_1299 : decode cL_law 1299 = .ok (.iconst 2, 1) := by decide +kernel
theorem dL_law_1300 : decode cL_law 1300 = .ok (.iadd, 1) := by decide +kernel
theorem dL_law_1301 : decode cL_law 1301 = .ok (.iaload, 1) := by decide +kernel
theorem dL_law_1302 : decode cL_law 1302 = .ok (.aload_n 0, 1) := by decide +kernel
theorem dL_law_1303 : decode cL_law 1303 = .ok (.iload_n 3, 1) := by decide +kernel
theorem dL_law_1304 : decode cL_law 1304 = .ok (.iconst 3, 1) := by decide +kernel
theorem dL_law_1305 : decode cL_law 1305 = .ok (.iadd, 1) := by decide +kernel
theorem dL_law_1306 : decode cL_law 1306 = .ok (.iaload, 1) := by decide +kernel
theorem dL_law_1307 : decode cL_law 1307 = .ok (.i2l, 1) := by decide +kernel
theorem dL_law_1308 : decode cL_law 1308 = .ok (.bipush 32, 2) := by decide +kernel
theorem dL_law_1310 : decode cL_law 1310 = .ok (.lshl, 1) := by decide +kernel
theorem dL_law_1311 : decode cL_law 1311 = .ok (.aload_n 0, 1) := by decide +kernel
theorem dL_law_1312 : decode cL_law 1312 = .ok (.iload_n 3, 1) := by decide +kernel
theorem dL_law_1313 : decode cL_law 1313 = .ok (.iconst 4, 1) := by decide +kernel
theorem dL_law_1314 : decode cL_law 1314 = .ok (.iadd, 1) := by decide +kernel
theorem dL_law_1315 : decode cL_law 1315 = .ok (.iaload, 1) := by decide +kernel
theorem dL_law_1316 : decode cL_law 1316 = .ok (.i2l, 1) := by decide +kernel
theorem dL_law_1317 : decode cL_law 1317 = .ok (.ldc2_w 164, 3) := by decide +kernel
theorem dL_law_1320 : decode cL_law 1320 = .ok (.land, 1) := by decide +kernel
theorem dL_law_1321 : decode cL_law 1321 = .ok (.lor, 1) := by decide +kernel
theorem dL_law_1322 : decode cL_law 1322 = .ok (.invokevirtual 170, 3) := by decide +kernel
theorem dL_law_1325 : decode cL_law 1325 = .ok (.if_icmp .eq 102, 3) := by decide +kernel
theorem dL_law_1328 : decode cL_law 1328 = .ok (.iconst 0, 1) := by decide +kernel
theorem dL_law_1329 : decode cL_law 1329 = .ok (.ireturn, 1) := by decide +kernel
theorem dL_law_1330 : decode cL_law 1330 = .ok (.aload_n 1, 1) := by decide +kernel
theorem dL_law_1331 : decode cL_law 1331 = .ok (.aload_n 0, 1) := by decide +kernel
theorem dL_law_1332 : decode cL_law 1332 = .ok (.iload_n 3, 1) := by decide +kernel
theorem dL_law_1333 : decode cL_law 1333 = .ok (.iconst 1, 1) := by decide +kernel
theorem dL_law_1334 : decode cL_law 1334 = .ok (.iadd, 1) := by decide +kernel
theorem dL_law_1335 : decode cL_law 1335 = .ok (.iaload, 1) := by decide +kernel
theorem dL_law_1336 : decode cL_law 1336 = .ok (.aload_n 0, 1) := by decide +kernel
theorem dL_law_1337 : decode cL_law 1337 = .ok (.iload_n 3, 1) := by decide +kernel
theorem dL_law_1338 : decode cL_law 1338 = .ok (.iconst 2, 1) := by decide +kernel
theorem dL_law_1339 : decode cL_law 1339 = .ok (.iadd, 1) := by decide +kernel
theorem dL_law_1340 : decode cL_law 1340 = .ok (.iaload, 1) := by decide +kernel
theorem dL_law_1341 : decode cL_law 1341 = .ok (.invokevirtual 171, 3) := by decide +kernel
theorem dL_law_1344 : decode cL_law 1344 = .ok (.aload_n 2, 1) := by decide +kernel
theorem dL_law_1345 : decode cL_law 1345 = .ok (.aload_n 0, 1) := by decide +kernel
theorem dL_law_1346 : decode cL_law 1346 = .ok (.iload_n 3, 1) := by decide +kernel
theorem dL_law_1347 : decode cL_law 1347 = .ok (.iconst 1, 1) := by decide +kernel
theorem dL_law_1348 : decode cL_law 1348 = .ok (.iadd, 1) := by decide +kernel
theorem dL_law_1349 : decode cL_law 1349 = .ok (.iaload, 1) := by decide +kernel
theorem dL_law_1350 : decode cL_law 1350 = .ok (.aload_n 0, 1) := by decide +kernel
theorem dL_law_1351 : decode cL_law 1351 = .ok (.iload_n 3, 1) := by decide +kernel
theorem dL_law_1352 : decode cL_law 1352 = .ok (.iconst 2, 1) := by decide +kernel
theorem dL_law_1353 : decode cL_law 1353 = .ok (.iadd, 1) := by decide +kernel
theorem dL_law_1354 : decode cL_law 1354 = .ok (.iaload, 1) := by decide +kernel
theorem dL_law_1355 : decode cL_law 1355 = .ok (.invokevirtual 174, 3) := by decide +kernel
theorem dL_law_1358 : decode cL_law 1358 = .ok (.lcmp, 1) := by decide +kernel
theorem dL_law_1359 : decode cL_law 1359 = .ok (.ifCond .eq 68, 3) := by decide +kernel
theorem dL_law_1362 : decode cL_law 1362 = .ok (.iconst 0, 1) := by decide +kernel
theorem dL_law_1363 : decode cL_law 1363 = .ok (.ireturn, 1) := by decide +kernel
theorem dL_law_1364 : decode cL_law 1364 = .ok (.aload_n 1, 1) := by decide +kernel
theorem dL_law_1365 : decode cL_law 1365 = .ok (.aload_n 0, 1) := by decide +kernel
theorem dL_law_1366 : decode cL_law 1366 = .ok (.iload_n 3, 1) := by decide +kernel
theorem dL_law_1367 : decode cL_law 1367 = .ok (.iconst 1, 1) := by decide +kernel
theorem dL_law_1368 : decode cL_law 1368 = .ok (.iadd, 1) := by decide +kernel
theorem dL_law_1369 : decode cL_law 1369 = .ok (.iaload, 1) := by decide +kernel
theorem dL_law_1370 : decode cL_law 1370 = .ok (.aload_n 0, 1) := by decide +kernel
theorem dL_law_1371 : decode cL_law 1371 = .ok (.iload_n 3, 1) := by decide +kernel
theorem dL_law_1372 : decode cL_law 1372 = .ok (.iconst 2, 1) := by decide +kernel
theorem dL_law_1373 : decode cL_law 1373 = .ok (.iadd, 1) := by decide +kernel
theorem dL_law_1374 : decode cL_law 1374 = .ok (.iaload, 1) := by decide +kernel
theorem dL_law_1375 : decode cL_law 1375 = .ok (.aload_n 0, 1) := by decide +kernel
theorem dL_law_1376 : decode cL_law 1376 = .ok (.iload_n 3, 1) := by decide +kernel
theorem dL_law_1377 : decode cL_law 1377 = .ok (.iconst 3, 1) := by decide +kernel
theorem dL_law_1378 : decode cL_law 1378 = .ok (.iadd, 1) := by decide +kernel
theorem dL_law_1379 : decode cL_law 1379 = .ok (.iaload, 1) := by decide +kernel
theorem dL_law_1380 : decode cL_law 1380 = .ok (.aload_n 0, 1) := by decide +kernel
theorem dL_law_1381 : decode cL_law 1381 = .ok (.iload_n 3, 1) := by decide +kernel
theorem dL_law_1382 : decode cL_law 1382 = .ok (.iconst 4, 1) := by decide +kernel
theorem dL_law_1383 : decode cL_law 1383 = .ok (.iadd, 1) := by decide +kernel
theorem dL_law_1384 : decode cL_law 1384 = .ok (.iaload, 1) := by decide +kernel
theorem dL_law_1385 : decode cL_law 1385 = .ok (.aload_n 0, 1) := by decide +kernel
theorem dL_law_1386 : decode cL_law 1386 = .ok (.iload_n 3, 1) := by decide +kernel
theorem dL_law_1387 : decode cL_law 1387 = .ok (.iconst 5, 1) := by decide +kernel
theorem dL_law_1388 : decode cL_law 1388 = .ok (.iadd, 1) := by decide +kernel
theorem dL_law_1389 : decode cL_law 1389 = .ok (.iaload, 1) := by decide +kernel
theorem dL_law_1390 : decode cL_law 1390 = .ok (.invokevirtual 175, 3) := by decide +kernel
theorem dL_law_1393 : decode cL_law 1393 = .ok (.aload_n 2, 1) := by decide +kernel
theorem dL_law_1394 : decode cL_law 1394 = .ok (.aload_n 0, 1) := by decide +kernel
theorem dL_law_1395 : decode cL_law 1395 = .ok (.iload_n 3, 1) := by decide +kernel
theorem dL_law_1396 : decode cL_law 1396 = .ok (.iconst 1, 1) := by decide +kernel
theorem dL_law_1397 : decode cL_law 1397 = .ok (.iadd, 1) := by decide +kernel
theorem dL_law_1398 : decode cL_law 1398 = .ok (.iaload, 1) := by decide +kernel
theorem dL_law_1399 : decode cL_law 1399 = .ok (.aload_n 0, 1) := by decide +kernel
theorem dL_law_1400 : decode cL_law 1400 = .ok (.iload_n 3, 1) := by decide +kernel
theorem dL_law_1401 : decode cL_law 1401 = .ok (.iconst 2, 1) := by decide +kernel
theorem dL_law_1402 : decode cL_law 1402 = .ok (.iadd, 1) := by decide +kernel
theorem dL_law_1403 : decode cL_law 1403 = .ok (.iaload, 1) := by decide +kernel
theorem dL_law_1404 : decode cL_law 1404 = .ok (.aload_n 0, 1) := by decide +kernel
theorem dL_law_1405 : decode cL_law 1405 = .ok (.iload_n 3, 1) := by decide +kernel
theorem dL_law_1406 : decode cL_law 1406 = .ok (.iconst 3, 1) := by decide +kernel
theorem dL_law_1407 : decode cL_law 1407 = .ok (.iadd, 1) := by decide +kernel
theorem dL_law_1408 : decode cL_law 1408 = .ok (.iaload, 1) := by decide +kernel
theorem dL_law_1409 : decode cL_law 1409 = .ok (.aload_n 0, 1) := by decide +kernel
theorem dL_law_1410 : decode cL_law 1410 = .ok (.iload_n 3, 1) := by decide +kernel
theorem dL_law_1411 : decode cL_law 1411 = .ok (.iconst 4, 1) := by decide +kernel
theorem dL_law_1412 : decode cL_law 1412 = .ok (.iadd, 1) := by decide +kernel
theorem dL_law_1413 : decode cL_law 1413 = .ok (.iaload, 1) := by decide +kernel
theorem dL_law_1414 : decode cL_law 1414 = .ok (.aload_n 0, 1) := by decide +kernel
theorem dL_law_1415 : decode cL_law 1415 = .ok (.iload_n 3, 1) := by decide +kernel
theorem dL_law_1416 : decode cL_law 1416 = .ok (.iconst 5, 1) := by decide +kernel
theorem dL_law_1417 : decode cL_law 1417 = .ok (.iadd, 1) := by decide +kernel
theorem dL_law_1418 : decode cL_law 1418 = .ok (.iaload, 1) := by decide +kernel
theorem dL_law_1419 : decode cL_law 1419 = .ok (.invokevirtual 179, 3) := by decide +kernel
theorem dL_law_1422 : decode cL_law 1422 = .ok (.if_icmp .eq 5, 3) := by decide +kernel
theorem dL_law_1425 : decode cL_law 1425 = .ok (.iconst 0, 1) := by decide +kernel
theorem dL_law_1426 : decode cL_law 1426 = .ok (.ireturn, 1) := by decide +kernel
theorem dL_law_1427 : decode cL_law 1427 = .ok (.iinc 3 6, 3) := by decide +kernel
theorem dL_law_1430 : decode cL_law 1430 = .ok (.goto (-1412), 3) := by decide +kernel
theorem dL_law_1433 : decode cL_law 1433 = .ok (.iconst 1, 1) := by decide +kernel
theorem dL_law_1434 : decode cL_law 1434 = .ok (.ireturn, 1) := by decide +kernel
end
