section
theorem dX0_init_0 : decode cX0_init 0 = .ok (.aload_n 0, 1) := by decide +kernel
theorem dX0_init_1 : decode cX0_init 1 = .ok (.invokespecial 3, 3) := by decide +kernel
theorem dX0_init_4 : decode cX0_init 4 = .ok (.aload_n 0, 1) := by decide +kernel
theorem dX0_init_5 : decode cX0_init 5 = .ok (.iconst 0, 1) := by decide +kernel
theorem dX0_init_6 : decode cX0_init 6 = .ok (.putfield 9, 3) := by decide +kernel
theorem dX0_init_9 : decode cX0_init 9 = .ok (.aload_n 0, 1) := by decide +kernel
theorem dX0_init_10 : decode cX0_init 10 = .ok (.bipush 25, 2) := by decide +kernel
theorem dX0_init_12 : decode cX0_init 12 = .ok (.newarray .int, 2) := by decide +kernel
theorem dX0_init_14 : decode cX0_init 14 = .ok (.putfield 15, 3) := by decide +kernel
theorem dX0_init_17 : decode cX0_init 17 = .ok (.aload_n 0, 1) := by decide +kernel
theorem dX0_init_18 : decode cX0_init 18 = .ok (.bipush 25, 2) := by decide +kernel
theorem dX0_init_20 : decode cX0_init 20 = .ok (.newarray .int, 2) := by decide +kernel
theorem dX0_init_22 : decode cX0_init 22 = .ok (.putfield 19, 3) := by decide +kernel
theorem dX0_init_25 : decode cX0_init 25 = .ok (.return_, 1) := by decide +kernel
theorem dX0_gather_0 : decode cX0_gather 0 = .ok (.aload_n 0, 1) := by decide +kernel
theorem dX0_gather_1 : decode cX0_gather 1 = .ok (.iconst 0, 1) := by decide +kernel
theorem dX0_gather_2 : decode cX0_gather 2 = .ok (.putfield 9, 3) := by decide +kernel
theorem dX0_gather_5 : decode cX0_gather 5 = .ok (.iconst 0, 1) := by decide +kernel
theorem dX0_gather_6 : decode cX0_gather 6 = .ok (.istore_n 2, 1) := by decide +kernel
theorem dX0_gather_7 : decode cX0_gather 7 = .ok (.iload_n 2, 1) := by decide +kernel
theorem dX0_gather_8 : decode cX0_gather 8 = .ok (.aload_n 1, 1) := by decide +kernel
theorem dX0_gather_9 : decode cX0_gather 9 = .ok (.getfield 22, 3) := by decide +kernel
theorem dX0_gather_12 : decode cX0_gather 12 = .ok (.if_icmp .ge 47, 3) := by decide +kernel
theorem dX0_gather_15 : decode cX0_gather 15 = .ok (.aload_n 1, 1) := by decide +kernel
theorem dX0_gather_16 : decode cX0_gather 16 = .ok (.getfield 27, 3) := by decide +kernel
theorem dX0_gather_19 : decode cX0_gather 19 = .ok (.iload_n 2, 1) := by decide +kernel
theorem dX0_gather_20 : decode cX0_gather 20 = .ok (.iaload, 1) := by decide +kernel
theorem dX0_gather_21 : decode cX0_gather 21 = .ok (.aload_n 1, 1) := by decide +kernel
theorem dX0_gather_22 : decode cX0_gather 22 = .ok (.getfield 28, 3) := by decide +kernel
theorem dX0_gather_25 : decode cX0_gather 25 = .ok (.invokestatic 32, 3) := by decide +kernel
theorem dX0_gather_28 : decode cX0_gather 28 = .ok (.istore_n 3, 1) := by decide +kernel
theorem dX0_gather_29 : decode cX0_gather 29 = .ok (.iload_n 3, 1) := by decide +kernel
theorem dX0_gather_30 : decode cX0_gather 30 = .ok (.ifCond .eq 23, 3) := by decide +kernel
theorem dX0_gather_33 : decode cX0_gather 33 = .ok (.aload_n 1, 1) := by decide +kernel
theorem dX0_gather_34 : decode cX0_gather 34 = .ok (.getfield 38, 3) := by decide +kernel
theorem dX0_gather_37 : decode cX0_gather 37 = .ok (.iload_n 2, 1) := by decide +kernel
theorem dX0_gather_38 : decode cX0_gather 38 = .ok (.iaload, 1) := by decide +kernel
theorem dX0_gather_39 : decode cX0_gather 39 = .ok (.ifCond .eq 14, 3) := by decide +kernel
theorem dX0_gather_42 : decode cX0_gather 42 = .ok (.aload_n 0, 1) := by decide +kernel
theorem dX0_gather_43 : decode cX0_gather 43 = .ok (.iload_n 3, 1) := by decide +kernel
theorem dX0_gather_44 : decode cX0_gather 44 = .ok (.aload_n 1, 1) := by decide +kernel
theorem dX0_gather_45 : decode cX0_gather 45 = .ok (.getfield 38, 3) := by decide +kernel
theorem dX0_gather_48 : decode cX0_gather 48 = .ok (.iload_n 2, 1) := by decide +kernel
theorem dX0_gather_49 : decode cX0_gather 49 = .ok (.iaload, 1) := by decide +kernel
theorem dX0_gather_50 : decode cX0_gather 50 = .ok (.invokevirtual 39, 3) := by decide +kernel
theorem dX0_gather_53 : decode cX0_gather 53 = .ok (.iinc 2 1, 3) := by decide +kernel
theorem dX0_gather_56 : decode cX0_gather 56 = .ok (.goto (-49), 3) := by decide +kernel
theorem dX0_gather_59 : decode cX0_gather 59 = .ok (.return_, 1) := by decide +kernel
theorem dX0_put_0 : decode cX0_put 0 = .ok (.iconst 0, 1) := by decide +kernel
theorem dX0_put_1 : decode cX0_put 1 = .ok (.istore_n 3, 1) := by decide +kernel
theorem dX0_put_2 : decode cX0_put 2 = .ok (.iload_n 3, 1) := by decide +kernel
theorem dX0_put_3 : decode cX0_put 3 = .ok (.aload_n 0, 1) := by decide +kernel
theorem dX0_put_4 : decode cX0_put 4 = .ok (.getfield 9, 3) := by decide +kernel
theorem dX0_put_7 : decode cX0_put 7 = .ok (.if_icmp .ge 19, 3) := by decide +kernel
theorem dX0_put_10 : decode cX0_put 10 = .ok (.aload_n 0, 1) := by decide +kernel
theorem dX0_put_11 : decode cX0_put 11 = .ok (.getfield 15, 3) := by decide +kernel
theorem dX0_put_14 : decode cX0_put 14 = .ok (.iload_n 3, 1) := by decide +kernel
theorem dX0_put_15 : decode cX0_put 15 = .ok (.iaload, 1) := by decide +kernel
theorem dX0_put_16 : decode cX0_put 16 = .ok (.iload_n 1, 1) := by decide +kernel
theorem dX0_put_17 : decode cX0_put 17 = .ok (.if_icmp .ge 9, 3) := by decide +kernel
theorem dX0_put_20 : decode cX0_put 20 = .ok (.iinc 3 1, 3) := by decide +kernel
theorem dX0_put_23 : decode cX0_put 23 = .ok (.goto (-21), 3) := by decide +kernel
theorem dX0_put_26 : decode cX0_put 26 = .ok (.iload_n 3, 1) := by decide +kernel
theorem dX0_put_27 : decode cX0_put 27 = .ok (.aload_n 0, 1) := by decide +kernel
theorem dX0_put_28 : decode cX0_put 28 = .ok (.getfield 9, 3) := by decide +kernel
theorem dX0_put_31 : decode cX0_put 31 = .ok (.if_icmp .ge 26, 3) := by decide +kernel
theorem dX0_put_34 : decode cX0_put 34 = .ok (.aload_n 0, 1) := by decide +kernel
theorem dX0_put_35 : decode cX0_put 35 = .ok (.getfield 15, 3) := by decide +kernel
theorem dX0_put_38 : decode cX0_put 38 = .ok (.iload_n 3, 1) := by decide +kernel
theorem dX0_put_39 : decode cX0_put 39 = .ok (.iaload, 1) := by decide +kernel
theorem dX0_put_40 : decode cX0_put 40 = .ok (.iload_n 1, 1) := by decide +kernel
theorem dX0_put_41 : decode cX0_put 41 = .ok (.if_icmp .ne 16, 3) := by decide +kernel
theorem dX0_put_44 : decode cX0_put 44 = .ok (.aload_n 0, 1) := by decide +kernel
theorem dX0_put_45 : decode cX0_put 45 = .ok (.getfield 19, 3) := by decide +kernel
theorem dX0_put_48 : decode cX0_put 48 = .ok (.iload_n 3, 1) := by decide +kernel
theorem dX0_put_49 : decode cX0_put 49 = .ok (.dup2, 1) := by decide +kernel
theorem dX0_put_50 : decode cX0_put 50 = .ok (.iaload, 1) := by decide +kernel
theorem dX0_put_51 : decode cX0_put 51 = .ok (.iload_n 2, 1) := by decide +kernel
theorem dX0_put_52 : decode cX0_put 52 = .ok (.iadd, 1) := by decide +kernel
theorem dX0_put_53 : decode cX0_put 53 = .ok (.iastore, 1) := by decide +kernel
theorem dX0_put_54 : decode cX0_put 54 = .ok (.goto 89, 3) := by decide +kernel
theorem dX0_put_57 : decode cX0_put 57 = .ok (.aload_n 0, 1) := by decide +kernel
theorem dX0_put_58 : decode cX0_put 58 = .ok (.getfield 9, 3) := by decide +kernel
theorem dX0_put_61 : decode cX0_put 61 = .ok (.aload_n 0, 1) := by decide +kernel
theorem dX0_put_62 : decode cX0_put 62 = .ok (.getfield 15, 3) := by decide +kernel
theorem dX0_put_65 : decode cX0_put 65 = .ok (.arraylength, 1) := by decide +kernel
theorem dX0_put_66 : decode cX0_put 66 = .ok (.if_icmp .ge 77, 3) := by decide +kernel
theorem dX0_put_69 : decode cX0_put 69 = .ok (.aload_n 0, 1) := by decide +kernel
theorem dX0_put_70 : decode cX0_put 70 = .ok (.getfield 9, 3) := by decide +kernel
theorem dX0_put_73 : decode cX0_put 73 = .ok (.istore 4, 2) := by decide +kernel
theorem dX0_put_75 : decode cX0_put 75 = .ok (.iload 4, 2) := by decide +kernel
theorem dX0_put_77 : decode cX0_put 77 = .ok (.iload_n 3, 1) := by decide +kernel
theorem dX0_put_78 : decode cX0_put 78 = .ok (.if_icmp .le 41, 3) := by decide +kernel
theorem dX0_put_81 : decode cX0_put 81 = .ok (.aload_n 0, 1) := by decide +kernel
theorem dX0_put_82 : decode cX0_put 82 = .ok (.getfield 15, 3) := by decide +kernel
theorem dX0_put_85 : decode cX0_put 85 = .ok (.iload 4, 2) := by decide +kernel
theorem dX0_put_87 : decode cX0_put 87 = .ok (.aload_n 0, 1) := by decide +kernel
theorem dX0_put_88 : decode cX0_put 88 = .ok (.getfield 15, 3) := by decide +kernel
theorem dX0_put_91 : decode cX0_put 91 = .ok (.iload 4, 2) := by decide +kernel
theorem dX0_put_93 : decode cX0_put 93 = .ok (.iconst 1, 1) := by decide +kernel
theorem dX0_put_94 : decode cX0_put 94 = .ok (.isub, 1) := by decide +kernel
theorem dX0_put_95 : decode cX0_put 95 = .ok (.iaload, 1) := by decide +kernel
theorem dX0_put_96 : decode cX0_put 96 = .ok (.iastore, 1) := by decide +kernel
theorem dX0_put_97 : decode cX0_put 97 = .ok (.aload_n 0, 1) := by decide +kernel
theorem dX0_put_98 : decode cX0_put 98 = .ok (.getfield 19, 3) := by decide +kernel
theorem dX0_put_101 : decode cX0_put 101 = .ok (.iload 4, 2) := by decide +kernel
theorem dX0_put_103 : decode cX0_put 103 = .ok (.aload_n 0, 1) := by decide +kernel
theorem dX0_put_104 : decode cX0_put 104 = .ok (.getfield 19, 3) := by decide +kernel
theorem dX0_put_107 : decode cX0_put 107 = .ok (.iload 4, 2) := by decide +kernel
theorem dX0_put_109 : decode cX0_put 109 = .ok (.iconst 1, 1) := by decide +kernel
theorem dX0_put_110 : decode cX0_put 110 = .ok (.isub, 1) := by decide +kernel
theorem dX0_put_111 : decode cX0_put 111 = .ok (.iaload, 1) := by decide +kernel
theorem dX0_put_112 : decode cX0_put 112 = .ok (.iastore, 1) := by decide +kernel
theorem dX0_put_113 : decode cX0_put 113 = .ok (.iinc 4 (-1), 3) := by decide +kernel
theorem dX0_put_116 : decode cX0_put 116 = .ok (.goto (-41), 3) := by decide +kernel
theorem dX0_put_119 : decode cX0_put 119 = .ok (.aload_n 0, 1) := by decide +kernel
theorem dX0_put_120 : decode cX0_put 120 = .ok (.getfield 15, 3) := by decide +kernel
theorem dX0_put_123 : decode cX0_put 123 = .ok (.iload_n 3, 1) := by decide +kernel
theorem dX0_put_124 : decode cX0_put 124 = .ok (.iload_n 1, 1) := by decide +kernel
theorem dX0_put_125 : decode cX0_put 125 = .ok (.iastore, 1) := by decide +kernel
theorem dX0_put_126 : decode cX0_put 126 = .ok (.aload_n 0, 1) := by decide +kernel
theorem dX0_put_127 : decode cX0_put 127 = .ok (.getfield 19, 3) := by decide +kernel
theorem dX0_put_130 : decode cX0_put 130 = .ok (.iload_n 3, 1) := by decide +kernel
theorem dX0_put_131 : decode cX0_put 131 = .ok (.iload_n 2, 1) := by decide +kernel
theorem dX0_put_132 : decode cX0_put 132 = .ok (.iastore, 1) := by decide +kernel
theorem dX0_put_133 : decode cX0_put 133 = .ok (.aload_n 0, 1) := by decide +kernel
theorem dX0_put_134 : decode cX0_put 134 = .ok (.dup, 1) := by decide +kernel
theorem dX0_put_135 : decode cX0_put 135 = .ok (.getfield 9, 3) := by decide +kernel
theorem dX0_put_138 : decode cX0_put 138 = .ok (.iconst 1, 1) := by decide +kernel
theorem dX0_put_139 : decode cX0_put 139 = .ok (.iadd, 1) := by decide +kernel
theorem dX0_put_140 : decode cX0_put 140 = .ok (.putfield 9, 3) := by decide +kernel
theorem dX0_put_143 : decode cX0_put 143 = .ok (.return_, 1) := by decide +kernel
theorem dX1_init_0 : decode cX1_init 0 = .ok (.aload_n 0, 1) := by decide +kernel
theorem dX1_init_1 : decode cX1_init 1 = .ok (.invokespecial 3, 3) := by decide +kernel
theorem dX1_init_4 : decode cX1_init 4 = .ok (.aload_n 0, 1) := by decide +kernel
theorem dX1_init_5 : decode cX1_init 5 = .ok (.iconst 0, 1) := by decide +kernel
theorem dX1_init_6 : decode cX1_init 6 = .ok (.putfield 9, 3) := by decide +kernel
theorem dX1_init_9 : decode cX1_init 9 = .ok (.aload_n 0, 1) := by decide +kernel
theorem dX1_init_10 : decode cX1_init 10 = .ok (.bipush 8, 2) := by decide +kernel
theorem dX1_init_12 : decode cX1_init 12 = .ok (.newarray .int, 2) := by decide +kernel
theorem dX1_init_14 : decode cX1_init 14 = .ok (.putfield 15, 3) := by decide +kernel
theorem dX1_init_17 : decode cX1_init 17 = .ok (.aload_n 0, 1) := by decide +kernel
theorem dX1_init_18 : decode cX1_init 18 = .ok (.bipush 8, 2) := by decide +kernel
theorem dX1_init_20 : decode cX1_init 20 = .ok (.newarray .boolean, 2) := by decide +kernel
theorem dX1_init_22 : decode cX1_init 22 = .ok (.putfield 19, 3) := by decide +kernel
theorem dX1_init_25 : decode cX1_init 25 = .ok (.aload_n 0, 1) := by decide +kernel
theorem dX1_init_26 : decode cX1_init 26 = .ok (.iconst 0, 1) := by decide +kernel
theorem dX1_init_27 : decode cX1_init 27 = .ok (.putfield 23, 3) := by decide +kernel
theorem dX1_init_30 : decode cX1_init 30 = .ok (.aload_n 0, 1) := by decide +kernel
theorem dX1_init_31 : decode cX1_init 31 = .ok (.bipush 25, 2) := by decide +kernel
theorem dX1_init_33 : decode cX1_init 33 = .ok (.newarray .int, 2) := by decide +kernel
theorem dX1_init_35 : decode cX1_init 35 = .ok (.putfield 26, 3) := by decide +kernel
theorem dX1_init_38 : decode cX1_init 38 = .ok (.aload_n 0, 1) := by decide +kernel
theorem dX1_init_39 : decode cX1_init 39 = .ok (.bipush 25, 2) := by decide +kernel
theorem dX1_init_41 : decode cX1_init 41 = .ok (.newarray .int, 2) := by decide +kernel
theorem dX1_init_43 : decode cX1_init 43 = .ok (.putfield 29, 3) := by decide +kernel
theorem dX1_init_46 : decode cX1_init 46 = .ok (.aload_n 0, 1) := by decide +kernel
theorem dX1_init_47 : decode cX1_init 47 = .ok (.iconst 1, 1) := by decide +kernel
theorem dX1_init_48 : decode cX1_init 48 = .ok (.putfield 32, 3) := by decide +kernel
theorem dX1_init_51 : decode cX1_init 51 = .ok (.aload_n 0, 1) := by decide +kernel
theorem dX1_init_52 : decode cX1_init 52 = .ok (.sipush 1000, 3) := by decide +kernel
theorem dX1_init_55 : decode cX1_init 55 = .ok (.putfield 35, 3) := by decide +kernel
theorem dX1_init_58 : decode cX1_init 58 = .ok (.aload_n 0, 1) := by decide +kernel
theorem dX1_init_59 : decode cX1_init 59 = .ok (.bipush 20, 2) := by decide +kernel
theorem dX1_init_61 : decode cX1_init 61 = .ok (.putfield 38, 3) := by decide +kernel
theorem dX1_init_64 : decode cX1_init 64 = .ok (.aload_n 0, 1) := by decide +kernel
theorem dX1_init_65 : decode cX1_init 65 = .ok (.iconst 0, 1) := by decide +kernel
theorem dX1_init_66 : decode cX1_init 66 = .ok (.putfield 41, 3) := by decide +kernel
theorem dX1_init_69 : decode cX1_init 69 = .ok (.aload_n 0, 1) := by decide +kernel
theorem dX1_init_70 : decode cX1_init 70 = .ok (.iconst 5, 1) := by decide +kernel
theorem dX1_init_71 : decode cX1_init 71 = .ok (.newarray .int, 2) := by decide +kernel
theorem dX1_init_73 : decode cX1_init 73 = .ok (.putfield 44, 3) := by decide +kernel
theorem dX1_init_76 : decode cX1_init 76 = .ok (.aload_n 0, 1) := by decide +kernel
theorem dX1_init_77 : decode cX1_init 77 = .ok (.iconst 5, 1) := by decide +kernel
theorem dX1_init_78 : decode cX1_init 78 = .ok (.newarray .boolean, 2) := by decide +kernel
theorem dX1_init_80 : decode cX1_init 80 = .ok (.putfield 47, 3) := by decide +kernel
theorem dX1_init_83 : decode cX1_init 83 = .ok (.aload_n 0, 1) := by decide +kernel
theorem dX1_init_84 : decode cX1_init 84 = .ok (.iconst 0, 1) := by decide +kernel
theorem dX1_init_85 : decode cX1_init 85 = .ok (.putfield 50, 3) := by decide +kernel
theorem dX1_init_88 : decode cX1_init 88 = .ok (.aload_n 0, 1) := by decide +kernel
theorem dX1_init_89 : decode cX1_init 89 = .ok (.bipush 8, 2) := by decide +kernel
theorem dX1_init_91 : decode cX1_init 91 = .ok (.newarray .int, 2) := by decide +kernel
theorem dX1_init_93 : decode cX1_init 93 = .ok (.putfield 53, 3) := by decide +kernel
theorem dX1_init_96 : decode cX1_init 96 = .ok (.aload_n 0, 1) := by decide +kernel
theorem dX1_init_97 : decode cX1_init 97 = .ok (.bipush 8, 2) := by decide +kernel
theorem dX1_init_99 : decode cX1_init 99 = .ok (.newarray .int, 2) := by decide +kernel
theorem dX1_init_101 : decode cX1_init 101 = .ok (.putfield 56, 3) := by decide +kernel
theorem dX1_init_104 : decode cX1_init 104 = .ok (.return_, 1) := by decide +kernel
theorem dX1_copyFrom_0 : decode cX1_copyFrom 0 = .ok (.aload_n 0, 1) := by decide +kernel
theorem dX1_copyFrom_1 : decode cX1_copyFrom 1 = .ok (.aload_n 1, 1) := by decide +kernel
theorem dX1_copyFrom_2 : decode cX1_copyFrom 2 = .ok (.getfield 9, 3) := by decide +kernel
theorem dX1_copyFrom_5 : decode cX1_copyFrom 5 = .ok (.putfield 9, 3) := by decide +kernel
theorem dX1_copyFrom_8 : decode cX1_copyFrom 8 = .ok (.aload_n 0, 1) := by decide +kernel
theorem dX1_copyFrom_9 : decode cX1_copyFrom 9 = .ok (.aload_n 1, 1) := by decide +kernel
theorem dX1_copyFrom_10 : decode cX1_copyFrom 10 = .ok (.getfield 23, 3) := by decide +kernel
theorem dX1_copyFrom_13 : decode cX1_copyFrom 13 = .ok (.putfield 23, 3) := by decide +kernel
theorem dX1_copyFrom_16 : decode cX1_copyFrom 16 = .ok (.aload_n 0, 1) := by decide +kernel
theorem dX1_copyFrom_17 : decode cX1_copyFrom 17 = .ok (.aload_n 1, 1) := by decide +kernel
theorem dX1_copyFrom_18 : decode cX1_copyFrom 18 = .ok (.getfield 32, 3) := by decide +kernel
theorem dX1_copyFrom_21 : decode cX1_copyFrom 21 = .ok (.putfield 32, 3) := by decide +kernel
theorem dX1_copyFrom_24 : decode cX1_copyFrom 24 = .ok (.aload_n 0, 1) := by decide +kernel
theorem dX1_copyFrom_25 : decode cX1_copyFrom 25 = .ok (.aload_n 1, 1) := by decide +kernel
theorem dX1_copyFrom_26 : decode cX1_copyFrom 26 = .ok (.getfield 35, 3) := by decide +kernel
theorem dX1_copyFrom_29 : decode cX1_copyFrom 29 = .ok (.putfield 35, 3) := by decide +kernel
theorem dX1_copyFrom_32 : decode cX1_copyFrom 32 = .ok (.aload_n 0, 1) := by decide +kernel
theorem dX1_copyFrom_33 : decode cX1_copyFrom 33 = .ok (.aload_n 1, 1) := by decide +kernel
theorem dX1_copyFrom_34 : decode cX1_copyFrom 34 = .ok (.getfield 38, 3) := by decide +kernel
theorem dX1_copyFrom_37 : decode cX1_copyFrom 37 = .ok (.putfield 38, 3) := by decide +kernel
theorem dX1_copyFrom_40 : decode cX1_copyFrom 40 = .ok (.aload_n 0, 1) := by decide +kernel
theorem dX1_copyFrom_41 : decode cX1_copyFrom 41 = .ok (.aload_n 1, 1) := by decide +kernel
theorem dX1_copyFrom_42 : decode cX1_copyFrom 42 = .ok (.getfield 41, 3) := by decide +kernel
theorem dX1_copyFrom_45 : decode cX1_copyFrom 45 = .ok (.putfield 41, 3) := by decide +kernel
theorem dX1_copyFrom_48 : decode cX1_copyFrom 48 = .ok (.aload_n 0, 1) := by decide +kernel
theorem dX1_copyFrom_49 : decode cX1_copyFrom 49 = .ok (.aload_n 1, 1) := by decide +kernel
theorem dX1_copyFrom_50 : decode cX1_copyFrom 50 = .ok (.getfield 50, 3) := by decide +kernel
theorem dX1_copyFrom_53 : decode cX1_copyFrom 53 = .ok (.putfield 50, 3) := by decide +kernel
theorem dX1_copyFrom_56 : decode cX1_copyFrom 56 = .ok (.iconst 0, 1) := by decide +kernel
theorem dX1_copyFrom_57 : decode cX1_copyFrom 57 = .ok (.istore_n 2, 1) := by decide +kernel
theorem dX1_copyFrom_58 : decode cX1_copyFrom 58 = .ok (.iload_n 2, 1) := by decide +kernel
theorem dX1_copyFrom_59 : decode cX1_copyFrom 59 = .ok (.bipush 8, 2) := by decide +kernel
theorem dX1_copyFrom_61 : decode cX1_copyFrom 61 = .ok (.if_icmp .ge 33, 3) := by decide +kernel
theorem dX1_copyFrom_64 : decode cX1_copyFrom 64 = .ok (.aload_n 0, 1) := by decide +kernel
theorem dX1_copyFrom_65 : decode cX1_copyFrom 65 = .ok (.getfield 15, 3) := by decide +kernel
theorem dX1_copyFrom_68 : decode cX1_copyFrom 68 = .ok (.iload_n 2, 1) := by decide +kernel
theorem dX1_copyFrom_69 : decode cX1_copyFrom 69 = .ok (.aload_n 1, 1) := by decide +kernel
theorem dX1_copyFrom_70 : decode cX1_copyFrom 70 = .ok (.getfield 15, 3) := by decide +kernel
theorem dX1_copyFrom_73 : decode cX1_copyFrom 73 = .ok (.iload_n 2, 1) := by decide +kernel
theorem dX1_copyFrom_74 : decode cX1_copyFrom 74 = .ok (.iaload, 1) := by decide +kernel
theorem dX1_copyFrom_75 : decode cX1_copyFrom 75 = .ok (.iastore, 1) := by decide +kernel
theorem dX1_copyFrom_76 : decode cX1_copyFrom 76 = .ok (.aload_n 0, 1) := by decide +kernel
theorem dX1_copyFrom_77 : decode cX1_copyFrom 77 = .ok (.getfield 19, 3) := by decide +kernel
theorem dX1_copyFrom_80 : decode cX1_copyFrom 80 = .ok (.iload_n 2, 1) := by decide +kernel
theorem dX1_copyFrom_81 : decode cX1_copyFrom 81 = .ok (.aload_n 1, 1) := by decide +kernel
theorem dX1_copyFrom_82 : decode cX1_copyFrom 82 = .ok (.getfield 19, 3) := by decide +kernel
theorem dX1_copyFrom_85 : decode cX1_copyFrom 85 = .ok (.iload_n 2, 1) := by decide +kernel
theorem dX1_copyFrom_86 : decode cX1_copyFrom 86 = .ok (.baload, 1) := by decide +kernel
theorem dX1_copyFrom_87 : decode cX1_copyFrom 87 = .ok (.bastore, 1) := by decide +kernel
theorem dX1_copyFrom_88 : decode cX1_copyFrom 88 = .ok (.iinc 2 1, 3) := by decide +kernel
theorem dX1_copyFrom_91 : decode cX1_copyFrom 91 = .ok (.goto (-33), 3) := by decide +kernel
theorem dX1_copyFrom_94 : decode cX1_copyFrom 94 = .ok (.iconst 0, 1) := by decide +kernel
theorem dX1_copyFrom_95 : decode cX1_copyFrom 95 = .ok (.istore_n 2, 1) := by decide +kernel
theorem dX1_copyFrom_96 : decode cX1_copyFrom 96 = .ok (.iload_n 2, 1) := by decide +kernel
theorem dX1_copyFrom_97 : decode cX1_copyFrom 97 = .ok (.bipush 24, 2) := by decide +kernel
theorem dX1_copyFrom_99 : decode cX1_copyFrom 99 = .ok (.if_icmp .ge 33, 3) := by decide +kernel
theorem dX1_copyFrom_102 : decode cX1_copyFrom 102 = .ok (.aload_n 0, 1) := by decide +kernel
theorem dX1_copyFrom_103 : decode cX1_copyFrom 103 = .ok (.getfield 26, 3) := by decide +kernel
theorem dX1_copyFrom_106 : decode cX1_copyFrom 106 = .ok (.iload_n 2, 1) := by decide +kernel
theorem dX1_copyFrom_107 : decode cX1_copyFrom 107 = .ok (.aload_n 1, 1) := by decide +kernel
theorem dX1_copyFrom_108 : decode cX1_copyFrom 108 = .ok (.getfield 26, 3) := by decide +kernel
theorem dX1_copyFrom_111 : decode cX1_copyFrom 111 = .ok (.iload_n 2, 1) := by decide +kernel
theorem dX1_copyFrom_112 : decode cX1_copyFrom 112 = .ok (.iaload, 1) := by decide +kernel
theorem dX1_copyFrom_113 : decode cX1_copyFrom 113 = .ok (.iastore, 1) := by decide +kernel
theorem dX1_copyFrom_114 : decode cX1_copyFrom 114 = .ok (.aload_n 0, 1) := by decide +kernel
theorem dX1_copyFrom_115 : decode cX1_copyFrom 115 = .ok (.getfield 29, 3) := by decide +kernel
theorem dX1_copyFrom_118 : decode cX1_copyFrom 118 = .ok (.iload_n 2, 1) := by decide +kernel
theorem dX1_copyFrom_119 : decode cX1_copyFrom 119 = .ok (.aload_n 1, 1) := by decide +kernel
theorem dX1_copyFrom_120 : decode cX1_copyFrom 120 = .ok (.getfield 29, 3) := by decide +kernel
theorem dX1_copyFrom_123 : decode cX1_copyFrom 123 = .ok (.iload_n 2, 1) := by decide +kernel
theorem dX1_copyFrom_124 : decode cX1_copyFrom 124 = .ok (.iaload, 1) := by decide +kernel
theorem dX1_copyFrom_125 : decode cX1_copyFrom 125 = .ok (.iastore, 1) := by decide +kernel
theorem dX1_copyFrom_126 : decode cX1_copyFrom 126 = .ok (.iinc 2 1, 3) := by decide +kernel
theorem dX1_copyFrom_129 : decode cX1_copyFrom 129 = .ok (.goto (-33), 3) := by decide +kernel
theorem dX1_copyFrom_132 : decode cX1_copyFrom 132 = .ok (.iconst 0, 1) := by decide +kernel
theorem dX1_copyFrom_133 : decode cX1_copyFrom 133 = .ok (.istore_n 2, 1) := by decide +kernel
theorem dX1_copyFrom_134 : decode cX1_copyFrom 134 = .ok (.iload_n 2, 1) := by decide +kernel
theorem dX1_copyFrom_135 : decode cX1_copyFrom 135 = .ok (.iconst 5, 1) := by decide +kernel
theorem dX1_copyFrom_136 : decode cX1_copyFrom 136 = .ok (.if_icmp .ge 33, 3) := by decide +kernel
theorem dX1_copyFrom_139 : decode cX1_copyFrom 139 = .ok (.aload_n 0, 1) := by decide +kernel
theorem dX1_copyFrom_140 : decode cX1_copyFrom 140 = .ok (.getfield 44, 3) := by decide +kernel
theorem dX1_copyFrom_143 : decode cX1_copyFrom 143 = .ok (.iload_n 2, 1) := by decide +kernel
theorem dX1_copyFrom_144 : decode cX1_copyFrom 144 = .ok (.aload_n 1, 1) := by decide +kernel
theorem dX1_copyFrom_145 : decode cX1_copyFrom 145 = .ok (.getfield 44, 3) := by decide +kernel
theorem dX1_copyFrom_148 : decode cX1_copyFrom 148 = .ok (.iload_n 2, 1) := by decide +kernel
theorem dX1_copyFrom_149 : decode cX1_copyFrom 149 = .ok (.iaload, 1) := by decide +kernel
theorem dX1_copyFrom_150 : decode cX1_copyFrom 150 = .ok (.iastore, 1) := by decide +kernel
theorem dX1_copyFrom_151 : decode cX1_copyFrom 151 = .ok (.aload_n 0, 1) := by decide +kernel
theorem dX1_copyFrom_152 : decode cX1_copyFrom 152 = .ok (.getfield 47, 3) := by decide +kernel
theorem dX1_copyFrom_155 : decode cX1_copyFrom 155 = .ok (.iload_n 2, 1) := by decide +kernel
theorem dX1_copyFrom_156 : decode cX1_copyFrom 156 = .ok (.aload_n 1, 1) := by decide +kernel
theorem dX1_copyFrom_157 : decode cX1_copyFrom 157 = .ok (.getfield 47, 3) := by decide +kernel
theorem dX1_copyFrom_160 : decode cX1_copyFrom 160 = .ok (.iload_n 2, 1) := by decide +kernel
theorem dX1_copyFrom_161 : decode cX1_copyFrom 161 = .ok (.baload, 1) := by decide +kernel
theorem dX1_copyFrom_162 : decode cX1_copyFrom 162 = .ok (.bastore, 1) := by decide +kernel
theorem dX1_copyFrom_163 : decode cX1_copyFrom 163 = .ok (.iinc 2 1, 3) := by decide +kernel
theorem dX1_copyFrom_166 : decode cX1_copyFrom 166 = .ok (.goto (-32), 3) := by decide +kernel
theorem dX1_copyFrom_169 : decode cX1_copyFrom 169 = .ok (.iconst 0, 1) := by decide +kernel
theorem dX1_copyFrom_170 : decode cX1_copyFrom 170 = .ok (.istore_n 2, 1) := by decide +kernel
theorem dX1_copyFrom_171 : decode cX1_copyFrom 171 = .ok (.iload_n 2, 1) := by decide +kernel
theorem dX1_copyFrom_172 : decode cX1_copyFrom 172 = .ok (.bipush 8, 2) := by decide +kernel
theorem dX1_copyFrom_174 : decode cX1_copyFrom 174 = .ok (.if_icmp .ge 33, 3) := by decide +kernel
theorem dX1_copyFrom_177 : decode cX1_copyFrom 177 = .ok (.aload_n 0, 1) := by decide +kernel
theorem dX1_copyFrom_178 : decode cX1_copyFrom 178 = .ok (.getfield 53, 3) := by decide +kernel
theorem dX1_copyFrom_181 : decode cX1_copyFrom 181 = .ok (.iload_n 2, 1) := by decide +kernel
theorem dX1_copyFrom_182 : decode cX1_copyFrom 182 = .ok (.aload_n 1, 1) := by decide +kernel
theorem dX1_copyFrom_183 : decode cX1_copyFrom 183 = .ok (.getfield 53, 3) := by decide +kernel
theorem dX1_copyFrom_186 : decode cX1_copyFrom 186 = .ok (.iload_n 2, 1) := by decide +kernel
theorem dX1_copyFrom_187 : decode cX1_copyFrom 187 = .ok (.iaload, 1) := by decide +kernel
theorem dX1_copyFrom_188 : decode cX1_copyFrom 188 = .ok (.iastore, 1) := by decide +kernel
theorem dX1_copyFrom_189 : decode cX1_copyFrom 189 = .ok (.aload_n 0, 1) := by decide +kernel
theorem dX1_copyFrom_190 : decode cX1_copyFrom 190 = .ok (.getfield 56, 3) := by decide +kernel
theorem dX1_copyFrom_193 : decode cX1_copyFrom 193 = .ok (.iload_n 2, 1) := by decide +kernel
theorem dX1_copyFrom_194 : decode cX1_copyFrom 194 = .ok (.aload_n 1, 1) := by decide +kernel
theorem dX1_copyFrom_195 : decode cX1_copyFrom 195 = .ok (.getfield 56, 3) := by decide +kernel
theorem dX1_copyFrom_198 : decode cX1_copyFrom 198 = .ok (.iload_n 2, 1) := by decide +kernel
theorem dX1_copyFrom_199 : decode cX1_copyFrom 199 = .ok (.iaload, 1) := by decide +kernel
theorem dX1_copyFrom_200 : decode cX1_copyFrom 200 = .ok (.iastore, 1) := by decide +kernel
theorem dX1_copyFrom_201 : decode cX1_copyFrom 201 = .ok (.iinc 2 1, 3) := by decide +kernel
theorem dX1_copyFrom_204 : decode cX1_copyFrom 204 = .ok (.goto (-33), 3) := by decide +kernel
theorem dX1_copyFrom_207 : decode cX1_copyFrom 207 = .ok (.return_, 1) := by decide +kernel
theorem dX1_hasCandidate_0 : decode cX1_hasCandidate 0 = .ok (.iload_n 1, 1) := by decide +kernel
theorem dX1_hasCandidate_1 : decode cX1_hasCandidate 1 = .ok (.ifCond .lt 15, 3) := by decide +kernel
theorem dX1_hasCandidate_4 : decode cX1_hasCandidate 4 = .ok (.iload_n 1, 1) := by decide +kernel
theorem dX1_hasCandidate_5 : decode cX1_hasCandidate 5 = .ok (.aload_n 0, 1) := by decide +kernel
theorem dX1_hasCandidate_6 : decode cX1_hasCandidate 6 = .ok (.getfield 9, 3) := by decide +kernel
theorem dX1_hasCandidate_9 : decode cX1_hasCandidate 9 = .ok (.if_icmp .ge 7, 3) := by decide +kernel
theorem dX1_hasCandidate_12 : decode cX1_hasCandidate 12 = .ok (.iconst 1, 1) := by decide +kernel
theorem dX1_hasCandidate_13 : decode cX1_hasCandidate 13 = .ok (.goto 4, 3) := by decide +kernel
theorem dX1_hasCandidate_16 : decode cX1_hasCandidate 16 = .ok (.iconst 0, 1) := by decide +kernel
theorem dX1_hasCandidate_17 : decode cX1_hasCandidate 17 = .ok (.ireturn, 1) := by decide +kernel
theorem dX1_hasBallot_0 : decode cX1_hasBallot 0 = .ok (.iload_n 1, 1) := by decide +kernel
theorem dX1_hasBallot_1 : decode cX1_hasBallot 1 = .ok (.ifCond .lt 15, 3) := by decide +kernel
theorem dX1_hasBallot_4 : decode cX1_hasBallot 4 = .ok (.iload_n 1, 1) := by decide +kernel
theorem dX1_hasBallot_5 : decode cX1_hasBallot 5 = .ok (.aload_n 0, 1) := by decide +kernel
theorem dX1_hasBallot_6 : decode cX1_hasBallot 6 = .ok (.getfield 23, 3) := by decide +kernel
theorem dX1_hasBallot_9 : decode cX1_hasBallot 9 = .ok (.if_icmp .ge 7, 3) := by decide +kernel
theorem dX1_hasBallot_12 : decode cX1_hasBallot 12 = .ok (.iconst 1, 1) := by decide +kernel
theorem dX1_hasBallot_13 : decode cX1_hasBallot 13 = .ok (.goto 4, 3) := by decide +kernel
theorem dX1_hasBallot_16 : decode cX1_hasBallot 16 = .ok (.iconst 0, 1) := by decide +kernel
theorem dX1_hasBallot_17 : decode cX1_hasBallot 17 = .ok (.ireturn, 1) := by decide +kernel
theorem dX1_together_0 : decode cX1_together 0 = .ok (.lconst 0, 1) := by decide +kernel
theorem dX1_together_1 : decode cX1_together 1 = .ok (.lstore_n 1, 1) := by decide +kernel
theorem dX1_together_2 : decode cX1_together 2 = .ok (.iconst 0, 1) := by decide +kernel
theorem dX1_together_3 : decode cX1_together 3 = .ok (.istore_n 3, 1) := by decide +kernel
theorem dX1_together_4 : decode cX1_together 4 = .ok (.iload_n 3, 1) := by decide +kernel
theorem dX1_together_5 : decode cX1_together 5 = .ok (.aload_n 0, 1) := by decide +kernel
theorem dX1_together_6 : decode cX1_together 6 = .ok (.getfield 23, 3) := by decide +kernel
theorem dX1_together_9 : decode cX1_together 9 = .ok (.if_icmp .ge 19, 3) := by decide +kernel
theorem dX1_together_12 : decode cX1_together 12 = .ok (.lload_n 1, 1) := by decide +kernel
theorem dX1_together_13 : decode cX1_together 13 = .ok (.aload_n 0, 1) := by decide +kernel
theorem dX1_together_14 : decode cX1_together 14 = .ok (.getfield 29, 3) := by decide +kernel
theorem dX1_together_17 : decode cX1_together 17 = .ok (.iload_n 3, 1) := by decide +kernel
theorem dX1_together_18 : decode cX1_together 18 = .ok (.iaload, 1) := by decide +kernel
theorem dX1_together_19 : decode cX1_together 19 = .ok (.i2l, 1) := by decide +kernel
theorem dX1_together_20 : decode cX1_together 20 = .ok (.ladd, 1) := by decide +kernel
theorem dX1_together_21 : decode cX1_together 21 = .ok (.lstore_n 1, 1) := by decide +kernel
theorem dX1_together_22 : decode cX1_together 22 = .ok (.iinc 3 1, 3) := by decide +kernel
theorem dX1_together_25 : decode cX1_together 25 = .ok (.goto (-21), 3) := by decide +kernel
theorem dX1_together_28 : decode cX1_together 28 = .ok (.lload_n 1, 1) := by decide +kernel
theorem dX1_together_29 : decode cX1_together 29 = .ok (.lreturn, 1) := by decide +kernel
theorem dX1_placeInLot_0 : decode cX1_placeInLot 0 = .ok (.iconst 0, 1) := by decide +kernel
theorem dX1_placeInLot_1 : decode cX1_placeInLot 1 = .ok (.istore_n 2, 1) := by decide +kernel
theorem dX1_placeInLot_2 : decode cX1_placeInLot 2 = .ok (.iload_n 2, 1) := by decide +kernel
theorem dX1_placeInLot_3 : decode cX1_placeInLot 3 = .ok (.aload_n 0, 1) := by decide +kernel
theorem dX1_placeInLot_4 : decode cX1_placeInLot 4 = .ok (.getfield 9, 3) := by decide +kernel
theorem dX1_placeInLot_7 : decode cX1_placeInLot 7 = .ok (.if_icmp .ge 21, 3) := by decide +kernel
theorem dX1_placeInLot_10 : decode cX1_placeInLot 10 = .ok (.aload_n 0, 1) := by decide +kernel
theorem dX1_placeInLot_11 : decode cX1_placeInLot 11 = .ok (.getfield 15, 3) := by decide +kernel
theorem dX1_placeInLot_14 : decode cX1_placeInLot 14 = .ok (.iload_n 2, 1) := by decide +kernel
theorem dX1_placeInLot_15 : decode cX1_placeInLot 15 = .ok (.iaload, 1) := by decide +kernel
theorem dX1_placeInLot_16 : decode cX1_placeInLot 16 = .ok (.iload_n 1, 1) := by decide +kernel
theorem dX1_placeInLot_17 : decode cX1_placeInLot 17 = .ok (.if_icmp .ne 5, 3) := by decide +kernel
theorem dX1_placeInLot_20 : decode cX1_placeInLot 20 = .ok (.iload_n 2, 1) := by decide +kernel
theorem dX1_placeInLot_21 : decode cX1_placeInLot 21 = .ok (.ireturn, 1) := by decide +kernel
theorem dX1_placeInLot_22 : decode cX1_placeInLot 22 = .ok (.iinc 2 1, 3) := by decide +kernel
theorem dX1_placeInLot_25 : decode cX1_placeInLot 25 = .ok (.goto (-23), 3) := by decide +kernel
theorem dX1_placeInLot_28 : decode cX1_placeInLot 28 = .ok (.iconst (-1), 1) := by decide +kernel
theorem dX1_placeInLot_29 : decode cX1_placeInLot 29 = .ok (.ireturn, 1) := by decide +kernel
theorem dX1_firstHere_0 : decode cX1_firstHere 0 = .ok (.aload_n 0, 1) := by decide +kernel
theorem dX1_firstHere_1 : decode cX1_firstHere 1 = .ok (.getfield 26, 3) := by decide +kernel
theorem dX1_firstHere_4 : decode cX1_firstHere 4 = .ok (.iload_n 1, 1) := by decide +kernel
theorem dX1_firstHere_5 : decode cX1_firstHere 5 = .ok (.iaload, 1) := by decide +kernel
theorem dX1_firstHere_6 : decode cX1_firstHere 6 = .ok (.aload_n 0, 1) := by decide +kernel
theorem dX1_firstHere_7 : decode cX1_firstHere 7 = .ok (.getfield 19, 3) := by decide +kernel
theorem dX1_firstHere_10 : decode cX1_firstHere 10 = .ok (.invokestatic 59, 3) := by decide +kernel
theorem dX1_firstHere_13 : decode cX1_firstHere 13 = .ok (.iconst 0, 1) := by decide +kernel
theorem dX1_firstHere_14 : decode cX1_firstHere 14 = .ok (.invokestatic 65, 3) := by decide +kernel
theorem dX1_firstHere_17 : decode cX1_firstHere 17 = .ok (.istore_n 2, 1) := by decide +kernel
theorem dX1_firstHere_18 : decode cX1_firstHere 18 = .ok (.iload_n 2, 1) := by decide +kernel
theorem dX1_firstHere_19 : decode cX1_firstHere 19 = .ok (.ifCond .ge 8, 3) := by decide +kernel
theorem dX1_firstHere_22 : decode cX1_firstHere 22 = .ok (.bipush (-5), 2) := by decide +kernel
theorem dX1_firstHere_24 : decode cX1_firstHere 24 = .ok (.goto 4, 3) := by decide +kernel
theorem dX1_firstHere_27 : decode cX1_firstHere 27 = .ok (.iload_n 2, 1) := by decide +kernel
theorem dX1_firstHere_28 : decode cX1_firstHere 28 = .ok (.ireturn, 1) := by decide +kernel
theorem dX1_manyFirst_0 : decode cX1_manyFirst 0 = .ok (.iconst 0, 1) := by decide +kernel
theorem dX1_manyFirst_1 : decode cX1_manyFirst 1 = .ok (.istore_n 2, 1) := by decide +kernel
theorem dX1_manyFirst_2 : decode cX1_manyFirst 2 = .ok (.iconst 0, 1) := by decide +kernel
theorem dX1_manyFirst_3 : decode cX1_manyFirst 3 = .ok (.istore_n 3, 1) := by decide +kernel
theorem dX1_manyFirst_4 : decode cX1_manyFirst 4 = .ok (.iload_n 3, 1) := by decide +kernel
theorem dX1_manyFirst_5 : decode cX1_manyFirst 5 = .ok (.aload_n 0, 1) := by decide +kernel
theorem dX1_manyFirst_6 : decode cX1_manyFirst 6 = .ok (.getfield 23, 3) := by decide +kernel
theorem dX1_manyFirst_9 : decode cX1_manyFirst 9 = .ok (.if_icmp .ge 27, 3) := by decide +kernel
theorem dX1_manyFirst_12 : decode cX1_manyFirst 12 = .ok (.aload_n 0, 1) := by decide +kernel
theorem dX1_manyFirst_13 : decode cX1_manyFirst 13 = .ok (.iload_n 3, 1) := by decide +kernel
theorem dX1_manyFirst_14 : decode cX1_manyFirst 14 = .ok (.invokevirtual 69, 3) := by decide +kernel
theorem dX1_manyFirst_17 : decode cX1_manyFirst 17 = .ok (.iload_n 1, 1) := by decide +kernel
theorem dX1_manyFirst_18 : decode cX1_manyFirst 18 = .ok (.if_icmp .ne 12, 3) := by decide +kernel
theorem dX1_manyFirst_21 : decode cX1_manyFirst 21 = .ok (.iload_n 2, 1) := by decide +kernel
theorem dX1_manyFirst_22 : decode cX1_manyFirst 22 = .ok (.aload_n 0, 1) := by decide +kernel
theorem dX1_manyFirst_23 : decode cX1_manyFirst 23 = .ok (.getfield 29, 3) := by decide +kernel
theorem dX1_manyFirst_26 : decode cX1_manyFirst 26 = .ok (.iload_n 3, 1) := by decide +kernel
theorem dX1_manyFirst_27 : decode cX1_manyFirst 27 = .ok (.iaload, 1) := by decide +kernel
theorem dX1_manyFirst_28 : decode cX1_manyFirst 28 = .ok (.iadd, 1) := by decide +kernel
theorem dX1_manyFirst_29 : decode cX1_manyFirst 29 = .ok (.istore_n 2, 1) := by decide +kernel
theorem dX1_manyFirst_30 : decode cX1_manyFirst 30 = .ok (.iinc 3 1, 3) := by decide +kernel
theorem dX1_manyFirst_33 : decode cX1_manyFirst 33 = .ok (.goto (-29), 3) := by decide +kernel
theorem dX1_manyFirst_36 : decode cX1_manyFirst 36 = .ok (.iload_n 2, 1) := by decide +kernel
theorem dX1_manyFirst_37 : decode cX1_manyFirst 37 = .ok (.ireturn, 1) := by decide +kernel
theorem dX1_manyAhead_0 : decode cX1_manyAhead 0 = .ok (.iconst 0, 1) := by decide +kernel
theorem dX1_manyAhead_1 : decode cX1_manyAhead 1 = .ok (.istore_n 3, 1) := by decide +kernel
theorem dX1_manyAhead_2 : decode cX1_manyAhead 2 = .ok (.iconst 0, 1) := by decide +kernel
theorem dX1_manyAhead_3 : decode cX1_manyAhead 3 = .ok (.istore 4, 2) := by decide +kernel
theorem dX1_manyAhead_5 : decode cX1_manyAhead 5 = .ok (.iload 4, 2) := by decide +kernel
theorem dX1_manyAhead_7 : decode cX1_manyAhead 7 = .ok (.aload_n 0, 1) := by decide +kernel
theorem dX1_manyAhead_8 : decode cX1_manyAhead 8 = .ok (.getfield 23, 3) := by decide +kernel
theorem dX1_manyAhead_11 : decode cX1_manyAhead 11 = .ok (.if_icmp .ge 44, 3) := by decide +kernel
theorem dX1_manyAhead_14 : decode cX1_manyAhead 14 = .ok (.aload_n 0, 1) := by decide +kernel
theorem dX1_manyAhead_15 : decode cX1_manyAhead 15 = .ok (.getfield 26, 3) := by decide +kernel
theorem dX1_manyAhead_18 : decode cX1_manyAhead 18 = .ok (.iload 4, 2) := by decide +kernel
theorem dX1_manyAhead_20 : decode cX1_manyAhead 20 = .ok (.iaload, 1) := by decide +kernel
theorem dX1_manyAhead_21 : decode cX1_manyAhead 21 = .ok (.iload_n 1, 1) := by decide +kernel
theorem dX1_manyAhead_22 : decode cX1_manyAhead 22 = .ok (.invokestatic 73, 3) := by decide +kernel
theorem dX1_manyAhead_25 : decode cX1_manyAhead 25 = .ok (.aload_n 0, 1) := by decide +kernel
theorem dX1_manyAhead_26 : decode cX1_manyAhead 26 = .ok (.getfield 26, 3) := by decide +kernel
theorem dX1_manyAhead_29 : decode cX1_manyAhead 29 = .ok (.iload 4, 2) := by decide +kernel
theorem dX1_manyAhead_31 : decode cX1_manyAhead 31 = .ok (.iaload, 1) := by decide +kernel
theorem dX1_manyAhead_32 : decode cX1_manyAhead 32 = .ok (.iload_n 2, 1) := by decide +kernel
theorem dX1_manyAhead_33 : decode cX1_manyAhead 33 = .ok (.invokestatic 73, 3) := by decide +kernel
theorem dX1_manyAhead_36 : decode cX1_manyAhead 36 = .ok (.if_icmp .ge 13, 3) := by decide +kernel
theorem dX1_manyAhead_39 : decode cX1_manyAhead 39 = .ok (.iload_n 3, 1) := by decide +kernel
theorem dX1_manyAhead_40 : decode cX1_manyAhead 40 = .ok (.aload_n 0, 1) := by decide +kernel
theorem dX1_manyAhead_41 : decode cX1_manyAhead 41 = .ok (.getfield 29, 3) := by decide +kernel
theorem dX1_manyAhead_44 : decode cX1_manyAhead 44 = .ok (.iload 4, 2) := by decide +kernel
theorem dX1_manyAhead_46 : decode cX1_manyAhead 46 = .ok (.iaload, 1) := by decide +kernel
theorem dX1_manyAhead_47 : decode cX1_manyAhead 47 = .ok (.iadd, 1) := by decide +kernel
theorem dX1_manyAhead_48 : decode cX1_manyAhead 48 = .ok (.istore_n 3, 1) := by decide +kernel
theorem dX1_manyAhead_49 : decode cX1_manyAhead 49 = .ok (.iinc 4 1, 3) := by decide +kernel
theorem dX1_manyAhead_52 : decode cX1_manyAhead 52 = .ok (.goto (-47), 3) := by decide +kernel
theorem dX1_manyAhead_55 : decode cX1_manyAhead 55 = .ok (.iload_n 3, 1) := by decide +kernel
theorem dX1_manyAhead_56 : decode cX1_manyAhead 56 = .ok (.ireturn, 1) := by decide +kernel
theorem dX1_isSeenSo_0 : decode cX1_isSeenSo 0 = .ok (.iconst 0, 1) := by decide +kernel
theorem dX1_isSeenSo_1 : decode cX1_isSeenSo 1 = .ok (.istore_n 2, 1) := by decide +kernel
theorem dX1_isSeenSo_2 : decode cX1_isSeenSo 2 = .ok (.iload_n 2, 1) := by decide +kernel
theorem dX1_isSeenSo_3 : decode cX1_isSeenSo 3 = .ok (.aload_n 0, 1) := by decide +kernel
theorem dX1_isSeenSo_4 : decode cX1_isSeenSo 4 = .ok (.getfield 41, 3) := by decide +kernel
theorem dX1_isSeenSo_7 : decode cX1_isSeenSo 7 = .ok (.if_icmp .ge 38, 3) := by decide +kernel
theorem dX1_isSeenSo_10 : decode cX1_isSeenSo 10 = .ok (.iload_n 1, 1) := by decide +kernel
theorem dX1_isSeenSo_11 : decode cX1_isSeenSo 11 = .ok (.aload_n 0, 1) := by decide +kernel
theorem dX1_isSeenSo_12 : decode cX1_isSeenSo 12 = .ok (.getfield 44, 3) := by decide +kernel
theorem dX1_isSeenSo_15 : decode cX1_isSeenSo 15 = .ok (.iload_n 2, 1) := by decide +kernel
theorem dX1_isSeenSo_16 : decode cX1_isSeenSo 16 = .ok (.iaload, 1) := by decide +kernel
theorem dX1_isSeenSo_17 : decode cX1_isSeenSo 17 = .ok (.ishr, 1) := by decide +kernel
theorem dX1_isSeenSo_18 : decode cX1_isSeenSo 18 = .ok (.iconst 1, 1) := by decide +kernel
theorem dX1_isSeenSo_19 : decode cX1_isSeenSo 19 = .ok (.iand, 1) := by decide +kernel
theorem dX1_isSeenSo_20 : decode cX1_isSeenSo 20 = .ok (.ifCond .eq 7, 3) := by decide +kernel
theorem dX1_isSeenSo_23 : decode cX1_isSeenSo 23 = .ok (.iconst 1, 1) := by decide +kernel
theorem dX1_isSeenSo_24 : decode cX1_isSeenSo 24 = .ok (.goto 4, 3) := by decide +kernel
theorem dX1_isSeenSo_27 : decode cX1_isSeenSo 27 = .ok (.iconst 0, 1) := by decide +kernel
theorem dX1_isSeenSo_28 : decode cX1_isSeenSo 28 = .ok (.aload_n 0, 1) := by decide +kernel
theorem dX1_isSeenSo_29 : decode cX1_isSeenSo 29 = .ok (.getfield 47, 3) := by decide +kernel
theorem dX1_isSeenSo_32 : decode cX1_isSeenSo 32 = .ok (.iload_n 2, 1) := by decide +kernel
theorem dX1_isSeenSo_33 : decode cX1_isSeenSo 33 = .ok (.baload, 1) := by decide +kernel
theorem dX1_isSeenSo_34 : decode cX1_isSeenSo 34 = .ok (.if_icmp .eq 5, 3) := by decide +kernel
theorem dX1_isSeenSo_37 : decode cX1_isSeenSo 37 = .ok (.iconst 0, 1) := by decide +kernel
theorem dX1_isSeenSo_38 : decode cX1_isSeenSo 38 = .ok (.ireturn, 1) := by decide +kernel
theorem dX1_isSeenSo_39 : decode cX1_isSeenSo 39 = .ok (.iinc 2 1, 3) := by decide +kernel
theorem dX1_isSeenSo_42 : decode cX1_isSeenSo 42 = .ok (.goto (-40), 3) := by decide +kernel
theorem dX1_isSeenSo_45 : decode cX1_isSeenSo 45 = .ok (.iconst 1, 1) := by decide +kernel
theorem dX1_isSeenSo_46 : decode cX1_isSeenSo 46 = .ok (.ireturn, 1) := by decide +kernel
theorem dX1_suffer_0 : decode cX1_suffer 0 = .ok (.iload_n 1, 1) := by decide +kernel
theorem dX1_suffer_1 : decode cX1_suffer 1 = .ok (.iconst 2, 1) := by decide +kernel
theorem dX1_suffer_2 : decode cX1_suffer 2 = .ok (.if_icmp .ne 9, 3) := by decide +kernel
theorem dX1_suffer_5 : decode cX1_suffer 5 = .ok (.aload_n 0, 1) := by decide +kernel
theorem dX1_suffer_6 : decode cX1_suffer 6 = .ok (.iload_n 2, 1) := by decide +kernel
theorem dX1_suffer_7 : decode cX1_suffer 7 = .ok (.putfield 32, 3) := by decide +kernel
theorem dX1_suffer_10 : decode cX1_suffer 10 = .ok (.return_, 1) := by decide +kernel
theorem dX1_suffer_11 : decode cX1_suffer 11 = .ok (.aload_n 0, 1) := by decide +kernel
theorem dX1_suffer_12 : decode cX1_suffer 12 = .ok (.iload_n 2, 1) := by decide +kernel
theorem dX1_suffer_13 : decode cX1_suffer 13 = .ok (.invokevirtual 76, 3) := by decide +kernel
theorem dX1_suffer_16 : decode cX1_suffer 16 = .ok (.ifCond .ne 4, 3) := by decide +kernel
theorem dX1_suffer_19 : decode cX1_suffer 19 = .ok (.return_, 1) := by decide +kernel
theorem dX1_suffer_20 : decode cX1_suffer 20 = .ok (.iload_n 1, 1) := by decide +kernel
theorem dX1_suffer_21 : decode cX1_suffer 21 = .ok (.tableswitch 59 0 3 #[31, 41, 59, 51], 31) := by decide +kernel
theorem dX1_suffer_52 : decode cX1_suffer 52 = .ok (.aload_n 0, 1) := by decide +kernel
theorem dX1_suffer_53 : decode cX1_suffer 53 = .ok (.getfield 19, 3) := by decide +kernel
theorem dX1_suffer_56 : decode cX1_suffer 56 = .ok (.iload_n 2, 1) := by decide +kernel
theorem dX1_suffer_57 : decode cX1_suffer 57 = .ok (.iconst 1, 1) := by decide +kernel
theorem dX1_suffer_58 : decode cX1_suffer 58 = .ok (.bastore, 1) := by decide +kernel
theorem dX1_suffer_59 : decode cX1_suffer 59 = .ok (.goto 21, 3) := by decide +kernel
theorem dX1_suffer_62 : decode cX1_suffer 62 = .ok (.aload_n 0, 1) := by decide +kernel
theorem dX1_suffer_63 : decode cX1_suffer 63 = .ok (.getfield 19, 3) := by decide +kernel
theorem dX1_suffer_66 : decode cX1_suffer 66 = .ok (.iload_n 2, 1) := by decide +kernel
theorem dX1_suffer_67 : decode cX1_suffer 67 = .ok (.iconst 0, 1) := by decide +kernel
theorem dX1_suffer_68 : decode cX1_suffer 68 = .ok (.bastore, 1) := by decide +kernel
theorem dX1_suffer_69 : decode cX1_suffer 69 = .ok (.goto 11, 3) := by decide +kernel
theorem dX1_suffer_72 : decode cX1_suffer 72 = .ok (.aload_n 0, 1) := by decide +kernel
theorem dX1_suffer_73 : decode cX1_suffer 73 = .ok (.iload_n 2, 1) := by decide +kernel
theorem dX1_suffer_74 : decode cX1_suffer 74 = .ok (.invokevirtual 80, 3) := by decide +kernel
theorem dX1_suffer_77 : decode cX1_suffer 77 = .ok (.goto 3, 3) := by decide +kernel
theorem dX1_suffer_80 : decode cX1_suffer 80 = .ok (.return_, 1) := by decide +kernel
theorem dX1_emptyLedBy_0 : decode cX1_emptyLedBy 0 = .ok (.iconst 0, 1) := by decide +kernel
theorem dX1_emptyLedBy_1 : decode cX1_emptyLedBy 1 = .ok (.istore_n 2, 1) := by decide +kernel
theorem dX1_emptyLedBy_2 : decode cX1_emptyLedBy 2 = .ok (.iload_n 2, 1) := by decide +kernel
theorem dX1_emptyLedBy_3 : decode cX1_emptyLedBy 3 = .ok (.aload_n 0, 1) := by decide +kernel
theorem dX1_emptyLedBy_4 : decode cX1_emptyLedBy 4 = .ok (.getfield 23, 3) := by decide +kernel
theorem dX1_emptyLedBy_7 : decode cX1_emptyLedBy 7 = .ok (.if_icmp .ge 25, 3) := by decide +kernel
theorem dX1_emptyLedBy_10 : decode cX1_emptyLedBy 10 = .ok (.aload_n 0, 1) := by decide +kernel
theorem dX1_emptyLedBy_11 : decode cX1_emptyLedBy 11 = .ok (.iload_n 2, 1) := by decide +kernel
theorem dX1_emptyLedBy_12 : decode cX1_emptyLedBy 12 = .ok (.invokevirtual 69, 3) := by decide +kernel
theorem dX1_emptyLedBy_15 : decode cX1_emptyLedBy 15 = .ok (.iload_n 1, 1) := by decide +kernel
theorem dX1_emptyLedBy_16 : decode cX1_emptyLedBy 16 = .ok (.if_icmp .ne 10, 3) := by decide +kernel
theorem dX1_emptyLedBy_19 : decode cX1_emptyLedBy 19 = .ok (.aload_n 0, 1) := by decide +kernel
theorem dX1_emptyLedBy_20 : decode cX1_emptyLedBy 20 = .ok (.getfield 29, 3) := by decide +kernel
theorem dX1_emptyLedBy_23 : decode cX1_emptyLedBy 23 = .ok (.iload_n 2, 1) := by decide +kernel
theorem dX1_emptyLedBy_24 : decode cX1_emptyLedBy 24 = .ok (.iconst 0, 1) := by decide +kernel
theorem dX1_emptyLedBy_25 : decode cX1_emptyLedBy 25 = .ok (.iastore, 1) := by decide +kernel
theorem dX1_emptyLedBy_26 : decode cX1_emptyLedBy 26 = .ok (.iinc 2 1, 3) := by decide +kernel
theorem dX1_emptyLedBy_29 : decode cX1_emptyLedBy 29 = .ok (.goto (-27), 3) := by decide +kernel
theorem dX1_emptyLedBy_32 : decode cX1_emptyLedBy 32 = .ok (.return_, 1) := by decide +kernel
theorem dX2_isRow_0 : decode cX2_isRow 0 = .ok (.iload_n 0, 1) := by decide +kernel
theorem dX2_isRow_1 : decode cX2_isRow 1 = .ok (.iconst 1, 1) := by decide +kernel
theorem dX2_isRow_2 : decode cX2_isRow 2 = .ok (.if_icmp .lt 9, 3) := by decide +kernel
theorem dX2_isRow_5 : decode cX2_isRow 5 = .ok (.iload_n 0, 1) := by decide +kernel
theorem dX2_isRow_6 : decode cX2_isRow 6 = .ok (.ldc 7, 2) := by decide +kernel
theorem dX2_isRow_8 : decode cX2_isRow 8 = .ok (.if_icmp .le 5, 3) := by decide +kernel
theorem dX2_isRow_11 : decode cX2_isRow 11 = .ok (.iconst 0, 1) := by decide +kernel
theorem dX2_isRow_12 : decode cX2_isRow 12 = .ok (.ireturn, 1) := by decide +kernel
theorem dX2_isRow_13 : decode cX2_isRow 13 = .ok (.iconst 0, 1) := by decide +kernel
theorem dX2_isRow_14 : decode cX2_isRow 14 = .ok (.istore_n 2, 1) := by decide +kernel
theorem dX2_isRow_15 : decode cX2_isRow 15 = .ok (.iload_n 0, 1) := by decide +kernel
theorem dX2_isRow_16 : decode cX2_isRow 16 = .ok (.istore_n 3, 1) := by decide +kernel
theorem dX2_isRow_17 : decode cX2_isRow 17 = .ok (.iconst 0, 1) := by decide +kernel
theorem dX2_isRow_18 : decode cX2_isRow 18 = .ok (.istore 4, 2) := by decide +kernel
theorem dX2_isRow_20 : decode cX2_isRow 20 = .ok (.iload 4, 2) := by decide +kernel
theorem dX2_isRow_22 : decode cX2_isRow 22 = .ok (.getstatic 8, 3) := by decide +kernel
theorem dX2_isRow_25 : decode cX2_isRow 25 = .ok (.arraylength, 1) := by decide +kernel
theorem dX2_isRow_26 : decode cX2_isRow 26 = .ok (.if_icmp .ge 54, 3) := by decide +kernel
theorem dX2_isRow_29 : decode cX2_isRow 29 = .ok (.iload_n 3, 1) := by decide +kernel
theorem dX2_isRow_30 : decode cX2_isRow 30 = .ok (.ifCond .le 50, 3) := by decide +kernel
theorem dX2_isRow_33 : decode cX2_isRow 33 = .ok (.iload_n 3, 1) := by decide +kernel
theorem dX2_isRow_34 : decode cX2_isRow 34 = .ok (.bipush 10, 2) := by decide +kernel
theorem dX2_isRow_36 : decode cX2_isRow 36 = .ok (.irem, 1) := by decide +kernel
theorem dX2_isRow_37 : decode cX2_isRow 37 = .ok (.istore 5, 2) := by decide +kernel
theorem dX2_isRow_39 : decode cX2_isRow 39 = .ok (.iload 5, 2) := by decide +kernel
theorem dX2_isRow_41 : decode cX2_isRow 41 = .ok (.iconst 1, 1) := by decide +kernel
theorem dX2_isRow_42 : decode cX2_isRow 42 = .ok (.if_icmp .lt 18, 3) := by decide +kernel
theorem dX2_isRow_45 : decode cX2_isRow 45 = .ok (.iload 5, 2) := by decide +kernel
theorem dX2_isRow_47 : decode cX2_isRow 47 = .ok (.iload_n 1, 1) := by decide +kernel
theorem dX2_isRow_48 : decode cX2_isRow 48 = .ok (.if_icmp .gt 12, 3) := by decide +kernel
theorem dX2_isRow_51 : decode cX2_isRow 51 = .ok (.iload_n 2, 1) := by decide +kernel
theorem dX2_isRow_52 : decode cX2_isRow 52 = .ok (.iload 5, 2) := by decide +kernel
theorem dX2_isRow_54 : decode cX2_isRow 54 = .ok (.ishr, 1) := by decide +kernel
theorem dX2_isRow_55 : decode cX2_isRow 55 = .ok (.iconst 1, 1) := by decide +kernel
theorem dX2_isRow_56 : decode cX2_isRow 56 = .ok (.iand, 1) := by decide +kernel
theorem dX2_isRow_57 : decode cX2_isRow 57 = .ok (.ifCond .eq 5, 3) := by decide +kernel
theorem dX2_isRow_60 : decode cX2_isRow 60 = .ok (.iconst 0, 1) := by decide +kernel
theorem dX2_isRow_61 : decode cX2_isRow 61 = .ok (.ireturn, 1) := by decide +kernel
theorem dX2_isRow_62 : decode cX2_isRow 62 = .ok (.iload_n 2, 1) := by decide +kernel
theorem dX2_isRow_63 : decode cX2_isRow 63 = .ok (.iconst 1, 1) := by decide +kernel
theorem dX2_isRow_64 : decode cX2_isRow 64 = .ok (.iload 5, 2) := by decide +kernel
theorem dX2_isRow_66 : decode cX2_isRow 66 = .ok (.ishl, 1) := by decide +kernel
theorem dX2_isRow_67 : decode cX2_isRow 67 = .ok (.ior, 1) := by decide +kernel
theorem dX2_isRow_68 : decode cX2_isRow 68 = .ok (.istore_n 2, 1) := by decide +kernel
theorem dX2_isRow_69 : decode cX2_isRow 69 = .ok (.iload_n 3, 1) := by decide +kernel
theorem dX2_isRow_70 : decode cX2_isRow 70 = .ok (.bipush 10, 2) := by decide +kernel
theorem dX2_isRow_72 : decode cX2_isRow 72 = .ok (.idiv, 1) := by decide +kernel
theorem dX2_isRow_73 : decode cX2_isRow 73 = .ok (.istore_n 3, 1) := by decide +kernel
theorem dX2_isRow_74 : decode cX2_isRow 74 = .ok (.iinc 4 1, 3) := by decide +kernel
theorem dX2_isRow_77 : decode cX2_isRow 77 = .ok (.goto (-57), 3) := by decide +kernel
theorem dX2_isRow_80 : decode cX2_isRow 80 = .ok (.iconst 1, 1) := by decide +kernel
theorem dX2_isRow_81 : decode cX2_isRow 81 = .ok (.ireturn, 1) := by decide +kernel
theorem dX2_filledUp_0 : decode cX2_filledUp 0 = .ok (.iload_n 0, 1) := by decide +kernel
theorem dX2_filledUp_1 : decode cX2_filledUp 1 = .ok (.istore_n 1, 1) := by decide +kernel
theorem dX2_filledUp_2 : decode cX2_filledUp 2 = .ok (.iconst 1, 1) := by decide +kernel
theorem dX2_filledUp_3 : decode cX2_filledUp 3 = .ok (.istore_n 2, 1) := by decide +kernel
theorem dX2_filledUp_4 : decode cX2_filledUp 4 = .ok (.iload_n 2, 1) := by decide +kernel
theorem dX2_filledUp_5 : decode cX2_filledUp 5 = .ok (.getstatic 8, 3) := by decide +kernel
theorem dX2_filledUp_8 : decode cX2_filledUp 8 = .ok (.arraylength, 1) := by decide +kernel
theorem dX2_filledUp_9 : decode cX2_filledUp 9 = .ok (.if_icmp .ge 23, 3) := by decide +kernel
theorem dX2_filledUp_12 : decode cX2_filledUp 12 = .ok (.iload_n 1, 1) := by decide +kernel
theorem dX2_filledUp_13 : decode cX2_filledUp 13 = .ok (.getstatic 8, 3) := by decide +kernel
theorem dX2_filledUp_16 : decode cX2_filledUp 16 = .ok (.iconst 0, 1) := by decide +kernel
theorem dX2_filledUp_17 : decode cX2_filledUp 17 = .ok (.iaload, 1) := by decide +kernel
theorem dX2_filledUp_18 : decode cX2_filledUp 18 = .ok (.if_icmp .ge 8, 3) := by decide +kernel
theorem dX2_filledUp_21 : decode cX2_filledUp 21 = .ok (.iload_n 1, 1) := by decide +kernel
theorem dX2_filledUp_22 : decode cX2_filledUp 22 = .ok (.bipush 10, 2) := by decide +kernel
theorem dX2_filledUp_24 : decode cX2_filledUp 24 = .ok (.imul, 1) := by decide +kernel
theorem dX2_filledUp_25 : decode cX2_filledUp 25 = .ok (.istore_n 1, 1) := by decide +kernel
theorem dX2_filledUp_26 : decode cX2_filledUp 26 = .ok (.iinc 2 1, 3) := by decide +kernel
theorem dX2_filledUp_29 : decode cX2_filledUp 29 = .ok (.goto (-25), 3) := by decide +kernel
theorem dX2_filledUp_32 : decode cX2_filledUp 32 = .ok (.iload_n 1, 1) := by decide +kernel
theorem dX2_filledUp_33 : decode cX2_filledUp 33 = .ok (.ireturn, 1) := by decide +kernel
theorem dX2_asTold_0 : decode cX2_asTold 0 = .ok (.iload_n 0, 1) := by decide +kernel
theorem dX2_asTold_1 : decode cX2_asTold 1 = .ok (.istore_n 1, 1) := by decide +kernel
theorem dX2_asTold_2 : decode cX2_asTold 2 = .ok (.iconst 1, 1) := by decide +kernel
theorem dX2_asTold_3 : decode cX2_asTold 3 = .ok (.istore_n 2, 1) := by decide +kernel
theorem dX2_asTold_4 : decode cX2_asTold 4 = .ok (.iload_n 2, 1) := by decide +kernel
theorem dX2_asTold_5 : decode cX2_asTold 5 = .ok (.getstatic 8, 3) := by decide +kernel
theorem dX2_asTold_8 : decode cX2_asTold 8 = .ok (.arraylength, 1) := by decide +kernel
theorem dX2_asTold_9 : decode cX2_asTold 9 = .ok (.if_icmp .ge 21, 3) := by decide +kernel
theorem dX2_asTold_12 : decode cX2_asTold 12 = .ok (.iload_n 1, 1) := by decide +kernel
theorem dX2_asTold_13 : decode cX2_asTold 13 = .ok (.bipush 10, 2) := by decide +kernel
theorem dX2_asTold_15 : decode cX2_asTold 15 = .ok (.irem, 1) := by decide +kernel
theorem dX2_asTold_16 : decode cX2_asTold 16 = .ok (.ifCond .ne 8, 3) := by decide +kernel
theorem dX2_asTold_19 : decode cX2_asTold 19 = .ok (.iload_n 1, 1) := by decide +kernel
theorem dX2_asTold_20 : decode cX2_asTold 20 = .ok (.bipush 10, 2) := by decide +kernel
theorem dX2_asTold_22 : decode cX2_asTold 22 = .ok (.idiv, 1) := by decide +kernel
theorem dX2_asTold_23 : decode cX2_asTold 23 = .ok (.istore_n 1, 1) := by decide +kernel
theorem dX2_asTold_24 : decode cX2_asTold 24 = .ok (.iinc 2 1, 3) := by decide +kernel
theorem dX2_asTold_27 : decode cX2_asTold 27 = .ok (.goto (-23), 3) := by decide +kernel
theorem dX2_asTold_30 : decode cX2_asTold 30 = .ok (.iload_n 1, 1) := by decide +kernel
theorem dX2_asTold_31 : decode cX2_asTold 31 = .ok (.ireturn, 1) := by decide +kernel
theorem dX2_at_0 : decode cX2_at 0 = .ok (.iload_n 1, 1) := by decide +kernel
theorem dX2_at_1 : decode cX2_at 1 = .ok (.ifCond .lt 19, 3) := by decide +kernel
theorem dX2_at_4 : decode cX2_at 4 = .ok (.iload_n 1, 1) := by decide +kernel
theorem dX2_at_5 : decode cX2_at 5 = .ok (.getstatic 8, 3) := by decide +kernel
theorem dX2_at_8 : decode cX2_at 8 = .ok (.arraylength, 1) := by decide +kernel
theorem dX2_at_9 : decode cX2_at 9 = .ok (.if_icmp .ge 11, 3) := by decide +kernel
theorem dX2_at_12 : decode cX2_at 12 = .ok (.getstatic 8, 3) := by decide +kernel
theorem dX2_at_15 : decode cX2_at 15 = .ok (.iload_n 1, 1) := by decide +kernel
theorem dX2_at_16 : decode cX2_at 16 = .ok (.iaload, 1) := by decide +kernel
theorem dX2_at_17 : decode cX2_at 17 = .ok (.ifCond .gt 5, 3) := by decide +kernel
theorem dX2_at_20 : decode cX2_at 20 = .ok (.iconst (-1), 1) := by decide +kernel
theorem dX2_at_21 : decode cX2_at 21 = .ok (.ireturn, 1) := by decide +kernel
theorem dX2_at_22 : decode cX2_at 22 = .ok (.iload_n 0, 1) := by decide +kernel
theorem dX2_at_23 : decode cX2_at 23 = .ok (.getstatic 8, 3) := by decide +kernel
theorem dX2_at_26 : decode cX2_at 26 = .ok (.iload_n 1, 1) := by decide +kernel
theorem dX2_at_27 : decode cX2_at 27 = .ok (.iaload, 1) := by decide +kernel
theorem dX2_at_28 : decode cX2_at 28 = .ok (.idiv, 1) := by decide +kernel
theorem dX2_at_29 : decode cX2_at 29 = .ok (.bipush 10, 2) := by decide +kernel
theorem dX2_at_31 : decode cX2_at 31 = .ok (.irem, 1) := by decide +kernel
theorem dX2_at_32 : decode cX2_at 32 = .ok (.iconst 1, 1) := by decide +kernel
theorem dX2_at_33 : decode cX2_at 33 = .ok (.isub, 1) := by decide +kernel
theorem dX2_at_34 : decode cX2_at 34 = .ok (.ireturn, 1) := by decide +kernel
theorem dX2_length_0 : decode cX2_length 0 = .ok (.iconst 0, 1) := by decide +kernel
theorem dX2_length_1 : decode cX2_length 1 = .ok (.istore_n 1, 1) := by decide +kernel
theorem dX2_length_2 : decode cX2_length 2 = .ok (.iconst 0, 1) := by decide +kernel
theorem dX2_length_3 : decode cX2_length 3 = .ok (.istore_n 2, 1) := by decide +kernel
theorem dX2_length_4 : decode cX2_length 4 = .ok (.iload_n 2, 1) := by decide +kernel
theorem dX2_length_5 : decode cX2_length 5 = .ok (.getstatic 8, 3) := by decide +kernel
theorem dX2_length_8 : decode cX2_length 8 = .ok (.arraylength, 1) := by decide +kernel
theorem dX2_length_9 : decode cX2_length 9 = .ok (.if_icmp .ge 20, 3) := by decide +kernel
theorem dX2_length_12 : decode cX2_length 12 = .ok (.iload_n 0, 1) := by decide +kernel
theorem dX2_length_13 : decode cX2_length 13 = .ok (.iload_n 2, 1) := by decide +kernel
theorem dX2_length_14 : decode cX2_length 14 = .ok (.invokestatic 14, 3) := by decide +kernel
theorem dX2_length_17 : decode cX2_length 17 = .ok (.ifCond .lt 6, 3) := by decide +kernel
theorem dX2_length_20 : decode cX2_length 20 = .ok (.iinc 1 1, 3) := by decide +kernel
theorem dX2_length_23 : decode cX2_length 23 = .ok (.iinc 2 1, 3) := by decide +kernel
theorem dX2_length_26 : decode cX2_length 26 = .ok (.goto (-22), 3) := by decide +kernel
theorem dX2_length_29 : decode cX2_length 29 = .ok (.iload_n 1, 1) := by decide +kernel
theorem dX2_length_30 : decode cX2_length 30 = .ok (.ireturn, 1) := by decide +kernel
theorem dX2_placeOf_0 : decode cX2_placeOf 0 = .ok (.iconst 0, 1) := by decide +kernel
theorem dX2_placeOf_1 : decode cX2_placeOf 1 = .ok (.istore_n 2, 1) := by decide +kernel
theorem dX2_placeOf_2 : decode cX2_placeOf 2 = .ok (.iload_n 2, 1) := by decide +kernel
theorem dX2_placeOf_3 : decode cX2_placeOf 3 = .ok (.getstatic 8, 3) := by decide +kernel
theorem dX2_placeOf_6 : decode cX2_placeOf 6 = .ok (.arraylength, 1) := by decide +kernel
theorem dX2_placeOf_7 : decode cX2_placeOf 7 = .ok (.if_icmp .ge 20, 3) := by decide +kernel
theorem dX2_placeOf_10 : decode cX2_placeOf 10 = .ok (.iload_n 0, 1) := by decide +kernel
theorem dX2_placeOf_11 : decode cX2_placeOf 11 = .ok (.iload_n 2, 1) := by decide +kernel
theorem dX2_placeOf_12 : decode cX2_placeOf 12 = .ok (.invokestatic 14, 3) := by decide +kernel
theorem dX2_placeOf_15 : decode cX2_placeOf 15 = .ok (.iload_n 1, 1) := by decide +kernel
theorem dX2_placeOf_16 : decode cX2_placeOf 16 = .ok (.if_icmp .ne 5, 3) := by decide +kernel
theorem dX2_placeOf_19 : decode cX2_placeOf 19 = .ok (.iload_n 2, 1) := by decide +kernel
theorem dX2_placeOf_20 : decode cX2_placeOf 20 = .ok (.ireturn, 1) := by decide +kernel
theorem dX2_placeOf_21 : decode cX2_placeOf 21 = .ok (.iinc 2 1, 3) := by decide +kernel
theorem dX2_placeOf_24 : decode cX2_placeOf 24 = .ok (.goto (-22), 3) := by decide +kernel
theorem dX2_placeOf_27 : decode cX2_placeOf 27 = .ok (.getstatic 8, 3) := by decide +kernel
theorem dX2_placeOf_30 : decode cX2_placeOf 30 = .ok (.arraylength, 1) := by decide +kernel
theorem dX2_placeOf_31 : decode cX2_placeOf 31 = .ok (.ireturn, 1) := by decide +kernel
theorem dX2_leftOf_0 : decode cX2_leftOf 0 = .ok (.iconst 0, 1) := by decide +kernel
theorem dX2_leftOf_1 : decode cX2_leftOf 1 = .ok (.istore_n 2, 1) := by decide +kernel
theorem dX2_leftOf_2 : decode cX2_leftOf 2 = .ok (.iconst 0, 1) := by decide +kernel
theorem dX2_leftOf_3 : decode cX2_leftOf 3 = .ok (.istore_n 3, 1) := by decide +kernel
theorem dX2_leftOf_4 : decode cX2_leftOf 4 = .ok (.iload_n 3, 1) := by decide +kernel
theorem dX2_leftOf_5 : decode cX2_leftOf 5 = .ok (.getstatic 8, 3) := by decide +kernel
theorem dX2_leftOf_8 : decode cX2_leftOf 8 = .ok (.arraylength, 1) := by decide +kernel
theorem dX2_leftOf_9 : decode cX2_leftOf 9 = .ok (.if_icmp .ge 45, 3) := by decide +kernel
theorem dX2_leftOf_12 : decode cX2_leftOf 12 = .ok (.iload_n 0, 1) := by decide +kernel
theorem dX2_leftOf_13 : decode cX2_leftOf 13 = .ok (.iload_n 3, 1) := by decide +kernel
theorem dX2_leftOf_14 : decode cX2_leftOf 14 = .ok (.invokestatic 14, 3) := by decide +kernel
theorem dX2_leftOf_17 : decode cX2_leftOf 17 = .ok (.istore 4, 2) := by decide +kernel
theorem dX2_leftOf_19 : decode cX2_leftOf 19 = .ok (.iload 4, 2) := by decide +kernel
theorem dX2_leftOf_21 : decode cX2_leftOf 21 = .ok (.ifCond .lt 27, 3) := by decide +kernel
theorem dX2_leftOf_24 : decode cX2_leftOf 24 = .ok (.iload 4, 2) := by decide +kernel
theorem dX2_leftOf_26 : decode cX2_leftOf 26 = .ok (.aload_n 1, 1) := by decide +kernel
theorem dX2_leftOf_27 : decode cX2_leftOf 27 = .ok (.arraylength, 1) := by decide +kernel
theorem dX2_leftOf_28 : decode cX2_leftOf 28 = .ok (.if_icmp .ge 20, 3) := by decide +kernel
theorem dX2_leftOf_31 : decode cX2_leftOf 31 = .ok (.aload_n 1, 1) := by decide +kernel
theorem dX2_leftOf_32 : decode cX2_leftOf 32 = .ok (.iload 4, 2) := by decide +kernel
theorem dX2_leftOf_34 : decode cX2_leftOf 34 = .ok (.baload, 1) := by decide +kernel
theorem dX2_leftOf_35 : decode cX2_leftOf 35 = .ok (.ifCond .ne 13, 3) := by decide +kernel
theorem dX2_leftOf_38 : decode cX2_leftOf 38 = .ok (.iload_n 2, 1) := by decide +kernel
theorem dX2_leftOf_39 : decode cX2_leftOf 39 = .ok (.bipush 10, 2) := by decide +kernel
theorem dX2_leftOf_41 : decode cX2_leftOf 41 = .ok (.imul, 1) := by decide +kernel
theorem dX2_leftOf_42 : decode cX2_leftOf 42 = .ok (.iload 4, 2) := by decide +kernel
theorem dX2_leftOf_44 : decode cX2_leftOf 44 = .ok (.iadd, 1) := by decide +kernel
theorem dX2_leftOf_45 : decode cX2_leftOf 45 = .ok (.iconst 1, 1) := by decide +kernel
theorem dX2_leftOf_46 : decode cX2_leftOf 46 = .ok (.iadd, 1) := by decide +kernel
theorem dX2_leftOf_47 : decode cX2_leftOf 47 = .ok (.istore_n 2, 1) := by decide +kernel
theorem dX2_leftOf_48 : decode cX2_leftOf 48 = .ok (.iinc 3 1, 3) := by decide +kernel
theorem dX2_leftOf_51 : decode cX2_leftOf 51 = .ok (.goto (-47), 3) := by decide +kernel
theorem dX2_leftOf_54 : decode cX2_leftOf 54 = .ok (.iload_n 2, 1) := by decide +kernel
theorem dX2_leftOf_55 : decode cX2_leftOf 55 = .ok (.invokestatic 20, 3) := by decide +kernel
theorem dX2_leftOf_58 : decode cX2_leftOf 58 = .ok (.ireturn, 1) := by decide +kernel
theorem dX2_ledBy_0 : decode cX2_ledBy 0 = .ok (.iload_n 0, 1) := by decide +kernel
theorem dX2_ledBy_1 : decode cX2_ledBy 1 = .ok (.iconst 1, 1) := by decide +kernel
theorem dX2_ledBy_2 : decode cX2_ledBy 2 = .ok (.iadd, 1) := by decide +kernel
theorem dX2_ledBy_3 : decode cX2_ledBy 3 = .ok (.istore_n 2, 1) := by decide +kernel
theorem dX2_ledBy_4 : decode cX2_ledBy 4 = .ok (.iconst 0, 1) := by decide +kernel
theorem dX2_ledBy_5 : decode cX2_ledBy 5 = .ok (.istore_n 3, 1) := by decide +kernel
theorem dX2_ledBy_6 : decode cX2_ledBy 6 = .ok (.iload_n 3, 1) := by decide +kernel
theorem dX2_ledBy_7 : decode cX2_ledBy 7 = .ok (.getstatic 8, 3) := by decide +kernel
theorem dX2_ledBy_10 : decode cX2_ledBy 10 = .ok (.arraylength, 1) := by decide +kernel
theorem dX2_ledBy_11 : decode cX2_ledBy 11 = .ok (.if_icmp .ge 37, 3) := by decide +kernel
theorem dX2_ledBy_14 : decode cX2_ledBy 14 = .ok (.iload_n 1, 1) := by decide +kernel
theorem dX2_ledBy_15 : decode cX2_ledBy 15 = .ok (.iload_n 3, 1) := by decide +kernel
theorem dX2_ledBy_16 : decode cX2_ledBy 16 = .ok (.invokestatic 14, 3) := by decide +kernel
theorem dX2_ledBy_19 : decode cX2_ledBy 19 = .ok (.istore 4, 2) := by decide +kernel
theorem dX2_ledBy_21 : decode cX2_ledBy 21 = .ok (.iload 4, 2) := by decide +kernel
theorem dX2_ledBy_23 : decode cX2_ledBy 23 = .ok (.ifCond .lt 19, 3) := by decide +kernel
theorem dX2_ledBy_26 : decode cX2_ledBy 26 = .ok (.iload 4, 2) := by decide +kernel
theorem dX2_ledBy_28 : decode cX2_ledBy 28 = .ok (.iload_n 0, 1) := by decide +kernel
theorem dX2_ledBy_29 : decode cX2_ledBy 29 = .ok (.if_icmp .eq 13, 3) := by decide +kernel
theorem dX2_ledBy_32 : decode cX2_ledBy 32 = .ok (.iload_n 2, 1) := by decide +kernel
theorem dX2_ledBy_33 : decode cX2_ledBy 33 = .ok (.bipush 10, 2) := by decide +kernel
theorem dX2_ledBy_35 : decode cX2_ledBy 35 = .ok (.imul, 1) := by decide +kernel
theorem dX2_ledBy_36 : decode cX2_ledBy 36 = .ok (.iload 4, 2) := by decide +kernel
theorem dX2_ledBy_38 : decode cX2_ledBy 38 = .ok (.iadd, 1) := by decide +kernel
theorem dX2_ledBy_39 : decode cX2_ledBy 39 = .ok (.iconst 1, 1) := by decide +kernel
theorem dX2_ledBy_40 : decode cX2_ledBy 40 = .ok (.iadd, 1) := by decide +kernel
theorem dX2_ledBy_41 : decode cX2_ledBy 41 = .ok (.istore_n 2, 1) := by decide +kernel
theorem dX2_ledBy_42 : decode cX2_ledBy 42 = .ok (.iinc 3 1, 3) := by decide +kernel
theorem dX2_ledBy_45 : decode cX2_ledBy 45 = .ok (.goto (-39), 3) := by decide +kernel
theorem dX2_ledBy_48 : decode cX2_ledBy 48 = .ok (.iload_n 2, 1) := by decide +kernel
theorem dX2_ledBy_49 : decode cX2_ledBy 49 = .ok (.invokestatic 20, 3) := by decide +kernel
theorem dX2_ledBy_52 : decode cX2_ledBy 52 = .ok (.ireturn, 1) := by decide +kernel
theorem dX3_init_0 : decode cX3_init 0 = .ok (.aload_n 0, 1) := by decide +kernel
theorem dX3_init_1 : decode cX3_init 1 = .ok (.invokespecial 3, 3) := by decide +kernel
theorem dX3_init_4 : decode cX3_init 4 = .ok (.aload_n 0, 1) := by decide +kernel
theorem dX3_init_5 : decode cX3_init 5 = .ok (.iconst 0, 1) := by decide +kernel
theorem dX3_init_6 : decode cX3_init 6 = .ok (.putfield 9, 3) := by decide +kernel
theorem dX3_init_9 : decode cX3_init 9 = .ok (.aload_n 0, 1) := by decide +kernel
theorem dX3_init_10 : decode cX3_init 10 = .ok (.bipush (-5), 2) := by decide +kernel
theorem dX3_init_12 : decode cX3_init 12 = .ok (.putfield 15, 3) := by decide +kernel
theorem dX3_init_15 : decode cX3_init 15 = .ok (.aload_n 0, 1) := by decide +kernel
theorem dX3_init_16 : decode cX3_init 16 = .ok (.iconst 0, 1) := by decide +kernel
theorem dX3_init_17 : decode cX3_init 17 = .ok (.putfield 18, 3) := by decide +kernel
theorem dX3_init_20 : decode cX3_init 20 = .ok (.aload_n 0, 1) := by decide +kernel
theorem dX3_init_21 : decode cX3_init 21 = .ok (.lconst 0, 1) := by decide +kernel
theorem dX3_init_22 : decode cX3_init 22 = .ok (.putfield 21, 3) := by decide +kernel
theorem dX3_init_25 : decode cX3_init 25 = .ok (.aload_n 0, 1) := by decide +kernel
theorem dX3_init_26 : decode cX3_init 26 = .ok (.lconst 0, 1) := by decide +kernel
theorem dX3_init_27 : decode cX3_init 27 = .ok (.putfield 25, 3) := by decide +kernel
theorem dX3_init_30 : decode cX3_init 30 = .ok (.aload_n 0, 1) := by decide +kernel
theorem dX3_init_31 : decode cX3_init 31 = .ok (.lconst 0, 1) := by decide +kernel
theorem dX3_init_32 : decode cX3_init 32 = .ok (.putfield 28, 3) := by decide +kernel
theorem dX3_init_35 : decode cX3_init 35 = .ok (.aload_n 0, 1) := by decide +kernel
theorem dX3_init_36 : decode cX3_init 36 = .ok (.lconst 0, 1) := by decide +kernel
theorem dX3_init_37 : decode cX3_init 37 = .ok (.putfield 31, 3) := by decide +kernel
theorem dX3_init_40 : decode cX3_init 40 = .ok (.aload_n 0, 1) := by decide +kernel
theorem dX3_init_41 : decode cX3_init 41 = .ok (.bipush 8, 2) := by decide +kernel
theorem dX3_init_43 : decode cX3_init 43 = .ok (.newarray .long, 2) := by decide +kernel
theorem dX3_init_45 : decode cX3_init 45 = .ok (.putfield 34, 3) := by decide +kernel
theorem dX3_init_48 : decode cX3_init 48 = .ok (.aload_n 0, 1) := by decide +kernel
theorem dX3_init_49 : decode cX3_init 49 = .ok (.bipush 8, 2) := by decide +kernel
theorem dX3_init_51 : decode cX3_init 51 = .ok (.newarray .long, 2) := by decide +kernel
theorem dX3_init_53 : decode cX3_init 53 = .ok (.putfield 38, 3) := by decide +kernel
theorem dX3_init_56 : decode cX3_init 56 = .ok (.return_, 1) := by decide +kernel
theorem dX4_init_0 : decode cX4_init 0 = .ok (.aload_n 0, 1) := by decide +kernel
theorem dX4_init_1 : decode cX4_init 1 = .ok (.invokespecial 3, 3) := by decide +kernel
theorem dX4_init_4 : decode cX4_init 4 = .ok (.aload_n 0, 1) := by decide +kernel
theorem dX4_init_5 : decode cX4_init 5 = .ok (.new 9, 3) := by decide +kernel
theorem dX4_init_8 : decode cX4_init 8 = .ok (.dup, 1) := by decide +kernel
theorem dX4_init_9 : decode cX4_init 9 = .ok (.invokespecial 11, 3) := by decide +kernel
theorem dX4_init_12 : decode cX4_init 12 = .ok (.putfield 12, 3) := by decide +kernel
theorem dX4_init_15 : decode cX4_init 15 = .ok (.aload_n 0, 1) := by decide +kernel
theorem dX4_init_16 : decode cX4_init 16 = .ok (.bipush 8, 2) := by decide +kernel
theorem dX4_init_18 : decode cX4_init 18 = .ok (.newarray .int, 2) := by decide +kernel
theorem dX4_init_20 : decode cX4_init 20 = .ok (.putfield 18, 3) := by decide +kernel
theorem dX4_init_23 : decode cX4_init 23 = .ok (.aload_n 0, 1) := by decide +kernel
theorem dX4_init_24 : decode cX4_init 24 = .ok (.bipush 8, 2) := by decide +kernel
theorem dX4_init_26 : decode cX4_init 26 = .ok (.newarray .int, 2) := by decide +kernel
theorem dX4_init_28 : decode cX4_init 28 = .ok (.putfield 22, 3) := by decide +kernel
theorem dX4_init_31 : decode cX4_init 31 = .ok (.aload_n 0, 1) := by decide +kernel
theorem dX4_init_32 : decode cX4_init 32 = .ok (.bipush 8, 2) := by decide +kernel
theorem dX4_init_34 : decode cX4_init 34 = .ok (.newarray .int, 2) := by decide +kernel
theorem dX4_init_36 : decode cX4_init 36 = .ok (.putfield 25, 3) := by decide +kernel
theorem dX4_init_39 : decode cX4_init 39 = .ok (.aload_n 0, 1) := by decide +kernel
theorem dX4_init_40 : decode cX4_init 40 = .ok (.iconst 0, 1) := by decide +kernel
theorem dX4_init_41 : decode cX4_init 41 = .ok (.putfield 28, 3) := by decide +kernel
theorem dX4_init_44 : decode cX4_init 44 = .ok (.aload_n 0, 1) := by decide +kernel
theorem dX4_init_45 : decode cX4_init 45 = .ok (.iconst 0, 1) := by decide +kernel
theorem dX4_init_46 : decode cX4_init 46 = .ok (.putfield 32, 3) := by decide +kernel
theorem dX4_init_49 : decode cX4_init 49 = .ok (.aload_n 0, 1) := by decide +kernel
theorem dX4_init_50 : decode cX4_init 50 = .ok (.iconst 0, 1) := by decide +kernel
theorem dX4_init_51 : decode cX4_init 51 = .ok (.putfield 35, 3) := by decide +kernel
theorem dX4_init_54 : decode cX4_init 54 = .ok (.aload_n 0, 1) := by decide +kernel
theorem dX4_init_55 : decode cX4_init 55 = .ok (.bipush 8, 2) := by decide +kernel
theorem dX4_init_57 : decode cX4_init 57 = .ok (.anewarray 38, 3) := by decide +kernel
theorem dX4_init_60 : decode cX4_init 60 = .ok (.putfield 40, 3) := by decide +kernel
theorem dX4_init_63 : decode cX4_init 63 = .ok (.aload_n 0, 1) := by decide +kernel
theorem dX4_init_64 : decode cX4_init 64 = .ok (.bipush 8, 2) := by decide +kernel
theorem dX4_init_66 : decode cX4_init 66 = .ok (.newarray .long, 2) := by decide +kernel
theorem dX4_init_68 : decode cX4_init 68 = .ok (.putfield 44, 3) := by decide +kernel
theorem dX4_init_71 : decode cX4_init 71 = .ok (.aload_n 0, 1) := by decide +kernel
theorem dX4_init_72 : decode cX4_init 72 = .ok (.bipush 8, 2) := by decide +kernel
theorem dX4_init_74 : decode cX4_init 74 = .ok (.newarray .long, 2) := by decide +kernel
theorem dX4_init_76 : decode cX4_init 76 = .ok (.putfield 48, 3) := by decide +kernel
theorem dX4_init_79 : decode cX4_init 79 = .ok (.aload_n 0, 1) := by decide +kernel
theorem dX4_init_80 : decode cX4_init 80 = .ok (.lconst 0, 1) := by decide +kernel
theorem dX4_init_81 : decode cX4_init 81 = .ok (.putfield 51, 3) := by decide +kernel
theorem dX4_init_84 : decode cX4_init 84 = .ok (.aload_n 0, 1) := by decide +kernel
theorem dX4_init_85 : decode cX4_init 85 = .ok (.lconst 0, 1) := by decide +kernel
theorem dX4_init_86 : decode cX4_init 86 = .ok (.putfield 55, 3) := by decide +kernel
theorem dX4_init_89 : decode cX4_init 89 = .ok (.aload_n 0, 1) := by decide +kernel
theorem dX4_init_90 : decode cX4_init 90 = .ok (.lconst 0, 1) := by decide +kernel
theorem dX4_init_91 : decode cX4_init 91 = .ok (.putfield 58, 3) := by decide +kernel
theorem dX4_init_94 : decode cX4_init 94 = .ok (.aload_n 0, 1) := by decide +kernel
theorem dX4_init_95 : decode cX4_init 95 = .ok (.aload_n 1, 1) := by decide +kernel
theorem dX4_init_96 : decode cX4_init 96 = .ok (.putfield 61, 3) := by decide +kernel
theorem dX4_init_99 : decode cX4_init 99 = .ok (.iconst 0, 1) := by decide +kernel
theorem dX4_init_100 : decode cX4_init 100 = .ok (.istore_n 2, 1) := by decide +kernel
theorem dX4_init_101 : decode cX4_init 101 = .ok (.iload_n 2, 1) := by decide +kernel
theorem dX4_init_102 : decode cX4_init 102 = .ok (.aload_n 0, 1) := by decide +kernel
theorem dX4_init_103 : decode cX4_init 103 = .ok (.getfield 40, 3) := by decide +kernel
theorem dX4_init_106 : decode cX4_init 106 = .ok (.arraylength, 1) := by decide +kernel
theorem dX4_init_107 : decode cX4_init 107 = .ok (.if_icmp .ge 22, 3) := by decide +kernel
theorem dX4_init_110 : decode cX4_init 110 = .ok (.aload_n 0, 1) := by decide +kernel
theorem dX4_init_111 : decode cX4_init 111 = .ok (.getfield 40, 3) := by decide +kernel
theorem dX4_init_114 : decode cX4_init 114 = .ok (.iload_n 2, 1) := by decide +kernel
theorem dX4_init_115 : decode cX4_init 115 = .ok (.new 38, 3) := by decide +kernel
theorem dX4_init_118 : decode cX4_init 118 = .ok (.dup, 1) := by decide +kernel
theorem dX4_init_119 : decode cX4_init 119 = .ok (.invokespecial 65, 3) := by decide +kernel
theorem dX4_init_122 : decode cX4_init 122 = .ok (.aastore, 1) := by decide +kernel
theorem dX4_init_123 : decode cX4_init 123 = .ok (.iinc 2 1, 3) := by decide +kernel
theorem dX4_init_126 : decode cX4_init 126 = .ok (.goto (-25), 3) := by decide +kernel
theorem dX4_init_129 : decode cX4_init 129 = .ok (.return_, 1) := by decide +kernel
theorem dX4_stageAt_0 : decode cX4_stageAt 0 = .ok (.iload_n 1, 1) := by decide +kernel
theorem dX4_stageAt_1 : decode cX4_stageAt 1 = .ok (.ifCond .lt 20, 3) := by decide +kernel
theorem dX4_stageAt_4 : decode cX4_stageAt 4 = .ok (.iload_n 1, 1) := by decide +kernel
theorem dX4_stageAt_5 : decode cX4_stageAt 5 = .ok (.aload_n 0, 1) := by decide +kernel
theorem dX4_stageAt_6 : decode cX4_stageAt 6 = .ok (.getfield 35, 3) := by decide +kernel
theorem dX4_stageAt_9 : decode cX4_stageAt 9 = .ok (.if_icmp .ge 12, 3) := by decide +kernel
theorem dX4_stageAt_12 : decode cX4_stageAt 12 = .ok (.iload_n 1, 1) := by decide +kernel
theorem dX4_stageAt_13 : decode cX4_stageAt 13 = .ok (.aload_n 0, 1) := by decide +kernel
theorem dX4_stageAt_14 : decode cX4_stageAt 14 = .ok (.getfield 40, 3) := by decide +kernel
theorem dX4_stageAt_17 : decode cX4_stageAt 17 = .ok (.arraylength, 1) := by decide +kernel
theorem dX4_stageAt_18 : decode cX4_stageAt 18 = .ok (.if_icmp .lt 7, 3) := by decide +kernel
theorem dX4_stageAt_21 : decode cX4_stageAt 21 = .ok (.aconst_null, 1) := by decide +kernel
theorem dX4_stageAt_22 : decode cX4_stageAt 22 = .ok (.goto 9, 3) := by decide +kernel
theorem dX4_stageAt_25 : decode cX4_stageAt 25 = .ok (.aload_n 0, 1) := by decide +kernel
theorem dX4_stageAt_26 : decode cX4_stageAt 26 = .ok (.getfield 40, 3) := by decide +kernel
theorem dX4_stageAt_29 : decode cX4_stageAt 29 = .ok (.iload_n 1, 1) := by decide +kernel
theorem dX4_stageAt_30 : decode cX4_stageAt 30 = .ok (.aaload, 1) := by decide +kernel
theorem dX4_stageAt_31 : decode cX4_stageAt 31 = .ok (.areturn, 1) := by decide +kernel
theorem dX4_work_0 : decode cX4_work 0 = .ok (.aload_n 0, 1) := by decide +kernel
theorem dX4_work_1 : decode cX4_work 1 = .ok (.getfield 12, 3) := by decide +kernel
theorem dX4_work_4 : decode cX4_work 4 = .ok (.aload_n 0, 1) := by decide +kernel
theorem dX4_work_5 : decode cX4_work 5 = .ok (.getfield 61, 3) := by decide +kernel
theorem dX4_work_8 : decode cX4_work 8 = .ok (.invokevirtual 66, 3) := by decide +kernel
theorem dX4_work_11 : decode cX4_work 11 = .ok (.aload_n 0, 1) := by decide +kernel
theorem dX4_work_12 : decode cX4_work 12 = .ok (.invokevirtual 70, 3) := by decide +kernel
theorem dX4_work_15 : decode cX4_work 15 = .ok (.iconst 0, 1) := by decide +kernel
theorem dX4_work_16 : decode cX4_work 16 = .ok (.istore_n 1, 1) := by decide +kernel
theorem dX4_work_17 : decode cX4_work 17 = .ok (.iconst 0, 1) := by decide +kernel
theorem dX4_work_18 : decode cX4_work 18 = .ok (.istore_n 2, 1) := by decide +kernel
theorem dX4_work_19 : decode cX4_work 19 = .ok (.iload_n 2, 1) := by decide +kernel
theorem dX4_work_20 : decode cX4_work 20 = .ok (.bipush 8, 2) := by decide +kernel
theorem dX4_work_22 : decode cX4_work 22 = .ok (.if_icmp .ge 103, 3) := by decide +kernel
theorem dX4_work_25 : decode cX4_work 25 = .ok (.aload_n 0, 1) := by decide +kernel
theorem dX4_work_26 : decode cX4_work 26 = .ok (.getfield 32, 3) := by decide +kernel
theorem dX4_work_29 : decode cX4_work 29 = .ok (.ifCond .le 96, 3) := by decide +kernel
theorem dX4_work_32 : decode cX4_work 32 = .ok (.aload_n 0, 1) := by decide +kernel
theorem dX4_work_33 : decode cX4_work 33 = .ok (.getfield 28, 3) := by decide +kernel
theorem dX4_work_36 : decode cX4_work 36 = .ok (.aload_n 0, 1) := by decide +kernel
theorem dX4_work_37 : decode cX4_work 37 = .ok (.getfield 61, 3) := by decide +kernel
theorem dX4_work_40 : decode cX4_work 40 = .ok (.getfield 73, 3) := by decide +kernel
theorem dX4_work_43 : decode cX4_work 43 = .ok (.if_icmp .ge 82, 3) := by decide +kernel
theorem dX4_work_46 : decode cX4_work 46 = .ok (.aload_n 0, 1) := by decide +kernel
theorem dX4_work_47 : decode cX4_work 47 = .ok (.iload_n 2, 1) := by decide +kernel
theorem dX4_work_48 : decode cX4_work 48 = .ok (.iconst 1, 1) := by decide +kernel
theorem dX4_work_49 : decode cX4_work 49 = .ok (.iadd, 1) := by decide +kernel
theorem dX4_work_50 : decode cX4_work 50 = .ok (.putfield 35, 3) := by decide +kernel
theorem dX4_work_53 : decode cX4_work 53 = .ok (.aload_n 0, 1) := by decide +kernel
theorem dX4_work_54 : decode cX4_work 54 = .ok (.getfield 40, 3) := by decide +kernel
theorem dX4_work_57 : decode cX4_work 57 = .ok (.iload_n 2, 1) := by decide +kernel
theorem dX4_work_58 : decode cX4_work 58 = .ok (.aaload, 1) := by decide +kernel
theorem dX4_work_59 : decode cX4_work 59 = .ok (.astore_n 3, 1) := by decide +kernel
theorem dX4_work_60 : decode cX4_work 60 = .ok (.aload_n 3, 1) := by decide +kernel
theorem dX4_work_61 : decode cX4_work 61 = .ok (.iconst 0, 1) := by decide +kernel
theorem dX4_work_62 : decode cX4_work 62 = .ok (.putfield 78, 3) := by decide +kernel
theorem dX4_work_65 : decode cX4_work 65 = .ok (.aload_n 3, 1) := by decide +kernel
theorem dX4_work_66 : decode cX4_work 66 = .ok (.bipush (-5), 2) := by decide +kernel
theorem dX4_work_68 : decode cX4_work 68 = .ok (.putfield 81, 3) := by decide +kernel
theorem dX4_work_71 : decode cX4_work 71 = .ok (.aload_n 0, 1) := by decide +kernel
theorem dX4_work_72 : decode cX4_work 72 = .ok (.getfield 32, 3) := by decide +kernel
theorem dX4_work_75 : decode cX4_work 75 = .ok (.aload_n 0, 1) := by decide +kernel
theorem dX4_work_76 : decode cX4_work 76 = .ok (.getfield 28, 3) := by decide +kernel
theorem dX4_work_79 : decode cX4_work 79 = .ok (.iadd, 1) := by decide +kernel
theorem dX4_work_80 : decode cX4_work 80 = .ok (.aload_n 0, 1) := by decide +kernel
theorem dX4_work_81 : decode cX4_work 81 = .ok (.getfield 61, 3) := by decide +kernel
theorem dX4_work_84 : decode cX4_work 84 = .ok (.getfield 73, 3) := by decide +kernel
theorem dX4_work_87 : decode cX4_work 87 = .ok (.if_icmp .gt 11, 3) := by decide +kernel
theorem dX4_work_90 : decode cX4_work 90 = .ok (.aload_n 0, 1) := by decide +kernel
theorem dX4_work_91 : decode cX4_work 91 = .ok (.aload_n 3, 1) := by decide +kernel
theorem dX4_work_92 : decode cX4_work 92 = .ok (.invokevirtual 84, 3) := by decide +kernel
theorem dX4_work_95 : decode cX4_work 95 = .ok (.goto 9, 3) := by decide +kernel
theorem dX4_work_98 : decode cX4_work 98 = .ok (.aload_n 0, 1) := by decide +kernel
theorem dX4_work_99 : decode cX4_work 99 = .ok (.aload_n 3, 1) := by decide +kernel
theorem dX4_work_100 : decode cX4_work 100 = .ok (.iload_n 1, 1) := by decide +kernel
theorem dX4_work_101 : decode cX4_work 101 = .ok (.invokevirtual 88, 3) := by decide +kernel
theorem dX4_work_104 : decode cX4_work 104 = .ok (.aload_n 3, 1) := by decide +kernel
theorem dX4_work_105 : decode cX4_work 105 = .ok (.getfield 81, 3) := by decide +kernel
theorem dX4_work_108 : decode cX4_work 108 = .ok (.bipush (-5), 2) := by decide +kernel
theorem dX4_work_110 : decode cX4_work 110 = .ok (.if_icmp .eq 7, 3) := by decide +kernel
theorem dX4_work_113 : decode cX4_work 113 = .ok (.iconst 1, 1) := by decide +kernel
theorem dX4_work_114 : decode cX4_work 114 = .ok (.goto 4, 3) := by decide +kernel
theorem dX4_work_117 : decode cX4_work 117 = .ok (.iconst 0, 1) := by decide +kernel
theorem dX4_work_118 : decode cX4_work 118 = .ok (.istore_n 1, 1) := by decide +kernel
theorem dX4_work_119 : decode cX4_work 119 = .ok (.iinc 2 1, 3) := by decide +kernel
theorem dX4_work_122 : decode cX4_work 122 = .ok (.goto (-103), 3) := by decide +kernel
theorem dX4_work_125 : decode cX4_work 125 = .ok (.return_, 1) := by decide +kernel
theorem dX4_begin_0 : decode cX4_begin 0 = .ok (.aload_n 0, 1) := by decide +kernel
theorem dX4_begin_1 : decode cX4_begin 1 = .ok (.iconst 0, 1) := by decide +kernel
theorem dX4_begin_2 : decode cX4_begin 2 = .ok (.putfield 35, 3) := by decide +kernel
theorem dX4_begin_5 : decode cX4_begin 5 = .ok (.aload_n 0, 1) := by decide +kernel
theorem dX4_begin_6 : decode cX4_begin 6 = .ok (.iconst 0, 1) := by decide +kernel
theorem dX4_begin_7 : decode cX4_begin 7 = .ok (.putfield 28, 3) := by decide +kernel
theorem dX4_begin_10 : decode cX4_begin 10 = .ok (.aload_n 0, 1) := by decide +kernel
theorem dX4_begin_11 : decode cX4_begin 11 = .ok (.iconst 0, 1) := by decide +kernel
theorem dX4_begin_12 : decode cX4_begin 12 = .ok (.putfield 32, 3) := by decide +kernel
theorem dX4_begin_15 : decode cX4_begin 15 = .ok (.iconst 0, 1) := by decide +kernel
theorem dX4_begin_16 : decode cX4_begin 16 = .ok (.istore_n 1, 1) := by decide +kernel
theorem dX4_begin_17 : decode cX4_begin 17 = .ok (.iload_n 1, 1) := by decide +kernel
theorem dX4_begin_18 : decode cX4_begin 18 = .ok (.aload_n 0, 1) := by decide +kernel
theorem dX4_begin_19 : decode cX4_begin 19 = .ok (.getfield 61, 3) := by decide +kernel
theorem dX4_begin_22 : decode cX4_begin 22 = .ok (.getfield 92, 3) := by decide +kernel
theorem dX4_begin_25 : decode cX4_begin 25 = .ok (.if_icmp .ge 85, 3) := by decide +kernel
theorem dX4_begin_28 : decode cX4_begin 28 = .ok (.aload_n 0, 1) := by decide +kernel
theorem dX4_begin_29 : decode cX4_begin 29 = .ok (.getfield 61, 3) := by decide +kernel
theorem dX4_begin_32 : decode cX4_begin 32 = .ok (.getfield 95, 3) := by decide +kernel
theorem dX4_begin_35 : decode cX4_begin 35 = .ok (.iload_n 1, 1) := by decide +kernel
theorem dX4_begin_36 : decode cX4_begin 36 = .ok (.baload, 1) := by decide +kernel
theorem dX4_begin_37 : decode cX4_begin 37 = .ok (.ifCond .ne 7, 3) := by decide +kernel
theorem dX4_begin_40 : decode cX4_begin 40 = .ok (.iconst 1, 1) := by decide +kernel
theorem dX4_begin_41 : decode cX4_begin 41 = .ok (.goto 4, 3) := by decide +kernel
theorem dX4_begin_44 : decode cX4_begin 44 = .ok (.iconst 0, 1) := by decide +kernel
theorem dX4_begin_45 : decode cX4_begin 45 = .ok (.istore_n 2, 1) := by decide +kernel
theorem dX4_begin_46 : decode cX4_begin 46 = .ok (.aload_n 0, 1) := by decide +kernel
theorem dX4_begin_47 : decode cX4_begin 47 = .ok (.getfield 18, 3) := by decide +kernel
theorem dX4_begin_50 : decode cX4_begin 50 = .ok (.iload_n 1, 1) := by decide +kernel
theorem dX4_begin_51 : decode cX4_begin 51 = .ok (.iload_n 2, 1) := by decide +kernel
theorem dX4_begin_52 : decode cX4_begin 52 = .ok (.ifCond .eq 7, 3) := by decide +kernel
theorem dX4_begin_55 : decode cX4_begin 55 = .ok (.iconst 1, 1) := by decide +kernel
theorem dX4_begin_56 : decode cX4_begin 56 = .ok (.goto 4, 3) := by decide +kernel
theorem dX4_begin_59 : decode cX4_begin 59 = .ok (.iconst 0, 1) := by decide +kernel
theorem dX4_begin_60 : decode cX4_begin 60 = .ok (.iastore, 1) := by decide +kernel
theorem dX4_begin_61 : decode cX4_begin 61 = .ok (.aload_n 0, 1) := by decide +kernel
theorem dX4_begin_62 : decode cX4_begin 62 = .ok (.getfield 44, 3) := by decide +kernel
theorem dX4_begin_65 : decode cX4_begin 65 = .ok (.iload_n 1, 1) := by decide +kernel
theorem dX4_begin_66 : decode cX4_begin 66 = .ok (.iload_n 2, 1) := by decide +kernel
theorem dX4_begin_67 : decode cX4_begin 67 = .ok (.ifCond .eq 9, 3) := by decide +kernel
theorem dX4_begin_70 : decode cX4_begin 70 = .ok (.ldc2_w 99, 3) := by decide +kernel
theorem dX4_begin_73 : decode cX4_begin 73 = .ok (.goto 4, 3) := by decide +kernel
theorem dX4_begin_76 : decode cX4_begin 76 = .ok (.lconst 0, 1) := by decide +kernel
theorem dX4_begin_77 : decode cX4_begin 77 = .ok (.lastore, 1) := by decide +kernel
theorem dX4_begin_78 : decode cX4_begin 78 = .ok (.aload_n 0, 1) := by decide +kernel
theorem dX4_begin_79 : decode cX4_begin 79 = .ok (.getfield 22, 3) := by decide +kernel
theorem dX4_begin_82 : decode cX4_begin 82 = .ok (.iload_n 1, 1) := by decide +kernel
theorem dX4_begin_83 : decode cX4_begin 83 = .ok (.bipush (-5), 2) := by decide +kernel
theorem dX4_begin_85 : decode cX4_begin 85 = .ok (.iastore, 1) := by decide +kernel
theorem dX4_begin_86 : decode cX4_begin 86 = .ok (.aload_n 0, 1) := by decide +kernel
theorem dX4_begin_87 : decode cX4_begin 87 = .ok (.dup, 1) := by decide +kernel
theorem dX4_begin_88 : decode cX4_begin 88 = .ok (.getfield 32, 3) := by decide +kernel
theorem dX4_begin_91 : decode cX4_begin 91 = .ok (.iload_n 2, 1) := by decide +kernel
theorem dX4_begin_92 : decode cX4_begin 92 = .ok (.ifCond .eq 7, 3) := by decide +kernel
theorem dX4_begin_95 : decode cX4_begin 95 = .ok (.iconst 1, 1) := by decide +kernel
theorem dX4_begin_96 : decode cX4_begin 96 = .ok (.goto 4, 3) := by decide +kernel
theorem dX4_begin_99 : decode cX4_begin 99 = .ok (.iconst 0, 1) := by decide +kernel
theorem dX4_begin_100 : decode cX4_begin 100 = .ok (.iadd, 1) := by decide +kernel
theorem dX4_begin_101 : decode cX4_begin 101 = .ok (.putfield 32, 3) := by decide +kernel
theorem dX4_begin_104 : decode cX4_begin 104 = .ok (.iinc 1 1, 3) := by decide +kernel
theorem dX4_begin_107 : decode cX4_begin 107 = .ok (.goto (-90), 3) := by decide +kernel
theorem dX4_begin_110 : decode cX4_begin 110 = .ok (.return_, 1) := by decide +kernel
theorem dX4_fill_0 : decode cX4_fill 0 = .ok (.aload_n 0, 1) := by decide +kernel
theorem dX4_fill_1 : decode cX4_fill 1 = .ok (.invokevirtual 101, 3) := by decide +kernel
theorem dX4_fill_4 : decode cX4_fill 4 = .ok (.aload_n 0, 1) := by decide +kernel
theorem dX4_fill_5 : decode cX4_fill 5 = .ok (.aload_n 1, 1) := by decide +kernel
theorem dX4_fill_6 : decode cX4_fill 6 = .ok (.iconst 0, 1) := by decide +kernel
theorem dX4_fill_7 : decode cX4_fill 7 = .ok (.lconst 0, 1) := by decide +kernel
theorem dX4_fill_8 : decode cX4_fill 8 = .ok (.invokevirtual 104, 3) := by decide +kernel
theorem dX4_fill_11 : decode cX4_fill 11 = .ok (.aload_n 0, 1) := by decide +kernel
theorem dX4_fill_12 : decode cX4_fill 12 = .ok (.aload_n 1, 1) := by decide +kernel
theorem dX4_fill_13 : decode cX4_fill 13 = .ok (.aload_n 0, 1) := by decide +kernel
theorem dX4_fill_14 : decode cX4_fill 14 = .ok (.iconst 1, 1) := by decide +kernel
theorem dX4_fill_15 : decode cX4_fill 15 = .ok (.invokevirtual 108, 3) := by decide +kernel
theorem dX4_fill_18 : decode cX4_fill 18 = .ok (.invokevirtual 112, 3) := by decide +kernel
theorem dX4_fill_21 : decode cX4_fill 21 = .ok (.return_, 1) := by decide +kernel
theorem dX4_goByRounds_0 : decode cX4_goByRounds 0 = .ok (.iconst 1, 1) := by decide +kernel
theorem dX4_goByRounds_1 : decode cX4_goByRounds 1 = .ok (.istore_n 3, 1) := by decide +kernel
theorem dX4_goByRounds_2 : decode cX4_goByRounds 2 = .ok (.iload_n 3, 1) := by decide +kernel
theorem dX4_goByRounds_3 : decode cX4_goByRounds 3 = .ok (.aload_n 0, 1) := by decide +kernel
theorem dX4_goByRounds_4 : decode cX4_goByRounds 4 = .ok (.getfield 61, 3) := by decide +kernel
theorem dX4_goByRounds_7 : decode cX4_goByRounds 7 = .ok (.getfield 116, 3) := by decide +kernel
theorem dX4_goByRounds_10 : decode cX4_goByRounds 10 = .ok (.if_icmp .gt 88, 3) := by decide +kernel
theorem dX4_goByRounds_13 : decode cX4_goByRounds 13 = .ok (.iload_n 3, 1) := by decide +kernel
theorem dX4_goByRounds_14 : decode cX4_goByRounds 14 = .ok (.iconst 1, 1) := by decide +kernel
theorem dX4_goByRounds_15 : decode cX4_goByRounds 15 = .ok (.if_icmp .gt 7, 3) := by decide +kernel
theorem dX4_goByRounds_18 : decode cX4_goByRounds 18 = .ok (.iload_n 2, 1) := by decide +kernel
theorem dX4_goByRounds_19 : decode cX4_goByRounds 19 = .ok (.ifCond .ne 7, 3) := by decide +kernel
theorem dX4_goByRounds_22 : decode cX4_goByRounds 22 = .ok (.aload_n 0, 1) := by decide +kernel
theorem dX4_goByRounds_23 : decode cX4_goByRounds 23 = .ok (.invokevirtual 119, 3) := by decide +kernel
theorem dX4_goByRounds_26 : decode cX4_goByRounds 26 = .ok (.aload_n 0, 1) := by decide +kernel
theorem dX4_goByRounds_27 : decode cX4_goByRounds 27 = .ok (.invokevirtual 101, 3) := by decide +kernel
theorem dX4_goByRounds_30 : decode cX4_goByRounds 30 = .ok (.aload_n 0, 1) := by decide +kernel
theorem dX4_goByRounds_31 : decode cX4_goByRounds 31 = .ok (.invokevirtual 122, 3) := by decide +kernel
theorem dX4_goByRounds_34 : decode cX4_goByRounds 34 = .ok (.lstore 4, 2) := by decide +kernel
theorem dX4_goByRounds_36 : decode cX4_goByRounds 36 = .ok (.aload_n 0, 1) := by decide +kernel
theorem dX4_goByRounds_37 : decode cX4_goByRounds 37 = .ok (.aload_n 1, 1) := by decide +kernel
theorem dX4_goByRounds_38 : decode cX4_goByRounds 38 = .ok (.iload_n 3, 1) := by decide +kernel
theorem dX4_goByRounds_39 : decode cX4_goByRounds 39 = .ok (.lload 4, 2) := by decide +kernel
theorem dX4_goByRounds_41 : decode cX4_goByRounds 41 = .ok (.invokevirtual 104, 3) := by decide +kernel
theorem dX4_goByRounds_44 : decode cX4_goByRounds 44 = .ok (.aload_n 0, 1) := by decide +kernel
theorem dX4_goByRounds_45 : decode cX4_goByRounds 45 = .ok (.aload_n 1, 1) := by decide +kernel
theorem dX4_goByRounds_46 : decode cX4_goByRounds 46 = .ok (.aload_n 0, 1) := by decide +kernel
theorem dX4_goByRounds_47 : decode cX4_goByRounds 47 = .ok (.invokevirtual 126, 3) := by decide +kernel
theorem dX4_goByRounds_50 : decode cX4_goByRounds 50 = .ok (.invokevirtual 112, 3) := by decide +kernel
theorem dX4_goByRounds_53 : decode cX4_goByRounds 53 = .ok (.aload_n 1, 1) := by decide +kernel
theorem dX4_goByRounds_54 : decode cX4_goByRounds 54 = .ok (.getfield 78, 3) := by decide +kernel
theorem dX4_goByRounds_57 : decode cX4_goByRounds 57 = .ok (.ifCond .eq 4, 3) := by decide +kernel
theorem dX4_goByRounds_60 : decode cX4_goByRounds 60 = .ok (.return_, 1) := by decide +kernel
theorem dX4_goByRounds_61 : decode cX4_goByRounds 61 = .ok (.lload 4, 2) := by decide +kernel
theorem dX4_goByRounds_63 : decode cX4_goByRounds 63 = .ok (.aload_n 0, 1) := by decide +kernel
theorem dX4_goByRounds_64 : decode cX4_goByRounds 64 = .ok (.getfield 61, 3) := by decide +kernel
theorem dX4_goByRounds_67 : decode cX4_goByRounds 67 = .ok (.getfield 130, 3) := by decide +kernel
theorem dX4_goByRounds_70 : decode cX4_goByRounds 70 = .ok (.i2l, 1) := by decide +kernel
theorem dX4_goByRounds_71 : decode cX4_goByRounds 71 = .ok (.lcmp, 1) := by decide +kernel
theorem dX4_goByRounds_72 : decode cX4_goByRounds 72 = .ok (.ifCond .le 14, 3) := by decide +kernel
theorem dX4_goByRounds_75 : decode cX4_goByRounds 75 = .ok (.iload_n 3, 1) := by decide +kernel
theorem dX4_goByRounds_76 : decode cX4_goByRounds 76 = .ok (.aload_n 0, 1) := by decide +kernel
theorem dX4_goByRounds_77 : decode cX4_goByRounds 77 = .ok (.getfield 61, 3) := by decide +kernel
theorem dX4_goByRounds_80 : decode cX4_goByRounds 80 = .ok (.getfield 116, 3) := by decide +kernel
theorem dX4_goByRounds_83 : decode cX4_goByRounds 83 = .ok (.if_icmp .ne 9, 3) := by decide +kernel
theorem dX4_goByRounds_86 : decode cX4_goByRounds 86 = .ok (.aload_n 0, 1) := by decide +kernel
theorem dX4_goByRounds_87 : decode cX4_goByRounds 87 = .ok (.aload_n 1, 1) := by decide +kernel
theorem dX4_goByRounds_88 : decode cX4_goByRounds 88 = .ok (.invokevirtual 133, 3) := by decide +kernel
theorem dX4_goByRounds_91 : decode cX4_goByRounds 91 = .ok (.return_, 1) := by decide +kernel
theorem dX4_goByRounds_92 : decode cX4_goByRounds 92 = .ok (.iinc 3 1, 3) := by decide +kernel
theorem dX4_goByRounds_95 : decode cX4_goByRounds 95 = .ok (.goto (-93), 3) := by decide +kernel
theorem dX4_goByRounds_98 : decode cX4_goByRounds 98 = .ok (.return_, 1) := by decide +kernel
theorem dX4_turnKeeps_0 : decode cX4_turnKeeps 0 = .ok (.iconst 0, 1) := by decide +kernel
theorem dX4_turnKeeps_1 : decode cX4_turnKeeps 1 = .ok (.istore_n 1, 1) := by decide +kernel
theorem dX4_turnKeeps_2 : decode cX4_turnKeeps 2 = .ok (.iload_n 1, 1) := by decide +kernel
theorem dX4_turnKeeps_3 : decode cX4_turnKeeps 3 = .ok (.aload_n 0, 1) := by decide +kernel
theorem dX4_turnKeeps_4 : decode cX4_turnKeeps 4 = .ok (.getfield 61, 3) := by decide +kernel
theorem dX4_turnKeeps_7 : decode cX4_turnKeeps 7 = .ok (.getfield 92, 3) := by decide +kernel
theorem dX4_turnKeeps_10 : decode cX4_turnKeeps 10 = .ok (.if_icmp .ge 61, 3) := by decide +kernel
theorem dX4_turnKeeps_13 : decode cX4_turnKeeps 13 = .ok (.aload_n 0, 1) := by decide +kernel
theorem dX4_turnKeeps_14 : decode cX4_turnKeeps 14 = .ok (.getfield 48, 3) := by decide +kernel
theorem dX4_turnKeeps_17 : decode cX4_turnKeeps 17 = .ok (.iload_n 1, 1) := by decide +kernel
theorem dX4_turnKeeps_18 : decode cX4_turnKeeps 18 = .ok (.laload, 1) := by decide +kernel
theorem dX4_turnKeeps_19 : decode cX4_turnKeeps 19 = .ok (.lstore_n 2, 1) := by decide +kernel
theorem dX4_turnKeeps_20 : decode cX4_turnKeeps 20 = .ok (.aload_n 0, 1) := by decide +kernel
theorem dX4_turnKeeps_21 : decode cX4_turnKeeps 21 = .ok (.getfield 18, 3) := by decide +kernel
theorem dX4_turnKeeps_24 : decode cX4_turnKeeps 24 = .ok (.iload_n 1, 1) := by decide +kernel
theorem dX4_turnKeeps_25 : decode cX4_turnKeeps 25 = .ok (.iaload, 1) := by decide +kernel
theorem dX4_turnKeeps_26 : decode cX4_turnKeeps 26 = .ok (.iconst 2, 1) := by decide +kernel
theorem dX4_turnKeeps_27 : decode cX4_turnKeeps 27 = .ok (.if_icmp .ne 38, 3) := by decide +kernel
theorem dX4_turnKeeps_30 : decode cX4_turnKeeps 30 = .ok (.lload_n 2, 1) := by decide +kernel
theorem dX4_turnKeeps_31 : decode cX4_turnKeeps 31 = .ok (.lconst 0, 1) := by decide +kernel
theorem dX4_turnKeeps_32 : decode cX4_turnKeeps 32 = .ok (.lcmp, 1) := by decide +kernel
theorem dX4_turnKeeps_33 : decode cX4_turnKeeps 33 = .ok (.ifCond .le 32, 3) := by decide +kernel
theorem dX4_turnKeeps_36 : decode cX4_turnKeeps 36 = .ok (.aload_n 0, 1) := by decide +kernel
theorem dX4_turnKeeps_37 : decode cX4_turnKeeps 37 = .ok (.getfield 44, 3) := by decide +kernel
theorem dX4_turnKeeps_40 : decode cX4_turnKeeps 40 = .ok (.iload_n 1, 1) := by decide +kernel
theorem dX4_turnKeeps_41 : decode cX4_turnKeeps 41 = .ok (.ldc2_w 99, 3) := by decide +kernel
theorem dX4_turnKeeps_44 : decode cX4_turnKeeps 44 = .ok (.aload_n 0, 1) := by decide +kernel
theorem dX4_turnKeeps_45 : decode cX4_turnKeeps 45 = .ok (.getfield 44, 3) := by decide +kernel
theorem dX4_turnKeeps_48 : decode cX4_turnKeeps 48 = .ok (.iload_n 1, 1) := by decide +kernel
theorem dX4_turnKeeps_49 : decode cX4_turnKeeps 49 = .ok (.laload, 1) := by decide +kernel
theorem dX4_turnKeeps_50 : decode cX4_turnKeeps 50 = .ok (.aload_n 0, 1) := by decide +kernel
theorem dX4_turnKeeps_51 : decode cX4_turnKeeps 51 = .ok (.getfield 51, 3) := by decide +kernel
theorem dX4_turnKeeps_54 : decode cX4_turnKeeps 54 = .ok (.lmul, 1) := by decide +kernel
theorem dX4_turnKeeps_55 : decode cX4_turnKeeps 55 = .ok (.lload_n 2, 1) := by decide +kernel
theorem dX4_turnKeeps_56 : decode cX4_turnKeeps 56 = .ok (.ladd, 1) := by decide +kernel
theorem dX4_turnKeeps_57 : decode cX4_turnKeeps 57 = .ok (.lconst 1, 1) := by decide +kernel
theorem dX4_turnKeeps_58 : decode cX4_turnKeeps 58 = .ok (.lsub, 1) := by decide +kernel
theorem dX4_turnKeeps_59 : decode cX4_turnKeeps 59 = .ok (.lload_n 2, 1) := by decide +kernel
theorem dX4_turnKeeps_60 : decode cX4_turnKeeps 60 = .ok (.ldiv, 1) := by decide +kernel
theorem dX4_turnKeeps_61 : decode cX4_turnKeeps 61 = .ok (.invokestatic 136, 3) := by decide +kernel
theorem dX4_turnKeeps_64 : decode cX4_turnKeeps 64 = .ok (.lastore, 1) := by decide +kernel
theorem dX4_turnKeeps_65 : decode cX4_turnKeeps 65 = .ok (.iinc 1 1, 3) := by decide +kernel
theorem dX4_turnKeeps_68 : decode cX4_turnKeeps 68 = .ok (.goto (-66), 3) := by decide +kernel
theorem dX4_turnKeeps_71 : decode cX4_turnKeeps 71 = .ok (.return_, 1) := by decide +kernel
theorem dX4_workOut_0 : decode cX4_workOut 0 = .ok (.aload_n 0, 1) := by decide +kernel
theorem dX4_workOut_1 : decode cX4_workOut 1 = .ok (.getfield 48, 3) := by decide +kernel
theorem dX4_workOut_4 : decode cX4_workOut 4 = .ok (.lconst 0, 1) := by decide +kernel
theorem dX4_workOut_5 : decode cX4_workOut 5 = .ok (.invokestatic 142, 3) := by decide +kernel
theorem dX4_workOut_8 : decode cX4_workOut 8 = .ok (.aload_n 0, 1) := by decide +kernel
theorem dX4_workOut_9 : decode cX4_workOut 9 = .ok (.lconst 0, 1) := by decide +kernel
theorem dX4_workOut_10 : decode cX4_workOut 10 = .ok (.putfield 55, 3) := by decide +kernel
theorem dX4_workOut_13 : decode cX4_workOut 13 = .ok (.iconst 0, 1) := by decide +kernel
theorem dX4_workOut_14 : decode cX4_workOut 14 = .ok (.istore_n 1, 1) := by decide +kernel
theorem dX4_workOut_15 : decode cX4_workOut 15 = .ok (.iload_n 1, 1) := by decide +kernel
theorem dX4_workOut_16 : decode cX4_workOut 16 = .ok (.aload_n 0, 1) := by decide +kernel
theorem dX4_workOut_17 : decode cX4_workOut 17 = .ok (.getfield 12, 3) := by decide +kernel
theorem dX4_workOut_20 : decode cX4_workOut 20 = .ok (.getfield 147, 3) := by decide +kernel
theorem dX4_workOut_23 : decode cX4_workOut 23 = .ok (.if_icmp .ge 45, 3) := by decide +kernel
theorem dX4_workOut_26 : decode cX4_workOut 26 = .ok (.aload_n 0, 1) := by decide +kernel
theorem dX4_workOut_27 : decode cX4_workOut 27 = .ok (.dup, 1) := by decide +kernel
theorem dX4_workOut_28 : decode cX4_workOut 28 = .ok (.getfield 55, 3) := by decide +kernel
theorem dX4_workOut_31 : decode cX4_workOut 31 = .ok (.aload_n 0, 1) := by decide +kernel
theorem dX4_workOut_32 : decode cX4_workOut 32 = .ok (.aload_n 0, 1) := by decide +kernel
theorem dX4_workOut_33 : decode cX4_workOut 33 = .ok (.getfield 12, 3) := by decide +kernel
theorem dX4_workOut_36 : decode cX4_workOut 36 = .ok (.getfield 150, 3) := by decide +kernel
theorem dX4_workOut_39 : decode cX4_workOut 39 = .ok (.iload_n 1, 1) := by decide +kernel
theorem dX4_workOut_40 : decode cX4_workOut 40 = .ok (.iaload, 1) := by decide +kernel
theorem dX4_workOut_41 : decode cX4_workOut 41 = .ok (.aload_n 0, 1) := by decide +kernel
theorem dX4_workOut_42 : decode cX4_workOut 42 = .ok (.getfield 12, 3) := by decide +kernel
theorem dX4_workOut_45 : decode cX4_workOut 45 = .ok (.getfield 153, 3) := by decide +kernel
theorem dX4_workOut_48 : decode cX4_workOut 48 = .ok (.iload_n 1, 1) := by decide +kernel
theorem dX4_workOut_49 : decode cX4_workOut 49 = .ok (.iaload, 1) := by decide +kernel
theorem dX4_workOut_50 : decode cX4_workOut 50 = .ok (.i2l, 1) := by decide +kernel
theorem dX4_workOut_51 : decode cX4_workOut 51 = .ok (.ldc2_w 99, 3) := by decide +kernel
theorem dX4_workOut_54 : decode cX4_workOut 54 = .ok (.lmul, 1) := by decide +kernel
theorem dX4_workOut_55 : decode cX4_workOut 55 = .ok (.invokevirtual 156, 3) := by decide +kernel
theorem dX4_workOut_58 : decode cX4_workOut 58 = .ok (.ladd, 1) := by decide +kernel
theorem dX4_workOut_59 : decode cX4_workOut 59 = .ok (.putfield 55, 3) := by decide +kernel
theorem dX4_workOut_62 : decode cX4_workOut 62 = .ok (.iinc 1 1, 3) := by decide +kernel
theorem dX4_workOut_65 : decode cX4_workOut 65 = .ok (.goto (-50), 3) := by decide +kernel
theorem dX4_workOut_68 : decode cX4_workOut 68 = .ok (.aload_n 0, 1) := by decide +kernel
theorem dX4_workOut_69 : decode cX4_workOut 69 = .ok (.lconst 0, 1) := by decide +kernel
theorem dX4_workOut_70 : decode cX4_workOut 70 = .ok (.putfield 58, 3) := by decide +kernel
theorem dX4_workOut_73 : decode cX4_workOut 73 = .ok (.iconst 0, 1) := by decide +kernel
theorem dX4_workOut_74 : decode cX4_workOut 74 = .ok (.istore_n 1, 1) := by decide +kernel
theorem dX4_workOut_75 : decode cX4_workOut 75 = .ok (.iload_n 1, 1) := by decide +kernel
theorem dX4_workOut_76 : decode cX4_workOut 76 = .ok (.aload_n 0, 1) := by decide +kernel
theorem dX4_workOut_77 : decode cX4_workOut 77 = .ok (.getfield 61, 3) := by decide +kernel
theorem dX4_workOut_80 : decode cX4_workOut 80 = .ok (.getfield 92, 3) := by decide +kernel
theorem dX4_workOut_83 : decode cX4_workOut 83 = .ok (.if_icmp .ge 24, 3) := by decide +kernel
theorem dX4_workOut_86 : decode cX4_workOut 86 = .ok (.aload_n 0, 1) := by decide +kernel
theorem dX4_workOut_87 : decode cX4_workOut 87 = .ok (.dup, 1) := by decide +kernel
theorem dX4_workOut_88 : decode cX4_workOut 88 = .ok (.getfield 58, 3) := by decide +kernel
theorem dX4_workOut_91 : decode cX4_workOut 91 = .ok (.aload_n 0, 1) := by decide +kernel
theorem dX4_workOut_92 : decode cX4_workOut 92 = .ok (.getfield 48, 3) := by decide +kernel
theorem dX4_workOut_95 : decode cX4_workOut 95 = .ok (.iload_n 1, 1) := by decide +kernel
theorem dX4_workOut_96 : decode cX4_workOut 96 = .ok (.laload, 1) := by decide +kernel
theorem dX4_workOut_97 : decode cX4_workOut 97 = .ok (.ladd, 1) := by decide +kernel
theorem dX4_workOut_98 : decode cX4_workOut 98 = .ok (.putfield 58, 3) := by decide +kernel
theorem dX4_workOut_101 : decode cX4_workOut 101 = .ok (.iinc 1 1, 3) := by decide +kernel
theorem dX4_workOut_104 : decode cX4_workOut 104 = .ok (.goto (-29), 3) := by decide +kernel
theorem dX4_workOut_107 : decode cX4_workOut 107 = .ok (.aload_n 0, 1) := by decide +kernel
theorem dX4_workOut_108 : decode cX4_workOut 108 = .ok (.aload_n 0, 1) := by decide +kernel
theorem dX4_workOut_109 : decode cX4_workOut 109 = .ok (.getfield 58, 3) := by decide +kernel
theorem dX4_workOut_112 : decode cX4_workOut 112 = .ok (.aload_n 0, 1) := by decide +kernel
theorem dX4_workOut_113 : decode cX4_workOut 113 = .ok (.getfield 61, 3) := by decide +kernel
theorem dX4_workOut_116 : decode cX4_workOut 116 = .ok (.getfield 73, 3) := by decide +kernel
theorem dX4_workOut_119 : decode cX4_workOut 119 = .ok (.iconst 1, 1) := by decide +kernel
theorem dX4_workOut_120 : decode cX4_workOut 120 = .ok (.iadd, 1) := by decide +kernel
theorem dX4_workOut_121 : decode cX4_workOut 121 = .ok (.i2l, 1) := by decide +kernel
theorem dX4_workOut_122 : decode cX4_workOut 122 = .ok (.invokestatic 160, 3) := by decide +kernel
theorem dX4_workOut_125 : decode cX4_workOut 125 = .ok (.lconst 1, 1) := by decide +kernel
theorem dX4_workOut_126 : decode cX4_workOut 126 = .ok (.ladd, 1) := by decide +kernel
theorem dX4_workOut_127 : decode cX4_workOut 127 = .ok (.putfield 51, 3) := by decide +kernel
theorem dX4_workOut_130 : decode cX4_workOut 130 = .ok (.return_, 1) := by decide +kernel
theorem dX4_passOn_0 : decode cX4_passOn 0 = .ok (.lload_n 2, 1) := by decide +kernel
theorem dX4_passOn_1 : decode cX4_passOn 1 = .ok (.lstore 4, 2) := by decide +kernel
theorem dX4_passOn_3 : decode cX4_passOn 3 = .ok (.iconst 0, 1) := by decide +kernel
theorem dX4_passOn_4 : decode cX4_passOn 4 = .ok (.istore 6, 2) := by decide +kernel
theorem dX4_passOn_6 : decode cX4_passOn 6 = .ok (.iload 6, 2) := by decide +kernel
theorem dX4_passOn_8 : decode cX4_passOn 8 = .ok (.bipush 8, 2) := by decide +kernel
theorem dX4_passOn_10 : decode cX4_passOn 10 = .ok (.if_icmp .ge 74, 3) := by decide +kernel
theorem dX4_passOn_13 : decode cX4_passOn 13 = .ok (.lload 4, 2) := by decide +kernel
theorem dX4_passOn_15 : decode cX4_passOn 15 = .ok (.lconst 0, 1) := by decide +kernel
theorem dX4_passOn_16 : decode cX4_passOn 16 = .ok (.lcmp, 1) := by decide +kernel
theorem dX4_passOn_17 : decode cX4_passOn 17 = .ok (.ifCond .le 67, 3) := by decide +kernel
theorem dX4_passOn_20 : decode cX4_passOn 20 = .ok (.iload_n 1, 1) := by decide +kernel
theorem dX4_passOn_21 : decode cX4_passOn 21 = .ok (.iload 6, 2) := by decide +kernel
theorem dX4_passOn_23 : decode cX4_passOn 23 = .ok (.invokestatic 163, 3) := by decide +kernel
theorem dX4_passOn_26 : decode cX4_passOn 26 = .ok (.istore 7, 2) := by decide +kernel
theorem dX4_passOn_28 : decode cX4_passOn 28 = .ok (.iload 7, 2) := by decide +kernel
theorem dX4_passOn_30 : decode cX4_passOn 30 = .ok (.ifCond .lt 10, 3) := by decide +kernel
theorem dX4_passOn_33 : decode cX4_passOn 33 = .ok (.iload 7, 2) := by decide +kernel
theorem dX4_passOn_35 : decode cX4_passOn 35 = .ok (.bipush 8, 2) := by decide +kernel
theorem dX4_passOn_37 : decode cX4_passOn 37 = .ok (.if_icmp .lt 6, 3) := by decide +kernel
theorem dX4_passOn_40 : decode cX4_passOn 40 = .ok (.lload 4, 2) := by decide +kernel
theorem dX4_passOn_42 : decode cX4_passOn 42 = .ok (.lreturn, 1) := by decide +kernel
theorem dX4_passOn_43 : decode cX4_passOn 43 = .ok (.lload 4, 2) := by decide +kernel
theorem dX4_passOn_45 : decode cX4_passOn 45 = .ok (.aload_n 0, 1) := by decide +kernel
theorem dX4_passOn_46 : decode cX4_passOn 46 = .ok (.getfield 44, 3) := by decide +kernel
theorem dX4_passOn_49 : decode cX4_passOn 49 = .ok (.iload 7, 2) := by decide +kernel
theorem dX4_passOn_51 : decode cX4_passOn 51 = .ok (.laload, 1) := by decide +kernel
theorem dX4_passOn_52 : decode cX4_passOn 52 = .ok (.lmul, 1) := by decide +kernel
theorem dX4_passOn_53 : decode cX4_passOn 53 = .ok (.ldc2_w 99, 3) := by decide +kernel
theorem dX4_passOn_56 : decode cX4_passOn 56 = .ok (.ldiv, 1) := by decide +kernel
theorem dX4_passOn_57 : decode cX4_passOn 57 = .ok (.lstore 8, 2) := by decide +kernel
theorem dX4_passOn_59 : decode cX4_passOn 59 = .ok (.aload_n 0, 1) := by decide +kernel
theorem dX4_passOn_60 : decode cX4_passOn 60 = .ok (.getfield 48, 3) := by decide +kernel
theorem dX4_passOn_63 : decode cX4_passOn 63 = .ok (.iload 7, 2) := by decide +kernel
theorem dX4_passOn_65 : decode cX4_passOn 65 = .ok (.dup2, 1) := by decide +kernel
theorem dX4_passOn_66 : decode cX4_passOn 66 = .ok (.laload, 1) := by decide +kernel
theorem dX4_passOn_67 : decode cX4_passOn 67 = .ok (.lload 8, 2) := by decide +kernel
theorem dX4_passOn_69 : decode cX4_passOn 69 = .ok (.ladd, 1) := by decide +kernel
theorem dX4_passOn_70 : decode cX4_passOn 70 = .ok (.lastore, 1) := by decide +kernel
theorem dX4_passOn_71 : decode cX4_passOn 71 = .ok (.lload 4, 2) := by decide +kernel
theorem dX4_passOn_73 : decode cX4_passOn 73 = .ok (.lload 8, 2) := by decide +kernel
theorem dX4_passOn_75 : decode cX4_passOn 75 = .ok (.lsub, 1) := by decide +kernel
theorem dX4_passOn_76 : decode cX4_passOn 76 = .ok (.lstore 4, 2) := by decide +kernel
theorem dX4_passOn_78 : decode cX4_passOn 78 = .ok (.iinc 6 1, 3) := by decide +kernel
theorem dX4_passOn_81 : decode cX4_passOn 81 = .ok (.goto (-75), 3) := by decide +kernel
theorem dX4_passOn_84 : decode cX4_passOn 84 = .ok (.lload 4, 2) := by decide +kernel
theorem dX4_passOn_86 : decode cX4_passOn 86 = .ok (.lreturn, 1) := by decide +kernel
theorem dX4_surplus_0 : decode cX4_surplus 0 = .ok (.lconst 0, 1) := by decide +kernel
theorem dX4_surplus_1 : decode cX4_surplus 1 = .ok (.lstore_n 1, 1) := by decide +kernel
theorem dX4_surplus_2 : decode cX4_surplus 2 = .ok (.iconst 0, 1) := by decide +kernel
theorem dX4_surplus_3 : decode cX4_surplus 3 = .ok (.istore_n 3, 1) := by decide +kernel
theorem dX4_surplus_4 : decode cX4_surplus 4 = .ok (.iload_n 3, 1) := by decide +kernel
theorem dX4_surplus_5 : decode cX4_surplus 5 = .ok (.aload_n 0, 1) := by decide +kernel
theorem dX4_surplus_6 : decode cX4_surplus 6 = .ok (.getfield 61, 3) := by decide +kernel
theorem dX4_surplus_9 : decode cX4_surplus 9 = .ok (.getfield 92, 3) := by decide +kernel
theorem dX4_surplus_12 : decode cX4_surplus 12 = .ok (.if_icmp .ge 37, 3) := by decide +kernel
theorem dX4_surplus_15 : decode cX4_surplus 15 = .ok (.aload_n 0, 1) := by decide +kernel
theorem dX4_surplus_16 : decode cX4_surplus 16 = .ok (.getfield 18, 3) := by decide +kernel
theorem dX4_surplus_19 : decode cX4_surplus 19 = .ok (.iload_n 3, 1) := by decide +kernel
theorem dX4_surplus_20 : decode cX4_surplus 20 = .ok (.iaload, 1) := by decide +kernel
theorem dX4_surplus_21 : decode cX4_surplus 21 = .ok (.iconst 2, 1) := by decide +kernel
theorem dX4_surplus_22 : decode cX4_surplus 22 = .ok (.if_icmp .ne 21, 3) := by decide +kernel
theorem dX4_surplus_25 : decode cX4_surplus 25 = .ok (.lload_n 1, 1) := by decide +kernel
theorem dX4_surplus_26 : decode cX4_surplus 26 = .ok (.lconst 0, 1) := by decide +kernel
theorem dX4_surplus_27 : decode cX4_surplus 27 = .ok (.aload_n 0, 1) := by decide +kernel
theorem dX4_surplus_28 : decode cX4_surplus 28 = .ok (.getfield 48, 3) := by decide +kernel
theorem dX4_surplus_31 : decode cX4_surplus 31 = .ok (.iload_n 3, 1) := by decide +kernel
theorem dX4_surplus_32 : decode cX4_surplus 32 = .ok (.laload, 1) := by decide +kernel
theorem dX4_surplus_33 : decode cX4_surplus 33 = .ok (.aload_n 0, 1) := by decide +kernel
theorem dX4_surplus_34 : decode cX4_surplus 34 = .ok (.getfield 51, 3) := by decide +kernel
theorem dX4_surplus_37 : decode cX4_surplus 37 = .ok (.lsub, 1) := by decide +kernel
theorem dX4_surplus_38 : decode cX4_surplus 38 = .ok (.invokestatic 169, 3) := by decide +kernel
theorem dX4_surplus_41 : decode cX4_surplus 41 = .ok (.ladd, 1) := by decide +kernel
theorem dX4_surplus_42 : decode cX4_surplus 42 = .ok (.lstore_n 1, 1) := by decide +kernel
theorem dX4_surplus_43 : decode cX4_surplus 43 = .ok (.iinc 3 1, 3) := by decide +kernel
theorem dX4_surplus_46 : decode cX4_surplus 46 = .ok (.goto (-42), 3) := by decide +kernel
theorem dX4_surplus_49 : decode cX4_surplus 49 = .ok (.lload_n 1, 1) := by decide +kernel
theorem dX4_surplus_50 : decode cX4_surplus 50 = .ok (.lreturn, 1) := by decide +kernel
theorem dX4_note_0 : decode cX4_note 0 = .ok (.aload_n 1, 1) := by decide +kernel
theorem dX4_note_1 : decode cX4_note 1 = .ok (.iload_n 2, 1) := by decide +kernel
theorem dX4_note_2 : decode cX4_note 2 = .ok (.putfield 172, 3) := by decide +kernel
theorem dX4_note_5 : decode cX4_note 5 = .ok (.aload_n 1, 1) := by decide +kernel
theorem dX4_note_6 : decode cX4_note 6 = .ok (.aload_n 0, 1) := by decide +kernel
theorem dX4_note_7 : decode cX4_note 7 = .ok (.getfield 51, 3) := by decide +kernel
theorem dX4_note_10 : decode cX4_note 10 = .ok (.putfield 173, 3) := by decide +kernel
theorem dX4_note_13 : decode cX4_note 13 = .ok (.aload_n 1, 1) := by decide +kernel
theorem dX4_note_14 : decode cX4_note 14 = .ok (.aload_n 0, 1) := by decide +kernel
theorem dX4_note_15 : decode cX4_note 15 = .ok (.getfield 55, 3) := by decide +kernel
theorem dX4_note_18 : decode cX4_note 18 = .ok (.putfield 174, 3) := by decide +kernel
theorem dX4_note_21 : decode cX4_note 21 = .ok (.aload_n 1, 1) := by decide +kernel
theorem dX4_note_22 : decode cX4_note 22 = .ok (.lload_n 3, 1) := by decide +kernel
theorem dX4_note_23 : decode cX4_note 23 = .ok (.putfield 175, 3) := by decide +kernel
theorem dX4_note_26 : decode cX4_note 26 = .ok (.aload_n 1, 1) := by decide +kernel
theorem dX4_note_27 : decode cX4_note 27 = .ok (.aload_n 0, 1) := by decide +kernel
theorem dX4_note_28 : decode cX4_note 28 = .ok (.getfield 58, 3) := by decide +kernel
theorem dX4_note_31 : decode cX4_note 31 = .ok (.putfield 177, 3) := by decide +kernel
theorem dX4_note_34 : decode cX4_note 34 = .ok (.iconst 0, 1) := by decide +kernel
theorem dX4_note_35 : decode cX4_note 35 = .ok (.istore 5, 2) := by decide +kernel
theorem dX4_note_37 : decode cX4_note 37 = .ok (.iload 5, 2) := by decide +kernel
theorem dX4_note_39 : decode cX4_note 39 = .ok (.bipush 8, 2) := by decide +kernel
theorem dX4_note_41 : decode cX4_note 41 = .ok (.if_icmp .ge 37, 3) := by decide +kernel
theorem dX4_note_44 : decode cX4_note 44 = .ok (.aload_n 1, 1) := by decide +kernel
theorem dX4_note_45 : decode cX4_note 45 = .ok (.getfield 178, 3) := by decide +kernel
theorem dX4_note_48 : decode cX4_note 48 = .ok (.iload 5, 2) := by decide +kernel
theorem dX4_note_50 : decode cX4_note 50 = .ok (.aload_n 0, 1) := by decide +kernel
theorem dX4_note_51 : decode cX4_note 51 = .ok (.getfield 48, 3) := by decide +kernel
theorem dX4_note_54 : decode cX4_note 54 = .ok (.iload 5, 2) := by decide +kernel
theorem dX4_note_56 : decode cX4_note 56 = .ok (.laload, 1) := by decide +kernel
theorem dX4_note_57 : decode cX4_note 57 = .ok (.lastore, 1) := by decide +kernel
theorem dX4_note_58 : decode cX4_note 58 = .ok (.aload_n 1, 1) := by decide +kernel
theorem dX4_note_59 : decode cX4_note 59 = .ok (.getfield 179, 3) := by decide +kernel
theorem dX4_note_62 : decode cX4_note 62 = .ok (.iload 5, 2) := by decide +kernel
theorem dX4_note_64 : decode cX4_note 64 = .ok (.aload_n 0, 1) := by decide +kernel
theorem dX4_note_65 : decode cX4_note 65 = .ok (.getfield 44, 3) := by decide +kernel
theorem dX4_note_68 : decode cX4_note 68 = .ok (.iload 5, 2) := by decide +kernel
theorem dX4_note_70 : decode cX4_note 70 = .ok (.laload, 1) := by decide +kernel
theorem dX4_note_71 : decode cX4_note 71 = .ok (.lastore, 1) := by decide +kernel
theorem dX4_note_72 : decode cX4_note 72 = .ok (.iinc 5 1, 3) := by decide +kernel
theorem dX4_note_75 : decode cX4_note 75 = .ok (.goto (-38), 3) := by decide +kernel
theorem dX4_note_78 : decode cX4_note 78 = .ok (.return_, 1) := by decide +kernel
theorem dX4_whoReachesQuota_0 : decode cX4_whoReachesQuota 0 = .ok (.iconst 0, 1) := by decide +kernel
theorem dX4_whoReachesQuota_1 : decode cX4_whoReachesQuota 1 = .ok (.istore_n 1, 1) := by decide +kernel
theorem dX4_whoReachesQuota_2 : decode cX4_whoReachesQuota 2 = .ok (.iconst 0, 1) := by decide +kernel
theorem dX4_whoReachesQuota_3 : decode cX4_whoReachesQuota 3 = .ok (.istore_n 2, 1) := by decide +kernel
theorem dX4_whoReachesQuota_4 : decode cX4_whoReachesQuota 4 = .ok (.iload_n 2, 1) := by decide +kernel
theorem dX4_whoReachesQuota_5 : decode cX4_whoReachesQuota 5 = .ok (.aload_n 0, 1) := by decide +kernel
theorem dX4_whoReachesQuota_6 : decode cX4_whoReachesQuota 6 = .ok (.getfield 61, 3) := by decide +kernel
theorem dX4_whoReachesQuota_9 : decode cX4_whoReachesQuota 9 = .ok (.getfield 92, 3) := by decide +kernel
theorem dX4_whoReachesQuota_12 : decode cX4_whoReachesQuota 12 = .ok (.if_icmp .ge 39, 3) := by decide +kernel
theorem dX4_whoReachesQuota_15 : decode cX4_whoReachesQuota 15 = .ok (.aload_n 0, 1) := by decide +kernel
theorem dX4_whoReachesQuota_16 : decode cX4_whoReachesQuota 16 = .ok (.getfield 18, 3) := by decide +kernel
theorem dX4_whoReachesQuota_19 : decode cX4_whoReachesQuota 19 = .ok (.iload_n 2, 1) := by decide +kernel
theorem dX4_whoReachesQuota_20 : decode cX4_whoReachesQuota 20 = .ok (.iaload, 1) := by decide +kernel
theorem dX4_whoReachesQuota_21 : decode cX4_whoReachesQuota 21 = .ok (.iconst 1, 1) := by decide +kernel
theorem dX4_whoReachesQuota_22 : decode cX4_whoReachesQuota 22 = .ok (.if_icmp .ne 23, 3) := by decide +kernel
theorem dX4_whoReachesQuota_25 : decode cX4_whoReachesQuota 25 = .ok (.aload_n 0, 1) := by decide +kernel
theorem dX4_whoReachesQuota_26 : decode cX4_whoReachesQuota 26 = .ok (.getfield 48, 3) := by decide +kernel
theorem dX4_whoReachesQuota_29 : decode cX4_whoReachesQuota 29 = .ok (.iload_n 2, 1) := by decide +kernel
theorem dX4_whoReachesQuota_30 : decode cX4_whoReachesQuota 30 = .ok (.laload, 1) := by decide +kernel
theorem dX4_whoReachesQuota_31 : decode cX4_whoReachesQuota 31 = .ok (.aload_n 0, 1) := by decide +kernel
theorem dX4_whoReachesQuota_32 : decode cX4_whoReachesQuota 32 = .ok (.getfield 51, 3) := by decide +kernel
theorem dX4_whoReachesQuota_35 : decode cX4_whoReachesQuota 35 = .ok (.lcmp, 1) := by decide +kernel
theorem dX4_whoReachesQuota_36 : decode cX4_whoReachesQuota 36 = .ok (.ifCond .lt 9, 3) := by decide +kernel
theorem dX4_whoReachesQuota_39 : decode cX4_whoReachesQuota 39 = .ok (.iload_n 1, 1) := by decide +kernel
theorem dX4_whoReachesQuota_40 : decode cX4_whoReachesQuota 40 = .ok (.iconst 1, 1) := by decide +kernel
theorem dX4_whoReachesQuota_41 : decode cX4_whoReachesQuota 41 = .ok (.iload_n 2, 1) := by decide +kernel
theorem dX4_whoReachesQuota_42 : decode cX4_whoReachesQuota 42 = .ok (.ishl, 1) := by decide +kernel
theorem dX4_whoReachesQuota_43 : decode cX4_whoReachesQuota 43 = .ok (.ior, 1) := by decide +kernel
theorem dX4_whoReachesQuota_44 : decode cX4_whoReachesQuota 44 = .ok (.istore_n 1, 1) := by decide +kernel
theorem dX4_whoReachesQuota_45 : decode cX4_whoReachesQuota 45 = .ok (.iinc 2 1, 3) := by decide +kernel
theorem dX4_whoReachesQuota_48 : decode cX4_whoReachesQuota 48 = .ok (.goto (-44), 3) := by decide +kernel
theorem dX4_whoReachesQuota_51 : decode cX4_whoReachesQuota 51 = .ok (.iload_n 1, 1) := by decide +kernel
theorem dX4_whoReachesQuota_52 : decode cX4_whoReachesQuota 52 = .ok (.ireturn, 1) := by decide +kernel
theorem dX4_elect_0 : decode cX4_elect 0 = .ok (.aload_n 0, 1) := by decide +kernel
theorem dX4_elect_1 : decode cX4_elect 1 = .ok (.getfield 61, 3) := by decide +kernel
theorem dX4_elect_4 : decode cX4_elect 4 = .ok (.getfield 73, 3) := by decide +kernel
theorem dX4_elect_7 : decode cX4_elect 7 = .ok (.aload_n 0, 1) := by decide +kernel
theorem dX4_elect_8 : decode cX4_elect 8 = .ok (.getfield 28, 3) := by decide +kernel
theorem dX4_elect_11 : decode cX4_elect 11 = .ok (.isub, 1) := by decide +kernel
theorem dX4_elect_12 : decode cX4_elect 12 = .ok (.istore_n 3, 1) := by decide +kernel
theorem dX4_elect_13 : decode cX4_elect 13 = .ok (.iload_n 3, 1) := by decide +kernel
theorem dX4_elect_14 : decode cX4_elect 14 = .ok (.ifCond .le 111, 3) := by decide +kernel
theorem dX4_elect_17 : decode cX4_elect 17 = .ok (.aload_n 0, 1) := by decide +kernel
theorem dX4_elect_18 : decode cX4_elect 18 = .ok (.aload_n 1, 1) := by decide +kernel
theorem dX4_elect_19 : decode cX4_elect 19 = .ok (.getfield 178, 3) := by decide +kernel
theorem dX4_elect_22 : decode cX4_elect 22 = .ok (.iload_n 2, 1) := by decide +kernel
theorem dX4_elect_23 : decode cX4_elect 23 = .ok (.aload_n 1, 1) := by decide +kernel
theorem dX4_elect_24 : decode cX4_elect 24 = .ok (.getfield 78, 3) := by decide +kernel
theorem dX4_elect_27 : decode cX4_elect 27 = .ok (.iconst (-1), 1) := by decide +kernel
theorem dX4_elect_28 : decode cX4_elect 28 = .ok (.ixor, 1) := by decide +kernel
theorem dX4_elect_29 : decode cX4_elect 29 = .ok (.iand, 1) := by decide +kernel
theorem dX4_elect_30 : decode cX4_elect 30 = .ok (.iconst 0, 1) := by decide +kernel
theorem dX4_elect_31 : decode cX4_elect 31 = .ok (.invokevirtual 180, 3) := by decide +kernel
theorem dX4_elect_34 : decode cX4_elect 34 = .ok (.istore 4, 2) := by decide +kernel
theorem dX4_elect_36 : decode cX4_elect 36 = .ok (.iload 4, 2) := by decide +kernel
theorem dX4_elect_38 : decode cX4_elect 38 = .ok (.ifCond .lt 15, 3) := by decide +kernel
theorem dX4_elect_41 : decode cX4_elect 41 = .ok (.aload_n 0, 1) := by decide +kernel
theorem dX4_elect_42 : decode cX4_elect 42 = .ok (.getfield 28, 3) := by decide +kernel
theorem dX4_elect_45 : decode cX4_elect 45 = .ok (.aload_n 0, 1) := by decide +kernel
theorem dX4_elect_46 : decode cX4_elect 46 = .ok (.getfield 25, 3) := by decide +kernel
theorem dX4_elect_49 : decode cX4_elect 49 = .ok (.arraylength, 1) := by decide +kernel
theorem dX4_elect_50 : decode cX4_elect 50 = .ok (.if_icmp .lt 4, 3) := by decide +kernel
theorem dX4_elect_53 : decode cX4_elect 53 = .ok (.return_, 1) := by decide +kernel
theorem dX4_elect_54 : decode cX4_elect 54 = .ok (.aload_n 1, 1) := by decide +kernel
theorem dX4_elect_55 : decode cX4_elect 55 = .ok (.dup, 1) := by decide +kernel
theorem dX4_elect_56 : decode cX4_elect 56 = .ok (.getfield 78, 3) := by decide +kernel
theorem dX4_elect_59 : decode cX4_elect 59 = .ok (.iconst 1, 1) := by decide +kernel
theorem dX4_elect_60 : decode cX4_elect 60 = .ok (.iload 4, 2) := by decide +kernel
theorem dX4_elect_62 : decode cX4_elect 62 = .ok (.ishl, 1) := by decide +kernel
theorem dX4_elect_63 : decode cX4_elect 63 = .ok (.ior, 1) := by decide +kernel
theorem dX4_elect_64 : decode cX4_elect 64 = .ok (.putfield 78, 3) := by decide +kernel
theorem dX4_elect_67 : decode cX4_elect 67 = .ok (.aload_n 0, 1) := by decide +kernel
theorem dX4_elect_68 : decode cX4_elect 68 = .ok (.getfield 25, 3) := by decide +kernel
theorem dX4_elect_71 : decode cX4_elect 71 = .ok (.aload_n 0, 1) := by decide +kernel
theorem dX4_elect_72 : decode cX4_elect 72 = .ok (.getfield 28, 3) := by decide +kernel
theorem dX4_elect_75 : decode cX4_elect 75 = .ok (.iload 4, 2) := by decide +kernel
theorem dX4_elect_77 : decode cX4_elect 77 = .ok (.iastore, 1) := by decide +kernel
theorem dX4_elect_78 : decode cX4_elect 78 = .ok (.aload_n 0, 1) := by decide +kernel
theorem dX4_elect_79 : decode cX4_elect 79 = .ok (.dup, 1) := by decide +kernel
theorem dX4_elect_80 : decode cX4_elect 80 = .ok (.getfield 28, 3) := by decide +kernel
theorem dX4_elect_83 : decode cX4_elect 83 = .ok (.iconst 1, 1) := by decide +kernel
theorem dX4_elect_84 : decode cX4_elect 84 = .ok (.iadd, 1) := by decide +kernel
theorem dX4_elect_85 : decode cX4_elect 85 = .ok (.putfield 28, 3) := by decide +kernel
theorem dX4_elect_88 : decode cX4_elect 88 = .ok (.aload_n 0, 1) := by decide +kernel
theorem dX4_elect_89 : decode cX4_elect 89 = .ok (.dup, 1) := by decide +kernel
theorem dX4_elect_90 : decode cX4_elect 90 = .ok (.getfield 32, 3) := by decide +kernel
theorem dX4_elect_93 : decode cX4_elect 93 = .ok (.iconst 1, 1) := by decide +kernel
theorem dX4_elect_94 : decode cX4_elect 94 = .ok (.isub, 1) := by decide +kernel
theorem dX4_elect_95 : decode cX4_elect 95 = .ok (.putfield 32, 3) := by decide +kernel
theorem dX4_elect_98 : decode cX4_elect 98 = .ok (.aload_n 0, 1) := by decide +kernel
theorem dX4_elect_99 : decode cX4_elect 99 = .ok (.getfield 18, 3) := by decide +kernel
theorem dX4_elect_102 : decode cX4_elect 102 = .ok (.iload 4, 2) := by decide +kernel
theorem dX4_elect_104 : decode cX4_elect 104 = .ok (.iconst 2, 1) := by decide +kernel
theorem dX4_elect_105 : decode cX4_elect 105 = .ok (.iastore, 1) := by decide +kernel
theorem dX4_elect_106 : decode cX4_elect 106 = .ok (.aload_n 0, 1) := by decide +kernel
theorem dX4_elect_107 : decode cX4_elect 107 = .ok (.getfield 22, 3) := by decide +kernel
theorem dX4_elect_110 : decode cX4_elect 110 = .ok (.iload 4, 2) := by decide +kernel
theorem dX4_elect_112 : decode cX4_elect 112 = .ok (.aload_n 0, 1) := by decide +kernel
theorem dX4_elect_113 : decode cX4_elect 113 = .ok (.getfield 35, 3) := by decide +kernel
theorem dX4_elect_116 : decode cX4_elect 116 = .ok (.iconst 1, 1) := by decide +kernel
theorem dX4_elect_117 : decode cX4_elect 117 = .ok (.isub, 1) := by decide +kernel
theorem dX4_elect_118 : decode cX4_elect 118 = .ok (.iastore, 1) := by decide +kernel
theorem dX4_elect_119 : decode cX4_elect 119 = .ok (.iinc 3 (-1), 3) := by decide +kernel
theorem dX4_elect_122 : decode cX4_elect 122 = .ok (.goto (-109), 3) := by decide +kernel
theorem dX4_elect_125 : decode cX4_elect 125 = .ok (.return_, 1) := by decide +kernel
theorem dX4_exclude_0 : decode cX4_exclude 0 = .ok (.aload_n 0, 1) := by decide +kernel
theorem dX4_exclude_1 : decode cX4_exclude 1 = .ok (.iconst 1, 1) := by decide +kernel
theorem dX4_exclude_2 : decode cX4_exclude 2 = .ok (.invokevirtual 108, 3) := by decide +kernel
theorem dX4_exclude_5 : decode cX4_exclude 5 = .ok (.istore_n 2, 1) := by decide +kernel
theorem dX4_exclude_6 : decode cX4_exclude 6 = .ok (.aload_n 0, 1) := by decide +kernel
theorem dX4_exclude_7 : decode cX4_exclude 7 = .ok (.getfield 35, 3) := by decide +kernel
theorem dX4_exclude_10 : decode cX4_exclude 10 = .ok (.iconst 1, 1) := by decide +kernel
theorem dX4_exclude_11 : decode cX4_exclude 11 = .ok (.isub, 1) := by decide +kernel
theorem dX4_exclude_12 : decode cX4_exclude 12 = .ok (.istore_n 3, 1) := by decide +kernel
theorem dX4_exclude_13 : decode cX4_exclude 13 = .ok (.iload_n 3, 1) := by decide +kernel
theorem dX4_exclude_14 : decode cX4_exclude 14 = .ok (.ifCond .lt 24, 3) := by decide +kernel
theorem dX4_exclude_17 : decode cX4_exclude 17 = .ok (.aload_n 0, 1) := by decide +kernel
theorem dX4_exclude_18 : decode cX4_exclude 18 = .ok (.aload_n 0, 1) := by decide +kernel
theorem dX4_exclude_19 : decode cX4_exclude 19 = .ok (.getfield 40, 3) := by decide +kernel
theorem dX4_exclude_22 : decode cX4_exclude 22 = .ok (.iload_n 3, 1) := by decide +kernel
theorem dX4_exclude_23 : decode cX4_exclude 23 = .ok (.aaload, 1) := by decide +kernel
theorem dX4_exclude_24 : decode cX4_exclude 24 = .ok (.getfield 178, 3) := by decide +kernel
theorem dX4_exclude_27 : decode cX4_exclude 27 = .ok (.iload_n 2, 1) := by decide +kernel
theorem dX4_exclude_28 : decode cX4_exclude 28 = .ok (.invokevirtual 184, 3) := by decide +kernel
theorem dX4_exclude_31 : decode cX4_exclude 31 = .ok (.istore_n 2, 1) := by decide +kernel
theorem dX4_exclude_32 : decode cX4_exclude 32 = .ok (.iinc 3 (-1), 3) := by decide +kernel
theorem dX4_exclude_35 : decode cX4_exclude 35 = .ok (.goto (-22), 3) := by decide +kernel
theorem dX4_exclude_38 : decode cX4_exclude 38 = .ok (.aload_n 0, 1) := by decide +kernel
theorem dX4_exclude_39 : decode cX4_exclude 39 = .ok (.iload_n 2, 1) := by decide +kernel
theorem dX4_exclude_40 : decode cX4_exclude 40 = .ok (.invokevirtual 188, 3) := by decide +kernel
theorem dX4_exclude_43 : decode cX4_exclude 43 = .ok (.istore_n 3, 1) := by decide +kernel
theorem dX4_exclude_44 : decode cX4_exclude 44 = .ok (.iload_n 3, 1) := by decide +kernel
theorem dX4_exclude_45 : decode cX4_exclude 45 = .ok (.ifCond .lt 44, 3) := by decide +kernel
theorem dX4_exclude_48 : decode cX4_exclude 48 = .ok (.aload_n 1, 1) := by decide +kernel
theorem dX4_exclude_49 : decode cX4_exclude 49 = .ok (.iload_n 3, 1) := by decide +kernel
theorem dX4_exclude_50 : decode cX4_exclude 50 = .ok (.putfield 81, 3) := by decide +kernel
theorem dX4_exclude_53 : decode cX4_exclude 53 = .ok (.aload_n 0, 1) := by decide +kernel
theorem dX4_exclude_54 : decode cX4_exclude 54 = .ok (.dup, 1) := by decide +kernel
theorem dX4_exclude_55 : decode cX4_exclude 55 = .ok (.getfield 32, 3) := by decide +kernel
theorem dX4_exclude_58 : decode cX4_exclude 58 = .ok (.iconst 1, 1) := by decide +kernel
theorem dX4_exclude_59 : decode cX4_exclude 59 = .ok (.isub, 1) := by decide +kernel
theorem dX4_exclude_60 : decode cX4_exclude 60 = .ok (.putfield 32, 3) := by decide +kernel
theorem dX4_exclude_63 : decode cX4_exclude 63 = .ok (.aload_n 0, 1) := by decide +kernel
theorem dX4_exclude_64 : decode cX4_exclude 64 = .ok (.getfield 18, 3) := by decide +kernel
theorem dX4_exclude_67 : decode cX4_exclude 67 = .ok (.iload_n 3, 1) := by decide +kernel
theorem dX4_exclude_68 : decode cX4_exclude 68 = .ok (.iconst 3, 1) := by decide +kernel
theorem dX4_exclude_69 : decode cX4_exclude 69 = .ok (.iastore, 1) := by decide +kernel
theorem dX4_exclude_70 : decode cX4_exclude 70 = .ok (.aload_n 0, 1) := by decide +kernel
theorem dX4_exclude_71 : decode cX4_exclude 71 = .ok (.getfield 22, 3) := by decide +kernel
theorem dX4_exclude_74 : decode cX4_exclude 74 = .ok (.iload_n 3, 1) := by decide +kernel
theorem dX4_exclude_75 : decode cX4_exclude 75 = .ok (.aload_n 0, 1) := by decide +kernel
theorem dX4_exclude_76 : decode cX4_exclude 76 = .ok (.getfield 35, 3) := by decide +kernel
theorem dX4_exclude_79 : decode cX4_exclude 79 = .ok (.iconst 1, 1) := by decide +kernel
theorem dX4_exclude_80 : decode cX4_exclude 80 = .ok (.isub, 1) := by decide +kernel
theorem dX4_exclude_81 : decode cX4_exclude 81 = .ok (.iastore, 1) := by decide +kernel
theorem dX4_exclude_82 : decode cX4_exclude 82 = .ok (.aload_n 0, 1) := by decide +kernel
theorem dX4_exclude_83 : decode cX4_exclude 83 = .ok (.getfield 44, 3) := by decide +kernel
theorem dX4_exclude_86 : decode cX4_exclude 86 = .ok (.iload_n 3, 1) := by decide +kernel
theorem dX4_exclude_87 : decode cX4_exclude 87 = .ok (.lconst 0, 1) := by decide +kernel
theorem dX4_exclude_88 : decode cX4_exclude 88 = .ok (.lastore, 1) := by decide +kernel
theorem dX4_exclude_89 : decode cX4_exclude 89 = .ok (.return_, 1) := by decide +kernel
theorem dX4_whoHasFewest_0 : decode cX4_whoHasFewest 0 = .ok (.iconst 0, 1) := by decide +kernel
theorem dX4_whoHasFewest_1 : decode cX4_whoHasFewest 1 = .ok (.istore_n 3, 1) := by decide +kernel
theorem dX4_whoHasFewest_2 : decode cX4_whoHasFewest 2 = .ok (.ldc2_w 193, 3) := by decide +kernel
theorem dX4_whoHasFewest_5 : decode cX4_whoHasFewest 5 = .ok (.lstore 4, 2) := by decide +kernel
theorem dX4_whoHasFewest_7 : decode cX4_whoHasFewest 7 = .ok (.iconst 0, 1) := by decide +kernel
theorem dX4_whoHasFewest_8 : decode cX4_whoHasFewest 8 = .ok (.istore 6, 2) := by decide +kernel
theorem dX4_whoHasFewest_10 : decode cX4_whoHasFewest 10 = .ok (.iload 6, 2) := by decide +kernel
theorem dX4_whoHasFewest_12 : decode cX4_whoHasFewest 12 = .ok (.aload_n 0, 1) := by decide +kernel
theorem dX4_whoHasFewest_13 : decode cX4_whoHasFewest 13 = .ok (.getfield 61, 3) := by decide +kernel
theorem dX4_whoHasFewest_16 : decode cX4_whoHasFewest 16 = .ok (.getfield 92, 3) := by decide +kernel
theorem dX4_whoHasFewest_19 : decode cX4_whoHasFewest 19 = .ok (.if_icmp .ge 53, 3) := by decide +kernel
theorem dX4_whoHasFewest_22 : decode cX4_whoHasFewest 22 = .ok (.iload_n 2, 1) := by decide +kernel
theorem dX4_whoHasFewest_23 : decode cX4_whoHasFewest 23 = .ok (.iload 6, 2) := by decide +kernel
theorem dX4_whoHasFewest_25 : decode cX4_whoHasFewest 25 = .ok (.ishr, 1) := by decide +kernel
theorem dX4_whoHasFewest_26 : decode cX4_whoHasFewest 26 = .ok (.iconst 1, 1) := by decide +kernel
theorem dX4_whoHasFewest_27 : decode cX4_whoHasFewest 27 = .ok (.iand, 1) := by decide +kernel
theorem dX4_whoHasFewest_28 : decode cX4_whoHasFewest 28 = .ok (.ifCond .eq 38, 3) := by decide +kernel
theorem dX4_whoHasFewest_31 : decode cX4_whoHasFewest 31 = .ok (.aload_n 1, 1) := by decide +kernel
theorem dX4_whoHasFewest_32 : decode cX4_whoHasFewest 32 = .ok (.iload 6, 2) := by decide +kernel
theorem dX4_whoHasFewest_34 : decode cX4_whoHasFewest 34 = .ok (.laload, 1) := by decide +kernel
theorem dX4_whoHasFewest_35 : decode cX4_whoHasFewest 35 = .ok (.lload 4, 2) := by decide +kernel
theorem dX4_whoHasFewest_37 : decode cX4_whoHasFewest 37 = .ok (.lcmp, 1) := by decide +kernel
theorem dX4_whoHasFewest_38 : decode cX4_whoHasFewest 38 = .ok (.ifCond .ge 11, 3) := by decide +kernel
theorem dX4_whoHasFewest_41 : decode cX4_whoHasFewest 41 = .ok (.aload_n 1, 1) := by decide +kernel
theorem dX4_whoHasFewest_42 : decode cX4_whoHasFewest 42 = .ok (.iload 6, 2) := by decide +kernel
theorem dX4_whoHasFewest_44 : decode cX4_whoHasFewest 44 = .ok (.laload, 1) := by decide +kernel
theorem dX4_whoHasFewest_45 : decode cX4_whoHasFewest 45 = .ok (.lstore 4, 2) := by decide +kernel
theorem dX4_whoHasFewest_47 : decode cX4_whoHasFewest 47 = .ok (.iconst 0, 1) := by decide +kernel
theorem dX4_whoHasFewest_48 : decode cX4_whoHasFewest 48 = .ok (.istore_n 3, 1) := by decide +kernel
theorem dX4_whoHasFewest_49 : decode cX4_whoHasFewest 49 = .ok (.aload_n 1, 1) := by decide +kernel
theorem dX4_whoHasFewest_50 : decode cX4_whoHasFewest 50 = .ok (.iload 6, 2) := by decide +kernel
theorem dX4_whoHasFewest_52 : decode cX4_whoHasFewest 52 = .ok (.laload, 1) := by decide +kernel
theorem dX4_whoHasFewest_53 : decode cX4_whoHasFewest 53 = .ok (.lload 4, 2) := by decide +kernel
theorem dX4_whoHasFewest_55 : decode cX4_whoHasFewest 55 = .ok (.lcmp, 1) := by decide +kernel
theorem dX4_whoHasFewest_56 : decode cX4_whoHasFewest 56 = .ok (.ifCond .ne 10, 3) := by decide +kernel
theorem dX4_whoHasFewest_59 : decode cX4_whoHasFewest 59 = .ok (.iload_n 3, 1) := by decide +kernel
theorem dX4_whoHasFewest_60 : decode cX4_whoHasFewest 60 = .ok (.iconst 1, 1) := by decide +kernel
theorem dX4_whoHasFewest_61 : decode cX4_whoHasFewest 61 = .ok (.iload 6, 2) := by decide +kernel
theorem dX4_whoHasFewest_63 : decode cX4_whoHasFewest 63 = .ok (.ishl, 1) := by decide +kernel
theorem dX4_whoHasFewest_64 : decode cX4_whoHasFewest 64 = .ok (.ior, 1) := by decide +kernel
theorem dX4_whoHasFewest_65 : decode cX4_whoHasFewest 65 = .ok (.istore_n 3, 1) := by decide +kernel
theorem dX4_whoHasFewest_66 : decode cX4_whoHasFewest 66 = .ok (.iinc 6 1, 3) := by decide +kernel
theorem dX4_whoHasFewest_69 : decode cX4_whoHasFewest 69 = .ok (.goto (-59), 3) := by decide +kernel
theorem dX4_whoHasFewest_72 : decode cX4_whoHasFewest 72 = .ok (.iload_n 3, 1) := by decide +kernel
theorem dX4_whoHasFewest_73 : decode cX4_whoHasFewest 73 = .ok (.ireturn, 1) := by decide +kernel
theorem dX4_lastInLot_0 : decode cX4_lastInLot 0 = .ok (.aload_n 0, 1) := by decide +kernel
theorem dX4_lastInLot_1 : decode cX4_lastInLot 1 = .ok (.getfield 61, 3) := by decide +kernel
theorem dX4_lastInLot_4 : decode cX4_lastInLot 4 = .ok (.getfield 92, 3) := by decide +kernel
theorem dX4_lastInLot_7 : decode cX4_lastInLot 7 = .ok (.iconst 1, 1) := by decide +kernel
theorem dX4_lastInLot_8 : decode cX4_lastInLot 8 = .ok (.isub, 1) := by decide +kernel
theorem dX4_lastInLot_9 : decode cX4_lastInLot 9 = .ok (.istore_n 2, 1) := by decide +kernel
theorem dX4_lastInLot_10 : decode cX4_lastInLot 10 = .ok (.iload_n 2, 1) := by decide +kernel
theorem dX4_lastInLot_11 : decode cX4_lastInLot 11 = .ok (.ifCond .lt 35, 3) := by decide +kernel
theorem dX4_lastInLot_14 : decode cX4_lastInLot 14 = .ok (.iload_n 1, 1) := by decide +kernel
theorem dX4_lastInLot_15 : decode cX4_lastInLot 15 = .ok (.aload_n 0, 1) := by decide +kernel
theorem dX4_lastInLot_16 : decode cX4_lastInLot 16 = .ok (.getfield 61, 3) := by decide +kernel
theorem dX4_lastInLot_19 : decode cX4_lastInLot 19 = .ok (.getfield 195, 3) := by decide +kernel
theorem dX4_lastInLot_22 : decode cX4_lastInLot 22 = .ok (.iload_n 2, 1) := by decide +kernel
theorem dX4_lastInLot_23 : decode cX4_lastInLot 23 = .ok (.iaload, 1) := by decide +kernel
theorem dX4_lastInLot_24 : decode cX4_lastInLot 24 = .ok (.ishr, 1) := by decide +kernel
theorem dX4_lastInLot_25 : decode cX4_lastInLot 25 = .ok (.iconst 1, 1) := by decide +kernel
theorem dX4_lastInLot_26 : decode cX4_lastInLot 26 = .ok (.iand, 1) := by decide +kernel
theorem dX4_lastInLot_27 : decode cX4_lastInLot 27 = .ok (.ifCond .eq 13, 3) := by decide +kernel
theorem dX4_lastInLot_30 : decode cX4_lastInLot 30 = .ok (.aload_n 0, 1) := by decide +kernel
theorem dX4_lastInLot_31 : decode cX4_lastInLot 31 = .ok (.getfield 61, 3) := by decide +kernel
theorem dX4_lastInLot_34 : decode cX4_lastInLot 34 = .ok (.getfield 195, 3) := by decide +kernel
theorem dX4_lastInLot_37 : decode cX4_lastInLot 37 = .ok (.iload_n 2, 1) := by decide +kernel
theorem dX4_lastInLot_38 : decode cX4_lastInLot 38 = .ok (.iaload, 1) := by decide +kernel
theorem dX4_lastInLot_39 : decode cX4_lastInLot 39 = .ok (.ireturn, 1) := by decide +kernel
theorem dX4_lastInLot_40 : decode cX4_lastInLot 40 = .ok (.iinc 2 (-1), 3) := by decide +kernel
theorem dX4_lastInLot_43 : decode cX4_lastInLot 43 = .ok (.goto (-33), 3) := by decide +kernel
theorem dX4_lastInLot_46 : decode cX4_lastInLot 46 = .ok (.iconst (-1), 1) := by decide +kernel
theorem dX4_lastInLot_47 : decode cX4_lastInLot 47 = .ok (.ireturn, 1) := by decide +kernel
theorem dX4_whoIs_0 : decode cX4_whoIs 0 = .ok (.iconst 0, 1) := by decide +kernel
theorem dX4_whoIs_1 : decode cX4_whoIs 1 = .ok (.istore_n 2, 1) := by decide +kernel
theorem dX4_whoIs_2 : decode cX4_whoIs 2 = .ok (.iconst 0, 1) := by decide +kernel
theorem dX4_whoIs_3 : decode cX4_whoIs 3 = .ok (.istore_n 3, 1) := by decide +kernel
theorem dX4_whoIs_4 : decode cX4_whoIs 4 = .ok (.iload_n 3, 1) := by decide +kernel
theorem dX4_whoIs_5 : decode cX4_whoIs 5 = .ok (.aload_n 0, 1) := by decide +kernel
theorem dX4_whoIs_6 : decode cX4_whoIs 6 = .ok (.getfield 61, 3) := by decide +kernel
theorem dX4_whoIs_9 : decode cX4_whoIs 9 = .ok (.getfield 92, 3) := by decide +kernel
theorem dX4_whoIs_12 : decode cX4_whoIs 12 = .ok (.if_icmp .ge 25, 3) := by decide +kernel
theorem dX4_whoIs_15 : decode cX4_whoIs 15 = .ok (.aload_n 0, 1) := by decide +kernel
theorem dX4_whoIs_16 : decode cX4_whoIs 16 = .ok (.getfield 18, 3) := by decide +kernel
theorem dX4_whoIs_19 : decode cX4_whoIs 19 = .ok (.iload_n 3, 1) := by decide +kernel
theorem dX4_whoIs_20 : decode cX4_whoIs 20 = .ok (.iaload, 1) := by decide +kernel
theorem dX4_whoIs_21 : decode cX4_whoIs 21 = .ok (.iload_n 1, 1) := by decide +kernel
theorem dX4_whoIs_22 : decode cX4_whoIs 22 = .ok (.if_icmp .ne 9, 3) := by decide +kernel
theorem dX4_whoIs_25 : decode cX4_whoIs 25 = .ok (.iload_n 2, 1) := by decide +kernel
theorem dX4_whoIs_26 : decode cX4_whoIs 26 = .ok (.iconst 1, 1) := by decide +kernel
theorem dX4_whoIs_27 : decode cX4_whoIs 27 = .ok (.iload_n 3, 1) := by decide +kernel
theorem dX4_whoIs_28 : decode cX4_whoIs 28 = .ok (.ishl, 1) := by decide +kernel
theorem dX4_whoIs_29 : decode cX4_whoIs 29 = .ok (.ior, 1) := by decide +kernel
theorem dX4_whoIs_30 : decode cX4_whoIs 30 = .ok (.istore_n 2, 1) := by decide +kernel
theorem dX4_whoIs_31 : decode cX4_whoIs 31 = .ok (.iinc 3 1, 3) := by decide +kernel
theorem dX4_whoIs_34 : decode cX4_whoIs 34 = .ok (.goto (-30), 3) := by decide +kernel
theorem dX4_whoIs_37 : decode cX4_whoIs 37 = .ok (.iload_n 2, 1) := by decide +kernel
theorem dX4_whoIs_38 : decode cX4_whoIs 38 = .ok (.ireturn, 1) := by decide +kernel
theorem dX4_whoIsHere_0 : decode cX4_whoIsHere 0 = .ok (.aload_n 0, 1) := by decide +kernel
theorem dX4_whoIsHere_1 : decode cX4_whoIsHere 1 = .ok (.iconst 1, 1) := by decide +kernel
theorem dX4_whoIsHere_2 : decode cX4_whoIsHere 2 = .ok (.invokevirtual 108, 3) := by decide +kernel
theorem dX4_whoIsHere_5 : decode cX4_whoIsHere 5 = .ok (.aload_n 0, 1) := by decide +kernel
theorem dX4_whoIsHere_6 : decode cX4_whoIsHere 6 = .ok (.iconst 2, 1) := by decide +kernel
theorem dX4_whoIsHere_7 : decode cX4_whoIsHere 7 = .ok (.invokevirtual 108, 3) := by decide +kernel
theorem dX4_whoIsHere_10 : decode cX4_whoIsHere 10 = .ok (.ior, 1) := by decide +kernel
theorem dX4_whoIsHere_11 : decode cX4_whoIsHere 11 = .ok (.aload_n 0, 1) := by decide +kernel
theorem dX4_whoIsHere_12 : decode cX4_whoIsHere 12 = .ok (.iconst 3, 1) := by decide +kernel
theorem dX4_whoIsHere_13 : decode cX4_whoIsHere 13 = .ok (.invokevirtual 108, 3) := by decide +kernel
theorem dX4_whoIsHere_16 : decode cX4_whoIsHere 16 = .ok (.ior, 1) := by decide +kernel
theorem dX4_whoIsHere_17 : decode cX4_whoIsHere 17 = .ok (.ireturn, 1) := by decide +kernel
theorem dX4_leader_0 : decode cX4_leader 0 = .ok (.iload_n 2, 1) := by decide +kernel
theorem dX4_leader_1 : decode cX4_leader 1 = .ok (.istore 4, 2) := by decide +kernel
theorem dX4_leader_3 : decode cX4_leader 3 = .ok (.iconst (-1), 1) := by decide +kernel
theorem dX4_leader_4 : decode cX4_leader 4 = .ok (.istore 5, 2) := by decide +kernel
theorem dX4_leader_6 : decode cX4_leader 6 = .ok (.iconst 0, 1) := by decide +kernel
theorem dX4_leader_7 : decode cX4_leader 7 = .ok (.istore 6, 2) := by decide +kernel
theorem dX4_leader_9 : decode cX4_leader 9 = .ok (.iload 6, 2) := by decide +kernel
theorem dX4_leader_11 : decode cX4_leader 11 = .ok (.iload_n 3, 1) := by decide +kernel
theorem dX4_leader_12 : decode cX4_leader 12 = .ok (.if_icmp .gt 99, 3) := by decide +kernel
theorem dX4_leader_15 : decode cX4_leader 15 = .ok (.iload 6, 2) := by decide +kernel
theorem dX4_leader_17 : decode cX4_leader 17 = .ok (.bipush 8, 2) := by decide +kernel
theorem dX4_leader_19 : decode cX4_leader 19 = .ok (.if_icmp .ge 92, 3) := by decide +kernel
theorem dX4_leader_22 : decode cX4_leader 22 = .ok (.iconst (-1), 1) := by decide +kernel
theorem dX4_leader_23 : decode cX4_leader 23 = .ok (.istore 5, 2) := by decide +kernel
theorem dX4_leader_25 : decode cX4_leader 25 = .ok (.iconst 0, 1) := by decide +kernel
theorem dX4_leader_26 : decode cX4_leader 26 = .ok (.istore 7, 2) := by decide +kernel
theorem dX4_leader_28 : decode cX4_leader 28 = .ok (.iload 7, 2) := by decide +kernel
theorem dX4_leader_30 : decode cX4_leader 30 = .ok (.aload_n 0, 1) := by decide +kernel
theorem dX4_leader_31 : decode cX4_leader 31 = .ok (.getfield 61, 3) := by decide +kernel
theorem dX4_leader_34 : decode cX4_leader 34 = .ok (.getfield 92, 3) := by decide +kernel
theorem dX4_leader_37 : decode cX4_leader 37 = .ok (.if_icmp .ge 52, 3) := by decide +kernel
theorem dX4_leader_40 : decode cX4_leader 40 = .ok (.aload_n 0, 1) := by decide +kernel
theorem dX4_leader_41 : decode cX4_leader 41 = .ok (.getfield 61, 3) := by decide +kernel
theorem dX4_leader_44 : decode cX4_leader 44 = .ok (.getfield 195, 3) := by decide +kernel
theorem dX4_leader_47 : decode cX4_leader 47 = .ok (.iload 7, 2) := by decide +kernel
theorem dX4_leader_49 : decode cX4_leader 49 = .ok (.iaload, 1) := by decide +kernel
theorem dX4_leader_50 : decode cX4_leader 50 = .ok (.istore 8, 2) := by decide +kernel
theorem dX4_leader_52 : decode cX4_leader 52 = .ok (.iload 4, 2) := by decide +kernel
theorem dX4_leader_54 : decode cX4_leader 54 = .ok (.iload 8, 2) := by decide +kernel
theorem dX4_leader_56 : decode cX4_leader 56 = .ok (.ishr, 1) := by decide +kernel
theorem dX4_leader_57 : decode cX4_leader 57 = .ok (.iconst 1, 1) := by decide +kernel
theorem dX4_leader_58 : decode cX4_leader 58 = .ok (.iand, 1) := by decide +kernel
theorem dX4_leader_59 : decode cX4_leader 59 = .ok (.ifCond .eq 24, 3) := by decide +kernel
theorem dX4_leader_62 : decode cX4_leader 62 = .ok (.iload 5, 2) := by decide +kernel
theorem dX4_leader_64 : decode cX4_leader 64 = .ok (.ifCond .lt 15, 3) := by decide +kernel
theorem dX4_leader_67 : decode cX4_leader 67 = .ok (.aload_n 1, 1) := by decide +kernel
theorem dX4_leader_68 : decode cX4_leader 68 = .ok (.iload 8, 2) := by decide +kernel
theorem dX4_leader_70 : decode cX4_leader 70 = .ok (.laload, 1) := by decide +kernel
theorem dX4_leader_71 : decode cX4_leader 71 = .ok (.aload_n 1, 1) := by decide +kernel
theorem dX4_leader_72 : decode cX4_leader 72 = .ok (.iload 5, 2) := by decide +kernel
theorem dX4_leader_74 : decode cX4_leader 74 = .ok (.laload, 1) := by decide +kernel
theorem dX4_leader_75 : decode cX4_leader 75 = .ok (.lcmp, 1) := by decide +kernel
theorem dX4_leader_76 : decode cX4_leader 76 = .ok (.ifCond .le 7, 3) := by decide +kernel
theorem dX4_leader_79 : decode cX4_leader 79 = .ok (.iload 8, 2) := by decide +kernel
theorem dX4_leader_81 : decode cX4_leader 81 = .ok (.istore 5, 2) := by decide +kernel
theorem dX4_leader_83 : decode cX4_leader 83 = .ok (.iinc 7 1, 3) := by decide +kernel
theorem dX4_leader_86 : decode cX4_leader 86 = .ok (.goto (-58), 3) := by decide +kernel
theorem dX4_leader_89 : decode cX4_leader 89 = .ok (.iload 5, 2) := by decide +kernel
theorem dX4_leader_91 : decode cX4_leader 91 = .ok (.ifCond .lt 14, 3) := by decide +kernel
theorem dX4_leader_94 : decode cX4_leader 94 = .ok (.iload 4, 2) := by decide +kernel
theorem dX4_leader_96 : decode cX4_leader 96 = .ok (.iconst 1, 1) := by decide +kernel
theorem dX4_leader_97 : decode cX4_leader 97 = .ok (.iload 5, 2) := by decide +kernel
theorem dX4_leader_99 : decode cX4_leader 99 = .ok (.ishl, 1) := by decide +kernel
theorem dX4_leader_100 : decode cX4_leader 100 = .ok (.iconst (-1), 1) := by decide +kernel
theorem dX4_leader_101 : decode cX4_leader 101 = .ok (.ixor, 1) := by decide +kernel
theorem dX4_leader_102 : decode cX4_leader 102 = .ok (.iand, 1) := by decide +kernel
theorem dX4_leader_103 : decode cX4_leader 103 = .ok (.istore 4, 2) := by decide +kernel
theorem dX4_leader_105 : decode cX4_leader 105 = .ok (.iinc 6 1, 3) := by decide +kernel
theorem dX4_leader_108 : decode cX4_leader 108 = .ok (.goto (-99), 3) := by decide +kernel
theorem dX4_leader_111 : decode cX4_leader 111 = .ok (.iload 5, 2) := by decide +kernel
theorem dX4_leader_113 : decode cX4_leader 113 = .ok (.ireturn, 1) := by decide +kernel
theorem dX4_rankAt_0 : decode cX4_rankAt 0 = .ok (.iload_n 1, 1) := by decide +kernel
theorem dX4_rankAt_1 : decode cX4_rankAt 1 = .ok (.ifCond .lt 18, 3) := by decide +kernel
theorem dX4_rankAt_4 : decode cX4_rankAt 4 = .ok (.iload_n 1, 1) := by decide +kernel
theorem dX4_rankAt_5 : decode cX4_rankAt 5 = .ok (.aload_n 0, 1) := by decide +kernel
theorem dX4_rankAt_6 : decode cX4_rankAt 6 = .ok (.getfield 28, 3) := by decide +kernel
theorem dX4_rankAt_9 : decode cX4_rankAt 9 = .ok (.if_icmp .ge 10, 3) := by decide +kernel
theorem dX4_rankAt_12 : decode cX4_rankAt 12 = .ok (.aload_n 0, 1) := by decide +kernel
theorem dX4_rankAt_13 : decode cX4_rankAt 13 = .ok (.getfield 25, 3) := by decide +kernel
theorem dX4_rankAt_16 : decode cX4_rankAt 16 = .ok (.iload_n 1, 1) := by decide +kernel
theorem dX4_rankAt_17 : decode cX4_rankAt 17 = .ok (.iaload, 1) := by decide +kernel
theorem dX4_rankAt_18 : decode cX4_rankAt 18 = .ok (.ireturn, 1) := by decide +kernel
theorem dX4_rankAt_19 : decode cX4_rankAt 19 = .ok (.iload_n 1, 1) := by decide +kernel
theorem dX4_rankAt_20 : decode cX4_rankAt 20 = .ok (.aload_n 0, 1) := by decide +kernel
theorem dX4_rankAt_21 : decode cX4_rankAt 21 = .ok (.getfield 28, 3) := by decide +kernel
theorem dX4_rankAt_24 : decode cX4_rankAt 24 = .ok (.isub, 1) := by decide +kernel
theorem dX4_rankAt_25 : decode cX4_rankAt 25 = .ok (.istore_n 2, 1) := by decide +kernel
theorem dX4_rankAt_26 : decode cX4_rankAt 26 = .ok (.aload_n 0, 1) := by decide +kernel
theorem dX4_rankAt_27 : decode cX4_rankAt 27 = .ok (.aload_n 0, 1) := by decide +kernel
theorem dX4_rankAt_28 : decode cX4_rankAt 28 = .ok (.getfield 35, 3) := by decide +kernel
theorem dX4_rankAt_31 : decode cX4_rankAt 31 = .ok (.iconst 1, 1) := by decide +kernel
theorem dX4_rankAt_32 : decode cX4_rankAt 32 = .ok (.isub, 1) := by decide +kernel
theorem dX4_rankAt_33 : decode cX4_rankAt 33 = .ok (.invokevirtual 198, 3) := by decide +kernel
theorem dX4_rankAt_36 : decode cX4_rankAt 36 = .ok (.astore_n 3, 1) := by decide +kernel
theorem dX4_rankAt_37 : decode cX4_rankAt 37 = .ok (.aload_n 3, 1) := by decide +kernel
theorem dX4_rankAt_38 : decode cX4_rankAt 38 = .ok (.ifnull 26, 3) := by decide +kernel
theorem dX4_rankAt_41 : decode cX4_rankAt 41 = .ok (.iload_n 2, 1) := by decide +kernel
theorem dX4_rankAt_42 : decode cX4_rankAt 42 = .ok (.aload_n 0, 1) := by decide +kernel
theorem dX4_rankAt_43 : decode cX4_rankAt 43 = .ok (.getfield 32, 3) := by decide +kernel
theorem dX4_rankAt_46 : decode cX4_rankAt 46 = .ok (.if_icmp .ge 18, 3) := by decide +kernel
theorem dX4_rankAt_49 : decode cX4_rankAt 49 = .ok (.aload_n 0, 1) := by decide +kernel
theorem dX4_rankAt_50 : decode cX4_rankAt 50 = .ok (.aload_n 3, 1) := by decide +kernel
theorem dX4_rankAt_51 : decode cX4_rankAt 51 = .ok (.getfield 178, 3) := by decide +kernel
theorem dX4_rankAt_54 : decode cX4_rankAt 54 = .ok (.aload_n 0, 1) := by decide +kernel
theorem dX4_rankAt_55 : decode cX4_rankAt 55 = .ok (.iconst 1, 1) := by decide +kernel
theorem dX4_rankAt_56 : decode cX4_rankAt 56 = .ok (.invokevirtual 108, 3) := by decide +kernel
theorem dX4_rankAt_59 : decode cX4_rankAt 59 = .ok (.iload_n 2, 1) := by decide +kernel
theorem dX4_rankAt_60 : decode cX4_rankAt 60 = .ok (.invokevirtual 180, 3) := by decide +kernel
theorem dX4_rankAt_63 : decode cX4_rankAt 63 = .ok (.ireturn, 1) := by decide +kernel
theorem dX4_rankAt_64 : decode cX4_rankAt 64 = .ok (.iload_n 2, 1) := by decide +kernel
theorem dX4_rankAt_65 : decode cX4_rankAt 65 = .ok (.aload_n 0, 1) := by decide +kernel
theorem dX4_rankAt_66 : decode cX4_rankAt 66 = .ok (.getfield 32, 3) := by decide +kernel
theorem dX4_rankAt_69 : decode cX4_rankAt 69 = .ok (.isub, 1) := by decide +kernel
theorem dX4_rankAt_70 : decode cX4_rankAt 70 = .ok (.istore_n 2, 1) := by decide +kernel
theorem dX4_rankAt_71 : decode cX4_rankAt 71 = .ok (.aload_n 0, 1) := by decide +kernel
theorem dX4_rankAt_72 : decode cX4_rankAt 72 = .ok (.getfield 35, 3) := by decide +kernel
theorem dX4_rankAt_75 : decode cX4_rankAt 75 = .ok (.iconst 1, 1) := by decide +kernel
theorem dX4_rankAt_76 : decode cX4_rankAt 76 = .ok (.isub, 1) := by decide +kernel
theorem dX4_rankAt_77 : decode cX4_rankAt 77 = .ok (.istore 4, 2) := by decide +kernel
theorem dX4_rankAt_79 : decode cX4_rankAt 79 = .ok (.iload 4, 2) := by decide +kernel
theorem dX4_rankAt_81 : decode cX4_rankAt 81 = .ok (.ifCond .lt 42, 3) := by decide +kernel
theorem dX4_rankAt_84 : decode cX4_rankAt 84 = .ok (.aload_n 0, 1) := by decide +kernel
theorem dX4_rankAt_85 : decode cX4_rankAt 85 = .ok (.getfield 40, 3) := by decide +kernel
theorem dX4_rankAt_88 : decode cX4_rankAt 88 = .ok (.iload 4, 2) := by decide +kernel
theorem dX4_rankAt_90 : decode cX4_rankAt 90 = .ok (.aaload, 1) := by decide +kernel
theorem dX4_rankAt_91 : decode cX4_rankAt 91 = .ok (.getfield 81, 3) := by decide +kernel
theorem dX4_rankAt_94 : decode cX4_rankAt 94 = .ok (.bipush (-5), 2) := by decide +kernel
theorem dX4_rankAt_96 : decode cX4_rankAt 96 = .ok (.if_icmp .eq 21, 3) := by decide +kernel
theorem dX4_rankAt_99 : decode cX4_rankAt 99 = .ok (.iload_n 2, 1) := by decide +kernel
theorem dX4_rankAt_100 : decode cX4_rankAt 100 = .ok (.ifCond .ne 14, 3) := by decide +kernel
theorem dX4_rankAt_103 : decode cX4_rankAt 103 = .ok (.aload_n 0, 1) := by decide +kernel
theorem dX4_rankAt_104 : decode cX4_rankAt 104 = .ok (.getfield 40, 3) := by decide +kernel
theorem dX4_rankAt_107 : decode cX4_rankAt 107 = .ok (.iload 4, 2) := by decide +kernel
theorem dX4_rankAt_109 : decode cX4_rankAt 109 = .ok (.aaload, 1) := by decide +kernel
theorem dX4_rankAt_110 : decode cX4_rankAt 110 = .ok (.getfield 81, 3) := by decide +kernel
theorem dX4_rankAt_113 : decode cX4_rankAt 113 = .ok (.ireturn, 1) := by decide +kernel
theorem dX4_rankAt_114 : decode cX4_rankAt 114 = .ok (.iinc 2 (-1), 3) := by decide +kernel
theorem dX4_rankAt_117 : decode cX4_rankAt 117 = .ok (.iinc 4 (-1), 3) := by decide +kernel
theorem dX4_rankAt_120 : decode cX4_rankAt 120 = .ok (.goto (-41), 3) := by decide +kernel
theorem dX4_rankAt_123 : decode cX4_rankAt 123 = .ok (.iconst 0, 1) := by decide +kernel
theorem dX4_rankAt_124 : decode cX4_rankAt 124 = .ok (.istore 4, 2) := by decide +kernel
theorem dX4_rankAt_126 : decode cX4_rankAt 126 = .ok (.iload 4, 2) := by decide +kernel
theorem dX4_rankAt_128 : decode cX4_rankAt 128 = .ok (.aload_n 0, 1) := by decide +kernel
theorem dX4_rankAt_129 : decode cX4_rankAt 129 = .ok (.getfield 61, 3) := by decide +kernel
theorem dX4_rankAt_132 : decode cX4_rankAt 132 = .ok (.getfield 92, 3) := by decide +kernel
theorem dX4_rankAt_135 : decode cX4_rankAt 135 = .ok (.if_icmp .ge 29, 3) := by decide +kernel
theorem dX4_rankAt_138 : decode cX4_rankAt 138 = .ok (.aload_n 0, 1) := by decide +kernel
theorem dX4_rankAt_139 : decode cX4_rankAt 139 = .ok (.getfield 18, 3) := by decide +kernel
theorem dX4_rankAt_142 : decode cX4_rankAt 142 = .ok (.iload 4, 2) := by decide +kernel
theorem dX4_rankAt_144 : decode cX4_rankAt 144 = .ok (.iaload, 1) := by decide +kernel
theorem dX4_rankAt_145 : decode cX4_rankAt 145 = .ok (.ifCond .ne 13, 3) := by decide +kernel
theorem dX4_rankAt_148 : decode cX4_rankAt 148 = .ok (.iload_n 2, 1) := by decide +kernel
theorem dX4_rankAt_149 : decode cX4_rankAt 149 = .ok (.ifCond .ne 6, 3) := by decide +kernel
theorem dX4_rankAt_152 : decode cX4_rankAt 152 = .ok (.iload 4, 2) := by decide +kernel
theorem dX4_rankAt_154 : decode cX4_rankAt 154 = .ok (.ireturn, 1) := by decide +kernel
theorem dX4_rankAt_155 : decode cX4_rankAt 155 = .ok (.iinc 2 (-1), 3) := by decide +kernel
theorem dX4_rankAt_158 : decode cX4_rankAt 158 = .ok (.iinc 4 1, 3) := by decide +kernel
theorem dX4_rankAt_161 : decode cX4_rankAt 161 = .ok (.goto (-35), 3) := by decide +kernel
theorem dX4_rankAt_164 : decode cX4_rankAt 164 = .ok (.iconst (-1), 1) := by decide +kernel
theorem dX4_rankAt_165 : decode cX4_rankAt 165 = .ok (.ireturn, 1) := by decide +kernel
theorem dX5_init_0 : decode cX5_init 0 = .ok (.aload_n 0, 1) := by decide +kernel
theorem dX5_init_1 : decode cX5_init 1 = .ok (.invokespecial 3, 3) := by decide +kernel
theorem dX5_init_4 : decode cX5_init 4 = .ok (.aload_n 0, 1) := by decide +kernel
theorem dX5_init_5 : decode cX5_init 5 = .ok (.iconst (-1), 1) := by decide +kernel
theorem dX5_init_6 : decode cX5_init 6 = .ok (.putfield 9, 3) := by decide +kernel
theorem dX5_init_9 : decode cX5_init 9 = .ok (.aload_n 0, 1) := by decide +kernel
theorem dX5_init_10 : decode cX5_init 10 = .ok (.iconst 0, 1) := by decide +kernel
theorem dX5_init_11 : decode cX5_init 11 = .ok (.putfield 15, 3) := by decide +kernel
theorem dX5_init_14 : decode cX5_init 14 = .ok (.aload_n 0, 1) := by decide +kernel
theorem dX5_init_15 : decode cX5_init 15 = .ok (.bipush 60, 2) := by decide +kernel
theorem dX5_init_17 : decode cX5_init 17 = .ok (.newarray .long, 2) := by decide +kernel
theorem dX5_init_19 : decode cX5_init 19 = .ok (.putfield 18, 3) := by decide +kernel
theorem dX5_init_22 : decode cX5_init 22 = .ok (.return_, 1) := by decide +kernel
theorem dX5_become_0 : decode cX5_become 0 = .ok (.aload_n 0, 1) := by decide +kernel
theorem dX5_become_1 : decode cX5_become 1 = .ok (.iload_n 1, 1) := by decide +kernel
theorem dX5_become_2 : decode cX5_become 2 = .ok (.putfield 9, 3) := by decide +kernel
theorem dX5_become_5 : decode cX5_become 5 = .ok (.aload_n 0, 1) := by decide +kernel
theorem dX5_become_6 : decode cX5_become 6 = .ok (.iload_n 2, 1) := by decide +kernel
theorem dX5_become_7 : decode cX5_become 7 = .ok (.putfield 15, 3) := by decide +kernel
theorem dX5_become_10 : decode cX5_become 10 = .ok (.aload_n 0, 1) := by decide +kernel
theorem dX5_become_11 : decode cX5_become 11 = .ok (.getfield 18, 3) := by decide +kernel
theorem dX5_become_14 : decode cX5_become 14 = .ok (.lconst 0, 1) := by decide +kernel
theorem dX5_become_15 : decode cX5_become 15 = .ok (.invokestatic 22, 3) := by decide +kernel
theorem dX5_become_18 : decode cX5_become 18 = .ok (.return_, 1) := by decide +kernel
theorem dX5_fitted_0 : decode cX5_fitted 0 = .ok (.aload_n 0, 1) := by decide +kernel
theorem dX5_fitted_1 : decode cX5_fitted 1 = .ok (.getfield 9, 3) := by decide +kernel
theorem dX5_fitted_4 : decode cX5_fitted 4 = .ok (.tableswitch 62 0 4 #[36, 41, 46, 62, 50], 36) := by decide +kernel
theorem dX5_fitted_40 : decode cX5_fitted 40 = .ok (.lload_n 1, 1) := by decide +kernel
theorem dX5_fitted_41 : decode cX5_fitted 41 = .ok (.l2i, 1) := by decide +kernel
theorem dX5_fitted_42 : decode cX5_fitted 42 = .ok (.i2b, 1) := by decide +kernel
theorem dX5_fitted_43 : decode cX5_fitted 43 = .ok (.i2l, 1) := by decide +kernel
theorem dX5_fitted_44 : decode cX5_fitted 44 = .ok (.lreturn, 1) := by decide +kernel
theorem dX5_fitted_45 : decode cX5_fitted 45 = .ok (.lload_n 1, 1) := by decide +kernel
theorem dX5_fitted_46 : decode cX5_fitted 46 = .ok (.l2i, 1) := by decide +kernel
theorem dX5_fitted_47 : decode cX5_fitted 47 = .ok (.i2s, 1) := by decide +kernel
theorem dX5_fitted_48 : decode cX5_fitted 48 = .ok (.i2l, 1) := by decide +kernel
theorem dX5_fitted_49 : decode cX5_fitted 49 = .ok (.lreturn, 1) := by decide +kernel
theorem dX5_fitted_50 : decode cX5_fitted 50 = .ok (.lload_n 1, 1) := by decide +kernel
theorem dX5_fitted_51 : decode cX5_fitted 51 = .ok (.l2i, 1) := by decide +kernel
theorem dX5_fitted_52 : decode cX5_fitted 52 = .ok (.i2l, 1) := by decide +kernel
theorem dX5_fitted_53 : decode cX5_fitted 53 = .ok (.lreturn, 1) := by decide +kernel
theorem dX5_fitted_54 : decode cX5_fitted 54 = .ok (.lload_n 1, 1) := by decide +kernel
theorem dX5_fitted_55 : decode cX5_fitted 55 = .ok (.lconst 0, 1) := by decide +kernel
theorem dX5_fitted_56 : decode cX5_fitted 56 = .ok (.lcmp, 1) := by decide +kernel
theorem dX5_fitted_57 : decode cX5_fitted 57 = .ok (.ifCond .eq 7, 3) := by decide +kernel
theorem dX5_fitted_60 : decode cX5_fitted 60 = .ok (.lconst 1, 1) := by decide +kernel
theorem dX5_fitted_61 : decode cX5_fitted 61 = .ok (.goto 4, 3) := by decide +kernel
theorem dX5_fitted_64 : decode cX5_fitted 64 = .ok (.lconst 0, 1) := by decide +kernel
theorem dX5_fitted_65 : decode cX5_fitted 65 = .ok (.lreturn, 1) := by decide +kernel
theorem dX5_fitted_66 : decode cX5_fitted 66 = .ok (.lload_n 1, 1) := by decide +kernel
theorem dX5_fitted_67 : decode cX5_fitted 67 = .ok (.lreturn, 1) := by decide +kernel
theorem dX5_hasRoom_0 : decode cX5_hasRoom 0 = .ok (.iload_n 1, 1) := by decide +kernel
theorem dX5_hasRoom_1 : decode cX5_hasRoom 1 = .ok (.ifCond .lt 25, 3) := by decide +kernel
theorem dX5_hasRoom_4 : decode cX5_hasRoom 4 = .ok (.iload_n 1, 1) := by decide +kernel
theorem dX5_hasRoom_5 : decode cX5_hasRoom 5 = .ok (.aload_n 0, 1) := by decide +kernel
theorem dX5_hasRoom_6 : decode cX5_hasRoom 6 = .ok (.getfield 15, 3) := by decide +kernel
theorem dX5_hasRoom_9 : decode cX5_hasRoom 9 = .ok (.if_icmp .gt 17, 3) := by decide +kernel
theorem dX5_hasRoom_12 : decode cX5_hasRoom 12 = .ok (.iload_n 2, 1) := by decide +kernel
theorem dX5_hasRoom_13 : decode cX5_hasRoom 13 = .ok (.aload_n 0, 1) := by decide +kernel
theorem dX5_hasRoom_14 : decode cX5_hasRoom 14 = .ok (.getfield 15, 3) := by decide +kernel
theorem dX5_hasRoom_17 : decode cX5_hasRoom 17 = .ok (.iload_n 1, 1) := by decide +kernel
theorem dX5_hasRoom_18 : decode cX5_hasRoom 18 = .ok (.isub, 1) := by decide +kernel
theorem dX5_hasRoom_19 : decode cX5_hasRoom 19 = .ok (.if_icmp .gt 7, 3) := by decide +kernel
theorem dX5_hasRoom_22 : decode cX5_hasRoom 22 = .ok (.iconst 1, 1) := by decide +kernel
theorem dX5_hasRoom_23 : decode cX5_hasRoom 23 = .ok (.goto 4, 3) := by decide +kernel
theorem dX5_hasRoom_26 : decode cX5_hasRoom 26 = .ok (.iconst 0, 1) := by decide +kernel
theorem dX5_hasRoom_27 : decode cX5_hasRoom 27 = .ok (.ireturn, 1) := by decide +kernel
theorem dX6_init_0 : decode cX6_init 0 = .ok (.aload_n 0, 1) := by decide +kernel
theorem dX6_init_1 : decode cX6_init 1 = .ok (.invokespecial 3, 3) := by decide +kernel
theorem dX6_init_4 : decode cX6_init 4 = .ok (.aload_n 0, 1) := by decide +kernel
theorem dX6_init_5 : decode cX6_init 5 = .ok (.iconst 0, 1) := by decide +kernel
theorem dX6_init_6 : decode cX6_init 6 = .ok (.putfield 9, 3) := by decide +kernel
theorem dX6_init_9 : decode cX6_init 9 = .ok (.aload_n 0, 1) := by decide +kernel
theorem dX6_init_10 : decode cX6_init 10 = .ok (.bipush 100, 2) := by decide +kernel
theorem dX6_init_12 : decode cX6_init 12 = .ok (.newarray .int, 2) := by decide +kernel
theorem dX6_init_14 : decode cX6_init 14 = .ok (.putfield 15, 3) := by decide +kernel
theorem dX6_init_17 : decode cX6_init 17 = .ok (.aload_n 0, 1) := by decide +kernel
theorem dX6_init_18 : decode cX6_init 18 = .ok (.iconst 0, 1) := by decide +kernel
theorem dX6_init_19 : decode cX6_init 19 = .ok (.putfield 19, 3) := by decide +kernel
theorem dX6_init_22 : decode cX6_init 22 = .ok (.aload_n 0, 1) := by decide +kernel
theorem dX6_init_23 : decode cX6_init 23 = .ok (.bipush 12, 2) := by decide +kernel
theorem dX6_init_25 : decode cX6_init 25 = .ok (.newarray .int, 2) := by decide +kernel
theorem dX6_init_27 : decode cX6_init 27 = .ok (.putfield 22, 3) := by decide +kernel
theorem dX6_init_30 : decode cX6_init 30 = .ok (.aload_n 0, 1) := by decide +kernel
theorem dX6_init_31 : decode cX6_init 31 = .ok (.bipush 12, 2) := by decide +kernel
theorem dX6_init_33 : decode cX6_init 33 = .ok (.newarray .int, 2) := by decide +kernel
theorem dX6_init_35 : decode cX6_init 35 = .ok (.putfield 25, 3) := by decide +kernel
theorem dX6_init_38 : decode cX6_init 38 = .ok (.aload_n 0, 1) := by decide +kernel
theorem dX6_init_39 : decode cX6_init 39 = .ok (.bipush 12, 2) := by decide +kernel
theorem dX6_init_41 : decode cX6_init 41 = .ok (.newarray .int, 2) := by decide +kernel
theorem dX6_init_43 : decode cX6_init 43 = .ok (.putfield 28, 3) := by decide +kernel
theorem dX6_init_46 : decode cX6_init 46 = .ok (.aload_n 0, 1) := by decide +kernel
theorem dX6_init_47 : decode cX6_init 47 = .ok (.iconst 0, 1) := by decide +kernel
theorem dX6_init_48 : decode cX6_init 48 = .ok (.putfield 31, 3) := by decide +kernel
theorem dX6_init_51 : decode cX6_init 51 = .ok (.aload_n 0, 1) := by decide +kernel
theorem dX6_init_52 : decode cX6_init 52 = .ok (.iconst 0, 1) := by decide +kernel
theorem dX6_init_53 : decode cX6_init 53 = .ok (.putfield 34, 3) := by decide +kernel
theorem dX6_init_56 : decode cX6_init 56 = .ok (.return_, 1) := by decide +kernel
theorem dX6_sign_0 : decode cX6_sign 0 = .ok (.aload_n 0, 1) := by decide +kernel
theorem dX6_sign_1 : decode cX6_sign 1 = .ok (.getfield 31, 3) := by decide +kernel
theorem dX6_sign_4 : decode cX6_sign 4 = .ok (.ifCond .lt 26, 3) := by decide +kernel
theorem dX6_sign_7 : decode cX6_sign 7 = .ok (.aload_n 0, 1) := by decide +kernel
theorem dX6_sign_8 : decode cX6_sign 8 = .ok (.getfield 31, 3) := by decide +kernel
theorem dX6_sign_11 : decode cX6_sign 11 = .ok (.aload_n 0, 1) := by decide +kernel
theorem dX6_sign_12 : decode cX6_sign 12 = .ok (.getfield 9, 3) := by decide +kernel
theorem dX6_sign_15 : decode cX6_sign 15 = .ok (.if_icmp .ge 15, 3) := by decide +kernel
theorem dX6_sign_18 : decode cX6_sign 18 = .ok (.aload_n 0, 1) := by decide +kernel
theorem dX6_sign_19 : decode cX6_sign 19 = .ok (.getfield 15, 3) := by decide +kernel
theorem dX6_sign_22 : decode cX6_sign 22 = .ok (.aload_n 0, 1) := by decide +kernel
theorem dX6_sign_23 : decode cX6_sign 23 = .ok (.getfield 31, 3) := by decide +kernel
theorem dX6_sign_26 : decode cX6_sign 26 = .ok (.iaload, 1) := by decide +kernel
theorem dX6_sign_27 : decode cX6_sign 27 = .ok (.goto 4, 3) := by decide +kernel
theorem dX6_sign_30 : decode cX6_sign 30 = .ok (.iconst (-1), 1) := by decide +kernel
theorem dX6_sign_31 : decode cX6_sign 31 = .ok (.ireturn, 1) := by decide +kernel
theorem dX6_faultToldTo_0 : decode cX6_faultToldTo 0 = .ok (.aload_n 0, 1) := by decide +kernel
theorem dX6_faultToldTo_1 : decode cX6_faultToldTo 1 = .ok (.iconst 0, 1) := by decide +kernel
theorem dX6_faultToldTo_2 : decode cX6_faultToldTo 2 = .ok (.putfield 19, 3) := by decide +kernel
theorem dX6_faultToldTo_5 : decode cX6_faultToldTo 5 = .ok (.aload_n 0, 1) := by decide +kernel
theorem dX6_faultToldTo_6 : decode cX6_faultToldTo 6 = .ok (.iconst 0, 1) := by decide +kernel
theorem dX6_faultToldTo_7 : decode cX6_faultToldTo 7 = .ok (.putfield 31, 3) := by decide +kernel
theorem dX6_faultToldTo_10 : decode cX6_faultToldTo 10 = .ok (.iconst 0, 1) := by decide +kernel
theorem dX6_faultToldTo_11 : decode cX6_faultToldTo 11 = .ok (.istore_n 2, 1) := by decide +kernel
theorem dX6_faultToldTo_12 : decode cX6_faultToldTo 12 = .ok (.iload_n 2, 1) := by decide +kernel
theorem dX6_faultToldTo_13 : decode cX6_faultToldTo 13 = .ok (.bipush 12, 2) := by decide +kernel
theorem dX6_faultToldTo_15 : decode cX6_faultToldTo 15 = .ok (.if_icmp .ge 125, 3) := by decide +kernel
theorem dX6_faultToldTo_18 : decode cX6_faultToldTo 18 = .ok (.aload_n 0, 1) := by decide +kernel
theorem dX6_faultToldTo_19 : decode cX6_faultToldTo 19 = .ok (.getfield 31, 3) := by decide +kernel
theorem dX6_faultToldTo_22 : decode cX6_faultToldTo 22 = .ok (.istore_n 3, 1) := by decide +kernel
theorem dX6_faultToldTo_23 : decode cX6_faultToldTo 23 = .ok (.aload_n 0, 1) := by decide +kernel
theorem dX6_faultToldTo_24 : decode cX6_faultToldTo 24 = .ok (.iload_n 2, 1) := by decide +kernel
theorem dX6_faultToldTo_25 : decode cX6_faultToldTo 25 = .ok (.invokevirtual 38, 3) := by decide +kernel
theorem dX6_faultToldTo_28 : decode cX6_faultToldTo 28 = .ok (.ifCond .ne 51, 3) := by decide +kernel
theorem dX6_faultToldTo_31 : decode cX6_faultToldTo 31 = .ok (.aload_n 1, 1) := by decide +kernel
theorem dX6_faultToldTo_32 : decode cX6_faultToldTo 32 = .ok (.iconst 1, 1) := by decide +kernel
theorem dX6_faultToldTo_33 : decode cX6_faultToldTo 33 = .ok (.aload_n 0, 1) := by decide +kernel
theorem dX6_faultToldTo_34 : decode cX6_faultToldTo 34 = .ok (.getfield 19, 3) := by decide +kernel
theorem dX6_faultToldTo_37 : decode cX6_faultToldTo 37 = .ok (.invokevirtual 42, 3) := by decide +kernel
theorem dX6_faultToldTo_40 : decode cX6_faultToldTo 40 = .ok (.aload_n 1, 1) := by decide +kernel
theorem dX6_faultToldTo_41 : decode cX6_faultToldTo 41 = .ok (.iconst 2, 1) := by decide +kernel
theorem dX6_faultToldTo_42 : decode cX6_faultToldTo 42 = .ok (.iload_n 3, 1) := by decide +kernel
theorem dX6_faultToldTo_43 : decode cX6_faultToldTo 43 = .ok (.invokevirtual 48, 3) := by decide +kernel
theorem dX6_faultToldTo_46 : decode cX6_faultToldTo 46 = .ok (.aload_n 0, 1) := by decide +kernel
theorem dX6_faultToldTo_47 : decode cX6_faultToldTo 47 = .ok (.getfield 34, 3) := by decide +kernel
theorem dX6_faultToldTo_50 : decode cX6_faultToldTo 50 = .ok (.ifCond .eq 15, 3) := by decide +kernel
theorem dX6_faultToldTo_53 : decode cX6_faultToldTo 53 = .ok (.aload_n 1, 1) := by decide +kernel
theorem dX6_faultToldTo_54 : decode cX6_faultToldTo 54 = .ok (.iconst 3, 1) := by decide +kernel
theorem dX6_faultToldTo_55 : decode cX6_faultToldTo 55 = .ok (.aload_n 0, 1) := by decide +kernel
theorem dX6_faultToldTo_56 : decode cX6_faultToldTo 56 = .ok (.getfield 31, 3) := by decide +kernel
theorem dX6_faultToldTo_59 : decode cX6_faultToldTo 59 = .ok (.invokevirtual 48, 3) := by decide +kernel
theorem dX6_faultToldTo_62 : decode cX6_faultToldTo 62 = .ok (.goto 12, 3) := by decide +kernel
theorem dX6_faultToldTo_65 : decode cX6_faultToldTo 65 = .ok (.aload_n 1, 1) := by decide +kernel
theorem dX6_faultToldTo_66 : decode cX6_faultToldTo 66 = .ok (.iconst 4, 1) := by decide +kernel
theorem dX6_faultToldTo_67 : decode cX6_faultToldTo 67 = .ok (.aload_n 0, 1) := by decide +kernel
theorem dX6_faultToldTo_68 : decode cX6_faultToldTo 68 = .ok (.invokevirtual 51, 3) := by decide +kernel
theorem dX6_faultToldTo_71 : decode cX6_faultToldTo 71 = .ok (.invokevirtual 48, 3) := by decide +kernel
theorem dX6_faultToldTo_74 : decode cX6_faultToldTo 74 = .ok (.aload_n 0, 1) := by decide +kernel
theorem dX6_faultToldTo_75 : decode cX6_faultToldTo 75 = .ok (.getfield 31, 3) := by decide +kernel
theorem dX6_faultToldTo_78 : decode cX6_faultToldTo 78 = .ok (.ireturn, 1) := by decide +kernel
theorem dX6_faultToldTo_79 : decode cX6_faultToldTo 79 = .ok (.aload_n 0, 1) := by decide +kernel
theorem dX6_faultToldTo_80 : decode cX6_faultToldTo 80 = .ok (.dup, 1) := by decide +kernel
theorem dX6_faultToldTo_81 : decode cX6_faultToldTo 81 = .ok (.getfield 19, 3) := by decide +kernel
theorem dX6_faultToldTo_84 : decode cX6_faultToldTo 84 = .ok (.iconst 1, 1) := by decide +kernel
theorem dX6_faultToldTo_85 : decode cX6_faultToldTo 85 = .ok (.iadd, 1) := by decide +kernel
theorem dX6_faultToldTo_86 : decode cX6_faultToldTo 86 = .ok (.putfield 19, 3) := by decide +kernel
theorem dX6_faultToldTo_89 : decode cX6_faultToldTo 89 = .ok (.aload_n 0, 1) := by decide +kernel
theorem dX6_faultToldTo_90 : decode cX6_faultToldTo 90 = .ok (.getfield 31, 3) := by decide +kernel
theorem dX6_faultToldTo_93 : decode cX6_faultToldTo 93 = .ok (.aload_n 0, 1) := by decide +kernel
theorem dX6_faultToldTo_94 : decode cX6_faultToldTo 94 = .ok (.getfield 9, 3) := by decide +kernel
theorem dX6_faultToldTo_97 : decode cX6_faultToldTo 97 = .ok (.if_icmp .lt 6, 3) := by decide +kernel
theorem dX6_faultToldTo_100 : decode cX6_faultToldTo 100 = .ok (.bipush (-5), 2) := by decide +kernel
theorem dX6_faultToldTo_102 : decode cX6_faultToldTo 102 = .ok (.ireturn, 1) := by decide +kernel
theorem dX6_faultToldTo_103 : decode cX6_faultToldTo 103 = .ok (.aload_n 0, 1) := by decide +kernel
theorem dX6_faultToldTo_104 : decode cX6_faultToldTo 104 = .ok (.invokevirtual 51, 3) := by decide +kernel
theorem dX6_faultToldTo_107 : decode cX6_faultToldTo 107 = .ok (.bipush 59, 2) := by decide +kernel
theorem dX6_faultToldTo_109 : decode cX6_faultToldTo 109 = .ok (.if_icmp .ne 31, 3) := by decide +kernel
theorem dX6_faultToldTo_112 : decode cX6_faultToldTo 112 = .ok (.aload_n 0, 1) := by decide +kernel
theorem dX6_faultToldTo_113 : decode cX6_faultToldTo 113 = .ok (.getfield 19, 3) := by decide +kernel
theorem dX6_faultToldTo_116 : decode cX6_faultToldTo 116 = .ok (.bipush 12, 2) := by decide +kernel
theorem dX6_faultToldTo_118 : decode cX6_faultToldTo 118 = .ok (.if_icmp .ne 6, 3) := by decide +kernel
theorem dX6_faultToldTo_121 : decode cX6_faultToldTo 121 = .ok (.goto 19, 3) := by decide +kernel
theorem dX6_faultToldTo_124 : decode cX6_faultToldTo 124 = .ok (.aload_n 0, 1) := by decide +kernel
theorem dX6_faultToldTo_125 : decode cX6_faultToldTo 125 = .ok (.dup, 1) := by decide +kernel
theorem dX6_faultToldTo_126 : decode cX6_faultToldTo 126 = .ok (.getfield 31, 3) := by decide +kernel
theorem dX6_faultToldTo_129 : decode cX6_faultToldTo 129 = .ok (.iconst 1, 1) := by decide +kernel
theorem dX6_faultToldTo_130 : decode cX6_faultToldTo 130 = .ok (.iadd, 1) := by decide +kernel
theorem dX6_faultToldTo_131 : decode cX6_faultToldTo 131 = .ok (.putfield 31, 3) := by decide +kernel
theorem dX6_faultToldTo_134 : decode cX6_faultToldTo 134 = .ok (.iinc 2 1, 3) := by decide +kernel
theorem dX6_faultToldTo_137 : decode cX6_faultToldTo 137 = .ok (.goto (-125), 3) := by decide +kernel
theorem dX6_faultToldTo_140 : decode cX6_faultToldTo 140 = .ok (.aload_n 1, 1) := by decide +kernel
theorem dX6_faultToldTo_141 : decode cX6_faultToldTo 141 = .ok (.iconst 1, 1) := by decide +kernel
theorem dX6_faultToldTo_142 : decode cX6_faultToldTo 142 = .ok (.aload_n 0, 1) := by decide +kernel
theorem dX6_faultToldTo_143 : decode cX6_faultToldTo 143 = .ok (.getfield 19, 3) := by decide +kernel
theorem dX6_faultToldTo_146 : decode cX6_faultToldTo 146 = .ok (.invokevirtual 42, 3) := by decide +kernel
theorem dX6_faultToldTo_149 : decode cX6_faultToldTo 149 = .ok (.aload_n 1, 1) := by decide +kernel
theorem dX6_faultToldTo_150 : decode cX6_faultToldTo 150 = .ok (.iconst 4, 1) := by decide +kernel
theorem dX6_faultToldTo_151 : decode cX6_faultToldTo 151 = .ok (.aload_n 0, 1) := by decide +kernel
theorem dX6_faultToldTo_152 : decode cX6_faultToldTo 152 = .ok (.invokevirtual 51, 3) := by decide +kernel
theorem dX6_faultToldTo_155 : decode cX6_faultToldTo 155 = .ok (.invokevirtual 48, 3) := by decide +kernel
theorem dX6_faultToldTo_158 : decode cX6_faultToldTo 158 = .ok (.aload_n 0, 1) := by decide +kernel
theorem dX6_faultToldTo_159 : decode cX6_faultToldTo 159 = .ok (.getfield 31, 3) := by decide +kernel
theorem dX6_faultToldTo_162 : decode cX6_faultToldTo 162 = .ok (.ireturn, 1) := by decide +kernel
theorem dX6_readsClause_0 : decode cX6_readsClause 0 = .ok (.aload_n 0, 1) := by decide +kernel
theorem dX6_readsClause_1 : decode cX6_readsClause 1 = .ok (.iconst 0, 1) := by decide +kernel
theorem dX6_readsClause_2 : decode cX6_readsClause 2 = .ok (.putfield 34, 3) := by decide +kernel
theorem dX6_readsClause_5 : decode cX6_readsClause 5 = .ok (.aload_n 0, 1) := by decide +kernel
theorem dX6_readsClause_6 : decode cX6_readsClause 6 = .ok (.getfield 22, 3) := by decide +kernel
theorem dX6_readsClause_9 : decode cX6_readsClause 9 = .ok (.iload_n 1, 1) := by decide +kernel
theorem dX6_readsClause_10 : decode cX6_readsClause 10 = .ok (.aload_n 0, 1) := by decide +kernel
theorem dX6_readsClause_11 : decode cX6_readsClause 11 = .ok (.invokevirtual 51, 3) := by decide +kernel
theorem dX6_readsClause_14 : decode cX6_readsClause 14 = .ok (.iastore, 1) := by decide +kernel
theorem dX6_readsClause_15 : decode cX6_readsClause 15 = .ok (.aload_n 0, 1) := by decide +kernel
theorem dX6_readsClause_16 : decode cX6_readsClause 16 = .ok (.invokevirtual 51, 3) := by decide +kernel
theorem dX6_readsClause_19 : decode cX6_readsClause 19 = .ok (.lookupswitch 146 #[(98, 61), (99, 49), (103, 77), (108, 111), (115, 77)], 49) := by decide +kernel
theorem dX6_readsClause_68 : decode cX6_readsClause 68 = .ok (.aload_n 0, 1) := by decide +kernel
theorem dX6_readsClause_69 : decode cX6_readsClause 69 = .ok (.dup, 1) := by decide +kernel
theorem dX6_readsClause_70 : decode cX6_readsClause 70 = .ok (.getfield 31, 3) := by decide +kernel
theorem dX6_readsClause_73 : decode cX6_readsClause 73 = .ok (.iconst 1, 1) := by decide +kernel
theorem dX6_readsClause_74 : decode cX6_readsClause 74 = .ok (.iadd, 1) := by decide +kernel
theorem dX6_readsClause_75 : decode cX6_readsClause 75 = .ok (.putfield 31, 3) := by decide +kernel
theorem dX6_readsClause_78 : decode cX6_readsClause 78 = .ok (.iconst 1, 1) := by decide +kernel
theorem dX6_readsClause_79 : decode cX6_readsClause 79 = .ok (.ireturn, 1) := by decide +kernel
theorem dX6_readsClause_80 : decode cX6_readsClause 80 = .ok (.aload_n 0, 1) := by decide +kernel
theorem dX6_readsClause_81 : decode cX6_readsClause 81 = .ok (.dup, 1) := by decide +kernel
theorem dX6_readsClause_82 : decode cX6_readsClause 82 = .ok (.getfield 31, 3) := by decide +kernel
theorem dX6_readsClause_85 : decode cX6_readsClause 85 = .ok (.iconst 1, 1) := by decide +kernel
theorem dX6_readsClause_86 : decode cX6_readsClause 86 = .ok (.iadd, 1) := by decide +kernel
theorem dX6_readsClause_87 : decode cX6_readsClause 87 = .ok (.putfield 31, 3) := by decide +kernel
theorem dX6_readsClause_90 : decode cX6_readsClause 90 = .ok (.aload_n 0, 1) := by decide +kernel
theorem dX6_readsClause_91 : decode cX6_readsClause 91 = .ok (.iload_n 1, 1) := by decide +kernel
theorem dX6_readsClause_92 : decode cX6_readsClause 92 = .ok (.invokevirtual 55, 3) := by decide +kernel
theorem dX6_readsClause_95 : decode cX6_readsClause 95 = .ok (.ireturn, 1) := by decide +kernel
theorem dX6_readsClause_96 : decode cX6_readsClause 96 = .ok (.aload_n 0, 1) := by decide +kernel
theorem dX6_readsClause_97 : decode cX6_readsClause 97 = .ok (.dup, 1) := by decide +kernel
theorem dX6_readsClause_98 : decode cX6_readsClause 98 = .ok (.getfield 31, 3) := by decide +kernel
theorem dX6_readsClause_101 : decode cX6_readsClause 101 = .ok (.iconst 1, 1) := by decide +kernel
theorem dX6_readsClause_102 : decode cX6_readsClause 102 = .ok (.iadd, 1) := by decide +kernel
theorem dX6_readsClause_103 : decode cX6_readsClause 103 = .ok (.putfield 31, 3) := by decide +kernel
theorem dX6_readsClause_106 : decode cX6_readsClause 106 = .ok (.aload_n 0, 1) := by decide +kernel
theorem dX6_readsClause_107 : decode cX6_readsClause 107 = .ok (.getfield 25, 3) := by decide +kernel
theorem dX6_readsClause_110 : decode cX6_readsClause 110 = .ok (.iload_n 1, 1) := by decide +kernel
theorem dX6_readsClause_111 : decode cX6_readsClause 111 = .ok (.aload_n 0, 1) := by decide +kernel
theorem dX6_readsClause_112 : decode cX6_readsClause 112 = .ok (.iconst 1, 1) := by decide +kernel
theorem dX6_readsClause_113 : decode cX6_readsClause 113 = .ok (.invokevirtual 58, 3) := by decide +kernel
theorem dX6_readsClause_116 : decode cX6_readsClause 116 = .ok (.iastore, 1) := by decide +kernel
theorem dX6_readsClause_117 : decode cX6_readsClause 117 = .ok (.aload_n 0, 1) := by decide +kernel
theorem dX6_readsClause_118 : decode cX6_readsClause 118 = .ok (.getfield 34, 3) := by decide +kernel
theorem dX6_readsClause_121 : decode cX6_readsClause 121 = .ok (.ifCond .ne 7, 3) := by decide +kernel
theorem dX6_readsClause_124 : decode cX6_readsClause 124 = .ok (.iconst 1, 1) := by decide +kernel
theorem dX6_readsClause_125 : decode cX6_readsClause 125 = .ok (.goto 4, 3) := by decide +kernel
theorem dX6_readsClause_128 : decode cX6_readsClause 128 = .ok (.iconst 0, 1) := by decide +kernel
theorem dX6_readsClause_129 : decode cX6_readsClause 129 = .ok (.ireturn, 1) := by decide +kernel
theorem dX6_readsClause_130 : decode cX6_readsClause 130 = .ok (.aload_n 0, 1) := by decide +kernel
theorem dX6_readsClause_131 : decode cX6_readsClause 131 = .ok (.dup, 1) := by decide +kernel
theorem dX6_readsClause_132 : decode cX6_readsClause 132 = .ok (.getfield 31, 3) := by decide +kernel
theorem dX6_readsClause_135 : decode cX6_readsClause 135 = .ok (.iconst 1, 1) := by decide +kernel
theorem dX6_readsClause_136 : decode cX6_readsClause 136 = .ok (.iadd, 1) := by decide +kernel
theorem dX6_readsClause_137 : decode cX6_readsClause 137 = .ok (.putfield 31, 3) := by decide +kernel
theorem dX6_readsClause_140 : decode cX6_readsClause 140 = .ok (.aload_n 0, 1) := by decide +kernel
theorem dX6_readsClause_141 : decode cX6_readsClause 141 = .ok (.getfield 25, 3) := by decide +kernel
theorem dX6_readsClause_144 : decode cX6_readsClause 144 = .ok (.iload_n 1, 1) := by decide +kernel
theorem dX6_readsClause_145 : decode cX6_readsClause 145 = .ok (.aload_n 0, 1) := by decide +kernel
theorem dX6_readsClause_146 : decode cX6_readsClause 146 = .ok (.bipush 9, 2) := by decide +kernel
theorem dX6_readsClause_148 : decode cX6_readsClause 148 = .ok (.invokevirtual 58, 3) := by decide +kernel
theorem dX6_readsClause_151 : decode cX6_readsClause 151 = .ok (.iastore, 1) := by decide +kernel
theorem dX6_readsClause_152 : decode cX6_readsClause 152 = .ok (.aload_n 0, 1) := by decide +kernel
theorem dX6_readsClause_153 : decode cX6_readsClause 153 = .ok (.getfield 34, 3) := by decide +kernel
theorem dX6_readsClause_156 : decode cX6_readsClause 156 = .ok (.ifCond .ne 7, 3) := by decide +kernel
theorem dX6_readsClause_159 : decode cX6_readsClause 159 = .ok (.iconst 1, 1) := by decide +kernel
theorem dX6_readsClause_160 : decode cX6_readsClause 160 = .ok (.goto 4, 3) := by decide +kernel
theorem dX6_readsClause_163 : decode cX6_readsClause 163 = .ok (.iconst 0, 1) := by decide +kernel
theorem dX6_readsClause_164 : decode cX6_readsClause 164 = .ok (.ireturn, 1) := by decide +kernel
theorem dX6_readsClause_165 : decode cX6_readsClause 165 = .ok (.iconst 0, 1) := by decide +kernel
theorem dX6_readsClause_166 : decode cX6_readsClause 166 = .ok (.ireturn, 1) := by decide +kernel
theorem dX6_readsBallot_0 : decode cX6_readsBallot 0 = .ok (.aload_n 0, 1) := by decide +kernel
theorem dX6_readsBallot_1 : decode cX6_readsBallot 1 = .ok (.getfield 25, 3) := by decide +kernel
theorem dX6_readsBallot_4 : decode cX6_readsBallot 4 = .ok (.iload_n 1, 1) := by decide +kernel
theorem dX6_readsBallot_5 : decode cX6_readsBallot 5 = .ok (.aload_n 0, 1) := by decide +kernel
theorem dX6_readsBallot_6 : decode cX6_readsBallot 6 = .ok (.bipush 8, 2) := by decide +kernel
theorem dX6_readsBallot_8 : decode cX6_readsBallot 8 = .ok (.invokevirtual 58, 3) := by decide +kernel
theorem dX6_readsBallot_11 : decode cX6_readsBallot 11 = .ok (.iastore, 1) := by decide +kernel
theorem dX6_readsBallot_12 : decode cX6_readsBallot 12 = .ok (.aload_n 0, 1) := by decide +kernel
theorem dX6_readsBallot_13 : decode cX6_readsBallot 13 = .ok (.getfield 34, 3) := by decide +kernel
theorem dX6_readsBallot_16 : decode cX6_readsBallot 16 = .ok (.ifCond .ne 12, 3) := by decide +kernel
theorem dX6_readsBallot_19 : decode cX6_readsBallot 19 = .ok (.aload_n 0, 1) := by decide +kernel
theorem dX6_readsBallot_20 : decode cX6_readsBallot 20 = .ok (.invokevirtual 51, 3) := by decide +kernel
theorem dX6_readsBallot_23 : decode cX6_readsBallot 23 = .ok (.bipush 42, 2) := by decide +kernel
theorem dX6_readsBallot_25 : decode cX6_readsBallot 25 = .ok (.if_icmp .eq 5, 3) := by decide +kernel
theorem dX6_readsBallot_28 : decode cX6_readsBallot 28 = .ok (.iconst 0, 1) := by decide +kernel
theorem dX6_readsBallot_29 : decode cX6_readsBallot 29 = .ok (.ireturn, 1) := by decide +kernel
theorem dX6_readsBallot_30 : decode cX6_readsBallot 30 = .ok (.aload_n 0, 1) := by decide +kernel
theorem dX6_readsBallot_31 : decode cX6_readsBallot 31 = .ok (.dup, 1) := by decide +kernel
theorem dX6_readsBallot_32 : decode cX6_readsBallot 32 = .ok (.getfield 31, 3) := by decide +kernel
theorem dX6_readsBallot_35 : decode cX6_readsBallot 35 = .ok (.iconst 1, 1) := by decide +kernel
theorem dX6_readsBallot_36 : decode cX6_readsBallot 36 = .ok (.iadd, 1) := by decide +kernel
theorem dX6_readsBallot_37 : decode cX6_readsBallot 37 = .ok (.putfield 31, 3) := by decide +kernel
theorem dX6_readsBallot_40 : decode cX6_readsBallot 40 = .ok (.aload_n 0, 1) := by decide +kernel
theorem dX6_readsBallot_41 : decode cX6_readsBallot 41 = .ok (.getfield 28, 3) := by decide +kernel
theorem dX6_readsBallot_44 : decode cX6_readsBallot 44 = .ok (.iload_n 1, 1) := by decide +kernel
theorem dX6_readsBallot_45 : decode cX6_readsBallot 45 = .ok (.aload_n 0, 1) := by decide +kernel
theorem dX6_readsBallot_46 : decode cX6_readsBallot 46 = .ok (.bipush 7, 2) := by decide +kernel
theorem dX6_readsBallot_48 : decode cX6_readsBallot 48 = .ok (.invokevirtual 58, 3) := by decide +kernel
theorem dX6_readsBallot_51 : decode cX6_readsBallot 51 = .ok (.iastore, 1) := by decide +kernel
theorem dX6_readsBallot_52 : decode cX6_readsBallot 52 = .ok (.aload_n 0, 1) := by decide +kernel
theorem dX6_readsBallot_53 : decode cX6_readsBallot 53 = .ok (.getfield 34, 3) := by decide +kernel
theorem dX6_readsBallot_56 : decode cX6_readsBallot 56 = .ok (.ifCond .ne 7, 3) := by decide +kernel
theorem dX6_readsBallot_59 : decode cX6_readsBallot 59 = .ok (.iconst 1, 1) := by decide +kernel
theorem dX6_readsBallot_60 : decode cX6_readsBallot 60 = .ok (.goto 4, 3) := by decide +kernel
theorem dX6_readsBallot_63 : decode cX6_readsBallot 63 = .ok (.iconst 0, 1) := by decide +kernel
theorem dX6_readsBallot_64 : decode cX6_readsBallot 64 = .ok (.ireturn, 1) := by decide +kernel
theorem dX6_number_0 : decode cX6_number 0 = .ok (.iconst 0, 1) := by decide +kernel
theorem dX6_number_1 : decode cX6_number 1 = .ok (.istore_n 2, 1) := by decide +kernel
theorem dX6_number_2 : decode cX6_number 2 = .ok (.iconst 0, 1) := by decide +kernel
theorem dX6_number_3 : decode cX6_number 3 = .ok (.istore_n 3, 1) := by decide +kernel
theorem dX6_number_4 : decode cX6_number 4 = .ok (.iload_n 3, 1) := by decide +kernel
theorem dX6_number_5 : decode cX6_number 5 = .ok (.iload_n 1, 1) := by decide +kernel
theorem dX6_number_6 : decode cX6_number 6 = .ok (.if_icmp .ge 50, 3) := by decide +kernel
theorem dX6_number_9 : decode cX6_number 9 = .ok (.aload_n 0, 1) := by decide +kernel
theorem dX6_number_10 : decode cX6_number 10 = .ok (.invokevirtual 51, 3) := by decide +kernel
theorem dX6_number_13 : decode cX6_number 13 = .ok (.bipush 48, 2) := by decide +kernel
theorem dX6_number_15 : decode cX6_number 15 = .ok (.if_icmp .lt 41, 3) := by decide +kernel
theorem dX6_number_18 : decode cX6_number 18 = .ok (.aload_n 0, 1) := by decide +kernel
theorem dX6_number_19 : decode cX6_number 19 = .ok (.invokevirtual 51, 3) := by decide +kernel
theorem dX6_number_22 : decode cX6_number 22 = .ok (.bipush 57, 2) := by decide +kernel
theorem dX6_number_24 : decode cX6_number 24 = .ok (.if_icmp .gt 32, 3) := by decide +kernel
theorem dX6_number_27 : decode cX6_number 27 = .ok (.iload_n 2, 1) := by decide +kernel
theorem dX6_number_28 : decode cX6_number 28 = .ok (.bipush 10, 2) := by decide +kernel
theorem dX6_number_30 : decode cX6_number 30 = .ok (.imul, 1) := by decide +kernel
theorem dX6_number_31 : decode cX6_number 31 = .ok (.aload_n 0, 1) := by decide +kernel
theorem dX6_number_32 : decode cX6_number 32 = .ok (.invokevirtual 51, 3) := by decide +kernel
theorem dX6_number_35 : decode cX6_number 35 = .ok (.iadd, 1) := by decide +kernel
theorem dX6_number_36 : decode cX6_number 36 = .ok (.bipush 48, 2) := by decide +kernel
theorem dX6_number_38 : decode cX6_number 38 = .ok (.isub, 1) := by decide +kernel
theorem dX6_number_39 : decode cX6_number 39 = .ok (.istore_n 2, 1) := by decide +kernel
theorem dX6_number_40 : decode cX6_number 40 = .ok (.aload_n 0, 1) := by decide +kernel
theorem dX6_number_41 : decode cX6_number 41 = .ok (.dup, 1) := by decide +kernel
theorem dX6_number_42 : decode cX6_number 42 = .ok (.getfield 31, 3) := by decide +kernel
theorem dX6_number_45 : decode cX6_number 45 = .ok (.iconst 1, 1) := by decide +kernel
theorem dX6_number_46 : decode cX6_number 46 = .ok (.iadd, 1) := by decide +kernel
theorem dX6_number_47 : decode cX6_number 47 = .ok (.putfield 31, 3) := by decide +kernel
theorem dX6_number_50 : decode cX6_number 50 = .ok (.iinc 3 1, 3) := by decide +kernel
theorem dX6_number_53 : decode cX6_number 53 = .ok (.goto (-49), 3) := by decide +kernel
theorem dX6_number_56 : decode cX6_number 56 = .ok (.aload_n 0, 1) := by decide +kernel
theorem dX6_number_57 : decode cX6_number 57 = .ok (.iload_n 3, 1) := by decide +kernel
theorem dX6_number_58 : decode cX6_number 58 = .ok (.ifCond .ne 7, 3) := by decide +kernel
theorem dX6_number_61 : decode cX6_number 61 = .ok (.iconst 1, 1) := by decide +kernel
theorem dX6_number_62 : decode cX6_number 62 = .ok (.goto 4, 3) := by decide +kernel
theorem dX6_number_65 : decode cX6_number 65 = .ok (.iconst 0, 1) := by decide +kernel
theorem dX6_number_66 : decode cX6_number 66 = .ok (.putfield 34, 3) := by decide +kernel
theorem dX6_number_69 : decode cX6_number 69 = .ok (.iload_n 2, 1) := by decide +kernel
theorem dX6_number_70 : decode cX6_number 70 = .ok (.ireturn, 1) := by decide +kernel
theorem dX7_init_0 : decode cX7_init 0 = .ok (.aload_n 0, 1) := by decide +kernel
theorem dX7_init_1 : decode cX7_init 1 = .ok (.invokespecial 1, 3) := by decide +kernel
theorem dX7_init_4 : decode cX7_init 4 = .ok (.aload_n 0, 1) := by decide +kernel
theorem dX7_init_5 : decode cX7_init 5 = .ok (.iconst 0, 1) := by decide +kernel
theorem dX7_init_6 : decode cX7_init 6 = .ok (.putfield 7, 3) := by decide +kernel
theorem dX7_init_9 : decode cX7_init 9 = .ok (.aload_n 0, 1) := by decide +kernel
theorem dX7_init_10 : decode cX7_init 10 = .ok (.iconst 3, 1) := by decide +kernel
theorem dX7_init_11 : decode cX7_init 11 = .ok (.newarray .int, 2) := by decide +kernel
theorem dX7_init_13 : decode cX7_init 13 = .ok (.putfield 13, 3) := by decide +kernel
theorem dX7_init_16 : decode cX7_init 16 = .ok (.aload_n 0, 1) := by decide +kernel
theorem dX7_init_17 : decode cX7_init 17 = .ok (.iconst 3, 1) := by decide +kernel
theorem dX7_init_18 : decode cX7_init 18 = .ok (.newarray .int, 2) := by decide +kernel
theorem dX7_init_20 : decode cX7_init 20 = .ok (.putfield 17, 3) := by decide +kernel
theorem dX7_init_23 : decode cX7_init 23 = .ok (.return_, 1) := by decide +kernel
theorem dX7_begin_0 : decode cX7_begin 0 = .ok (.aload_n 0, 1) := by decide +kernel
theorem dX7_begin_1 : decode cX7_begin 1 = .ok (.iconst 0, 1) := by decide +kernel
theorem dX7_begin_2 : decode cX7_begin 2 = .ok (.putfield 7, 3) := by decide +kernel
theorem dX7_begin_5 : decode cX7_begin 5 = .ok (.aload_n 0, 1) := by decide +kernel
theorem dX7_begin_6 : decode cX7_begin 6 = .ok (.iload_n 1, 1) := by decide +kernel
theorem dX7_begin_7 : decode cX7_begin 7 = .ok (.iload_n 2, 1) := by decide +kernel
theorem dX7_begin_8 : decode cX7_begin 8 = .ok (.invokevirtual 20, 3) := by decide +kernel
theorem dX7_begin_11 : decode cX7_begin 11 = .ok (.return_, 1) := by decide +kernel
theorem dX7_addCause_0 : decode cX7_addCause 0 = .ok (.aload_n 0, 1) := by decide +kernel
theorem dX7_addCause_1 : decode cX7_addCause 1 = .ok (.getfield 7, 3) := by decide +kernel
theorem dX7_addCause_4 : decode cX7_addCause 4 = .ok (.aload_n 0, 1) := by decide +kernel
theorem dX7_addCause_5 : decode cX7_addCause 5 = .ok (.getfield 13, 3) := by decide +kernel
theorem dX7_addCause_8 : decode cX7_addCause 8 = .ok (.arraylength, 1) := by decide +kernel
theorem dX7_addCause_9 : decode cX7_addCause 9 = .ok (.if_icmp .ge 33, 3) := by decide +kernel
theorem dX7_addCause_12 : decode cX7_addCause 12 = .ok (.aload_n 0, 1) := by decide +kernel
theorem dX7_addCause_13 : decode cX7_addCause 13 = .ok (.getfield 13, 3) := by decide +kernel
theorem dX7_addCause_16 : decode cX7_addCause 16 = .ok (.aload_n 0, 1) := by decide +kernel
theorem dX7_addCause_17 : decode cX7_addCause 17 = .ok (.getfield 7, 3) := by decide +kernel
theorem dX7_addCause_20 : decode cX7_addCause 20 = .ok (.iload_n 1, 1) := by decide +kernel
theorem dX7_addCause_21 : decode cX7_addCause 21 = .ok (.iastore, 1) := by decide +kernel
theorem dX7_addCause_22 : decode cX7_addCause 22 = .ok (.aload_n 0, 1) := by decide +kernel
theorem dX7_addCause_23 : decode cX7_addCause 23 = .ok (.getfield 17, 3) := by decide +kernel
theorem dX7_addCause_26 : decode cX7_addCause 26 = .ok (.aload_n 0, 1) := by decide +kernel
theorem dX7_addCause_27 : decode cX7_addCause 27 = .ok (.getfield 7, 3) := by decide +kernel
theorem dX7_addCause_30 : decode cX7_addCause 30 = .ok (.iload_n 2, 1) := by decide +kernel
theorem dX7_addCause_31 : decode cX7_addCause 31 = .ok (.iastore, 1) := by decide +kernel
theorem dX7_addCause_32 : decode cX7_addCause 32 = .ok (.aload_n 0, 1) := by decide +kernel
theorem dX7_addCause_33 : decode cX7_addCause 33 = .ok (.dup, 1) := by decide +kernel
theorem dX7_addCause_34 : decode cX7_addCause 34 = .ok (.getfield 7, 3) := by decide +kernel
theorem dX7_addCause_37 : decode cX7_addCause 37 = .ok (.iconst 1, 1) := by decide +kernel
theorem dX7_addCause_38 : decode cX7_addCause 38 = .ok (.iadd, 1) := by decide +kernel
theorem dX7_addCause_39 : decode cX7_addCause 39 = .ok (.putfield 7, 3) := by decide +kernel
theorem dX7_addCause_42 : decode cX7_addCause 42 = .ok (.return_, 1) := by decide +kernel
theorem dX8_init_0 : decode cX8_init 0 = .ok (.aload_n 0, 1) := by decide +kernel
theorem dX8_init_1 : decode cX8_init 1 = .ok (.invokespecial 5, 3) := by decide +kernel
theorem dX8_init_4 : decode cX8_init 4 = .ok (.aload_n 0, 1) := by decide +kernel
theorem dX8_init_5 : decode cX8_init 5 = .ok (.new 11, 3) := by decide +kernel
theorem dX8_init_8 : decode cX8_init 8 = .ok (.dup, 1) := by decide +kernel
theorem dX8_init_9 : decode cX8_init 9 = .ok (.invokespecial 13, 3) := by decide +kernel
theorem dX8_init_12 : decode cX8_init 12 = .ok (.putfield 14, 3) := by decide +kernel
theorem dX8_init_15 : decode cX8_init 15 = .ok (.aload_n 0, 1) := by decide +kernel
theorem dX8_init_16 : decode cX8_init 16 = .ok (.new 11, 3) := by decide +kernel
theorem dX8_init_19 : decode cX8_init 19 = .ok (.dup, 1) := by decide +kernel
theorem dX8_init_20 : decode cX8_init 20 = .ok (.invokespecial 13, 3) := by decide +kernel
theorem dX8_init_23 : decode cX8_init 23 = .ok (.putfield 18, 3) := by decide +kernel
theorem dX8_init_26 : decode cX8_init 26 = .ok (.aload_n 0, 1) := by decide +kernel
theorem dX8_init_27 : decode cX8_init 27 = .ok (.new 11, 3) := by decide +kernel
theorem dX8_init_30 : decode cX8_init 30 = .ok (.dup, 1) := by decide +kernel
theorem dX8_init_31 : decode cX8_init 31 = .ok (.invokespecial 13, 3) := by decide +kernel
theorem dX8_init_34 : decode cX8_init 34 = .ok (.putfield 21, 3) := by decide +kernel
theorem dX8_init_37 : decode cX8_init 37 = .ok (.aload_n 0, 1) := by decide +kernel
theorem dX8_init_38 : decode cX8_init 38 = .ok (.iconst 0, 1) := by decide +kernel
theorem dX8_init_39 : decode cX8_init 39 = .ok (.putfield 24, 3) := by decide +kernel
theorem dX8_init_42 : decode cX8_init 42 = .ok (.aload_n 0, 1) := by decide +kernel
theorem dX8_init_43 : decode cX8_init 43 = .ok (.new 28, 3) := by decide +kernel
theorem dX8_init_46 : decode cX8_init 46 = .ok (.dup, 1) := by decide +kernel
theorem dX8_init_47 : decode cX8_init 47 = .ok (.aload_n 0, 1) := by decide +kernel
theorem dX8_init_48 : decode cX8_init 48 = .ok (.getfield 14, 3) := by decide +kernel
theorem dX8_init_51 : decode cX8_init 51 = .ok (.invokespecial 30, 3) := by decide +kernel
theorem dX8_init_54 : decode cX8_init 54 = .ok (.putfield 33, 3) := by decide +kernel
theorem dX8_init_57 : decode cX8_init 57 = .ok (.aload_n 0, 1) := by decide +kernel
theorem dX8_init_58 : decode cX8_init 58 = .ok (.new 28, 3) := by decide +kernel
theorem dX8_init_61 : decode cX8_init 61 = .ok (.dup, 1) := by decide +kernel
theorem dX8_init_62 : decode cX8_init 62 = .ok (.aload_n 0, 1) := by decide +kernel
theorem dX8_init_63 : decode cX8_init 63 = .ok (.getfield 18, 3) := by decide +kernel
theorem dX8_init_66 : decode cX8_init 66 = .ok (.invokespecial 30, 3) := by decide +kernel
theorem dX8_init_69 : decode cX8_init 69 = .ok (.putfield 37, 3) := by decide +kernel
theorem dX8_init_72 : decode cX8_init 72 = .ok (.aload_n 0, 1) := by decide +kernel
theorem dX8_init_73 : decode cX8_init 73 = .ok (.iconst 0, 1) := by decide +kernel
theorem dX8_init_74 : decode cX8_init 74 = .ok (.putfield 40, 3) := by decide +kernel
theorem dX8_init_77 : decode cX8_init 77 = .ok (.aload_n 0, 1) := by decide +kernel
theorem dX8_init_78 : decode cX8_init 78 = .ok (.new 43, 3) := by decide +kernel
theorem dX8_init_81 : decode cX8_init 81 = .ok (.dup, 1) := by decide +kernel
theorem dX8_init_82 : decode cX8_init 82 = .ok (.invokespecial 45, 3) := by decide +kernel
theorem dX8_init_85 : decode cX8_init 85 = .ok (.putfield 46, 3) := by decide +kernel
theorem dX8_init_88 : decode cX8_init 88 = .ok (.aload_n 0, 1) := by decide +kernel
theorem dX8_init_89 : decode cX8_init 89 = .ok (.new 50, 3) := by decide +kernel
theorem dX8_init_92 : decode cX8_init 92 = .ok (.dup, 1) := by decide +kernel
theorem dX8_init_93 : decode cX8_init 93 = .ok (.invokespecial 52, 3) := by decide +kernel
theorem dX8_init_96 : decode cX8_init 96 = .ok (.putfield 53, 3) := by decide +kernel
theorem dX8_init_99 : decode cX8_init 99 = .ok (.aload_n 0, 1) := by decide +kernel
theorem dX8_init_100 : decode cX8_init 100 = .ok (.bipush 6, 2) := by decide +kernel
theorem dX8_init_102 : decode cX8_init 102 = .ok (.anewarray 57, 3) := by decide +kernel
theorem dX8_init_105 : decode cX8_init 105 = .ok (.putfield 59, 3) := by decide +kernel
theorem dX8_init_108 : decode cX8_init 108 = .ok (.iconst 0, 1) := by decide +kernel
theorem dX8_init_109 : decode cX8_init 109 = .ok (.istore_n 1, 1) := by decide +kernel
theorem dX8_init_110 : decode cX8_init 110 = .ok (.iload_n 1, 1) := by decide +kernel
theorem dX8_init_111 : decode cX8_init 111 = .ok (.aload_n 0, 1) := by decide +kernel
theorem dX8_init_112 : decode cX8_init 112 = .ok (.getfield 59, 3) := by decide +kernel
theorem dX8_init_115 : decode cX8_init 115 = .ok (.arraylength, 1) := by decide +kernel
theorem dX8_init_116 : decode cX8_init 116 = .ok (.if_icmp .ge 22, 3) := by decide +kernel
theorem dX8_init_119 : decode cX8_init 119 = .ok (.aload_n 0, 1) := by decide +kernel
theorem dX8_init_120 : decode cX8_init 120 = .ok (.getfield 59, 3) := by decide +kernel
theorem dX8_init_123 : decode cX8_init 123 = .ok (.iload_n 1, 1) := by decide +kernel
theorem dX8_init_124 : decode cX8_init 124 = .ok (.new 57, 3) := by decide +kernel
theorem dX8_init_127 : decode cX8_init 127 = .ok (.dup, 1) := by decide +kernel
theorem dX8_init_128 : decode cX8_init 128 = .ok (.invokespecial 63, 3) := by decide +kernel
theorem dX8_init_131 : decode cX8_init 131 = .ok (.aastore, 1) := by decide +kernel
theorem dX8_init_132 : decode cX8_init 132 = .ok (.iinc 1 1, 3) := by decide +kernel
theorem dX8_init_135 : decode cX8_init 135 = .ok (.goto (-25), 3) := by decide +kernel
theorem dX8_init_138 : decode cX8_init 138 = .ok (.return_, 1) := by decide +kernel
theorem dX8_candidate_0 : decode cX8_candidate 0 = .ok (.aload_n 0, 1) := by decide +kernel
theorem dX8_candidate_1 : decode cX8_candidate 1 = .ok (.getfield 14, 3) := by decide +kernel
theorem dX8_candidate_4 : decode cX8_candidate 4 = .ok (.getfield 64, 3) := by decide +kernel
theorem dX8_candidate_7 : decode cX8_candidate 7 = .ok (.bipush 8, 2) := by decide +kernel
theorem dX8_candidate_9 : decode cX8_candidate 9 = .ok (.if_icmp .lt 6, 3) := by decide +kernel
theorem dX8_candidate_12 : decode cX8_candidate 12 = .ok (.bipush (-4), 2) := by decide +kernel
theorem dX8_candidate_14 : decode cX8_candidate 14 = .ok (.ireturn, 1) := by decide +kernel
theorem dX8_candidate_15 : decode cX8_candidate 15 = .ok (.aload_n 0, 1) := by decide +kernel
theorem dX8_candidate_16 : decode cX8_candidate 16 = .ok (.getfield 14, 3) := by decide +kernel
theorem dX8_candidate_19 : decode cX8_candidate 19 = .ok (.getfield 64, 3) := by decide +kernel
theorem dX8_candidate_22 : decode cX8_candidate 22 = .ok (.istore_n 1, 1) := by decide +kernel
theorem dX8_candidate_23 : decode cX8_candidate 23 = .ok (.aload_n 0, 1) := by decide +kernel
theorem dX8_candidate_24 : decode cX8_candidate 24 = .ok (.getfield 14, 3) := by decide +kernel
theorem dX8_candidate_27 : decode cX8_candidate 27 = .ok (.getfield 68, 3) := by decide +kernel
theorem dX8_candidate_30 : decode cX8_candidate 30 = .ok (.iload_n 1, 1) := by decide +kernel
theorem dX8_candidate_31 : decode cX8_candidate 31 = .ok (.iload_n 1, 1) := by decide +kernel
theorem dX8_candidate_32 : decode cX8_candidate 32 = .ok (.iastore, 1) := by decide +kernel
theorem dX8_candidate_33 : decode cX8_candidate 33 = .ok (.aload_n 0, 1) := by decide +kernel
theorem dX8_candidate_34 : decode cX8_candidate 34 = .ok (.getfield 14, 3) := by decide +kernel
theorem dX8_candidate_37 : decode cX8_candidate 37 = .ok (.getfield 72, 3) := by decide +kernel
theorem dX8_candidate_40 : decode cX8_candidate 40 = .ok (.iload_n 1, 1) := by decide +kernel
theorem dX8_candidate_41 : decode cX8_candidate 41 = .ok (.iconst 0, 1) := by decide +kernel
theorem dX8_candidate_42 : decode cX8_candidate 42 = .ok (.bastore, 1) := by decide +kernel
theorem dX8_candidate_43 : decode cX8_candidate 43 = .ok (.aload_n 0, 1) := by decide +kernel
theorem dX8_candidate_44 : decode cX8_candidate 44 = .ok (.getfield 14, 3) := by decide +kernel
theorem dX8_candidate_47 : decode cX8_candidate 47 = .ok (.iload_n 1, 1) := by decide +kernel
theorem dX8_candidate_48 : decode cX8_candidate 48 = .ok (.iconst 1, 1) := by decide +kernel
theorem dX8_candidate_49 : decode cX8_candidate 49 = .ok (.iadd, 1) := by decide +kernel
theorem dX8_candidate_50 : decode cX8_candidate 50 = .ok (.putfield 64, 3) := by decide +kernel
theorem dX8_candidate_53 : decode cX8_candidate 53 = .ok (.aload_n 0, 1) := by decide +kernel
theorem dX8_candidate_54 : decode cX8_candidate 54 = .ok (.iconst 0, 1) := by decide +kernel
theorem dX8_candidate_55 : decode cX8_candidate 55 = .ok (.putfield 40, 3) := by decide +kernel
theorem dX8_candidate_58 : decode cX8_candidate 58 = .ok (.iload_n 1, 1) := by decide +kernel
theorem dX8_candidate_59 : decode cX8_candidate 59 = .ok (.ireturn, 1) := by decide +kernel
theorem dX8_ballot_0 : decode cX8_ballot 0 = .ok (.iload_n 1, 1) := by decide +kernel
theorem dX8_ballot_1 : decode cX8_ballot 1 = .ok (.aload_n 0, 1) := by decide +kernel
theorem dX8_ballot_2 : decode cX8_ballot 2 = .ok (.getfield 14, 3) := by decide +kernel
theorem dX8_ballot_5 : decode cX8_ballot 5 = .ok (.getfield 64, 3) := by decide +kernel
theorem dX8_ballot_8 : decode cX8_ballot 8 = .ok (.invokestatic 76, 3) := by decide +kernel
theorem dX8_ballot_11 : decode cX8_ballot 11 = .ok (.ifCond .eq 13, 3) := by decide +kernel
theorem dX8_ballot_14 : decode cX8_ballot 14 = .ok (.iload_n 2, 1) := by decide +kernel
theorem dX8_ballot_15 : decode cX8_ballot 15 = .ok (.ifCond .lt 9, 3) := by decide +kernel
theorem dX8_ballot_18 : decode cX8_ballot 18 = .ok (.iload_n 2, 1) := by decide +kernel
theorem dX8_ballot_19 : decode cX8_ballot 19 = .ok (.ldc 82, 2) := by decide +kernel
theorem dX8_ballot_21 : decode cX8_ballot 21 = .ok (.if_icmp .le 6, 3) := by decide +kernel
theorem dX8_ballot_24 : decode cX8_ballot 24 = .ok (.bipush (-2), 2) := by decide +kernel
theorem dX8_ballot_26 : decode cX8_ballot 26 = .ok (.ireturn, 1) := by decide +kernel
theorem dX8_ballot_27 : decode cX8_ballot 27 = .ok (.aload_n 0, 1) := by decide +kernel
theorem dX8_ballot_28 : decode cX8_ballot 28 = .ok (.getfield 14, 3) := by decide +kernel
theorem dX8_ballot_31 : decode cX8_ballot 31 = .ok (.getfield 83, 3) := by decide +kernel
theorem dX8_ballot_34 : decode cX8_ballot 34 = .ok (.bipush 24, 2) := by decide +kernel
theorem dX8_ballot_36 : decode cX8_ballot 36 = .ok (.if_icmp .lt 6, 3) := by decide +kernel
theorem dX8_ballot_39 : decode cX8_ballot 39 = .ok (.bipush (-4), 2) := by decide +kernel
theorem dX8_ballot_41 : decode cX8_ballot 41 = .ok (.ireturn, 1) := by decide +kernel
theorem dX8_ballot_42 : decode cX8_ballot 42 = .ok (.aload_n 0, 1) := by decide +kernel
theorem dX8_ballot_43 : decode cX8_ballot 43 = .ok (.getfield 14, 3) := by decide +kernel
theorem dX8_ballot_46 : decode cX8_ballot 46 = .ok (.getfield 83, 3) := by decide +kernel
theorem dX8_ballot_49 : decode cX8_ballot 49 = .ok (.istore_n 3, 1) := by decide +kernel
theorem dX8_ballot_50 : decode cX8_ballot 50 = .ok (.aload_n 0, 1) := by decide +kernel
theorem dX8_ballot_51 : decode cX8_ballot 51 = .ok (.iload_n 3, 1) := by decide +kernel
theorem dX8_ballot_52 : decode cX8_ballot 52 = .ok (.iload_n 2, 1) := by decide +kernel
theorem dX8_ballot_53 : decode cX8_ballot 53 = .ok (.invokevirtual 86, 3) := by decide +kernel
theorem dX8_ballot_56 : decode cX8_ballot 56 = .ok (.ifCond .eq 6, 3) := by decide +kernel
theorem dX8_ballot_59 : decode cX8_ballot 59 = .ok (.bipush (-15), 2) := by decide +kernel
theorem dX8_ballot_61 : decode cX8_ballot 61 = .ok (.ireturn, 1) := by decide +kernel
theorem dX8_ballot_62 : decode cX8_ballot 62 = .ok (.aload_n 0, 1) := by decide +kernel
theorem dX8_ballot_63 : decode cX8_ballot 63 = .ok (.getfield 14, 3) := by decide +kernel
theorem dX8_ballot_66 : decode cX8_ballot 66 = .ok (.getfield 89, 3) := by decide +kernel
theorem dX8_ballot_69 : decode cX8_ballot 69 = .ok (.iload_n 3, 1) := by decide +kernel
theorem dX8_ballot_70 : decode cX8_ballot 70 = .ok (.iload_n 1, 1) := by decide +kernel
theorem dX8_ballot_71 : decode cX8_ballot 71 = .ok (.invokestatic 92, 3) := by decide +kernel
theorem dX8_ballot_74 : decode cX8_ballot 74 = .ok (.iastore, 1) := by decide +kernel
theorem dX8_ballot_75 : decode cX8_ballot 75 = .ok (.aload_n 0, 1) := by decide +kernel
theorem dX8_ballot_76 : decode cX8_ballot 76 = .ok (.getfield 14, 3) := by decide +kernel
theorem dX8_ballot_79 : decode cX8_ballot 79 = .ok (.getfield 96, 3) := by decide +kernel
theorem dX8_ballot_82 : decode cX8_ballot 82 = .ok (.iload_n 3, 1) := by decide +kernel
theorem dX8_ballot_83 : decode cX8_ballot 83 = .ok (.iload_n 2, 1) := by decide +kernel
theorem dX8_ballot_84 : decode cX8_ballot 84 = .ok (.iastore, 1) := by decide +kernel
theorem dX8_ballot_85 : decode cX8_ballot 85 = .ok (.aload_n 0, 1) := by decide +kernel
theorem dX8_ballot_86 : decode cX8_ballot 86 = .ok (.getfield 14, 3) := by decide +kernel
theorem dX8_ballot_89 : decode cX8_ballot 89 = .ok (.iload_n 3, 1) := by decide +kernel
theorem dX8_ballot_90 : decode cX8_ballot 90 = .ok (.iconst 1, 1) := by decide +kernel
theorem dX8_ballot_91 : decode cX8_ballot 91 = .ok (.iadd, 1) := by decide +kernel
theorem dX8_ballot_92 : decode cX8_ballot 92 = .ok (.putfield 83, 3) := by decide +kernel
theorem dX8_ballot_95 : decode cX8_ballot 95 = .ok (.aload_n 0, 1) := by decide +kernel
theorem dX8_ballot_96 : decode cX8_ballot 96 = .ok (.iconst 0, 1) := by decide +kernel
theorem dX8_ballot_97 : decode cX8_ballot 97 = .ok (.putfield 40, 3) := by decide +kernel
theorem dX8_ballot_100 : decode cX8_ballot 100 = .ok (.iload_n 3, 1) := by decide +kernel
theorem dX8_ballot_101 : decode cX8_ballot 101 = .ok (.ireturn, 1) := by decide +kernel
theorem dX8_many_0 : decode cX8_many 0 = .ok (.aload_n 0, 1) := by decide +kernel
theorem dX8_many_1 : decode cX8_many 1 = .ok (.getfield 14, 3) := by decide +kernel
theorem dX8_many_4 : decode cX8_many 4 = .ok (.iload_n 1, 1) := by decide +kernel
theorem dX8_many_5 : decode cX8_many 5 = .ok (.invokevirtual 99, 3) := by decide +kernel
theorem dX8_many_8 : decode cX8_many 8 = .ok (.ifCond .ne 5, 3) := by decide +kernel
theorem dX8_many_11 : decode cX8_many 11 = .ok (.iconst (-1), 1) := by decide +kernel
theorem dX8_many_12 : decode cX8_many 12 = .ok (.ireturn, 1) := by decide +kernel
theorem dX8_many_13 : decode cX8_many 13 = .ok (.iload_n 2, 1) := by decide +kernel
theorem dX8_many_14 : decode cX8_many 14 = .ok (.ifCond .lt 9, 3) := by decide +kernel
theorem dX8_many_17 : decode cX8_many 17 = .ok (.iload_n 2, 1) := by decide +kernel
theorem dX8_many_18 : decode cX8_many 18 = .ok (.ldc 82, 2) := by decide +kernel
theorem dX8_many_20 : decode cX8_many 20 = .ok (.if_icmp .le 6, 3) := by decide +kernel
theorem dX8_many_23 : decode cX8_many 23 = .ok (.bipush (-2), 2) := by decide +kernel
theorem dX8_many_25 : decode cX8_many 25 = .ok (.ireturn, 1) := by decide +kernel
theorem dX8_many_26 : decode cX8_many 26 = .ok (.aload_n 0, 1) := by decide +kernel
theorem dX8_many_27 : decode cX8_many 27 = .ok (.iload_n 1, 1) := by decide +kernel
theorem dX8_many_28 : decode cX8_many 28 = .ok (.iload_n 2, 1) := by decide +kernel
theorem dX8_many_29 : decode cX8_many 29 = .ok (.invokevirtual 86, 3) := by decide +kernel
theorem dX8_many_32 : decode cX8_many 32 = .ok (.ifCond .eq 6, 3) := by decide +kernel
theorem dX8_many_35 : decode cX8_many 35 = .ok (.bipush (-15), 2) := by decide +kernel
theorem dX8_many_37 : decode cX8_many 37 = .ok (.ireturn, 1) := by decide +kernel
theorem dX8_many_38 : decode cX8_many 38 = .ok (.aload_n 0, 1) := by decide +kernel
theorem dX8_many_39 : decode cX8_many 39 = .ok (.getfield 14, 3) := by decide +kernel
theorem dX8_many_42 : decode cX8_many 42 = .ok (.getfield 96, 3) := by decide +kernel
theorem dX8_many_45 : decode cX8_many 45 = .ok (.iload_n 1, 1) := by decide +kernel
theorem dX8_many_46 : decode cX8_many 46 = .ok (.iaload, 1) := by decide +kernel
theorem dX8_many_47 : decode cX8_many 47 = .ok (.istore_n 3, 1) := by decide +kernel
theorem dX8_many_48 : decode cX8_many 48 = .ok (.aload_n 0, 1) := by decide +kernel
theorem dX8_many_49 : decode cX8_many 49 = .ok (.getfield 14, 3) := by decide +kernel
theorem dX8_many_52 : decode cX8_many 52 = .ok (.getfield 96, 3) := by decide +kernel
theorem dX8_many_55 : decode cX8_many 55 = .ok (.iload_n 1, 1) := by decide +kernel
theorem dX8_many_56 : decode cX8_many 56 = .ok (.iload_n 2, 1) := by decide +kernel
theorem dX8_many_57 : decode cX8_many 57 = .ok (.iastore, 1) := by decide +kernel
theorem dX8_many_58 : decode cX8_many 58 = .ok (.aload_n 0, 1) := by decide +kernel
theorem dX8_many_59 : decode cX8_many 59 = .ok (.iconst 0, 1) := by decide +kernel
theorem dX8_many_60 : decode cX8_many 60 = .ok (.putfield 40, 3) := by decide +kernel
theorem dX8_many_63 : decode cX8_many 63 = .ok (.iload_n 3, 1) := by decide +kernel
theorem dX8_many_64 : decode cX8_many 64 = .ok (.ireturn, 1) := by decide +kernel
theorem dX8_drop_0 : decode cX8_drop 0 = .ok (.aload_n 0, 1) := by decide +kernel
theorem dX8_drop_1 : decode cX8_drop 1 = .ok (.getfield 14, 3) := by decide +kernel
theorem dX8_drop_4 : decode cX8_drop 4 = .ok (.getfield 83, 3) := by decide +kernel
theorem dX8_drop_7 : decode cX8_drop 7 = .ok (.ifCond .gt 6, 3) := by decide +kernel
theorem dX8_drop_10 : decode cX8_drop 10 = .ok (.bipush (-3), 2) := by decide +kernel
theorem dX8_drop_12 : decode cX8_drop 12 = .ok (.ireturn, 1) := by decide +kernel
theorem dX8_drop_13 : decode cX8_drop 13 = .ok (.aload_n 0, 1) := by decide +kernel
theorem dX8_drop_14 : decode cX8_drop 14 = .ok (.getfield 14, 3) := by decide +kernel
theorem dX8_drop_17 : decode cX8_drop 17 = .ok (.dup, 1) := by decide +kernel
theorem dX8_drop_18 : decode cX8_drop 18 = .ok (.getfield 83, 3) := by decide +kernel
theorem dX8_drop_21 : decode cX8_drop 21 = .ok (.iconst 1, 1) := by decide +kernel
theorem dX8_drop_22 : decode cX8_drop 22 = .ok (.isub, 1) := by decide +kernel
theorem dX8_drop_23 : decode cX8_drop 23 = .ok (.putfield 83, 3) := by decide +kernel
theorem dX8_drop_26 : decode cX8_drop 26 = .ok (.aload_n 0, 1) := by decide +kernel
theorem dX8_drop_27 : decode cX8_drop 27 = .ok (.iconst 0, 1) := by decide +kernel
theorem dX8_drop_28 : decode cX8_drop 28 = .ok (.putfield 40, 3) := by decide +kernel
theorem dX8_drop_31 : decode cX8_drop 31 = .ok (.aload_n 0, 1) := by decide +kernel
theorem dX8_drop_32 : decode cX8_drop 32 = .ok (.getfield 14, 3) := by decide +kernel
theorem dX8_drop_35 : decode cX8_drop 35 = .ok (.getfield 83, 3) := by decide +kernel
theorem dX8_drop_38 : decode cX8_drop 38 = .ok (.ireturn, 1) := by decide +kernel
theorem dX8_gone_0 : decode cX8_gone 0 = .ok (.aload_n 0, 1) := by decide +kernel
theorem dX8_gone_1 : decode cX8_gone 1 = .ok (.getfield 14, 3) := by decide +kernel
theorem dX8_gone_4 : decode cX8_gone 4 = .ok (.iload_n 1, 1) := by decide +kernel
theorem dX8_gone_5 : decode cX8_gone 5 = .ok (.invokevirtual 103, 3) := by decide +kernel
theorem dX8_gone_8 : decode cX8_gone 8 = .ok (.ifCond .ne 5, 3) := by decide +kernel
theorem dX8_gone_11 : decode cX8_gone 11 = .ok (.iconst (-1), 1) := by decide +kernel
theorem dX8_gone_12 : decode cX8_gone 12 = .ok (.ireturn, 1) := by decide +kernel
theorem dX8_gone_13 : decode cX8_gone 13 = .ok (.aload_n 0, 1) := by decide +kernel
theorem dX8_gone_14 : decode cX8_gone 14 = .ok (.getfield 14, 3) := by decide +kernel
theorem dX8_gone_17 : decode cX8_gone 17 = .ok (.getfield 72, 3) := by decide +kernel
theorem dX8_gone_20 : decode cX8_gone 20 = .ok (.iload_n 1, 1) := by decide +kernel
theorem dX8_gone_21 : decode cX8_gone 21 = .ok (.baload, 1) := by decide +kernel
theorem dX8_gone_22 : decode cX8_gone 22 = .ok (.ifCond .eq 7, 3) := by decide +kernel
theorem dX8_gone_25 : decode cX8_gone 25 = .ok (.iconst 1, 1) := by decide +kernel
theorem dX8_gone_26 : decode cX8_gone 26 = .ok (.goto 4, 3) := by decide +kernel
theorem dX8_gone_29 : decode cX8_gone 29 = .ok (.iconst 0, 1) := by decide +kernel
theorem dX8_gone_30 : decode cX8_gone 30 = .ok (.istore_n 3, 1) := by decide +kernel
theorem dX8_gone_31 : decode cX8_gone 31 = .ok (.aload_n 0, 1) := by decide +kernel
theorem dX8_gone_32 : decode cX8_gone 32 = .ok (.getfield 14, 3) := by decide +kernel
theorem dX8_gone_35 : decode cX8_gone 35 = .ok (.getfield 72, 3) := by decide +kernel
theorem dX8_gone_38 : decode cX8_gone 38 = .ok (.iload_n 1, 1) := by decide +kernel
theorem dX8_gone_39 : decode cX8_gone 39 = .ok (.iload_n 2, 1) := by decide +kernel
theorem dX8_gone_40 : decode cX8_gone 40 = .ok (.bastore, 1) := by decide +kernel
theorem dX8_gone_41 : decode cX8_gone 41 = .ok (.aload_n 0, 1) := by decide +kernel
theorem dX8_gone_42 : decode cX8_gone 42 = .ok (.iconst 0, 1) := by decide +kernel
theorem dX8_gone_43 : decode cX8_gone 43 = .ok (.putfield 40, 3) := by decide +kernel
theorem dX8_gone_46 : decode cX8_gone 46 = .ok (.iload_n 3, 1) := by decide +kernel
theorem dX8_gone_47 : decode cX8_gone 47 = .ok (.ireturn, 1) := by decide +kernel
theorem dX8_set_0 : decode cX8_set 0 = .ok (.iload_n 1, 1) := by decide +kernel
theorem dX8_set_1 : decode cX8_set 1 = .ok (.tableswitch 92 0 2 #[27, 49, 70], 27) := by decide +kernel
theorem dX8_set_28 : decode cX8_set 28 = .ok (.iload_n 2, 1) := by decide +kernel
theorem dX8_set_29 : decode cX8_set 29 = .ok (.iconst 1, 1) := by decide +kernel
theorem dX8_set_30 : decode cX8_set 30 = .ok (.if_icmp .lt 9, 3) := by decide +kernel
theorem dX8_set_33 : decode cX8_set 33 = .ok (.iload_n 2, 1) := by decide +kernel
theorem dX8_set_34 : decode cX8_set 34 = .ok (.bipush 7, 2) := by decide +kernel
theorem dX8_set_36 : decode cX8_set 36 = .ok (.if_icmp .le 8, 3) := by decide +kernel
theorem dX8_set_39 : decode cX8_set 39 = .ok (.bipush (-2), 2) := by decide +kernel
theorem dX8_set_41 : decode cX8_set 41 = .ok (.goto 8, 3) := by decide +kernel
theorem dX8_set_44 : decode cX8_set 44 = .ok (.aload_n 0, 1) := by decide +kernel
theorem dX8_set_45 : decode cX8_set 45 = .ok (.iload_n 2, 1) := by decide +kernel
theorem dX8_set_46 : decode cX8_set 46 = .ok (.invokevirtual 106, 3) := by decide +kernel
theorem dX8_set_49 : decode cX8_set 49 = .ok (.ireturn, 1) := by decide +kernel
theorem dX8_set_50 : decode cX8_set 50 = .ok (.iload_n 2, 1) := by decide +kernel
theorem dX8_set_51 : decode cX8_set 51 = .ok (.ifCond .lt 9, 3) := by decide +kernel
theorem dX8_set_54 : decode cX8_set 54 = .ok (.iload_n 2, 1) := by decide +kernel
theorem dX8_set_55 : decode cX8_set 55 = .ok (.ldc 109, 2) := by decide +kernel
theorem dX8_set_57 : decode cX8_set 57 = .ok (.if_icmp .le 8, 3) := by decide +kernel
theorem dX8_set_60 : decode cX8_set 60 = .ok (.bipush (-2), 2) := by decide +kernel
theorem dX8_set_62 : decode cX8_set 62 = .ok (.goto 8, 3) := by decide +kernel
theorem dX8_set_65 : decode cX8_set 65 = .ok (.aload_n 0, 1) := by decide +kernel
theorem dX8_set_66 : decode cX8_set 66 = .ok (.iload_n 2, 1) := by decide +kernel
theorem dX8_set_67 : decode cX8_set 67 = .ok (.invokevirtual 110, 3) := by decide +kernel
theorem dX8_set_70 : decode cX8_set 70 = .ok (.ireturn, 1) := by decide +kernel
theorem dX8_set_71 : decode cX8_set 71 = .ok (.iload_n 2, 1) := by decide +kernel
theorem dX8_set_72 : decode cX8_set 72 = .ok (.iconst 1, 1) := by decide +kernel
theorem dX8_set_73 : decode cX8_set 73 = .ok (.if_icmp .lt 9, 3) := by decide +kernel
theorem dX8_set_76 : decode cX8_set 76 = .ok (.iload_n 2, 1) := by decide +kernel
theorem dX8_set_77 : decode cX8_set 77 = .ok (.bipush 20, 2) := by decide +kernel
theorem dX8_set_79 : decode cX8_set 79 = .ok (.if_icmp .le 8, 3) := by decide +kernel
theorem dX8_set_82 : decode cX8_set 82 = .ok (.bipush (-2), 2) := by decide +kernel
theorem dX8_set_84 : decode cX8_set 84 = .ok (.goto 8, 3) := by decide +kernel
theorem dX8_set_87 : decode cX8_set 87 = .ok (.aload_n 0, 1) := by decide +kernel
theorem dX8_set_88 : decode cX8_set 88 = .ok (.iload_n 2, 1) := by decide +kernel
theorem dX8_set_89 : decode cX8_set 89 = .ok (.invokevirtual 113, 3) := by decide +kernel
theorem dX8_set_92 : decode cX8_set 92 = .ok (.ireturn, 1) := by decide +kernel
theorem dX8_set_93 : decode cX8_set 93 = .ok (.iconst (-1), 1) := by decide +kernel
theorem dX8_set_94 : decode cX8_set 94 = .ok (.ireturn, 1) := by decide +kernel
theorem dX8_putSeats_0 : decode cX8_putSeats 0 = .ok (.aload_n 0, 1) := by decide +kernel
theorem dX8_putSeats_1 : decode cX8_putSeats 1 = .ok (.getfield 14, 3) := by decide +kernel
theorem dX8_putSeats_4 : decode cX8_putSeats 4 = .ok (.getfield 116, 3) := by decide +kernel
theorem dX8_putSeats_7 : decode cX8_putSeats 7 = .ok (.istore_n 2, 1) := by decide +kernel
theorem dX8_putSeats_8 : decode cX8_putSeats 8 = .ok (.aload_n 0, 1) := by decide +kernel
theorem dX8_putSeats_9 : decode cX8_putSeats 9 = .ok (.getfield 14, 3) := by decide +kernel
theorem dX8_putSeats_12 : decode cX8_putSeats 12 = .ok (.iload_n 1, 1) := by decide +kernel
theorem dX8_putSeats_13 : decode cX8_putSeats 13 = .ok (.putfield 116, 3) := by decide +kernel
theorem dX8_putSeats_16 : decode cX8_putSeats 16 = .ok (.aload_n 0, 1) := by decide +kernel
theorem dX8_putSeats_17 : decode cX8_putSeats 17 = .ok (.iconst 0, 1) := by decide +kernel
theorem dX8_putSeats_18 : decode cX8_putSeats 18 = .ok (.putfield 40, 3) := by decide +kernel
theorem dX8_putSeats_21 : decode cX8_putSeats 21 = .ok (.iload_n 2, 1) := by decide +kernel
theorem dX8_putSeats_22 : decode cX8_putSeats 22 = .ok (.ireturn, 1) := by decide +kernel
theorem dX8_putLimit_0 : decode cX8_putLimit 0 = .ok (.aload_n 0, 1) := by decide +kernel
theorem dX8_putLimit_1 : decode cX8_putLimit 1 = .ok (.getfield 14, 3) := by decide +kernel
theorem dX8_putLimit_4 : decode cX8_putLimit 4 = .ok (.getfield 119, 3) := by decide +kernel
theorem dX8_putLimit_7 : decode cX8_putLimit 7 = .ok (.istore_n 2, 1) := by decide +kernel
theorem dX8_putLimit_8 : decode cX8_putLimit 8 = .ok (.aload_n 0, 1) := by decide +kernel
theorem dX8_putLimit_9 : decode cX8_putLimit 9 = .ok (.getfield 14, 3) := by decide +kernel
theorem dX8_putLimit_12 : decode cX8_putLimit 12 = .ok (.iload_n 1, 1) := by decide +kernel
theorem dX8_putLimit_13 : decode cX8_putLimit 13 = .ok (.putfield 119, 3) := by decide +kernel
theorem dX8_putLimit_16 : decode cX8_putLimit 16 = .ok (.aload_n 0, 1) := by decide +kernel
theorem dX8_putLimit_17 : decode cX8_putLimit 17 = .ok (.iconst 0, 1) := by decide +kernel
theorem dX8_putLimit_18 : decode cX8_putLimit 18 = .ok (.putfield 40, 3) := by decide +kernel
theorem dX8_putLimit_21 : decode cX8_putLimit 21 = .ok (.iload_n 2, 1) := by decide +kernel
theorem dX8_putLimit_22 : decode cX8_putLimit 22 = .ok (.ireturn, 1) := by decide +kernel
theorem dX8_putRounds_0 : decode cX8_putRounds 0 = .ok (.aload_n 0, 1) := by decide +kernel
theorem dX8_putRounds_1 : decode cX8_putRounds 1 = .ok (.getfield 14, 3) := by decide +kernel
theorem dX8_putRounds_4 : decode cX8_putRounds 4 = .ok (.getfield 122, 3) := by decide +kernel
theorem dX8_putRounds_7 : decode cX8_putRounds 7 = .ok (.istore_n 2, 1) := by decide +kernel
theorem dX8_putRounds_8 : decode cX8_putRounds 8 = .ok (.aload_n 0, 1) := by decide +kernel
theorem dX8_putRounds_9 : decode cX8_putRounds 9 = .ok (.getfield 14, 3) := by decide +kernel
theorem dX8_putRounds_12 : decode cX8_putRounds 12 = .ok (.iload_n 1, 1) := by decide +kernel
theorem dX8_putRounds_13 : decode cX8_putRounds 13 = .ok (.putfield 122, 3) := by decide +kernel
theorem dX8_putRounds_16 : decode cX8_putRounds 16 = .ok (.aload_n 0, 1) := by decide +kernel
theorem dX8_putRounds_17 : decode cX8_putRounds 17 = .ok (.iconst 0, 1) := by decide +kernel
theorem dX8_putRounds_18 : decode cX8_putRounds 18 = .ok (.putfield 40, 3) := by decide +kernel
theorem dX8_putRounds_21 : decode cX8_putRounds 21 = .ok (.iload_n 2, 1) := by decide +kernel
theorem dX8_putRounds_22 : decode cX8_putRounds 22 = .ok (.ireturn, 1) := by decide +kernel
theorem dX8_swap_0 : decode cX8_swap 0 = .ok (.aload_n 0, 1) := by decide +kernel
theorem dX8_swap_1 : decode cX8_swap 1 = .ok (.getfield 14, 3) := by decide +kernel
theorem dX8_swap_4 : decode cX8_swap 4 = .ok (.iload_n 1, 1) := by decide +kernel
theorem dX8_swap_5 : decode cX8_swap 5 = .ok (.invokevirtual 103, 3) := by decide +kernel
theorem dX8_swap_8 : decode cX8_swap 8 = .ok (.ifCond .eq 19, 3) := by decide +kernel
theorem dX8_swap_11 : decode cX8_swap 11 = .ok (.aload_n 0, 1) := by decide +kernel
theorem dX8_swap_12 : decode cX8_swap 12 = .ok (.getfield 14, 3) := by decide +kernel
theorem dX8_swap_15 : decode cX8_swap 15 = .ok (.iload_n 2, 1) := by decide +kernel
theorem dX8_swap_16 : decode cX8_swap 16 = .ok (.invokevirtual 103, 3) := by decide +kernel
theorem dX8_swap_19 : decode cX8_swap 19 = .ok (.ifCond .eq 8, 3) := by decide +kernel
theorem dX8_swap_22 : decode cX8_swap 22 = .ok (.iload_n 1, 1) := by decide +kernel
theorem dX8_swap_23 : decode cX8_swap 23 = .ok (.iload_n 2, 1) := by decide +kernel
theorem dX8_swap_24 : decode cX8_swap 24 = .ok (.if_icmp .ne 5, 3) := by decide +kernel
theorem dX8_swap_27 : decode cX8_swap 27 = .ok (.iconst (-1), 1) := by decide +kernel
theorem dX8_swap_28 : decode cX8_swap 28 = .ok (.ireturn, 1) := by decide +kernel
theorem dX8_swap_29 : decode cX8_swap 29 = .ok (.aload_n 0, 1) := by decide +kernel
theorem dX8_swap_30 : decode cX8_swap 30 = .ok (.getfield 14, 3) := by decide +kernel
theorem dX8_swap_33 : decode cX8_swap 33 = .ok (.getfield 68, 3) := by decide +kernel
theorem dX8_swap_36 : decode cX8_swap 36 = .ok (.iload_n 1, 1) := by decide +kernel
theorem dX8_swap_37 : decode cX8_swap 37 = .ok (.iaload, 1) := by decide +kernel
theorem dX8_swap_38 : decode cX8_swap 38 = .ok (.istore_n 3, 1) := by decide +kernel
theorem dX8_swap_39 : decode cX8_swap 39 = .ok (.aload_n 0, 1) := by decide +kernel
theorem dX8_swap_40 : decode cX8_swap 40 = .ok (.getfield 14, 3) := by decide +kernel
theorem dX8_swap_43 : decode cX8_swap 43 = .ok (.getfield 68, 3) := by decide +kernel
theorem dX8_swap_46 : decode cX8_swap 46 = .ok (.iload_n 1, 1) := by decide +kernel
theorem dX8_swap_47 : decode cX8_swap 47 = .ok (.aload_n 0, 1) := by decide +kernel
theorem dX8_swap_48 : decode cX8_swap 48 = .ok (.getfield 14, 3) := by decide +kernel
theorem dX8_swap_51 : decode cX8_swap 51 = .ok (.getfield 68, 3) := by decide +kernel
theorem dX8_swap_54 : decode cX8_swap 54 = .ok (.iload_n 2, 1) := by decide +kernel
theorem dX8_swap_55 : decode cX8_swap 55 = .ok (.iaload, 1) := by decide +kernel
theorem dX8_swap_56 : decode cX8_swap 56 = .ok (.iastore, 1) := by decide +kernel
theorem dX8_swap_57 : decode cX8_swap 57 = .ok (.aload_n 0, 1) := by decide +kernel
theorem dX8_swap_58 : decode cX8_swap 58 = .ok (.getfield 14, 3) := by decide +kernel
theorem dX8_swap_61 : decode cX8_swap 61 = .ok (.getfield 68, 3) := by decide +kernel
theorem dX8_swap_64 : decode cX8_swap 64 = .ok (.iload_n 2, 1) := by decide +kernel
theorem dX8_swap_65 : decode cX8_swap 65 = .ok (.iload_n 3, 1) := by decide +kernel
theorem dX8_swap_66 : decode cX8_swap 66 = .ok (.iastore, 1) := by decide +kernel
theorem dX8_swap_67 : decode cX8_swap 67 = .ok (.aload_n 0, 1) := by decide +kernel
theorem dX8_swap_68 : decode cX8_swap 68 = .ok (.iconst 0, 1) := by decide +kernel
theorem dX8_swap_69 : decode cX8_swap 69 = .ok (.putfield 40, 3) := by decide +kernel
theorem dX8_swap_72 : decode cX8_swap 72 = .ok (.aload_n 0, 1) := by decide +kernel
theorem dX8_swap_73 : decode cX8_swap 73 = .ok (.getfield 14, 3) := by decide +kernel
theorem dX8_swap_76 : decode cX8_swap 76 = .ok (.getfield 68, 3) := by decide +kernel
theorem dX8_swap_79 : decode cX8_swap 79 = .ok (.iload_n 1, 1) := by decide +kernel
theorem dX8_swap_80 : decode cX8_swap 80 = .ok (.iaload, 1) := by decide +kernel
theorem dX8_swap_81 : decode cX8_swap 81 = .ok (.ireturn, 1) := by decide +kernel
theorem dX8_isOver_0 : decode cX8_isOver 0 = .ok (.aload_n 0, 1) := by decide +kernel
theorem dX8_isOver_1 : decode cX8_isOver 1 = .ok (.getfield 14, 3) := by decide +kernel
theorem dX8_isOver_4 : decode cX8_isOver 4 = .ok (.getfield 83, 3) := by decide +kernel
theorem dX8_isOver_7 : decode cX8_isOver 7 = .ok (.iconst 1, 1) := by decide +kernel
theorem dX8_isOver_8 : decode cX8_isOver 8 = .ok (.isub, 1) := by decide +kernel
theorem dX8_isOver_9 : decode cX8_isOver 9 = .ok (.iload_n 1, 1) := by decide +kernel
theorem dX8_isOver_10 : decode cX8_isOver 10 = .ok (.invokestatic 125, 3) := by decide +kernel
theorem dX8_isOver_13 : decode cX8_isOver 13 = .ok (.istore_n 3, 1) := by decide +kernel
theorem dX8_isOver_14 : decode cX8_isOver 14 = .ok (.lconst 0, 1) := by decide +kernel
theorem dX8_isOver_15 : decode cX8_isOver 15 = .ok (.lstore 4, 2) := by decide +kernel
theorem dX8_isOver_17 : decode cX8_isOver 17 = .ok (.iconst 0, 1) := by decide +kernel
theorem dX8_isOver_18 : decode cX8_isOver 18 = .ok (.istore 6, 2) := by decide +kernel
theorem dX8_isOver_20 : decode cX8_isOver 20 = .ok (.iload 6, 2) := by decide +kernel
theorem dX8_isOver_22 : decode cX8_isOver 22 = .ok (.iload_n 3, 1) := by decide +kernel
theorem dX8_isOver_23 : decode cX8_isOver 23 = .ok (.if_icmp .gt 90, 3) := by decide +kernel
theorem dX8_isOver_26 : decode cX8_isOver 26 = .ok (.iload 6, 2) := by decide +kernel
theorem dX8_isOver_28 : decode cX8_isOver 28 = .ok (.bipush 24, 2) := by decide +kernel
theorem dX8_isOver_30 : decode cX8_isOver 30 = .ok (.if_icmp .ge 83, 3) := by decide +kernel
theorem dX8_isOver_33 : decode cX8_isOver 33 = .ok (.lload 4, 2) := by decide +kernel
theorem dX8_isOver_35 : decode cX8_isOver 35 = .ok (.iload 6, 2) := by decide +kernel
theorem dX8_isOver_37 : decode cX8_isOver 37 = .ok (.iload_n 1, 1) := by decide +kernel
theorem dX8_isOver_38 : decode cX8_isOver 38 = .ok (.if_icmp .ne 8, 3) := by decide +kernel
theorem dX8_isOver_41 : decode cX8_isOver 41 = .ok (.iload_n 2, 1) := by decide +kernel
theorem dX8_isOver_42 : decode cX8_isOver 42 = .ok (.i2l, 1) := by decide +kernel
theorem dX8_isOver_43 : decode cX8_isOver 43 = .ok (.goto 14, 3) := by decide +kernel
theorem dX8_isOver_46 : decode cX8_isOver 46 = .ok (.aload_n 0, 1) := by decide +kernel
theorem dX8_isOver_47 : decode cX8_isOver 47 = .ok (.getfield 14, 3) := by decide +kernel
theorem dX8_isOver_50 : decode cX8_isOver 50 = .ok (.getfield 96, 3) := by decide +kernel
theorem dX8_isOver_53 : decode cX8_isOver 53 = .ok (.iload 6, 2) := by decide +kernel
theorem dX8_isOver_55 : decode cX8_isOver 55 = .ok (.iaload, 1) := by decide +kernel
theorem dX8_isOver_56 : decode cX8_isOver 56 = .ok (.i2l, 1) := by decide +kernel
theorem dX8_isOver_57 : decode cX8_isOver 57 = .ok (.ladd, 1) := by decide +kernel
theorem dX8_isOver_58 : decode cX8_isOver 58 = .ok (.lstore 4, 2) := by decide +kernel
theorem dX8_isOver_60 : decode cX8_isOver 60 = .ok (.lload 4, 2) := by decide +kernel
theorem dX8_isOver_62 : decode cX8_isOver 62 = .ok (.ldc2_w 131, 3) := by decide +kernel
theorem dX8_isOver_65 : decode cX8_isOver 65 = .ok (.lcmp, 1) := by decide +kernel
theorem dX8_isOver_66 : decode cX8_isOver 66 = .ok (.ifCond .le 41, 3) := by decide +kernel
theorem dX8_isOver_69 : decode cX8_isOver 69 = .ok (.aload_n 0, 1) := by decide +kernel
theorem dX8_isOver_70 : decode cX8_isOver 70 = .ok (.getfield 53, 3) := by decide +kernel
theorem dX8_isOver_73 : decode cX8_isOver 73 = .ok (.iconst 5, 1) := by decide +kernel
theorem dX8_isOver_74 : decode cX8_isOver 74 = .ok (.aload_n 0, 1) := by decide +kernel
theorem dX8_isOver_75 : decode cX8_isOver 75 = .ok (.getfield 14, 3) := by decide +kernel
theorem dX8_isOver_78 : decode cX8_isOver 78 = .ok (.getfield 83, 3) := by decide +kernel
theorem dX8_isOver_81 : decode cX8_isOver 81 = .ok (.invokevirtual 133, 3) := by decide +kernel
theorem dX8_isOver_84 : decode cX8_isOver 84 = .ok (.aload_n 0, 1) := by decide +kernel
theorem dX8_isOver_85 : decode cX8_isOver 85 = .ok (.getfield 53, 3) := by decide +kernel
theorem dX8_isOver_88 : decode cX8_isOver 88 = .ok (.bipush 6, 2) := by decide +kernel
theorem dX8_isOver_90 : decode cX8_isOver 90 = .ok (.iload 6, 2) := by decide +kernel
theorem dX8_isOver_92 : decode cX8_isOver 92 = .ok (.invokevirtual 137, 3) := by decide +kernel
theorem dX8_isOver_95 : decode cX8_isOver 95 = .ok (.aload_n 0, 1) := by decide +kernel
theorem dX8_isOver_96 : decode cX8_isOver 96 = .ok (.getfield 53, 3) := by decide +kernel
theorem dX8_isOver_99 : decode cX8_isOver 99 = .ok (.bipush 7, 2) := by decide +kernel
theorem dX8_isOver_101 : decode cX8_isOver 101 = .ok (.iconst 0, 1) := by decide +kernel
theorem dX8_isOver_102 : decode cX8_isOver 102 = .ok (.invokevirtual 137, 3) := by decide +kernel
theorem dX8_isOver_105 : decode cX8_isOver 105 = .ok (.iconst 1, 1) := by decide +kernel
theorem dX8_isOver_106 : decode cX8_isOver 106 = .ok (.ireturn, 1) := by decide +kernel
theorem dX8_isOver_107 : decode cX8_isOver 107 = .ok (.iinc 6 1, 3) := by decide +kernel
theorem dX8_isOver_110 : decode cX8_isOver 110 = .ok (.goto (-90), 3) := by decide +kernel
theorem dX8_isOver_113 : decode cX8_isOver 113 = .ok (.iconst 0, 1) := by decide +kernel
theorem dX8_isOver_114 : decode cX8_isOver 114 = .ok (.ireturn, 1) := by decide +kernel
theorem dX8_tallied_0 : decode cX8_tallied 0 = .ok (.aload_n 0, 1) := by decide +kernel
theorem dX8_tallied_1 : decode cX8_tallied 1 = .ok (.getfield 40, 3) := by decide +kernel
theorem dX8_tallied_4 : decode cX8_tallied 4 = .ok (.ifCond .ne 15, 3) := by decide +kernel
theorem dX8_tallied_7 : decode cX8_tallied 7 = .ok (.aload_n 0, 1) := by decide +kernel
theorem dX8_tallied_8 : decode cX8_tallied 8 = .ok (.getfield 33, 3) := by decide +kernel
theorem dX8_tallied_11 : decode cX8_tallied 11 = .ok (.invokevirtual 140, 3) := by decide +kernel
theorem dX8_tallied_14 : decode cX8_tallied 14 = .ok (.aload_n 0, 1) := by decide +kernel
theorem dX8_tallied_15 : decode cX8_tallied 15 = .ok (.iconst 1, 1) := by decide +kernel
theorem dX8_tallied_16 : decode cX8_tallied 16 = .ok (.putfield 40, 3) := by decide +kernel
theorem dX8_tallied_19 : decode cX8_tallied 19 = .ok (.aload_n 0, 1) := by decide +kernel
theorem dX8_tallied_20 : decode cX8_tallied 20 = .ok (.getfield 33, 3) := by decide +kernel
theorem dX8_tallied_23 : decode cX8_tallied 23 = .ok (.areturn, 1) := by decide +kernel
theorem dX8_of_0 : decode cX8_of 0 = .ok (.aload_n 0, 1) := by decide +kernel
theorem dX8_of_1 : decode cX8_of 1 = .ok (.getfield 14, 3) := by decide +kernel
theorem dX8_of_4 : decode cX8_of 4 = .ok (.iload_n 1, 1) := by decide +kernel
theorem dX8_of_5 : decode cX8_of 5 = .ok (.invokevirtual 103, 3) := by decide +kernel
theorem dX8_of_8 : decode cX8_of 8 = .ok (.ifCond .ne 5, 3) := by decide +kernel
theorem dX8_of_11 : decode cX8_of 11 = .ok (.iconst (-1), 1) := by decide +kernel
theorem dX8_of_12 : decode cX8_of 12 = .ok (.ireturn, 1) := by decide +kernel
theorem dX8_of_13 : decode cX8_of 13 = .ok (.iload_n 2, 1) := by decide +kernel
theorem dX8_of_14 : decode cX8_of 14 = .ok (.tableswitch 68 0 3 #[30, 40, 50, 59], 30) := by decide +kernel
theorem dX8_of_44 : decode cX8_of 44 = .ok (.aload_n 0, 1) := by decide +kernel
theorem dX8_of_45 : decode cX8_of 45 = .ok (.invokevirtual 143, 3) := by decide +kernel
theorem dX8_of_48 : decode cX8_of 48 = .ok (.getfield 147, 3) := by decide +kernel
theorem dX8_of_51 : decode cX8_of 51 = .ok (.iload_n 1, 1) := by decide +kernel
theorem dX8_of_52 : decode cX8_of 52 = .ok (.iaload, 1) := by decide +kernel
theorem dX8_of_53 : decode cX8_of 53 = .ok (.ireturn, 1) := by decide +kernel
theorem dX8_of_54 : decode cX8_of 54 = .ok (.aload_n 0, 1) := by decide +kernel
theorem dX8_of_55 : decode cX8_of 55 = .ok (.invokevirtual 143, 3) := by decide +kernel
theorem dX8_of_58 : decode cX8_of 58 = .ok (.getfield 150, 3) := by decide +kernel
theorem dX8_of_61 : decode cX8_of 61 = .ok (.iload_n 1, 1) := by decide +kernel
theorem dX8_of_62 : decode cX8_of 62 = .ok (.iaload, 1) := by decide +kernel
theorem dX8_of_63 : decode cX8_of 63 = .ok (.ireturn, 1) := by decide +kernel
theorem dX8_of_64 : decode cX8_of 64 = .ok (.aload_n 0, 1) := by decide +kernel
theorem dX8_of_65 : decode cX8_of 65 = .ok (.getfield 14, 3) := by decide +kernel
theorem dX8_of_68 : decode cX8_of 68 = .ok (.iload_n 1, 1) := by decide +kernel
theorem dX8_of_69 : decode cX8_of 69 = .ok (.invokevirtual 153, 3) := by decide +kernel
theorem dX8_of_72 : decode cX8_of 72 = .ok (.ireturn, 1) := by decide +kernel
theorem dX8_of_73 : decode cX8_of 73 = .ok (.aload_n 0, 1) := by decide +kernel
theorem dX8_of_74 : decode cX8_of 74 = .ok (.getfield 14, 3) := by decide +kernel
theorem dX8_of_77 : decode cX8_of 77 = .ok (.iload_n 1, 1) := by decide +kernel
theorem dX8_of_78 : decode cX8_of 78 = .ok (.invokevirtual 156, 3) := by decide +kernel
theorem dX8_of_81 : decode cX8_of 81 = .ok (.ireturn, 1) := by decide +kernel
theorem dX8_of_82 : decode cX8_of 82 = .ok (.iconst (-1), 1) := by decide +kernel
theorem dX8_of_83 : decode cX8_of 83 = .ok (.ireturn, 1) := by decide +kernel
theorem dX8_ballotOf_0 : decode cX8_ballotOf 0 = .ok (.aload_n 0, 1) := by decide +kernel
theorem dX8_ballotOf_1 : decode cX8_ballotOf 1 = .ok (.getfield 14, 3) := by decide +kernel
theorem dX8_ballotOf_4 : decode cX8_ballotOf 4 = .ok (.iload_n 1, 1) := by decide +kernel
theorem dX8_ballotOf_5 : decode cX8_ballotOf 5 = .ok (.invokevirtual 99, 3) := by decide +kernel
theorem dX8_ballotOf_8 : decode cX8_ballotOf 8 = .ok (.ifCond .ne 5, 3) := by decide +kernel
theorem dX8_ballotOf_11 : decode cX8_ballotOf 11 = .ok (.iconst (-1), 1) := by decide +kernel
theorem dX8_ballotOf_12 : decode cX8_ballotOf 12 = .ok (.ireturn, 1) := by decide +kernel
theorem dX8_ballotOf_13 : decode cX8_ballotOf 13 = .ok (.iload_n 2, 1) := by decide +kernel
theorem dX8_ballotOf_14 : decode cX8_ballotOf 14 = .ok (.tableswitch 58 0 2 #[26, 36, 49], 26) := by decide +kernel
theorem dX8_ballotOf_40 : decode cX8_ballotOf 40 = .ok (.aload_n 0, 1) := by decide +kernel
theorem dX8_ballotOf_41 : decode cX8_ballotOf 41 = .ok (.getfield 14, 3) := by decide +kernel
theorem dX8_ballotOf_44 : decode cX8_ballotOf 44 = .ok (.getfield 96, 3) := by decide +kernel
theorem dX8_ballotOf_47 : decode cX8_ballotOf 47 = .ok (.iload_n 1, 1) := by decide +kernel
theorem dX8_ballotOf_48 : decode cX8_ballotOf 48 = .ok (.iaload, 1) := by decide +kernel
theorem dX8_ballotOf_49 : decode cX8_ballotOf 49 = .ok (.ireturn, 1) := by decide +kernel
theorem dX8_ballotOf_50 : decode cX8_ballotOf 50 = .ok (.aload_n 0, 1) := by decide +kernel
theorem dX8_ballotOf_51 : decode cX8_ballotOf 51 = .ok (.getfield 14, 3) := by decide +kernel
theorem dX8_ballotOf_54 : decode cX8_ballotOf 54 = .ok (.getfield 89, 3) := by decide +kernel
theorem dX8_ballotOf_57 : decode cX8_ballotOf 57 = .ok (.iload_n 1, 1) := by decide +kernel
theorem dX8_ballotOf_58 : decode cX8_ballotOf 58 = .ok (.iaload, 1) := by decide +kernel
theorem dX8_ballotOf_59 : decode cX8_ballotOf 59 = .ok (.invokestatic 159, 3) := by decide +kernel
theorem dX8_ballotOf_62 : decode cX8_ballotOf 62 = .ok (.ireturn, 1) := by decide +kernel
theorem dX8_ballotOf_63 : decode cX8_ballotOf 63 = .ok (.aload_n 0, 1) := by decide +kernel
theorem dX8_ballotOf_64 : decode cX8_ballotOf 64 = .ok (.getfield 14, 3) := by decide +kernel
theorem dX8_ballotOf_67 : decode cX8_ballotOf 67 = .ok (.iload_n 1, 1) := by decide +kernel
theorem dX8_ballotOf_68 : decode cX8_ballotOf 68 = .ok (.invokevirtual 162, 3) := by decide +kernel
theorem dX8_ballotOf_71 : decode cX8_ballotOf 71 = .ok (.ireturn, 1) := by decide +kernel
theorem dX8_ballotOf_72 : decode cX8_ballotOf 72 = .ok (.iconst (-1), 1) := by decide +kernel
theorem dX8_ballotOf_73 : decode cX8_ballotOf 73 = .ok (.ireturn, 1) := by decide +kernel
theorem dX8_rowOf_0 : decode cX8_rowOf 0 = .ok (.aload_n 0, 1) := by decide +kernel
theorem dX8_rowOf_1 : decode cX8_rowOf 1 = .ok (.getfield 14, 3) := by decide +kernel
theorem dX8_rowOf_4 : decode cX8_rowOf 4 = .ok (.iload_n 1, 1) := by decide +kernel
theorem dX8_rowOf_5 : decode cX8_rowOf 5 = .ok (.invokevirtual 99, 3) := by decide +kernel
theorem dX8_rowOf_8 : decode cX8_rowOf 8 = .ok (.ifCond .ne 5, 3) := by decide +kernel
theorem dX8_rowOf_11 : decode cX8_rowOf 11 = .ok (.iconst (-1), 1) := by decide +kernel
theorem dX8_rowOf_12 : decode cX8_rowOf 12 = .ok (.ireturn, 1) := by decide +kernel
theorem dX8_rowOf_13 : decode cX8_rowOf 13 = .ok (.aload_n 0, 1) := by decide +kernel
theorem dX8_rowOf_14 : decode cX8_rowOf 14 = .ok (.getfield 14, 3) := by decide +kernel
theorem dX8_rowOf_17 : decode cX8_rowOf 17 = .ok (.getfield 89, 3) := by decide +kernel
theorem dX8_rowOf_20 : decode cX8_rowOf 20 = .ok (.iload_n 1, 1) := by decide +kernel
theorem dX8_rowOf_21 : decode cX8_rowOf 21 = .ok (.iaload, 1) := by decide +kernel
theorem dX8_rowOf_22 : decode cX8_rowOf 22 = .ok (.istore_n 3, 1) := by decide +kernel
theorem dX8_rowOf_23 : decode cX8_rowOf 23 = .ok (.iload_n 2, 1) := by decide +kernel
theorem dX8_rowOf_24 : decode cX8_rowOf 24 = .ok (.ifCond .lt 11, 3) := by decide +kernel
theorem dX8_rowOf_27 : decode cX8_rowOf 27 = .ok (.iload_n 2, 1) := by decide +kernel
theorem dX8_rowOf_28 : decode cX8_rowOf 28 = .ok (.iload_n 3, 1) := by decide +kernel
theorem dX8_rowOf_29 : decode cX8_rowOf 29 = .ok (.invokestatic 159, 3) := by decide +kernel
theorem dX8_rowOf_32 : decode cX8_rowOf 32 = .ok (.if_icmp .lt 7, 3) := by decide +kernel
theorem dX8_rowOf_35 : decode cX8_rowOf 35 = .ok (.iconst (-1), 1) := by decide +kernel
theorem dX8_rowOf_36 : decode cX8_rowOf 36 = .ok (.goto 8, 3) := by decide +kernel
theorem dX8_rowOf_39 : decode cX8_rowOf 39 = .ok (.iload_n 3, 1) := by decide +kernel
theorem dX8_rowOf_40 : decode cX8_rowOf 40 = .ok (.iload_n 2, 1) := by decide +kernel
theorem dX8_rowOf_41 : decode cX8_rowOf 41 = .ok (.invokestatic 165, 3) := by decide +kernel
theorem dX8_rowOf_44 : decode cX8_rowOf 44 = .ok (.ireturn, 1) := by decide +kernel
theorem dX8_told_0 : decode cX8_told 0 = .ok (.iload_n 1, 1) := by decide +kernel
theorem dX8_told_1 : decode cX8_told 1 = .ok (.tableswitch 127 0 8 #[51, 59, 67, 75, 83, 91, 99, 107, 116], 51) := by decide +kernel
theorem dX8_told_52 : decode cX8_told 52 = .ok (.aload_n 0, 1) := by decide +kernel
theorem dX8_told_53 : decode cX8_told 53 = .ok (.getfield 14, 3) := by decide +kernel
theorem dX8_told_56 : decode cX8_told 56 = .ok (.getfield 64, 3) := by decide +kernel
theorem dX8_told_59 : decode cX8_told 59 = .ok (.ireturn, 1) := by decide +kernel
theorem dX8_told_60 : decode cX8_told 60 = .ok (.aload_n 0, 1) := by decide +kernel
theorem dX8_told_61 : decode cX8_told 61 = .ok (.getfield 14, 3) := by decide +kernel
theorem dX8_told_64 : decode cX8_told 64 = .ok (.getfield 83, 3) := by decide +kernel
theorem dX8_told_67 : decode cX8_told 67 = .ok (.ireturn, 1) := by decide +kernel
theorem dX8_told_68 : decode cX8_told 68 = .ok (.aload_n 0, 1) := by decide +kernel
theorem dX8_told_69 : decode cX8_told 69 = .ok (.invokevirtual 143, 3) := by decide +kernel
theorem dX8_told_72 : decode cX8_told 72 = .ok (.getfield 168, 3) := by decide +kernel
theorem dX8_told_75 : decode cX8_told 75 = .ok (.ireturn, 1) := by decide +kernel
theorem dX8_told_76 : decode cX8_told 76 = .ok (.aload_n 0, 1) := by decide +kernel
theorem dX8_told_77 : decode cX8_told 77 = .ok (.getfield 14, 3) := by decide +kernel
theorem dX8_told_80 : decode cX8_told 80 = .ok (.getfield 116, 3) := by decide +kernel
theorem dX8_told_83 : decode cX8_told 83 = .ok (.ireturn, 1) := by decide +kernel
theorem dX8_told_84 : decode cX8_told 84 = .ok (.aload_n 0, 1) := by decide +kernel
theorem dX8_told_85 : decode cX8_told 85 = .ok (.getfield 14, 3) := by decide +kernel
theorem dX8_told_88 : decode cX8_told 88 = .ok (.getfield 119, 3) := by decide +kernel
theorem dX8_told_91 : decode cX8_told 91 = .ok (.ireturn, 1) := by decide +kernel
theorem dX8_told_92 : decode cX8_told 92 = .ok (.aload_n 0, 1) := by decide +kernel
theorem dX8_told_93 : decode cX8_told 93 = .ok (.getfield 14, 3) := by decide +kernel
theorem dX8_told_96 : decode cX8_told 96 = .ok (.getfield 122, 3) := by decide +kernel
theorem dX8_told_99 : decode cX8_told 99 = .ok (.ireturn, 1) := by decide +kernel
theorem dX8_told_100 : decode cX8_told 100 = .ok (.aload_n 0, 1) := by decide +kernel
theorem dX8_told_101 : decode cX8_told 101 = .ok (.invokevirtual 143, 3) := by decide +kernel
theorem dX8_told_104 : decode cX8_told 104 = .ok (.getfield 171, 3) := by decide +kernel
theorem dX8_told_107 : decode cX8_told 107 = .ok (.ireturn, 1) := by decide +kernel
theorem dX8_told_108 : decode cX8_told 108 = .ok (.aload_n 0, 1) := by decide +kernel
theorem dX8_told_109 : decode cX8_told 109 = .ok (.invokevirtual 143, 3) := by decide +kernel
theorem dX8_told_112 : decode cX8_told 112 = .ok (.iconst 2, 1) := by decide +kernel
theorem dX8_told_113 : decode cX8_told 113 = .ok (.invokevirtual 174, 3) := by decide +kernel
theorem dX8_told_116 : decode cX8_told 116 = .ok (.ireturn, 1) := by decide +kernel
theorem dX8_told_117 : decode cX8_told 117 = .ok (.aload_n 0, 1) := by decide +kernel
theorem dX8_told_118 : decode cX8_told 118 = .ok (.invokevirtual 143, 3) := by decide +kernel
theorem dX8_told_121 : decode cX8_told 121 = .ok (.getfield 177, 3) := by decide +kernel
theorem dX8_told_124 : decode cX8_told 124 = .ok (.getfield 181, 3) := by decide +kernel
theorem dX8_told_127 : decode cX8_told 127 = .ok (.ireturn, 1) := by decide +kernel
theorem dX8_told_128 : decode cX8_told 128 = .ok (.iconst (-1), 1) := by decide +kernel
theorem dX8_told_129 : decode cX8_told 129 = .ok (.ireturn, 1) := by decide +kernel
theorem dX8_stageOf_0 : decode cX8_stageOf 0 = .ok (.aload_n 0, 1) := by decide +kernel
theorem dX8_stageOf_1 : decode cX8_stageOf 1 = .ok (.invokevirtual 143, 3) := by decide +kernel
theorem dX8_stageOf_4 : decode cX8_stageOf 4 = .ok (.iload_n 1, 1) := by decide +kernel
theorem dX8_stageOf_5 : decode cX8_stageOf 5 = .ok (.invokevirtual 186, 3) := by decide +kernel
theorem dX8_stageOf_8 : decode cX8_stageOf 8 = .ok (.astore_n 3, 1) := by decide +kernel
theorem dX8_stageOf_9 : decode cX8_stageOf 9 = .ok (.aload_n 3, 1) := by decide +kernel
theorem dX8_stageOf_10 : decode cX8_stageOf 10 = .ok (.ifnonnull 5, 3) := by decide +kernel
theorem dX8_stageOf_13 : decode cX8_stageOf 13 = .ok (.iconst (-1), 1) := by decide +kernel
theorem dX8_stageOf_14 : decode cX8_stageOf 14 = .ok (.ireturn, 1) := by decide +kernel
theorem dX8_stageOf_15 : decode cX8_stageOf 15 = .ok (.iload_n 2, 1) := by decide +kernel
theorem dX8_stageOf_16 : decode cX8_stageOf 16 = .ok (.tableswitch 43 0 2 #[28, 33, 38], 28) := by decide +kernel
theorem dX8_stageOf_44 : decode cX8_stageOf 44 = .ok (.aload_n 3, 1) := by decide +kernel
theorem dX8_stageOf_45 : decode cX8_stageOf 45 = .ok (.getfield 190, 3) := by decide +kernel
theorem dX8_stageOf_48 : decode cX8_stageOf 48 = .ok (.ireturn, 1) := by decide +kernel
theorem dX8_stageOf_49 : decode cX8_stageOf 49 = .ok (.aload_n 3, 1) := by decide +kernel
theorem dX8_stageOf_50 : decode cX8_stageOf 50 = .ok (.getfield 193, 3) := by decide +kernel
theorem dX8_stageOf_53 : decode cX8_stageOf 53 = .ok (.ireturn, 1) := by decide +kernel
theorem dX8_stageOf_54 : decode cX8_stageOf 54 = .ok (.aload_n 3, 1) := by decide +kernel
theorem dX8_stageOf_55 : decode cX8_stageOf 55 = .ok (.getfield 196, 3) := by decide +kernel
theorem dX8_stageOf_58 : decode cX8_stageOf 58 = .ok (.ireturn, 1) := by decide +kernel
theorem dX8_stageOf_59 : decode cX8_stageOf 59 = .ok (.iconst (-1), 1) := by decide +kernel
theorem dX8_stageOf_60 : decode cX8_stageOf 60 = .ok (.ireturn, 1) := by decide +kernel
theorem dX8_amount_0 : decode cX8_amount 0 = .ok (.aload_n 0, 1) := by decide +kernel
theorem dX8_amount_1 : decode cX8_amount 1 = .ok (.invokevirtual 143, 3) := by decide +kernel
theorem dX8_amount_4 : decode cX8_amount 4 = .ok (.iload_n 1, 1) := by decide +kernel
theorem dX8_amount_5 : decode cX8_amount 5 = .ok (.invokevirtual 186, 3) := by decide +kernel
theorem dX8_amount_8 : decode cX8_amount 8 = .ok (.astore_n 3, 1) := by decide +kernel
theorem dX8_amount_9 : decode cX8_amount 9 = .ok (.aload_n 3, 1) := by decide +kernel
theorem dX8_amount_10 : decode cX8_amount 10 = .ok (.ifnonnull 7, 3) := by decide +kernel
theorem dX8_amount_13 : decode cX8_amount 13 = .ok (.ldc2_w 199, 3) := by decide +kernel
theorem dX8_amount_16 : decode cX8_amount 16 = .ok (.lreturn, 1) := by decide +kernel
theorem dX8_amount_17 : decode cX8_amount 17 = .ok (.iload_n 2, 1) := by decide +kernel
theorem dX8_amount_18 : decode cX8_amount 18 = .ok (.tableswitch 50 0 3 #[30, 35, 40, 45], 30) := by decide +kernel
theorem dX8_amount_48 : decode cX8_amount 48 = .ok (.aload_n 3, 1) := by decide +kernel
theorem dX8_amount_49 : decode cX8_amount 49 = .ok (.getfield 201, 3) := by decide +kernel
theorem dX8_amount_52 : decode cX8_amount 52 = .ok (.lreturn, 1) := by decide +kernel
theorem dX8_amount_53 : decode cX8_amount 53 = .ok (.aload_n 3, 1) := by decide +kernel
theorem dX8_amount_54 : decode cX8_amount 54 = .ok (.getfield 205, 3) := by decide +kernel
theorem dX8_amount_57 : decode cX8_amount 57 = .ok (.lreturn, 1) := by decide +kernel
theorem dX8_amount_58 : decode cX8_amount 58 = .ok (.aload_n 3, 1) := by decide +kernel
theorem dX8_amount_59 : decode cX8_amount 59 = .ok (.getfield 208, 3) := by decide +kernel
theorem dX8_amount_62 : decode cX8_amount 62 = .ok (.lreturn, 1) := by decide +kernel
theorem dX8_amount_63 : decode cX8_amount 63 = .ok (.aload_n 3, 1) := by decide +kernel
theorem dX8_amount_64 : decode cX8_amount 64 = .ok (.getfield 211, 3) := by decide +kernel
theorem dX8_amount_67 : decode cX8_amount 67 = .ok (.lreturn, 1) := by decide +kernel
theorem dX8_amount_68 : decode cX8_amount 68 = .ok (.ldc2_w 199, 3) := by decide +kernel
theorem dX8_amount_71 : decode cX8_amount 71 = .ok (.lreturn, 1) := by decide +kernel
theorem dX8_votes_0 : decode cX8_votes 0 = .ok (.aload_n 0, 1) := by decide +kernel
theorem dX8_votes_1 : decode cX8_votes 1 = .ok (.invokevirtual 143, 3) := by decide +kernel
theorem dX8_votes_4 : decode cX8_votes 4 = .ok (.iload_n 1, 1) := by decide +kernel
theorem dX8_votes_5 : decode cX8_votes 5 = .ok (.invokevirtual 186, 3) := by decide +kernel
theorem dX8_votes_8 : decode cX8_votes 8 = .ok (.astore 4, 2) := by decide +kernel
theorem dX8_votes_10 : decode cX8_votes 10 = .ok (.aload 4, 2) := by decide +kernel
theorem dX8_votes_12 : decode cX8_votes 12 = .ok (.ifnull 14, 3) := by decide +kernel
theorem dX8_votes_15 : decode cX8_votes 15 = .ok (.aload_n 0, 1) := by decide +kernel
theorem dX8_votes_16 : decode cX8_votes 16 = .ok (.getfield 14, 3) := by decide +kernel
theorem dX8_votes_19 : decode cX8_votes 19 = .ok (.iload_n 2, 1) := by decide +kernel
theorem dX8_votes_20 : decode cX8_votes 20 = .ok (.invokevirtual 103, 3) := by decide +kernel
theorem dX8_votes_23 : decode cX8_votes 23 = .ok (.ifCond .ne 7, 3) := by decide +kernel
theorem dX8_votes_26 : decode cX8_votes 26 = .ok (.ldc2_w 199, 3) := by decide +kernel
theorem dX8_votes_29 : decode cX8_votes 29 = .ok (.lreturn, 1) := by decide +kernel
theorem dX8_votes_30 : decode cX8_votes 30 = .ok (.iload_n 3, 1) := by decide +kernel
theorem dX8_votes_31 : decode cX8_votes 31 = .ok (.lookupswitch 41 #[(0, 25), (1, 33)], 25) := by decide +kernel
theorem dX8_votes_56 : decode cX8_votes 56 = .ok (.aload 4, 2) := by decide +kernel
theorem dX8_votes_58 : decode cX8_votes 58 = .ok (.getfield 214, 3) := by decide +kernel
theorem dX8_votes_61 : decode cX8_votes 61 = .ok (.iload_n 2, 1) := by decide +kernel
theorem dX8_votes_62 : decode cX8_votes 62 = .ok (.laload, 1) := by decide +kernel
theorem dX8_votes_63 : decode cX8_votes 63 = .ok (.lreturn, 1) := by decide +kernel
theorem dX8_votes_64 : decode cX8_votes 64 = .ok (.aload 4, 2) := by decide +kernel
theorem dX8_votes_66 : decode cX8_votes 66 = .ok (.getfield 218, 3) := by decide +kernel
theorem dX8_votes_69 : decode cX8_votes 69 = .ok (.iload_n 2, 1) := by decide +kernel
theorem dX8_votes_70 : decode cX8_votes 70 = .ok (.laload, 1) := by decide +kernel
theorem dX8_votes_71 : decode cX8_votes 71 = .ok (.lreturn, 1) := by decide +kernel
theorem dX8_votes_72 : decode cX8_votes 72 = .ok (.ldc2_w 199, 3) := by decide +kernel
theorem dX8_votes_75 : decode cX8_votes 75 = .ok (.lreturn, 1) := by decide +kernel
theorem dX8_elected_0 : decode cX8_elected 0 = .ok (.aload_n 0, 1) := by decide +kernel
theorem dX8_elected_1 : decode cX8_elected 1 = .ok (.invokevirtual 143, 3) := by decide +kernel
theorem dX8_elected_4 : decode cX8_elected 4 = .ok (.astore_n 2, 1) := by decide +kernel
theorem dX8_elected_5 : decode cX8_elected 5 = .ok (.iload_n 1, 1) := by decide +kernel
theorem dX8_elected_6 : decode cX8_elected 6 = .ok (.ifCond .lt 11, 3) := by decide +kernel
theorem dX8_elected_9 : decode cX8_elected 9 = .ok (.iload_n 1, 1) := by decide +kernel
theorem dX8_elected_10 : decode cX8_elected 10 = .ok (.aload_n 2, 1) := by decide +kernel
theorem dX8_elected_11 : decode cX8_elected 11 = .ok (.getfield 171, 3) := by decide +kernel
theorem dX8_elected_14 : decode cX8_elected 14 = .ok (.if_icmp .lt 8, 3) := by decide +kernel
theorem dX8_elected_17 : decode cX8_elected 17 = .ok (.bipush (-5), 2) := by decide +kernel
theorem dX8_elected_19 : decode cX8_elected 19 = .ok (.goto 9, 3) := by decide +kernel
theorem dX8_elected_22 : decode cX8_elected 22 = .ok (.aload_n 2, 1) := by decide +kernel
theorem dX8_elected_23 : decode cX8_elected 23 = .ok (.getfield 221, 3) := by decide +kernel
theorem dX8_elected_26 : decode cX8_elected 26 = .ok (.iload_n 1, 1) := by decide +kernel
theorem dX8_elected_27 : decode cX8_elected 27 = .ok (.iaload, 1) := by decide +kernel
theorem dX8_elected_28 : decode cX8_elected 28 = .ok (.ireturn, 1) := by decide +kernel
theorem dX8_ranked_0 : decode cX8_ranked 0 = .ok (.aload_n 0, 1) := by decide +kernel
theorem dX8_ranked_1 : decode cX8_ranked 1 = .ok (.getfield 14, 3) := by decide +kernel
theorem dX8_ranked_4 : decode cX8_ranked 4 = .ok (.iload_n 1, 1) := by decide +kernel
theorem dX8_ranked_5 : decode cX8_ranked 5 = .ok (.invokevirtual 103, 3) := by decide +kernel
theorem dX8_ranked_8 : decode cX8_ranked 8 = .ok (.ifCond .eq 14, 3) := by decide +kernel
theorem dX8_ranked_11 : decode cX8_ranked 11 = .ok (.aload_n 0, 1) := by decide +kernel
theorem dX8_ranked_12 : decode cX8_ranked 12 = .ok (.invokevirtual 143, 3) := by decide +kernel
theorem dX8_ranked_15 : decode cX8_ranked 15 = .ok (.iload_n 1, 1) := by decide +kernel
theorem dX8_ranked_16 : decode cX8_ranked 16 = .ok (.invokevirtual 224, 3) := by decide +kernel
theorem dX8_ranked_19 : decode cX8_ranked 19 = .ok (.goto 4, 3) := by decide +kernel
theorem dX8_ranked_22 : decode cX8_ranked 22 = .ok (.iconst (-1), 1) := by decide +kernel
theorem dX8_ranked_23 : decode cX8_ranked 23 = .ok (.ireturn, 1) := by decide +kernel
theorem dX8_standing_0 : decode cX8_standing 0 = .ok (.aload_n 0, 1) := by decide +kernel
theorem dX8_standing_1 : decode cX8_standing 1 = .ok (.invokevirtual 143, 3) := by decide +kernel
theorem dX8_standing_4 : decode cX8_standing 4 = .ok (.astore_n 3, 1) := by decide +kernel
theorem dX8_standing_5 : decode cX8_standing 5 = .ok (.aload_n 3, 1) := by decide +kernel
theorem dX8_standing_6 : decode cX8_standing 6 = .ok (.iload_n 1, 1) := by decide +kernel
theorem dX8_standing_7 : decode cX8_standing 7 = .ok (.invokevirtual 186, 3) := by decide +kernel
theorem dX8_standing_10 : decode cX8_standing 10 = .ok (.astore 4, 2) := by decide +kernel
theorem dX8_standing_12 : decode cX8_standing 12 = .ok (.aload 4, 2) := by decide +kernel
theorem dX8_standing_14 : decode cX8_standing 14 = .ok (.ifnull 14, 3) := by decide +kernel
theorem dX8_standing_17 : decode cX8_standing 17 = .ok (.aload_n 0, 1) := by decide +kernel
theorem dX8_standing_18 : decode cX8_standing 18 = .ok (.getfield 14, 3) := by decide +kernel
theorem dX8_standing_21 : decode cX8_standing 21 = .ok (.iload_n 2, 1) := by decide +kernel
theorem dX8_standing_22 : decode cX8_standing 22 = .ok (.invokevirtual 103, 3) := by decide +kernel
theorem dX8_standing_25 : decode cX8_standing 25 = .ok (.ifCond .ne 5, 3) := by decide +kernel
theorem dX8_standing_28 : decode cX8_standing 28 = .ok (.iconst (-1), 1) := by decide +kernel
theorem dX8_standing_29 : decode cX8_standing 29 = .ok (.ireturn, 1) := by decide +kernel
theorem dX8_standing_30 : decode cX8_standing 30 = .ok (.aload_n 3, 1) := by decide +kernel
theorem dX8_standing_31 : decode cX8_standing 31 = .ok (.aload 4, 2) := by decide +kernel
theorem dX8_standing_33 : decode cX8_standing 33 = .ok (.getfield 214, 3) := by decide +kernel
theorem dX8_standing_36 : decode cX8_standing 36 = .ok (.aload_n 3, 1) := by decide +kernel
theorem dX8_standing_37 : decode cX8_standing 37 = .ok (.invokevirtual 227, 3) := by decide +kernel
theorem dX8_standing_40 : decode cX8_standing 40 = .ok (.iload_n 2, 1) := by decide +kernel
theorem dX8_standing_41 : decode cX8_standing 41 = .ok (.invokevirtual 231, 3) := by decide +kernel
theorem dX8_standing_44 : decode cX8_standing 44 = .ok (.ireturn, 1) := by decide +kernel
theorem dX8_pile_0 : decode cX8_pile 0 = .ok (.aload_n 0, 1) := by decide +kernel
theorem dX8_pile_1 : decode cX8_pile 1 = .ok (.invokevirtual 143, 3) := by decide +kernel
theorem dX8_pile_4 : decode cX8_pile 4 = .ok (.getfield 177, 3) := by decide +kernel
theorem dX8_pile_7 : decode cX8_pile 7 = .ok (.astore_n 3, 1) := by decide +kernel
theorem dX8_pile_8 : decode cX8_pile 8 = .ok (.iload_n 1, 1) := by decide +kernel
theorem dX8_pile_9 : decode cX8_pile 9 = .ok (.ifCond .lt 11, 3) := by decide +kernel
theorem dX8_pile_12 : decode cX8_pile 12 = .ok (.iload_n 1, 1) := by decide +kernel
theorem dX8_pile_13 : decode cX8_pile 13 = .ok (.aload_n 3, 1) := by decide +kernel
theorem dX8_pile_14 : decode cX8_pile 14 = .ok (.getfield 181, 3) := by decide +kernel
theorem dX8_pile_17 : decode cX8_pile 17 = .ok (.if_icmp .lt 5, 3) := by decide +kernel
theorem dX8_pile_20 : decode cX8_pile 20 = .ok (.iconst (-1), 1) := by decide +kernel
theorem dX8_pile_21 : decode cX8_pile 21 = .ok (.ireturn, 1) := by decide +kernel
theorem dX8_pile_22 : decode cX8_pile 22 = .ok (.iload_n 2, 1) := by decide +kernel
theorem dX8_pile_23 : decode cX8_pile 23 = .ok (.lookupswitch 42 #[(0, 25), (1, 35)], 25) := by decide +kernel
theorem dX8_pile_48 : decode cX8_pile 48 = .ok (.aload_n 3, 1) := by decide +kernel
theorem dX8_pile_49 : decode cX8_pile 49 = .ok (.getfield 235, 3) := by decide +kernel
theorem dX8_pile_52 : decode cX8_pile 52 = .ok (.iload_n 1, 1) := by decide +kernel
theorem dX8_pile_53 : decode cX8_pile 53 = .ok (.iaload, 1) := by decide +kernel
theorem dX8_pile_54 : decode cX8_pile 54 = .ok (.invokestatic 236, 3) := by decide +kernel
theorem dX8_pile_57 : decode cX8_pile 57 = .ok (.ireturn, 1) := by decide +kernel
theorem dX8_pile_58 : decode cX8_pile 58 = .ok (.aload_n 3, 1) := by decide +kernel
theorem dX8_pile_59 : decode cX8_pile 59 = .ok (.getfield 239, 3) := by decide +kernel
theorem dX8_pile_62 : decode cX8_pile 62 = .ok (.iload_n 1, 1) := by decide +kernel
theorem dX8_pile_63 : decode cX8_pile 63 = .ok (.iaload, 1) := by decide +kernel
theorem dX8_pile_64 : decode cX8_pile 64 = .ok (.ireturn, 1) := by decide +kernel
theorem dX8_pile_65 : decode cX8_pile 65 = .ok (.iconst (-1), 1) := by decide +kernel
theorem dX8_pile_66 : decode cX8_pile 66 = .ok (.ireturn, 1) := by decide +kernel
theorem dX8_preferred_0 : decode cX8_preferred 0 = .ok (.aload_n 0, 1) := by decide +kernel
theorem dX8_preferred_1 : decode cX8_preferred 1 = .ok (.getfield 14, 3) := by decide +kernel
theorem dX8_preferred_4 : decode cX8_preferred 4 = .ok (.iload_n 1, 1) := by decide +kernel
theorem dX8_preferred_5 : decode cX8_preferred 5 = .ok (.invokevirtual 103, 3) := by decide +kernel
theorem dX8_preferred_8 : decode cX8_preferred 8 = .ok (.ifCond .eq 19, 3) := by decide +kernel
theorem dX8_preferred_11 : decode cX8_preferred 11 = .ok (.aload_n 0, 1) := by decide +kernel
theorem dX8_preferred_12 : decode cX8_preferred 12 = .ok (.getfield 14, 3) := by decide +kernel
theorem dX8_preferred_15 : decode cX8_preferred 15 = .ok (.iload_n 2, 1) := by decide +kernel
theorem dX8_preferred_16 : decode cX8_preferred 16 = .ok (.invokevirtual 103, 3) := by decide +kernel
theorem dX8_preferred_19 : decode cX8_preferred 19 = .ok (.ifCond .eq 8, 3) := by decide +kernel
theorem dX8_preferred_22 : decode cX8_preferred 22 = .ok (.iload_n 1, 1) := by decide +kernel
theorem dX8_preferred_23 : decode cX8_preferred 23 = .ok (.iload_n 2, 1) := by decide +kernel
theorem dX8_preferred_24 : decode cX8_preferred 24 = .ok (.if_icmp .ne 5, 3) := by decide +kernel
theorem dX8_preferred_27 : decode cX8_preferred 27 = .ok (.iconst (-1), 1) := by decide +kernel
theorem dX8_preferred_28 : decode cX8_preferred 28 = .ok (.ireturn, 1) := by decide +kernel
theorem dX8_preferred_29 : decode cX8_preferred 29 = .ok (.aload_n 0, 1) := by decide +kernel
theorem dX8_preferred_30 : decode cX8_preferred 30 = .ok (.getfield 14, 3) := by decide +kernel
theorem dX8_preferred_33 : decode cX8_preferred 33 = .ok (.iload_n 1, 1) := by decide +kernel
theorem dX8_preferred_34 : decode cX8_preferred 34 = .ok (.iload_n 2, 1) := by decide +kernel
theorem dX8_preferred_35 : decode cX8_preferred 35 = .ok (.invokevirtual 240, 3) := by decide +kernel
theorem dX8_preferred_38 : decode cX8_preferred 38 = .ok (.ireturn, 1) := by decide +kernel
theorem dX8_best_0 : decode cX8_best 0 = .ok (.iconst 0, 1) := by decide +kernel
theorem dX8_best_1 : decode cX8_best 1 = .ok (.istore_n 1, 1) := by decide +kernel
theorem dX8_best_2 : decode cX8_best 2 = .ok (.iload_n 1, 1) := by decide +kernel
theorem dX8_best_3 : decode cX8_best 3 = .ok (.aload_n 0, 1) := by decide +kernel
theorem dX8_best_4 : decode cX8_best 4 = .ok (.getfield 14, 3) := by decide +kernel
theorem dX8_best_7 : decode cX8_best 7 = .ok (.getfield 64, 3) := by decide +kernel
theorem dX8_best_10 : decode cX8_best 10 = .ok (.if_icmp .ge 31, 3) := by decide +kernel
theorem dX8_best_13 : decode cX8_best 13 = .ok (.aload_n 0, 1) := by decide +kernel
theorem dX8_best_14 : decode cX8_best 14 = .ok (.getfield 14, 3) := by decide +kernel
theorem dX8_best_17 : decode cX8_best 17 = .ok (.getfield 72, 3) := by decide +kernel
theorem dX8_best_20 : decode cX8_best 20 = .ok (.iload_n 1, 1) := by decide +kernel
theorem dX8_best_21 : decode cX8_best 21 = .ok (.baload, 1) := by decide +kernel
theorem dX8_best_22 : decode cX8_best 22 = .ok (.ifCond .ne 13, 3) := by decide +kernel
theorem dX8_best_25 : decode cX8_best 25 = .ok (.aload_n 0, 1) := by decide +kernel
theorem dX8_best_26 : decode cX8_best 26 = .ok (.iload_n 1, 1) := by decide +kernel
theorem dX8_best_27 : decode cX8_best 27 = .ok (.invokevirtual 243, 3) := by decide +kernel
theorem dX8_best_30 : decode cX8_best 30 = .ok (.ifCond .eq 5, 3) := by decide +kernel
theorem dX8_best_33 : decode cX8_best 33 = .ok (.iload_n 1, 1) := by decide +kernel
theorem dX8_best_34 : decode cX8_best 34 = .ok (.ireturn, 1) := by decide +kernel
theorem dX8_best_35 : decode cX8_best 35 = .ok (.iinc 1 1, 3) := by decide +kernel
theorem dX8_best_38 : decode cX8_best 38 = .ok (.goto (-36), 3) := by decide +kernel
theorem dX8_best_41 : decode cX8_best 41 = .ok (.bipush (-5), 2) := by decide +kernel
theorem dX8_best_43 : decode cX8_best 43 = .ok (.ireturn, 1) := by decide +kernel
theorem dX8_beatsAll_0 : decode cX8_beatsAll 0 = .ok (.iconst 0, 1) := by decide +kernel
theorem dX8_beatsAll_1 : decode cX8_beatsAll 1 = .ok (.istore_n 2, 1) := by decide +kernel
theorem dX8_beatsAll_2 : decode cX8_beatsAll 2 = .ok (.iload_n 2, 1) := by decide +kernel
theorem dX8_beatsAll_3 : decode cX8_beatsAll 3 = .ok (.aload_n 0, 1) := by decide +kernel
theorem dX8_beatsAll_4 : decode cX8_beatsAll 4 = .ok (.getfield 14, 3) := by decide +kernel
theorem dX8_beatsAll_7 : decode cX8_beatsAll 7 = .ok (.getfield 64, 3) := by decide +kernel
theorem dX8_beatsAll_10 : decode cX8_beatsAll 10 = .ok (.if_icmp .ge 59, 3) := by decide +kernel
theorem dX8_beatsAll_13 : decode cX8_beatsAll 13 = .ok (.iload_n 2, 1) := by decide +kernel
theorem dX8_beatsAll_14 : decode cX8_beatsAll 14 = .ok (.iload_n 1, 1) := by decide +kernel
theorem dX8_beatsAll_15 : decode cX8_beatsAll 15 = .ok (.if_icmp .eq 19, 3) := by decide +kernel
theorem dX8_beatsAll_18 : decode cX8_beatsAll 18 = .ok (.aload_n 0, 1) := by decide +kernel
theorem dX8_beatsAll_19 : decode cX8_beatsAll 19 = .ok (.getfield 14, 3) := by decide +kernel
theorem dX8_beatsAll_22 : decode cX8_beatsAll 22 = .ok (.getfield 72, 3) := by decide +kernel
theorem dX8_beatsAll_25 : decode cX8_beatsAll 25 = .ok (.iload_n 2, 1) := by decide +kernel
theorem dX8_beatsAll_26 : decode cX8_beatsAll 26 = .ok (.baload, 1) := by decide +kernel
theorem dX8_beatsAll_27 : decode cX8_beatsAll 27 = .ok (.ifCond .ne 7, 3) := by decide +kernel
theorem dX8_beatsAll_30 : decode cX8_beatsAll 30 = .ok (.iconst 1, 1) := by decide +kernel
theorem dX8_beatsAll_31 : decode cX8_beatsAll 31 = .ok (.goto 4, 3) := by decide +kernel
theorem dX8_beatsAll_34 : decode cX8_beatsAll 34 = .ok (.iconst 0, 1) := by decide +kernel
theorem dX8_beatsAll_35 : decode cX8_beatsAll 35 = .ok (.istore_n 3, 1) := by decide +kernel
theorem dX8_beatsAll_36 : decode cX8_beatsAll 36 = .ok (.iload_n 3, 1) := by decide +kernel
theorem dX8_beatsAll_37 : decode cX8_beatsAll 37 = .ok (.ifCond .eq 26, 3) := by decide +kernel
theorem dX8_beatsAll_40 : decode cX8_beatsAll 40 = .ok (.aload_n 0, 1) := by decide +kernel
theorem dX8_beatsAll_41 : decode cX8_beatsAll 41 = .ok (.getfield 14, 3) := by decide +kernel
theorem dX8_beatsAll_44 : decode cX8_beatsAll 44 = .ok (.iload_n 1, 1) := by decide +kernel
theorem dX8_beatsAll_45 : decode cX8_beatsAll 45 = .ok (.iload_n 2, 1) := by decide +kernel
theorem dX8_beatsAll_46 : decode cX8_beatsAll 46 = .ok (.invokevirtual 240, 3) := by decide +kernel
theorem dX8_beatsAll_49 : decode cX8_beatsAll 49 = .ok (.aload_n 0, 1) := by decide +kernel
theorem dX8_beatsAll_50 : decode cX8_beatsAll 50 = .ok (.getfield 14, 3) := by decide +kernel
theorem dX8_beatsAll_53 : decode cX8_beatsAll 53 = .ok (.iload_n 2, 1) := by decide +kernel
theorem dX8_beatsAll_54 : decode cX8_beatsAll 54 = .ok (.iload_n 1, 1) := by decide +kernel
theorem dX8_beatsAll_55 : decode cX8_beatsAll 55 = .ok (.invokevirtual 240, 3) := by decide +kernel
theorem dX8_beatsAll_58 : decode cX8_beatsAll 58 = .ok (.if_icmp .gt 5, 3) := by decide +kernel
theorem dX8_beatsAll_61 : decode cX8_beatsAll 61 = .ok (.iconst 0, 1) := by decide +kernel
theorem dX8_beatsAll_62 : decode cX8_beatsAll 62 = .ok (.ireturn, 1) := by decide +kernel
theorem dX8_beatsAll_63 : decode cX8_beatsAll 63 = .ok (.iinc 2 1, 3) := by decide +kernel
theorem dX8_beatsAll_66 : decode cX8_beatsAll 66 = .ok (.goto (-64), 3) := by decide +kernel
theorem dX8_beatsAll_69 : decode cX8_beatsAll 69 = .ok (.iconst 1, 1) := by decide +kernel
theorem dX8_beatsAll_70 : decode cX8_beatsAll 70 = .ok (.ireturn, 1) := by decide +kernel
theorem dX8_share_0 : decode cX8_share 0 = .ok (.aload_n 0, 1) := by decide +kernel
theorem dX8_share_1 : decode cX8_share 1 = .ok (.invokevirtual 143, 3) := by decide +kernel
theorem dX8_share_4 : decode cX8_share 4 = .ok (.iload_n 1, 1) := by decide +kernel
theorem dX8_share_5 : decode cX8_share 5 = .ok (.invokevirtual 186, 3) := by decide +kernel
theorem dX8_share_8 : decode cX8_share 8 = .ok (.astore 4, 2) := by decide +kernel
theorem dX8_share_10 : decode cX8_share 10 = .ok (.aload 4, 2) := by decide +kernel
theorem dX8_share_12 : decode cX8_share 12 = .ok (.ifnull 23, 3) := by decide +kernel
theorem dX8_share_15 : decode cX8_share 15 = .ok (.aload_n 0, 1) := by decide +kernel
theorem dX8_share_16 : decode cX8_share 16 = .ok (.getfield 14, 3) := by decide +kernel
theorem dX8_share_19 : decode cX8_share 19 = .ok (.iload_n 2, 1) := by decide +kernel
theorem dX8_share_20 : decode cX8_share 20 = .ok (.invokevirtual 103, 3) := by decide +kernel
theorem dX8_share_23 : decode cX8_share 23 = .ok (.ifCond .eq 12, 3) := by decide +kernel
theorem dX8_share_26 : decode cX8_share 26 = .ok (.iload_n 3, 1) := by decide +kernel
theorem dX8_share_27 : decode cX8_share 27 = .ok (.ifCond .lt 8, 3) := by decide +kernel
theorem dX8_share_30 : decode cX8_share 30 = .ok (.iload_n 3, 1) := by decide +kernel
theorem dX8_share_31 : decode cX8_share 31 = .ok (.iconst 1, 1) := by decide +kernel
theorem dX8_share_32 : decode cX8_share 32 = .ok (.if_icmp .le 7, 3) := by decide +kernel
theorem dX8_share_35 : decode cX8_share 35 = .ok (.ldc2_w 199, 3) := by decide +kernel
theorem dX8_share_38 : decode cX8_share 38 = .ok (.lreturn, 1) := by decide +kernel
theorem dX8_share_39 : decode cX8_share 39 = .ok (.aload 4, 2) := by decide +kernel
theorem dX8_share_41 : decode cX8_share 41 = .ok (.getfield 214, 3) := by decide +kernel
theorem dX8_share_44 : decode cX8_share 44 = .ok (.iload_n 2, 1) := by decide +kernel
theorem dX8_share_45 : decode cX8_share 45 = .ok (.laload, 1) := by decide +kernel
theorem dX8_share_46 : decode cX8_share 46 = .ok (.lstore 5, 2) := by decide +kernel
theorem dX8_share_48 : decode cX8_share 48 = .ok (.lload 5, 2) := by decide +kernel
theorem dX8_share_50 : decode cX8_share 50 = .ok (.lconst 0, 1) := by decide +kernel
theorem dX8_share_51 : decode cX8_share 51 = .ok (.lcmp, 1) := by decide +kernel
theorem dX8_share_52 : decode cX8_share 52 = .ok (.ifCond .ne 6, 3) := by decide +kernel
theorem dX8_share_55 : decode cX8_share 55 = .ok (.iload_n 3, 1) := by decide +kernel
theorem dX8_share_56 : decode cX8_share 56 = .ok (.i2l, 1) := by decide +kernel
theorem dX8_share_57 : decode cX8_share 57 = .ok (.lreturn, 1) := by decide +kernel
theorem dX8_share_58 : decode cX8_share 58 = .ok (.lload 5, 2) := by decide +kernel
theorem dX8_share_60 : decode cX8_share 60 = .ok (.aload 4, 2) := by decide +kernel
theorem dX8_share_62 : decode cX8_share 62 = .ok (.getfield 211, 3) := by decide +kernel
theorem dX8_share_65 : decode cX8_share 65 = .ok (.invokestatic 246, 3) := by decide +kernel
theorem dX8_share_68 : decode cX8_share 68 = .ok (.lstore 7, 2) := by decide +kernel
theorem dX8_share_70 : decode cX8_share 70 = .ok (.iload_n 3, 1) := by decide +kernel
theorem dX8_share_71 : decode cX8_share 71 = .ok (.ifCond .ne 8, 3) := by decide +kernel
theorem dX8_share_74 : decode cX8_share 74 = .ok (.lload 5, 2) := by decide +kernel
theorem dX8_share_76 : decode cX8_share 76 = .ok (.goto 8, 3) := by decide +kernel
theorem dX8_share_79 : decode cX8_share 79 = .ok (.aload 4, 2) := by decide +kernel
theorem dX8_share_81 : decode cX8_share 81 = .ok (.getfield 211, 3) := by decide +kernel
theorem dX8_share_84 : decode cX8_share 84 = .ok (.lload 7, 2) := by decide +kernel
theorem dX8_share_86 : decode cX8_share 86 = .ok (.invokestatic 250, 3) := by decide +kernel
theorem dX8_share_89 : decode cX8_share 89 = .ok (.lreturn, 1) := by decide +kernel
theorem dX8_commonDivisor_0 : decode cX8_commonDivisor 0 = .ok (.lload_n 0, 1) := by decide +kernel
theorem dX8_commonDivisor_1 : decode cX8_commonDivisor 1 = .ok (.lstore 4, 2) := by decide +kernel
theorem dX8_commonDivisor_3 : decode cX8_commonDivisor 3 = .ok (.lload_n 2, 1) := by decide +kernel
theorem dX8_commonDivisor_4 : decode cX8_commonDivisor 4 = .ok (.lstore 6, 2) := by decide +kernel
theorem dX8_commonDivisor_6 : decode cX8_commonDivisor 6 = .ok (.iconst 0, 1) := by decide +kernel
theorem dX8_commonDivisor_7 : decode cX8_commonDivisor 7 = .ok (.istore 8, 2) := by decide +kernel
theorem dX8_commonDivisor_9 : decode cX8_commonDivisor 9 = .ok (.iload 8, 2) := by decide +kernel
theorem dX8_commonDivisor_11 : decode cX8_commonDivisor 11 = .ok (.sipush 1000, 3) := by decide +kernel
theorem dX8_commonDivisor_14 : decode cX8_commonDivisor 14 = .ok (.if_icmp .ge 31, 3) := by decide +kernel
theorem dX8_commonDivisor_17 : decode cX8_commonDivisor 17 = .ok (.lload 6, 2) := by decide +kernel
theorem dX8_commonDivisor_19 : decode cX8_commonDivisor 19 = .ok (.lconst 0, 1) := by decide +kernel
theorem dX8_commonDivisor_20 : decode cX8_commonDivisor 20 = .ok (.lcmp, 1) := by decide +kernel
theorem dX8_commonDivisor_21 : decode cX8_commonDivisor 21 = .ok (.ifCond .le 24, 3) := by decide +kernel
theorem dX8_commonDivisor_24 : decode cX8_commonDivisor 24 = .ok (.lload 4, 2) := by decide +kernel
theorem dX8_commonDivisor_26 : decode cX8_commonDivisor 26 = .ok (.lload 6, 2) := by decide +kernel
theorem dX8_commonDivisor_28 : decode cX8_commonDivisor 28 = .ok (.lrem, 1) := by decide +kernel
theorem dX8_commonDivisor_29 : decode cX8_commonDivisor 29 = .ok (.lstore 9, 2) := by decide +kernel
theorem dX8_commonDivisor_31 : decode cX8_commonDivisor 31 = .ok (.lload 6, 2) := by decide +kernel
theorem dX8_commonDivisor_33 : decode cX8_commonDivisor 33 = .ok (.lstore 4, 2) := by decide +kernel
theorem dX8_commonDivisor_35 : decode cX8_commonDivisor 35 = .ok (.lload 9, 2) := by decide +kernel
theorem dX8_commonDivisor_37 : decode cX8_commonDivisor 37 = .ok (.lstore 6, 2) := by decide +kernel
theorem dX8_commonDivisor_39 : decode cX8_commonDivisor 39 = .ok (.iinc 8 1, 3) := by decide +kernel
theorem dX8_commonDivisor_42 : decode cX8_commonDivisor 42 = .ok (.goto (-33), 3) := by decide +kernel
theorem dX8_commonDivisor_45 : decode cX8_commonDivisor 45 = .ok (.lload 4, 2) := by decide +kernel
theorem dX8_commonDivisor_47 : decode cX8_commonDivisor 47 = .ok (.lreturn, 1) := by decide +kernel
theorem dX8_cut_0 : decode cX8_cut 0 = .ok (.lload_n 2, 1) := by decide +kernel
theorem dX8_cut_1 : decode cX8_cut 1 = .ok (.lconst 0, 1) := by decide +kernel
theorem dX8_cut_2 : decode cX8_cut 2 = .ok (.lcmp, 1) := by decide +kernel
theorem dX8_cut_3 : decode cX8_cut 3 = .ok (.ifCond .le 9, 3) := by decide +kernel
theorem dX8_cut_6 : decode cX8_cut 6 = .ok (.lload_n 0, 1) := by decide +kernel
theorem dX8_cut_7 : decode cX8_cut 7 = .ok (.lload_n 2, 1) := by decide +kernel
theorem dX8_cut_8 : decode cX8_cut 8 = .ok (.ldiv, 1) := by decide +kernel
theorem dX8_cut_9 : decode cX8_cut 9 = .ok (.goto 4, 3) := by decide +kernel
theorem dX8_cut_12 : decode cX8_cut 12 = .ok (.lconst 0, 1) := by decide +kernel
theorem dX8_cut_13 : decode cX8_cut 13 = .ok (.lreturn, 1) := by decide +kernel
theorem dX8_electedInThought_0 : decode cX8_electedInThought 0 = .ok (.aload_n 0, 1) := by decide +kernel
theorem dX8_electedInThought_1 : decode cX8_electedInThought 1 = .ok (.getfield 37, 3) := by decide +kernel
theorem dX8_electedInThought_4 : decode cX8_electedInThought 4 = .ok (.invokevirtual 140, 3) := by decide +kernel
theorem dX8_electedInThought_7 : decode cX8_electedInThought 7 = .ok (.aload_n 0, 1) := by decide +kernel
theorem dX8_electedInThought_8 : decode cX8_electedInThought 8 = .ok (.getfield 37, 3) := by decide +kernel
theorem dX8_electedInThought_11 : decode cX8_electedInThought 11 = .ok (.iconst 2, 1) := by decide +kernel
theorem dX8_electedInThought_12 : decode cX8_electedInThought 12 = .ok (.invokevirtual 174, 3) := by decide +kernel
theorem dX8_electedInThought_15 : decode cX8_electedInThought 15 = .ok (.ireturn, 1) := by decide +kernel
theorem dX8_without_0 : decode cX8_without 0 = .ok (.aload_n 0, 1) := by decide +kernel
theorem dX8_without_1 : decode cX8_without 1 = .ok (.getfield 14, 3) := by decide +kernel
theorem dX8_without_4 : decode cX8_without 4 = .ok (.iload_n 1, 1) := by decide +kernel
theorem dX8_without_5 : decode cX8_without 5 = .ok (.invokevirtual 103, 3) := by decide +kernel
theorem dX8_without_8 : decode cX8_without 8 = .ok (.ifCond .ne 5, 3) := by decide +kernel
end
