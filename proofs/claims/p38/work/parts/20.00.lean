theorem dX12_adds_0 : decode cX12_adds 0 = .ok (.aload_n 0, 1) := by decide +kernel
theorem dX12_adds_1 : decode cX12_adds 1 = .ok (.getfield 9, 3) := by decide +kernel
theorem dX12_adds_11 : decode cX12_adds 11 = .ok (.aload_n 0, 1) := by decide +kernel
theorem dX12_adds_12 : decode cX12_adds 12 = .ok (.getfield 9, 3) := by decide +kernel
theorem dX12_adds_15 : decode cX12_adds 15 = .ok (.bipush 16, 2) := by decide +kernel
theorem dX12_adds_17 : decode cX12_adds 17 = .ok (.iload_n 1, 1) := by decide +kernel
theorem dX12_adds_18 : decode cX12_adds 18 = .ok (.iadd, 1) := by decide +kernel
theorem dX12_adds_19 : decode cX12_adds 19 = .ok (.iaload, 1) := by decide +kernel
theorem dX12_adds_20 : decode cX12_adds 20 = .ok (.iload_n 2, 1) := by decide +kernel
theorem dX12_adds_21 : decode cX12_adds 21 = .ok (.iadd, 1) := by decide +kernel
theorem dX12_adds_22 : decode cX12_adds 22 = .ok (.invokestatic 309, 3) := by decide +kernel
theorem dX12_adds_25 : decode cX12_adds 25 = .ok (.invokestatic 311, 3) := by decide +kernel
theorem dX12_adds_28 : decode cX12_adds 28 = .ok (.iastore, 1) := by decide +kernel
theorem dX12_adds_29 : decode cX12_adds 29 = .ok (.return_, 1) := by decide +kernel
theorem dX12_adds_4 : decode cX12_adds 4 = .ok (.bipush 16, 2) := by decide +kernel
theorem dX12_adds_6 : decode cX12_adds 6 = .ok (.iload_n 1, 1) := by decide +kernel
theorem dX12_adds_7 : decode cX12_adds 7 = .ok (.iadd, 1) := by decide +kernel
theorem dX12_adds_8 : decode cX12_adds 8 = .ok (.iconst 0, 1) := by decide +kernel
theorem dX12_adds_9 : decode cX12_adds 9 = .ok (.bipush 99, 2) := by decide +kernel
theorem dX12_areUnlike_0 : decode cX12_areUnlike 0 = .ok (.aload_n 0, 1) := by decide +kernel
theorem dX12_areUnlike_1 : decode cX12_areUnlike 1 = .ok (.getfield 66, 3) := by decide +kernel
theorem dX12_areUnlike_11 : decode cX12_areUnlike 11 = .ok (.invokestatic 137, 3) := by decide +kernel
theorem dX12_areUnlike_14 : decode cX12_areUnlike 14 = .ok (.ifCond .ne 5, 3) := by decide +kernel
theorem dX12_areUnlike_17 : decode cX12_areUnlike 17 = .ok (.iconst 0, 1) := by decide +kernel
theorem dX12_areUnlike_18 : decode cX12_areUnlike 18 = .ok (.ireturn, 1) := by decide +kernel
theorem dX12_areUnlike_19 : decode cX12_areUnlike 19 = .ok (.iconst 0, 1) := by decide +kernel
theorem dX12_areUnlike_20 : decode cX12_areUnlike 20 = .ok (.istore_n 2, 1) := by decide +kernel
theorem dX12_areUnlike_21 : decode cX12_areUnlike 21 = .ok (.iload_n 2, 1) := by decide +kernel
theorem dX12_areUnlike_22 : decode cX12_areUnlike 22 = .ok (.aload_n 0, 1) := by decide +kernel
theorem dX12_areUnlike_23 : decode cX12_areUnlike 23 = .ok (.getfield 66, 3) := by decide +kernel
theorem dX12_areUnlike_26 : decode cX12_areUnlike 26 = .ok (.iload_n 1, 1) := by decide +kernel
theorem dX12_areUnlike_27 : decode cX12_areUnlike 27 = .ok (.iaload, 1) := by decide +kernel
theorem dX12_areUnlike_28 : decode cX12_areUnlike 28 = .ok (.if_icmp .ge 70, 3) := by decide +kernel
theorem dX12_areUnlike_31 : decode cX12_areUnlike 31 = .ok (.aload_n 0, 1) := by decide +kernel
theorem dX12_areUnlike_32 : decode cX12_areUnlike 32 = .ok (.aload_n 0, 1) := by decide +kernel
theorem dX12_areUnlike_33 : decode cX12_areUnlike 33 = .ok (.getfield 69, 3) := by decide +kernel
theorem dX12_areUnlike_36 : decode cX12_areUnlike 36 = .ok (.bipush 30, 2) := by decide +kernel
theorem dX12_areUnlike_38 : decode cX12_areUnlike 38 = .ok (.iload_n 1, 1) := by decide +kernel
theorem dX12_areUnlike_39 : decode cX12_areUnlike 39 = .ok (.imul, 1) := by decide +kernel
theorem dX12_areUnlike_4 : decode cX12_areUnlike 4 = .ok (.iload_n 1, 1) := by decide +kernel
theorem dX12_areUnlike_40 : decode cX12_areUnlike 40 = .ok (.iload_n 2, 1) := by decide +kernel
theorem dX12_areUnlike_41 : decode cX12_areUnlike 41 = .ok (.iadd, 1) := by decide +kernel
theorem dX12_areUnlike_42 : decode cX12_areUnlike 42 = .ok (.laload, 1) := by decide +kernel
theorem dX12_areUnlike_43 : decode cX12_areUnlike 43 = .ok (.invokevirtual 335, 3) := by decide +kernel
theorem dX12_areUnlike_46 : decode cX12_areUnlike 46 = .ok (.ifCond .ne 5, 3) := by decide +kernel
theorem dX12_areUnlike_49 : decode cX12_areUnlike 49 = .ok (.iconst 0, 1) := by decide +kernel
theorem dX12_areUnlike_5 : decode cX12_areUnlike 5 = .ok (.iaload, 1) := by decide +kernel
theorem dX12_areUnlike_50 : decode cX12_areUnlike 50 = .ok (.ireturn, 1) := by decide +kernel
theorem dX12_areUnlike_51 : decode cX12_areUnlike 51 = .ok (.iconst 0, 1) := by decide +kernel
theorem dX12_areUnlike_52 : decode cX12_areUnlike 52 = .ok (.istore_n 3, 1) := by decide +kernel
theorem dX12_areUnlike_53 : decode cX12_areUnlike 53 = .ok (.iload_n 3, 1) := by decide +kernel
theorem dX12_areUnlike_54 : decode cX12_areUnlike 54 = .ok (.iload_n 2, 1) := by decide +kernel
theorem dX12_areUnlike_55 : decode cX12_areUnlike 55 = .ok (.if_icmp .ge 37, 3) := by decide +kernel
theorem dX12_areUnlike_58 : decode cX12_areUnlike 58 = .ok (.aload_n 0, 1) := by decide +kernel
theorem dX12_areUnlike_59 : decode cX12_areUnlike 59 = .ok (.getfield 69, 3) := by decide +kernel
theorem dX12_areUnlike_6 : decode cX12_areUnlike 6 = .ok (.i2l, 1) := by decide +kernel
theorem dX12_areUnlike_62 : decode cX12_areUnlike 62 = .ok (.bipush 30, 2) := by decide +kernel
theorem dX12_areUnlike_64 : decode cX12_areUnlike 64 = .ok (.iload_n 1, 1) := by decide +kernel
theorem dX12_areUnlike_65 : decode cX12_areUnlike 65 = .ok (.imul, 1) := by decide +kernel
theorem dX12_areUnlike_66 : decode cX12_areUnlike 66 = .ok (.iload_n 3, 1) := by decide +kernel
theorem dX12_areUnlike_67 : decode cX12_areUnlike 67 = .ok (.iadd, 1) := by decide +kernel
theorem dX12_areUnlike_68 : decode cX12_areUnlike 68 = .ok (.laload, 1) := by decide +kernel
theorem dX12_areUnlike_69 : decode cX12_areUnlike 69 = .ok (.aload_n 0, 1) := by decide +kernel
theorem dX12_areUnlike_7 : decode cX12_areUnlike 7 = .ok (.lconst 1, 1) := by decide +kernel
theorem dX12_areUnlike_70 : decode cX12_areUnlike 70 = .ok (.getfield 69, 3) := by decide +kernel
theorem dX12_areUnlike_73 : decode cX12_areUnlike 73 = .ok (.bipush 30, 2) := by decide +kernel
theorem dX12_areUnlike_75 : decode cX12_areUnlike 75 = .ok (.iload_n 1, 1) := by decide +kernel
theorem dX12_areUnlike_76 : decode cX12_areUnlike 76 = .ok (.imul, 1) := by decide +kernel
theorem dX12_areUnlike_77 : decode cX12_areUnlike 77 = .ok (.iload_n 2, 1) := by decide +kernel
theorem dX12_areUnlike_78 : decode cX12_areUnlike 78 = .ok (.iadd, 1) := by decide +kernel
theorem dX12_areUnlike_79 : decode cX12_areUnlike 79 = .ok (.laload, 1) := by decide +kernel
theorem dX12_areUnlike_8 : decode cX12_areUnlike 8 = .ok (.ldc2_w 395, 3) := by decide +kernel
theorem dX12_areUnlike_80 : decode cX12_areUnlike 80 = .ok (.lcmp, 1) := by decide +kernel
theorem dX12_areUnlike_81 : decode cX12_areUnlike 81 = .ok (.ifCond .ne 5, 3) := by decide +kernel
theorem dX12_areUnlike_84 : decode cX12_areUnlike 84 = .ok (.iconst 0, 1) := by decide +kernel
theorem dX12_areUnlike_85 : decode cX12_areUnlike 85 = .ok (.ireturn, 1) := by decide +kernel
theorem dX12_areUnlike_86 : decode cX12_areUnlike 86 = .ok (.iinc 3 1, 3) := by decide +kernel
theorem dX12_areUnlike_89 : decode cX12_areUnlike 89 = .ok (.goto (-36), 3) := by decide +kernel
theorem dX12_areUnlike_92 : decode cX12_areUnlike 92 = .ok (.iinc 2 1, 3) := by decide +kernel
theorem dX12_areUnlike_95 : decode cX12_areUnlike 95 = .ok (.goto (-74), 3) := by decide +kernel
theorem dX12_areUnlike_98 : decode cX12_areUnlike 98 = .ok (.iconst 1, 1) := by decide +kernel
theorem dX12_areUnlike_99 : decode cX12_areUnlike 99 = .ok (.ireturn, 1) := by decide +kernel
theorem dX12_blames_0 : decode cX12_blames 0 = .ok (.aload_n 0, 1) := by decide +kernel
theorem dX12_blames_1 : decode cX12_blames 1 = .ok (.getfield 108, 3) := by decide +kernel
theorem dX12_blames_10 : decode cX12_blames 10 = .ok (.getfield 88, 3) := by decide +kernel
theorem dX12_blames_13 : decode cX12_blames 13 = .ok (.iconst 3, 1) := by decide +kernel
theorem dX12_blames_14 : decode cX12_blames 14 = .ok (.if_icmp .ne 7, 3) := by decide +kernel
theorem dX12_blames_17 : decode cX12_blames 17 = .ok (.iconst 1, 1) := by decide +kernel
theorem dX12_blames_18 : decode cX12_blames 18 = .ok (.goto 4, 3) := by decide +kernel
theorem dX12_blames_21 : decode cX12_blames 21 = .ok (.iload_n 1, 1) := by decide +kernel
theorem dX12_blames_22 : decode cX12_blames 22 = .ok (.putfield 108, 3) := by decide +kernel
theorem dX12_blames_25 : decode cX12_blames 25 = .ok (.aload_n 0, 1) := by decide +kernel
theorem dX12_blames_26 : decode cX12_blames 26 = .ok (.aload_n 0, 1) := by decide +kernel
theorem dX12_blames_27 : decode cX12_blames 27 = .ok (.getfield 85, 3) := by decide +kernel
theorem dX12_blames_30 : decode cX12_blames 30 = .ok (.putfield 111, 3) := by decide +kernel
theorem dX12_blames_33 : decode cX12_blames 33 = .ok (.return_, 1) := by decide +kernel
theorem dX12_blames_4 : decode cX12_blames 4 = .ok (.ifCond .eq 4, 3) := by decide +kernel
theorem dX12_blames_7 : decode cX12_blames 7 = .ok (.return_, 1) := by decide +kernel
theorem dX12_blames_8 : decode cX12_blames 8 = .ok (.aload_n 0, 1) := by decide +kernel
theorem dX12_blames_9 : decode cX12_blames 9 = .ok (.aload_n 0, 1) := by decide +kernel
theorem dX12_bound_0 : decode cX12_bound 0 = .ok (.ldc2_w 278, 3) := by decide +kernel
theorem dX12_bound_10 : decode cX12_bound 10 = .ok (.invokestatic 288, 3) := by decide +kernel
theorem dX12_bound_13 : decode cX12_bound 13 = .ok (.l2i, 1) := by decide +kernel
theorem dX12_bound_14 : decode cX12_bound 14 = .ok (.ireturn, 1) := by decide +kernel
theorem dX12_bound_3 : decode cX12_bound 3 = .ok (.ldc2_w 280, 3) := by decide +kernel
theorem dX12_bound_6 : decode cX12_bound 6 = .ok (.lload_n 0, 1) := by decide +kernel
theorem dX12_bound_7 : decode cX12_bound 7 = .ok (.invokestatic 282, 3) := by decide +kernel
theorem dX12_change_0 : decode cX12_change 0 = .ok (.aload_n 0, 1) := by decide +kernel
theorem dX12_change_1 : decode cX12_change 1 = .ok (.aload_n 0, 1) := by decide +kernel
theorem dX12_change_10 : decode cX12_change 10 = .ok (.iconst 1, 1) := by decide +kernel
theorem dX12_change_11 : decode cX12_change 11 = .ok (.goto 22, 3) := by decide +kernel
theorem dX12_change_14 : decode cX12_change 14 = .ok (.iload_n 2, 1) := by decide +kernel
theorem dX12_change_15 : decode cX12_change 15 = .ok (.i2l, 1) := by decide +kernel
theorem dX12_change_16 : decode cX12_change 16 = .ok (.ldc2_w 371, 3) := by decide +kernel
theorem dX12_change_19 : decode cX12_change 19 = .ok (.ldc2_w 373, 3) := by decide +kernel
theorem dX12_change_2 : decode cX12_change 2 = .ok (.iload_n 1, 1) := by decide +kernel
theorem dX12_change_22 : decode cX12_change 22 = .ok (.invokestatic 137, 3) := by decide +kernel
theorem dX12_change_25 : decode cX12_change 25 = .ok (.ifCond .eq 7, 3) := by decide +kernel
theorem dX12_change_28 : decode cX12_change 28 = .ok (.iconst 0, 1) := by decide +kernel
theorem dX12_change_29 : decode cX12_change 29 = .ok (.goto 4, 3) := by decide +kernel
theorem dX12_change_3 : decode cX12_change 3 = .ok (.i2l, 1) := by decide +kernel
theorem dX12_change_32 : decode cX12_change 32 = .ok (.iconst 2, 1) := by decide +kernel
theorem dX12_change_33 : decode cX12_change 33 = .ok (.putfield 73, 3) := by decide +kernel
theorem dX12_change_36 : decode cX12_change 36 = .ok (.aload_n 0, 1) := by decide +kernel
theorem dX12_change_37 : decode cX12_change 37 = .ok (.getfield 73, 3) := by decide +kernel
theorem dX12_change_4 : decode cX12_change 4 = .ok (.invokevirtual 335, 3) := by decide +kernel
theorem dX12_change_40 : decode cX12_change 40 = .ok (.ifCond .le 5, 3) := by decide +kernel
theorem dX12_change_43 : decode cX12_change 43 = .ok (.iconst 0, 1) := by decide +kernel
theorem dX12_change_44 : decode cX12_change 44 = .ok (.ireturn, 1) := by decide +kernel
theorem dX12_change_45 : decode cX12_change 45 = .ok (.aload_n 0, 1) := by decide +kernel
theorem dX12_change_46 : decode cX12_change 46 = .ok (.invokevirtual 375, 3) := by decide +kernel
theorem dX12_change_49 : decode cX12_change 49 = .ok (.aload_n 0, 1) := by decide +kernel
theorem dX12_change_50 : decode cX12_change 50 = .ok (.iload_n 1, 1) := by decide +kernel
theorem dX12_change_51 : decode cX12_change 51 = .ok (.iload_n 2, 1) := by decide +kernel
theorem dX12_change_52 : decode cX12_change 52 = .ok (.invokevirtual 367, 3) := by decide +kernel
theorem dX12_change_55 : decode cX12_change 55 = .ok (.aload_n 0, 1) := by decide +kernel
theorem dX12_change_56 : decode cX12_change 56 = .ok (.getfield 9, 3) := by decide +kernel
theorem dX12_change_59 : decode cX12_change 59 = .ok (.bipush 16, 2) := by decide +kernel
theorem dX12_change_61 : decode cX12_change 61 = .ok (.iload_n 1, 1) := by decide +kernel
theorem dX12_change_62 : decode cX12_change 62 = .ok (.iadd, 1) := by decide +kernel
theorem dX12_change_63 : decode cX12_change 63 = .ok (.iaload, 1) := by decide +kernel
theorem dX12_change_64 : decode cX12_change 64 = .ok (.ireturn, 1) := by decide +kernel
theorem dX12_change_7 : decode cX12_change 7 = .ok (.ifCond .ne 7, 3) := by decide +kernel
theorem dX12_count_0 : decode cX12_count 0 = .ok (.aload_n 0, 1) := by decide +kernel
theorem dX12_count_1 : decode cX12_count 1 = .ok (.iconst 0, 1) := by decide +kernel
theorem dX12_count_101 : decode cX12_count 101 = .ok (.iaload, 1) := by decide +kernel
theorem dX12_count_102 : decode cX12_count 102 = .ok (.ireturn, 1) := by decide +kernel
theorem dX12_count_103 : decode cX12_count 103 = .ok (.aload_n 0, 1) := by decide +kernel
theorem dX12_count_104 : decode cX12_count 104 = .ok (.getfield 9, 3) := by decide +kernel
theorem dX12_count_107 : decode cX12_count 107 = .ok (.bipush 25, 2) := by decide +kernel
theorem dX12_count_109 : decode cX12_count 109 = .ok (.iaload, 1) := by decide +kernel
theorem dX12_count_110 : decode cX12_count 110 = .ok (.ireturn, 1) := by decide +kernel
theorem dX12_count_111 : decode cX12_count 111 = .ok (.aload_n 0, 1) := by decide +kernel
theorem dX12_count_112 : decode cX12_count 112 = .ok (.getfield 9, 3) := by decide +kernel
theorem dX12_count_115 : decode cX12_count 115 = .ok (.bipush 7, 2) := by decide +kernel
theorem dX12_count_117 : decode cX12_count 117 = .ok (.iaload, 1) := by decide +kernel
theorem dX12_count_118 : decode cX12_count 118 = .ok (.ireturn, 1) := by decide +kernel
theorem dX12_count_119 : decode cX12_count 119 = .ok (.aload_n 0, 1) := by decide +kernel
theorem dX12_count_120 : decode cX12_count 120 = .ok (.getfield 76, 3) := by decide +kernel
theorem dX12_count_123 : decode cX12_count 123 = .ok (.ireturn, 1) := by decide +kernel
theorem dX12_count_124 : decode cX12_count 124 = .ok (.aload_n 0, 1) := by decide +kernel
theorem dX12_count_125 : decode cX12_count 125 = .ok (.getfield 9, 3) := by decide +kernel
theorem dX12_count_128 : decode cX12_count 128 = .ok (.bipush 6, 2) := by decide +kernel
theorem dX12_count_130 : decode cX12_count 130 = .ok (.iaload, 1) := by decide +kernel
theorem dX12_count_131 : decode cX12_count 131 = .ok (.ifCond .le 7, 3) := by decide +kernel
theorem dX12_count_134 : decode cX12_count 134 = .ok (.iconst 1, 1) := by decide +kernel
theorem dX12_count_135 : decode cX12_count 135 = .ok (.goto 4, 3) := by decide +kernel
theorem dX12_count_138 : decode cX12_count 138 = .ok (.iconst 0, 1) := by decide +kernel
theorem dX12_count_139 : decode cX12_count 139 = .ok (.ireturn, 1) := by decide +kernel
theorem dX12_count_140 : decode cX12_count 140 = .ok (.aload_n 0, 1) := by decide +kernel
theorem dX12_count_141 : decode cX12_count 141 = .ok (.invokevirtual 273, 3) := by decide +kernel
theorem dX12_count_144 : decode cX12_count 144 = .ok (.aload_n 0, 1) := by decide +kernel
theorem dX12_count_145 : decode cX12_count 145 = .ok (.invokevirtual 275, 3) := by decide +kernel
theorem dX12_count_148 : decode cX12_count 148 = .ok (.isub, 1) := by decide +kernel
theorem dX12_count_149 : decode cX12_count 149 = .ok (.ireturn, 1) := by decide +kernel
theorem dX12_count_150 : decode cX12_count 150 = .ok (.iconst (-1), 1) := by decide +kernel
theorem dX12_count_151 : decode cX12_count 151 = .ok (.ireturn, 1) := by decide +kernel
theorem dX12_count_2 : decode cX12_count 2 = .ok (.putfield 73, 3) := by decide +kernel
theorem dX12_count_5 : decode cX12_count 5 = .ok (.iload_n 1, 1) := by decide +kernel
theorem dX12_count_6 : decode cX12_count 6 = .ok (.tableswitch 144 0 10 #[58, 65, 70, 75, 82, 89, 97, 105, 113, 118, 134], 58) := by decide +kernel
theorem dX12_count_64 : decode cX12_count 64 = .ok (.aload_n 0, 1) := by decide +kernel
theorem dX12_count_65 : decode cX12_count 65 = .ok (.getfield 9, 3) := by decide +kernel
theorem dX12_count_68 : decode cX12_count 68 = .ok (.iconst 0, 1) := by decide +kernel
theorem dX12_count_69 : decode cX12_count 69 = .ok (.iaload, 1) := by decide +kernel
theorem dX12_count_70 : decode cX12_count 70 = .ok (.ireturn, 1) := by decide +kernel
theorem dX12_count_71 : decode cX12_count 71 = .ok (.aload_n 0, 1) := by decide +kernel
theorem dX12_count_72 : decode cX12_count 72 = .ok (.invokevirtual 273, 3) := by decide +kernel
theorem dX12_count_75 : decode cX12_count 75 = .ok (.ireturn, 1) := by decide +kernel
theorem dX12_count_76 : decode cX12_count 76 = .ok (.aload_n 0, 1) := by decide +kernel
theorem dX12_count_77 : decode cX12_count 77 = .ok (.invokevirtual 275, 3) := by decide +kernel
theorem dX12_count_80 : decode cX12_count 80 = .ok (.ireturn, 1) := by decide +kernel
theorem dX12_count_81 : decode cX12_count 81 = .ok (.aload_n 0, 1) := by decide +kernel
theorem dX12_count_82 : decode cX12_count 82 = .ok (.getfield 9, 3) := by decide +kernel
theorem dX12_count_85 : decode cX12_count 85 = .ok (.iconst 3, 1) := by decide +kernel
theorem dX12_count_86 : decode cX12_count 86 = .ok (.iaload, 1) := by decide +kernel
theorem dX12_count_87 : decode cX12_count 87 = .ok (.ireturn, 1) := by decide +kernel
theorem dX12_count_88 : decode cX12_count 88 = .ok (.aload_n 0, 1) := by decide +kernel
theorem dX12_count_89 : decode cX12_count 89 = .ok (.getfield 9, 3) := by decide +kernel
theorem dX12_count_92 : decode cX12_count 92 = .ok (.iconst 4, 1) := by decide +kernel
theorem dX12_count_93 : decode cX12_count 93 = .ok (.iaload, 1) := by decide +kernel
theorem dX12_count_94 : decode cX12_count 94 = .ok (.ireturn, 1) := by decide +kernel
theorem dX12_count_95 : decode cX12_count 95 = .ok (.aload_n 0, 1) := by decide +kernel
theorem dX12_count_96 : decode cX12_count 96 = .ok (.getfield 9, 3) := by decide +kernel
theorem dX12_count_99 : decode cX12_count 99 = .ok (.bipush 24, 2) := by decide +kernel
theorem dX12_cut_0 : decode cX12_cut 0 = .ok (.bipush 64, 2) := by decide +kernel
theorem dX12_cut_10 : decode cX12_cut 10 = .ok (.ishl, 1) := by decide +kernel
theorem dX12_cut_11 : decode cX12_cut 11 = .ok (.isub, 1) := by decide +kernel
theorem dX12_cut_12 : decode cX12_cut 12 = .ok (.istore 5, 2) := by decide +kernel
theorem dX12_cut_14 : decode cX12_cut 14 = .ok (.aload_n 0, 1) := by decide +kernel
theorem dX12_cut_15 : decode cX12_cut 15 = .ok (.getfield 69, 3) := by decide +kernel
theorem dX12_cut_18 : decode cX12_cut 18 = .ok (.bipush 30, 2) := by decide +kernel
theorem dX12_cut_2 : decode cX12_cut 2 = .ok (.bipush 8, 2) := by decide +kernel
theorem dX12_cut_20 : decode cX12_cut 20 = .ok (.iload_n 1, 1) := by decide +kernel
theorem dX12_cut_21 : decode cX12_cut 21 = .ok (.imul, 1) := by decide +kernel
theorem dX12_cut_22 : decode cX12_cut 22 = .ok (.iload_n 2, 1) := by decide +kernel
theorem dX12_cut_23 : decode cX12_cut 23 = .ok (.iadd, 1) := by decide +kernel
theorem dX12_cut_24 : decode cX12_cut 24 = .ok (.lload_n 3, 1) := by decide +kernel
theorem dX12_cut_25 : decode cX12_cut 25 = .ok (.iload 5, 2) := by decide +kernel
theorem dX12_cut_27 : decode cX12_cut 27 = .ok (.lshl, 1) := by decide +kernel
theorem dX12_cut_28 : decode cX12_cut 28 = .ok (.iload 5, 2) := by decide +kernel
theorem dX12_cut_30 : decode cX12_cut 30 = .ok (.lshr, 1) := by decide +kernel
theorem dX12_cut_31 : decode cX12_cut 31 = .ok (.lastore, 1) := by decide +kernel
theorem dX12_cut_32 : decode cX12_cut 32 = .ok (.aload_n 0, 1) := by decide +kernel
theorem dX12_cut_33 : decode cX12_cut 33 = .ok (.getfield 69, 3) := by decide +kernel
theorem dX12_cut_36 : decode cX12_cut 36 = .ok (.bipush 30, 2) := by decide +kernel
theorem dX12_cut_38 : decode cX12_cut 38 = .ok (.iload_n 1, 1) := by decide +kernel
theorem dX12_cut_39 : decode cX12_cut 39 = .ok (.imul, 1) := by decide +kernel
theorem dX12_cut_4 : decode cX12_cut 4 = .ok (.aload_n 0, 1) := by decide +kernel
theorem dX12_cut_40 : decode cX12_cut 40 = .ok (.iload_n 2, 1) := by decide +kernel
theorem dX12_cut_41 : decode cX12_cut 41 = .ok (.iadd, 1) := by decide +kernel
theorem dX12_cut_42 : decode cX12_cut 42 = .ok (.laload, 1) := by decide +kernel
theorem dX12_cut_43 : decode cX12_cut 43 = .ok (.lreturn, 1) := by decide +kernel
theorem dX12_cut_5 : decode cX12_cut 5 = .ok (.getfield 63, 3) := by decide +kernel
theorem dX12_cut_8 : decode cX12_cut 8 = .ok (.iload_n 1, 1) := by decide +kernel
theorem dX12_cut_9 : decode cX12_cut 9 = .ok (.iaload, 1) := by decide +kernel
theorem dX12_done_0 : decode cX12_done 0 = .ok (.iload_n 0, 1) := by decide +kernel
theorem dX12_done_1 : decode cX12_done 1 = .ok (.tableswitch 114 10 16 #[43, 50, 57, 64, 76, 88, 100], 43) := by decide +kernel
theorem dX12_done_100 : decode cX12_done 100 = .ok (.ireturn, 1) := by decide +kernel
theorem dX12_done_101 : decode cX12_done 101 = .ok (.lload_n 1, 1) := by decide +kernel
theorem dX12_done_102 : decode cX12_done 102 = .ok (.lload_n 3, 1) := by decide +kernel
theorem dX12_done_103 : decode cX12_done 103 = .ok (.ladd, 1) := by decide +kernel
theorem dX12_done_104 : decode cX12_done 104 = .ok (.lconst 1, 1) := by decide +kernel
theorem dX12_done_105 : decode cX12_done 105 = .ok (.lcmp, 1) := by decide +kernel
theorem dX12_done_106 : decode cX12_done 106 = .ok (.ifCond .le 7, 3) := by decide +kernel
theorem dX12_done_109 : decode cX12_done 109 = .ok (.iconst 1, 1) := by decide +kernel
theorem dX12_done_110 : decode cX12_done 110 = .ok (.goto 4, 3) := by decide +kernel
theorem dX12_done_113 : decode cX12_done 113 = .ok (.iconst 0, 1) := by decide +kernel
theorem dX12_done_114 : decode cX12_done 114 = .ok (.ireturn, 1) := by decide +kernel
theorem dX12_done_115 : decode cX12_done 115 = .ok (.lload_n 1, 1) := by decide +kernel
theorem dX12_done_116 : decode cX12_done 116 = .ok (.lload_n 3, 1) := by decide +kernel
theorem dX12_done_117 : decode cX12_done 117 = .ok (.ladd, 1) := by decide +kernel
theorem dX12_done_118 : decode cX12_done 118 = .ok (.lconst 0, 1) := by decide +kernel
theorem dX12_done_119 : decode cX12_done 119 = .ok (.lcmp, 1) := by decide +kernel
theorem dX12_done_120 : decode cX12_done 120 = .ok (.ifCond .le 7, 3) := by decide +kernel
theorem dX12_done_123 : decode cX12_done 123 = .ok (.iconst 1, 1) := by decide +kernel
theorem dX12_done_124 : decode cX12_done 124 = .ok (.goto 4, 3) := by decide +kernel
theorem dX12_done_127 : decode cX12_done 127 = .ok (.iconst 0, 1) := by decide +kernel
theorem dX12_done_128 : decode cX12_done 128 = .ok (.ireturn, 1) := by decide +kernel
theorem dX12_done_44 : decode cX12_done 44 = .ok (.lload_n 1, 1) := by decide +kernel
theorem dX12_done_45 : decode cX12_done 45 = .ok (.lload_n 3, 1) := by decide +kernel
theorem dX12_done_46 : decode cX12_done 46 = .ok (.ladd, 1) := by decide +kernel
theorem dX12_done_47 : decode cX12_done 47 = .ok (.invokestatic 291, 3) := by decide +kernel
theorem dX12_done_50 : decode cX12_done 50 = .ok (.ireturn, 1) := by decide +kernel
theorem dX12_done_51 : decode cX12_done 51 = .ok (.lload_n 1, 1) := by decide +kernel
theorem dX12_done_52 : decode cX12_done 52 = .ok (.lload_n 3, 1) := by decide +kernel
theorem dX12_done_53 : decode cX12_done 53 = .ok (.lsub, 1) := by decide +kernel
theorem dX12_done_54 : decode cX12_done 54 = .ok (.invokestatic 291, 3) := by decide +kernel
theorem dX12_done_57 : decode cX12_done 57 = .ok (.ireturn, 1) := by decide +kernel
theorem dX12_done_58 : decode cX12_done 58 = .ok (.lload_n 1, 1) := by decide +kernel
theorem dX12_done_59 : decode cX12_done 59 = .ok (.lload_n 3, 1) := by decide +kernel
theorem dX12_done_60 : decode cX12_done 60 = .ok (.lmul, 1) := by decide +kernel
theorem dX12_done_61 : decode cX12_done 61 = .ok (.invokestatic 291, 3) := by decide +kernel
theorem dX12_done_64 : decode cX12_done 64 = .ok (.ireturn, 1) := by decide +kernel
theorem dX12_done_65 : decode cX12_done 65 = .ok (.lload_n 1, 1) := by decide +kernel
theorem dX12_done_66 : decode cX12_done 66 = .ok (.lload_n 3, 1) := by decide +kernel
theorem dX12_done_67 : decode cX12_done 67 = .ok (.lcmp, 1) := by decide +kernel
theorem dX12_done_68 : decode cX12_done 68 = .ok (.ifCond .ne 7, 3) := by decide +kernel
theorem dX12_done_71 : decode cX12_done 71 = .ok (.iconst 1, 1) := by decide +kernel
theorem dX12_done_72 : decode cX12_done 72 = .ok (.goto 4, 3) := by decide +kernel
theorem dX12_done_75 : decode cX12_done 75 = .ok (.iconst 0, 1) := by decide +kernel
theorem dX12_done_76 : decode cX12_done 76 = .ok (.ireturn, 1) := by decide +kernel
theorem dX12_done_77 : decode cX12_done 77 = .ok (.lload_n 1, 1) := by decide +kernel
theorem dX12_done_78 : decode cX12_done 78 = .ok (.lload_n 3, 1) := by decide +kernel
theorem dX12_done_79 : decode cX12_done 79 = .ok (.lcmp, 1) := by decide +kernel
theorem dX12_done_80 : decode cX12_done 80 = .ok (.ifCond .ge 7, 3) := by decide +kernel
theorem dX12_done_83 : decode cX12_done 83 = .ok (.iconst 1, 1) := by decide +kernel
theorem dX12_done_84 : decode cX12_done 84 = .ok (.goto 4, 3) := by decide +kernel
theorem dX12_done_87 : decode cX12_done 87 = .ok (.iconst 0, 1) := by decide +kernel
theorem dX12_done_88 : decode cX12_done 88 = .ok (.ireturn, 1) := by decide +kernel
theorem dX12_done_89 : decode cX12_done 89 = .ok (.lload_n 1, 1) := by decide +kernel
theorem dX12_done_90 : decode cX12_done 90 = .ok (.lload_n 3, 1) := by decide +kernel
theorem dX12_done_91 : decode cX12_done 91 = .ok (.lcmp, 1) := by decide +kernel
theorem dX12_done_92 : decode cX12_done 92 = .ok (.ifCond .le 7, 3) := by decide +kernel
theorem dX12_done_95 : decode cX12_done 95 = .ok (.iconst 1, 1) := by decide +kernel
theorem dX12_done_96 : decode cX12_done 96 = .ok (.goto 4, 3) := by decide +kernel
theorem dX12_done_99 : decode cX12_done 99 = .ok (.iconst 0, 1) := by decide +kernel
theorem dX12_draw_0 : decode cX12_draw 0 = .ok (.aload_n 0, 1) := by decide +kernel
theorem dX12_draw_1 : decode cX12_draw 1 = .ok (.ldc_w 418, 3) := by decide +kernel
theorem dX12_draw_12 : decode cX12_draw 12 = .ok (.iadd, 1) := by decide +kernel
theorem dX12_draw_13 : decode cX12_draw 13 = .ok (.putfield 419, 3) := by decide +kernel
theorem dX12_draw_16 : decode cX12_draw 16 = .ok (.aload_n 0, 1) := by decide +kernel
theorem dX12_draw_17 : decode cX12_draw 17 = .ok (.getfield 419, 3) := by decide +kernel
theorem dX12_draw_20 : decode cX12_draw 20 = .ok (.bipush 16, 2) := by decide +kernel
theorem dX12_draw_22 : decode cX12_draw 22 = .ok (.iushr, 1) := by decide +kernel
theorem dX12_draw_23 : decode cX12_draw 23 = .ok (.iload_n 1, 1) := by decide +kernel
theorem dX12_draw_24 : decode cX12_draw 24 = .ok (.irem, 1) := by decide +kernel
theorem dX12_draw_25 : decode cX12_draw 25 = .ok (.ireturn, 1) := by decide +kernel
theorem dX12_draw_4 : decode cX12_draw 4 = .ok (.aload_n 0, 1) := by decide +kernel
theorem dX12_draw_5 : decode cX12_draw 5 = .ok (.getfield 419, 3) := by decide +kernel
theorem dX12_draw_8 : decode cX12_draw 8 = .ok (.imul, 1) := by decide +kernel
theorem dX12_draw_9 : decode cX12_draw 9 = .ok (.sipush 12345, 3) := by decide +kernel
theorem dX12_eventBehind_0 : decode cX12_eventBehind 0 = .ok (.iconst (-1), 1) := by decide +kernel
theorem dX12_eventBehind_1 : decode cX12_eventBehind 1 = .ok (.istore_n 2, 1) := by decide +kernel
theorem dX12_eventBehind_10 : decode cX12_eventBehind 10 = .ok (.iaload, 1) := by decide +kernel
theorem dX12_eventBehind_100 : decode cX12_eventBehind 100 = .ok (.iload_n 3, 1) := by decide +kernel
theorem dX12_eventBehind_101 : decode cX12_eventBehind 101 = .ok (.istore_n 2, 1) := by decide +kernel
theorem dX12_eventBehind_102 : decode cX12_eventBehind 102 = .ok (.iinc 3 1, 3) := by decide +kernel
theorem dX12_eventBehind_105 : decode cX12_eventBehind 105 = .ok (.goto (-101), 3) := by decide +kernel
theorem dX12_eventBehind_108 : decode cX12_eventBehind 108 = .ok (.iload_n 2, 1) := by decide +kernel
theorem dX12_eventBehind_109 : decode cX12_eventBehind 109 = .ok (.ireturn, 1) := by decide +kernel
theorem dX12_eventBehind_11 : decode cX12_eventBehind 11 = .ok (.if_icmp .ge 97, 3) := by decide +kernel
theorem dX12_eventBehind_14 : decode cX12_eventBehind 14 = .ok (.iload_n 1, 1) := by decide +kernel
theorem dX12_eventBehind_15 : decode cX12_eventBehind 15 = .ok (.iconst (-1), 1) := by decide +kernel
theorem dX12_eventBehind_16 : decode cX12_eventBehind 16 = .ok (.if_icmp .ne 7, 3) := by decide +kernel
theorem dX12_eventBehind_19 : decode cX12_eventBehind 19 = .ok (.iconst 1, 1) := by decide +kernel
theorem dX12_eventBehind_2 : decode cX12_eventBehind 2 = .ok (.iconst 0, 1) := by decide +kernel
theorem dX12_eventBehind_20 : decode cX12_eventBehind 20 = .ok (.goto 28, 3) := by decide +kernel
theorem dX12_eventBehind_23 : decode cX12_eventBehind 23 = .ok (.aload_n 0, 1) := by decide +kernel
theorem dX12_eventBehind_24 : decode cX12_eventBehind 24 = .ok (.getfield 9, 3) := by decide +kernel
theorem dX12_eventBehind_27 : decode cX12_eventBehind 27 = .ok (.sipush 150, 3) := by decide +kernel
theorem dX12_eventBehind_3 : decode cX12_eventBehind 3 = .ok (.istore_n 3, 1) := by decide +kernel
theorem dX12_eventBehind_30 : decode cX12_eventBehind 30 = .ok (.iconst 3, 1) := by decide +kernel
theorem dX12_eventBehind_31 : decode cX12_eventBehind 31 = .ok (.iload_n 3, 1) := by decide +kernel
theorem dX12_eventBehind_32 : decode cX12_eventBehind 32 = .ok (.imul, 1) := by decide +kernel
theorem dX12_eventBehind_33 : decode cX12_eventBehind 33 = .ok (.iadd, 1) := by decide +kernel
theorem dX12_eventBehind_34 : decode cX12_eventBehind 34 = .ok (.iaload, 1) := by decide +kernel
theorem dX12_eventBehind_35 : decode cX12_eventBehind 35 = .ok (.aload_n 0, 1) := by decide +kernel
theorem dX12_eventBehind_36 : decode cX12_eventBehind 36 = .ok (.getfield 9, 3) := by decide +kernel
theorem dX12_eventBehind_39 : decode cX12_eventBehind 39 = .ok (.sipush 150, 3) := by decide +kernel
theorem dX12_eventBehind_4 : decode cX12_eventBehind 4 = .ok (.iload_n 3, 1) := by decide +kernel
theorem dX12_eventBehind_42 : decode cX12_eventBehind 42 = .ok (.iconst 3, 1) := by decide +kernel
theorem dX12_eventBehind_43 : decode cX12_eventBehind 43 = .ok (.iload_n 1, 1) := by decide +kernel
theorem dX12_eventBehind_44 : decode cX12_eventBehind 44 = .ok (.imul, 1) := by decide +kernel
theorem dX12_eventBehind_45 : decode cX12_eventBehind 45 = .ok (.iadd, 1) := by decide +kernel
theorem dX12_eventBehind_46 : decode cX12_eventBehind 46 = .ok (.iaload, 1) := by decide +kernel
theorem dX12_eventBehind_47 : decode cX12_eventBehind 47 = .ok (.isub, 1) := by decide +kernel
theorem dX12_eventBehind_48 : decode cX12_eventBehind 48 = .ok (.istore 4, 2) := by decide +kernel
theorem dX12_eventBehind_5 : decode cX12_eventBehind 5 = .ok (.aload_n 0, 1) := by decide +kernel
theorem dX12_eventBehind_50 : decode cX12_eventBehind 50 = .ok (.iload 4, 2) := by decide +kernel
theorem dX12_eventBehind_52 : decode cX12_eventBehind 52 = .ok (.ifCond .lt 50, 3) := by decide +kernel
theorem dX12_eventBehind_55 : decode cX12_eventBehind 55 = .ok (.iload 4, 2) := by decide +kernel
theorem dX12_eventBehind_57 : decode cX12_eventBehind 57 = .ok (.ifCond .ne 11, 3) := by decide +kernel
theorem dX12_eventBehind_6 : decode cX12_eventBehind 6 = .ok (.getfield 9, 3) := by decide +kernel
theorem dX12_eventBehind_60 : decode cX12_eventBehind 60 = .ok (.iload_n 3, 1) := by decide +kernel
theorem dX12_eventBehind_61 : decode cX12_eventBehind 61 = .ok (.iload_n 1, 1) := by decide +kernel
theorem dX12_eventBehind_62 : decode cX12_eventBehind 62 = .ok (.if_icmp .gt 6, 3) := by decide +kernel
theorem dX12_eventBehind_65 : decode cX12_eventBehind 65 = .ok (.goto 37, 3) := by decide +kernel
theorem dX12_eventBehind_68 : decode cX12_eventBehind 68 = .ok (.iload_n 2, 1) := by decide +kernel
theorem dX12_eventBehind_69 : decode cX12_eventBehind 69 = .ok (.iconst (-1), 1) := by decide +kernel
theorem dX12_eventBehind_70 : decode cX12_eventBehind 70 = .ok (.if_icmp .eq 30, 3) := by decide +kernel
theorem dX12_eventBehind_73 : decode cX12_eventBehind 73 = .ok (.aload_n 0, 1) := by decide +kernel
theorem dX12_eventBehind_74 : decode cX12_eventBehind 74 = .ok (.getfield 9, 3) := by decide +kernel
theorem dX12_eventBehind_77 : decode cX12_eventBehind 77 = .ok (.sipush 150, 3) := by decide +kernel
theorem dX12_eventBehind_80 : decode cX12_eventBehind 80 = .ok (.iconst 3, 1) := by decide +kernel
theorem dX12_eventBehind_81 : decode cX12_eventBehind 81 = .ok (.iload_n 3, 1) := by decide +kernel
theorem dX12_eventBehind_82 : decode cX12_eventBehind 82 = .ok (.imul, 1) := by decide +kernel
theorem dX12_eventBehind_83 : decode cX12_eventBehind 83 = .ok (.iadd, 1) := by decide +kernel
theorem dX12_eventBehind_84 : decode cX12_eventBehind 84 = .ok (.iaload, 1) := by decide +kernel
theorem dX12_eventBehind_85 : decode cX12_eventBehind 85 = .ok (.aload_n 0, 1) := by decide +kernel
theorem dX12_eventBehind_86 : decode cX12_eventBehind 86 = .ok (.getfield 9, 3) := by decide +kernel
theorem dX12_eventBehind_89 : decode cX12_eventBehind 89 = .ok (.sipush 150, 3) := by decide +kernel
theorem dX12_eventBehind_9 : decode cX12_eventBehind 9 = .ok (.iconst 4, 1) := by decide +kernel
theorem dX12_eventBehind_92 : decode cX12_eventBehind 92 = .ok (.iconst 3, 1) := by decide +kernel
theorem dX12_eventBehind_93 : decode cX12_eventBehind 93 = .ok (.iload_n 2, 1) := by decide +kernel
theorem dX12_eventBehind_94 : decode cX12_eventBehind 94 = .ok (.imul, 1) := by decide +kernel
theorem dX12_eventBehind_95 : decode cX12_eventBehind 95 = .ok (.iadd, 1) := by decide +kernel
theorem dX12_eventBehind_96 : decode cX12_eventBehind 96 = .ok (.iaload, 1) := by decide +kernel
theorem dX12_eventBehind_97 : decode cX12_eventBehind 97 = .ok (.if_icmp .ge 5, 3) := by decide +kernel
theorem dX12_event_0 : decode cX12_event 0 = .ok (.aload_n 0, 1) := by decide +kernel
theorem dX12_event_1 : decode cX12_event 1 = .ok (.iload_n 1, 1) := by decide +kernel
theorem dX12_event_10 : decode cX12_event 10 = .ok (.iconst 1, 1) := by decide +kernel
theorem dX12_event_11 : decode cX12_event 11 = .ok (.isub, 1) := by decide +kernel
theorem dX12_event_12 : decode cX12_event 12 = .ok (.i2l, 1) := by decide +kernel
theorem dX12_event_13 : decode cX12_event 13 = .ok (.invokestatic 137, 3) := by decide +kernel
theorem dX12_event_16 : decode cX12_event 16 = .ok (.ifCond .ne 7, 3) := by decide +kernel
theorem dX12_event_19 : decode cX12_event 19 = .ok (.iconst 1, 1) := by decide +kernel
theorem dX12_event_2 : decode cX12_event 2 = .ok (.i2l, 1) := by decide +kernel
theorem dX12_event_20 : decode cX12_event 20 = .ok (.goto 20, 3) := by decide +kernel
theorem dX12_event_23 : decode cX12_event 23 = .ok (.iload_n 2, 1) := by decide +kernel
theorem dX12_event_24 : decode cX12_event 24 = .ok (.i2l, 1) := by decide +kernel
theorem dX12_event_25 : decode cX12_event 25 = .ok (.lconst 0, 1) := by decide +kernel
theorem dX12_event_26 : decode cX12_event 26 = .ok (.ldc2_w 344, 3) := by decide +kernel
theorem dX12_event_29 : decode cX12_event 29 = .ok (.invokestatic 137, 3) := by decide +kernel
theorem dX12_event_3 : decode cX12_event 3 = .ok (.lconst 0, 1) := by decide +kernel
theorem dX12_event_32 : decode cX12_event 32 = .ok (.ifCond .eq 7, 3) := by decide +kernel
theorem dX12_event_35 : decode cX12_event 35 = .ok (.iconst 0, 1) := by decide +kernel
theorem dX12_event_36 : decode cX12_event 36 = .ok (.goto 4, 3) := by decide +kernel
theorem dX12_event_39 : decode cX12_event 39 = .ok (.iconst 2, 1) := by decide +kernel
theorem dX12_event_4 : decode cX12_event 4 = .ok (.aload_n 0, 1) := by decide +kernel
theorem dX12_event_40 : decode cX12_event 40 = .ok (.putfield 73, 3) := by decide +kernel
theorem dX12_event_43 : decode cX12_event 43 = .ok (.aload_n 0, 1) := by decide +kernel
theorem dX12_event_44 : decode cX12_event 44 = .ok (.getfield 73, 3) := by decide +kernel
theorem dX12_event_47 : decode cX12_event 47 = .ok (.ifCond .le 7, 3) := by decide +kernel
theorem dX12_event_5 : decode cX12_event 5 = .ok (.getfield 9, 3) := by decide +kernel
theorem dX12_event_50 : decode cX12_event 50 = .ok (.iconst 0, 1) := by decide +kernel
theorem dX12_event_51 : decode cX12_event 51 = .ok (.goto 17, 3) := by decide +kernel
theorem dX12_event_54 : decode cX12_event 54 = .ok (.aload_n 0, 1) := by decide +kernel
theorem dX12_event_55 : decode cX12_event 55 = .ok (.getfield 9, 3) := by decide +kernel
theorem dX12_event_58 : decode cX12_event 58 = .ok (.sipush 150, 3) := by decide +kernel
theorem dX12_event_61 : decode cX12_event 61 = .ok (.iconst 3, 1) := by decide +kernel
theorem dX12_event_62 : decode cX12_event 62 = .ok (.iload_n 1, 1) := by decide +kernel
theorem dX12_event_63 : decode cX12_event 63 = .ok (.imul, 1) := by decide +kernel
theorem dX12_event_64 : decode cX12_event 64 = .ok (.iadd, 1) := by decide +kernel
theorem dX12_event_65 : decode cX12_event 65 = .ok (.iload_n 2, 1) := by decide +kernel
theorem dX12_event_66 : decode cX12_event 66 = .ok (.iadd, 1) := by decide +kernel
theorem dX12_event_67 : decode cX12_event 67 = .ok (.iaload, 1) := by decide +kernel
theorem dX12_event_68 : decode cX12_event 68 = .ok (.ireturn, 1) := by decide +kernel
theorem dX12_event_8 : decode cX12_event 8 = .ok (.iconst 4, 1) := by decide +kernel
theorem dX12_event_9 : decode cX12_event 9 = .ok (.iaload, 1) := by decide +kernel
theorem dX12_fails_0 : decode cX12_fails 0 = .ok (.aload_n 0, 1) := by decide +kernel
theorem dX12_fails_1 : decode cX12_fails 1 = .ok (.iload_n 1, 1) := by decide +kernel
theorem dX12_fails_2 : decode cX12_fails 2 = .ok (.putfield 73, 3) := by decide +kernel
theorem dX12_fails_5 : decode cX12_fails 5 = .ok (.iconst 0, 1) := by decide +kernel
theorem dX12_fails_6 : decode cX12_fails 6 = .ok (.ireturn, 1) := by decide +kernel
theorem dX12_fault_0 : decode cX12_fault 0 = .ok (.aload_n 0, 1) := by decide +kernel
theorem dX12_fault_1 : decode cX12_fault 1 = .ok (.iconst 0, 1) := by decide +kernel
theorem dX12_fault_10 : decode cX12_fault 10 = .ok (.getfield 270, 3) := by decide +kernel
theorem dX12_fault_13 : decode cX12_fault 13 = .ok (.goto 16, 3) := by decide +kernel
theorem dX12_fault_16 : decode cX12_fault 16 = .ok (.iload_n 1, 1) := by decide +kernel
theorem dX12_fault_17 : decode cX12_fault 17 = .ok (.iconst 1, 1) := by decide +kernel
theorem dX12_fault_18 : decode cX12_fault 18 = .ok (.if_icmp .ne 10, 3) := by decide +kernel
theorem dX12_fault_2 : decode cX12_fault 2 = .ok (.putfield 73, 3) := by decide +kernel
theorem dX12_fault_21 : decode cX12_fault 21 = .ok (.aload_n 0, 1) := by decide +kernel
theorem dX12_fault_22 : decode cX12_fault 22 = .ok (.getfield 26, 3) := by decide +kernel
theorem dX12_fault_25 : decode cX12_fault 25 = .ok (.goto 4, 3) := by decide +kernel
theorem dX12_fault_28 : decode cX12_fault 28 = .ok (.iconst (-1), 1) := by decide +kernel
theorem dX12_fault_29 : decode cX12_fault 29 = .ok (.ireturn, 1) := by decide +kernel
theorem dX12_fault_5 : decode cX12_fault 5 = .ok (.iload_n 1, 1) := by decide +kernel
theorem dX12_fault_6 : decode cX12_fault 6 = .ok (.ifCond .ne 10, 3) := by decide +kernel
theorem dX12_fault_9 : decode cX12_fault 9 = .ok (.aload_n 0, 1) := by decide +kernel
theorem dX12_flip_0 : decode cX12_flip 0 = .ok (.aload_n 0, 1) := by decide +kernel
theorem dX12_flip_1 : decode cX12_flip 1 = .ok (.getfield 9, 3) := by decide +kernel
theorem dX12_flip_10 : decode cX12_flip 10 = .ok (.aload_n 0, 1) := by decide +kernel
theorem dX12_flip_11 : decode cX12_flip 11 = .ok (.getfield 9, 3) := by decide +kernel
theorem dX12_flip_14 : decode cX12_flip 14 = .ok (.bipush 16, 2) := by decide +kernel
theorem dX12_flip_16 : decode cX12_flip 16 = .ok (.iload_n 1, 1) := by decide +kernel
theorem dX12_flip_17 : decode cX12_flip 17 = .ok (.iadd, 1) := by decide +kernel
theorem dX12_flip_18 : decode cX12_flip 18 = .ok (.iaload, 1) := by decide +kernel
theorem dX12_flip_19 : decode cX12_flip 19 = .ok (.bipush 99, 2) := by decide +kernel
theorem dX12_flip_21 : decode cX12_flip 21 = .ok (.if_icmp .ne 7, 3) := by decide +kernel
theorem dX12_flip_24 : decode cX12_flip 24 = .ok (.iconst (-1), 1) := by decide +kernel
theorem dX12_flip_25 : decode cX12_flip 25 = .ok (.goto 4, 3) := by decide +kernel
theorem dX12_flip_28 : decode cX12_flip 28 = .ok (.iconst 1, 1) := by decide +kernel
theorem dX12_flip_29 : decode cX12_flip 29 = .ok (.iadd, 1) := by decide +kernel
theorem dX12_flip_30 : decode cX12_flip 30 = .ok (.iastore, 1) := by decide +kernel
theorem dX12_flip_31 : decode cX12_flip 31 = .ok (.return_, 1) := by decide +kernel
theorem dX12_flip_4 : decode cX12_flip 4 = .ok (.bipush 16, 2) := by decide +kernel
theorem dX12_flip_6 : decode cX12_flip 6 = .ok (.iload_n 1, 1) := by decide +kernel
theorem dX12_flip_7 : decode cX12_flip 7 = .ok (.iadd, 1) := by decide +kernel
theorem dX12_flip_8 : decode cX12_flip 8 = .ok (.dup2, 1) := by decide +kernel
theorem dX12_flip_9 : decode cX12_flip 9 = .ok (.iaload, 1) := by decide +kernel
theorem dX12_has_0 : decode cX12_has 0 = .ok (.iload_n 0, 1) := by decide +kernel
theorem dX12_has_1 : decode cX12_has 1 = .ok (.iload_n 1, 1) := by decide +kernel
theorem dX12_has_10 : decode cX12_has 10 = .ok (.goto 4, 3) := by decide +kernel
theorem dX12_has_13 : decode cX12_has 13 = .ok (.iconst 0, 1) := by decide +kernel
theorem dX12_has_14 : decode cX12_has 14 = .ok (.ireturn, 1) := by decide +kernel
theorem dX12_has_2 : decode cX12_has 2 = .ok (.ishr, 1) := by decide +kernel
theorem dX12_has_3 : decode cX12_has 3 = .ok (.iconst 1, 1) := by decide +kernel
theorem dX12_has_4 : decode cX12_has 4 = .ok (.iand, 1) := by decide +kernel
theorem dX12_has_5 : decode cX12_has 5 = .ok (.iconst 1, 1) := by decide +kernel
theorem dX12_has_6 : decode cX12_has 6 = .ok (.if_icmp .ne 7, 3) := by decide +kernel
theorem dX12_has_9 : decode cX12_has 9 = .ok (.iconst 1, 1) := by decide +kernel
theorem dX12_isDigit_0 : decode cX12_isDigit 0 = .ok (.iload_n 0, 1) := by decide +kernel
theorem dX12_isDigit_1 : decode cX12_isDigit 1 = .ok (.bipush 48, 2) := by decide +kernel
theorem dX12_isDigit_12 : decode cX12_isDigit 12 = .ok (.iconst 1, 1) := by decide +kernel
theorem dX12_isDigit_13 : decode cX12_isDigit 13 = .ok (.goto 4, 3) := by decide +kernel
theorem dX12_isDigit_16 : decode cX12_isDigit 16 = .ok (.iconst 0, 1) := by decide +kernel
theorem dX12_isDigit_17 : decode cX12_isDigit 17 = .ok (.ireturn, 1) := by decide +kernel
theorem dX12_isDigit_3 : decode cX12_isDigit 3 = .ok (.if_icmp .lt 13, 3) := by decide +kernel
theorem dX12_isDigit_6 : decode cX12_isDigit 6 = .ok (.iload_n 0, 1) := by decide +kernel
theorem dX12_isDigit_7 : decode cX12_isDigit 7 = .ok (.bipush 57, 2) := by decide +kernel
theorem dX12_isDigit_9 : decode cX12_isDigit 9 = .ok (.if_icmp .gt 7, 3) := by decide +kernel
theorem dX12_isEven_0 : decode cX12_isEven 0 = .ok (.iload_n 1, 1) := by decide +kernel
theorem dX12_isEven_1 : decode cX12_isEven 1 = .ok (.ifCond .ne 30, 3) := by decide +kernel
theorem dX12_isEven_10 : decode cX12_isEven 10 = .ok (.ifCond .eq 13, 3) := by decide +kernel
theorem dX12_isEven_13 : decode cX12_isEven 13 = .ok (.aload_n 0, 1) := by decide +kernel
theorem dX12_isEven_14 : decode cX12_isEven 14 = .ok (.getfield 9, 3) := by decide +kernel
theorem dX12_isEven_17 : decode cX12_isEven 17 = .ok (.iconst 5, 1) := by decide +kernel
theorem dX12_isEven_18 : decode cX12_isEven 18 = .ok (.iaload, 1) := by decide +kernel
theorem dX12_isEven_19 : decode cX12_isEven 19 = .ok (.iconst 2, 1) := by decide +kernel
theorem dX12_isEven_20 : decode cX12_isEven 20 = .ok (.if_icmp .ne 7, 3) := by decide +kernel
theorem dX12_isEven_23 : decode cX12_isEven 23 = .ok (.iconst 1, 1) := by decide +kernel
theorem dX12_isEven_24 : decode cX12_isEven 24 = .ok (.goto 18, 3) := by decide +kernel
theorem dX12_isEven_27 : decode cX12_isEven 27 = .ok (.iconst 0, 1) := by decide +kernel
theorem dX12_isEven_28 : decode cX12_isEven 28 = .ok (.goto 14, 3) := by decide +kernel
theorem dX12_isEven_31 : decode cX12_isEven 31 = .ok (.iload_n 1, 1) := by decide +kernel
theorem dX12_isEven_32 : decode cX12_isEven 32 = .ok (.iconst 2, 1) := by decide +kernel
theorem dX12_isEven_33 : decode cX12_isEven 33 = .ok (.irem, 1) := by decide +kernel
theorem dX12_isEven_34 : decode cX12_isEven 34 = .ok (.ifCond .ne 7, 3) := by decide +kernel
theorem dX12_isEven_37 : decode cX12_isEven 37 = .ok (.iconst 1, 1) := by decide +kernel
theorem dX12_isEven_38 : decode cX12_isEven 38 = .ok (.goto 4, 3) := by decide +kernel
theorem dX12_isEven_4 : decode cX12_isEven 4 = .ok (.aload_n 0, 1) := by decide +kernel
theorem dX12_isEven_41 : decode cX12_isEven 41 = .ok (.iconst 0, 1) := by decide +kernel
theorem dX12_isEven_42 : decode cX12_isEven 42 = .ok (.ireturn, 1) := by decide +kernel
theorem dX12_isEven_5 : decode cX12_isEven 5 = .ok (.getfield 9, 3) := by decide +kernel
theorem dX12_isEven_8 : decode cX12_isEven 8 = .ok (.iconst 5, 1) := by decide +kernel
theorem dX12_isEven_9 : decode cX12_isEven 9 = .ok (.iaload, 1) := by decide +kernel
theorem dX12_isLetter_0 : decode cX12_isLetter 0 = .ok (.iload_n 0, 1) := by decide +kernel
theorem dX12_isLetter_1 : decode cX12_isLetter 1 = .ok (.bipush 97, 2) := by decide +kernel
theorem dX12_isLetter_12 : decode cX12_isLetter 12 = .ok (.iconst 1, 1) := by decide +kernel
theorem dX12_isLetter_13 : decode cX12_isLetter 13 = .ok (.goto 4, 3) := by decide +kernel
theorem dX12_isLetter_16 : decode cX12_isLetter 16 = .ok (.iconst 0, 1) := by decide +kernel
theorem dX12_isLetter_17 : decode cX12_isLetter 17 = .ok (.ireturn, 1) := by decide +kernel
theorem dX12_isLetter_3 : decode cX12_isLetter 3 = .ok (.if_icmp .lt 13, 3) := by decide +kernel
theorem dX12_isLetter_6 : decode cX12_isLetter 6 = .ok (.iload_n 0, 1) := by decide +kernel
theorem dX12_isLetter_7 : decode cX12_isLetter 7 = .ok (.bipush 122, 2) := by decide +kernel
theorem dX12_isLetter_9 : decode cX12_isLetter 9 = .ok (.if_icmp .gt 7, 3) := by decide +kernel
theorem dX12_isOdd_0 : decode cX12_isOdd 0 = .ok (.iload_n 1, 1) := by decide +kernel
theorem dX12_isOdd_1 : decode cX12_isOdd 1 = .ok (.ifCond .ne 31, 3) := by decide +kernel
theorem dX12_isOdd_10 : decode cX12_isOdd 10 = .ok (.iconst 1, 1) := by decide +kernel
theorem dX12_isOdd_11 : decode cX12_isOdd 11 = .ok (.if_icmp .eq 13, 3) := by decide +kernel
theorem dX12_isOdd_14 : decode cX12_isOdd 14 = .ok (.aload_n 0, 1) := by decide +kernel
theorem dX12_isOdd_15 : decode cX12_isOdd 15 = .ok (.getfield 9, 3) := by decide +kernel
theorem dX12_isOdd_18 : decode cX12_isOdd 18 = .ok (.iconst 5, 1) := by decide +kernel
theorem dX12_isOdd_19 : decode cX12_isOdd 19 = .ok (.iaload, 1) := by decide +kernel
theorem dX12_isOdd_20 : decode cX12_isOdd 20 = .ok (.iconst 2, 1) := by decide +kernel
theorem dX12_isOdd_21 : decode cX12_isOdd 21 = .ok (.if_icmp .ne 7, 3) := by decide +kernel
theorem dX12_isOdd_24 : decode cX12_isOdd 24 = .ok (.iconst 1, 1) := by decide +kernel
theorem dX12_isOdd_25 : decode cX12_isOdd 25 = .ok (.goto 19, 3) := by decide +kernel
theorem dX12_isOdd_28 : decode cX12_isOdd 28 = .ok (.iconst 0, 1) := by decide +kernel
theorem dX12_isOdd_29 : decode cX12_isOdd 29 = .ok (.goto 15, 3) := by decide +kernel
theorem dX12_isOdd_32 : decode cX12_isOdd 32 = .ok (.iload_n 1, 1) := by decide +kernel
theorem dX12_isOdd_33 : decode cX12_isOdd 33 = .ok (.iconst 2, 1) := by decide +kernel
theorem dX12_isOdd_34 : decode cX12_isOdd 34 = .ok (.irem, 1) := by decide +kernel
theorem dX12_isOdd_35 : decode cX12_isOdd 35 = .ok (.iconst 1, 1) := by decide +kernel
theorem dX12_isOdd_36 : decode cX12_isOdd 36 = .ok (.if_icmp .ne 7, 3) := by decide +kernel
theorem dX12_isOdd_39 : decode cX12_isOdd 39 = .ok (.iconst 1, 1) := by decide +kernel
theorem dX12_isOdd_4 : decode cX12_isOdd 4 = .ok (.aload_n 0, 1) := by decide +kernel
theorem dX12_isOdd_40 : decode cX12_isOdd 40 = .ok (.goto 4, 3) := by decide +kernel
theorem dX12_isOdd_43 : decode cX12_isOdd 43 = .ok (.iconst 0, 1) := by decide +kernel
theorem dX12_isOdd_44 : decode cX12_isOdd 44 = .ok (.ireturn, 1) := by decide +kernel
theorem dX12_isOdd_5 : decode cX12_isOdd 5 = .ok (.getfield 9, 3) := by decide +kernel
theorem dX12_isOdd_8 : decode cX12_isOdd 8 = .ok (.iconst 5, 1) := by decide +kernel
theorem dX12_isOdd_9 : decode cX12_isOdd 9 = .ok (.iaload, 1) := by decide +kernel
theorem dX12_isPlace_0 : decode cX12_isPlace 0 = .ok (.lload_n 1, 1) := by decide +kernel
theorem dX12_isPlace_1 : decode cX12_isPlace 1 = .ok (.lconst 0, 1) := by decide +kernel
theorem dX12_isPlace_12 : decode cX12_isPlace 12 = .ok (.ireturn, 1) := by decide +kernel
theorem dX12_isPlace_2 : decode cX12_isPlace 2 = .ok (.aload_n 0, 1) := by decide +kernel
theorem dX12_isPlace_3 : decode cX12_isPlace 3 = .ok (.invokevirtual 273, 3) := by decide +kernel
theorem dX12_isPlace_6 : decode cX12_isPlace 6 = .ok (.iconst 1, 1) := by decide +kernel
theorem dX12_isPlace_7 : decode cX12_isPlace 7 = .ok (.isub, 1) := by decide +kernel
theorem dX12_isPlace_8 : decode cX12_isPlace 8 = .ok (.i2l, 1) := by decide +kernel
theorem dX12_isPlace_9 : decode cX12_isPlace 9 = .ok (.invokestatic 137, 3) := by decide +kernel
theorem dX12_isSignByte_0 : decode cX12_isSignByte 0 = .ok (.iload_n 0, 1) := by decide +kernel
theorem dX12_isSignByte_1 : decode cX12_isSignByte 1 = .ok (.bipush 91, 2) := by decide +kernel
theorem dX12_isSignByte_12 : decode cX12_isSignByte 12 = .ok (.iload_n 0, 1) := by decide +kernel
theorem dX12_isSignByte_13 : decode cX12_isSignByte 13 = .ok (.bipush 61, 2) := by decide +kernel
theorem dX12_isSignByte_15 : decode cX12_isSignByte 15 = .ok (.if_icmp .eq 15, 3) := by decide +kernel
theorem dX12_isSignByte_18 : decode cX12_isSignByte 18 = .ok (.iload_n 0, 1) := by decide +kernel
theorem dX12_isSignByte_19 : decode cX12_isSignByte 19 = .ok (.bipush 60, 2) := by decide +kernel
theorem dX12_isSignByte_21 : decode cX12_isSignByte 21 = .ok (.if_icmp .eq 9, 3) := by decide +kernel
theorem dX12_isSignByte_24 : decode cX12_isSignByte 24 = .ok (.iload_n 0, 1) := by decide +kernel
theorem dX12_isSignByte_25 : decode cX12_isSignByte 25 = .ok (.bipush 62, 2) := by decide +kernel
theorem dX12_isSignByte_27 : decode cX12_isSignByte 27 = .ok (.if_icmp .ne 7, 3) := by decide +kernel
theorem dX12_isSignByte_3 : decode cX12_isSignByte 3 = .ok (.if_icmp .eq 27, 3) := by decide +kernel
theorem dX12_isSignByte_30 : decode cX12_isSignByte 30 = .ok (.iconst 1, 1) := by decide +kernel
theorem dX12_isSignByte_31 : decode cX12_isSignByte 31 = .ok (.goto 4, 3) := by decide +kernel
theorem dX12_isSignByte_34 : decode cX12_isSignByte 34 = .ok (.iconst 0, 1) := by decide +kernel
theorem dX12_isSignByte_35 : decode cX12_isSignByte 35 = .ok (.istore_n 1, 1) := by decide +kernel
theorem dX12_isSignByte_36 : decode cX12_isSignByte 36 = .ok (.iload_n 1, 1) := by decide +kernel
theorem dX12_isSignByte_37 : decode cX12_isSignByte 37 = .ok (.ifCond .ne 39, 3) := by decide +kernel
theorem dX12_isSignByte_40 : decode cX12_isSignByte 40 = .ok (.iload_n 0, 1) := by decide +kernel
theorem dX12_isSignByte_41 : decode cX12_isSignByte 41 = .ok (.bipush 59, 2) := by decide +kernel
theorem dX12_isSignByte_43 : decode cX12_isSignByte 43 = .ok (.if_icmp .eq 33, 3) := by decide +kernel
theorem dX12_isSignByte_46 : decode cX12_isSignByte 46 = .ok (.iload_n 0, 1) := by decide +kernel
theorem dX12_isSignByte_47 : decode cX12_isSignByte 47 = .ok (.bipush 43, 2) := by decide +kernel
theorem dX12_isSignByte_49 : decode cX12_isSignByte 49 = .ok (.if_icmp .eq 27, 3) := by decide +kernel
theorem dX12_isSignByte_52 : decode cX12_isSignByte 52 = .ok (.iload_n 0, 1) := by decide +kernel
theorem dX12_isSignByte_53 : decode cX12_isSignByte 53 = .ok (.bipush 45, 2) := by decide +kernel
theorem dX12_isSignByte_55 : decode cX12_isSignByte 55 = .ok (.if_icmp .eq 21, 3) := by decide +kernel
theorem dX12_isSignByte_58 : decode cX12_isSignByte 58 = .ok (.iload_n 0, 1) := by decide +kernel
theorem dX12_isSignByte_59 : decode cX12_isSignByte 59 = .ok (.bipush 42, 2) := by decide +kernel
theorem dX12_isSignByte_6 : decode cX12_isSignByte 6 = .ok (.iload_n 0, 1) := by decide +kernel
theorem dX12_isSignByte_61 : decode cX12_isSignByte 61 = .ok (.if_icmp .eq 15, 3) := by decide +kernel
theorem dX12_isSignByte_64 : decode cX12_isSignByte 64 = .ok (.iload_n 0, 1) := by decide +kernel
theorem dX12_isSignByte_65 : decode cX12_isSignByte 65 = .ok (.bipush 40, 2) := by decide +kernel
theorem dX12_isSignByte_67 : decode cX12_isSignByte 67 = .ok (.if_icmp .eq 9, 3) := by decide +kernel
theorem dX12_isSignByte_7 : decode cX12_isSignByte 7 = .ok (.bipush 93, 2) := by decide +kernel
theorem dX12_isSignByte_70 : decode cX12_isSignByte 70 = .ok (.iload_n 0, 1) := by decide +kernel
theorem dX12_isSignByte_71 : decode cX12_isSignByte 71 = .ok (.bipush 41, 2) := by decide +kernel
theorem dX12_isSignByte_73 : decode cX12_isSignByte 73 = .ok (.if_icmp .ne 7, 3) := by decide +kernel
theorem dX12_isSignByte_76 : decode cX12_isSignByte 76 = .ok (.iconst 1, 1) := by decide +kernel
theorem dX12_isSignByte_77 : decode cX12_isSignByte 77 = .ok (.goto 4, 3) := by decide +kernel
theorem dX12_isSignByte_80 : decode cX12_isSignByte 80 = .ok (.iconst 0, 1) := by decide +kernel
theorem dX12_isSignByte_81 : decode cX12_isSignByte 81 = .ok (.ireturn, 1) := by decide +kernel
theorem dX12_isSignByte_9 : decode cX12_isSignByte 9 = .ok (.if_icmp .eq 21, 3) := by decide +kernel
theorem dX12_isSign_0 : decode cX12_isSign 0 = .ok (.aload_n 0, 1) := by decide +kernel
theorem dX12_isSign_1 : decode cX12_isSign 1 = .ok (.getfield 108, 3) := by decide +kernel
theorem dX12_isSign_11 : decode cX12_isSign 11 = .ok (.iload_n 1, 1) := by decide +kernel
theorem dX12_isSign_12 : decode cX12_isSign 12 = .ok (.if_icmp .ne 7, 3) := by decide +kernel
theorem dX12_isSign_15 : decode cX12_isSign 15 = .ok (.iconst 1, 1) := by decide +kernel
theorem dX12_isSign_16 : decode cX12_isSign 16 = .ok (.goto 4, 3) := by decide +kernel
theorem dX12_isSign_19 : decode cX12_isSign 19 = .ok (.iconst 0, 1) := by decide +kernel
theorem dX12_isSign_20 : decode cX12_isSign 20 = .ok (.ireturn, 1) := by decide +kernel
theorem dX12_isSign_4 : decode cX12_isSign 4 = .ok (.ifCond .ne 15, 3) := by decide +kernel
theorem dX12_isSign_7 : decode cX12_isSign 7 = .ok (.aload_n 0, 1) := by decide +kernel
theorem dX12_isSign_8 : decode cX12_isSign 8 = .ok (.getfield 88, 3) := by decide +kernel
theorem dX12_isThing_0 : decode cX12_isThing 0 = .ok (.lload_n 1, 1) := by decide +kernel
theorem dX12_isThing_1 : decode cX12_isThing 1 = .ok (.lconst 0, 1) := by decide +kernel
theorem dX12_isThing_12 : decode cX12_isThing 12 = .ok (.ireturn, 1) := by decide +kernel
theorem dX12_isThing_2 : decode cX12_isThing 2 = .ok (.aload_n 0, 1) := by decide +kernel
theorem dX12_isThing_3 : decode cX12_isThing 3 = .ok (.invokevirtual 275, 3) := by decide +kernel
theorem dX12_isThing_6 : decode cX12_isThing 6 = .ok (.iconst 1, 1) := by decide +kernel
theorem dX12_isThing_7 : decode cX12_isThing 7 = .ok (.isub, 1) := by decide +kernel
theorem dX12_isThing_8 : decode cX12_isThing 8 = .ok (.i2l, 1) := by decide +kernel
theorem dX12_isThing_9 : decode cX12_isThing 9 = .ok (.invokestatic 137, 3) := by decide +kernel
theorem dX12_isTray_0 : decode cX12_isTray 0 = .ok (.iload_n 0, 1) := by decide +kernel
theorem dX12_isTray_1 : decode cX12_isTray 1 = .ok (.i2l, 1) := by decide +kernel
theorem dX12_isTray_2 : decode cX12_isTray 2 = .ok (.lconst 0, 1) := by decide +kernel
theorem dX12_isTray_3 : decode cX12_isTray 3 = .ok (.ldc2_w 404, 3) := by decide +kernel
theorem dX12_isTray_6 : decode cX12_isTray 6 = .ok (.invokestatic 137, 3) := by decide +kernel
theorem dX12_isTray_9 : decode cX12_isTray 9 = .ok (.ireturn, 1) := by decide +kernel
theorem dX12_keeps_0 : decode cX12_keeps 0 = .ok (.aload_n 0, 1) := by decide +kernel
theorem dX12_keeps_1 : decode cX12_keeps 1 = .ok (.getfield 9, 3) := by decide +kernel
theorem dX12_keeps_100 : decode cX12_keeps 100 = .ok (.getfield 9, 3) := by decide +kernel
theorem dX12_keeps_103 : decode cX12_keeps 103 = .ok (.bipush 7, 2) := by decide +kernel
theorem dX12_keeps_105 : decode cX12_keeps 105 = .ok (.dup2, 1) := by decide +kernel
theorem dX12_keeps_106 : decode cX12_keeps 106 = .ok (.iaload, 1) := by decide +kernel
theorem dX12_keeps_107 : decode cX12_keeps 107 = .ok (.iconst 1, 1) := by decide +kernel
theorem dX12_keeps_108 : decode cX12_keeps 108 = .ok (.iadd, 1) := by decide +kernel
theorem dX12_keeps_109 : decode cX12_keeps 109 = .ok (.iastore, 1) := by decide +kernel
theorem dX12_keeps_110 : decode cX12_keeps 110 = .ok (.return_, 1) := by decide +kernel
theorem dX12_keeps_12 : decode cX12_keeps 12 = .ok (.sipush 168, 3) := by decide +kernel
theorem dX12_keeps_15 : decode cX12_keeps 15 = .ok (.istore_n 1, 1) := by decide +kernel
theorem dX12_keeps_16 : decode cX12_keeps 16 = .ok (.iload_n 1, 1) := by decide +kernel
theorem dX12_keeps_17 : decode cX12_keeps 17 = .ok (.sipush 366, 3) := by decide +kernel
theorem dX12_keeps_20 : decode cX12_keeps 20 = .ok (.if_icmp .ge 24, 3) := by decide +kernel
theorem dX12_keeps_23 : decode cX12_keeps 23 = .ok (.aload_n 0, 1) := by decide +kernel
theorem dX12_keeps_24 : decode cX12_keeps 24 = .ok (.getfield 9, 3) := by decide +kernel
theorem dX12_keeps_27 : decode cX12_keeps 27 = .ok (.iload_n 1, 1) := by decide +kernel
theorem dX12_keeps_28 : decode cX12_keeps 28 = .ok (.aload_n 0, 1) := by decide +kernel
theorem dX12_keeps_29 : decode cX12_keeps 29 = .ok (.getfield 9, 3) := by decide +kernel
theorem dX12_keeps_32 : decode cX12_keeps 32 = .ok (.iload_n 1, 1) := by decide +kernel
theorem dX12_keeps_33 : decode cX12_keeps 33 = .ok (.bipush 18, 2) := by decide +kernel
theorem dX12_keeps_35 : decode cX12_keeps 35 = .ok (.iadd, 1) := by decide +kernel
theorem dX12_keeps_36 : decode cX12_keeps 36 = .ok (.iaload, 1) := by decide +kernel
theorem dX12_keeps_37 : decode cX12_keeps 37 = .ok (.iastore, 1) := by decide +kernel
theorem dX12_keeps_38 : decode cX12_keeps 38 = .ok (.iinc 1 1, 3) := by decide +kernel
theorem dX12_keeps_4 : decode cX12_keeps 4 = .ok (.bipush 7, 2) := by decide +kernel
theorem dX12_keeps_41 : decode cX12_keeps 41 = .ok (.goto (-25), 3) := by decide +kernel
theorem dX12_keeps_44 : decode cX12_keeps 44 = .ok (.aload_n 0, 1) := by decide +kernel
theorem dX12_keeps_45 : decode cX12_keeps 45 = .ok (.getfield 9, 3) := by decide +kernel
theorem dX12_keeps_48 : decode cX12_keeps 48 = .ok (.bipush 7, 2) := by decide +kernel
theorem dX12_keeps_50 : decode cX12_keeps 50 = .ok (.dup2, 1) := by decide +kernel
theorem dX12_keeps_51 : decode cX12_keeps 51 = .ok (.iaload, 1) := by decide +kernel
theorem dX12_keeps_52 : decode cX12_keeps 52 = .ok (.iconst 1, 1) := by decide +kernel
theorem dX12_keeps_53 : decode cX12_keeps 53 = .ok (.isub, 1) := by decide +kernel
theorem dX12_keeps_54 : decode cX12_keeps 54 = .ok (.iastore, 1) := by decide +kernel
theorem dX12_keeps_55 : decode cX12_keeps 55 = .ok (.iconst 0, 1) := by decide +kernel
theorem dX12_keeps_56 : decode cX12_keeps 56 = .ok (.istore_n 1, 1) := by decide +kernel
theorem dX12_keeps_57 : decode cX12_keeps 57 = .ok (.iload_n 1, 1) := by decide +kernel
theorem dX12_keeps_58 : decode cX12_keeps 58 = .ok (.bipush 18, 2) := by decide +kernel
theorem dX12_keeps_6 : decode cX12_keeps 6 = .ok (.iaload, 1) := by decide +kernel
theorem dX12_keeps_60 : decode cX12_keeps 60 = .ok (.if_icmp .ge 39, 3) := by decide +kernel
theorem dX12_keeps_63 : decode cX12_keeps 63 = .ok (.aload_n 0, 1) := by decide +kernel
theorem dX12_keeps_64 : decode cX12_keeps 64 = .ok (.getfield 9, 3) := by decide +kernel
theorem dX12_keeps_67 : decode cX12_keeps 67 = .ok (.sipush 168, 3) := by decide +kernel
theorem dX12_keeps_7 : decode cX12_keeps 7 = .ok (.bipush 12, 2) := by decide +kernel
theorem dX12_keeps_70 : decode cX12_keeps 70 = .ok (.bipush 18, 2) := by decide +kernel
theorem dX12_keeps_72 : decode cX12_keeps 72 = .ok (.aload_n 0, 1) := by decide +kernel
theorem dX12_keeps_73 : decode cX12_keeps 73 = .ok (.getfield 9, 3) := by decide +kernel
theorem dX12_keeps_76 : decode cX12_keeps 76 = .ok (.bipush 7, 2) := by decide +kernel
theorem dX12_keeps_78 : decode cX12_keeps 78 = .ok (.iaload, 1) := by decide +kernel
theorem dX12_keeps_79 : decode cX12_keeps 79 = .ok (.imul, 1) := by decide +kernel
theorem dX12_keeps_80 : decode cX12_keeps 80 = .ok (.iadd, 1) := by decide +kernel
theorem dX12_keeps_81 : decode cX12_keeps 81 = .ok (.iload_n 1, 1) := by decide +kernel
theorem dX12_keeps_82 : decode cX12_keeps 82 = .ok (.iadd, 1) := by decide +kernel
theorem dX12_keeps_83 : decode cX12_keeps 83 = .ok (.aload_n 0, 1) := by decide +kernel
theorem dX12_keeps_84 : decode cX12_keeps 84 = .ok (.getfield 9, 3) := by decide +kernel
theorem dX12_keeps_87 : decode cX12_keeps 87 = .ok (.bipush 8, 2) := by decide +kernel
theorem dX12_keeps_89 : decode cX12_keeps 89 = .ok (.iload_n 1, 1) := by decide +kernel
theorem dX12_keeps_9 : decode cX12_keeps 9 = .ok (.if_icmp .ne 46, 3) := by decide +kernel
theorem dX12_keeps_90 : decode cX12_keeps 90 = .ok (.iadd, 1) := by decide +kernel
theorem dX12_keeps_91 : decode cX12_keeps 91 = .ok (.iaload, 1) := by decide +kernel
theorem dX12_keeps_92 : decode cX12_keeps 92 = .ok (.iastore, 1) := by decide +kernel
theorem dX12_keeps_93 : decode cX12_keeps 93 = .ok (.iinc 1 1, 3) := by decide +kernel
theorem dX12_keeps_96 : decode cX12_keeps 96 = .ok (.goto (-39), 3) := by decide +kernel
theorem dX12_keeps_99 : decode cX12_keeps 99 = .ok (.aload_n 0, 1) := by decide +kernel
theorem dX12_lies_0 : decode cX12_lies 0 = .ok (.aload_n 0, 1) := by decide +kernel
theorem dX12_lies_1 : decode cX12_lies 1 = .ok (.getfield 9, 3) := by decide +kernel
theorem dX12_lies_4 : decode cX12_lies 4 = .ok (.bipush 8, 2) := by decide +kernel
theorem dX12_lies_6 : decode cX12_lies 6 = .ok (.iload_n 1, 1) := by decide +kernel
theorem dX12_lies_7 : decode cX12_lies 7 = .ok (.iadd, 1) := by decide +kernel
theorem dX12_lies_8 : decode cX12_lies 8 = .ok (.iaload, 1) := by decide +kernel
theorem dX12_lies_9 : decode cX12_lies 9 = .ok (.ireturn, 1) := by decide +kernel
theorem dX12_minutesOf_0 : decode cX12_minutesOf 0 = .ok (.aload_n 0, 1) := by decide +kernel
theorem dX12_minutesOf_1 : decode cX12_minutesOf 1 = .ok (.aload_n 0, 1) := by decide +kernel
theorem dX12_minutesOf_10 : decode cX12_minutesOf 10 = .ok (.aload_n 0, 1) := by decide +kernel
theorem dX12_minutesOf_11 : decode cX12_minutesOf 11 = .ok (.getfield 9, 3) := by decide +kernel
theorem dX12_minutesOf_14 : decode cX12_minutesOf 14 = .ok (.bipush 34, 2) := by decide +kernel
theorem dX12_minutesOf_16 : decode cX12_minutesOf 16 = .ok (.iload_n 1, 1) := by decide +kernel
theorem dX12_minutesOf_17 : decode cX12_minutesOf 17 = .ok (.iadd, 1) := by decide +kernel
theorem dX12_minutesOf_18 : decode cX12_minutesOf 18 = .ok (.iaload, 1) := by decide +kernel
theorem dX12_minutesOf_19 : decode cX12_minutesOf 19 = .ok (.imul, 1) := by decide +kernel
theorem dX12_minutesOf_2 : decode cX12_minutesOf 2 = .ok (.iload_n 1, 1) := by decide +kernel
theorem dX12_minutesOf_20 : decode cX12_minutesOf 20 = .ok (.ireturn, 1) := by decide +kernel
theorem dX12_minutesOf_3 : decode cX12_minutesOf 3 = .ok (.invokevirtual 317, 3) := by decide +kernel
theorem dX12_minutesOf_6 : decode cX12_minutesOf 6 = .ok (.iload_n 2, 1) := by decide +kernel
theorem dX12_minutesOf_7 : decode cX12_minutesOf 7 = .ok (.invokevirtual 349, 3) := by decide +kernel
theorem dX12_place_0 : decode cX12_place 0 = .ok (.aload_n 0, 1) := by decide +kernel
theorem dX12_place_1 : decode cX12_place 1 = .ok (.aload_n 0, 1) := by decide +kernel
theorem dX12_place_10 : decode cX12_place 10 = .ok (.iconst 1, 1) := by decide +kernel
theorem dX12_place_100 : decode cX12_place 100 = .ok (.ishl, 1) := by decide +kernel
theorem dX12_place_101 : decode cX12_place 101 = .ok (.goto 4, 3) := by decide +kernel
theorem dX12_place_104 : decode cX12_place 104 = .ok (.iconst 0, 1) := by decide +kernel
theorem dX12_place_105 : decode cX12_place 105 = .ok (.ior, 1) := by decide +kernel
theorem dX12_place_106 : decode cX12_place 106 = .ok (.istore_n 3, 1) := by decide +kernel
theorem dX12_place_107 : decode cX12_place 107 = .ok (.iinc 4 1, 3) := by decide +kernel
theorem dX12_place_11 : decode cX12_place 11 = .ok (.goto 20, 3) := by decide +kernel
theorem dX12_place_110 : decode cX12_place 110 = .ok (.goto (-49), 3) := by decide +kernel
theorem dX12_place_113 : decode cX12_place 113 = .ok (.iload_n 3, 1) := by decide +kernel
theorem dX12_place_114 : decode cX12_place 114 = .ok (.ireturn, 1) := by decide +kernel
theorem dX12_place_14 : decode cX12_place 14 = .ok (.iload_n 2, 1) := by decide +kernel
theorem dX12_place_15 : decode cX12_place 15 = .ok (.i2l, 1) := by decide +kernel
theorem dX12_place_16 : decode cX12_place 16 = .ok (.lconst 0, 1) := by decide +kernel
theorem dX12_place_17 : decode cX12_place 17 = .ok (.ldc2_w 344, 3) := by decide +kernel
theorem dX12_place_2 : decode cX12_place 2 = .ok (.iload_n 1, 1) := by decide +kernel
theorem dX12_place_20 : decode cX12_place 20 = .ok (.invokestatic 137, 3) := by decide +kernel
theorem dX12_place_23 : decode cX12_place 23 = .ok (.ifCond .eq 7, 3) := by decide +kernel
theorem dX12_place_26 : decode cX12_place 26 = .ok (.iconst 0, 1) := by decide +kernel
theorem dX12_place_27 : decode cX12_place 27 = .ok (.goto 4, 3) := by decide +kernel
theorem dX12_place_3 : decode cX12_place 3 = .ok (.i2l, 1) := by decide +kernel
theorem dX12_place_30 : decode cX12_place 30 = .ok (.iconst 2, 1) := by decide +kernel
theorem dX12_place_31 : decode cX12_place 31 = .ok (.putfield 73, 3) := by decide +kernel
theorem dX12_place_34 : decode cX12_place 34 = .ok (.aload_n 0, 1) := by decide +kernel
theorem dX12_place_35 : decode cX12_place 35 = .ok (.getfield 73, 3) := by decide +kernel
theorem dX12_place_38 : decode cX12_place 38 = .ok (.ifCond .le 5, 3) := by decide +kernel
theorem dX12_place_4 : decode cX12_place 4 = .ok (.invokevirtual 341, 3) := by decide +kernel
theorem dX12_place_41 : decode cX12_place 41 = .ok (.iconst 0, 1) := by decide +kernel
theorem dX12_place_42 : decode cX12_place 42 = .ok (.ireturn, 1) := by decide +kernel
theorem dX12_place_43 : decode cX12_place 43 = .ok (.iload_n 2, 1) := by decide +kernel
theorem dX12_place_44 : decode cX12_place 44 = .ok (.ifCond .ne 12, 3) := by decide +kernel
theorem dX12_place_47 : decode cX12_place 47 = .ok (.aload_n 0, 1) := by decide +kernel
theorem dX12_place_48 : decode cX12_place 48 = .ok (.getfield 9, 3) := by decide +kernel
theorem dX12_place_51 : decode cX12_place 51 = .ok (.iload_n 1, 1) := by decide +kernel
theorem dX12_place_52 : decode cX12_place 52 = .ok (.invokestatic 209, 3) := by decide +kernel
theorem dX12_place_55 : decode cX12_place 55 = .ok (.ireturn, 1) := by decide +kernel
theorem dX12_place_56 : decode cX12_place 56 = .ok (.iconst 0, 1) := by decide +kernel
theorem dX12_place_57 : decode cX12_place 57 = .ok (.istore_n 3, 1) := by decide +kernel
theorem dX12_place_58 : decode cX12_place 58 = .ok (.iconst 0, 1) := by decide +kernel
theorem dX12_place_59 : decode cX12_place 59 = .ok (.istore 4, 2) := by decide +kernel
theorem dX12_place_61 : decode cX12_place 61 = .ok (.iload 4, 2) := by decide +kernel
theorem dX12_place_63 : decode cX12_place 63 = .ok (.aload_n 0, 1) := by decide +kernel
theorem dX12_place_64 : decode cX12_place 64 = .ok (.invokevirtual 273, 3) := by decide +kernel
theorem dX12_place_67 : decode cX12_place 67 = .ok (.if_icmp .ge 46, 3) := by decide +kernel
theorem dX12_place_7 : decode cX12_place 7 = .ok (.ifCond .ne 7, 3) := by decide +kernel
theorem dX12_place_70 : decode cX12_place 70 = .ok (.iload_n 3, 1) := by decide +kernel
theorem dX12_place_71 : decode cX12_place 71 = .ok (.iload_n 2, 1) := by decide +kernel
theorem dX12_place_72 : decode cX12_place 72 = .ok (.iconst 1, 1) := by decide +kernel
theorem dX12_place_73 : decode cX12_place 73 = .ok (.if_icmp .ne 13, 3) := by decide +kernel
theorem dX12_place_76 : decode cX12_place 76 = .ok (.aload_n 0, 1) := by decide +kernel
theorem dX12_place_77 : decode cX12_place 77 = .ok (.iload_n 1, 1) := by decide +kernel
theorem dX12_place_78 : decode cX12_place 78 = .ok (.iload 4, 2) := by decide +kernel
theorem dX12_place_80 : decode cX12_place 80 = .ok (.invokevirtual 320, 3) := by decide +kernel
theorem dX12_place_83 : decode cX12_place 83 = .ok (.ifCond .ne 14, 3) := by decide +kernel
theorem dX12_place_86 : decode cX12_place 86 = .ok (.aload_n 0, 1) := by decide +kernel
theorem dX12_place_87 : decode cX12_place 87 = .ok (.iload_n 1, 1) := by decide +kernel
theorem dX12_place_88 : decode cX12_place 88 = .ok (.iload 4, 2) := by decide +kernel
theorem dX12_place_90 : decode cX12_place 90 = .ok (.invokevirtual 320, 3) := by decide +kernel
theorem dX12_place_93 : decode cX12_place 93 = .ok (.iconst 2, 1) := by decide +kernel
theorem dX12_place_94 : decode cX12_place 94 = .ok (.if_icmp .ne 10, 3) := by decide +kernel
theorem dX12_place_97 : decode cX12_place 97 = .ok (.iconst 1, 1) := by decide +kernel
theorem dX12_place_98 : decode cX12_place 98 = .ok (.iload 4, 2) := by decide +kernel
theorem dX12_places_0 : decode cX12_places 0 = .ok (.aload_n 0, 1) := by decide +kernel
theorem dX12_places_1 : decode cX12_places 1 = .ok (.getfield 9, 3) := by decide +kernel
theorem dX12_places_4 : decode cX12_places 4 = .ok (.iconst 1, 1) := by decide +kernel
theorem dX12_places_5 : decode cX12_places 5 = .ok (.iaload, 1) := by decide +kernel
theorem dX12_places_6 : decode cX12_places 6 = .ok (.ireturn, 1) := by decide +kernel
theorem dX12_pour_0 : decode cX12_pour 0 = .ok (.aload_n 0, 1) := by decide +kernel
theorem dX12_pour_1 : decode cX12_pour 1 = .ok (.aload_n 0, 1) := by decide +kernel
theorem dX12_pour_10 : decode cX12_pour 10 = .ok (.getfield 73, 3) := by decide +kernel
theorem dX12_pour_13 : decode cX12_pour 13 = .ok (.ifCond .le 5, 3) := by decide +kernel
theorem dX12_pour_16 : decode cX12_pour 16 = .ok (.iconst 0, 1) := by decide +kernel
theorem dX12_pour_17 : decode cX12_pour 17 = .ok (.ireturn, 1) := by decide +kernel
theorem dX12_pour_18 : decode cX12_pour 18 = .ok (.aload_n 0, 1) := by decide +kernel
theorem dX12_pour_19 : decode cX12_pour 19 = .ok (.getfield 66, 3) := by decide +kernel
theorem dX12_pour_2 : decode cX12_pour 2 = .ok (.iload_n 1, 1) := by decide +kernel
theorem dX12_pour_22 : decode cX12_pour 22 = .ok (.iload_n 1, 1) := by decide +kernel
theorem dX12_pour_23 : decode cX12_pour 23 = .ok (.iaload, 1) := by decide +kernel
theorem dX12_pour_24 : decode cX12_pour 24 = .ok (.aload_n 0, 1) := by decide +kernel
theorem dX12_pour_25 : decode cX12_pour 25 = .ok (.invokevirtual 275, 3) := by decide +kernel
theorem dX12_pour_28 : decode cX12_pour 28 = .ok (.invokestatic 309, 3) := by decide +kernel
theorem dX12_pour_3 : decode cX12_pour 3 = .ok (.invokevirtual 401, 3) := by decide +kernel
theorem dX12_pour_31 : decode cX12_pour 31 = .ok (.istore_n 2, 1) := by decide +kernel
theorem dX12_pour_32 : decode cX12_pour 32 = .ok (.iconst 0, 1) := by decide +kernel
theorem dX12_pour_33 : decode cX12_pour 33 = .ok (.istore_n 3, 1) := by decide +kernel
theorem dX12_pour_34 : decode cX12_pour 34 = .ok (.iload_n 3, 1) := by decide +kernel
theorem dX12_pour_35 : decode cX12_pour 35 = .ok (.iload_n 2, 1) := by decide +kernel
theorem dX12_pour_36 : decode cX12_pour 36 = .ok (.if_icmp .ge 22, 3) := by decide +kernel
theorem dX12_pour_39 : decode cX12_pour 39 = .ok (.aload_n 0, 1) := by decide +kernel
theorem dX12_pour_40 : decode cX12_pour 40 = .ok (.iload_n 1, 1) := by decide +kernel
theorem dX12_pour_41 : decode cX12_pour 41 = .ok (.iload_n 3, 1) := by decide +kernel
theorem dX12_pour_42 : decode cX12_pour 42 = .ok (.aload_n 0, 1) := by decide +kernel
theorem dX12_pour_43 : decode cX12_pour 43 = .ok (.iload_n 3, 1) := by decide +kernel
theorem dX12_pour_44 : decode cX12_pour 44 = .ok (.invokevirtual 317, 3) := by decide +kernel
theorem dX12_pour_47 : decode cX12_pour 47 = .ok (.i2l, 1) := by decide +kernel
theorem dX12_pour_48 : decode cX12_pour 48 = .ok (.invokevirtual 535, 3) := by decide +kernel
theorem dX12_pour_51 : decode cX12_pour 51 = .ok (.pop2, 1) := by decide +kernel
theorem dX12_pour_52 : decode cX12_pour 52 = .ok (.iinc 3 1, 3) := by decide +kernel
theorem dX12_pour_55 : decode cX12_pour 55 = .ok (.goto (-21), 3) := by decide +kernel
theorem dX12_pour_58 : decode cX12_pour 58 = .ok (.iload_n 2, 1) := by decide +kernel
theorem dX12_pour_59 : decode cX12_pour 59 = .ok (.ireturn, 1) := by decide +kernel
theorem dX12_pour_6 : decode cX12_pour 6 = .ok (.putfield 73, 3) := by decide +kernel
theorem dX12_pour_9 : decode cX12_pour 9 = .ok (.aload_n 0, 1) := by decide +kernel
theorem dX12_putsAside_0 : decode cX12_putsAside 0 = .ok (.iconst 0, 1) := by decide +kernel
theorem dX12_putsAside_1 : decode cX12_putsAside 1 = .ok (.istore_n 1, 1) := by decide +kernel
theorem dX12_putsAside_12 : decode cX12_putsAside 12 = .ok (.iload_n 1, 1) := by decide +kernel
theorem dX12_putsAside_13 : decode cX12_putsAside 13 = .ok (.aload_n 0, 1) := by decide +kernel
theorem dX12_putsAside_14 : decode cX12_putsAside 14 = .ok (.getfield 9, 3) := by decide +kernel
theorem dX12_putsAside_17 : decode cX12_putsAside 17 = .ok (.bipush 8, 2) := by decide +kernel
theorem dX12_putsAside_19 : decode cX12_putsAside 19 = .ok (.iload_n 1, 1) := by decide +kernel
theorem dX12_putsAside_2 : decode cX12_putsAside 2 = .ok (.iload_n 1, 1) := by decide +kernel
theorem dX12_putsAside_20 : decode cX12_putsAside 20 = .ok (.iadd, 1) := by decide +kernel
theorem dX12_putsAside_21 : decode cX12_putsAside 21 = .ok (.iaload, 1) := by decide +kernel
theorem dX12_putsAside_22 : decode cX12_putsAside 22 = .ok (.iastore, 1) := by decide +kernel
theorem dX12_putsAside_23 : decode cX12_putsAside 23 = .ok (.iinc 1 1, 3) := by decide +kernel
theorem dX12_putsAside_26 : decode cX12_putsAside 26 = .ok (.goto (-24), 3) := by decide +kernel
theorem dX12_putsAside_29 : decode cX12_putsAside 29 = .ok (.return_, 1) := by decide +kernel
theorem dX12_putsAside_3 : decode cX12_putsAside 3 = .ok (.bipush 18, 2) := by decide +kernel
theorem dX12_putsAside_5 : decode cX12_putsAside 5 = .ok (.if_icmp .ge 24, 3) := by decide +kernel
theorem dX12_putsAside_8 : decode cX12_putsAside 8 = .ok (.aload_n 0, 1) := by decide +kernel
theorem dX12_putsAside_9 : decode cX12_putsAside 9 = .ok (.getfield 33, 3) := by decide +kernel
theorem dX12_putsBack_0 : decode cX12_putsBack 0 = .ok (.iconst 0, 1) := by decide +kernel
theorem dX12_putsBack_1 : decode cX12_putsBack 1 = .ok (.istore_n 1, 1) := by decide +kernel
theorem dX12_putsBack_12 : decode cX12_putsBack 12 = .ok (.bipush 8, 2) := by decide +kernel
theorem dX12_putsBack_14 : decode cX12_putsBack 14 = .ok (.iload_n 1, 1) := by decide +kernel
theorem dX12_putsBack_15 : decode cX12_putsBack 15 = .ok (.iadd, 1) := by decide +kernel
theorem dX12_putsBack_16 : decode cX12_putsBack 16 = .ok (.aload_n 0, 1) := by decide +kernel
theorem dX12_putsBack_17 : decode cX12_putsBack 17 = .ok (.getfield 33, 3) := by decide +kernel
theorem dX12_putsBack_2 : decode cX12_putsBack 2 = .ok (.iload_n 1, 1) := by decide +kernel
theorem dX12_putsBack_20 : decode cX12_putsBack 20 = .ok (.iload_n 1, 1) := by decide +kernel
theorem dX12_putsBack_21 : decode cX12_putsBack 21 = .ok (.iaload, 1) := by decide +kernel
theorem dX12_putsBack_22 : decode cX12_putsBack 22 = .ok (.iastore, 1) := by decide +kernel
theorem dX12_putsBack_23 : decode cX12_putsBack 23 = .ok (.iinc 1 1, 3) := by decide +kernel
theorem dX12_putsBack_26 : decode cX12_putsBack 26 = .ok (.goto (-24), 3) := by decide +kernel
theorem dX12_putsBack_29 : decode cX12_putsBack 29 = .ok (.return_, 1) := by decide +kernel
theorem dX12_putsBack_3 : decode cX12_putsBack 3 = .ok (.bipush 18, 2) := by decide +kernel
theorem dX12_putsBack_5 : decode cX12_putsBack 5 = .ok (.if_icmp .ge 24, 3) := by decide +kernel
theorem dX12_putsBack_8 : decode cX12_putsBack 8 = .ok (.aload_n 0, 1) := by decide +kernel
theorem dX12_putsBack_9 : decode cX12_putsBack 9 = .ok (.getfield 9, 3) := by decide +kernel
theorem dX12_restore_0 : decode cX12_restore 0 = .ok (.aload_n 0, 1) := by decide +kernel
theorem dX12_restore_1 : decode cX12_restore 1 = .ok (.iload_n 1, 1) := by decide +kernel
theorem dX12_restore_10 : decode cX12_restore 10 = .ok (.ifCond .ne 7, 3) := by decide +kernel
theorem dX12_restore_13 : decode cX12_restore 13 = .ok (.iconst 1, 1) := by decide +kernel
theorem dX12_restore_14 : decode cX12_restore 14 = .ok (.goto 17, 3) := by decide +kernel
theorem dX12_restore_17 : decode cX12_restore 17 = .ok (.aload_n 0, 1) := by decide +kernel
theorem dX12_restore_18 : decode cX12_restore 18 = .ok (.getfield 19, 3) := by decide +kernel
theorem dX12_restore_2 : decode cX12_restore 2 = .ok (.i2l, 1) := by decide +kernel
theorem dX12_restore_21 : decode cX12_restore 21 = .ok (.iload_n 1, 1) := by decide +kernel
theorem dX12_restore_22 : decode cX12_restore 22 = .ok (.baload, 1) := by decide +kernel
theorem dX12_restore_23 : decode cX12_restore 23 = .ok (.ifCond .ne 7, 3) := by decide +kernel
theorem dX12_restore_26 : decode cX12_restore 26 = .ok (.iconst 2, 1) := by decide +kernel
theorem dX12_restore_27 : decode cX12_restore 27 = .ok (.goto 4, 3) := by decide +kernel
theorem dX12_restore_3 : decode cX12_restore 3 = .ok (.lconst 0, 1) := by decide +kernel
theorem dX12_restore_30 : decode cX12_restore 30 = .ok (.iconst 0, 1) := by decide +kernel
theorem dX12_restore_31 : decode cX12_restore 31 = .ok (.putfield 73, 3) := by decide +kernel
theorem dX12_restore_34 : decode cX12_restore 34 = .ok (.aload_n 0, 1) := by decide +kernel
theorem dX12_restore_35 : decode cX12_restore 35 = .ok (.getfield 73, 3) := by decide +kernel
theorem dX12_restore_38 : decode cX12_restore 38 = .ok (.ifCond .le 4, 3) := by decide +kernel
theorem dX12_restore_4 : decode cX12_restore 4 = .ok (.ldc2_w 344, 3) := by decide +kernel
theorem dX12_restore_41 : decode cX12_restore 41 = .ok (.return_, 1) := by decide +kernel
theorem dX12_restore_42 : decode cX12_restore 42 = .ok (.iconst 0, 1) := by decide +kernel
theorem dX12_restore_43 : decode cX12_restore 43 = .ok (.istore_n 2, 1) := by decide +kernel
theorem dX12_restore_44 : decode cX12_restore 44 = .ok (.iload_n 2, 1) := by decide +kernel
theorem dX12_restore_45 : decode cX12_restore 45 = .ok (.sipush 1300, 3) := by decide +kernel
theorem dX12_restore_48 : decode cX12_restore 48 = .ok (.if_icmp .ge 27, 3) := by decide +kernel
theorem dX12_restore_51 : decode cX12_restore 51 = .ok (.aload_n 0, 1) := by decide +kernel
theorem dX12_restore_52 : decode cX12_restore 52 = .ok (.getfield 9, 3) := by decide +kernel
theorem dX12_restore_55 : decode cX12_restore 55 = .ok (.iload_n 2, 1) := by decide +kernel
theorem dX12_restore_56 : decode cX12_restore 56 = .ok (.aload_n 0, 1) := by decide +kernel
theorem dX12_restore_57 : decode cX12_restore 57 = .ok (.getfield 16, 3) := by decide +kernel
theorem dX12_restore_60 : decode cX12_restore 60 = .ok (.sipush 1300, 3) := by decide +kernel
theorem dX12_restore_63 : decode cX12_restore 63 = .ok (.iload_n 1, 1) := by decide +kernel
theorem dX12_restore_64 : decode cX12_restore 64 = .ok (.imul, 1) := by decide +kernel
theorem dX12_restore_65 : decode cX12_restore 65 = .ok (.iload_n 2, 1) := by decide +kernel
theorem dX12_restore_66 : decode cX12_restore 66 = .ok (.iadd, 1) := by decide +kernel
theorem dX12_restore_67 : decode cX12_restore 67 = .ok (.iaload, 1) := by decide +kernel
theorem dX12_restore_68 : decode cX12_restore 68 = .ok (.iastore, 1) := by decide +kernel
theorem dX12_restore_69 : decode cX12_restore 69 = .ok (.iinc 2 1, 3) := by decide +kernel
theorem dX12_restore_7 : decode cX12_restore 7 = .ok (.invokestatic 137, 3) := by decide +kernel
theorem dX12_restore_72 : decode cX12_restore 72 = .ok (.goto (-28), 3) := by decide +kernel
theorem dX12_restore_75 : decode cX12_restore 75 = .ok (.return_, 1) := by decide +kernel
theorem dX12_see_0 : decode cX12_see 0 = .ok (.iload_n 1, 1) := by decide +kernel
theorem dX12_see_1 : decode cX12_see 1 = .ok (.aload_n 0, 1) := by decide +kernel
theorem dX12_see_12 : decode cX12_see 12 = .ok (.iload_n 1, 1) := by decide +kernel
theorem dX12_see_13 : decode cX12_see 13 = .ok (.iaload, 1) := by decide +kernel
theorem dX12_see_14 : decode cX12_see 14 = .ok (.goto 4, 3) := by decide +kernel
theorem dX12_see_17 : decode cX12_see 17 = .ok (.iconst 0, 1) := by decide +kernel
theorem dX12_see_18 : decode cX12_see 18 = .ok (.ireturn, 1) := by decide +kernel
theorem dX12_see_2 : decode cX12_see 2 = .ok (.getfield 79, 3) := by decide +kernel
theorem dX12_see_5 : decode cX12_see 5 = .ok (.if_icmp .ge 12, 3) := by decide +kernel
theorem dX12_see_8 : decode cX12_see 8 = .ok (.aload_n 0, 1) := by decide +kernel
theorem dX12_see_9 : decode cX12_see 9 = .ok (.getfield 23, 3) := by decide +kernel
theorem dX12_seenFault_0 : decode cX12_seenFault 0 = .ok (.aload_n 0, 1) := by decide +kernel
theorem dX12_seenFault_1 : decode cX12_seenFault 1 = .ok (.iload_n 1, 1) := by decide +kernel
theorem dX12_seenFault_10 : decode cX12_seenFault 10 = .ok (.iload_n 2, 1) := by decide +kernel
theorem dX12_seenFault_11 : decode cX12_seenFault 11 = .ok (.ireturn, 1) := by decide +kernel
theorem dX12_seenFault_12 : decode cX12_seenFault 12 = .ok (.aload_n 0, 1) := by decide +kernel
theorem dX12_seenFault_13 : decode cX12_seenFault 13 = .ok (.getfield 66, 3) := by decide +kernel
theorem dX12_seenFault_16 : decode cX12_seenFault 16 = .ok (.iload_n 1, 1) := by decide +kernel
theorem dX12_seenFault_17 : decode cX12_seenFault 17 = .ok (.iaload, 1) := by decide +kernel
theorem dX12_seenFault_18 : decode cX12_seenFault 18 = .ok (.i2l, 1) := by decide +kernel
theorem dX12_seenFault_19 : decode cX12_seenFault 19 = .ok (.lconst 1, 1) := by decide +kernel
theorem dX12_seenFault_2 : decode cX12_seenFault 2 = .ok (.invokevirtual 401, 3) := by decide +kernel
theorem dX12_seenFault_20 : decode cX12_seenFault 20 = .ok (.ldc2_w 527, 3) := by decide +kernel
theorem dX12_seenFault_23 : decode cX12_seenFault 23 = .ok (.invokestatic 137, 3) := by decide +kernel
theorem dX12_seenFault_26 : decode cX12_seenFault 26 = .ok (.ifCond .ne 5, 3) := by decide +kernel
theorem dX12_seenFault_29 : decode cX12_seenFault 29 = .ok (.iconst 3, 1) := by decide +kernel
theorem dX12_seenFault_30 : decode cX12_seenFault 30 = .ok (.ireturn, 1) := by decide +kernel
theorem dX12_seenFault_31 : decode cX12_seenFault 31 = .ok (.iconst 0, 1) := by decide +kernel
theorem dX12_seenFault_32 : decode cX12_seenFault 32 = .ok (.istore_n 3, 1) := by decide +kernel
theorem dX12_seenFault_33 : decode cX12_seenFault 33 = .ok (.iload_n 3, 1) := by decide +kernel
theorem dX12_seenFault_34 : decode cX12_seenFault 34 = .ok (.aload_n 0, 1) := by decide +kernel
theorem dX12_seenFault_35 : decode cX12_seenFault 35 = .ok (.getfield 66, 3) := by decide +kernel
theorem dX12_seenFault_38 : decode cX12_seenFault 38 = .ok (.iload_n 1, 1) := by decide +kernel
theorem dX12_seenFault_39 : decode cX12_seenFault 39 = .ok (.iaload, 1) := by decide +kernel
theorem dX12_seenFault_40 : decode cX12_seenFault 40 = .ok (.if_icmp .ge 29, 3) := by decide +kernel
theorem dX12_seenFault_43 : decode cX12_seenFault 43 = .ok (.aload_n 0, 1) := by decide +kernel
theorem dX12_seenFault_44 : decode cX12_seenFault 44 = .ok (.getfield 69, 3) := by decide +kernel
theorem dX12_seenFault_47 : decode cX12_seenFault 47 = .ok (.bipush 30, 2) := by decide +kernel
theorem dX12_seenFault_49 : decode cX12_seenFault 49 = .ok (.iload_n 1, 1) := by decide +kernel
theorem dX12_seenFault_5 : decode cX12_seenFault 5 = .ok (.istore_n 2, 1) := by decide +kernel
theorem dX12_seenFault_50 : decode cX12_seenFault 50 = .ok (.imul, 1) := by decide +kernel
theorem dX12_seenFault_51 : decode cX12_seenFault 51 = .ok (.iload_n 3, 1) := by decide +kernel
theorem dX12_seenFault_52 : decode cX12_seenFault 52 = .ok (.iadd, 1) := by decide +kernel
theorem dX12_seenFault_53 : decode cX12_seenFault 53 = .ok (.laload, 1) := by decide +kernel
theorem dX12_seenFault_54 : decode cX12_seenFault 54 = .ok (.ldc2_w 393, 3) := by decide +kernel
theorem dX12_seenFault_57 : decode cX12_seenFault 57 = .ok (.lcmp, 1) := by decide +kernel
theorem dX12_seenFault_58 : decode cX12_seenFault 58 = .ok (.ifCond .ge 5, 3) := by decide +kernel
theorem dX12_seenFault_6 : decode cX12_seenFault 6 = .ok (.iload_n 2, 1) := by decide +kernel
theorem dX12_seenFault_61 : decode cX12_seenFault 61 = .ok (.iconst 3, 1) := by decide +kernel
theorem dX12_seenFault_62 : decode cX12_seenFault 62 = .ok (.ireturn, 1) := by decide +kernel
theorem dX12_seenFault_63 : decode cX12_seenFault 63 = .ok (.iinc 3 1, 3) := by decide +kernel
theorem dX12_seenFault_66 : decode cX12_seenFault 66 = .ok (.goto (-33), 3) := by decide +kernel
theorem dX12_seenFault_69 : decode cX12_seenFault 69 = .ok (.iconst 0, 1) := by decide +kernel
theorem dX12_seenFault_7 : decode cX12_seenFault 7 = .ok (.ifCond .eq 5, 3) := by decide +kernel
theorem dX12_seenFault_70 : decode cX12_seenFault 70 = .ok (.ireturn, 1) := by decide +kernel
theorem dX12_sides_0 : decode cX12_sides 0 = .ok (.aload_n 0, 1) := by decide +kernel
theorem dX12_sides_1 : decode cX12_sides 1 = .ok (.iconst 0, 1) := by decide +kernel
theorem dX12_sides_10 : decode cX12_sides 10 = .ok (.istore_n 3, 1) := by decide +kernel
theorem dX12_sides_101 : decode cX12_sides 101 = .ok (.ishl, 1) := by decide +kernel
theorem dX12_sides_102 : decode cX12_sides 102 = .ok (.goto 4, 3) := by decide +kernel
theorem dX12_sides_105 : decode cX12_sides 105 = .ok (.iconst 0, 1) := by decide +kernel
theorem dX12_sides_106 : decode cX12_sides 106 = .ok (.ior, 1) := by decide +kernel
theorem dX12_sides_107 : decode cX12_sides 107 = .ok (.istore_n 2, 1) := by decide +kernel
theorem dX12_sides_108 : decode cX12_sides 108 = .ok (.iload_n 1, 1) := by decide +kernel
theorem dX12_sides_109 : decode cX12_sides 109 = .ok (.iload_n 2, 1) := by decide +kernel
theorem dX12_sides_11 : decode cX12_sides 11 = .ok (.iload_n 3, 1) := by decide +kernel
theorem dX12_sides_110 : decode cX12_sides 110 = .ok (.iload 5, 2) := by decide +kernel
theorem dX12_sides_112 : decode cX12_sides 112 = .ok (.invokestatic 346, 3) := by decide +kernel
theorem dX12_sides_115 : decode cX12_sides 115 = .ok (.ifCond .eq 10, 3) := by decide +kernel
theorem dX12_sides_118 : decode cX12_sides 118 = .ok (.iconst 1, 1) := by decide +kernel
theorem dX12_sides_119 : decode cX12_sides 119 = .ok (.iload 6, 2) := by decide +kernel
theorem dX12_sides_12 : decode cX12_sides 12 = .ok (.aload_n 0, 1) := by decide +kernel
theorem dX12_sides_121 : decode cX12_sides 121 = .ok (.ishl, 1) := by decide +kernel
theorem dX12_sides_122 : decode cX12_sides 122 = .ok (.goto 4, 3) := by decide +kernel
theorem dX12_sides_125 : decode cX12_sides 125 = .ok (.iconst 0, 1) := by decide +kernel
theorem dX12_sides_126 : decode cX12_sides 126 = .ok (.ior, 1) := by decide +kernel
theorem dX12_sides_127 : decode cX12_sides 127 = .ok (.istore_n 1, 1) := by decide +kernel
theorem dX12_sides_128 : decode cX12_sides 128 = .ok (.iinc 6 1, 3) := by decide +kernel
theorem dX12_sides_13 : decode cX12_sides 13 = .ok (.invokevirtual 273, 3) := by decide +kernel
theorem dX12_sides_131 : decode cX12_sides 131 = .ok (.goto (-66), 3) := by decide +kernel
theorem dX12_sides_134 : decode cX12_sides 134 = .ok (.iinc 5 1, 3) := by decide +kernel
theorem dX12_sides_137 : decode cX12_sides 137 = .ok (.goto (-84), 3) := by decide +kernel
theorem dX12_sides_140 : decode cX12_sides 140 = .ok (.iinc 4 1, 3) := by decide +kernel
theorem dX12_sides_143 : decode cX12_sides 143 = .ok (.goto (-102), 3) := by decide +kernel
theorem dX12_sides_146 : decode cX12_sides 146 = .ok (.iinc 3 1, 3) := by decide +kernel
theorem dX12_sides_149 : decode cX12_sides 149 = .ok (.goto (-138), 3) := by decide +kernel
theorem dX12_sides_152 : decode cX12_sides 152 = .ok (.iload_n 1, 1) := by decide +kernel
theorem dX12_sides_153 : decode cX12_sides 153 = .ok (.iload_n 2, 1) := by decide +kernel
theorem dX12_sides_154 : decode cX12_sides 154 = .ok (.iand, 1) := by decide +kernel
theorem dX12_sides_155 : decode cX12_sides 155 = .ok (.ifCond .eq 7, 3) := by decide +kernel
theorem dX12_sides_158 : decode cX12_sides 158 = .ok (.iconst (-1), 1) := by decide +kernel
theorem dX12_sides_159 : decode cX12_sides 159 = .ok (.goto 4, 3) := by decide +kernel
theorem dX12_sides_16 : decode cX12_sides 16 = .ok (.if_icmp .ge 136, 3) := by decide +kernel
theorem dX12_sides_162 : decode cX12_sides 162 = .ok (.iload_n 1, 1) := by decide +kernel
theorem dX12_sides_163 : decode cX12_sides 163 = .ok (.ireturn, 1) := by decide +kernel
theorem dX12_sides_19 : decode cX12_sides 19 = .ok (.iload_n 1, 1) := by decide +kernel
theorem dX12_sides_2 : decode cX12_sides 2 = .ok (.putfield 73, 3) := by decide +kernel
theorem dX12_sides_20 : decode cX12_sides 20 = .ok (.iload_n 2, 1) := by decide +kernel
theorem dX12_sides_21 : decode cX12_sides 21 = .ok (.ior, 1) := by decide +kernel
theorem dX12_sides_22 : decode cX12_sides 22 = .ok (.iload_n 3, 1) := by decide +kernel
theorem dX12_sides_23 : decode cX12_sides 23 = .ok (.invokestatic 346, 3) := by decide +kernel
theorem dX12_sides_26 : decode cX12_sides 26 = .ok (.ifCond .eq 6, 3) := by decide +kernel
theorem dX12_sides_29 : decode cX12_sides 29 = .ok (.goto 117, 3) := by decide +kernel
theorem dX12_sides_32 : decode cX12_sides 32 = .ok (.iload_n 1, 1) := by decide +kernel
theorem dX12_sides_33 : decode cX12_sides 33 = .ok (.iconst 1, 1) := by decide +kernel
theorem dX12_sides_34 : decode cX12_sides 34 = .ok (.iload_n 3, 1) := by decide +kernel
theorem dX12_sides_35 : decode cX12_sides 35 = .ok (.ishl, 1) := by decide +kernel
theorem dX12_sides_36 : decode cX12_sides 36 = .ok (.ior, 1) := by decide +kernel
theorem dX12_sides_37 : decode cX12_sides 37 = .ok (.istore_n 1, 1) := by decide +kernel
theorem dX12_sides_38 : decode cX12_sides 38 = .ok (.iconst 0, 1) := by decide +kernel
theorem dX12_sides_39 : decode cX12_sides 39 = .ok (.istore 4, 2) := by decide +kernel
theorem dX12_sides_41 : decode cX12_sides 41 = .ok (.iload 4, 2) := by decide +kernel
theorem dX12_sides_43 : decode cX12_sides 43 = .ok (.aload_n 0, 1) := by decide +kernel
theorem dX12_sides_44 : decode cX12_sides 44 = .ok (.invokevirtual 273, 3) := by decide +kernel
theorem dX12_sides_47 : decode cX12_sides 47 = .ok (.if_icmp .ge 99, 3) := by decide +kernel
theorem dX12_sides_5 : decode cX12_sides 5 = .ok (.iconst 0, 1) := by decide +kernel
theorem dX12_sides_50 : decode cX12_sides 50 = .ok (.iconst 0, 1) := by decide +kernel
theorem dX12_sides_51 : decode cX12_sides 51 = .ok (.istore 5, 2) := by decide +kernel
theorem dX12_sides_53 : decode cX12_sides 53 = .ok (.iload 5, 2) := by decide +kernel
theorem dX12_sides_55 : decode cX12_sides 55 = .ok (.aload_n 0, 1) := by decide +kernel
theorem dX12_sides_56 : decode cX12_sides 56 = .ok (.invokevirtual 273, 3) := by decide +kernel
theorem dX12_sides_59 : decode cX12_sides 59 = .ok (.if_icmp .ge 81, 3) := by decide +kernel
theorem dX12_sides_6 : decode cX12_sides 6 = .ok (.istore_n 1, 1) := by decide +kernel
theorem dX12_sides_62 : decode cX12_sides 62 = .ok (.iconst 0, 1) := by decide +kernel
theorem dX12_sides_63 : decode cX12_sides 63 = .ok (.istore 6, 2) := by decide +kernel
theorem dX12_sides_65 : decode cX12_sides 65 = .ok (.iload 6, 2) := by decide +kernel
theorem dX12_sides_67 : decode cX12_sides 67 = .ok (.aload_n 0, 1) := by decide +kernel
theorem dX12_sides_68 : decode cX12_sides 68 = .ok (.invokevirtual 273, 3) := by decide +kernel
theorem dX12_sides_7 : decode cX12_sides 7 = .ok (.iconst 0, 1) := by decide +kernel
theorem dX12_sides_71 : decode cX12_sides 71 = .ok (.if_icmp .ge 63, 3) := by decide +kernel
theorem dX12_sides_74 : decode cX12_sides 74 = .ok (.aload_n 0, 1) := by decide +kernel
theorem dX12_sides_75 : decode cX12_sides 75 = .ok (.iload 5, 2) := by decide +kernel
theorem dX12_sides_77 : decode cX12_sides 77 = .ok (.iload 6, 2) := by decide +kernel
theorem dX12_sides_79 : decode cX12_sides 79 = .ok (.invokevirtual 320, 3) := by decide +kernel
theorem dX12_sides_8 : decode cX12_sides 8 = .ok (.istore_n 2, 1) := by decide +kernel
theorem dX12_sides_82 : decode cX12_sides 82 = .ok (.ifCond .ne 6, 3) := by decide +kernel
theorem dX12_sides_85 : decode cX12_sides 85 = .ok (.goto 43, 3) := by decide +kernel
theorem dX12_sides_88 : decode cX12_sides 88 = .ok (.iload_n 2, 1) := by decide +kernel
theorem dX12_sides_89 : decode cX12_sides 89 = .ok (.iload_n 1, 1) := by decide +kernel
theorem dX12_sides_9 : decode cX12_sides 9 = .ok (.iconst 0, 1) := by decide +kernel
theorem dX12_sides_90 : decode cX12_sides 90 = .ok (.iload 5, 2) := by decide +kernel
theorem dX12_sides_92 : decode cX12_sides 92 = .ok (.invokestatic 346, 3) := by decide +kernel
theorem dX12_sides_95 : decode cX12_sides 95 = .ok (.ifCond .eq 10, 3) := by decide +kernel
theorem dX12_sides_98 : decode cX12_sides 98 = .ok (.iconst 1, 1) := by decide +kernel
theorem dX12_sides_99 : decode cX12_sides 99 = .ok (.iload 6, 2) := by decide +kernel
theorem dX12_stepsOf_0 : decode cX12_stepsOf 0 = .ok (.iconst 1, 1) := by decide +kernel
theorem dX12_stepsOf_1 : decode cX12_stepsOf 1 = .ok (.iload_n 1, 1) := by decide +kernel
theorem dX12_stepsOf_102 : decode cX12_stepsOf 102 = .ok (.iconst (-1), 1) := by decide +kernel
theorem dX12_stepsOf_103 : decode cX12_stepsOf 103 = .ok (.ireturn, 1) := by decide +kernel
theorem dX12_stepsOf_11 : decode cX12_stepsOf 11 = .ok (.if_icmp .ge 91, 3) := by decide +kernel
theorem dX12_stepsOf_14 : decode cX12_stepsOf 14 = .ok (.iload_n 3, 1) := by decide +kernel
theorem dX12_stepsOf_15 : decode cX12_stepsOf 15 = .ok (.iload_n 2, 1) := by decide +kernel
theorem dX12_stepsOf_16 : decode cX12_stepsOf 16 = .ok (.invokestatic 346, 3) := by decide +kernel
theorem dX12_stepsOf_19 : decode cX12_stepsOf 19 = .ok (.ifCond .eq 6, 3) := by decide +kernel
theorem dX12_stepsOf_2 : decode cX12_stepsOf 2 = .ok (.ishl, 1) := by decide +kernel
theorem dX12_stepsOf_22 : decode cX12_stepsOf 22 = .ok (.iload 4, 2) := by decide +kernel
theorem dX12_stepsOf_24 : decode cX12_stepsOf 24 = .ok (.ireturn, 1) := by decide +kernel
theorem dX12_stepsOf_25 : decode cX12_stepsOf 25 = .ok (.iload_n 3, 1) := by decide +kernel
theorem dX12_stepsOf_26 : decode cX12_stepsOf 26 = .ok (.istore 5, 2) := by decide +kernel
theorem dX12_stepsOf_28 : decode cX12_stepsOf 28 = .ok (.iconst 0, 1) := by decide +kernel
theorem dX12_stepsOf_29 : decode cX12_stepsOf 29 = .ok (.istore 6, 2) := by decide +kernel
theorem dX12_stepsOf_3 : decode cX12_stepsOf 3 = .ok (.istore_n 3, 1) := by decide +kernel
theorem dX12_stepsOf_31 : decode cX12_stepsOf 31 = .ok (.iload 6, 2) := by decide +kernel
theorem dX12_stepsOf_33 : decode cX12_stepsOf 33 = .ok (.aload_n 0, 1) := by decide +kernel
theorem dX12_stepsOf_34 : decode cX12_stepsOf 34 = .ok (.invokevirtual 273, 3) := by decide +kernel
theorem dX12_stepsOf_37 : decode cX12_stepsOf 37 = .ok (.if_icmp .ge 56, 3) := by decide +kernel
theorem dX12_stepsOf_4 : decode cX12_stepsOf 4 = .ok (.iconst 0, 1) := by decide +kernel
theorem dX12_stepsOf_40 : decode cX12_stepsOf 40 = .ok (.iconst 0, 1) := by decide +kernel
theorem dX12_stepsOf_41 : decode cX12_stepsOf 41 = .ok (.istore 7, 2) := by decide +kernel
theorem dX12_stepsOf_43 : decode cX12_stepsOf 43 = .ok (.iload 7, 2) := by decide +kernel
theorem dX12_stepsOf_45 : decode cX12_stepsOf 45 = .ok (.aload_n 0, 1) := by decide +kernel
theorem dX12_stepsOf_46 : decode cX12_stepsOf 46 = .ok (.invokevirtual 273, 3) := by decide +kernel
theorem dX12_stepsOf_49 : decode cX12_stepsOf 49 = .ok (.if_icmp .ge 38, 3) := by decide +kernel
theorem dX12_stepsOf_5 : decode cX12_stepsOf 5 = .ok (.istore 4, 2) := by decide +kernel
theorem dX12_stepsOf_52 : decode cX12_stepsOf 52 = .ok (.iload_n 3, 1) := by decide +kernel
theorem dX12_stepsOf_53 : decode cX12_stepsOf 53 = .ok (.iload 6, 2) := by decide +kernel
theorem dX12_stepsOf_55 : decode cX12_stepsOf 55 = .ok (.invokestatic 346, 3) := by decide +kernel
theorem dX12_stepsOf_58 : decode cX12_stepsOf 58 = .ok (.ifCond .eq 23, 3) := by decide +kernel
theorem dX12_stepsOf_61 : decode cX12_stepsOf 61 = .ok (.aload_n 0, 1) := by decide +kernel
theorem dX12_stepsOf_62 : decode cX12_stepsOf 62 = .ok (.iload 6, 2) := by decide +kernel
theorem dX12_stepsOf_64 : decode cX12_stepsOf 64 = .ok (.iload 7, 2) := by decide +kernel
theorem dX12_stepsOf_66 : decode cX12_stepsOf 66 = .ok (.invokevirtual 320, 3) := by decide +kernel
theorem dX12_stepsOf_69 : decode cX12_stepsOf 69 = .ok (.ifCond .eq 12, 3) := by decide +kernel
theorem dX12_stepsOf_7 : decode cX12_stepsOf 7 = .ok (.iload 4, 2) := by decide +kernel
theorem dX12_stepsOf_72 : decode cX12_stepsOf 72 = .ok (.iload 5, 2) := by decide +kernel
theorem dX12_stepsOf_74 : decode cX12_stepsOf 74 = .ok (.iconst 1, 1) := by decide +kernel
theorem dX12_stepsOf_75 : decode cX12_stepsOf 75 = .ok (.iload 7, 2) := by decide +kernel
theorem dX12_stepsOf_77 : decode cX12_stepsOf 77 = .ok (.ishl, 1) := by decide +kernel
theorem dX12_stepsOf_78 : decode cX12_stepsOf 78 = .ok (.ior, 1) := by decide +kernel
theorem dX12_stepsOf_79 : decode cX12_stepsOf 79 = .ok (.istore 5, 2) := by decide +kernel
theorem dX12_stepsOf_81 : decode cX12_stepsOf 81 = .ok (.iinc 7 1, 3) := by decide +kernel
theorem dX12_stepsOf_84 : decode cX12_stepsOf 84 = .ok (.goto (-41), 3) := by decide +kernel
theorem dX12_stepsOf_87 : decode cX12_stepsOf 87 = .ok (.iinc 6 1, 3) := by decide +kernel
theorem dX12_stepsOf_9 : decode cX12_stepsOf 9 = .ok (.bipush 10, 2) := by decide +kernel
theorem dX12_stepsOf_90 : decode cX12_stepsOf 90 = .ok (.goto (-59), 3) := by decide +kernel
theorem dX12_stepsOf_93 : decode cX12_stepsOf 93 = .ok (.iload 5, 2) := by decide +kernel
theorem dX12_stepsOf_95 : decode cX12_stepsOf 95 = .ok (.istore_n 3, 1) := by decide +kernel
theorem dX12_stepsOf_96 : decode cX12_stepsOf 96 = .ok (.iinc 4 1, 3) := by decide +kernel
theorem dX12_stepsOf_99 : decode cX12_stepsOf 99 = .ok (.goto (-92), 3) := by decide +kernel
theorem dX12_steps_0 : decode cX12_steps 0 = .ok (.aload_n 0, 1) := by decide +kernel
theorem dX12_steps_1 : decode cX12_steps 1 = .ok (.iconst 0, 1) := by decide +kernel
theorem dX12_steps_11 : decode cX12_steps 11 = .ok (.ifCond .eq 21, 3) := by decide +kernel
theorem dX12_steps_14 : decode cX12_steps 14 = .ok (.aload_n 0, 1) := by decide +kernel
theorem dX12_steps_15 : decode cX12_steps 15 = .ok (.iload_n 2, 1) := by decide +kernel
theorem dX12_steps_16 : decode cX12_steps 16 = .ok (.i2l, 1) := by decide +kernel
theorem dX12_steps_17 : decode cX12_steps 17 = .ok (.invokevirtual 341, 3) := by decide +kernel
theorem dX12_steps_2 : decode cX12_steps 2 = .ok (.putfield 73, 3) := by decide +kernel
theorem dX12_steps_20 : decode cX12_steps 20 = .ok (.ifCond .eq 12, 3) := by decide +kernel
theorem dX12_steps_23 : decode cX12_steps 23 = .ok (.aload_n 0, 1) := by decide +kernel
theorem dX12_steps_24 : decode cX12_steps 24 = .ok (.iload_n 1, 1) := by decide +kernel
theorem dX12_steps_25 : decode cX12_steps 25 = .ok (.iload_n 2, 1) := by decide +kernel
theorem dX12_steps_26 : decode cX12_steps 26 = .ok (.invokevirtual 349, 3) := by decide +kernel
theorem dX12_steps_29 : decode cX12_steps 29 = .ok (.goto 8, 3) := by decide +kernel
theorem dX12_steps_32 : decode cX12_steps 32 = .ok (.aload_n 0, 1) := by decide +kernel
theorem dX12_steps_33 : decode cX12_steps 33 = .ok (.iconst 1, 1) := by decide +kernel
theorem dX12_steps_34 : decode cX12_steps 34 = .ok (.invokevirtual 262, 3) := by decide +kernel
theorem dX12_steps_37 : decode cX12_steps 37 = .ok (.ireturn, 1) := by decide +kernel
theorem dX12_steps_5 : decode cX12_steps 5 = .ok (.aload_n 0, 1) := by decide +kernel
theorem dX12_steps_6 : decode cX12_steps 6 = .ok (.iload_n 1, 1) := by decide +kernel
theorem dX12_steps_7 : decode cX12_steps 7 = .ok (.i2l, 1) := by decide +kernel
theorem dX12_steps_8 : decode cX12_steps 8 = .ok (.invokevirtual 341, 3) := by decide +kernel
theorem dX12_thingAt_0 : decode cX12_thingAt 0 = .ok (.iconst 0, 1) := by decide +kernel
theorem dX12_thingAt_1 : decode cX12_thingAt 1 = .ok (.istore_n 2, 1) := by decide +kernel
theorem dX12_thingAt_10 : decode cX12_thingAt 10 = .ok (.bipush 8, 2) := by decide +kernel
theorem dX12_thingAt_12 : decode cX12_thingAt 12 = .ok (.iload_n 2, 1) := by decide +kernel
theorem dX12_thingAt_13 : decode cX12_thingAt 13 = .ok (.iadd, 1) := by decide +kernel
theorem dX12_thingAt_14 : decode cX12_thingAt 14 = .ok (.iaload, 1) := by decide +kernel
theorem dX12_thingAt_15 : decode cX12_thingAt 15 = .ok (.iload_n 1, 1) := by decide +kernel
theorem dX12_thingAt_16 : decode cX12_thingAt 16 = .ok (.if_icmp .ne 5, 3) := by decide +kernel
theorem dX12_thingAt_19 : decode cX12_thingAt 19 = .ok (.iload_n 2, 1) := by decide +kernel
theorem dX12_thingAt_2 : decode cX12_thingAt 2 = .ok (.iload_n 2, 1) := by decide +kernel
theorem dX12_thingAt_20 : decode cX12_thingAt 20 = .ok (.ireturn, 1) := by decide +kernel
theorem dX12_thingAt_21 : decode cX12_thingAt 21 = .ok (.iinc 2 1, 3) := by decide +kernel
theorem dX12_thingAt_24 : decode cX12_thingAt 24 = .ok (.goto (-22), 3) := by decide +kernel
theorem dX12_thingAt_27 : decode cX12_thingAt 27 = .ok (.iconst (-1), 1) := by decide +kernel
theorem dX12_thingAt_28 : decode cX12_thingAt 28 = .ok (.ireturn, 1) := by decide +kernel
theorem dX12_thingAt_3 : decode cX12_thingAt 3 = .ok (.aload_n 0, 1) := by decide +kernel
theorem dX12_thingAt_4 : decode cX12_thingAt 4 = .ok (.iconst 2, 1) := by decide +kernel
theorem dX12_thingAt_5 : decode cX12_thingAt 5 = .ok (.iaload, 1) := by decide +kernel
theorem dX12_thingAt_6 : decode cX12_thingAt 6 = .ok (.if_icmp .ge 21, 3) := by decide +kernel
theorem dX12_thingAt_9 : decode cX12_thingAt 9 = .ok (.aload_n 0, 1) := by decide +kernel
theorem dX12_things_0 : decode cX12_things 0 = .ok (.aload_n 0, 1) := by decide +kernel
theorem dX12_things_1 : decode cX12_things 1 = .ok (.getfield 9, 3) := by decide +kernel
theorem dX12_things_4 : decode cX12_things 4 = .ok (.iconst 2, 1) := by decide +kernel
theorem dX12_things_5 : decode cX12_things 5 = .ok (.iaload, 1) := by decide +kernel
theorem dX12_things_6 : decode cX12_things 6 = .ok (.ireturn, 1) := by decide +kernel
theorem dX12_thrown_0 : decode cX12_thrown 0 = .ok (.aload_n 0, 1) := by decide +kernel
theorem dX12_thrown_1 : decode cX12_thrown 1 = .ok (.getfield 73, 3) := by decide +kernel
theorem dX12_thrown_4 : decode cX12_thrown 4 = .ok (.ireturn, 1) := by decide +kernel
theorem dX12_toldThing_0 : decode cX12_toldThing 0 = .ok (.aload_n 0, 1) := by decide +kernel
theorem dX12_toldThing_1 : decode cX12_toldThing 1 = .ok (.getfield 69, 3) := by decide +kernel
theorem dX12_toldThing_10 : decode cX12_toldThing 10 = .ok (.laload, 1) := by decide +kernel
theorem dX12_toldThing_11 : decode cX12_toldThing 11 = .ok (.l2i, 1) := by decide +kernel
theorem dX12_toldThing_12 : decode cX12_toldThing 12 = .ok (.ireturn, 1) := by decide +kernel
theorem dX12_toldThing_4 : decode cX12_toldThing 4 = .ok (.bipush 30, 2) := by decide +kernel
theorem dX12_toldThing_6 : decode cX12_toldThing 6 = .ok (.iload_n 1, 1) := by decide +kernel
theorem dX12_toldThing_7 : decode cX12_toldThing 7 = .ok (.imul, 1) := by decide +kernel
theorem dX12_toldThing_8 : decode cX12_toldThing 8 = .ok (.iload_n 2, 1) := by decide +kernel
theorem dX12_toldThing_9 : decode cX12_toldThing 9 = .ok (.iadd, 1) := by decide +kernel
theorem dX12_touch_0 : decode cX12_touch 0 = .ok (.aload_n 0, 1) := by decide +kernel
theorem dX12_touch_1 : decode cX12_touch 1 = .ok (.getfield 9, 3) := by decide +kernel
theorem dX12_touch_10 : decode cX12_touch 10 = .ok (.iadd, 1) := by decide +kernel
theorem dX12_touch_11 : decode cX12_touch 11 = .ok (.iload_n 2, 1) := by decide +kernel
theorem dX12_touch_12 : decode cX12_touch 12 = .ok (.iadd, 1) := by decide +kernel
theorem dX12_touch_13 : decode cX12_touch 13 = .ok (.iaload, 1) := by decide +kernel
theorem dX12_touch_14 : decode cX12_touch 14 = .ok (.ireturn, 1) := by decide +kernel
theorem dX12_touch_4 : decode cX12_touch 4 = .ok (.bipush 50, 2) := by decide +kernel
theorem dX12_touch_6 : decode cX12_touch 6 = .ok (.bipush 10, 2) := by decide +kernel
theorem dX12_touch_8 : decode cX12_touch 8 = .ok (.iload_n 1, 1) := by decide +kernel
theorem dX12_touch_9 : decode cX12_touch 9 = .ok (.imul, 1) := by decide +kernel
theorem dX12_trayFault_0 : decode cX12_trayFault 0 = .ok (.iload_n 1, 1) := by decide +kernel
theorem dX12_trayFault_1 : decode cX12_trayFault 1 = .ok (.invokestatic 390, 3) := by decide +kernel
theorem dX12_trayFault_11 : decode cX12_trayFault 11 = .ok (.aload_n 0, 1) := by decide +kernel
theorem dX12_trayFault_12 : decode cX12_trayFault 12 = .ok (.getfield 63, 3) := by decide +kernel
theorem dX12_trayFault_15 : decode cX12_trayFault 15 = .ok (.iload_n 1, 1) := by decide +kernel
theorem dX12_trayFault_16 : decode cX12_trayFault 16 = .ok (.iaload, 1) := by decide +kernel
theorem dX12_trayFault_17 : decode cX12_trayFault 17 = .ok (.iconst (-1), 1) := by decide +kernel
theorem dX12_trayFault_18 : decode cX12_trayFault 18 = .ok (.if_icmp .ne 7, 3) := by decide +kernel
theorem dX12_trayFault_21 : decode cX12_trayFault 21 = .ok (.iconst 2, 1) := by decide +kernel
theorem dX12_trayFault_22 : decode cX12_trayFault 22 = .ok (.goto 4, 3) := by decide +kernel
theorem dX12_trayFault_25 : decode cX12_trayFault 25 = .ok (.iconst 0, 1) := by decide +kernel
theorem dX12_trayFault_26 : decode cX12_trayFault 26 = .ok (.ireturn, 1) := by decide +kernel
theorem dX12_trayFault_4 : decode cX12_trayFault 4 = .ok (.ifCond .ne 7, 3) := by decide +kernel
theorem dX12_trayFault_7 : decode cX12_trayFault 7 = .ok (.iconst 1, 1) := by decide +kernel
theorem dX12_trayFault_8 : decode cX12_trayFault 8 = .ok (.goto 18, 3) := by decide +kernel
theorem dX12_tray_0 : decode cX12_tray 0 = .ok (.aload_n 0, 1) := by decide +kernel
theorem dX12_tray_1 : decode cX12_tray 1 = .ok (.iload_n 1, 1) := by decide +kernel
theorem dX12_tray_12 : decode cX12_tray 12 = .ok (.iload_n 2, 1) := by decide +kernel
theorem dX12_tray_13 : decode cX12_tray 13 = .ok (.i2l, 1) := by decide +kernel
theorem dX12_tray_14 : decode cX12_tray 14 = .ok (.lconst 0, 1) := by decide +kernel
theorem dX12_tray_15 : decode cX12_tray 15 = .ok (.ldc2_w 404, 3) := by decide +kernel
theorem dX12_tray_18 : decode cX12_tray 18 = .ok (.invokestatic 137, 3) := by decide +kernel
theorem dX12_tray_2 : decode cX12_tray 2 = .ok (.invokestatic 390, 3) := by decide +kernel
theorem dX12_tray_21 : decode cX12_tray 21 = .ok (.ifCond .eq 15, 3) := by decide +kernel
theorem dX12_tray_24 : decode cX12_tray 24 = .ok (.iload_n 3, 1) := by decide +kernel
theorem dX12_tray_25 : decode cX12_tray 25 = .ok (.i2l, 1) := by decide +kernel
theorem dX12_tray_26 : decode cX12_tray 26 = .ok (.lconst 0, 1) := by decide +kernel
theorem dX12_tray_27 : decode cX12_tray 27 = .ok (.ldc2_w 422, 3) := by decide +kernel
theorem dX12_tray_30 : decode cX12_tray 30 = .ok (.invokestatic 137, 3) := by decide +kernel
theorem dX12_tray_33 : decode cX12_tray 33 = .ok (.ifCond .ne 7, 3) := by decide +kernel
theorem dX12_tray_36 : decode cX12_tray 36 = .ok (.iconst 2, 1) := by decide +kernel
theorem dX12_tray_37 : decode cX12_tray 37 = .ok (.goto 4, 3) := by decide +kernel
theorem dX12_tray_40 : decode cX12_tray 40 = .ok (.iconst 0, 1) := by decide +kernel
theorem dX12_tray_41 : decode cX12_tray 41 = .ok (.putfield 73, 3) := by decide +kernel
theorem dX12_tray_44 : decode cX12_tray 44 = .ok (.aload_n 0, 1) := by decide +kernel
theorem dX12_tray_45 : decode cX12_tray 45 = .ok (.getfield 73, 3) := by decide +kernel
theorem dX12_tray_48 : decode cX12_tray 48 = .ok (.ifCond .le 4, 3) := by decide +kernel
theorem dX12_tray_5 : decode cX12_tray 5 = .ok (.ifCond .ne 7, 3) := by decide +kernel
theorem dX12_tray_51 : decode cX12_tray 51 = .ok (.return_, 1) := by decide +kernel
theorem dX12_tray_52 : decode cX12_tray 52 = .ok (.aload_n 0, 1) := by decide +kernel
theorem dX12_tray_53 : decode cX12_tray 53 = .ok (.getfield 63, 3) := by decide +kernel
theorem dX12_tray_56 : decode cX12_tray 56 = .ok (.iload_n 1, 1) := by decide +kernel
theorem dX12_tray_57 : decode cX12_tray 57 = .ok (.iload_n 2, 1) := by decide +kernel
theorem dX12_tray_58 : decode cX12_tray 58 = .ok (.iastore, 1) := by decide +kernel
theorem dX12_tray_59 : decode cX12_tray 59 = .ok (.aload_n 0, 1) := by decide +kernel
theorem dX12_tray_60 : decode cX12_tray 60 = .ok (.getfield 66, 3) := by decide +kernel
theorem dX12_tray_63 : decode cX12_tray 63 = .ok (.iload_n 1, 1) := by decide +kernel
theorem dX12_tray_64 : decode cX12_tray 64 = .ok (.iload_n 3, 1) := by decide +kernel
theorem dX12_tray_65 : decode cX12_tray 65 = .ok (.iastore, 1) := by decide +kernel
theorem dX12_tray_66 : decode cX12_tray 66 = .ok (.iconst 0, 1) := by decide +kernel
theorem dX12_tray_67 : decode cX12_tray 67 = .ok (.istore 4, 2) := by decide +kernel
theorem dX12_tray_69 : decode cX12_tray 69 = .ok (.iload 4, 2) := by decide +kernel
theorem dX12_tray_71 : decode cX12_tray 71 = .ok (.bipush 30, 2) := by decide +kernel
theorem dX12_tray_73 : decode cX12_tray 73 = .ok (.if_icmp .ge 22, 3) := by decide +kernel
theorem dX12_tray_76 : decode cX12_tray 76 = .ok (.aload_n 0, 1) := by decide +kernel
theorem dX12_tray_77 : decode cX12_tray 77 = .ok (.getfield 69, 3) := by decide +kernel
theorem dX12_tray_8 : decode cX12_tray 8 = .ok (.iconst 1, 1) := by decide +kernel
theorem dX12_tray_80 : decode cX12_tray 80 = .ok (.bipush 30, 2) := by decide +kernel
theorem dX12_tray_82 : decode cX12_tray 82 = .ok (.iload_n 1, 1) := by decide +kernel
theorem dX12_tray_83 : decode cX12_tray 83 = .ok (.imul, 1) := by decide +kernel
theorem dX12_tray_84 : decode cX12_tray 84 = .ok (.iload 4, 2) := by decide +kernel
theorem dX12_tray_86 : decode cX12_tray 86 = .ok (.iadd, 1) := by decide +kernel
theorem dX12_tray_87 : decode cX12_tray 87 = .ok (.lconst 0, 1) := by decide +kernel
theorem dX12_tray_88 : decode cX12_tray 88 = .ok (.lastore, 1) := by decide +kernel
theorem dX12_tray_89 : decode cX12_tray 89 = .ok (.iinc 4 1, 3) := by decide +kernel
theorem dX12_tray_9 : decode cX12_tray 9 = .ok (.goto 32, 3) := by decide +kernel
theorem dX12_tray_92 : decode cX12_tray 92 = .ok (.goto (-23), 3) := by decide +kernel
theorem dX12_tray_95 : decode cX12_tray 95 = .ok (.return_, 1) := by decide +kernel
theorem dX12_undo_0 : decode cX12_undo 0 = .ok (.aload_n 0, 1) := by decide +kernel
theorem dX12_undo_1 : decode cX12_undo 1 = .ok (.iconst 0, 1) := by decide +kernel
theorem dX12_undo_11 : decode cX12_undo 11 = .ok (.invokestatic 137, 3) := by decide +kernel
theorem dX12_undo_14 : decode cX12_undo 14 = .ok (.ifCond .eq 14, 3) := by decide +kernel
theorem dX12_undo_17 : decode cX12_undo 17 = .ok (.iload_n 1, 1) := by decide +kernel
theorem dX12_undo_18 : decode cX12_undo 18 = .ok (.aload_n 0, 1) := by decide +kernel
theorem dX12_undo_19 : decode cX12_undo 19 = .ok (.getfield 9, 3) := by decide +kernel
theorem dX12_undo_2 : decode cX12_undo 2 = .ok (.putfield 73, 3) := by decide +kernel
theorem dX12_undo_22 : decode cX12_undo 22 = .ok (.bipush 7, 2) := by decide +kernel
theorem dX12_undo_24 : decode cX12_undo 24 = .ok (.iaload, 1) := by decide +kernel
theorem dX12_undo_25 : decode cX12_undo 25 = .ok (.if_icmp .le 9, 3) := by decide +kernel
theorem dX12_undo_28 : decode cX12_undo 28 = .ok (.aload_n 0, 1) := by decide +kernel
theorem dX12_undo_29 : decode cX12_undo 29 = .ok (.iconst 1, 1) := by decide +kernel
theorem dX12_undo_30 : decode cX12_undo 30 = .ok (.invokevirtual 262, 3) := by decide +kernel
theorem dX12_undo_33 : decode cX12_undo 33 = .ok (.ireturn, 1) := by decide +kernel
theorem dX12_undo_34 : decode cX12_undo 34 = .ok (.aload_n 0, 1) := by decide +kernel
theorem dX12_undo_35 : decode cX12_undo 35 = .ok (.getfield 9, 3) := by decide +kernel
theorem dX12_undo_38 : decode cX12_undo 38 = .ok (.bipush 7, 2) := by decide +kernel
theorem dX12_undo_40 : decode cX12_undo 40 = .ok (.dup2, 1) := by decide +kernel
theorem dX12_undo_41 : decode cX12_undo 41 = .ok (.iaload, 1) := by decide +kernel
theorem dX12_undo_42 : decode cX12_undo 42 = .ok (.iload_n 1, 1) := by decide +kernel
theorem dX12_undo_43 : decode cX12_undo 43 = .ok (.isub, 1) := by decide +kernel
theorem dX12_undo_44 : decode cX12_undo 44 = .ok (.iastore, 1) := by decide +kernel
theorem dX12_undo_45 : decode cX12_undo 45 = .ok (.iconst 0, 1) := by decide +kernel
theorem dX12_undo_46 : decode cX12_undo 46 = .ok (.istore_n 2, 1) := by decide +kernel
theorem dX12_undo_47 : decode cX12_undo 47 = .ok (.iload_n 2, 1) := by decide +kernel
theorem dX12_undo_48 : decode cX12_undo 48 = .ok (.bipush 18, 2) := by decide +kernel
theorem dX12_undo_5 : decode cX12_undo 5 = .ok (.iload_n 1, 1) := by decide +kernel
theorem dX12_undo_50 : decode cX12_undo 50 = .ok (.if_icmp .ge 39, 3) := by decide +kernel
theorem dX12_undo_53 : decode cX12_undo 53 = .ok (.aload_n 0, 1) := by decide +kernel
theorem dX12_undo_54 : decode cX12_undo 54 = .ok (.getfield 9, 3) := by decide +kernel
theorem dX12_undo_57 : decode cX12_undo 57 = .ok (.bipush 8, 2) := by decide +kernel
theorem dX12_undo_59 : decode cX12_undo 59 = .ok (.iload_n 2, 1) := by decide +kernel
theorem dX12_undo_6 : decode cX12_undo 6 = .ok (.i2l, 1) := by decide +kernel
theorem dX12_undo_60 : decode cX12_undo 60 = .ok (.iadd, 1) := by decide +kernel
theorem dX12_undo_61 : decode cX12_undo 61 = .ok (.aload_n 0, 1) := by decide +kernel
theorem dX12_undo_62 : decode cX12_undo 62 = .ok (.getfield 9, 3) := by decide +kernel
theorem dX12_undo_65 : decode cX12_undo 65 = .ok (.sipush 168, 3) := by decide +kernel
theorem dX12_undo_68 : decode cX12_undo 68 = .ok (.bipush 18, 2) := by decide +kernel
theorem dX12_undo_7 : decode cX12_undo 7 = .ok (.lconst 1, 1) := by decide +kernel
theorem dX12_undo_70 : decode cX12_undo 70 = .ok (.aload_n 0, 1) := by decide +kernel
theorem dX12_undo_71 : decode cX12_undo 71 = .ok (.getfield 9, 3) := by decide +kernel
theorem dX12_undo_74 : decode cX12_undo 74 = .ok (.bipush 7, 2) := by decide +kernel
theorem dX12_undo_76 : decode cX12_undo 76 = .ok (.iaload, 1) := by decide +kernel
theorem dX12_undo_77 : decode cX12_undo 77 = .ok (.imul, 1) := by decide +kernel
theorem dX12_undo_78 : decode cX12_undo 78 = .ok (.iadd, 1) := by decide +kernel
theorem dX12_undo_79 : decode cX12_undo 79 = .ok (.iload_n 2, 1) := by decide +kernel
theorem dX12_undo_8 : decode cX12_undo 8 = .ok (.ldc2_w 388, 3) := by decide +kernel
theorem dX12_undo_80 : decode cX12_undo 80 = .ok (.iadd, 1) := by decide +kernel
theorem dX12_undo_81 : decode cX12_undo 81 = .ok (.iaload, 1) := by decide +kernel
theorem dX12_undo_82 : decode cX12_undo 82 = .ok (.iastore, 1) := by decide +kernel
theorem dX12_undo_83 : decode cX12_undo 83 = .ok (.iinc 2 1, 3) := by decide +kernel
theorem dX12_undo_86 : decode cX12_undo 86 = .ok (.goto (-39), 3) := by decide +kernel
theorem dX12_undo_89 : decode cX12_undo 89 = .ok (.aload_n 0, 1) := by decide +kernel
theorem dX12_undo_90 : decode cX12_undo 90 = .ok (.getfield 9, 3) := by decide +kernel
theorem dX12_undo_93 : decode cX12_undo 93 = .ok (.bipush 7, 2) := by decide +kernel
theorem dX12_undo_95 : decode cX12_undo 95 = .ok (.iaload, 1) := by decide +kernel
theorem dX12_undo_96 : decode cX12_undo 96 = .ok (.ireturn, 1) := by decide +kernel
theorem dX12_whyNot_0 : decode cX12_whyNot 0 = .ok (.aload_n 0, 1) := by decide +kernel
theorem dX12_whyNot_1 : decode cX12_whyNot 1 = .ok (.lload_n 1, 1) := by decide +kernel
theorem dX12_whyNot_10 : decode cX12_whyNot 10 = .ok (.invokevirtual 341, 3) := by decide +kernel
theorem dX12_whyNot_13 : decode cX12_whyNot 13 = .ok (.ifCond .ne 5, 3) := by decide +kernel
theorem dX12_whyNot_16 : decode cX12_whyNot 16 = .ok (.iconst 1, 1) := by decide +kernel
theorem dX12_whyNot_17 : decode cX12_whyNot 17 = .ok (.ireturn, 1) := by decide +kernel
theorem dX12_whyNot_18 : decode cX12_whyNot 18 = .ok (.aload_n 0, 1) := by decide +kernel
theorem dX12_whyNot_19 : decode cX12_whyNot 19 = .ok (.getfield 9, 3) := by decide +kernel
theorem dX12_whyNot_2 : decode cX12_whyNot 2 = .ok (.invokevirtual 335, 3) := by decide +kernel
theorem dX12_whyNot_22 : decode cX12_whyNot 22 = .ok (.bipush 42, 2) := by decide +kernel
theorem dX12_whyNot_24 : decode cX12_whyNot 24 = .ok (.lload_n 1, 1) := by decide +kernel
theorem dX12_whyNot_25 : decode cX12_whyNot 25 = .ok (.l2i, 1) := by decide +kernel
theorem dX12_whyNot_26 : decode cX12_whyNot 26 = .ok (.iadd, 1) := by decide +kernel
theorem dX12_whyNot_27 : decode cX12_whyNot 27 = .ok (.iaload, 1) := by decide +kernel
theorem dX12_whyNot_28 : decode cX12_whyNot 28 = .ok (.iconst 1, 1) := by decide +kernel
theorem dX12_whyNot_29 : decode cX12_whyNot 29 = .ok (.if_icmp .ne 5, 3) := by decide +kernel
theorem dX12_whyNot_32 : decode cX12_whyNot 32 = .ok (.iconst 2, 1) := by decide +kernel
theorem dX12_whyNot_33 : decode cX12_whyNot 33 = .ok (.ireturn, 1) := by decide +kernel
theorem dX12_whyNot_34 : decode cX12_whyNot 34 = .ok (.aload_n 0, 1) := by decide +kernel
theorem dX12_whyNot_35 : decode cX12_whyNot 35 = .ok (.getfield 9, 3) := by decide +kernel
theorem dX12_whyNot_38 : decode cX12_whyNot 38 = .ok (.lload_n 3, 1) := by decide +kernel
theorem dX12_whyNot_39 : decode cX12_whyNot 39 = .ok (.l2i, 1) := by decide +kernel
theorem dX12_whyNot_40 : decode cX12_whyNot 40 = .ok (.invokestatic 209, 3) := by decide +kernel
theorem dX12_whyNot_43 : decode cX12_whyNot 43 = .ok (.iconst (-1), 1) := by decide +kernel
theorem dX12_whyNot_44 : decode cX12_whyNot 44 = .ok (.if_icmp .eq 5, 3) := by decide +kernel
theorem dX12_whyNot_47 : decode cX12_whyNot 47 = .ok (.iconst 3, 1) := by decide +kernel
theorem dX12_whyNot_48 : decode cX12_whyNot 48 = .ok (.ireturn, 1) := by decide +kernel
theorem dX12_whyNot_49 : decode cX12_whyNot 49 = .ok (.aload_n 0, 1) := by decide +kernel
theorem dX12_whyNot_5 : decode cX12_whyNot 5 = .ok (.ifCond .eq 11, 3) := by decide +kernel
theorem dX12_whyNot_50 : decode cX12_whyNot 50 = .ok (.aload_n 0, 1) := by decide +kernel
theorem dX12_whyNot_51 : decode cX12_whyNot 51 = .ok (.lload_n 1, 1) := by decide +kernel
theorem dX12_whyNot_52 : decode cX12_whyNot 52 = .ok (.l2i, 1) := by decide +kernel
theorem dX12_whyNot_53 : decode cX12_whyNot 53 = .ok (.invokevirtual 317, 3) := by decide +kernel
theorem dX12_whyNot_56 : decode cX12_whyNot 56 = .ok (.lload_n 3, 1) := by decide +kernel
theorem dX12_whyNot_57 : decode cX12_whyNot 57 = .ok (.l2i, 1) := by decide +kernel
theorem dX12_whyNot_58 : decode cX12_whyNot 58 = .ok (.invokevirtual 349, 3) := by decide +kernel
theorem dX12_whyNot_61 : decode cX12_whyNot 61 = .ok (.iconst (-1), 1) := by decide +kernel
theorem dX12_whyNot_62 : decode cX12_whyNot 62 = .ok (.if_icmp .ne 7, 3) := by decide +kernel
theorem dX12_whyNot_65 : decode cX12_whyNot 65 = .ok (.iconst 4, 1) := by decide +kernel
theorem dX12_whyNot_66 : decode cX12_whyNot 66 = .ok (.goto 4, 3) := by decide +kernel
theorem dX12_whyNot_69 : decode cX12_whyNot 69 = .ok (.iconst 0, 1) := by decide +kernel
theorem dX12_whyNot_70 : decode cX12_whyNot 70 = .ok (.ireturn, 1) := by decide +kernel
theorem dX12_whyNot_8 : decode cX12_whyNot 8 = .ok (.aload_n 0, 1) := by decide +kernel
theorem dX12_whyNot_9 : decode cX12_whyNot 9 = .ok (.lload_n 3, 1) := by decide +kernel
theorem dX12_whyTold_0 : decode cX12_whyTold 0 = .ok (.lload_n 1, 1) := by decide +kernel
theorem dX12_whyTold_1 : decode cX12_whyTold 1 = .ok (.ldc2_w 393, 3) := by decide +kernel
theorem dX12_whyTold_10 : decode cX12_whyTold 10 = .ok (.lload_n 1, 1) := by decide +kernel
theorem dX12_whyTold_11 : decode cX12_whyTold 11 = .ok (.lconst 0, 1) := by decide +kernel
theorem dX12_whyTold_12 : decode cX12_whyTold 12 = .ok (.ldc2_w 373, 3) := by decide +kernel
theorem dX12_whyTold_15 : decode cX12_whyTold 15 = .ok (.invokestatic 137, 3) := by decide +kernel
theorem dX12_whyTold_18 : decode cX12_whyTold 18 = .ok (.ifCond .eq 18, 3) := by decide +kernel
theorem dX12_whyTold_21 : decode cX12_whyTold 21 = .ok (.aload_n 0, 1) := by decide +kernel
theorem dX12_whyTold_22 : decode cX12_whyTold 22 = .ok (.lload_n 1, 1) := by decide +kernel
theorem dX12_whyTold_23 : decode cX12_whyTold 23 = .ok (.ldc2_w 395, 3) := by decide +kernel
theorem dX12_whyTold_26 : decode cX12_whyTold 26 = .ok (.ldiv, 1) := by decide +kernel
theorem dX12_whyTold_27 : decode cX12_whyTold 27 = .ok (.lload_n 1, 1) := by decide +kernel
theorem dX12_whyTold_28 : decode cX12_whyTold 28 = .ok (.ldc2_w 395, 3) := by decide +kernel
theorem dX12_whyTold_31 : decode cX12_whyTold 31 = .ok (.lrem, 1) := by decide +kernel
theorem dX12_whyTold_32 : decode cX12_whyTold 32 = .ok (.invokevirtual 378, 3) := by decide +kernel
theorem dX12_whyTold_35 : decode cX12_whyTold 35 = .ok (.ireturn, 1) := by decide +kernel
theorem dX12_whyTold_36 : decode cX12_whyTold 36 = .ok (.lload_n 1, 1) := by decide +kernel
theorem dX12_whyTold_37 : decode cX12_whyTold 37 = .ok (.ldc2_w 397, 3) := by decide +kernel
theorem dX12_whyTold_4 : decode cX12_whyTold 4 = .ok (.lcmp, 1) := by decide +kernel
theorem dX12_whyTold_40 : decode cX12_whyTold 40 = .ok (.ldc2_w 399, 3) := by decide +kernel
theorem dX12_whyTold_43 : decode cX12_whyTold 43 = .ok (.invokestatic 137, 3) := by decide +kernel
theorem dX12_whyTold_46 : decode cX12_whyTold 46 = .ok (.ifCond .eq 33, 3) := by decide +kernel
theorem dX12_whyTold_49 : decode cX12_whyTold 49 = .ok (.aload_n 0, 1) := by decide +kernel
theorem dX12_whyTold_5 : decode cX12_whyTold 5 = .ok (.ifCond .ne 5, 3) := by decide +kernel
theorem dX12_whyTold_50 : decode cX12_whyTold 50 = .ok (.lload_n 1, 1) := by decide +kernel
theorem dX12_whyTold_51 : decode cX12_whyTold 51 = .ok (.ldc2_w 397, 3) := by decide +kernel
theorem dX12_whyTold_54 : decode cX12_whyTold 54 = .ok (.lrem, 1) := by decide +kernel
theorem dX12_whyTold_55 : decode cX12_whyTold 55 = .ok (.ldc2_w 395, 3) := by decide +kernel
theorem dX12_whyTold_58 : decode cX12_whyTold 58 = .ok (.ldiv, 1) := by decide +kernel
theorem dX12_whyTold_59 : decode cX12_whyTold 59 = .ok (.invokevirtual 335, 3) := by decide +kernel
theorem dX12_whyTold_62 : decode cX12_whyTold 62 = .ok (.ifCond .eq 17, 3) := by decide +kernel
theorem dX12_whyTold_65 : decode cX12_whyTold 65 = .ok (.lload_n 1, 1) := by decide +kernel
theorem dX12_whyTold_66 : decode cX12_whyTold 66 = .ok (.ldc2_w 395, 3) := by decide +kernel
theorem dX12_whyTold_69 : decode cX12_whyTold 69 = .ok (.lrem, 1) := by decide +kernel
theorem dX12_whyTold_70 : decode cX12_whyTold 70 = .ok (.lconst 0, 1) := by decide +kernel
theorem dX12_whyTold_71 : decode cX12_whyTold 71 = .ok (.lcmp, 1) := by decide +kernel
theorem dX12_whyTold_72 : decode cX12_whyTold 72 = .ok (.ifCond .le 7, 3) := by decide +kernel
theorem dX12_whyTold_75 : decode cX12_whyTold 75 = .ok (.iconst 0, 1) := by decide +kernel
theorem dX12_whyTold_76 : decode cX12_whyTold 76 = .ok (.goto 4, 3) := by decide +kernel
theorem dX12_whyTold_79 : decode cX12_whyTold 79 = .ok (.iconst 1, 1) := by decide +kernel
theorem dX12_whyTold_8 : decode cX12_whyTold 8 = .ok (.iconst 0, 1) := by decide +kernel
theorem dX12_whyTold_80 : decode cX12_whyTold 80 = .ok (.ireturn, 1) := by decide +kernel
theorem dX12_whyTold_9 : decode cX12_whyTold 9 = .ok (.ireturn, 1) := by decide +kernel
theorem dX12_why_0 : decode cX12_why 0 = .ok (.aload_n 0, 1) := by decide +kernel
theorem dX12_why_1 : decode cX12_why 1 = .ok (.iconst 0, 1) := by decide +kernel
theorem dX12_why_10 : decode cX12_why 10 = .ok (.invokevirtual 378, 3) := by decide +kernel
theorem dX12_why_13 : decode cX12_why 13 = .ok (.ireturn, 1) := by decide +kernel
theorem dX12_why_2 : decode cX12_why 2 = .ok (.putfield 73, 3) := by decide +kernel
theorem dX12_why_5 : decode cX12_why 5 = .ok (.aload_n 0, 1) := by decide +kernel
theorem dX12_why_6 : decode cX12_why 6 = .ok (.iload_n 1, 1) := by decide +kernel
theorem dX12_why_7 : decode cX12_why 7 = .ok (.i2l, 1) := by decide +kernel
theorem dX12_why_8 : decode cX12_why 8 = .ok (.iload_n 2, 1) := by decide +kernel
theorem dX12_why_9 : decode cX12_why 9 = .ok (.i2l, 1) := by decide +kernel
theorem dX12_within_0 : decode cX12_within 0 = .ok (.lload_n 0, 1) := by decide +kernel
theorem dX12_within_1 : decode cX12_within 1 = .ok (.lload_n 2, 1) := by decide +kernel
theorem dX12_within_10 : decode cX12_within 10 = .ok (.ifCond .gt 7, 3) := by decide +kernel
theorem dX12_within_13 : decode cX12_within 13 = .ok (.iconst 1, 1) := by decide +kernel
theorem dX12_within_14 : decode cX12_within 14 = .ok (.goto 4, 3) := by decide +kernel
theorem dX12_within_17 : decode cX12_within 17 = .ok (.iconst 0, 1) := by decide +kernel
theorem dX12_within_18 : decode cX12_within 18 = .ok (.ireturn, 1) := by decide +kernel
theorem dX12_within_2 : decode cX12_within 2 = .ok (.lcmp, 1) := by decide +kernel
theorem dX12_within_3 : decode cX12_within 3 = .ok (.ifCond .lt 14, 3) := by decide +kernel
theorem dX12_within_6 : decode cX12_within 6 = .ok (.lload_n 0, 1) := by decide +kernel
theorem dX12_within_7 : decode cX12_within 7 = .ok (.lload 4, 2) := by decide +kernel
theorem dX12_within_9 : decode cX12_within 9 = .ok (.lcmp, 1) := by decide +kernel
theorem dX12_wordOf_0 : decode cX12_wordOf 0 = .ok (.aload_n 0, 1) := by decide +kernel
theorem dX12_wordOf_1 : decode cX12_wordOf 1 = .ok (.getfield 9, 3) := by decide +kernel
theorem dX12_wordOf_102 : decode cX12_wordOf 102 = .ok (.istore 7, 2) := by decide +kernel
theorem dX12_wordOf_104 : decode cX12_wordOf 104 = .ok (.goto 49, 3) := by decide +kernel
theorem dX12_wordOf_107 : decode cX12_wordOf 107 = .ok (.aload_n 0, 1) := by decide +kernel
theorem dX12_wordOf_108 : decode cX12_wordOf 108 = .ok (.iload 6, 2) := by decide +kernel
theorem dX12_wordOf_11 : decode cX12_wordOf 11 = .ok (.aload_n 0, 1) := by decide +kernel
theorem dX12_wordOf_110 : decode cX12_wordOf 110 = .ok (.invokevirtual 298, 3) := by decide +kernel
theorem dX12_wordOf_113 : decode cX12_wordOf 113 = .ok (.istore 7, 2) := by decide +kernel
theorem dX12_wordOf_115 : decode cX12_wordOf 115 = .ok (.goto 38, 3) := by decide +kernel
theorem dX12_wordOf_118 : decode cX12_wordOf 118 = .ok (.aload_n 0, 1) := by decide +kernel
theorem dX12_wordOf_119 : decode cX12_wordOf 119 = .ok (.getfield 9, 3) := by decide +kernel
theorem dX12_wordOf_12 : decode cX12_wordOf 12 = .ok (.getfield 9, 3) := by decide +kernel
theorem dX12_wordOf_122 : decode cX12_wordOf 122 = .ok (.bipush 26, 2) := by decide +kernel
theorem dX12_wordOf_124 : decode cX12_wordOf 124 = .ok (.iload_n 2, 1) := by decide +kernel
theorem dX12_wordOf_125 : decode cX12_wordOf 125 = .ok (.iadd, 1) := by decide +kernel
theorem dX12_wordOf_126 : decode cX12_wordOf 126 = .ok (.iaload, 1) := by decide +kernel
theorem dX12_wordOf_127 : decode cX12_wordOf 127 = .ok (.aload_n 0, 1) := by decide +kernel
theorem dX12_wordOf_128 : decode cX12_wordOf 128 = .ok (.getfield 9, 3) := by decide +kernel
theorem dX12_wordOf_131 : decode cX12_wordOf 131 = .ok (.bipush 26, 2) := by decide +kernel
theorem dX12_wordOf_133 : decode cX12_wordOf 133 = .ok (.iload_n 3, 1) := by decide +kernel
theorem dX12_wordOf_134 : decode cX12_wordOf 134 = .ok (.iadd, 1) := by decide +kernel
theorem dX12_wordOf_135 : decode cX12_wordOf 135 = .ok (.iaload, 1) := by decide +kernel
theorem dX12_wordOf_136 : decode cX12_wordOf 136 = .ok (.if_icmp .ne 7, 3) := by decide +kernel
theorem dX12_wordOf_139 : decode cX12_wordOf 139 = .ok (.iconst 1, 1) := by decide +kernel
theorem dX12_wordOf_140 : decode cX12_wordOf 140 = .ok (.goto 4, 3) := by decide +kernel
theorem dX12_wordOf_143 : decode cX12_wordOf 143 = .ok (.iconst 0, 1) := by decide +kernel
theorem dX12_wordOf_144 : decode cX12_wordOf 144 = .ok (.istore 7, 2) := by decide +kernel
theorem dX12_wordOf_146 : decode cX12_wordOf 146 = .ok (.goto 7, 3) := by decide +kernel
theorem dX12_wordOf_149 : decode cX12_wordOf 149 = .ok (.iload 4, 2) := by decide +kernel
theorem dX12_wordOf_15 : decode cX12_wordOf 15 = .ok (.bipush 16, 2) := by decide +kernel
theorem dX12_wordOf_151 : decode cX12_wordOf 151 = .ok (.istore 7, 2) := by decide +kernel
theorem dX12_wordOf_153 : decode cX12_wordOf 153 = .ok (.iload 7, 2) := by decide +kernel
theorem dX12_wordOf_155 : decode cX12_wordOf 155 = .ok (.ifCond .eq 7, 3) := by decide +kernel
theorem dX12_wordOf_158 : decode cX12_wordOf 158 = .ok (.iconst 1, 1) := by decide +kernel
theorem dX12_wordOf_159 : decode cX12_wordOf 159 = .ok (.goto 4, 3) := by decide +kernel
theorem dX12_wordOf_162 : decode cX12_wordOf 162 = .ok (.iconst 0, 1) := by decide +kernel
theorem dX12_wordOf_163 : decode cX12_wordOf 163 = .ok (.ireturn, 1) := by decide +kernel
theorem dX12_wordOf_17 : decode cX12_wordOf 17 = .ok (.iload_n 3, 1) := by decide +kernel
theorem dX12_wordOf_18 : decode cX12_wordOf 18 = .ok (.iadd, 1) := by decide +kernel
theorem dX12_wordOf_19 : decode cX12_wordOf 19 = .ok (.iaload, 1) := by decide +kernel
theorem dX12_wordOf_20 : decode cX12_wordOf 20 = .ok (.istore 6, 2) := by decide +kernel
theorem dX12_wordOf_22 : decode cX12_wordOf 22 = .ok (.iconst 0, 1) := by decide +kernel
theorem dX12_wordOf_23 : decode cX12_wordOf 23 = .ok (.istore 7, 2) := by decide +kernel
theorem dX12_wordOf_25 : decode cX12_wordOf 25 = .ok (.iload_n 1, 1) := by decide +kernel
theorem dX12_wordOf_26 : decode cX12_wordOf 26 = .ok (.tableswitch 123 0 6 #[42, 45, 48, 59, 70, 81, 92], 42) := by decide +kernel
theorem dX12_wordOf_4 : decode cX12_wordOf 4 = .ok (.bipush 16, 2) := by decide +kernel
theorem dX12_wordOf_6 : decode cX12_wordOf 6 = .ok (.iload_n 2, 1) := by decide +kernel
theorem dX12_wordOf_68 : decode cX12_wordOf 68 = .ok (.iload 5, 2) := by decide +kernel
theorem dX12_wordOf_7 : decode cX12_wordOf 7 = .ok (.iadd, 1) := by decide +kernel
theorem dX12_wordOf_70 : decode cX12_wordOf 70 = .ok (.ireturn, 1) := by decide +kernel
theorem dX12_wordOf_71 : decode cX12_wordOf 71 = .ok (.iload 6, 2) := by decide +kernel
theorem dX12_wordOf_73 : decode cX12_wordOf 73 = .ok (.ireturn, 1) := by decide +kernel
theorem dX12_wordOf_74 : decode cX12_wordOf 74 = .ok (.aload_n 0, 1) := by decide +kernel
theorem dX12_wordOf_75 : decode cX12_wordOf 75 = .ok (.iload 5, 2) := by decide +kernel
theorem dX12_wordOf_77 : decode cX12_wordOf 77 = .ok (.invokevirtual 295, 3) := by decide +kernel
theorem dX12_wordOf_8 : decode cX12_wordOf 8 = .ok (.iaload, 1) := by decide +kernel
theorem dX12_wordOf_80 : decode cX12_wordOf 80 = .ok (.istore 7, 2) := by decide +kernel
theorem dX12_wordOf_82 : decode cX12_wordOf 82 = .ok (.goto 71, 3) := by decide +kernel
theorem dX12_wordOf_85 : decode cX12_wordOf 85 = .ok (.aload_n 0, 1) := by decide +kernel
theorem dX12_wordOf_86 : decode cX12_wordOf 86 = .ok (.iload 6, 2) := by decide +kernel
theorem dX12_wordOf_88 : decode cX12_wordOf 88 = .ok (.invokevirtual 295, 3) := by decide +kernel
theorem dX12_wordOf_9 : decode cX12_wordOf 9 = .ok (.istore 5, 2) := by decide +kernel
theorem dX12_wordOf_91 : decode cX12_wordOf 91 = .ok (.istore 7, 2) := by decide +kernel
theorem dX12_wordOf_93 : decode cX12_wordOf 93 = .ok (.goto 60, 3) := by decide +kernel
theorem dX12_wordOf_96 : decode cX12_wordOf 96 = .ok (.aload_n 0, 1) := by decide +kernel
theorem dX12_wordOf_97 : decode cX12_wordOf 97 = .ok (.iload 5, 2) := by decide +kernel
theorem dX12_wordOf_99 : decode cX12_wordOf 99 = .ok (.invokevirtual 298, 3) := by decide +kernel
theorem dX12_write_0 : decode cX12_write 0 = .ok (.aload_n 0, 1) := by decide +kernel
theorem dX12_write_1 : decode cX12_write 1 = .ok (.aload_n 0, 1) := by decide +kernel
theorem dX12_write_10 : decode cX12_write 10 = .ok (.getfield 73, 3) := by decide +kernel
theorem dX12_write_13 : decode cX12_write 13 = .ok (.ifCond .le 5, 3) := by decide +kernel
theorem dX12_write_16 : decode cX12_write 16 = .ok (.lconst 0, 1) := by decide +kernel
theorem dX12_write_17 : decode cX12_write 17 = .ok (.lreturn, 1) := by decide +kernel
theorem dX12_write_18 : decode cX12_write 18 = .ok (.iload_n 2, 1) := by decide +kernel
theorem dX12_write_19 : decode cX12_write 19 = .ok (.i2l, 1) := by decide +kernel
theorem dX12_write_2 : decode cX12_write 2 = .ok (.iload_n 1, 1) := by decide +kernel
theorem dX12_write_20 : decode cX12_write 20 = .ok (.lconst 0, 1) := by decide +kernel
theorem dX12_write_21 : decode cX12_write 21 = .ok (.aload_n 0, 1) := by decide +kernel
theorem dX12_write_22 : decode cX12_write 22 = .ok (.getfield 66, 3) := by decide +kernel
theorem dX12_write_25 : decode cX12_write 25 = .ok (.iload_n 1, 1) := by decide +kernel
theorem dX12_write_26 : decode cX12_write 26 = .ok (.iaload, 1) := by decide +kernel
theorem dX12_write_27 : decode cX12_write 27 = .ok (.iconst 1, 1) := by decide +kernel
theorem dX12_write_28 : decode cX12_write 28 = .ok (.isub, 1) := by decide +kernel
theorem dX12_write_29 : decode cX12_write 29 = .ok (.i2l, 1) := by decide +kernel
theorem dX12_write_3 : decode cX12_write 3 = .ok (.invokevirtual 401, 3) := by decide +kernel
theorem dX12_write_30 : decode cX12_write 30 = .ok (.invokestatic 137, 3) := by decide +kernel
theorem dX12_write_33 : decode cX12_write 33 = .ok (.ifCond .eq 13, 3) := by decide +kernel
theorem dX12_write_36 : decode cX12_write 36 = .ok (.aload_n 0, 1) := by decide +kernel
theorem dX12_write_37 : decode cX12_write 37 = .ok (.iload_n 1, 1) := by decide +kernel
theorem dX12_write_38 : decode cX12_write 38 = .ok (.iload_n 2, 1) := by decide +kernel
theorem dX12_write_39 : decode cX12_write 39 = .ok (.lload_n 3, 1) := by decide +kernel
theorem dX12_write_40 : decode cX12_write 40 = .ok (.invokevirtual 535, 3) := by decide +kernel
theorem dX12_write_43 : decode cX12_write 43 = .ok (.goto 9, 3) := by decide +kernel
theorem dX12_write_46 : decode cX12_write 46 = .ok (.aload_n 0, 1) := by decide +kernel
theorem dX12_write_47 : decode cX12_write 47 = .ok (.iconst 3, 1) := by decide +kernel
theorem dX12_write_48 : decode cX12_write 48 = .ok (.invokevirtual 262, 3) := by decide +kernel
theorem dX12_write_51 : decode cX12_write 51 = .ok (.i2l, 1) := by decide +kernel
theorem dX12_write_52 : decode cX12_write 52 = .ok (.lreturn, 1) := by decide +kernel
theorem dX12_write_6 : decode cX12_write 6 = .ok (.putfield 73, 3) := by decide +kernel
theorem dX12_write_9 : decode cX12_write 9 = .ok (.aload_n 0, 1) := by decide +kernel
set_option maxRecDepth 4000 in
theorem k_X12_thrown (l : Launch) (M : Mem) (hJ : Iw M) : CI l yX12_thrown cX12_thrown 1 (some .int) 1 (fun ad => [.ref (ad 131)]) M (fun z M' => (0 ≤ z ∧ z ≤ 3) ∧ M = M') := by
  obtain ⟨hI, hW⟩ := hJ
  refine en_i (by decide +kernel) (fun ad => by exact Nat.le_of_ble_eq_true rfl) (fun D cy ad A p e s m args below meth c Q F hret => ?_)
  refine z_eq (ls' := [(0, .ref (ad 131))]) rfl rfl rfl ?_
  refine z_aload_n F dX12_thrown_0 rfl (q := 0) rfl ?_
  refine gf_X12_73 F hI gs_131 rfl bd_131_4 dX12_thrown_1 (fun v1 ev1 av1 bv1 => ?_)
  exact hret _ _ 4 _ (by omega) ⟨hI, hW⟩ ⟨⟨by omega, by omega⟩, rfl⟩ dX12_thrown_4
set_option maxRecDepth 4000 in
theorem k_X12_fails (l : Launch) (M : Mem) (hJ : Iw M) (x0 : Int) (hx0a : 0 ≤ x0) (hx0b : x0 ≤ 3) : CI l yX12_fails cX12_fails 2 (some .int) 1 (fun ad => [.ref (ad 131), ii x0]) M (fun z M' => (0 ≤ z ∧ z ≤ 0) ∧ Fr [131] M M') := by
  obtain ⟨hI, hW⟩ := hJ
  have hF : Fr [131] M M := Fr.rf
  refine en_i (by decide +kernel) (fun ad => by exact Nat.le_of_ble_eq_true rfl) (fun D cy ad A p e s m args below meth c Q F hret => ?_)
  refine z_eq (ls' := [(0, .ref (ad 131)), (1, ii x0)]) rfl rfl rfl ?_
  refine z_aload_n F dX12_fails_0 rfl (q := 0) rfl ?_
  refine z_iload_n F dX12_fails_1 rfl (q := 1) rfl ?_
  refine pf_X12_73 F hI gs_131 rfl bd_131_4 rfl rfl dX12_fails_2 (by omega) (by omega) (fun M2 hI sf1 f1 => ?_)
  have hF := hF.wr f1 (by decide) (by decide)
  have hW : WFk M2 := hW.site f1 (by decide)
  refine z_iconst F dX12_fails_5 ?_
  exact hret _ _ 6 _ (by omega) ⟨hI, hW⟩ ⟨⟨by omega, by omega⟩, hF⟩ dX12_fails_6
set_option maxRecDepth 4000 in
theorem k_X12_within (l : Launch) (M : Mem) (hJ : Iw M) (x0 : Int) (hx0a : (-9223372036854775808) ≤ x0) (hx0b : x0 ≤ 9223372036854775807) (x1 : Int) (hx1a : (-9223372036854775808) ≤ x1) (hx1b : x1 ≤ 9223372036854775807) (x2 : Int) (hx2a : (-9223372036854775808) ≤ x2) (hx2b : x2 ≤ 9223372036854775807) : CI l yX12_within cX12_within 6 (some .boolean) 1 (fun ad => [ll x0, ll x1, ll x2]) M (fun z M' => (0 ≤ z ∧ z ≤ 1) ∧ M = M' ∧ (z = 1 ∧ x1 ≤ x0 ∧ x0 ≤ x2 ∨ z = 0 ∧ (x0 < x1 ∨ x2 < x0))) := by
  obtain ⟨hI, hW⟩ := hJ
  refine en_z (by decide +kernel) (fun ad => by exact Nat.le_of_ble_eq_true rfl) (fun D cy ad A p e s m args below meth c Q F hret => ?_)
  refine z_eq (ls' := [(0, ll x0), (2, ll x1), (4, ll x2)]) rfl rfl rfl ?_
  refine z_lload_n F dX12_within_0 rfl (q := 0) rfl ?_
  refine z_lload_n F dX12_within_1 rfl (q := 1) rfl ?_
  refine z_lcmp F dX12_within_2 (by omega) (by omega) (fun v1 ev1 => ?_)
  refine z_if_lt (tgt := 17) F dX12_within_3 (by decide +kernel) (by omega) (fun c2 => ?_) (fun c2 => ?_)
  · refine z_iconst F dX12_within_17 ?_
    exact hret _ _ 18 _ ⟨by omega, by omega⟩ ⟨hI, hW⟩ ⟨⟨by omega, by omega⟩, rfl, (by omega)⟩ dX12_within_18
  · refine z_lload_n F dX12_within_6 rfl (q := 0) rfl ?_
    refine z_lload F dX12_within_7 (q := 2) rfl ?_
    refine z_lcmp F dX12_within_9 (by omega) (by omega) (fun v3 ev3 => ?_)
    refine z_if_gt (tgt := 17) F dX12_within_10 (by decide +kernel) (by omega) (fun c4 => ?_) (fun c4 => ?_)
    · refine z_iconst F dX12_within_17 ?_
      exact hret _ _ 18 _ ⟨by omega, by omega⟩ ⟨hI, hW⟩ ⟨⟨by omega, by omega⟩, rfl, (by omega)⟩ dX12_within_18
    · refine z_iconst F dX12_within_13 ?_
      refine z_goto (tgt := 18) F dX12_within_14 (by decide +kernel) ?_
      exact hret _ _ 18 _ ⟨by omega, by omega⟩ ⟨hI, hW⟩ ⟨⟨by omega, by omega⟩, rfl, (by omega)⟩ dX12_within_18
set_option maxRecDepth 4000 in
theorem k_X12_has (l : Launch) (M : Mem) (hJ : Iw M) (x0 : Int) (hx0a : (-2147483648) ≤ x0) (hx0b : x0 ≤ 2147483647) (x1 : Int) (hx1a : (-2147483648) ≤ x1) (hx1b : x1 ≤ 2147483647) : CI l yX12_has cX12_has 2 (some .boolean) 1 (fun ad => [ii x0, ii x1]) M (fun z M' => (0 ≤ z ∧ z ≤ 1) ∧ M = M') := by
  obtain ⟨hI, hW⟩ := hJ
  refine en_z (by decide +kernel) (fun ad => by exact Nat.le_of_ble_eq_true rfl) (fun D cy ad A p e s m args below meth c Q F hret => ?_)
  refine z_eq (ls' := [(0, ii x0), (1, ii x1)]) rfl rfl rfl ?_
  refine z_iload_n F dX12_has_0 rfl (q := 0) rfl ?_
  refine z_iload_n F dX12_has_1 rfl (q := 1) rfl ?_
  refine z_ishr0 F dX12_has_2 (fun v1 ev1 rv1 => ?_)
  refine z_iconst F dX12_has_3 ?_
  refine z_iand_r F dX12_has_4 (by omega) (by omega) (fun v2 av2 bv2 => ?_)
  refine z_iconst F dX12_has_5 ?_
  refine z_icmp_ne (tgt := 13) F dX12_has_6 (by decide +kernel) (by omega) (by omega) (fun c3 => ?_) (fun c3 => ?_)
  · refine z_iconst F dX12_has_13 ?_
    exact hret _ _ 14 _ ⟨by omega, by omega⟩ ⟨hI, hW⟩ ⟨⟨by omega, by omega⟩, rfl⟩ dX12_has_14
  · refine z_iconst F dX12_has_9 ?_
    refine z_goto (tgt := 14) F dX12_has_10 (by decide +kernel) ?_
    exact hret _ _ 14 _ ⟨by omega, by omega⟩ ⟨hI, hW⟩ ⟨⟨by omega, by omega⟩, rfl⟩ dX12_has_14
set_option maxRecDepth 4000 in
theorem k_X12_see (l : Launch) (M : Mem) (hJ : Iw M) (x0 : Int) (hx0a : 0 ≤ x0) (hx0b : x0 ≤ 900) : CI l yX12_see cX12_see 2 (some .int) 1 (fun ad => [.ref (ad 131), ii x0]) M (fun z M' => ((-2147483648) ≤ z ∧ z ≤ 2147483647) ∧ M = M') := by
  obtain ⟨hI, hW⟩ := hJ
  refine en_i (by decide +kernel) (fun ad => by exact Nat.le_of_ble_eq_true rfl) (fun D cy ad A p e s m args below meth c Q F hret => ?_)
  refine z_eq (ls' := [(0, .ref (ad 131)), (1, ii x0)]) rfl rfl rfl ?_
  refine z_iload_n F dX12_see_0 rfl (q := 1) rfl ?_
  refine z_aload_n F dX12_see_1 rfl (q := 0) rfl ?_
  refine gf_X12_79 F hI gs_131 rfl bd_131_7 dX12_see_2 (fun v1 ev1 av1 bv1 => ?_)
  refine z_icmp_ge (tgt := 17) F dX12_see_5 (by decide +kernel) (by omega) (by omega) (fun c2 => ?_) (fun c2 => ?_)
  · refine z_iconst F dX12_see_17 ?_
    exact hret _ _ 18 _ (by omega) ⟨hI, hW⟩ ⟨⟨by omega, by omega⟩, rfl⟩ dX12_see_18
  · refine z_aload_n F dX12_see_8 rfl (q := 0) rfl ?_
    refine rf_X12_23 F gs_131 rfl dX12_see_9 ?_
    refine z_iload_n F dX12_see_12 rfl (q := 1) rfl ?_
    refine z_iald F hI gs_136 (by omega) (by omega) (by decide) bd_136 dX12_see_13 (fun v3 (ev3 : v3 = M 136 _) av3 bv3 => ?_)
    refine z_goto (tgt := 18) F dX12_see_14 (by decide +kernel) ?_
    exact hret _ _ 18 _ (by omega) ⟨hI, hW⟩ ⟨⟨by omega, by omega⟩, rfl⟩ dX12_see_18
set_option maxRecDepth 4000 in
theorem k_X12_isLetter (l : Launch) (M : Mem) (hJ : Iw M) (x0 : Int) (hx0a : (-2147483648) ≤ x0) (hx0b : x0 ≤ 2147483647) : CI l yX12_isLetter cX12_isLetter 1 (some .boolean) 1 (fun ad => [ii x0]) M (fun z M' => (0 ≤ z ∧ z ≤ 1) ∧ M = M') := by
  obtain ⟨hI, hW⟩ := hJ
  refine en_z (by decide +kernel) (fun ad => by exact Nat.le_of_ble_eq_true rfl) (fun D cy ad A p e s m args below meth c Q F hret => ?_)
  refine z_eq (ls' := [(0, ii x0)]) rfl rfl rfl ?_
  refine z_iload_n F dX12_isLetter_0 rfl (q := 0) rfl ?_
  refine z_bipush F dX12_isLetter_1 (by decide +kernel) ?_
  refine z_icmp_lt (tgt := 16) F dX12_isLetter_3 (by decide +kernel) (by omega) (by omega) (fun c1 => ?_) (fun c1 => ?_)
  · refine z_iconst F dX12_isLetter_16 ?_
    exact hret _ _ 17 _ ⟨by omega, by omega⟩ ⟨hI, hW⟩ ⟨⟨by omega, by omega⟩, rfl⟩ dX12_isLetter_17
  · refine z_iload_n F dX12_isLetter_6 rfl (q := 0) rfl ?_
    refine z_bipush F dX12_isLetter_7 (by decide +kernel) ?_
    refine z_icmp_gt (tgt := 16) F dX12_isLetter_9 (by decide +kernel) (by omega) (by omega) (fun c2 => ?_) (fun c2 => ?_)
    · refine z_iconst F dX12_isLetter_16 ?_
      exact hret _ _ 17 _ ⟨by omega, by omega⟩ ⟨hI, hW⟩ ⟨⟨by omega, by omega⟩, rfl⟩ dX12_isLetter_17
    · refine z_iconst F dX12_isLetter_12 ?_
      refine z_goto (tgt := 17) F dX12_isLetter_13 (by decide +kernel) ?_
      exact hret _ _ 17 _ ⟨by omega, by omega⟩ ⟨hI, hW⟩ ⟨⟨by omega, by omega⟩, rfl⟩ dX12_isLetter_17
set_option maxRecDepth 4000 in
theorem k_X12_isDigit (l : Launch) (M : Mem) (hJ : Iw M) (x0 : Int) (hx0a : (-2147483648) ≤ x0) (hx0b : x0 ≤ 2147483647) : CI l yX12_isDigit cX12_isDigit 1 (some .boolean) 1 (fun ad => [ii x0]) M (fun z M' => (0 ≤ z ∧ z ≤ 1) ∧ M = M') := by
  obtain ⟨hI, hW⟩ := hJ
  refine en_z (by decide +kernel) (fun ad => by exact Nat.le_of_ble_eq_true rfl) (fun D cy ad A p e s m args below meth c Q F hret => ?_)
  refine z_eq (ls' := [(0, ii x0)]) rfl rfl rfl ?_
  refine z_iload_n F dX12_isDigit_0 rfl (q := 0) rfl ?_
  refine z_bipush F dX12_isDigit_1 (by decide +kernel) ?_
  refine z_icmp_lt (tgt := 16) F dX12_isDigit_3 (by decide +kernel) (by omega) (by omega) (fun c1 => ?_) (fun c1 => ?_)
  · refine z_iconst F dX12_isDigit_16 ?_
    exact hret _ _ 17 _ ⟨by omega, by omega⟩ ⟨hI, hW⟩ ⟨⟨by omega, by omega⟩, rfl⟩ dX12_isDigit_17
  · refine z_iload_n F dX12_isDigit_6 rfl (q := 0) rfl ?_
    refine z_bipush F dX12_isDigit_7 (by decide +kernel) ?_
    refine z_icmp_gt (tgt := 16) F dX12_isDigit_9 (by decide +kernel) (by omega) (by omega) (fun c2 => ?_) (fun c2 => ?_)
    · refine z_iconst F dX12_isDigit_16 ?_
      exact hret _ _ 17 _ ⟨by omega, by omega⟩ ⟨hI, hW⟩ ⟨⟨by omega, by omega⟩, rfl⟩ dX12_isDigit_17
    · refine z_iconst F dX12_isDigit_12 ?_
      refine z_goto (tgt := 17) F dX12_isDigit_13 (by decide +kernel) ?_
      exact hret _ _ 17 _ ⟨by omega, by omega⟩ ⟨hI, hW⟩ ⟨⟨by omega, by omega⟩, rfl⟩ dX12_isDigit_17
set_option maxRecDepth 4000 in
theorem k_X12_isSignByte (l : Launch) (M : Mem) (hJ : Iw M) (x0 : Int) (hx0a : (-2147483648) ≤ x0) (hx0b : x0 ≤ 2147483647) : CI l yX12_isSignByte cX12_isSignByte 2 (some .boolean) 1 (fun ad => [ii x0]) M (fun z M' => (0 ≤ z ∧ z ≤ 1) ∧ M = M') := by
  obtain ⟨hI, hW⟩ := hJ
  refine en_z (by decide +kernel) (fun ad => by exact Nat.le_of_ble_eq_true rfl) (fun D cy ad A p e s m args below meth c Q F hret => ?_)
  refine z_eq (ls' := [(0, ii x0)]) rfl rfl rfl ?_
  refine z_iload_n F dX12_isSignByte_0 rfl (q := 0) rfl ?_
  refine z_bipush F dX12_isSignByte_1 (by decide +kernel) ?_
  refine z_icmp_eq (tgt := 30) F dX12_isSignByte_3 (by decide +kernel) (by omega) (by omega) (fun c1 => ?_) (fun c1 => ?_)
  · refine z_iconst F dX12_isSignByte_30 ?_
    refine z_goto (tgt := 35) F dX12_isSignByte_31 (by decide +kernel) ?_
    refine z_istore_n F dX12_isSignByte_35 rfl (by decide) (ls' := [(1, ii 1), (0, ii x0)]) rfl ?_
    refine z_iload_n F dX12_isSignByte_36 rfl (q := 0) rfl ?_
    refine z_if_ne (tgt := 76) F dX12_isSignByte_37 (by decide +kernel) (by omega) (fun c2 => ?_) (fun c2 => by exfalso; omega)
    refine z_iconst F dX12_isSignByte_76 ?_
    refine z_goto (tgt := 81) F dX12_isSignByte_77 (by decide +kernel) ?_
    exact hret _ _ 81 _ ⟨by omega, by omega⟩ ⟨hI, hW⟩ ⟨⟨by omega, by omega⟩, rfl⟩ dX12_isSignByte_81
  · refine z_iload_n F dX12_isSignByte_6 rfl (q := 0) rfl ?_
    refine z_bipush F dX12_isSignByte_7 (by decide +kernel) ?_
    refine z_icmp_eq (tgt := 30) F dX12_isSignByte_9 (by decide +kernel) (by omega) (by omega) (fun c3 => ?_) (fun c3 => ?_)
    · refine z_iconst F dX12_isSignByte_30 ?_
      refine z_goto (tgt := 35) F dX12_isSignByte_31 (by decide +kernel) ?_
      refine z_istore_n F dX12_isSignByte_35 rfl (by decide) (ls' := [(1, ii 1), (0, ii x0)]) rfl ?_
      refine z_iload_n F dX12_isSignByte_36 rfl (q := 0) rfl ?_
      refine z_if_ne (tgt := 76) F dX12_isSignByte_37 (by decide +kernel) (by omega) (fun c4 => ?_) (fun c4 => by exfalso; omega)
      refine z_iconst F dX12_isSignByte_76 ?_
      refine z_goto (tgt := 81) F dX12_isSignByte_77 (by decide +kernel) ?_
      exact hret _ _ 81 _ ⟨by omega, by omega⟩ ⟨hI, hW⟩ ⟨⟨by omega, by omega⟩, rfl⟩ dX12_isSignByte_81
    · refine z_iload_n F dX12_isSignByte_12 rfl (q := 0) rfl ?_
      refine z_bipush F dX12_isSignByte_13 (by decide +kernel) ?_
      refine z_icmp_eq (tgt := 30) F dX12_isSignByte_15 (by decide +kernel) (by omega) (by omega) (fun c5 => ?_) (fun c5 => ?_)
      · refine z_iconst F dX12_isSignByte_30 ?_
        refine z_goto (tgt := 35) F dX12_isSignByte_31 (by decide +kernel) ?_
        refine z_istore_n F dX12_isSignByte_35 rfl (by decide) (ls' := [(1, ii 1), (0, ii x0)]) rfl ?_
        refine z_iload_n F dX12_isSignByte_36 rfl (q := 0) rfl ?_
        refine z_if_ne (tgt := 76) F dX12_isSignByte_37 (by decide +kernel) (by omega) (fun c6 => ?_) (fun c6 => by exfalso; omega)
        refine z_iconst F dX12_isSignByte_76 ?_
        refine z_goto (tgt := 81) F dX12_isSignByte_77 (by decide +kernel) ?_
        exact hret _ _ 81 _ ⟨by omega, by omega⟩ ⟨hI, hW⟩ ⟨⟨by omega, by omega⟩, rfl⟩ dX12_isSignByte_81
      · refine z_iload_n F dX12_isSignByte_18 rfl (q := 0) rfl ?_
        refine z_bipush F dX12_isSignByte_19 (by decide +kernel) ?_
        refine z_icmp_eq (tgt := 30) F dX12_isSignByte_21 (by decide +kernel) (by omega) (by omega) (fun c7 => ?_) (fun c7 => ?_)
        · refine z_iconst F dX12_isSignByte_30 ?_
          refine z_goto (tgt := 35) F dX12_isSignByte_31 (by decide +kernel) ?_
          refine z_istore_n F dX12_isSignByte_35 rfl (by decide) (ls' := [(1, ii 1), (0, ii x0)]) rfl ?_
          refine z_iload_n F dX12_isSignByte_36 rfl (q := 0) rfl ?_
          refine z_if_ne (tgt := 76) F dX12_isSignByte_37 (by decide +kernel) (by omega) (fun c8 => ?_) (fun c8 => by exfalso; omega)
          refine z_iconst F dX12_isSignByte_76 ?_
          refine z_goto (tgt := 81) F dX12_isSignByte_77 (by decide +kernel) ?_
          exact hret _ _ 81 _ ⟨by omega, by omega⟩ ⟨hI, hW⟩ ⟨⟨by omega, by omega⟩, rfl⟩ dX12_isSignByte_81
        · refine z_iload_n F dX12_isSignByte_24 rfl (q := 0) rfl ?_
          refine z_bipush F dX12_isSignByte_25 (by decide +kernel) ?_
          refine z_icmp_ne (tgt := 34) F dX12_isSignByte_27 (by decide +kernel) (by omega) (by omega) (fun c9 => ?_) (fun c9 => ?_)
          · refine z_iconst F dX12_isSignByte_34 ?_
            refine z_istore_n F dX12_isSignByte_35 rfl (by decide) (ls' := [(1, ii 0), (0, ii x0)]) rfl ?_
            refine z_iload_n F dX12_isSignByte_36 rfl (q := 0) rfl ?_
            refine z_if_ne (tgt := 76) F dX12_isSignByte_37 (by decide +kernel) (by omega) (fun c10 => by exfalso; omega) (fun c10 => ?_)
            refine z_iload_n F dX12_isSignByte_40 rfl (q := 1) rfl ?_
            refine z_bipush F dX12_isSignByte_41 (by decide +kernel) ?_
            refine z_icmp_eq (tgt := 76) F dX12_isSignByte_43 (by decide +kernel) (by omega) (by omega) (fun c11 => ?_) (fun c11 => ?_)
            · refine z_iconst F dX12_isSignByte_76 ?_
              refine z_goto (tgt := 81) F dX12_isSignByte_77 (by decide +kernel) ?_
              exact hret _ _ 81 _ ⟨by omega, by omega⟩ ⟨hI, hW⟩ ⟨⟨by omega, by omega⟩, rfl⟩ dX12_isSignByte_81
            · refine z_iload_n F dX12_isSignByte_46 rfl (q := 1) rfl ?_
              refine z_bipush F dX12_isSignByte_47 (by decide +kernel) ?_
              refine z_icmp_eq (tgt := 76) F dX12_isSignByte_49 (by decide +kernel) (by omega) (by omega) (fun c12 => ?_) (fun c12 => ?_)
              · refine z_iconst F dX12_isSignByte_76 ?_
                refine z_goto (tgt := 81) F dX12_isSignByte_77 (by decide +kernel) ?_
                exact hret _ _ 81 _ ⟨by omega, by omega⟩ ⟨hI, hW⟩ ⟨⟨by omega, by omega⟩, rfl⟩ dX12_isSignByte_81
              · refine z_iload_n F dX12_isSignByte_52 rfl (q := 1) rfl ?_
                refine z_bipush F dX12_isSignByte_53 (by decide +kernel) ?_
                refine z_icmp_eq (tgt := 76) F dX12_isSignByte_55 (by decide +kernel) (by omega) (by omega) (fun c13 => ?_) (fun c13 => ?_)
                · refine z_iconst F dX12_isSignByte_76 ?_
                  refine z_goto (tgt := 81) F dX12_isSignByte_77 (by decide +kernel) ?_
                  exact hret _ _ 81 _ ⟨by omega, by omega⟩ ⟨hI, hW⟩ ⟨⟨by omega, by omega⟩, rfl⟩ dX12_isSignByte_81
                · refine z_iload_n F dX12_isSignByte_58 rfl (q := 1) rfl ?_
                  refine z_bipush F dX12_isSignByte_59 (by decide +kernel) ?_
                  refine z_icmp_eq (tgt := 76) F dX12_isSignByte_61 (by decide +kernel) (by omega) (by omega) (fun c14 => ?_) (fun c14 => ?_)
                  · refine z_iconst F dX12_isSignByte_76 ?_
                    refine z_goto (tgt := 81) F dX12_isSignByte_77 (by decide +kernel) ?_
                    exact hret _ _ 81 _ ⟨by omega, by omega⟩ ⟨hI, hW⟩ ⟨⟨by omega, by omega⟩, rfl⟩ dX12_isSignByte_81
                  · refine z_iload_n F dX12_isSignByte_64 rfl (q := 1) rfl ?_
                    refine z_bipush F dX12_isSignByte_65 (by decide +kernel) ?_
                    refine z_icmp_eq (tgt := 76) F dX12_isSignByte_67 (by decide +kernel) (by omega) (by omega) (fun c15 => ?_) (fun c15 => ?_)
                    · refine z_iconst F dX12_isSignByte_76 ?_
                      refine z_goto (tgt := 81) F dX12_isSignByte_77 (by decide +kernel) ?_
                      exact hret _ _ 81 _ ⟨by omega, by omega⟩ ⟨hI, hW⟩ ⟨⟨by omega, by omega⟩, rfl⟩ dX12_isSignByte_81
                    · refine z_iload_n F dX12_isSignByte_70 rfl (q := 1) rfl ?_
                      refine z_bipush F dX12_isSignByte_71 (by decide +kernel) ?_
                      refine z_icmp_ne (tgt := 80) F dX12_isSignByte_73 (by decide +kernel) (by omega) (by omega) (fun c16 => ?_) (fun c16 => ?_)
                      · refine z_iconst F dX12_isSignByte_80 ?_
                        exact hret _ _ 81 _ ⟨by omega, by omega⟩ ⟨hI, hW⟩ ⟨⟨by omega, by omega⟩, rfl⟩ dX12_isSignByte_81
                      · refine z_iconst F dX12_isSignByte_76 ?_
                        refine z_goto (tgt := 81) F dX12_isSignByte_77 (by decide +kernel) ?_
                        exact hret _ _ 81 _ ⟨by omega, by omega⟩ ⟨hI, hW⟩ ⟨⟨by omega, by omega⟩, rfl⟩ dX12_isSignByte_81
          · refine z_iconst F dX12_isSignByte_30 ?_
            refine z_goto (tgt := 35) F dX12_isSignByte_31 (by decide +kernel) ?_
            refine z_istore_n F dX12_isSignByte_35 rfl (by decide) (ls' := [(1, ii 1), (0, ii x0)]) rfl ?_
            refine z_iload_n F dX12_isSignByte_36 rfl (q := 0) rfl ?_
            refine z_if_ne (tgt := 76) F dX12_isSignByte_37 (by decide +kernel) (by omega) (fun c17 => ?_) (fun c17 => by exfalso; omega)
            refine z_iconst F dX12_isSignByte_76 ?_
            refine z_goto (tgt := 81) F dX12_isSignByte_77 (by decide +kernel) ?_
            exact hret _ _ 81 _ ⟨by omega, by omega⟩ ⟨hI, hW⟩ ⟨⟨by omega, by omega⟩, rfl⟩ dX12_isSignByte_81
set_option maxRecDepth 4000 in
theorem k_X12_blames (l : Launch) (M : Mem) (hJ : Iw M) (x0 : Int) (hx0a : 1 ≤ x0) (hx0b : x0 ≤ 4) : CV l yX12_blames cX12_blames 2 none 1 (fun ad => [.ref (ad 131), ii x0]) M (fun M' => Fr [131] M M') := by
  obtain ⟨hI, hW⟩ := hJ
  have hF : Fr [131] M M := Fr.rf
  refine en_v (by decide +kernel) (fun ad => by exact Nat.le_of_ble_eq_true rfl) (fun D cy ad A p e s m args below meth c Q F hret => ?_)
  refine z_eq (ls' := [(0, .ref (ad 131)), (1, ii x0)]) rfl rfl rfl ?_
  refine z_aload_n F dX12_blames_0 rfl (q := 0) rfl ?_
  refine gf_X12_108 F hI gs_131 rfl bd_131_12 dX12_blames_1 (fun v1 ev1 av1 bv1 => ?_)
  refine z_if_eq (tgt := 8) F dX12_blames_4 (by decide +kernel) (by omega) (fun c2 => ?_) (fun c2 => ?_)
  · refine z_aload_n F dX12_blames_8 rfl (q := 0) rfl ?_
    refine z_aload_n F dX12_blames_9 rfl (q := 0) rfl ?_
    refine gf_X12_88 F hI gs_131 rfl bd_131_10 dX12_blames_10 (fun v3 ev3 av3 bv3 => ?_)
    refine z_iconst F dX12_blames_13 ?_
    refine z_icmp_ne (tgt := 21) F dX12_blames_14 (by decide +kernel) (by omega) (by omega) (fun c4 => ?_) (fun c4 => ?_)
    · refine z_iload_n F dX12_blames_21 rfl (q := 1) rfl ?_
      refine pf_X12_108 F hI gs_131 rfl bd_131_12 rfl rfl dX12_blames_22 (by omega) (by omega) (fun M6 hI sf5 f5 => ?_)
      have hF := hF.wr f5 (by decide) (by decide)
      have hW : WFk M6 := hW.site f5 (by decide)
      refine z_aload_n F dX12_blames_25 rfl (q := 0) rfl ?_
      refine z_aload_n F dX12_blames_26 rfl (q := 0) rfl ?_
      refine gf_X12_85 F hI gs_131 rfl bd_131_9 dX12_blames_27 (fun v7 ev7 av7 bv7 => ?_)
      refine pf_X12_111 F hI gs_131 rfl bd_131_13 rfl rfl dX12_blames_30 (by omega) (by omega) (fun M9 hI sf8 f8 => ?_)
      have hF := hF.wr f8 (by decide) (by decide)
      have hW : WFk M9 := hW.site f8 (by decide)
      exact hret _ 33 _ ⟨hI, hW⟩ hF dX12_blames_33
    · refine z_iconst F dX12_blames_17 ?_
      refine z_goto (tgt := 22) F dX12_blames_18 (by decide +kernel) ?_
      refine pf_X12_108 F hI gs_131 rfl bd_131_12 rfl rfl dX12_blames_22 (by omega) (by omega) (fun M11 hI sf10 f10 => ?_)
      have hF := hF.wr f10 (by decide) (by decide)
      have hW : WFk M11 := hW.site f10 (by decide)
      refine z_aload_n F dX12_blames_25 rfl (q := 0) rfl ?_
      refine z_aload_n F dX12_blames_26 rfl (q := 0) rfl ?_
      refine gf_X12_85 F hI gs_131 rfl bd_131_9 dX12_blames_27 (fun v12 ev12 av12 bv12 => ?_)
      refine pf_X12_111 F hI gs_131 rfl bd_131_13 rfl rfl dX12_blames_30 (by omega) (by omega) (fun M14 hI sf13 f13 => ?_)
      have hF := hF.wr f13 (by decide) (by decide)
      have hW : WFk M14 := hW.site f13 (by decide)
      exact hret _ 33 _ ⟨hI, hW⟩ hF dX12_blames_33
  · exact hret _ 7 _ ⟨hI, hW⟩ hF dX12_blames_7
set_option maxRecDepth 4000 in
theorem k_X12_isSign (l : Launch) (M : Mem) (hJ : Iw M) (x0 : Int) (hx0a : (-2147483648) ≤ x0) (hx0b : x0 ≤ 2147483647) : CI l yX12_isSign cX12_isSign 2 (some .boolean) 1 (fun ad => [.ref (ad 131), ii x0]) M (fun z M' => (0 ≤ z ∧ z ≤ 1) ∧ M = M') := by
  obtain ⟨hI, hW⟩ := hJ
  refine en_z (by decide +kernel) (fun ad => by exact Nat.le_of_ble_eq_true rfl) (fun D cy ad A p e s m args below meth c Q F hret => ?_)
  refine z_eq (ls' := [(0, .ref (ad 131)), (1, ii x0)]) rfl rfl rfl ?_
  refine z_aload_n F dX12_isSign_0 rfl (q := 0) rfl ?_
  refine gf_X12_108 F hI gs_131 rfl bd_131_12 dX12_isSign_1 (fun v1 ev1 av1 bv1 => ?_)
  refine z_if_ne (tgt := 19) F dX12_isSign_4 (by decide +kernel) (by omega) (fun c2 => ?_) (fun c2 => ?_)
  · refine z_iconst F dX12_isSign_19 ?_
    exact hret _ _ 20 _ ⟨by omega, by omega⟩ ⟨hI, hW⟩ ⟨⟨by omega, by omega⟩, rfl⟩ dX12_isSign_20
  · refine z_aload_n F dX12_isSign_7 rfl (q := 0) rfl ?_
    refine gf_X12_88 F hI gs_131 rfl bd_131_10 dX12_isSign_8 (fun v3 ev3 av3 bv3 => ?_)
    refine z_iload_n F dX12_isSign_11 rfl (q := 1) rfl ?_
    refine z_icmp_ne (tgt := 19) F dX12_isSign_12 (by decide +kernel) (by omega) (by omega) (fun c4 => ?_) (fun c4 => ?_)
    · refine z_iconst F dX12_isSign_19 ?_
      exact hret _ _ 20 _ ⟨by omega, by omega⟩ ⟨hI, hW⟩ ⟨⟨by omega, by omega⟩, rfl⟩ dX12_isSign_20
    · refine z_iconst F dX12_isSign_15 ?_
      refine z_goto (tgt := 20) F dX12_isSign_16 (by decide +kernel) ?_
      exact hret _ _ 20 _ ⟨by omega, by omega⟩ ⟨hI, hW⟩ ⟨⟨by omega, by omega⟩, rfl⟩ dX12_isSign_20
set_option maxRecDepth 4000 in
theorem k_X12_thingAt_132 (l : Launch) (M : Mem) (hJ : Iw M) (x1 : Int) (hx1a : (-2147483648) ≤ x1) (hx1b : x1 ≤ 2147483647) : CI l yX12_thingAt cX12_thingAt 3 (some .int) 1 (fun ad => [.ref (ad 132), ii x1]) M (fun z M' => ((-1) ≤ z ∧ z ≤ 7) ∧ M = M') := by
  obtain ⟨hI, hW⟩ := hJ
  refine en_i (by decide +kernel) (fun ad => by exact Nat.le_of_ble_eq_true rfl) (fun D cy ad A p e s m args below meth c Q F hret => ?_)
  refine z_eq (ls' := [(0, .ref (ad 132)), (1, ii x1)]) rfl rfl rfl ?_
  refine z_iconst F dX12_thingAt_0 ?_
  refine z_istore_n F dX12_thingAt_1 rfl (by decide) (ls' := [(2, ii 0), (0, .ref (ad 132)), (1, ii x1)]) rfl ?_
  refine z_loc [1, 2, 0] (ls' := [(0, .ref (ad 132)), (1, ii x1), (2, ii 0)]) rfl ?_
  suffices key2 : ∀ (n : Nat) (y2 : Int), 0 ≤ y2 → y2 ≤ 8 → 8 - y2 < (n : Int) → Z D cy ad p l e (RMh 1) s m args below meth c A 3 0 0 Q 2 [(0, .ref (ad 132)), (1, ii x1), (2, ii y2)] [] M from key2 9 0 (by omega) (by omega) (by omega)
  intro n2
  induction n2 with
  | zero => intro y2 ay2 by2 hn2; exfalso; omega
  | succ n2 ih2 =>
    intro y2 ay2 by2 hn2
    refine z_iload_n F dX12_thingAt_2 rfl (q := 2) rfl ?_
    refine z_aload_n F dX12_thingAt_3 rfl (q := 0) rfl ?_
    refine z_iconst F dX12_thingAt_4 ?_
    refine z_iald F hI gs_132 (by omega) (by omega) (by decide) (show Bd 132 2 = (0, 8) from rfl) dX12_thingAt_5 (fun v3 (ev3 : v3 = M 132 2) av3 bv3 => ?_)
    refine z_icmp_ge (tgt := 27) F dX12_thingAt_6 (by decide +kernel) (by omega) (by omega) (fun c4 => ?_) (fun c4 => ?_)
    · refine z_iconst F dX12_thingAt_27 ?_
      exact hret _ _ 28 _ (by omega) ⟨hI, hW⟩ ⟨⟨by omega, by omega⟩, rfl⟩ dX12_thingAt_28
    · refine z_aload_n F dX12_thingAt_9 rfl (q := 0) rfl ?_
      refine z_bipush F dX12_thingAt_10 (by decide +kernel) ?_
      refine z_iload_n F dX12_thingAt_12 rfl (q := 2) rfl ?_
      refine z_iadd F dX12_thingAt_13 ?_
      refine z_iald F hI gs_132 (by omega) (by omega) (by decide) (bd_132.trans (kn_at (by omega) (by omega))) dX12_thingAt_14 (fun v5 (ev5 : v5 = M 132 _) av5 bv5 => ?_)
      refine z_iload_n F dX12_thingAt_15 rfl (q := 1) rfl ?_
      refine z_icmp_ne (tgt := 21) F dX12_thingAt_16 (by decide +kernel) (by omega) (by omega) (fun c6 => ?_) (fun c6 => ?_)
      · refine z_iincN F dX12_thingAt_21 (q := 2) rfl (by decide) (fun v7 ev7 => ?_)
        refine z_eq (ls' := [(2, ii v7), (0, .ref (ad 132)), (1, ii x1)]) rfl rfl rfl ?_
        refine z_goto (tgt := 2) F dX12_thingAt_24 (by decide +kernel) ?_
        refine z_loc [1, 2, 0] (ls' := [(0, .ref (ad 132)), (1, ii x1), (2, ii v7)]) rfl ?_
        exact ih2 v7 (by omega) (by omega) (by omega)
      · refine z_iload_n F dX12_thingAt_19 rfl (q := 2) rfl ?_
        exact hret _ _ 20 _ (by omega) ⟨hI, hW⟩ ⟨⟨by omega, by omega⟩, rfl⟩ dX12_thingAt_20
set_option maxRecDepth 4000 in
theorem k_X12_fault (l : Launch) (M : Mem) (hJ : Iw M) (x0 : Int) (hx0a : (-2147483648) ≤ x0) (hx0b : x0 ≤ 2147483647) : CI l yX12_fault cX12_fault 2 (some .int) 1 (fun ad => [.ref (ad 131), ii x0]) M (fun z M' => ((-1) ≤ z ∧ z ≤ 900) ∧ Fr [131] M M') := by
  obtain ⟨hI, hW⟩ := hJ
  have hF : Fr [131] M M := Fr.rf
  refine en_i (by decide +kernel) (fun ad => by exact Nat.le_of_ble_eq_true rfl) (fun D cy ad A p e s m args below meth c Q F hret => ?_)
  refine z_eq (ls' := [(0, .ref (ad 131)), (1, ii x0)]) rfl rfl rfl ?_
  refine z_aload_n F dX12_fault_0 rfl (q := 0) rfl ?_
  refine z_iconst F dX12_fault_1 ?_
  refine pf_X12_73 F hI gs_131 rfl bd_131_4 rfl rfl dX12_fault_2 (by omega) (by omega) (fun M2 hI sf1 f1 => ?_)
  have hF := hF.wr f1 (by decide) (by decide)
  have hW : WFk M2 := hW.site f1 (by decide)
  refine z_iload_n F dX12_fault_5 rfl (q := 1) rfl ?_
  refine z_if_ne (tgt := 16) F dX12_fault_6 (by decide +kernel) (by omega) (fun c3 => ?_) (fun c3 => ?_)
  · refine z_iload_n F dX12_fault_16 rfl (q := 1) rfl ?_
    refine z_iconst F dX12_fault_17 ?_
    refine z_icmp_ne (tgt := 28) F dX12_fault_18 (by decide +kernel) (by omega) (by omega) (fun c4 => ?_) (fun c4 => ?_)
    · refine z_iconst F dX12_fault_28 ?_
      exact hret _ _ 29 _ (by omega) ⟨hI, hW⟩ ⟨⟨by omega, by omega⟩, hF⟩ dX12_fault_29
    · refine z_aload_n F dX12_fault_21 rfl (q := 0) rfl ?_
      refine gf_X12_26 F hI gs_131 rfl bd_131_15 dX12_fault_22 (fun v5 ev5 av5 bv5 => ?_)
      refine z_goto (tgt := 29) F dX12_fault_25 (by decide +kernel) ?_
      exact hret _ _ 29 _ (by omega) ⟨hI, hW⟩ ⟨⟨by omega, by omega⟩, hF⟩ dX12_fault_29
  · refine z_aload_n F dX12_fault_9 rfl (q := 0) rfl ?_
    refine gf_X12_270 F hI gs_131 rfl bd_131_14 dX12_fault_10 (fun v6 ev6 av6 bv6 => ?_)
    refine z_goto (tgt := 29) F dX12_fault_13 (by decide +kernel) ?_
    exact hret _ _ 29 _ (by omega) ⟨hI, hW⟩ ⟨⟨by omega, by omega⟩, hF⟩ dX12_fault_29
set_option maxRecDepth 4000 in
theorem k_X12_places (l : Launch) (M : Mem) (hJ : Iw M) : CI l yX12_places cX12_places 1 (some .int) 1 (fun ad => [.ref (ad 131)]) M (fun z M' => (0 ≤ z ∧ z ≤ 10) ∧ M = M' ∧ (z = M 132 1)) := by
  obtain ⟨hI, hW⟩ := hJ
  refine en_i (by decide +kernel) (fun ad => by exact Nat.le_of_ble_eq_true rfl) (fun D cy ad A p e s m args below meth c Q F hret => ?_)
  refine z_eq (ls' := [(0, .ref (ad 131))]) rfl rfl rfl ?_
  refine z_aload_n F dX12_places_0 rfl (q := 0) rfl ?_
  refine rf_X12_9 F gs_131 rfl dX12_places_1 ?_
  refine z_iconst F dX12_places_4 ?_
  refine z_iald F hI gs_132 (by omega) (by omega) (by decide) (show Bd 132 1 = (0, 10) from rfl) dX12_places_5 (fun v1 (ev1 : v1 = M 132 1) av1 bv1 => ?_)
  exact hret _ _ 6 _ (by omega) ⟨hI, hW⟩ ⟨⟨by omega, by omega⟩, rfl, (by omega)⟩ dX12_places_6
set_option maxRecDepth 4000 in
theorem k_X12_things (l : Launch) (M : Mem) (hJ : Iw M) : CI l yX12_things cX12_things 1 (some .int) 1 (fun ad => [.ref (ad 131)]) M (fun z M' => (0 ≤ z ∧ z ≤ 8) ∧ M = M' ∧ (z = M 132 2)) := by
  obtain ⟨hI, hW⟩ := hJ
  refine en_i (by decide +kernel) (fun ad => by exact Nat.le_of_ble_eq_true rfl) (fun D cy ad A p e s m args below meth c Q F hret => ?_)
  refine z_eq (ls' := [(0, .ref (ad 131))]) rfl rfl rfl ?_
  refine z_aload_n F dX12_things_0 rfl (q := 0) rfl ?_
  refine rf_X12_9 F gs_131 rfl dX12_things_1 ?_
  refine z_iconst F dX12_things_4 ?_
  refine z_iald F hI gs_132 (by omega) (by omega) (by decide) (show Bd 132 2 = (0, 8) from rfl) dX12_things_5 (fun v1 (ev1 : v1 = M 132 2) av1 bv1 => ?_)
  exact hret _ _ 6 _ (by omega) ⟨hI, hW⟩ ⟨⟨by omega, by omega⟩, rfl, (by omega)⟩ dX12_things_6
set_option maxRecDepth 4000 in
theorem k_X12_lies (l : Launch) (M : Mem) (hJ : Iw M) (x0 : Int) (hx0a : 0 ≤ x0) (hx0b : x0 ≤ 7) : CI l yX12_lies cX12_lies 2 (some .int) 1 (fun ad => [.ref (ad 131), ii x0]) M (fun z M' => (0 ≤ z ∧ z ≤ 9) ∧ M = M') := by
  obtain ⟨hI, hW⟩ := hJ
  refine en_i (by decide +kernel) (fun ad => by exact Nat.le_of_ble_eq_true rfl) (fun D cy ad A p e s m args below meth c Q F hret => ?_)
  refine z_eq (ls' := [(0, .ref (ad 131)), (1, ii x0)]) rfl rfl rfl ?_
  refine z_aload_n F dX12_lies_0 rfl (q := 0) rfl ?_
  refine rf_X12_9 F gs_131 rfl dX12_lies_1 ?_
  refine z_bipush F dX12_lies_4 (by decide +kernel) ?_
  refine z_iload_n F dX12_lies_6 rfl (q := 1) rfl ?_
  refine z_iadd F dX12_lies_7 ?_
  refine z_iald F hI gs_132 (by omega) (by omega) (by decide) (bd_132.trans (kn_at (by omega) (by omega))) dX12_lies_8 (fun v1 (ev1 : v1 = M 132 _) av1 bv1 => ?_)
  exact hret _ _ 9 _ (by omega) ⟨hI, hW⟩ ⟨⟨by omega, by omega⟩, rfl⟩ dX12_lies_9
set_option maxRecDepth 4000 in
theorem k_X12_touch (l : Launch) (M : Mem) (hJ : Iw M) (x0 : Int) (hx0a : 0 ≤ x0) (hx0b : x0 ≤ 9) (x1 : Int) (hx1a : 0 ≤ x1) (hx1b : x1 ≤ 9) : CI l yX12_touch cX12_touch 3 (some .int) 1 (fun ad => [.ref (ad 131), ii x0, ii x1]) M (fun z M' => (0 ≤ z ∧ z ≤ 2) ∧ M = M') := by
  obtain ⟨hI, hW⟩ := hJ
  refine en_i (by decide +kernel) (fun ad => by exact Nat.le_of_ble_eq_true rfl) (fun D cy ad A p e s m args below meth c Q F hret => ?_)
  refine z_eq (ls' := [(0, .ref (ad 131)), (1, ii x0), (2, ii x1)]) rfl rfl rfl ?_
  refine z_aload_n F dX12_touch_0 rfl (q := 0) rfl ?_
  refine rf_X12_9 F gs_131 rfl dX12_touch_1 ?_
  refine z_bipush F dX12_touch_4 (by decide +kernel) ?_
  refine z_bipush F dX12_touch_6 (by decide +kernel) ?_
  refine z_iload_n F dX12_touch_8 rfl (q := 1) rfl ?_
  refine z_imul F dX12_touch_9 ?_
  refine z_iadd F dX12_touch_10 ?_
  refine z_iload_n F dX12_touch_11 rfl (q := 2) rfl ?_
  refine z_iadd F dX12_touch_12 ?_
  refine z_iald F hI gs_132 (by omega) (by omega) (by decide) (bd_132.trans (kn_touch (by omega) (by omega))) dX12_touch_13 (fun v1 (ev1 : v1 = M 132 _) av1 bv1 => ?_)
  exact hret _ _ 14 _ (by omega) ⟨hI, hW⟩ ⟨⟨by omega, by omega⟩, rfl⟩ dX12_touch_14
set_option maxRecDepth 4000 in
theorem k_X12_isPlace (l : Launch) (M : Mem) (hJ : Iw M) (x0 : Int) (hx0a : (-9223372036854775808) ≤ x0) (hx0b : x0 ≤ 9223372036854775807) : CI l yX12_isPlace cX12_isPlace 3 (some .boolean) 2 (fun ad => [.ref (ad 131), ll x0]) M (fun z M' => (0 ≤ z ∧ z ≤ 1) ∧ M = M' ∧ (z = 1 → 0 ≤ x0 ∧ x0 ≤ 9)) := by
  obtain ⟨hI, hW⟩ := hJ
  refine en_z (by decide +kernel) (fun ad => by exact Nat.le_of_ble_eq_true rfl) (fun D cy ad A p e s m args below meth c Q F hret => ?_)
  refine z_eq (ls' := [(0, .ref (ad 131)), (1, ll x0)]) rfl rfl rfl ?_
  refine z_lload_n F dX12_isPlace_0 rfl (q := 1) rfl ?_
  refine z_lconst (x := 0) F dX12_isPlace_1 (by decide +kernel) ?_
  refine z_aload_n F dX12_isPlace_2 rfl (q := 0) rfl ?_
  refine zv_i (rest := [ll 0, ll x0]) F (k_X12_places l M ⟨hI, hW⟩) cs_X12_273 (T := TX12) (N := 44) (ci := 12) rfl gs_131 (by decide) (by decide) rfl rfl rfl (Nat.le_of_ble_eq_true rfl) dX12_isPlace_3 (fun v1 M2 rv1 hI p3 => ?_)
  obtain ⟨hI, hW⟩ := hI
  obtain ⟨⟨av1, bv1⟩, rfl, xp3⟩ := p3
  refine z_iconst F dX12_isPlace_6 ?_
  refine z_isub F dX12_isPlace_7 ?_
  refine z_i2l F dX12_isPlace_8 (by omega) ?_
  refine zs_i (rest := []) F (k_X12_within l M ⟨hI, hW⟩ x0 (by omega) (by omega) 0 (by omega) (by omega) (v1 - 1) (by omega) (by omega)) cs_X12_137 (by decide) (by decide) rfl rfl rfl (Nat.le_of_ble_eq_true rfl) dX12_isPlace_9 (fun v4 M5 rv4 hI p6 => ?_)
  obtain ⟨hI, hW⟩ := hI
  obtain ⟨⟨av4, bv4⟩, rfl, xp6⟩ := p6
  exact hret _ _ 12 _ ⟨by omega, by omega⟩ ⟨hI, hW⟩ ⟨⟨by omega, by omega⟩, rfl, (by omega)⟩ dX12_isPlace_12
set_option maxRecDepth 4000 in
theorem k_X12_isThing (l : Launch) (M : Mem) (hJ : Iw M) (x0 : Int) (hx0a : (-9223372036854775808) ≤ x0) (hx0b : x0 ≤ 9223372036854775807) : CI l yX12_isThing cX12_isThing 3 (some .boolean) 2 (fun ad => [.ref (ad 131), ll x0]) M (fun z M' => (0 ≤ z ∧ z ≤ 1) ∧ M = M' ∧ (z = 1 → 0 ≤ x0 ∧ x0 ≤ 7)) := by
  obtain ⟨hI, hW⟩ := hJ
  refine en_z (by decide +kernel) (fun ad => by exact Nat.le_of_ble_eq_true rfl) (fun D cy ad A p e s m args below meth c Q F hret => ?_)
  refine z_eq (ls' := [(0, .ref (ad 131)), (1, ll x0)]) rfl rfl rfl ?_
  refine z_lload_n F dX12_isThing_0 rfl (q := 1) rfl ?_
  refine z_lconst (x := 0) F dX12_isThing_1 (by decide +kernel) ?_
  refine z_aload_n F dX12_isThing_2 rfl (q := 0) rfl ?_
  refine zv_i (rest := [ll 0, ll x0]) F (k_X12_things l M ⟨hI, hW⟩) cs_X12_275 (T := TX12) (N := 44) (ci := 12) rfl gs_131 (by decide) (by decide) rfl rfl rfl (Nat.le_of_ble_eq_true rfl) dX12_isThing_3 (fun v1 M2 rv1 hI p3 => ?_)
  obtain ⟨hI, hW⟩ := hI
  obtain ⟨⟨av1, bv1⟩, rfl, xp3⟩ := p3
  refine z_iconst F dX12_isThing_6 ?_
  refine z_isub F dX12_isThing_7 ?_
  refine z_i2l F dX12_isThing_8 (by omega) ?_
  refine zs_i (rest := []) F (k_X12_within l M ⟨hI, hW⟩ x0 (by omega) (by omega) 0 (by omega) (by omega) (v1 - 1) (by omega) (by omega)) cs_X12_137 (by decide) (by decide) rfl rfl rfl (Nat.le_of_ble_eq_true rfl) dX12_isThing_9 (fun v4 M5 rv4 hI p6 => ?_)
  obtain ⟨hI, hW⟩ := hI
  obtain ⟨⟨av4, bv4⟩, rfl, xp6⟩ := p6
  exact hret _ _ 12 _ ⟨by omega, by omega⟩ ⟨hI, hW⟩ ⟨⟨by omega, by omega⟩, rfl, (by omega)⟩ dX12_isThing_12
set_option maxRecDepth 4000 in
theorem k_X12_isOdd (l : Launch) (M : Mem) (hJ : Iw M) (x0 : Int) (hx0a : (-2147483648) ≤ x0) (hx0b : x0 ≤ 2147483647) : CI l yX12_isOdd cX12_isOdd 2 (some .boolean) 1 (fun ad => [.ref (ad 131), ii x0]) M (fun z M' => (0 ≤ z ∧ z ≤ 1) ∧ M = M') := by
  obtain ⟨hI, hW⟩ := hJ
  refine en_z (by decide +kernel) (fun ad => by exact Nat.le_of_ble_eq_true rfl) (fun D cy ad A p e s m args below meth c Q F hret => ?_)
  refine z_eq (ls' := [(0, .ref (ad 131)), (1, ii x0)]) rfl rfl rfl ?_
  refine z_iload_n F dX12_isOdd_0 rfl (q := 1) rfl ?_
  refine z_if_ne (tgt := 32) F dX12_isOdd_1 (by decide +kernel) (by omega) (fun c1 => ?_) (fun c1 => ?_)
  · refine z_iload_n F dX12_isOdd_32 rfl (q := 1) rfl ?_
    refine z_iconst F dX12_isOdd_33 ?_
    refine z_irem0 F dX12_isOdd_34 (by decide) (fun v2 _ rv2 => ?_)
    refine z_iconst F dX12_isOdd_35 ?_
    refine z_icmp_ne (tgt := 43) F dX12_isOdd_36 (by decide +kernel) (by omega) (by omega) (fun c3 => ?_) (fun c3 => ?_)
    · refine z_iconst F dX12_isOdd_43 ?_
      exact hret _ _ 44 _ ⟨by omega, by omega⟩ ⟨hI, hW⟩ ⟨⟨by omega, by omega⟩, rfl⟩ dX12_isOdd_44
    · refine z_iconst F dX12_isOdd_39 ?_
      refine z_goto (tgt := 44) F dX12_isOdd_40 (by decide +kernel) ?_
      exact hret _ _ 44 _ ⟨by omega, by omega⟩ ⟨hI, hW⟩ ⟨⟨by omega, by omega⟩, rfl⟩ dX12_isOdd_44
  · refine z_aload_n F dX12_isOdd_4 rfl (q := 0) rfl ?_
    refine rf_X12_9 F gs_131 rfl dX12_isOdd_5 ?_
    refine z_iconst F dX12_isOdd_8 ?_
    refine z_iald F hI gs_132 (by omega) (by omega) (by decide) (show Bd 132 5 = (-2147483648, 2147483647) from rfl) dX12_isOdd_9 (fun v4 (ev4 : v4 = M 132 5) av4 bv4 => ?_)
    refine z_iconst F dX12_isOdd_10 ?_
    refine z_icmp_eq (tgt := 24) F dX12_isOdd_11 (by decide +kernel) (by omega) (by omega) (fun c5 => ?_) (fun c5 => ?_)
    · refine z_iconst F dX12_isOdd_24 ?_
      refine z_goto (tgt := 44) F dX12_isOdd_25 (by decide +kernel) ?_
      exact hret _ _ 44 _ ⟨by omega, by omega⟩ ⟨hI, hW⟩ ⟨⟨by omega, by omega⟩, rfl⟩ dX12_isOdd_44
    · refine z_aload_n F dX12_isOdd_14 rfl (q := 0) rfl ?_
      refine rf_X12_9 F gs_131 rfl dX12_isOdd_15 ?_
      refine z_iconst F dX12_isOdd_18 ?_
      refine z_iald F hI gs_132 (by omega) (by omega) (by decide) (show Bd 132 5 = (-2147483648, 2147483647) from rfl) dX12_isOdd_19 (fun v6 (ev6 : v6 = M 132 5) av6 bv6 => ?_)
      have zv6 : v4 = v6 := ev4.trans ev6.symm
      subst zv6
      refine z_iconst F dX12_isOdd_20 ?_
      refine z_icmp_ne (tgt := 28) F dX12_isOdd_21 (by decide +kernel) (by omega) (by omega) (fun c7 => ?_) (fun c7 => ?_)
      · refine z_iconst F dX12_isOdd_28 ?_
        refine z_goto (tgt := 44) F dX12_isOdd_29 (by decide +kernel) ?_
        exact hret _ _ 44 _ ⟨by omega, by omega⟩ ⟨hI, hW⟩ ⟨⟨by omega, by omega⟩, rfl⟩ dX12_isOdd_44
      · refine z_iconst F dX12_isOdd_24 ?_
        refine z_goto (tgt := 44) F dX12_isOdd_25 (by decide +kernel) ?_
        exact hret _ _ 44 _ ⟨by omega, by omega⟩ ⟨hI, hW⟩ ⟨⟨by omega, by omega⟩, rfl⟩ dX12_isOdd_44
set_option maxRecDepth 4000 in
theorem k_X12_isEven (l : Launch) (M : Mem) (hJ : Iw M) (x0 : Int) (hx0a : (-2147483648) ≤ x0) (hx0b : x0 ≤ 2147483647) : CI l yX12_isEven cX12_isEven 2 (some .boolean) 1 (fun ad => [.ref (ad 131), ii x0]) M (fun z M' => (0 ≤ z ∧ z ≤ 1) ∧ M = M') := by
  obtain ⟨hI, hW⟩ := hJ
  refine en_z (by decide +kernel) (fun ad => by exact Nat.le_of_ble_eq_true rfl) (fun D cy ad A p e s m args below meth c Q F hret => ?_)
  refine z_eq (ls' := [(0, .ref (ad 131)), (1, ii x0)]) rfl rfl rfl ?_
  refine z_iload_n F dX12_isEven_0 rfl (q := 1) rfl ?_
  refine z_if_ne (tgt := 31) F dX12_isEven_1 (by decide +kernel) (by omega) (fun c1 => ?_) (fun c1 => ?_)
  · refine z_iload_n F dX12_isEven_31 rfl (q := 1) rfl ?_
    refine z_iconst F dX12_isEven_32 ?_
    refine z_irem0 F dX12_isEven_33 (by decide) (fun v2 _ rv2 => ?_)
    refine z_if_ne (tgt := 41) F dX12_isEven_34 (by decide +kernel) (by omega) (fun c3 => ?_) (fun c3 => ?_)
    · refine z_iconst F dX12_isEven_41 ?_
      exact hret _ _ 42 _ ⟨by omega, by omega⟩ ⟨hI, hW⟩ ⟨⟨by omega, by omega⟩, rfl⟩ dX12_isEven_42
    · refine z_iconst F dX12_isEven_37 ?_
      refine z_goto (tgt := 42) F dX12_isEven_38 (by decide +kernel) ?_
      exact hret _ _ 42 _ ⟨by omega, by omega⟩ ⟨hI, hW⟩ ⟨⟨by omega, by omega⟩, rfl⟩ dX12_isEven_42
  · refine z_aload_n F dX12_isEven_4 rfl (q := 0) rfl ?_
    refine rf_X12_9 F gs_131 rfl dX12_isEven_5 ?_
    refine z_iconst F dX12_isEven_8 ?_
    refine z_iald F hI gs_132 (by omega) (by omega) (by decide) (show Bd 132 5 = (-2147483648, 2147483647) from rfl) dX12_isEven_9 (fun v4 (ev4 : v4 = M 132 5) av4 bv4 => ?_)
    refine z_if_eq (tgt := 23) F dX12_isEven_10 (by decide +kernel) (by omega) (fun c5 => ?_) (fun c5 => ?_)
    · refine z_iconst F dX12_isEven_23 ?_
      refine z_goto (tgt := 42) F dX12_isEven_24 (by decide +kernel) ?_
      exact hret _ _ 42 _ ⟨by omega, by omega⟩ ⟨hI, hW⟩ ⟨⟨by omega, by omega⟩, rfl⟩ dX12_isEven_42
    · refine z_aload_n F dX12_isEven_13 rfl (q := 0) rfl ?_
      refine rf_X12_9 F gs_131 rfl dX12_isEven_14 ?_
      refine z_iconst F dX12_isEven_17 ?_
      refine z_iald F hI gs_132 (by omega) (by omega) (by decide) (show Bd 132 5 = (-2147483648, 2147483647) from rfl) dX12_isEven_18 (fun v6 (ev6 : v6 = M 132 5) av6 bv6 => ?_)
      have zv6 : v4 = v6 := ev4.trans ev6.symm
      subst zv6
      refine z_iconst F dX12_isEven_19 ?_
      refine z_icmp_ne (tgt := 27) F dX12_isEven_20 (by decide +kernel) (by omega) (by omega) (fun c7 => ?_) (fun c7 => ?_)
      · refine z_iconst F dX12_isEven_27 ?_
        refine z_goto (tgt := 42) F dX12_isEven_28 (by decide +kernel) ?_
        exact hret _ _ 42 _ ⟨by omega, by omega⟩ ⟨hI, hW⟩ ⟨⟨by omega, by omega⟩, rfl⟩ dX12_isEven_42
      · refine z_iconst F dX12_isEven_23 ?_
        refine z_goto (tgt := 42) F dX12_isEven_24 (by decide +kernel) ?_
        exact hret _ _ 42 _ ⟨by omega, by omega⟩ ⟨hI, hW⟩ ⟨⟨by omega, by omega⟩, rfl⟩ dX12_isEven_42
set_option maxRecDepth 4000 in
theorem k_X12_bound (l : Launch) (M : Mem) (hJ : Iw M) (x0 : Int) (hx0a : (-9223372036854775808) ≤ x0) (hx0b : x0 ≤ 9223372036854775807) : CI l yX12_bound cX12_bound 2 (some .int) 1 (fun ad => [ll x0]) M (fun z M' => ((-1000000) ≤ z ∧ z ≤ 1000000) ∧ M = M') := by
  obtain ⟨hI, hW⟩ := hJ
  refine en_i (by decide +kernel) (fun ad => by exact Nat.le_of_ble_eq_true rfl) (fun D cy ad A p e s m args below meth c Q F hret => ?_)
  refine z_eq (ls' := [(0, ll x0)]) rfl rfl rfl ?_
  refine z_ldc2 (x := (-1000000)) F dX12_bound_0 (gin lm_22 rfl) (by decide +kernel) ?_
  refine z_ldc2 (x := 1000000) F dX12_bound_3 (gin lm_23 rfl) (by decide +kernel) ?_
  refine z_lload_n F dX12_bound_6 rfl (q := 0) rfl ?_
  refine z_minl F mm_X12_282 (Nat.le_of_ble_eq_true rfl) dX12_bound_7 (by omega) (by omega) (fun v1 ev1 => ?_)
  refine z_maxl F mm_X12_288 (Nat.le_of_ble_eq_true rfl) dX12_bound_10 (by omega) (by omega) (fun v2 ev2 => ?_)
  refine z_l2i F dX12_bound_13 (by omega) ?_
  exact hret _ _ 14 _ (by omega) ⟨hI, hW⟩ ⟨⟨by omega, by omega⟩, rfl⟩ dX12_bound_14
set_option maxRecDepth 4000 in
theorem k_X12_done (l : Launch) (M : Mem) (hJ : Iw M) (x0 : Int) (hx0a : (-2147483648) ≤ x0) (hx0b : x0 ≤ 2147483647) (x1 : Int) (hx1a : (-2147483648) ≤ x1) (hx1b : x1 ≤ 2147483647) (x2 : Int) (hx2a : (-2147483648) ≤ x2) (hx2b : x2 ≤ 2147483647) : CI l yX12_done cX12_done 5 (some .int) 2 (fun ad => [ii x0, ll x1, ll x2]) M (fun z M' => ((-1000000) ≤ z ∧ z ≤ 1000000) ∧ M = M') := by
  obtain ⟨hI, hW⟩ := hJ
  refine en_i (by decide +kernel) (fun ad => by exact Nat.le_of_ble_eq_true rfl) (fun D cy ad A p e s m args below meth c Q F hret => ?_)
  refine z_eq (ls' := [(0, ii x0), (1, ll x1), (3, ll x2)]) rfl rfl rfl ?_
  refine z_iload_n F dX12_done_0 rfl (q := 0) rfl ?_
  rcases (show x0 = 10 ∨ x0 = 11 ∨ x0 = 12 ∨ x0 = 13 ∨ x0 = 14 ∨ x0 = 15 ∨ x0 = 16 ∨ (¬ x0 = 10 ∧ ¬ x0 = 11 ∧ ¬ x0 = 12 ∧ ¬ x0 = 13 ∧ ¬ x0 = 14 ∧ ¬ x0 = 15 ∧ ¬ x0 = 16) by omega) with c1 | c1 | c1 | c1 | c1 | c1 | c1 | c1
  · refine z_tabIn (tgt := 44) (off := 43) F dX12_done_1 (by omega) (by omega) (by omega) (by rw [c1]; rfl) (by decide +kernel) ?_
    refine z_lload_n F dX12_done_44 rfl (q := 1) rfl ?_
    refine z_lload_n F dX12_done_45 rfl (q := 2) rfl ?_
    refine z_ladd F dX12_done_46 ?_
    refine zs_i (rest := []) F (k_X12_bound l M ⟨hI, hW⟩ (x1 + x2) (by omega) (by omega)) cs_X12_291 (by decide) (by decide) rfl rfl rfl (Nat.le_of_ble_eq_true rfl) dX12_done_47 (fun v2 M3 rv2 hI p4 => ?_)
    obtain ⟨hI, hW⟩ := hI
    obtain ⟨⟨av2, bv2⟩, rfl⟩ := p4
    exact hret _ _ 50 _ (by omega) ⟨hI, hW⟩ ⟨⟨by omega, by omega⟩, rfl⟩ dX12_done_50
  · refine z_tabIn (tgt := 51) (off := 50) F dX12_done_1 (by omega) (by omega) (by omega) (by rw [c1]; rfl) (by decide +kernel) ?_
    refine z_lload_n F dX12_done_51 rfl (q := 1) rfl ?_
    refine z_lload_n F dX12_done_52 rfl (q := 2) rfl ?_
    refine z_lsub F dX12_done_53 ?_
    refine zs_i (rest := []) F (k_X12_bound l M ⟨hI, hW⟩ (x1 - x2) (by omega) (by omega)) cs_X12_291 (by decide) (by decide) rfl rfl rfl (Nat.le_of_ble_eq_true rfl) dX12_done_54 (fun v5 M6 rv5 hI p7 => ?_)
    obtain ⟨hI, hW⟩ := hI
    obtain ⟨⟨av5, bv5⟩, rfl⟩ := p7
    exact hret _ _ 57 _ (by omega) ⟨hI, hW⟩ ⟨⟨by omega, by omega⟩, rfl⟩ dX12_done_57
  · refine z_tabIn (tgt := 58) (off := 57) F dX12_done_1 (by omega) (by omega) (by omega) (by rw [c1]; rfl) (by decide +kernel) ?_
    refine z_lload_n F dX12_done_58 rfl (q := 1) rfl ?_
    refine z_lload_n F dX12_done_59 rfl (q := 2) rfl ?_
    refine z_lmul_r F dX12_done_60 (by omega) (by omega) (fun v8 ev8 av8 bv8 => ?_)
    refine zs_i (rest := []) F (k_X12_bound l M ⟨hI, hW⟩ v8 (by omega) (by omega)) cs_X12_291 (by decide) (by decide) rfl rfl rfl (Nat.le_of_ble_eq_true rfl) dX12_done_61 (fun v9 M10 rv9 hI p11 => ?_)
    obtain ⟨hI, hW⟩ := hI
    obtain ⟨⟨av9, bv9⟩, rfl⟩ := p11
    exact hret _ _ 64 _ (by omega) ⟨hI, hW⟩ ⟨⟨by omega, by omega⟩, rfl⟩ dX12_done_64
  · refine z_tabIn (tgt := 65) (off := 64) F dX12_done_1 (by omega) (by omega) (by omega) (by rw [c1]; rfl) (by decide +kernel) ?_
    refine z_lload_n F dX12_done_65 rfl (q := 1) rfl ?_
    refine z_lload_n F dX12_done_66 rfl (q := 2) rfl ?_
    refine z_lcmp F dX12_done_67 (by omega) (by omega) (fun v12 ev12 => ?_)
    refine z_if_ne (tgt := 75) F dX12_done_68 (by decide +kernel) (by omega) (fun c13 => ?_) (fun c13 => ?_)
    · refine z_iconst F dX12_done_75 ?_
      exact hret _ _ 76 _ (by omega) ⟨hI, hW⟩ ⟨⟨by omega, by omega⟩, rfl⟩ dX12_done_76
    · refine z_iconst F dX12_done_71 ?_
      refine z_goto (tgt := 76) F dX12_done_72 (by decide +kernel) ?_
      exact hret _ _ 76 _ (by omega) ⟨hI, hW⟩ ⟨⟨by omega, by omega⟩, rfl⟩ dX12_done_76
  · refine z_tabIn (tgt := 77) (off := 76) F dX12_done_1 (by omega) (by omega) (by omega) (by rw [c1]; rfl) (by decide +kernel) ?_
    refine z_lload_n F dX12_done_77 rfl (q := 1) rfl ?_
    refine z_lload_n F dX12_done_78 rfl (q := 2) rfl ?_
    refine z_lcmp F dX12_done_79 (by omega) (by omega) (fun v14 ev14 => ?_)
    refine z_if_ge (tgt := 87) F dX12_done_80 (by decide +kernel) (by omega) (fun c15 => ?_) (fun c15 => ?_)
    · refine z_iconst F dX12_done_87 ?_
      exact hret _ _ 88 _ (by omega) ⟨hI, hW⟩ ⟨⟨by omega, by omega⟩, rfl⟩ dX12_done_88
    · refine z_iconst F dX12_done_83 ?_
      refine z_goto (tgt := 88) F dX12_done_84 (by decide +kernel) ?_
      exact hret _ _ 88 _ (by omega) ⟨hI, hW⟩ ⟨⟨by omega, by omega⟩, rfl⟩ dX12_done_88
  · refine z_tabIn (tgt := 89) (off := 88) F dX12_done_1 (by omega) (by omega) (by omega) (by rw [c1]; rfl) (by decide +kernel) ?_
    refine z_lload_n F dX12_done_89 rfl (q := 1) rfl ?_
    refine z_lload_n F dX12_done_90 rfl (q := 2) rfl ?_
    refine z_lcmp F dX12_done_91 (by omega) (by omega) (fun v16 ev16 => ?_)
    refine z_if_le (tgt := 99) F dX12_done_92 (by decide +kernel) (by omega) (fun c17 => ?_) (fun c17 => ?_)
    · refine z_iconst F dX12_done_99 ?_
      exact hret _ _ 100 _ (by omega) ⟨hI, hW⟩ ⟨⟨by omega, by omega⟩, rfl⟩ dX12_done_100
    · refine z_iconst F dX12_done_95 ?_
      refine z_goto (tgt := 100) F dX12_done_96 (by decide +kernel) ?_
      exact hret _ _ 100 _ (by omega) ⟨hI, hW⟩ ⟨⟨by omega, by omega⟩, rfl⟩ dX12_done_100
  · refine z_tabIn (tgt := 101) (off := 100) F dX12_done_1 (by omega) (by omega) (by omega) (by rw [c1]; rfl) (by decide +kernel) ?_
    refine z_lload_n F dX12_done_101 rfl (q := 1) rfl ?_
    refine z_lload_n F dX12_done_102 rfl (q := 2) rfl ?_
    refine z_ladd F dX12_done_103 ?_
    refine z_lconst (x := 1) F dX12_done_104 (by decide +kernel) ?_
    refine z_lcmp F dX12_done_105 (by omega) (by omega) (fun v18 ev18 => ?_)
    refine z_if_le (tgt := 113) F dX12_done_106 (by decide +kernel) (by omega) (fun c19 => ?_) (fun c19 => ?_)
    · refine z_iconst F dX12_done_113 ?_
      exact hret _ _ 114 _ (by omega) ⟨hI, hW⟩ ⟨⟨by omega, by omega⟩, rfl⟩ dX12_done_114
    · refine z_iconst F dX12_done_109 ?_
      refine z_goto (tgt := 114) F dX12_done_110 (by decide +kernel) ?_
      exact hret _ _ 114 _ (by omega) ⟨hI, hW⟩ ⟨⟨by omega, by omega⟩, rfl⟩ dX12_done_114
  · refine z_tabOut (tgt := 115) F dX12_done_1 (by omega) (by omega) (by decide +kernel) ?_
    refine z_lload_n F dX12_done_115 rfl (q := 1) rfl ?_
    refine z_lload_n F dX12_done_116 rfl (q := 2) rfl ?_
    refine z_ladd F dX12_done_117 ?_
    refine z_lconst (x := 0) F dX12_done_118 (by decide +kernel) ?_
    refine z_lcmp F dX12_done_119 (by omega) (by omega) (fun v20 ev20 => ?_)
    refine z_if_le (tgt := 127) F dX12_done_120 (by decide +kernel) (by omega) (fun c21 => ?_) (fun c21 => ?_)
    · refine z_iconst F dX12_done_127 ?_
      exact hret _ _ 128 _ (by omega) ⟨hI, hW⟩ ⟨⟨by omega, by omega⟩, rfl⟩ dX12_done_128
    · refine z_iconst F dX12_done_123 ?_
      refine z_goto (tgt := 128) F dX12_done_124 (by decide +kernel) ?_
      exact hret _ _ 128 _ (by omega) ⟨hI, hW⟩ ⟨⟨by omega, by omega⟩, rfl⟩ dX12_done_128
set_option maxRecDepth 4000 in
theorem k_X12_wordOf (l : Launch) (M : Mem) (hJ : Iw M) (x0 : Int) (hx0a : (-2147483648) ≤ x0) (hx0b : x0 ≤ 2147483647) (x1 : Int) (hx1a : 0 ≤ x1) (hx1b : x1 ≤ 7) (x2 : Int) (hx2a : 0 ≤ x2) (hx2b : x2 ≤ 7) (x3 : Int) (hx3a : 0 ≤ x3) (hx3b : x3 ≤ 1) : CI l yX12_wordOf cX12_wordOf 8 (some .int) 2 (fun ad => [.ref (ad 131), ii x0, ii x1, ii x2, ii x3]) M (fun z M' => ((-2147483648) ≤ z ∧ z ≤ 2147483647) ∧ M = M') := by
  obtain ⟨hI, hW⟩ := hJ
  refine en_i (by decide +kernel) (fun ad => by exact Nat.le_of_ble_eq_true rfl) (fun D cy ad A p e s m args below meth c Q F hret => ?_)
  refine z_eq (ls' := [(0, .ref (ad 131)), (1, ii x0), (2, ii x1), (3, ii x2), (4, ii x3)]) rfl rfl rfl ?_
  refine z_aload_n F dX12_wordOf_0 rfl (q := 0) rfl ?_
  refine rf_X12_9 F gs_131 rfl dX12_wordOf_1 ?_
  refine z_bipush F dX12_wordOf_4 (by decide +kernel) ?_
  refine z_iload_n F dX12_wordOf_6 rfl (q := 2) rfl ?_
  refine z_iadd F dX12_wordOf_7 ?_
  refine z_iald F hI gs_132 (by omega) (by omega) (by decide) (bd_132.trans (kn_any (by omega) (by omega))) dX12_wordOf_8 (fun v1 (ev1 : v1 = M 132 _) av1 bv1 => ?_)
  refine z_istore F dX12_wordOf_9 (by decide) (ls' := [(5, ii v1), (0, .ref (ad 131)), (1, ii x0), (2, ii x1), (3, ii x2), (4, ii x3)]) rfl ?_
  refine z_aload_n F dX12_wordOf_11 rfl (q := 1) rfl ?_
  refine rf_X12_9 F gs_131 rfl dX12_wordOf_12 ?_
  refine z_bipush F dX12_wordOf_15 (by decide +kernel) ?_
  refine z_iload_n F dX12_wordOf_17 rfl (q := 4) rfl ?_
  refine z_iadd F dX12_wordOf_18 ?_
  refine z_iald F hI gs_132 (by omega) (by omega) (by decide) (bd_132.trans (kn_any (by omega) (by omega))) dX12_wordOf_19 (fun v2 (ev2 : v2 = M 132 _) av2 bv2 => ?_)
  refine z_istore F dX12_wordOf_20 (by decide) (ls' := [(6, ii v2), (5, ii v1), (0, .ref (ad 131)), (1, ii x0), (2, ii x1), (3, ii x2), (4, ii x3)]) rfl ?_
  refine z_iconst F dX12_wordOf_22 ?_
  refine z_istore F dX12_wordOf_23 (by decide) (ls' := [(7, ii 0), (6, ii v2), (5, ii v1), (0, .ref (ad 131)), (1, ii x0), (2, ii x1), (3, ii x2), (4, ii x3)]) rfl ?_
  refine z_iload_n F dX12_wordOf_25 rfl (q := 4) rfl ?_
  rcases (show x0 = 0 ∨ x0 = 1 ∨ x0 = 2 ∨ x0 = 3 ∨ x0 = 4 ∨ x0 = 5 ∨ x0 = 6 ∨ (¬ x0 = 0 ∧ ¬ x0 = 1 ∧ ¬ x0 = 2 ∧ ¬ x0 = 3 ∧ ¬ x0 = 4 ∧ ¬ x0 = 5 ∧ ¬ x0 = 6) by omega) with c3 | c3 | c3 | c3 | c3 | c3 | c3 | c3
  · refine z_tabIn (tgt := 68) (off := 42) F dX12_wordOf_26 (by omega) (by omega) (by omega) (by rw [c3]; rfl) (by decide +kernel) ?_
    refine z_iload F dX12_wordOf_68 (q := 2) rfl ?_
    exact hret _ _ 70 _ (by omega) ⟨hI, hW⟩ ⟨⟨by omega, by omega⟩, rfl⟩ dX12_wordOf_70
  · refine z_tabIn (tgt := 71) (off := 45) F dX12_wordOf_26 (by omega) (by omega) (by omega) (by rw [c3]; rfl) (by decide +kernel) ?_
    refine z_iload F dX12_wordOf_71 (q := 1) rfl ?_
    exact hret _ _ 73 _ (by omega) ⟨hI, hW⟩ ⟨⟨by omega, by omega⟩, rfl⟩ dX12_wordOf_73
  · refine z_tabIn (tgt := 74) (off := 48) F dX12_wordOf_26 (by omega) (by omega) (by omega) (by rw [c3]; rfl) (by decide +kernel) ?_
    refine z_aload_n F dX12_wordOf_74 rfl (q := 3) rfl ?_
    refine z_iload F dX12_wordOf_75 (q := 2) rfl ?_
    refine zv_i (rest := []) F (k_X12_isOdd l M ⟨hI, hW⟩ v1 (by omega) (by omega)) cs_X12_295 (T := TX12) (N := 44) (ci := 12) rfl gs_131 (by decide) (by decide) rfl rfl rfl (Nat.le_of_ble_eq_true rfl) dX12_wordOf_77 (fun v4 M5 rv4 hI p6 => ?_)
    obtain ⟨hI, hW⟩ := hI
    obtain ⟨⟨av4, bv4⟩, rfl⟩ := p6
    refine z_istore F dX12_wordOf_80 (by decide) (ls' := [(7, ii v4), (6, ii v2), (5, ii v1), (0, .ref (ad 131)), (1, ii x0), (2, ii x1), (3, ii x2), (4, ii x3)]) rfl ?_
    refine z_goto (tgt := 153) F dX12_wordOf_82 (by decide +kernel) ?_
    refine z_iload F dX12_wordOf_153 (q := 0) rfl ?_
    refine z_if_eq (tgt := 162) F dX12_wordOf_155 (by decide +kernel) (by omega) (fun c7 => ?_) (fun c7 => ?_)
    · refine z_iconst F dX12_wordOf_162 ?_
      exact hret _ _ 163 _ (by omega) ⟨hI, hW⟩ ⟨⟨by omega, by omega⟩, rfl⟩ dX12_wordOf_163
    · refine z_iconst F dX12_wordOf_158 ?_
      refine z_goto (tgt := 163) F dX12_wordOf_159 (by decide +kernel) ?_
      exact hret _ _ 163 _ (by omega) ⟨hI, hW⟩ ⟨⟨by omega, by omega⟩, rfl⟩ dX12_wordOf_163
  · refine z_tabIn (tgt := 85) (off := 59) F dX12_wordOf_26 (by omega) (by omega) (by omega) (by rw [c3]; rfl) (by decide +kernel) ?_
    refine z_aload_n F dX12_wordOf_85 rfl (q := 3) rfl ?_
    refine z_iload F dX12_wordOf_86 (q := 1) rfl ?_
    refine zv_i (rest := []) F (k_X12_isOdd l M ⟨hI, hW⟩ v2 (by omega) (by omega)) cs_X12_295 (T := TX12) (N := 44) (ci := 12) rfl gs_131 (by decide) (by decide) rfl rfl rfl (Nat.le_of_ble_eq_true rfl) dX12_wordOf_88 (fun v8 M9 rv8 hI p10 => ?_)
    obtain ⟨hI, hW⟩ := hI
    obtain ⟨⟨av8, bv8⟩, rfl⟩ := p10
    refine z_istore F dX12_wordOf_91 (by decide) (ls' := [(7, ii v8), (6, ii v2), (5, ii v1), (0, .ref (ad 131)), (1, ii x0), (2, ii x1), (3, ii x2), (4, ii x3)]) rfl ?_
    refine z_goto (tgt := 153) F dX12_wordOf_93 (by decide +kernel) ?_
    refine z_iload F dX12_wordOf_153 (q := 0) rfl ?_
    refine z_if_eq (tgt := 162) F dX12_wordOf_155 (by decide +kernel) (by omega) (fun c11 => ?_) (fun c11 => ?_)
    · refine z_iconst F dX12_wordOf_162 ?_
      exact hret _ _ 163 _ (by omega) ⟨hI, hW⟩ ⟨⟨by omega, by omega⟩, rfl⟩ dX12_wordOf_163
    · refine z_iconst F dX12_wordOf_158 ?_
      refine z_goto (tgt := 163) F dX12_wordOf_159 (by decide +kernel) ?_
      exact hret _ _ 163 _ (by omega) ⟨hI, hW⟩ ⟨⟨by omega, by omega⟩, rfl⟩ dX12_wordOf_163
  · refine z_tabIn (tgt := 96) (off := 70) F dX12_wordOf_26 (by omega) (by omega) (by omega) (by rw [c3]; rfl) (by decide +kernel) ?_
    refine z_aload_n F dX12_wordOf_96 rfl (q := 3) rfl ?_
    refine z_iload F dX12_wordOf_97 (q := 2) rfl ?_
    refine zv_i (rest := []) F (k_X12_isEven l M ⟨hI, hW⟩ v1 (by omega) (by omega)) cs_X12_298 (T := TX12) (N := 44) (ci := 12) rfl gs_131 (by decide) (by decide) rfl rfl rfl (Nat.le_of_ble_eq_true rfl) dX12_wordOf_99 (fun v12 M13 rv12 hI p14 => ?_)
    obtain ⟨hI, hW⟩ := hI
    obtain ⟨⟨av12, bv12⟩, rfl⟩ := p14
    refine z_istore F dX12_wordOf_102 (by decide) (ls' := [(7, ii v12), (6, ii v2), (5, ii v1), (0, .ref (ad 131)), (1, ii x0), (2, ii x1), (3, ii x2), (4, ii x3)]) rfl ?_
    refine z_goto (tgt := 153) F dX12_wordOf_104 (by decide +kernel) ?_
    refine z_iload F dX12_wordOf_153 (q := 0) rfl ?_
    refine z_if_eq (tgt := 162) F dX12_wordOf_155 (by decide +kernel) (by omega) (fun c15 => ?_) (fun c15 => ?_)
    · refine z_iconst F dX12_wordOf_162 ?_
      exact hret _ _ 163 _ (by omega) ⟨hI, hW⟩ ⟨⟨by omega, by omega⟩, rfl⟩ dX12_wordOf_163
    · refine z_iconst F dX12_wordOf_158 ?_
      refine z_goto (tgt := 163) F dX12_wordOf_159 (by decide +kernel) ?_
      exact hret _ _ 163 _ (by omega) ⟨hI, hW⟩ ⟨⟨by omega, by omega⟩, rfl⟩ dX12_wordOf_163
  · refine z_tabIn (tgt := 107) (off := 81) F dX12_wordOf_26 (by omega) (by omega) (by omega) (by rw [c3]; rfl) (by decide +kernel) ?_
    refine z_aload_n F dX12_wordOf_107 rfl (q := 3) rfl ?_
    refine z_iload F dX12_wordOf_108 (q := 1) rfl ?_
    refine zv_i (rest := []) F (k_X12_isEven l M ⟨hI, hW⟩ v2 (by omega) (by omega)) cs_X12_298 (T := TX12) (N := 44) (ci := 12) rfl gs_131 (by decide) (by decide) rfl rfl rfl (Nat.le_of_ble_eq_true rfl) dX12_wordOf_110 (fun v16 M17 rv16 hI p18 => ?_)
    obtain ⟨hI, hW⟩ := hI
    obtain ⟨⟨av16, bv16⟩, rfl⟩ := p18
    refine z_istore F dX12_wordOf_113 (by decide) (ls' := [(7, ii v16), (6, ii v2), (5, ii v1), (0, .ref (ad 131)), (1, ii x0), (2, ii x1), (3, ii x2), (4, ii x3)]) rfl ?_
    refine z_goto (tgt := 153) F dX12_wordOf_115 (by decide +kernel) ?_
    refine z_iload F dX12_wordOf_153 (q := 0) rfl ?_
    refine z_if_eq (tgt := 162) F dX12_wordOf_155 (by decide +kernel) (by omega) (fun c19 => ?_) (fun c19 => ?_)
    · refine z_iconst F dX12_wordOf_162 ?_
      exact hret _ _ 163 _ (by omega) ⟨hI, hW⟩ ⟨⟨by omega, by omega⟩, rfl⟩ dX12_wordOf_163
    · refine z_iconst F dX12_wordOf_158 ?_
      refine z_goto (tgt := 163) F dX12_wordOf_159 (by decide +kernel) ?_
      exact hret _ _ 163 _ (by omega) ⟨hI, hW⟩ ⟨⟨by omega, by omega⟩, rfl⟩ dX12_wordOf_163
  · refine z_tabIn (tgt := 118) (off := 92) F dX12_wordOf_26 (by omega) (by omega) (by omega) (by rw [c3]; rfl) (by decide +kernel) ?_
    refine z_aload_n F dX12_wordOf_118 rfl (q := 3) rfl ?_
    refine rf_X12_9 F gs_131 rfl dX12_wordOf_119 ?_
    refine z_bipush F dX12_wordOf_122 (by decide +kernel) ?_
    refine z_iload_n F dX12_wordOf_124 rfl (q := 5) rfl ?_
    refine z_iadd F dX12_wordOf_125 ?_
    refine z_iald F hI gs_132 (by omega) (by omega) (by decide) (bd_132.trans (kn_any (by omega) (by omega))) dX12_wordOf_126 (fun v20 (ev20 : v20 = M 132 _) av20 bv20 => ?_)
    refine z_aload_n F dX12_wordOf_127 rfl (q := 3) rfl ?_
    refine rf_X12_9 F gs_131 rfl dX12_wordOf_128 ?_
    refine z_bipush F dX12_wordOf_131 (by decide +kernel) ?_
    refine z_iload_n F dX12_wordOf_133 rfl (q := 6) rfl ?_
    refine z_iadd F dX12_wordOf_134 ?_
    refine z_iald F hI gs_132 (by omega) (by omega) (by decide) (bd_132.trans (kn_any (by omega) (by omega))) dX12_wordOf_135 (fun v21 (ev21 : v21 = M 132 _) av21 bv21 => ?_)
    refine z_icmp_ne (tgt := 143) F dX12_wordOf_136 (by decide +kernel) (by omega) (by omega) (fun c22 => ?_) (fun c22 => ?_)
    · refine z_iconst F dX12_wordOf_143 ?_
      refine z_istore F dX12_wordOf_144 (by decide) (ls' := [(7, ii 0), (6, ii v2), (5, ii v1), (0, .ref (ad 131)), (1, ii x0), (2, ii x1), (3, ii x2), (4, ii x3)]) rfl ?_
      refine z_goto (tgt := 153) F dX12_wordOf_146 (by decide +kernel) ?_
      refine z_iload F dX12_wordOf_153 (q := 0) rfl ?_
      refine z_if_eq (tgt := 162) F dX12_wordOf_155 (by decide +kernel) (by omega) (fun c23 => ?_) (fun c23 => by exfalso; omega)
      refine z_iconst F dX12_wordOf_162 ?_
      exact hret _ _ 163 _ (by omega) ⟨hI, hW⟩ ⟨⟨by omega, by omega⟩, rfl⟩ dX12_wordOf_163
    · refine z_iconst F dX12_wordOf_139 ?_
      refine z_goto (tgt := 144) F dX12_wordOf_140 (by decide +kernel) ?_
      refine z_istore F dX12_wordOf_144 (by decide) (ls' := [(7, ii 1), (6, ii v2), (5, ii v1), (0, .ref (ad 131)), (1, ii x0), (2, ii x1), (3, ii x2), (4, ii x3)]) rfl ?_
      refine z_goto (tgt := 153) F dX12_wordOf_146 (by decide +kernel) ?_
      refine z_iload F dX12_wordOf_153 (q := 0) rfl ?_
      refine z_if_eq (tgt := 162) F dX12_wordOf_155 (by decide +kernel) (by omega) (fun c24 => by exfalso; omega) (fun c24 => ?_)
      refine z_iconst F dX12_wordOf_158 ?_
      refine z_goto (tgt := 163) F dX12_wordOf_159 (by decide +kernel) ?_
      exact hret _ _ 163 _ (by omega) ⟨hI, hW⟩ ⟨⟨by omega, by omega⟩, rfl⟩ dX12_wordOf_163
  · refine z_tabOut (tgt := 149) F dX12_wordOf_26 (by omega) (by omega) (by decide +kernel) ?_
    refine z_iload F dX12_wordOf_149 (q := 7) rfl ?_
    refine z_istore F dX12_wordOf_151 (by decide) (ls' := [(7, ii x3), (6, ii v2), (5, ii v1), (0, .ref (ad 131)), (1, ii x0), (2, ii x1), (3, ii x2), (4, ii x3)]) rfl ?_
    refine z_iload F dX12_wordOf_153 (q := 0) rfl ?_
    refine z_if_eq (tgt := 162) F dX12_wordOf_155 (by decide +kernel) (by omega) (fun c25 => ?_) (fun c25 => ?_)
    · refine z_iconst F dX12_wordOf_162 ?_
      exact hret _ _ 163 _ (by omega) ⟨hI, hW⟩ ⟨⟨by omega, by omega⟩, rfl⟩ dX12_wordOf_163
    · refine z_iconst F dX12_wordOf_158 ?_
      refine z_goto (tgt := 163) F dX12_wordOf_159 (by decide +kernel) ?_
      exact hret _ _ 163 _ (by omega) ⟨hI, hW⟩ ⟨⟨by omega, by omega⟩, rfl⟩ dX12_wordOf_163
set_option maxRecDepth 4000 in
theorem k_X12_place (l : Launch) (M : Mem) (hJ : Iw M) (x0 : Int) (hx0a : (-2147483648) ≤ x0) (hx0b : x0 ≤ 2147483647) (x1 : Int) (hx1a : (-2147483648) ≤ x1) (hx1b : x1 ≤ 2147483647) : CI l yX12_place cX12_place 5 (some .int) 3 (fun ad => [.ref (ad 131), ii x0, ii x1]) M (fun z M' => ((-1) ≤ z ∧ z ≤ 1023) ∧ Fr [131] M M') := by
  obtain ⟨hI, hW⟩ := hJ
  have hF : Fr [131] M M := Fr.rf
  refine en_i (by decide +kernel) (fun ad => by exact Nat.le_of_ble_eq_true rfl) (fun D cy ad A p e s m args below meth c Q F hret => ?_)
  refine z_eq (ls' := [(0, .ref (ad 131)), (1, ii x0), (2, ii x1)]) rfl rfl rfl ?_
  refine z_aload_n F dX12_place_0 rfl (q := 0) rfl ?_
  refine z_aload_n F dX12_place_1 rfl (q := 0) rfl ?_
  refine z_iload_n F dX12_place_2 rfl (q := 1) rfl ?_
  refine z_i2l F dX12_place_3 (by omega) ?_
  refine zv_i (rest := [.ref (ad 131)]) F (k_X12_isPlace l M ⟨hI, hW⟩ x0 (by omega) (by omega)) cs_X12_341 (T := TX12) (N := 44) (ci := 12) rfl gs_131 (by decide) (by decide) rfl rfl rfl (Nat.le_of_ble_eq_true rfl) dX12_place_4 (fun v1 M2 rv1 hI p3 => ?_)
  obtain ⟨hI, hW⟩ := hI
  obtain ⟨⟨av1, bv1⟩, rfl, xp3⟩ := p3
  refine z_if_ne (tgt := 14) F dX12_place_7 (by decide +kernel) (by omega) (fun c4 => ?_) (fun c4 => ?_)
  · refine z_iload_n F dX12_place_14 rfl (q := 2) rfl ?_
    refine z_i2l F dX12_place_15 (by omega) ?_
    refine z_lconst (x := 0) F dX12_place_16 (by decide +kernel) ?_
    refine z_ldc2 (x := 2) F dX12_place_17 (gin lm_46 rfl) (by decide +kernel) ?_
    refine zs_i (rest := [.ref (ad 131)]) F (k_X12_within l M ⟨hI, hW⟩ x1 (by omega) (by omega) 0 (by omega) (by omega) 2 (by omega) (by omega)) cs_X12_137 (by decide) (by decide) rfl rfl rfl (Nat.le_of_ble_eq_true rfl) dX12_place_20 (fun v5 M6 rv5 hI p7 => ?_)
    obtain ⟨hI, hW⟩ := hI
    obtain ⟨⟨av5, bv5⟩, rfl, xp7⟩ := p7
    refine z_if_eq (tgt := 30) F dX12_place_23 (by decide +kernel) (by omega) (fun c8 => ?_) (fun c8 => ?_)
    · refine z_iconst F dX12_place_30 ?_
      refine pf_X12_73 F hI gs_131 rfl bd_131_4 rfl rfl dX12_place_31 (by omega) (by omega) (fun M10 hI sf9 f9 => ?_)
      have hF := hF.wr f9 (by decide) (by decide)
      have hW : WFk M10 := hW.site f9 (by decide)
      refine z_aload_n F dX12_place_34 rfl (q := 0) rfl ?_
      refine gf_X12_73 F hI gs_131 rfl bd_131_4 dX12_place_35 (fun v11 ev11 av11 bv11 => ?_)
      have zv11 : 2 = v11 := sf9.symm.trans ev11.symm
      subst zv11
      refine z_if_le (tgt := 43) F dX12_place_38 (by decide +kernel) (by omega) (fun c12 => by exfalso; omega) (fun c12 => ?_)
      refine z_iconst F dX12_place_41 ?_
      exact hret _ _ 42 _ (by omega) ⟨hI, hW⟩ ⟨⟨by omega, by omega⟩, hF⟩ dX12_place_42
    · refine z_iconst F dX12_place_26 ?_
      refine z_goto (tgt := 31) F dX12_place_27 (by decide +kernel) ?_
      refine pf_X12_73 F hI gs_131 rfl bd_131_4 rfl rfl dX12_place_31 (by omega) (by omega) (fun M14 hI sf13 f13 => ?_)
      have hF := hF.wr f13 (by decide) (by decide)
      have hW : WFk M14 := hW.site f13 (by decide)
      refine z_aload_n F dX12_place_34 rfl (q := 0) rfl ?_
      refine gf_X12_73 F hI gs_131 rfl bd_131_4 dX12_place_35 (fun v15 ev15 av15 bv15 => ?_)
      have zv15 : 0 = v15 := sf13.symm.trans ev15.symm
      subst zv15
      refine z_if_le (tgt := 43) F dX12_place_38 (by decide +kernel) (by omega) (fun c16 => ?_) (fun c16 => by exfalso; omega)
      refine z_iload_n F dX12_place_43 rfl (q := 2) rfl ?_
      refine z_if_ne (tgt := 56) F dX12_place_44 (by decide +kernel) (by omega) (fun c17 => ?_) (fun c17 => ?_)
      · refine z_iconst F dX12_place_56 ?_
        refine z_istore_n F dX12_place_57 rfl (by decide) (ls' := [(3, ii 0), (0, .ref (ad 131)), (1, ii x0), (2, ii x1)]) rfl ?_
        refine z_iconst F dX12_place_58 ?_
        refine z_istore F dX12_place_59 (by decide) (ls' := [(4, ii 0), (3, ii 0), (0, .ref (ad 131)), (1, ii x0), (2, ii x1)]) rfl ?_
        refine z_loc [2, 3, 4, 1, 0] (ls' := [(0, .ref (ad 131)), (1, ii x0), (2, ii x1), (3, ii 0), (4, ii 0)]) rfl ?_
        suffices key61 : ∀ (n : Nat) (y19 : Int) (y20 : Int), 0 ≤ y19 → y19 ≤ 1023 → 0 ≤ y20 → y20 ≤ 10 → 10 - y20 < (n : Int) → Z D cy ad p l e (RMh 3) s m args below meth c A 5 0 0 Q 61 [(0, .ref (ad 131)), (1, ii x0), (2, ii x1), (3, ii y19), (4, ii y20)] [] M14 from key61 11 0 0 (by omega) (by omega) (by omega) (by omega) (by omega)
        intro n61
        induction n61 with
        | zero => intro y19 y20 ay19 by19 ay20 by20 hn61; exfalso; omega
        | succ n61 ih61 =>
          intro y19 y20 ay19 by19 ay20 by20 hn61
          refine z_iload F dX12_place_61 (q := 4) rfl ?_
          refine z_aload_n F dX12_place_63 rfl (q := 0) rfl ?_
          refine zv_i (rest := [ii y20]) F (k_X12_places l M14 ⟨hI, hW⟩) cs_X12_273 (T := TX12) (N := 44) (ci := 12) rfl gs_131 (by decide) (by decide) rfl rfl rfl (Nat.le_of_ble_eq_true rfl) dX12_place_64 (fun v21 M22 rv21 hI p23 => ?_)
          obtain ⟨hI, hW⟩ := hI
          obtain ⟨⟨av21, bv21⟩, rfl, xp23⟩ := p23
          refine z_icmp_ge (tgt := 113) F dX12_place_67 (by decide +kernel) (by omega) (by omega) (fun c24 => ?_) (fun c24 => ?_)
          · refine z_iload_n F dX12_place_113 rfl (q := 3) rfl ?_
            exact hret _ _ 114 _ (by omega) ⟨hI, hW⟩ ⟨⟨by omega, by omega⟩, hF⟩ dX12_place_114
          · refine z_iload_n F dX12_place_70 rfl (q := 3) rfl ?_
            refine z_iload_n F dX12_place_71 rfl (q := 2) rfl ?_
            refine z_iconst F dX12_place_72 ?_
            refine z_icmp_ne (tgt := 86) F dX12_place_73 (by decide +kernel) (by omega) (by omega) (fun c25 => ?_) (fun c25 => ?_)
            · refine z_aload_n F dX12_place_86 rfl (q := 0) rfl ?_
              refine z_iload_n F dX12_place_87 rfl (q := 1) rfl ?_
              refine z_iload F dX12_place_88 (q := 4) rfl ?_
              refine zv_i (rest := [ii y19]) F (k_X12_touch l M14 ⟨hI, hW⟩ x0 (by omega) (by omega) y20 (by omega) (by omega)) cs_X12_320 (T := TX12) (N := 44) (ci := 12) rfl gs_131 (by decide) (by decide) rfl rfl rfl (Nat.le_of_ble_eq_true rfl) dX12_place_90 (fun v26 M27 rv26 hI p28 => ?_)
              obtain ⟨hI, hW⟩ := hI
              obtain ⟨⟨av26, bv26⟩, rfl⟩ := p28
              refine z_iconst F dX12_place_93 ?_
              refine z_icmp_ne (tgt := 104) F dX12_place_94 (by decide +kernel) (by omega) (by omega) (fun c29 => ?_) (fun c29 => ?_)
              · refine z_iconst F dX12_place_104 ?_
                refine z_ior_k (k := 10) F dX12_place_105 (by decide) (by omega) (by omega) (by omega) (by omega) (fun v30 av30 bv30 => ?_)
                refine z_istore_n F dX12_place_106 rfl (by decide) (ls' := [(3, ii v30), (0, .ref (ad 131)), (1, ii x0), (2, ii x1), (4, ii y20)]) rfl ?_
                refine z_iincN F dX12_place_107 (q := 4) rfl (by decide) (fun v31 ev31 => ?_)
                refine z_eq (ls' := [(4, ii v31), (3, ii v30), (0, .ref (ad 131)), (1, ii x0), (2, ii x1)]) rfl rfl rfl ?_
                refine z_goto (tgt := 61) F dX12_place_110 (by decide +kernel) ?_
                refine z_loc [2, 3, 4, 1, 0] (ls' := [(0, .ref (ad 131)), (1, ii x0), (2, ii x1), (3, ii v30), (4, ii v31)]) rfl ?_
                exact ih61 v30 v31 (by omega) (by omega) (by omega) (by omega) (by omega)
              · refine z_iconst F dX12_place_97 ?_
                refine z_iload F dX12_place_98 (q := 4) rfl ?_
                refine z_shl1 (k := 9) F dX12_place_100 (by decide) (by omega) (by omega) (fun v32 ev32 av32 bv32 => ?_)
                refine z_goto (tgt := 105) F dX12_place_101 (by decide +kernel) ?_
                refine z_ior_k (k := 10) F dX12_place_105 (by decide) (by omega) (by omega) (by omega) (by omega) (fun v33 av33 bv33 => ?_)
                refine z_istore_n F dX12_place_106 rfl (by decide) (ls' := [(3, ii v33), (0, .ref (ad 131)), (1, ii x0), (2, ii x1), (4, ii y20)]) rfl ?_
                refine z_iincN F dX12_place_107 (q := 4) rfl (by decide) (fun v34 ev34 => ?_)
                refine z_eq (ls' := [(4, ii v34), (3, ii v33), (0, .ref (ad 131)), (1, ii x0), (2, ii x1)]) rfl rfl rfl ?_
                refine z_goto (tgt := 61) F dX12_place_110 (by decide +kernel) ?_
                refine z_loc [2, 3, 4, 1, 0] (ls' := [(0, .ref (ad 131)), (1, ii x0), (2, ii x1), (3, ii v33), (4, ii v34)]) rfl ?_
                exact ih61 v33 v34 (by omega) (by omega) (by omega) (by omega) (by omega)
            · refine z_aload_n F dX12_place_76 rfl (q := 0) rfl ?_
              refine z_iload_n F dX12_place_77 rfl (q := 1) rfl ?_
              refine z_iload F dX12_place_78 (q := 4) rfl ?_
              refine zv_i (rest := [ii y19]) F (k_X12_touch l M14 ⟨hI, hW⟩ x0 (by omega) (by omega) y20 (by omega) (by omega)) cs_X12_320 (T := TX12) (N := 44) (ci := 12) rfl gs_131 (by decide) (by decide) rfl rfl rfl (Nat.le_of_ble_eq_true rfl) dX12_place_80 (fun v35 M36 rv35 hI p37 => ?_)
              obtain ⟨hI, hW⟩ := hI
              obtain ⟨⟨av35, bv35⟩, rfl⟩ := p37
              refine z_if_ne (tgt := 97) F dX12_place_83 (by decide +kernel) (by omega) (fun c38 => ?_) (fun c38 => ?_)
              · refine z_iconst F dX12_place_97 ?_
                refine z_iload F dX12_place_98 (q := 4) rfl ?_
                refine z_shl1 (k := 9) F dX12_place_100 (by decide) (by omega) (by omega) (fun v39 ev39 av39 bv39 => ?_)
                refine z_goto (tgt := 105) F dX12_place_101 (by decide +kernel) ?_
                refine z_ior_k (k := 10) F dX12_place_105 (by decide) (by omega) (by omega) (by omega) (by omega) (fun v40 av40 bv40 => ?_)
                refine z_istore_n F dX12_place_106 rfl (by decide) (ls' := [(3, ii v40), (0, .ref (ad 131)), (1, ii x0), (2, ii x1), (4, ii y20)]) rfl ?_
                refine z_iincN F dX12_place_107 (q := 4) rfl (by decide) (fun v41 ev41 => ?_)
                refine z_eq (ls' := [(4, ii v41), (3, ii v40), (0, .ref (ad 131)), (1, ii x0), (2, ii x1)]) rfl rfl rfl ?_
                refine z_goto (tgt := 61) F dX12_place_110 (by decide +kernel) ?_
                refine z_loc [2, 3, 4, 1, 0] (ls' := [(0, .ref (ad 131)), (1, ii x0), (2, ii x1), (3, ii v40), (4, ii v41)]) rfl ?_
                exact ih61 v40 v41 (by omega) (by omega) (by omega) (by omega) (by omega)
              · refine z_aload_n F dX12_place_86 rfl (q := 0) rfl ?_
                refine z_iload_n F dX12_place_87 rfl (q := 1) rfl ?_
                refine z_iload F dX12_place_88 (q := 4) rfl ?_
                refine zv_i (rest := [ii y19]) F (k_X12_touch l M14 ⟨hI, hW⟩ x0 (by omega) (by omega) y20 (by omega) (by omega)) cs_X12_320 (T := TX12) (N := 44) (ci := 12) rfl gs_131 (by decide) (by decide) rfl rfl rfl (Nat.le_of_ble_eq_true rfl) dX12_place_90 (fun v42 M43 rv42 hI p44 => ?_)
                obtain ⟨hI, hW⟩ := hI
                obtain ⟨⟨av42, bv42⟩, rfl⟩ := p44
                refine z_iconst F dX12_place_93 ?_
                refine z_icmp_ne (tgt := 104) F dX12_place_94 (by decide +kernel) (by omega) (by omega) (fun c45 => ?_) (fun c45 => ?_)
                · refine z_iconst F dX12_place_104 ?_
                  refine z_ior_k (k := 10) F dX12_place_105 (by decide) (by omega) (by omega) (by omega) (by omega) (fun v46 av46 bv46 => ?_)
                  refine z_istore_n F dX12_place_106 rfl (by decide) (ls' := [(3, ii v46), (0, .ref (ad 131)), (1, ii x0), (2, ii x1), (4, ii y20)]) rfl ?_
                  refine z_iincN F dX12_place_107 (q := 4) rfl (by decide) (fun v47 ev47 => ?_)
                  refine z_eq (ls' := [(4, ii v47), (3, ii v46), (0, .ref (ad 131)), (1, ii x0), (2, ii x1)]) rfl rfl rfl ?_
                  refine z_goto (tgt := 61) F dX12_place_110 (by decide +kernel) ?_
                  refine z_loc [2, 3, 4, 1, 0] (ls' := [(0, .ref (ad 131)), (1, ii x0), (2, ii x1), (3, ii v46), (4, ii v47)]) rfl ?_
                  exact ih61 v46 v47 (by omega) (by omega) (by omega) (by omega) (by omega)
                · refine z_iconst F dX12_place_97 ?_
                  refine z_iload F dX12_place_98 (q := 4) rfl ?_
                  refine z_shl1 (k := 9) F dX12_place_100 (by decide) (by omega) (by omega) (fun v48 ev48 av48 bv48 => ?_)
                  refine z_goto (tgt := 105) F dX12_place_101 (by decide +kernel) ?_
                  refine z_ior_k (k := 10) F dX12_place_105 (by decide) (by omega) (by omega) (by omega) (by omega) (fun v49 av49 bv49 => ?_)
                  refine z_istore_n F dX12_place_106 rfl (by decide) (ls' := [(3, ii v49), (0, .ref (ad 131)), (1, ii x0), (2, ii x1), (4, ii y20)]) rfl ?_
                  refine z_iincN F dX12_place_107 (q := 4) rfl (by decide) (fun v50 ev50 => ?_)
                  refine z_eq (ls' := [(4, ii v50), (3, ii v49), (0, .ref (ad 131)), (1, ii x0), (2, ii x1)]) rfl rfl rfl ?_
                  refine z_goto (tgt := 61) F dX12_place_110 (by decide +kernel) ?_
                  refine z_loc [2, 3, 4, 1, 0] (ls' := [(0, .ref (ad 131)), (1, ii x0), (2, ii x1), (3, ii v49), (4, ii v50)]) rfl ?_
                  exact ih61 v49 v50 (by omega) (by omega) (by omega) (by omega) (by omega)
      · refine z_aload_n F dX12_place_47 rfl (q := 0) rfl ?_
        refine rf_X12_9 F gs_131 rfl dX12_place_48 ?_
        refine z_iload_n F dX12_place_51 rfl (q := 1) rfl ?_
        refine zs_i (rest := []) F (k_X12_thingAt_132 l M14 ⟨hI, hW⟩ x0 (by omega) (by omega)) cs_X12_209 (by decide) (by decide) rfl rfl rfl (Nat.le_of_ble_eq_true rfl) dX12_place_52 (fun v51 M52 rv51 hI p53 => ?_)
        obtain ⟨hI, hW⟩ := hI
        obtain ⟨⟨av51, bv51⟩, rfl⟩ := p53
        exact hret _ _ 55 _ (by omega) ⟨hI, hW⟩ ⟨⟨by omega, by omega⟩, hF⟩ dX12_place_55
  · refine z_iconst F dX12_place_10 ?_
    refine z_goto (tgt := 31) F dX12_place_11 (by decide +kernel) ?_
    refine pf_X12_73 F hI gs_131 rfl bd_131_4 rfl rfl dX12_place_31 (by omega) (by omega) (fun M55 hI sf54 f54 => ?_)
    have hF := hF.wr f54 (by decide) (by decide)
    have hW : WFk M55 := hW.site f54 (by decide)
    refine z_aload_n F dX12_place_34 rfl (q := 0) rfl ?_
    refine gf_X12_73 F hI gs_131 rfl bd_131_4 dX12_place_35 (fun v56 ev56 av56 bv56 => ?_)
    have zv56 : 1 = v56 := sf54.symm.trans ev56.symm
    subst zv56
    refine z_if_le (tgt := 43) F dX12_place_38 (by decide +kernel) (by omega) (fun c57 => by exfalso; omega) (fun c57 => ?_)
    refine z_iconst F dX12_place_41 ?_
    exact hret _ _ 42 _ (by omega) ⟨hI, hW⟩ ⟨⟨by omega, by omega⟩, hF⟩ dX12_place_42
set_option maxRecDepth 4000 in
theorem k_X12_stepsOf (l : Launch) (M : Mem) (hJ : Iw M) (x0 : Int) (hx0a : 0 ≤ x0) (hx0b : x0 ≤ 9) (x1 : Int) (hx1a : 0 ≤ x1) (hx1b : x1 ≤ 9) : CI l yX12_stepsOf cX12_stepsOf 8 (some .int) 2 (fun ad => [.ref (ad 131), ii x0, ii x1]) M (fun z M' => ((-1) ≤ z ∧ z ≤ 9) ∧ M = M') := by
  obtain ⟨hI, hW⟩ := hJ
  refine en_i (by decide +kernel) (fun ad => by exact Nat.le_of_ble_eq_true rfl) (fun D cy ad A p e s m args below meth c Q F hret => ?_)
  refine z_eq (ls' := [(0, .ref (ad 131)), (1, ii x0), (2, ii x1)]) rfl rfl rfl ?_
  refine z_iconst F dX12_stepsOf_0 ?_
  refine z_iload_n F dX12_stepsOf_1 rfl (q := 1) rfl ?_
  refine z_shl1 (k := 9) F dX12_stepsOf_2 (by decide) (by omega) (by omega) (fun v1 ev1 av1 bv1 => ?_)
  refine z_istore_n F dX12_stepsOf_3 rfl (by decide) (ls' := [(3, ii v1), (0, .ref (ad 131)), (1, ii x0), (2, ii x1)]) rfl ?_
  refine z_iconst F dX12_stepsOf_4 ?_
  refine z_istore F dX12_stepsOf_5 (by decide) (ls' := [(4, ii 0), (3, ii v1), (0, .ref (ad 131)), (1, ii x0), (2, ii x1)]) rfl ?_
  refine z_loc [2, 4, 1, 0] (ls' := [(0, .ref (ad 131)), (2, ii x1), (3, ii v1), (4, ii 0)]) rfl ?_
  suffices key7 : ∀ (n : Nat) (y3 : Int) (y4 : Int), 0 ≤ y3 → y3 ≤ 1023 → 0 ≤ y4 → y4 ≤ 10 → 10 - y4 < (n : Int) → Z D cy ad p l e (RMh 2) s m args below meth c A 8 0 0 Q 7 [(0, .ref (ad 131)), (2, ii x1), (3, ii y3), (4, ii y4)] [] M from key7 11 v1 0 (by omega) (by omega) (by omega) (by omega) (by omega)
  intro n7
  induction n7 with
  | zero => intro y3 y4 ay3 by3 ay4 by4 hn7; exfalso; omega
  | succ n7 ih7 =>
    intro y3 y4 ay3 by3 ay4 by4 hn7
    refine z_iload F dX12_stepsOf_7 (q := 3) rfl ?_
    refine z_bipush F dX12_stepsOf_9 (by decide +kernel) ?_
    refine z_icmp_ge (tgt := 102) F dX12_stepsOf_11 (by decide +kernel) (by omega) (by omega) (fun c5 => ?_) (fun c5 => ?_)
    · refine z_iconst F dX12_stepsOf_102 ?_
      exact hret _ _ 103 _ (by omega) ⟨hI, hW⟩ ⟨⟨by omega, by omega⟩, rfl⟩ dX12_stepsOf_103
    · refine z_iload_n F dX12_stepsOf_14 rfl (q := 2) rfl ?_
      refine z_iload_n F dX12_stepsOf_15 rfl (q := 1) rfl ?_
      refine zs_i (rest := []) F (k_X12_has l M ⟨hI, hW⟩ y3 (by omega) (by omega) x1 (by omega) (by omega)) cs_X12_346 (by decide) (by decide) rfl rfl rfl (Nat.le_of_ble_eq_true rfl) dX12_stepsOf_16 (fun v6 M7 rv6 hI p8 => ?_)
      obtain ⟨hI, hW⟩ := hI
      obtain ⟨⟨av6, bv6⟩, rfl⟩ := p8
      refine z_if_eq (tgt := 25) F dX12_stepsOf_19 (by decide +kernel) (by omega) (fun c9 => ?_) (fun c9 => ?_)
      · refine z_iload_n F dX12_stepsOf_25 rfl (q := 2) rfl ?_
        refine z_istore F dX12_stepsOf_26 (by decide) (ls' := [(5, ii y3), (0, .ref (ad 131)), (2, ii x1), (3, ii y3), (4, ii y4)]) rfl ?_
        refine z_iconst F dX12_stepsOf_28 ?_
        refine z_istore F dX12_stepsOf_29 (by decide) (ls' := [(6, ii 0), (5, ii y3), (0, .ref (ad 131)), (2, ii x1), (3, ii y3), (4, ii y4)]) rfl ?_
        refine z_loc [2, 3, 4, 5, 1, 0] (ls' := [(0, .ref (ad 131)), (2, ii x1), (3, ii y3), (4, ii y4), (5, ii y3), (6, ii 0)]) rfl ?_
        suffices key31 : ∀ (n : Nat) (y11 : Int) (y12 : Int), 0 ≤ y11 → y11 ≤ 1023 → 0 ≤ y12 → y12 ≤ 10 → 10 - y12 < (n : Int) → Z D cy ad p l e (RMh 2) s m args below meth c A 8 0 0 Q 31 [(0, .ref (ad 131)), (2, ii x1), (3, ii y3), (4, ii y4), (5, ii y11), (6, ii y12)] [] M from key31 11 y3 0 (by omega) (by omega) (by omega) (by omega) (by omega)
        intro n31
        induction n31 with
        | zero => intro y11 y12 ay11 by11 ay12 by12 hn31; exfalso; omega
        | succ n31 ih31 =>
          intro y11 y12 ay11 by11 ay12 by12 hn31
          refine z_iload F dX12_stepsOf_31 (q := 5) rfl ?_
          refine z_aload_n F dX12_stepsOf_33 rfl (q := 0) rfl ?_
          refine zv_i (rest := [ii y12]) F (k_X12_places l M ⟨hI, hW⟩) cs_X12_273 (T := TX12) (N := 44) (ci := 12) rfl gs_131 (by decide) (by decide) rfl rfl rfl (Nat.le_of_ble_eq_true rfl) dX12_stepsOf_34 (fun v13 M14 rv13 hI p15 => ?_)
          obtain ⟨hI, hW⟩ := hI
          obtain ⟨⟨av13, bv13⟩, rfl, xp15⟩ := p15
          refine z_icmp_ge (tgt := 93) F dX12_stepsOf_37 (by decide +kernel) (by omega) (by omega) (fun c16 => ?_) (fun c16 => ?_)
          · refine z_iload F dX12_stepsOf_93 (q := 4) rfl ?_
            refine z_istore_n F dX12_stepsOf_95 rfl (by decide) (ls' := [(3, ii y11), (0, .ref (ad 131)), (2, ii x1), (4, ii y4), (5, ii y11), (6, ii y12)]) rfl ?_
            refine z_iincN F dX12_stepsOf_96 (q := 3) rfl (by decide) (fun v17 ev17 => ?_)
            refine z_eq (ls' := [(4, ii v17), (3, ii y11), (0, .ref (ad 131)), (2, ii x1), (5, ii y11), (6, ii y12)]) rfl rfl rfl ?_
            refine z_goto (tgt := 7) F dX12_stepsOf_99 (by decide +kernel) ?_
            refine z_loc [2, 3, 1, 0] (ls' := [(0, .ref (ad 131)), (2, ii x1), (3, ii y11), (4, ii v17)]) rfl ?_
            exact ih7 y11 v17 (by omega) (by omega) (by omega) (by omega) (by omega)
          · refine z_iconst F dX12_stepsOf_40 ?_
            refine z_istore F dX12_stepsOf_41 (by decide) (ls' := [(7, ii 0), (0, .ref (ad 131)), (2, ii x1), (3, ii y3), (4, ii y4), (5, ii y11), (6, ii y12)]) rfl ?_
            refine z_loc [1, 2, 3, 4, 5, 6, 0] (ls' := [(0, .ref (ad 131)), (2, ii x1), (3, ii y3), (4, ii y4), (5, ii y11), (6, ii y12), (7, ii 0)]) rfl ?_
            suffices key43 : ∀ (n : Nat) (y19 : Int) (y20 : Int), 0 ≤ y19 → y19 ≤ 1023 → 0 ≤ y20 → y20 ≤ 10 → 10 - y20 < (n : Int) → Z D cy ad p l e (RMh 2) s m args below meth c A 8 0 0 Q 43 [(0, .ref (ad 131)), (2, ii x1), (3, ii y3), (4, ii y4), (5, ii y19), (6, ii y12), (7, ii y20)] [] M from key43 11 y11 0 (by omega) (by omega) (by omega) (by omega) (by omega)
            intro n43
            induction n43 with
            | zero => intro y19 y20 ay19 by19 ay20 by20 hn43; exfalso; omega
            | succ n43 ih43 =>
              intro y19 y20 ay19 by19 ay20 by20 hn43
              refine z_iload F dX12_stepsOf_43 (q := 6) rfl ?_
              refine z_aload_n F dX12_stepsOf_45 rfl (q := 0) rfl ?_
              refine zv_i (rest := [ii y20]) F (k_X12_places l M ⟨hI, hW⟩) cs_X12_273 (T := TX12) (N := 44) (ci := 12) rfl gs_131 (by decide) (by decide) rfl rfl rfl (Nat.le_of_ble_eq_true rfl) dX12_stepsOf_46 (fun v21 M22 rv21 hI p23 => ?_)
              obtain ⟨hI, hW⟩ := hI
              obtain ⟨⟨av21, bv21⟩, rfl, xp23⟩ := p23
              have zv21 : v13 = v21 := xp15.trans xp23.symm
              subst zv21
              refine z_icmp_ge (tgt := 87) F dX12_stepsOf_49 (by decide +kernel) (by omega) (by omega) (fun c24 => ?_) (fun c24 => ?_)
              · refine z_iincN F dX12_stepsOf_87 (q := 5) rfl (by decide) (fun v25 ev25 => ?_)
                refine z_eq (ls' := [(6, ii v25), (0, .ref (ad 131)), (2, ii x1), (3, ii y3), (4, ii y4), (5, ii y19), (7, ii y20)]) rfl rfl rfl ?_
                refine z_goto (tgt := 31) F dX12_stepsOf_90 (by decide +kernel) ?_
                refine z_loc [1, 2, 3, 4, 5, 0] (ls' := [(0, .ref (ad 131)), (2, ii x1), (3, ii y3), (4, ii y4), (5, ii y19), (6, ii v25)]) rfl ?_
                exact ih31 y19 v25 (by omega) (by omega) (by omega) (by omega) (by omega)
              · refine z_iload_n F dX12_stepsOf_52 rfl (q := 2) rfl ?_
                refine z_iload F dX12_stepsOf_53 (q := 5) rfl ?_
                refine zs_i (rest := []) F (k_X12_has l M ⟨hI, hW⟩ y3 (by omega) (by omega) y12 (by omega) (by omega)) cs_X12_346 (by decide) (by decide) rfl rfl rfl (Nat.le_of_ble_eq_true rfl) dX12_stepsOf_55 (fun v26 M27 rv26 hI p28 => ?_)
                obtain ⟨hI, hW⟩ := hI
                obtain ⟨⟨av26, bv26⟩, rfl⟩ := p28
                refine z_if_eq (tgt := 81) F dX12_stepsOf_58 (by decide +kernel) (by omega) (fun c29 => ?_) (fun c29 => ?_)
                · refine z_iincN F dX12_stepsOf_81 (q := 6) rfl (by decide) (fun v30 ev30 => ?_)
                  refine z_eq (ls' := [(7, ii v30), (0, .ref (ad 131)), (2, ii x1), (3, ii y3), (4, ii y4), (5, ii y19), (6, ii y12)]) rfl rfl rfl ?_
                  refine z_goto (tgt := 43) F dX12_stepsOf_84 (by decide +kernel) ?_
                  refine z_loc [1, 2, 3, 4, 5, 6, 0] (ls' := [(0, .ref (ad 131)), (2, ii x1), (3, ii y3), (4, ii y4), (5, ii y19), (6, ii y12), (7, ii v30)]) rfl ?_
                  exact ih43 y19 v30 (by omega) (by omega) (by omega) (by omega) (by omega)
                · refine z_aload_n F dX12_stepsOf_61 rfl (q := 0) rfl ?_
                  refine z_iload F dX12_stepsOf_62 (q := 5) rfl ?_
                  refine z_iload F dX12_stepsOf_64 (q := 6) rfl ?_
                  refine zv_i (rest := []) F (k_X12_touch l M ⟨hI, hW⟩ y12 (by omega) (by omega) y20 (by omega) (by omega)) cs_X12_320 (T := TX12) (N := 44) (ci := 12) rfl gs_131 (by decide) (by decide) rfl rfl rfl (Nat.le_of_ble_eq_true rfl) dX12_stepsOf_66 (fun v31 M32 rv31 hI p33 => ?_)
                  obtain ⟨hI, hW⟩ := hI
                  obtain ⟨⟨av31, bv31⟩, rfl⟩ := p33
                  refine z_if_eq (tgt := 81) F dX12_stepsOf_69 (by decide +kernel) (by omega) (fun c34 => ?_) (fun c34 => ?_)
                  · refine z_iincN F dX12_stepsOf_81 (q := 6) rfl (by decide) (fun v35 ev35 => ?_)
                    refine z_eq (ls' := [(7, ii v35), (0, .ref (ad 131)), (2, ii x1), (3, ii y3), (4, ii y4), (5, ii y19), (6, ii y12)]) rfl rfl rfl ?_
                    refine z_goto (tgt := 43) F dX12_stepsOf_84 (by decide +kernel) ?_
                    refine z_loc [1, 2, 3, 4, 5, 6, 0] (ls' := [(0, .ref (ad 131)), (2, ii x1), (3, ii y3), (4, ii y4), (5, ii y19), (6, ii y12), (7, ii v35)]) rfl ?_
                    exact ih43 y19 v35 (by omega) (by omega) (by omega) (by omega) (by omega)
                  · refine z_iload F dX12_stepsOf_72 (q := 4) rfl ?_
                    refine z_iconst F dX12_stepsOf_74 ?_
                    refine z_iload F dX12_stepsOf_75 (q := 6) rfl ?_
                    refine z_shl1 (k := 9) F dX12_stepsOf_77 (by decide) (by omega) (by omega) (fun v36 ev36 av36 bv36 => ?_)
                    refine z_ior_k (k := 10) F dX12_stepsOf_78 (by decide) (by omega) (by omega) (by omega) (by omega) (fun v37 av37 bv37 => ?_)
                    refine z_istore F dX12_stepsOf_79 (by decide) (ls' := [(5, ii v37), (0, .ref (ad 131)), (2, ii x1), (3, ii y3), (4, ii y4), (6, ii y12), (7, ii y20)]) rfl ?_
                    refine z_iincN F dX12_stepsOf_81 (q := 6) rfl (by decide) (fun v38 ev38 => ?_)
                    refine z_eq (ls' := [(7, ii v38), (5, ii v37), (0, .ref (ad 131)), (2, ii x1), (3, ii y3), (4, ii y4), (6, ii y12)]) rfl rfl rfl ?_
                    refine z_goto (tgt := 43) F dX12_stepsOf_84 (by decide +kernel) ?_
                    refine z_loc [2, 3, 4, 5, 1, 6, 0] (ls' := [(0, .ref (ad 131)), (2, ii x1), (3, ii y3), (4, ii y4), (5, ii v37), (6, ii y12), (7, ii v38)]) rfl ?_
                    exact ih43 v37 v38 (by omega) (by omega) (by omega) (by omega) (by omega)
      · refine z_iload F dX12_stepsOf_22 (q := 3) rfl ?_
        exact hret _ _ 24 _ (by omega) ⟨hI, hW⟩ ⟨⟨by omega, by omega⟩, rfl⟩ dX12_stepsOf_24
set_option maxRecDepth 4000 in
theorem k_X12_steps (l : Launch) (M : Mem) (hJ : Iw M) (x0 : Int) (hx0a : (-2147483648) ≤ x0) (hx0b : x0 ≤ 2147483647) (x1 : Int) (hx1a : (-2147483648) ≤ x1) (hx1b : x1 ≤ 2147483647) : CI l yX12_steps cX12_steps 3 (some .int) 3 (fun ad => [.ref (ad 131), ii x0, ii x1]) M (fun z M' => ((-1) ≤ z ∧ z ≤ 9) ∧ Fr [131] M M') := by
  obtain ⟨hI, hW⟩ := hJ
  have hF : Fr [131] M M := Fr.rf
  refine en_i (by decide +kernel) (fun ad => by exact Nat.le_of_ble_eq_true rfl) (fun D cy ad A p e s m args below meth c Q F hret => ?_)
  refine z_eq (ls' := [(0, .ref (ad 131)), (1, ii x0), (2, ii x1)]) rfl rfl rfl ?_
  refine z_aload_n F dX12_steps_0 rfl (q := 0) rfl ?_
  refine z_iconst F dX12_steps_1 ?_
  refine pf_X12_73 F hI gs_131 rfl bd_131_4 rfl rfl dX12_steps_2 (by omega) (by omega) (fun M2 hI sf1 f1 => ?_)
  have hF := hF.wr f1 (by decide) (by decide)
  have hW : WFk M2 := hW.site f1 (by decide)
  refine z_aload_n F dX12_steps_5 rfl (q := 0) rfl ?_
  refine z_iload_n F dX12_steps_6 rfl (q := 1) rfl ?_
  refine z_i2l F dX12_steps_7 (by omega) ?_
  refine zv_i (rest := []) F (k_X12_isPlace l M2 ⟨hI, hW⟩ x0 (by omega) (by omega)) cs_X12_341 (T := TX12) (N := 44) (ci := 12) rfl gs_131 (by decide) (by decide) rfl rfl rfl (Nat.le_of_ble_eq_true rfl) dX12_steps_8 (fun v3 M4 rv3 hI p5 => ?_)
  obtain ⟨hI, hW⟩ := hI
  obtain ⟨⟨av3, bv3⟩, rfl, xp5⟩ := p5
  refine z_if_eq (tgt := 32) F dX12_steps_11 (by decide +kernel) (by omega) (fun c6 => ?_) (fun c6 => ?_)
  · refine z_aload_n F dX12_steps_32 rfl (q := 0) rfl ?_
    refine z_iconst F dX12_steps_33 ?_
    refine zv_i (rest := []) F (k_X12_fails l M2 ⟨hI, hW⟩ 1 (by omega) (by omega)) cs_X12_262 (T := TX12) (N := 44) (ci := 12) rfl gs_131 (by decide) (by decide) rfl rfl rfl (Nat.le_of_ble_eq_true rfl) dX12_steps_34 (fun v7 M8 rv7 hI p9 => ?_)
    obtain ⟨hI, hW⟩ := hI
    obtain ⟨⟨av7, bv7⟩, fp9⟩ := p9
    have hF := hF.call fp9 (by decide)
    exact hret _ _ 37 _ (by omega) ⟨hI, hW⟩ ⟨⟨by omega, by omega⟩, hF⟩ dX12_steps_37
  · refine z_aload_n F dX12_steps_14 rfl (q := 0) rfl ?_
    refine z_iload_n F dX12_steps_15 rfl (q := 2) rfl ?_
    refine z_i2l F dX12_steps_16 (by omega) ?_
    refine zv_i (rest := []) F (k_X12_isPlace l M2 ⟨hI, hW⟩ x1 (by omega) (by omega)) cs_X12_341 (T := TX12) (N := 44) (ci := 12) rfl gs_131 (by decide) (by decide) rfl rfl rfl (Nat.le_of_ble_eq_true rfl) dX12_steps_17 (fun v10 M11 rv10 hI p12 => ?_)
    obtain ⟨hI, hW⟩ := hI
    obtain ⟨⟨av10, bv10⟩, rfl, xp12⟩ := p12
    refine z_if_eq (tgt := 32) F dX12_steps_20 (by decide +kernel) (by omega) (fun c13 => ?_) (fun c13 => ?_)
    · refine z_aload_n F dX12_steps_32 rfl (q := 0) rfl ?_
      refine z_iconst F dX12_steps_33 ?_
      refine zv_i (rest := []) F (k_X12_fails l M2 ⟨hI, hW⟩ 1 (by omega) (by omega)) cs_X12_262 (T := TX12) (N := 44) (ci := 12) rfl gs_131 (by decide) (by decide) rfl rfl rfl (Nat.le_of_ble_eq_true rfl) dX12_steps_34 (fun v14 M15 rv14 hI p16 => ?_)
      obtain ⟨hI, hW⟩ := hI
      obtain ⟨⟨av14, bv14⟩, fp16⟩ := p16
      have hF := hF.call fp16 (by decide)
      exact hret _ _ 37 _ (by omega) ⟨hI, hW⟩ ⟨⟨by omega, by omega⟩, hF⟩ dX12_steps_37
    · refine z_aload_n F dX12_steps_23 rfl (q := 0) rfl ?_
      refine z_iload_n F dX12_steps_24 rfl (q := 1) rfl ?_
      refine z_iload_n F dX12_steps_25 rfl (q := 2) rfl ?_
      refine zv_i (rest := []) F (k_X12_stepsOf l M2 ⟨hI, hW⟩ x0 (by omega) (by omega) x1 (by omega) (by omega)) cs_X12_349 (T := TX12) (N := 44) (ci := 12) rfl gs_131 (by decide) (by decide) rfl rfl rfl (Nat.le_of_ble_eq_true rfl) dX12_steps_26 (fun v17 M18 rv17 hI p19 => ?_)
      obtain ⟨hI, hW⟩ := hI
      obtain ⟨⟨av17, bv17⟩, rfl⟩ := p19
      refine z_goto (tgt := 37) F dX12_steps_29 (by decide +kernel) ?_
      exact hret _ _ 37 _ (by omega) ⟨hI, hW⟩ ⟨⟨by omega, by omega⟩, hF⟩ dX12_steps_37
set_option maxRecDepth 4000 in
theorem k_X12_keeps (l : Launch) (M : Mem) (hJ : Iw M) : CV l yX12_keeps cX12_keeps 2 none 1 (fun ad => [.ref (ad 131)]) M (fun M' => Fr [132] M M') := by
  obtain ⟨hI, hW⟩ := hJ
  have hF : Fr [132] M M := Fr.rf
  refine en_v (by decide +kernel) (fun ad => by exact Nat.le_of_ble_eq_true rfl) (fun D cy ad A p e s m args below meth c Q F hret => ?_)
  refine z_eq (ls' := [(0, .ref (ad 131))]) rfl rfl rfl ?_
  refine z_aload_n F dX12_keeps_0 rfl (q := 0) rfl ?_
  refine rf_X12_9 F gs_131 rfl dX12_keeps_1 ?_
  refine z_bipush F dX12_keeps_4 (by decide +kernel) ?_
  refine z_iald F hI gs_132 (by omega) (by omega) (by decide) (show Bd 132 7 = (0, 12) from rfl) dX12_keeps_6 (fun v1 (ev1 : v1 = M 132 7) av1 bv1 => ?_)
  refine z_bipush F dX12_keeps_7 (by decide +kernel) ?_
  refine z_icmp_ne (tgt := 55) F dX12_keeps_9 (by decide +kernel) (by omega) (by omega) (fun c2 => ?_) (fun c2 => ?_)
  · refine z_iconst F dX12_keeps_55 ?_
    refine z_istore_n F dX12_keeps_56 rfl (by decide) (ls' := [(1, ii 0), (0, .ref (ad 131))]) rfl ?_
    refine z_loc [1, 0] (ls' := [(0, .ref (ad 131)), (1, ii 0)]) rfl ?_
    suffices key57 : ∀ (n : Nat) (y4 : Int) (M3 : Mem), Inv M3 → WFk M3 → Fr [132] M M3 → 0 ≤ y4 → y4 ≤ 18 → M3 132 7 ≤ 11 → 18 - y4 < (n : Int) → Z D cy ad p l e (RMh 1) s m args below meth c A 2 0 0 Q 57 [(0, .ref (ad 131)), (1, ii y4)] [] M3 from key57 19 0 M hI hW hF (by omega) (by omega) (by omega) (by omega)
    intro n57
    induction n57 with
    | zero => intro y4 M3 hI hW hF ay4 by4 i57_0 hn57; exfalso; omega
    | succ n57 ih57 =>
      intro y4 M3 hI hW hF ay4 by4 i57_0 hn57
      obtain ⟨u5, eu5⟩ : ∃ v : Int, v = M3 132 7 := ⟨_, rfl⟩
      have ku5 : 0 ≤ u5 ∧ u5 ≤ 11 := by have := hI.at (show Bd 132 7 = (0, 12) from rfl); omega
      refine z_iload_n F dX12_keeps_57 rfl (q := 1) rfl ?_
      refine z_bipush F dX12_keeps_58 (by decide +kernel) ?_
      refine z_icmp_ge (tgt := 99) F dX12_keeps_60 (by decide +kernel) (by omega) (by omega) (fun c6 => ?_) (fun c6 => ?_)
      · refine z_aload_n F dX12_keeps_99 rfl (q := 0) rfl ?_
        refine rf_X12_9 F gs_131 rfl dX12_keeps_100 ?_
        refine z_bipush F dX12_keeps_103 (by decide +kernel) ?_
        refine z_dup2 F dX12_keeps_105 rfl rfl ?_
        refine z_iald F hI gs_132 (by omega) (by omega) (by decide) (show Bd 132 7 = (0, 12) from rfl) dX12_keeps_106 (fun v7 (ev7 : v7 = M3 132 7) av7 bv7 => ?_)
        have zv7 : u5 = v7 := eu5.trans ev7.symm
        subst zv7
        refine z_iconst F dX12_keeps_107 ?_
        refine z_iadd F dX12_keeps_108 ?_
        refine z_nm (fun v9 ev9 => ?_)
        refine z_iast F hI gs_132 (by omega) (by omega) (by decide) (show Bd 132 7 = (0, 12) from rfl) dX12_keeps_109 (by omega) (by omega) (fun M10 hI sf8 f8 => ?_)
        have hF := hF.wrk f8 (by decide) (by omega)
        have hW : WFk M10 := hW.known f8 (by omega)
        have sf8 : M10 132 7 = v9 := sf8
        exact hret _ 110 _ ⟨hI, hW⟩ hF dX12_keeps_110
      · refine z_aload_n F dX12_keeps_63 rfl (q := 0) rfl ?_
        refine rf_X12_9 F gs_131 rfl dX12_keeps_64 ?_
        refine z_sipush F dX12_keeps_67 (by decide +kernel) ?_
        refine z_bipush F dX12_keeps_70 (by decide +kernel) ?_
        refine z_aload_n F dX12_keeps_72 rfl (q := 0) rfl ?_
        refine rf_X12_9 F gs_131 rfl dX12_keeps_73 ?_
        refine z_bipush F dX12_keeps_76 (by decide +kernel) ?_
        refine z_iald F hI gs_132 (by omega) (by omega) (by decide) (show Bd 132 7 = (0, 12) from rfl) dX12_keeps_78 (fun v11 (ev11 : v11 = M3 132 7) av11 bv11 => ?_)
        have zv11 : u5 = v11 := eu5.trans ev11.symm
        subst zv11
        refine z_imul F dX12_keeps_79 ?_
        refine z_iadd F dX12_keeps_80 ?_
        refine z_iload_n F dX12_keeps_81 rfl (q := 1) rfl ?_
        refine z_iadd F dX12_keeps_82 ?_
        refine z_aload_n F dX12_keeps_83 rfl (q := 0) rfl ?_
        refine rf_X12_9 F gs_131 rfl dX12_keeps_84 ?_
        refine z_bipush F dX12_keeps_87 (by decide +kernel) ?_
        refine z_iload_n F dX12_keeps_89 rfl (q := 1) rfl ?_
        refine z_iadd F dX12_keeps_90 ?_
        refine z_ialdB F hI gs_132 (by omega) (by omega) (by decide) kn_w dX12_keeps_91 (fun v12 ev12 av12 bv12 rv12 => ?_)
        refine z_iastB F hI gs_132 (by omega) (by omega) (by decide) dX12_keeps_92 (bq_in (Eq.trans (bq_un (y := y4) u5 (by omega) (by omega) (by omega) (by omega) (by omega)) (Eq.symm (bq_as (y := y4) (by omega) (by omega) (by omega)))) av12 bv12) (fun M14 hI sf13 f13 => ?_)
        have hF := hF.wrk f13 (by decide) (by omega)
        have hW : WFk M14 := hW.known f13 (by omega)
        refine z_iincN F dX12_keeps_93 (q := 1) rfl (by decide) (fun v15 ev15 => ?_)
        refine z_eq (ls' := [(1, ii v15), (0, .ref (ad 131))]) rfl rfl rfl ?_
        refine z_goto (tgt := 57) F dX12_keeps_96 (by decide +kernel) ?_
        refine z_loc [1, 0] (ls' := [(0, .ref (ad 131)), (1, ii v15)]) rfl ?_
        have q16 : u5 = M14 132 7 := eu5.trans (f13 132 7 (fun q => by omega)).symm
        exact ih57 v15 M14 hI hW hF (by omega) (by omega) (by omega) (by omega)
  · refine z_sipush F dX12_keeps_12 (by decide +kernel) ?_
    refine z_istore_n F dX12_keeps_15 rfl (by decide) (ls' := [(1, ii 168), (0, .ref (ad 131))]) rfl ?_
    refine z_loc [1, 0] (ls' := [(0, .ref (ad 131)), (1, ii 168)]) rfl ?_
    suffices key16 : ∀ (n : Nat) (y18 : Int) (M17 : Mem), Inv M17 → WFk M17 → Fr [132] M M17 → 168 ≤ y18 → y18 ≤ 366 → M17 132 7 = 12 → 366 - y18 < (n : Int) → Z D cy ad p l e (RMh 1) s m args below meth c A 2 0 0 Q 16 [(0, .ref (ad 131)), (1, ii y18)] [] M17 from key16 199 168 M hI hW hF (by omega) (by omega) (by omega) (by omega)
    intro n16
    induction n16 with
    | zero => intro y18 M17 hI hW hF ay18 by18 i16_0 hn16; exfalso; omega
    | succ n16 ih16 =>
      intro y18 M17 hI hW hF ay18 by18 i16_0 hn16
      obtain ⟨u19, eu19⟩ : ∃ v : Int, v = M17 132 7 := ⟨_, rfl⟩
      have ku19 : 12 ≤ u19 ∧ u19 ≤ 12 := by have := hI.at (show Bd 132 7 = (0, 12) from rfl); omega
      refine z_iload_n F dX12_keeps_16 rfl (q := 1) rfl ?_
      refine z_sipush F dX12_keeps_17 (by decide +kernel) ?_
      refine z_icmp_ge (tgt := 44) F dX12_keeps_20 (by decide +kernel) (by omega) (by omega) (fun c20 => ?_) (fun c20 => ?_)
      · refine z_aload_n F dX12_keeps_44 rfl (q := 0) rfl ?_
        refine rf_X12_9 F gs_131 rfl dX12_keeps_45 ?_
        refine z_bipush F dX12_keeps_48 (by decide +kernel) ?_
        refine z_dup2 F dX12_keeps_50 rfl rfl ?_
        refine z_iald F hI gs_132 (by omega) (by omega) (by decide) (show Bd 132 7 = (0, 12) from rfl) dX12_keeps_51 (fun v21 (ev21 : v21 = M17 132 7) av21 bv21 => ?_)
        have zv21 : u19 = v21 := eu19.trans ev21.symm
        subst zv21
        refine z_iconst F dX12_keeps_52 ?_
        refine z_isub F dX12_keeps_53 ?_
        refine z_nm (fun v23 ev23 => ?_)
        refine z_iast F hI gs_132 (by omega) (by omega) (by decide) (show Bd 132 7 = (0, 12) from rfl) dX12_keeps_54 (by omega) (by omega) (fun M24 hI sf22 f22 => ?_)
        have hF := hF.wrk f22 (by decide) (by omega)
        have hW : WFk M24 := hW.known f22 (by omega)
        have sf22 : M24 132 7 = v23 := sf22
        refine z_iconst F dX12_keeps_55 ?_
        refine z_istore_n F dX12_keeps_56 rfl (by decide) (ls' := [(1, ii 0), (0, .ref (ad 131))]) rfl ?_
        refine z_loc [1, 0] (ls' := [(0, .ref (ad 131)), (1, ii 0)]) rfl ?_
        suffices key57 : ∀ (n : Nat) (y26 : Int) (M25 : Mem), Inv M25 → WFk M25 → Fr [132] M M25 → 0 ≤ y26 → y26 ≤ 18 → M25 132 7 ≤ 11 → 18 - y26 < (n : Int) → Z D cy ad p l e (RMh 1) s m args below meth c A 2 0 0 Q 57 [(0, .ref (ad 131)), (1, ii y26)] [] M25 from key57 19 0 M24 hI hW hF (by omega) (by omega) (by omega) (by omega)
        intro n57
        induction n57 with
        | zero => intro y26 M25 hI hW hF ay26 by26 i57_0 hn57; exfalso; omega
        | succ n57 ih57 =>
          intro y26 M25 hI hW hF ay26 by26 i57_0 hn57
          obtain ⟨u27, eu27⟩ : ∃ v : Int, v = M25 132 7 := ⟨_, rfl⟩
          have ku27 : 0 ≤ u27 ∧ u27 ≤ 11 := by have := hI.at (show Bd 132 7 = (0, 12) from rfl); omega
          refine z_iload_n F dX12_keeps_57 rfl (q := 1) rfl ?_
          refine z_bipush F dX12_keeps_58 (by decide +kernel) ?_
          refine z_icmp_ge (tgt := 99) F dX12_keeps_60 (by decide +kernel) (by omega) (by omega) (fun c28 => ?_) (fun c28 => ?_)
          · refine z_aload_n F dX12_keeps_99 rfl (q := 0) rfl ?_
            refine rf_X12_9 F gs_131 rfl dX12_keeps_100 ?_
            refine z_bipush F dX12_keeps_103 (by decide +kernel) ?_
            refine z_dup2 F dX12_keeps_105 rfl rfl ?_
            refine z_iald F hI gs_132 (by omega) (by omega) (by decide) (show Bd 132 7 = (0, 12) from rfl) dX12_keeps_106 (fun v29 (ev29 : v29 = M25 132 7) av29 bv29 => ?_)
            have zv29 : u27 = v29 := eu27.trans ev29.symm
            subst zv29
            refine z_iconst F dX12_keeps_107 ?_
            refine z_iadd F dX12_keeps_108 ?_
            refine z_nm (fun v31 ev31 => ?_)
            refine z_iast F hI gs_132 (by omega) (by omega) (by decide) (show Bd 132 7 = (0, 12) from rfl) dX12_keeps_109 (by omega) (by omega) (fun M32 hI sf30 f30 => ?_)
            have hF := hF.wrk f30 (by decide) (by omega)
            have hW : WFk M32 := hW.known f30 (by omega)
            have sf30 : M32 132 7 = v31 := sf30
            exact hret _ 110 _ ⟨hI, hW⟩ hF dX12_keeps_110
          · refine z_aload_n F dX12_keeps_63 rfl (q := 0) rfl ?_
            refine rf_X12_9 F gs_131 rfl dX12_keeps_64 ?_
            refine z_sipush F dX12_keeps_67 (by decide +kernel) ?_
            refine z_bipush F dX12_keeps_70 (by decide +kernel) ?_
            refine z_aload_n F dX12_keeps_72 rfl (q := 0) rfl ?_
            refine rf_X12_9 F gs_131 rfl dX12_keeps_73 ?_
            refine z_bipush F dX12_keeps_76 (by decide +kernel) ?_
            refine z_iald F hI gs_132 (by omega) (by omega) (by decide) (show Bd 132 7 = (0, 12) from rfl) dX12_keeps_78 (fun v33 (ev33 : v33 = M25 132 7) av33 bv33 => ?_)
            have zv33 : u27 = v33 := eu27.trans ev33.symm
            subst zv33
            refine z_imul F dX12_keeps_79 ?_
            refine z_iadd F dX12_keeps_80 ?_
            refine z_iload_n F dX12_keeps_81 rfl (q := 1) rfl ?_
            refine z_iadd F dX12_keeps_82 ?_
            refine z_aload_n F dX12_keeps_83 rfl (q := 0) rfl ?_
            refine rf_X12_9 F gs_131 rfl dX12_keeps_84 ?_
            refine z_bipush F dX12_keeps_87 (by decide +kernel) ?_
            refine z_iload_n F dX12_keeps_89 rfl (q := 1) rfl ?_
            refine z_iadd F dX12_keeps_90 ?_
            refine z_ialdB F hI gs_132 (by omega) (by omega) (by decide) kn_w dX12_keeps_91 (fun v34 ev34 av34 bv34 rv34 => ?_)
            refine z_iastB F hI gs_132 (by omega) (by omega) (by decide) dX12_keeps_92 (bq_in (Eq.trans (bq_un (y := y26) u27 (by omega) (by omega) (by omega) (by omega) (by omega)) (Eq.symm (bq_as (y := y26) (by omega) (by omega) (by omega)))) av34 bv34) (fun M36 hI sf35 f35 => ?_)
            have hF := hF.wrk f35 (by decide) (by omega)
            have hW : WFk M36 := hW.known f35 (by omega)
            refine z_iincN F dX12_keeps_93 (q := 1) rfl (by decide) (fun v37 ev37 => ?_)
            refine z_eq (ls' := [(1, ii v37), (0, .ref (ad 131))]) rfl rfl rfl ?_
            refine z_goto (tgt := 57) F dX12_keeps_96 (by decide +kernel) ?_
            refine z_loc [1, 0] (ls' := [(0, .ref (ad 131)), (1, ii v37)]) rfl ?_
            have q38 : u27 = M36 132 7 := eu27.trans (f35 132 7 (fun q => by omega)).symm
            exact ih57 v37 M36 hI hW hF (by omega) (by omega) (by omega) (by omega)
      · refine z_aload_n F dX12_keeps_23 rfl (q := 0) rfl ?_
        refine rf_X12_9 F gs_131 rfl dX12_keeps_24 ?_
        refine z_iload_n F dX12_keeps_27 rfl (q := 1) rfl ?_
        refine z_aload_n F dX12_keeps_28 rfl (q := 0) rfl ?_
        refine rf_X12_9 F gs_131 rfl dX12_keeps_29 ?_
        refine z_iload_n F dX12_keeps_32 rfl (q := 1) rfl ?_
        refine z_bipush F dX12_keeps_33 (by decide +kernel) ?_
        refine z_iadd F dX12_keeps_35 ?_
        refine z_ialdB F hI gs_132 (by omega) (by omega) (by decide) kn_w dX12_keeps_36 (fun v39 ev39 av39 bv39 rv39 => ?_)
        refine z_iastB F hI gs_132 (by omega) (by omega) (by decide) dX12_keeps_37 (bq_in (bq_18 (by omega) (by omega) (by omega)) av39 bv39) (fun M41 hI sf40 f40 => ?_)
        have hF := hF.wrk f40 (by decide) (by omega)
        have hW : WFk M41 := hW.known f40 (by omega)
        refine z_iincN F dX12_keeps_38 (q := 1) rfl (by decide) (fun v42 ev42 => ?_)
        refine z_eq (ls' := [(1, ii v42), (0, .ref (ad 131))]) rfl rfl rfl ?_
        refine z_goto (tgt := 16) F dX12_keeps_41 (by decide +kernel) ?_
        refine z_loc [1, 0] (ls' := [(0, .ref (ad 131)), (1, ii v42)]) rfl ?_
        have q43 : u19 = M41 132 7 := eu19.trans (f40 132 7 (fun q => by omega)).symm
        exact ih16 v42 M41 hI hW hF (by omega) (by omega) (by omega) (by omega)
set_option maxRecDepth 4000 in
theorem k_X12_putsAside (l : Launch) (M : Mem) (hJ : Iw M) : CV l yX12_putsAside cX12_putsAside 2 none 1 (fun ad => [.ref (ad 131)]) M (fun M' => Fr [138] M M') := by
  obtain ⟨hI, hW⟩ := hJ
  have hF : Fr [138] M M := Fr.rf
  refine en_v (by decide +kernel) (fun ad => by exact Nat.le_of_ble_eq_true rfl) (fun D cy ad A p e s m args below meth c Q F hret => ?_)
  refine z_eq (ls' := [(0, .ref (ad 131))]) rfl rfl rfl ?_
  refine z_iconst F dX12_putsAside_0 ?_
  refine z_istore_n F dX12_putsAside_1 rfl (by decide) (ls' := [(1, ii 0), (0, .ref (ad 131))]) rfl ?_
  refine z_loc [1, 0] (ls' := [(0, .ref (ad 131)), (1, ii 0)]) rfl ?_
  suffices key2 : ∀ (n : Nat) (y2 : Int) (M1 : Mem), Inv M1 → WFk M1 → Fr [138] M M1 → 0 ≤ y2 → y2 ≤ 18 → 18 - y2 < (n : Int) → Z D cy ad p l e (RMh 1) s m args below meth c A 2 0 0 Q 2 [(0, .ref (ad 131)), (1, ii y2)] [] M1 from key2 19 0 M hI hW hF (by omega) (by omega) (by omega)
  intro n2
  induction n2 with
  | zero => intro y2 M1 hI hW hF ay2 by2 hn2; exfalso; omega
  | succ n2 ih2 =>
    intro y2 M1 hI hW hF ay2 by2 hn2
    refine z_iload_n F dX12_putsAside_2 rfl (q := 1) rfl ?_
    refine z_bipush F dX12_putsAside_3 (by decide +kernel) ?_
    refine z_icmp_ge (tgt := 29) F dX12_putsAside_5 (by decide +kernel) (by omega) (by omega) (fun c3 => ?_) (fun c3 => ?_)
    · exact hret _ 29 _ ⟨hI, hW⟩ hF dX12_putsAside_29
    · refine z_aload_n F dX12_putsAside_8 rfl (q := 0) rfl ?_
      refine rf_X12_33 F gs_131 rfl dX12_putsAside_9 ?_
      refine z_iload_n F dX12_putsAside_12 rfl (q := 1) rfl ?_
      refine z_aload_n F dX12_putsAside_13 rfl (q := 0) rfl ?_
      refine rf_X12_9 F gs_131 rfl dX12_putsAside_14 ?_
      refine z_bipush F dX12_putsAside_17 (by decide +kernel) ?_
      refine z_iload_n F dX12_putsAside_19 rfl (q := 1) rfl ?_
      refine z_iadd F dX12_putsAside_20 ?_
      refine z_ialdB F hI gs_132 (by omega) (by omega) (by decide) kn_w dX12_putsAside_21 (fun v4 ev4 av4 bv4 rv4 => ?_)
      refine z_iastB F hI gs_138 (by omega) (by omega) (by decide) dX12_putsAside_22 (bq_in (Eq.trans (rfl : Bd 138 _ = as18 _) (Eq.symm (bq_as (y := y2) (by omega) (by omega) (by omega)))) av4 bv4) (fun M6 hI sf5 f5 => ?_)
      have hF := hF.wr f5 (by decide) (by decide)
      have hW : WFk M6 := hW.site f5 (by decide)
      refine z_iincN F dX12_putsAside_23 (q := 1) rfl (by decide) (fun v7 ev7 => ?_)
      refine z_eq (ls' := [(1, ii v7), (0, .ref (ad 131))]) rfl rfl rfl ?_
      refine z_goto (tgt := 2) F dX12_putsAside_26 (by decide +kernel) ?_
      refine z_loc [1, 0] (ls' := [(0, .ref (ad 131)), (1, ii v7)]) rfl ?_
      exact ih2 v7 M6 hI hW hF (by omega) (by omega) (by omega)
set_option maxRecDepth 4000 in
theorem k_X12_putsBack (l : Launch) (M : Mem) (hJ : Iw M) : CV l yX12_putsBack cX12_putsBack 2 none 1 (fun ad => [.ref (ad 131)]) M (fun M' => Fr [132] M M') := by
  obtain ⟨hI, hW⟩ := hJ
  have hF : Fr [132] M M := Fr.rf
  refine en_v (by decide +kernel) (fun ad => by exact Nat.le_of_ble_eq_true rfl) (fun D cy ad A p e s m args below meth c Q F hret => ?_)
  refine z_eq (ls' := [(0, .ref (ad 131))]) rfl rfl rfl ?_
  refine z_iconst F dX12_putsBack_0 ?_
  refine z_istore_n F dX12_putsBack_1 rfl (by decide) (ls' := [(1, ii 0), (0, .ref (ad 131))]) rfl ?_
  refine z_loc [1, 0] (ls' := [(0, .ref (ad 131)), (1, ii 0)]) rfl ?_
  suffices key2 : ∀ (n : Nat) (y2 : Int) (M1 : Mem), Inv M1 → WFk M1 → Fr [132] M M1 → 0 ≤ y2 → y2 ≤ 18 → 18 - y2 < (n : Int) → Z D cy ad p l e (RMh 1) s m args below meth c A 2 0 0 Q 2 [(0, .ref (ad 131)), (1, ii y2)] [] M1 from key2 19 0 M hI hW hF (by omega) (by omega) (by omega)
  intro n2
  induction n2 with
  | zero => intro y2 M1 hI hW hF ay2 by2 hn2; exfalso; omega
  | succ n2 ih2 =>
    intro y2 M1 hI hW hF ay2 by2 hn2
    refine z_iload_n F dX12_putsBack_2 rfl (q := 1) rfl ?_
    refine z_bipush F dX12_putsBack_3 (by decide +kernel) ?_
    refine z_icmp_ge (tgt := 29) F dX12_putsBack_5 (by decide +kernel) (by omega) (by omega) (fun c3 => ?_) (fun c3 => ?_)
    · exact hret _ 29 _ ⟨hI, hW⟩ hF dX12_putsBack_29
    · refine z_aload_n F dX12_putsBack_8 rfl (q := 0) rfl ?_
      refine rf_X12_9 F gs_131 rfl dX12_putsBack_9 ?_
      refine z_bipush F dX12_putsBack_12 (by decide +kernel) ?_
      refine z_iload_n F dX12_putsBack_14 rfl (q := 1) rfl ?_
      refine z_iadd F dX12_putsBack_15 ?_
      refine z_aload_n F dX12_putsBack_16 rfl (q := 0) rfl ?_
      refine rf_X12_33 F gs_131 rfl dX12_putsBack_17 ?_
      refine z_iload_n F dX12_putsBack_20 rfl (q := 1) rfl ?_
      refine z_ialdB F hI gs_138 (by omega) (by omega) (by decide) as_w dX12_putsBack_21 (fun v4 ev4 av4 bv4 rv4 => ?_)
      refine z_iastB F hI gs_132 (by omega) (by omega) (by decide) dX12_putsBack_22 (bq_in (Eq.trans (bq_as (y := y2) (by omega) (by omega) (by omega)) (Eq.symm (rfl : Bd 138 _ = as18 _))) av4 bv4) (fun M6 hI sf5 f5 => ?_)
      have hF := hF.wrk f5 (by decide) (by omega)
      have hW : WFk M6 := hW.known f5 (by omega)
      refine z_iincN F dX12_putsBack_23 (q := 1) rfl (by decide) (fun v7 ev7 => ?_)
      refine z_eq (ls' := [(1, ii v7), (0, .ref (ad 131))]) rfl rfl rfl ?_
      refine z_goto (tgt := 2) F dX12_putsBack_26 (by decide +kernel) ?_
      refine z_loc [1, 0] (ls' := [(0, .ref (ad 131)), (1, ii v7)]) rfl ?_
      exact ih2 v7 M6 hI hW hF (by omega) (by omega) (by omega)
set_option maxRecDepth 4000 in
theorem k_X12_adds (l : Launch) (M : Mem) (hJ : Iw M) (x0 : Int) (hx0a : 0 ≤ x0) (hx0b : x0 ≤ 7) (x1 : Int) (hx1a : (-2147483648) ≤ x1) (hx1b : x1 ≤ 2147483647) : CV l yX12_adds cX12_adds 3 none 1 (fun ad => [.ref (ad 131), ii x0, ii x1]) M (fun M' => Fr [132] M M') := by
  obtain ⟨hI, hW⟩ := hJ
  have hF : Fr [132] M M := Fr.rf
  refine en_v (by decide +kernel) (fun ad => by exact Nat.le_of_ble_eq_true rfl) (fun D cy ad A p e s m args below meth c Q F hret => ?_)
  refine z_eq (ls' := [(0, .ref (ad 131)), (1, ii x0), (2, ii x1)]) rfl rfl rfl ?_
  refine z_aload_n F dX12_adds_0 rfl (q := 0) rfl ?_
  refine rf_X12_9 F gs_131 rfl dX12_adds_1 ?_
  refine z_bipush F dX12_adds_4 (by decide +kernel) ?_
  refine z_iload_n F dX12_adds_6 rfl (q := 1) rfl ?_
  refine z_iadd F dX12_adds_7 ?_
  refine z_iconst F dX12_adds_8 ?_
  refine z_bipush F dX12_adds_9 (by decide +kernel) ?_
  refine z_aload_n F dX12_adds_11 rfl (q := 0) rfl ?_
  refine rf_X12_9 F gs_131 rfl dX12_adds_12 ?_
  refine z_bipush F dX12_adds_15 (by decide +kernel) ?_
  refine z_iload_n F dX12_adds_17 rfl (q := 1) rfl ?_
  refine z_iadd F dX12_adds_18 ?_
  refine z_iald F hI gs_132 (by omega) (by omega) (by decide) (bd_132.trans (kn_any (by omega) (by omega))) dX12_adds_19 (fun v1 (ev1 : v1 = M 132 _) av1 bv1 => ?_)
  refine z_iload_n F dX12_adds_20 rfl (q := 2) rfl ?_
  refine z_iadd F dX12_adds_21 ?_
  refine z_wrap (fun v2 rv2 wv2 => ?_)
  refine z_min F mm_X12_309 (Nat.le_of_ble_eq_true rfl) dX12_adds_22 (by omega) (by omega) (fun v3 ev3 => ?_)
  refine z_max F mm_X12_311 (Nat.le_of_ble_eq_true rfl) dX12_adds_25 (by omega) (by omega) (fun v4 ev4 => ?_)
  refine z_iast F hI gs_132 (by omega) (by omega) (by decide) (bd_132.trans (kn_any (by omega) (by omega))) dX12_adds_28 (by omega) (by omega) (fun M6 hI sf5 f5 => ?_)
  have hF := hF.wrk f5 (by decide) (by omega)
  have hW : WFk M6 := hW.known f5 (by omega)
  exact hret _ 29 _ ⟨hI, hW⟩ hF dX12_adds_29
set_option maxRecDepth 4000 in
theorem k_X12_whyNot (l : Launch) (M : Mem) (hJ : Iw M) (x0 : Int) (hx0a : (-9223372036854775808) ≤ x0) (hx0b : x0 ≤ 9223372036854775807) (x1 : Int) (hx1a : (-9223372036854775808) ≤ x1) (hx1b : x1 ≤ 9223372036854775807) : CI l yX12_whyNot cX12_whyNot 5 (some .int) 3 (fun ad => [.ref (ad 131), ll x0, ll x1]) M (fun z M' => (0 ≤ z ∧ z ≤ 4) ∧ M = M' ∧ (z = 0 → 0 ≤ x0 ∧ x0 ≤ 7 ∧ 0 ≤ x1 ∧ x1 ≤ 9)) := by
  obtain ⟨hI, hW⟩ := hJ
  refine en_i (by decide +kernel) (fun ad => by exact Nat.le_of_ble_eq_true rfl) (fun D cy ad A p e s m args below meth c Q F hret => ?_)
  refine z_eq (ls' := [(0, .ref (ad 131)), (1, ll x0), (3, ll x1)]) rfl rfl rfl ?_
  refine z_aload_n F dX12_whyNot_0 rfl (q := 0) rfl ?_
  refine z_lload_n F dX12_whyNot_1 rfl (q := 1) rfl ?_
  refine zv_i (rest := []) F (k_X12_isThing l M ⟨hI, hW⟩ x0 (by omega) (by omega)) cs_X12_335 (T := TX12) (N := 44) (ci := 12) rfl gs_131 (by decide) (by decide) rfl rfl rfl (Nat.le_of_ble_eq_true rfl) dX12_whyNot_2 (fun v1 M2 rv1 hI p3 => ?_)
  obtain ⟨hI, hW⟩ := hI
  obtain ⟨⟨av1, bv1⟩, rfl, xp3⟩ := p3
  refine z_if_eq (tgt := 16) F dX12_whyNot_5 (by decide +kernel) (by omega) (fun c4 => ?_) (fun c4 => ?_)
  · refine z_iconst F dX12_whyNot_16 ?_
    exact hret _ _ 17 _ (by omega) ⟨hI, hW⟩ ⟨⟨by omega, by omega⟩, rfl, (by omega)⟩ dX12_whyNot_17
  · refine z_aload_n F dX12_whyNot_8 rfl (q := 0) rfl ?_
    refine z_lload_n F dX12_whyNot_9 rfl (q := 2) rfl ?_
    refine zv_i (rest := []) F (k_X12_isPlace l M ⟨hI, hW⟩ x1 (by omega) (by omega)) cs_X12_341 (T := TX12) (N := 44) (ci := 12) rfl gs_131 (by decide) (by decide) rfl rfl rfl (Nat.le_of_ble_eq_true rfl) dX12_whyNot_10 (fun v5 M6 rv5 hI p7 => ?_)
    obtain ⟨hI, hW⟩ := hI
    obtain ⟨⟨av5, bv5⟩, rfl, xp7⟩ := p7
    refine z_if_ne (tgt := 18) F dX12_whyNot_13 (by decide +kernel) (by omega) (fun c8 => ?_) (fun c8 => ?_)
    · refine z_aload_n F dX12_whyNot_18 rfl (q := 0) rfl ?_
      refine rf_X12_9 F gs_131 rfl dX12_whyNot_19 ?_
      refine z_bipush F dX12_whyNot_22 (by decide +kernel) ?_
      refine z_lload_n F dX12_whyNot_24 rfl (q := 1) rfl ?_
      refine z_l2i F dX12_whyNot_25 (by omega) ?_
      refine z_iadd F dX12_whyNot_26 ?_
      refine z_iald F hI gs_132 (by omega) (by omega) (by decide) (bd_132.trans (kn_any (by omega) (by omega))) dX12_whyNot_27 (fun v9 (ev9 : v9 = M 132 _) av9 bv9 => ?_)
      refine z_iconst F dX12_whyNot_28 ?_
      refine z_icmp_ne (tgt := 34) F dX12_whyNot_29 (by decide +kernel) (by omega) (by omega) (fun c10 => ?_) (fun c10 => ?_)
      · refine z_aload_n F dX12_whyNot_34 rfl (q := 0) rfl ?_
        refine rf_X12_9 F gs_131 rfl dX12_whyNot_35 ?_
        refine z_lload_n F dX12_whyNot_38 rfl (q := 2) rfl ?_
        refine z_l2i F dX12_whyNot_39 (by omega) ?_
        refine zs_i (rest := []) F (k_X12_thingAt_132 l M ⟨hI, hW⟩ x1 (by omega) (by omega)) cs_X12_209 (by decide) (by decide) rfl rfl rfl (Nat.le_of_ble_eq_true rfl) dX12_whyNot_40 (fun v11 M12 rv11 hI p13 => ?_)
        obtain ⟨hI, hW⟩ := hI
        obtain ⟨⟨av11, bv11⟩, rfl⟩ := p13
        refine z_iconst F dX12_whyNot_43 ?_
        refine z_icmp_eq (tgt := 49) F dX12_whyNot_44 (by decide +kernel) (by omega) (by omega) (fun c14 => ?_) (fun c14 => ?_)
        · refine z_aload_n F dX12_whyNot_49 rfl (q := 0) rfl ?_
          refine z_aload_n F dX12_whyNot_50 rfl (q := 0) rfl ?_
          refine z_lload_n F dX12_whyNot_51 rfl (q := 1) rfl ?_
          refine z_l2i F dX12_whyNot_52 (by omega) ?_
          refine zv_i (rest := [.ref (ad 131)]) F (k_X12_lies l M ⟨hI, hW⟩ x0 (by omega) (by omega)) cs_X12_317 (T := TX12) (N := 44) (ci := 12) rfl gs_131 (by decide) (by decide) rfl rfl rfl (Nat.le_of_ble_eq_true rfl) dX12_whyNot_53 (fun v15 M16 rv15 hI p17 => ?_)
          obtain ⟨hI, hW⟩ := hI
          obtain ⟨⟨av15, bv15⟩, rfl⟩ := p17
          refine z_lload_n F dX12_whyNot_56 rfl (q := 2) rfl ?_
          refine z_l2i F dX12_whyNot_57 (by omega) ?_
          refine zv_i (rest := []) F (k_X12_stepsOf l M ⟨hI, hW⟩ v15 (by omega) (by omega) x1 (by omega) (by omega)) cs_X12_349 (T := TX12) (N := 44) (ci := 12) rfl gs_131 (by decide) (by decide) rfl rfl rfl (Nat.le_of_ble_eq_true rfl) dX12_whyNot_58 (fun v18 M19 rv18 hI p20 => ?_)
          obtain ⟨hI, hW⟩ := hI
          obtain ⟨⟨av18, bv18⟩, rfl⟩ := p20
          refine z_iconst F dX12_whyNot_61 ?_
          refine z_icmp_ne (tgt := 69) F dX12_whyNot_62 (by decide +kernel) (by omega) (by omega) (fun c21 => ?_) (fun c21 => ?_)
          · refine z_iconst F dX12_whyNot_69 ?_
            exact hret _ _ 70 _ (by omega) ⟨hI, hW⟩ ⟨⟨by omega, by omega⟩, rfl, (by omega)⟩ dX12_whyNot_70
          · refine z_iconst F dX12_whyNot_65 ?_
            refine z_goto (tgt := 70) F dX12_whyNot_66 (by decide +kernel) ?_
            exact hret _ _ 70 _ (by omega) ⟨hI, hW⟩ ⟨⟨by omega, by omega⟩, rfl, (by omega)⟩ dX12_whyNot_70
        · refine z_iconst F dX12_whyNot_47 ?_
          exact hret _ _ 48 _ (by omega) ⟨hI, hW⟩ ⟨⟨by omega, by omega⟩, rfl, (by omega)⟩ dX12_whyNot_48
      · refine z_iconst F dX12_whyNot_32 ?_
        exact hret _ _ 33 _ (by omega) ⟨hI, hW⟩ ⟨⟨by omega, by omega⟩, rfl, (by omega)⟩ dX12_whyNot_33
    · refine z_iconst F dX12_whyNot_16 ?_
      exact hret _ _ 17 _ (by omega) ⟨hI, hW⟩ ⟨⟨by omega, by omega⟩, rfl, (by omega)⟩ dX12_whyNot_17
set_option maxRecDepth 4000 in
theorem k_X12_minutesOf (l : Launch) (M : Mem) (hJ : Iw M) (x0 : Int) (hx0a : 0 ≤ x0) (hx0b : x0 ≤ 7) (x1 : Int) (hx1a : 0 ≤ x1) (hx1b : x1 ≤ 9) : CI l yX12_minutesOf cX12_minutesOf 3 (some .int) 3 (fun ad => [.ref (ad 131), ii x0, ii x1]) M (fun z M' => ((-2147483648) ≤ z ∧ z ≤ 2147483647) ∧ M = M') := by
  obtain ⟨hI, hW⟩ := hJ
  refine en_i (by decide +kernel) (fun ad => by exact Nat.le_of_ble_eq_true rfl) (fun D cy ad A p e s m args below meth c Q F hret => ?_)
  refine z_eq (ls' := [(0, .ref (ad 131)), (1, ii x0), (2, ii x1)]) rfl rfl rfl ?_
  refine z_aload_n F dX12_minutesOf_0 rfl (q := 0) rfl ?_
  refine z_aload_n F dX12_minutesOf_1 rfl (q := 0) rfl ?_
  refine z_iload_n F dX12_minutesOf_2 rfl (q := 1) rfl ?_
  refine zv_i (rest := [.ref (ad 131)]) F (k_X12_lies l M ⟨hI, hW⟩ x0 (by omega) (by omega)) cs_X12_317 (T := TX12) (N := 44) (ci := 12) rfl gs_131 (by decide) (by decide) rfl rfl rfl (Nat.le_of_ble_eq_true rfl) dX12_minutesOf_3 (fun v1 M2 rv1 hI p3 => ?_)
  obtain ⟨hI, hW⟩ := hI
  obtain ⟨⟨av1, bv1⟩, rfl⟩ := p3
  refine z_iload_n F dX12_minutesOf_6 rfl (q := 2) rfl ?_
  refine zv_i (rest := []) F (k_X12_stepsOf l M ⟨hI, hW⟩ v1 (by omega) (by omega) x1 (by omega) (by omega)) cs_X12_349 (T := TX12) (N := 44) (ci := 12) rfl gs_131 (by decide) (by decide) rfl rfl rfl (Nat.le_of_ble_eq_true rfl) dX12_minutesOf_7 (fun v4 M5 rv4 hI p6 => ?_)
  obtain ⟨hI, hW⟩ := hI
  obtain ⟨⟨av4, bv4⟩, rfl⟩ := p6
  refine z_aload_n F dX12_minutesOf_10 rfl (q := 0) rfl ?_
  refine rf_X12_9 F gs_131 rfl dX12_minutesOf_11 ?_
  refine z_bipush F dX12_minutesOf_14 (by decide +kernel) ?_
  refine z_iload_n F dX12_minutesOf_16 rfl (q := 1) rfl ?_
  refine z_iadd F dX12_minutesOf_17 ?_
  refine z_iald F hI gs_132 (by omega) (by omega) (by decide) (bd_132.trans (kn_any (by omega) (by omega))) dX12_minutesOf_18 (fun v7 (ev7 : v7 = M 132 _) av7 bv7 => ?_)
  refine z_imul F dX12_minutesOf_19 ?_
  refine z_wrap (fun v8 rv8 _ => ?_)
  exact hret _ _ 20 _ (by omega) ⟨hI, hW⟩ ⟨⟨by omega, by omega⟩, rfl⟩ dX12_minutesOf_20
set_option maxRecDepth 4000 in
theorem k_X12_eventBehind (l : Launch) (M : Mem) (hJ : Iw M) (x0 : Int) (hx0a : (-1) ≤ x0) (hx0b : x0 ≤ 5) : CI l yX12_eventBehind cX12_eventBehind 5 (some .int) 1 (fun ad => [.ref (ad 131), ii x0]) M (fun z M' => ((-1) ≤ z ∧ z ≤ 5) ∧ M = M') := by
  obtain ⟨hI, hW⟩ := hJ
  refine en_i (by decide +kernel) (fun ad => by exact Nat.le_of_ble_eq_true rfl) (fun D cy ad A p e s m args below meth c Q F hret => ?_)
  refine z_eq (ls' := [(0, .ref (ad 131)), (1, ii x0)]) rfl rfl rfl ?_
  refine z_iconst F dX12_eventBehind_0 ?_
  refine z_istore_n F dX12_eventBehind_1 rfl (by decide) (ls' := [(2, ii (-1)), (0, .ref (ad 131)), (1, ii x0)]) rfl ?_
  refine z_iconst F dX12_eventBehind_2 ?_
  refine z_istore_n F dX12_eventBehind_3 rfl (by decide) (ls' := [(3, ii 0), (2, ii (-1)), (0, .ref (ad 131)), (1, ii x0)]) rfl ?_
  refine z_loc [2, 3, 1, 0] (ls' := [(0, .ref (ad 131)), (1, ii x0), (2, ii (-1)), (3, ii 0)]) rfl ?_
  suffices key4 : ∀ (n : Nat) (y2 : Int) (y3 : Int), (-1) ≤ y2 → y2 ≤ 5 → 0 ≤ y3 → y3 ≤ 6 → 6 - y3 < (n : Int) → Z D cy ad p l e (RMh 1) s m args below meth c A 5 0 0 Q 4 [(0, .ref (ad 131)), (1, ii x0), (2, ii y2), (3, ii y3)] [] M from key4 7 (-1) 0 (by omega) (by omega) (by omega) (by omega) (by omega)
  intro n4
  induction n4 with
  | zero => intro y2 y3 ay2 by2 ay3 by3 hn4; exfalso; omega
  | succ n4 ih4 =>
    intro y2 y3 ay2 by2 ay3 by3 hn4
    refine z_iload_n F dX12_eventBehind_4 rfl (q := 3) rfl ?_
    refine z_aload_n F dX12_eventBehind_5 rfl (q := 0) rfl ?_
    refine rf_X12_9 F gs_131 rfl dX12_eventBehind_6 ?_
    refine z_iconst F dX12_eventBehind_9 ?_
    refine z_iald F hI gs_132 (by omega) (by omega) (by decide) (show Bd 132 4 = (0, 6) from rfl) dX12_eventBehind_10 (fun v4 (ev4 : v4 = M 132 4) av4 bv4 => ?_)
    refine z_icmp_ge (tgt := 108) F dX12_eventBehind_11 (by decide +kernel) (by omega) (by omega) (fun c5 => ?_) (fun c5 => ?_)
    · refine z_iload_n F dX12_eventBehind_108 rfl (q := 2) rfl ?_
      exact hret _ _ 109 _ (by omega) ⟨hI, hW⟩ ⟨⟨by omega, by omega⟩, rfl⟩ dX12_eventBehind_109
    · refine z_iload_n F dX12_eventBehind_14 rfl (q := 1) rfl ?_
      refine z_iconst F dX12_eventBehind_15 ?_
      refine z_icmp_ne (tgt := 23) F dX12_eventBehind_16 (by decide +kernel) (by omega) (by omega) (fun c6 => ?_) (fun c6 => ?_)
      · refine z_aload_n F dX12_eventBehind_23 rfl (q := 0) rfl ?_
        refine rf_X12_9 F gs_131 rfl dX12_eventBehind_24 ?_
        refine z_sipush F dX12_eventBehind_27 (by decide +kernel) ?_
        refine z_iconst F dX12_eventBehind_30 ?_
        refine z_iload_n F dX12_eventBehind_31 rfl (q := 3) rfl ?_
        refine z_imul F dX12_eventBehind_32 ?_
        refine z_iadd F dX12_eventBehind_33 ?_
        refine z_iald F hI gs_132 (by omega) (by omega) (by decide) (bd_132.trans (kn_ev0 (by omega) (by omega) (by omega))) dX12_eventBehind_34 (fun v7 (ev7 : v7 = M 132 _) av7 bv7 => ?_)
        refine z_aload_n F dX12_eventBehind_35 rfl (q := 0) rfl ?_
        refine rf_X12_9 F gs_131 rfl dX12_eventBehind_36 ?_
        refine z_sipush F dX12_eventBehind_39 (by decide +kernel) ?_
        refine z_iconst F dX12_eventBehind_42 ?_
        refine z_iload_n F dX12_eventBehind_43 rfl (q := 1) rfl ?_
        refine z_imul F dX12_eventBehind_44 ?_
        refine z_iadd F dX12_eventBehind_45 ?_
        refine z_iald F hI gs_132 (by omega) (by omega) (by decide) (bd_132.trans (kn_ev0 (by omega) (by omega) (by omega))) dX12_eventBehind_46 (fun v8 (ev8 : v8 = M 132 _) av8 bv8 => ?_)
        refine z_isub F dX12_eventBehind_47 ?_
        refine z_nm (fun v9 ev9 => ?_)
        refine z_istore F dX12_eventBehind_48 (by decide) (ls' := [(4, ii v9), (0, .ref (ad 131)), (1, ii x0), (2, ii y2), (3, ii y3)]) rfl ?_
        refine z_iload F dX12_eventBehind_50 (q := 0) rfl ?_
        refine z_if_lt (tgt := 102) F dX12_eventBehind_52 (by decide +kernel) (by omega) (fun c10 => ?_) (fun c10 => ?_)
        · refine z_iincN F dX12_eventBehind_102 (q := 4) rfl (by decide) (fun v11 ev11 => ?_)
          refine z_eq (ls' := [(3, ii v11), (4, ii v9), (0, .ref (ad 131)), (1, ii x0), (2, ii y2)]) rfl rfl rfl ?_
          refine z_goto (tgt := 4) F dX12_eventBehind_105 (by decide +kernel) ?_
          refine z_loc [2, 3, 4, 0] (ls' := [(0, .ref (ad 131)), (1, ii x0), (2, ii y2), (3, ii v11)]) rfl ?_
          exact ih4 y2 v11 (by omega) (by omega) (by omega) (by omega) (by omega)
        · refine z_iload F dX12_eventBehind_55 (q := 0) rfl ?_
          refine z_if_ne (tgt := 68) F dX12_eventBehind_57 (by decide +kernel) (by omega) (fun c12 => ?_) (fun c12 => ?_)
          · refine z_iload_n F dX12_eventBehind_68 rfl (q := 3) rfl ?_
            refine z_iconst F dX12_eventBehind_69 ?_
            refine z_icmp_eq (tgt := 100) F dX12_eventBehind_70 (by decide +kernel) (by omega) (by omega) (fun c13 => ?_) (fun c13 => ?_)
            · refine z_iload_n F dX12_eventBehind_100 rfl (q := 4) rfl ?_
              refine z_istore_n F dX12_eventBehind_101 rfl (by decide) (ls' := [(2, ii y3), (4, ii v9), (0, .ref (ad 131)), (1, ii x0), (3, ii y3)]) rfl ?_
              refine z_iincN F dX12_eventBehind_102 (q := 4) rfl (by decide) (fun v14 ev14 => ?_)
              refine z_eq (ls' := [(3, ii v14), (2, ii y3), (4, ii v9), (0, .ref (ad 131)), (1, ii x0)]) rfl rfl rfl ?_
              refine z_goto (tgt := 4) F dX12_eventBehind_105 (by decide +kernel) ?_
              refine z_loc [3, 4, 1, 0] (ls' := [(0, .ref (ad 131)), (1, ii x0), (2, ii y3), (3, ii v14)]) rfl ?_
              exact ih4 y3 v14 (by omega) (by omega) (by omega) (by omega) (by omega)
            · refine z_aload_n F dX12_eventBehind_73 rfl (q := 1) rfl ?_
              refine rf_X12_9 F gs_131 rfl dX12_eventBehind_74 ?_
              refine z_sipush F dX12_eventBehind_77 (by decide +kernel) ?_
              refine z_iconst F dX12_eventBehind_80 ?_
              refine z_iload_n F dX12_eventBehind_81 rfl (q := 4) rfl ?_
              refine z_imul F dX12_eventBehind_82 ?_
              refine z_iadd F dX12_eventBehind_83 ?_
              refine z_iald F hI gs_132 (by omega) (by omega) (by decide) (bd_132.trans (kn_ev0 (by omega) (by omega) (by omega))) dX12_eventBehind_84 (fun v15 (ev15 : v15 = M 132 _) av15 bv15 => ?_)
              have zv15 : v7 = v15 := ev7.trans ev15.symm
              subst zv15
              refine z_aload_n F dX12_eventBehind_85 rfl (q := 1) rfl ?_
              refine rf_X12_9 F gs_131 rfl dX12_eventBehind_86 ?_
              refine z_sipush F dX12_eventBehind_89 (by decide +kernel) ?_
              refine z_iconst F dX12_eventBehind_92 ?_
              refine z_iload_n F dX12_eventBehind_93 rfl (q := 3) rfl ?_
              refine z_imul F dX12_eventBehind_94 ?_
              refine z_iadd F dX12_eventBehind_95 ?_
              refine z_iald F hI gs_132 (by omega) (by omega) (by decide) (bd_132.trans (kn_ev0 (by omega) (by omega) (by omega))) dX12_eventBehind_96 (fun v16 (ev16 : v16 = M 132 _) av16 bv16 => ?_)
              refine z_icmp_ge (tgt := 102) F dX12_eventBehind_97 (by decide +kernel) (by omega) (by omega) (fun c17 => ?_) (fun c17 => ?_)
              · refine z_iincN F dX12_eventBehind_102 (q := 4) rfl (by decide) (fun v18 ev18 => ?_)
                refine z_eq (ls' := [(3, ii v18), (4, ii v9), (0, .ref (ad 131)), (1, ii x0), (2, ii y2)]) rfl rfl rfl ?_
                refine z_goto (tgt := 4) F dX12_eventBehind_105 (by decide +kernel) ?_
                refine z_loc [2, 3, 4, 0] (ls' := [(0, .ref (ad 131)), (1, ii x0), (2, ii y2), (3, ii v18)]) rfl ?_
                exact ih4 y2 v18 (by omega) (by omega) (by omega) (by omega) (by omega)
              · refine z_iload_n F dX12_eventBehind_100 rfl (q := 4) rfl ?_
                refine z_istore_n F dX12_eventBehind_101 rfl (by decide) (ls' := [(2, ii y3), (4, ii v9), (0, .ref (ad 131)), (1, ii x0), (3, ii y3)]) rfl ?_
                refine z_iincN F dX12_eventBehind_102 (q := 4) rfl (by decide) (fun v19 ev19 => ?_)
                refine z_eq (ls' := [(3, ii v19), (2, ii y3), (4, ii v9), (0, .ref (ad 131)), (1, ii x0)]) rfl rfl rfl ?_
                refine z_goto (tgt := 4) F dX12_eventBehind_105 (by decide +kernel) ?_
                refine z_loc [3, 4, 1, 0] (ls' := [(0, .ref (ad 131)), (1, ii x0), (2, ii y3), (3, ii v19)]) rfl ?_
                exact ih4 y3 v19 (by omega) (by omega) (by omega) (by omega) (by omega)
          · refine z_iload_n F dX12_eventBehind_60 rfl (q := 4) rfl ?_
            refine z_iload_n F dX12_eventBehind_61 rfl (q := 2) rfl ?_
            refine z_icmp_gt (tgt := 68) F dX12_eventBehind_62 (by decide +kernel) (by omega) (by omega) (fun c20 => ?_) (fun c20 => ?_)
            · refine z_iload_n F dX12_eventBehind_68 rfl (q := 3) rfl ?_
              refine z_iconst F dX12_eventBehind_69 ?_
              refine z_icmp_eq (tgt := 100) F dX12_eventBehind_70 (by decide +kernel) (by omega) (by omega) (fun c21 => ?_) (fun c21 => ?_)
              · refine z_iload_n F dX12_eventBehind_100 rfl (q := 4) rfl ?_
                refine z_istore_n F dX12_eventBehind_101 rfl (by decide) (ls' := [(2, ii y3), (4, ii v9), (0, .ref (ad 131)), (1, ii x0), (3, ii y3)]) rfl ?_
                refine z_iincN F dX12_eventBehind_102 (q := 4) rfl (by decide) (fun v22 ev22 => ?_)
                refine z_eq (ls' := [(3, ii v22), (2, ii y3), (4, ii v9), (0, .ref (ad 131)), (1, ii x0)]) rfl rfl rfl ?_
                refine z_goto (tgt := 4) F dX12_eventBehind_105 (by decide +kernel) ?_
                refine z_loc [3, 4, 1, 0] (ls' := [(0, .ref (ad 131)), (1, ii x0), (2, ii y3), (3, ii v22)]) rfl ?_
                exact ih4 y3 v22 (by omega) (by omega) (by omega) (by omega) (by omega)
              · refine z_aload_n F dX12_eventBehind_73 rfl (q := 1) rfl ?_
                refine rf_X12_9 F gs_131 rfl dX12_eventBehind_74 ?_
                refine z_sipush F dX12_eventBehind_77 (by decide +kernel) ?_
                refine z_iconst F dX12_eventBehind_80 ?_
                refine z_iload_n F dX12_eventBehind_81 rfl (q := 4) rfl ?_
                refine z_imul F dX12_eventBehind_82 ?_
                refine z_iadd F dX12_eventBehind_83 ?_
                refine z_iald F hI gs_132 (by omega) (by omega) (by decide) (bd_132.trans (kn_ev0 (by omega) (by omega) (by omega))) dX12_eventBehind_84 (fun v23 (ev23 : v23 = M 132 _) av23 bv23 => ?_)
                have zv23 : v7 = v23 := ev7.trans ev23.symm
                subst zv23
                refine z_aload_n F dX12_eventBehind_85 rfl (q := 1) rfl ?_
                refine rf_X12_9 F gs_131 rfl dX12_eventBehind_86 ?_
                refine z_sipush F dX12_eventBehind_89 (by decide +kernel) ?_
                refine z_iconst F dX12_eventBehind_92 ?_
                refine z_iload_n F dX12_eventBehind_93 rfl (q := 3) rfl ?_
                refine z_imul F dX12_eventBehind_94 ?_
                refine z_iadd F dX12_eventBehind_95 ?_
                refine z_iald F hI gs_132 (by omega) (by omega) (by decide) (bd_132.trans (kn_ev0 (by omega) (by omega) (by omega))) dX12_eventBehind_96 (fun v24 (ev24 : v24 = M 132 _) av24 bv24 => ?_)
                refine z_icmp_ge (tgt := 102) F dX12_eventBehind_97 (by decide +kernel) (by omega) (by omega) (fun c25 => ?_) (fun c25 => ?_)
                · refine z_iincN F dX12_eventBehind_102 (q := 4) rfl (by decide) (fun v26 ev26 => ?_)
                  refine z_eq (ls' := [(3, ii v26), (4, ii v9), (0, .ref (ad 131)), (1, ii x0), (2, ii y2)]) rfl rfl rfl ?_
                  refine z_goto (tgt := 4) F dX12_eventBehind_105 (by decide +kernel) ?_
                  refine z_loc [2, 3, 4, 0] (ls' := [(0, .ref (ad 131)), (1, ii x0), (2, ii y2), (3, ii v26)]) rfl ?_
                  exact ih4 y2 v26 (by omega) (by omega) (by omega) (by omega) (by omega)
                · refine z_iload_n F dX12_eventBehind_100 rfl (q := 4) rfl ?_
                  refine z_istore_n F dX12_eventBehind_101 rfl (by decide) (ls' := [(2, ii y3), (4, ii v9), (0, .ref (ad 131)), (1, ii x0), (3, ii y3)]) rfl ?_
                  refine z_iincN F dX12_eventBehind_102 (q := 4) rfl (by decide) (fun v27 ev27 => ?_)
                  refine z_eq (ls' := [(3, ii v27), (2, ii y3), (4, ii v9), (0, .ref (ad 131)), (1, ii x0)]) rfl rfl rfl ?_
                  refine z_goto (tgt := 4) F dX12_eventBehind_105 (by decide +kernel) ?_
                  refine z_loc [3, 4, 1, 0] (ls' := [(0, .ref (ad 131)), (1, ii x0), (2, ii y3), (3, ii v27)]) rfl ?_
                  exact ih4 y3 v27 (by omega) (by omega) (by omega) (by omega) (by omega)
            · refine z_goto (tgt := 102) F dX12_eventBehind_65 (by decide +kernel) ?_
              refine z_iincN F dX12_eventBehind_102 (q := 4) rfl (by decide) (fun v28 ev28 => ?_)
              refine z_eq (ls' := [(3, ii v28), (4, ii v9), (0, .ref (ad 131)), (1, ii x0), (2, ii y2)]) rfl rfl rfl ?_
              refine z_goto (tgt := 4) F dX12_eventBehind_105 (by decide +kernel) ?_
              refine z_loc [2, 3, 4, 0] (ls' := [(0, .ref (ad 131)), (1, ii x0), (2, ii y2), (3, ii v28)]) rfl ?_
              exact ih4 y2 v28 (by omega) (by omega) (by omega) (by omega) (by omega)
      · refine z_iconst F dX12_eventBehind_19 ?_
        refine z_goto (tgt := 48) F dX12_eventBehind_20 (by decide +kernel) ?_
        refine z_istore F dX12_eventBehind_48 (by decide) (ls' := [(4, ii 1), (0, .ref (ad 131)), (1, ii x0), (2, ii y2), (3, ii y3)]) rfl ?_
        refine z_iload F dX12_eventBehind_50 (q := 0) rfl ?_
        refine z_if_lt (tgt := 102) F dX12_eventBehind_52 (by decide +kernel) (by omega) (fun c29 => by exfalso; omega) (fun c29 => ?_)
        refine z_iload F dX12_eventBehind_55 (q := 0) rfl ?_
        refine z_if_ne (tgt := 68) F dX12_eventBehind_57 (by decide +kernel) (by omega) (fun c30 => ?_) (fun c30 => by exfalso; omega)
        refine z_iload_n F dX12_eventBehind_68 rfl (q := 3) rfl ?_
        refine z_iconst F dX12_eventBehind_69 ?_
        refine z_icmp_eq (tgt := 100) F dX12_eventBehind_70 (by decide +kernel) (by omega) (by omega) (fun c31 => ?_) (fun c31 => ?_)
        · refine z_iload_n F dX12_eventBehind_100 rfl (q := 4) rfl ?_
          refine z_istore_n F dX12_eventBehind_101 rfl (by decide) (ls' := [(2, ii y3), (4, ii 1), (0, .ref (ad 131)), (1, ii x0), (3, ii y3)]) rfl ?_
          refine z_iincN F dX12_eventBehind_102 (q := 4) rfl (by decide) (fun v32 ev32 => ?_)
          refine z_eq (ls' := [(3, ii v32), (2, ii y3), (4, ii 1), (0, .ref (ad 131)), (1, ii x0)]) rfl rfl rfl ?_
          refine z_goto (tgt := 4) F dX12_eventBehind_105 (by decide +kernel) ?_
          refine z_loc [3, 4, 1, 0] (ls' := [(0, .ref (ad 131)), (1, ii x0), (2, ii y3), (3, ii v32)]) rfl ?_
          exact ih4 y3 v32 (by omega) (by omega) (by omega) (by omega) (by omega)
        · refine z_aload_n F dX12_eventBehind_73 rfl (q := 1) rfl ?_
          refine rf_X12_9 F gs_131 rfl dX12_eventBehind_74 ?_
          refine z_sipush F dX12_eventBehind_77 (by decide +kernel) ?_
          refine z_iconst F dX12_eventBehind_80 ?_
          refine z_iload_n F dX12_eventBehind_81 rfl (q := 4) rfl ?_
          refine z_imul F dX12_eventBehind_82 ?_
          refine z_iadd F dX12_eventBehind_83 ?_
          refine z_iald F hI gs_132 (by omega) (by omega) (by decide) (bd_132.trans (kn_ev0 (by omega) (by omega) (by omega))) dX12_eventBehind_84 (fun v33 (ev33 : v33 = M 132 _) av33 bv33 => ?_)
          refine z_aload_n F dX12_eventBehind_85 rfl (q := 1) rfl ?_
          refine rf_X12_9 F gs_131 rfl dX12_eventBehind_86 ?_
          refine z_sipush F dX12_eventBehind_89 (by decide +kernel) ?_
          refine z_iconst F dX12_eventBehind_92 ?_
          refine z_iload_n F dX12_eventBehind_93 rfl (q := 3) rfl ?_
          refine z_imul F dX12_eventBehind_94 ?_
          refine z_iadd F dX12_eventBehind_95 ?_
          refine z_iald F hI gs_132 (by omega) (by omega) (by decide) (bd_132.trans (kn_ev0 (by omega) (by omega) (by omega))) dX12_eventBehind_96 (fun v34 (ev34 : v34 = M 132 _) av34 bv34 => ?_)
          refine z_icmp_ge (tgt := 102) F dX12_eventBehind_97 (by decide +kernel) (by omega) (by omega) (fun c35 => ?_) (fun c35 => ?_)
          · refine z_iincN F dX12_eventBehind_102 (q := 4) rfl (by decide) (fun v36 ev36 => ?_)
            refine z_eq (ls' := [(3, ii v36), (4, ii 1), (0, .ref (ad 131)), (1, ii x0), (2, ii y2)]) rfl rfl rfl ?_
            refine z_goto (tgt := 4) F dX12_eventBehind_105 (by decide +kernel) ?_
            refine z_loc [2, 3, 4, 0] (ls' := [(0, .ref (ad 131)), (1, ii x0), (2, ii y2), (3, ii v36)]) rfl ?_
            exact ih4 y2 v36 (by omega) (by omega) (by omega) (by omega) (by omega)
          · refine z_iload_n F dX12_eventBehind_100 rfl (q := 4) rfl ?_
            refine z_istore_n F dX12_eventBehind_101 rfl (by decide) (ls' := [(2, ii y3), (4, ii 1), (0, .ref (ad 131)), (1, ii x0), (3, ii y3)]) rfl ?_
            refine z_iincN F dX12_eventBehind_102 (q := 4) rfl (by decide) (fun v37 ev37 => ?_)
            refine z_eq (ls' := [(3, ii v37), (2, ii y3), (4, ii 1), (0, .ref (ad 131)), (1, ii x0)]) rfl rfl rfl ?_
            refine z_goto (tgt := 4) F dX12_eventBehind_105 (by decide +kernel) ?_
            refine z_loc [3, 4, 1, 0] (ls' := [(0, .ref (ad 131)), (1, ii x0), (2, ii y3), (3, ii v37)]) rfl ?_
            exact ih4 y3 v37 (by omega) (by omega) (by omega) (by omega) (by omega)
set_option maxRecDepth 4000 in
theorem k_X12_change (l : Launch) (M : Mem) (hJ : Iw M) (x0 : Int) (hx0a : (-2147483648) ≤ x0) (hx0b : x0 ≤ 2147483647) (x1 : Int) (hx1a : (-2147483648) ≤ x1) (hx1b : x1 ≤ 2147483647) : CI l yX12_change cX12_change 3 (some .int) 3 (fun ad => [.ref (ad 131), ii x0, ii x1]) M (fun z M' => ((-2147483648) ≤ z ∧ z ≤ 2147483647) ∧ Fr [131, 132] M M') := by
  obtain ⟨hI, hW⟩ := hJ
  have hF : Fr [131, 132] M M := Fr.rf
  refine en_i (by decide +kernel) (fun ad => by exact Nat.le_of_ble_eq_true rfl) (fun D cy ad A p e s m args below meth c Q F hret => ?_)
  refine z_eq (ls' := [(0, .ref (ad 131)), (1, ii x0), (2, ii x1)]) rfl rfl rfl ?_
  refine z_aload_n F dX12_change_0 rfl (q := 0) rfl ?_
  refine z_aload_n F dX12_change_1 rfl (q := 0) rfl ?_
  refine z_iload_n F dX12_change_2 rfl (q := 1) rfl ?_
  refine z_i2l F dX12_change_3 (by omega) ?_
  refine zv_i (rest := [.ref (ad 131)]) F (k_X12_isThing l M ⟨hI, hW⟩ x0 (by omega) (by omega)) cs_X12_335 (T := TX12) (N := 44) (ci := 12) rfl gs_131 (by decide) (by decide) rfl rfl rfl (Nat.le_of_ble_eq_true rfl) dX12_change_4 (fun v1 M2 rv1 hI p3 => ?_)
  obtain ⟨hI, hW⟩ := hI
  obtain ⟨⟨av1, bv1⟩, rfl, xp3⟩ := p3
  refine z_if_ne (tgt := 14) F dX12_change_7 (by decide +kernel) (by omega) (fun c4 => ?_) (fun c4 => ?_)
  · refine z_iload_n F dX12_change_14 rfl (q := 2) rfl ?_
    refine z_i2l F dX12_change_15 (by omega) ?_
    refine z_ldc2 (x := (-99)) F dX12_change_16 (gin lm_80 rfl) (by decide +kernel) ?_
    refine z_ldc2 (x := 99) F dX12_change_19 (gin lm_81 rfl) (by decide +kernel) ?_
    refine zs_i (rest := [.ref (ad 131)]) F (k_X12_within l M ⟨hI, hW⟩ x1 (by omega) (by omega) (-99) (by omega) (by omega) 99 (by omega) (by omega)) cs_X12_137 (by decide) (by decide) rfl rfl rfl (Nat.le_of_ble_eq_true rfl) dX12_change_22 (fun v5 M6 rv5 hI p7 => ?_)
    obtain ⟨hI, hW⟩ := hI
    obtain ⟨⟨av5, bv5⟩, rfl, xp7⟩ := p7
    refine z_if_eq (tgt := 32) F dX12_change_25 (by decide +kernel) (by omega) (fun c8 => ?_) (fun c8 => ?_)
    · refine z_iconst F dX12_change_32 ?_
      refine pf_X12_73 F hI gs_131 rfl bd_131_4 rfl rfl dX12_change_33 (by omega) (by omega) (fun M10 hI sf9 f9 => ?_)
      have hF := hF.wr f9 (by decide) (by decide)
      have hW : WFk M10 := hW.site f9 (by decide)
      refine z_aload_n F dX12_change_36 rfl (q := 0) rfl ?_
      refine gf_X12_73 F hI gs_131 rfl bd_131_4 dX12_change_37 (fun v11 ev11 av11 bv11 => ?_)
      have zv11 : 2 = v11 := sf9.symm.trans ev11.symm
      subst zv11
      refine z_if_le (tgt := 45) F dX12_change_40 (by decide +kernel) (by omega) (fun c12 => by exfalso; omega) (fun c12 => ?_)
      refine z_iconst F dX12_change_43 ?_
      exact hret _ _ 44 _ (by omega) ⟨hI, hW⟩ ⟨⟨by omega, by omega⟩, hF⟩ dX12_change_44
    · refine z_iconst F dX12_change_28 ?_
      refine z_goto (tgt := 33) F dX12_change_29 (by decide +kernel) ?_
      refine pf_X12_73 F hI gs_131 rfl bd_131_4 rfl rfl dX12_change_33 (by omega) (by omega) (fun M14 hI sf13 f13 => ?_)
      have hF := hF.wr f13 (by decide) (by decide)
      have hW : WFk M14 := hW.site f13 (by decide)
      refine z_aload_n F dX12_change_36 rfl (q := 0) rfl ?_
      refine gf_X12_73 F hI gs_131 rfl bd_131_4 dX12_change_37 (fun v15 ev15 av15 bv15 => ?_)
      have zv15 : 0 = v15 := sf13.symm.trans ev15.symm
      subst zv15
      refine z_if_le (tgt := 45) F dX12_change_40 (by decide +kernel) (by omega) (fun c16 => ?_) (fun c16 => by exfalso; omega)
      refine z_aload_n F dX12_change_45 rfl (q := 0) rfl ?_
      refine zv_v (rest := []) F (k_X12_keeps l M14 ⟨hI, hW⟩) cs_X12_375 (T := TX12) (N := 44) (ci := 12) rfl gs_131 (by decide) (by decide) rfl rfl rfl (Nat.le_of_ble_eq_true rfl) dX12_change_46 (fun M17 hI p18 => ?_)
      obtain ⟨hI, hW⟩ := hI
      have fp18 := p18
      have hF := hF.call fp18 (by decide)
      refine z_aload_n F dX12_change_49 rfl (q := 0) rfl ?_
      refine z_iload_n F dX12_change_50 rfl (q := 1) rfl ?_
      refine z_iload_n F dX12_change_51 rfl (q := 2) rfl ?_
      refine zv_v (rest := []) F (k_X12_adds l M17 ⟨hI, hW⟩ x0 (by omega) (by omega) x1 (by omega) (by omega)) cs_X12_367 (T := TX12) (N := 44) (ci := 12) rfl gs_131 (by decide) (by decide) rfl rfl rfl (Nat.le_of_ble_eq_true rfl) dX12_change_52 (fun M19 hI p20 => ?_)
      obtain ⟨hI, hW⟩ := hI
      have fp20 := p20
      have hF := hF.call fp20 (by decide)
      refine z_aload_n F dX12_change_55 rfl (q := 0) rfl ?_
      refine rf_X12_9 F gs_131 rfl dX12_change_56 ?_
      refine z_bipush F dX12_change_59 (by decide +kernel) ?_
      refine z_iload_n F dX12_change_61 rfl (q := 1) rfl ?_
      refine z_iadd F dX12_change_62 ?_
      refine z_iald F hI gs_132 (by omega) (by omega) (by decide) (bd_132.trans (kn_any (by omega) (by omega))) dX12_change_63 (fun v21 (ev21 : v21 = M19 132 _) av21 bv21 => ?_)
      exact hret _ _ 64 _ (by omega) ⟨hI, hW⟩ ⟨⟨by omega, by omega⟩, hF⟩ dX12_change_64
  · refine z_iconst F dX12_change_10 ?_
    refine z_goto (tgt := 33) F dX12_change_11 (by decide +kernel) ?_
    refine pf_X12_73 F hI gs_131 rfl bd_131_4 rfl rfl dX12_change_33 (by omega) (by omega) (fun M23 hI sf22 f22 => ?_)
    have hF := hF.wr f22 (by decide) (by decide)
    have hW : WFk M23 := hW.site f22 (by decide)
    refine z_aload_n F dX12_change_36 rfl (q := 0) rfl ?_
    refine gf_X12_73 F hI gs_131 rfl bd_131_4 dX12_change_37 (fun v24 ev24 av24 bv24 => ?_)
    have zv24 : 1 = v24 := sf22.symm.trans ev24.symm
    subst zv24
    refine z_if_le (tgt := 45) F dX12_change_40 (by decide +kernel) (by omega) (fun c25 => by exfalso; omega) (fun c25 => ?_)
    refine z_iconst F dX12_change_43 ?_
    exact hret _ _ 44 _ (by omega) ⟨hI, hW⟩ ⟨⟨by omega, by omega⟩, hF⟩ dX12_change_44
set_option maxRecDepth 4000 in
theorem k_X12_why (l : Launch) (M : Mem) (hJ : Iw M) (x0 : Int) (hx0a : (-2147483648) ≤ x0) (hx0b : x0 ≤ 2147483647) (x1 : Int) (hx1a : (-2147483648) ≤ x1) (hx1b : x1 ≤ 2147483647) : CI l yX12_why cX12_why 3 (some .int) 4 (fun ad => [.ref (ad 131), ii x0, ii x1]) M (fun z M' => (0 ≤ z ∧ z ≤ 4) ∧ Fr [131] M M') := by
  obtain ⟨hI, hW⟩ := hJ
  have hF : Fr [131] M M := Fr.rf
  refine en_i (by decide +kernel) (fun ad => by exact Nat.le_of_ble_eq_true rfl) (fun D cy ad A p e s m args below meth c Q F hret => ?_)
  refine z_eq (ls' := [(0, .ref (ad 131)), (1, ii x0), (2, ii x1)]) rfl rfl rfl ?_
  refine z_aload_n F dX12_why_0 rfl (q := 0) rfl ?_
  refine z_iconst F dX12_why_1 ?_
  refine pf_X12_73 F hI gs_131 rfl bd_131_4 rfl rfl dX12_why_2 (by omega) (by omega) (fun M2 hI sf1 f1 => ?_)
  have hF := hF.wr f1 (by decide) (by decide)
  have hW : WFk M2 := hW.site f1 (by decide)
  refine z_aload_n F dX12_why_5 rfl (q := 0) rfl ?_
  refine z_iload_n F dX12_why_6 rfl (q := 1) rfl ?_
  refine z_i2l F dX12_why_7 (by omega) ?_
  refine z_iload_n F dX12_why_8 rfl (q := 2) rfl ?_
  refine z_i2l F dX12_why_9 (by omega) ?_
  refine zv_i (rest := []) F (k_X12_whyNot l M2 ⟨hI, hW⟩ x0 (by omega) (by omega) x1 (by omega) (by omega)) cs_X12_378 (T := TX12) (N := 44) (ci := 12) rfl gs_131 (by decide) (by decide) rfl rfl rfl (Nat.le_of_ble_eq_true rfl) dX12_why_10 (fun v3 M4 rv3 hI p5 => ?_)
  obtain ⟨hI, hW⟩ := hI
  obtain ⟨⟨av3, bv3⟩, rfl, xp5⟩ := p5
  exact hret _ _ 13 _ (by omega) ⟨hI, hW⟩ ⟨⟨by omega, by omega⟩, hF⟩ dX12_why_13
set_option maxRecDepth 4000 in
theorem k_X12_undo (l : Launch) (M : Mem) (hJ : Iw M) (x0 : Int) (hx0a : (-2147483648) ≤ x0) (hx0b : x0 ≤ 2147483647) : CI l yX12_undo cX12_undo 3 (some .int) 2 (fun ad => [.ref (ad 131), ii x0]) M (fun z M' => (0 ≤ z ∧ z ≤ 11) ∧ Fr [131, 132] M M') := by
  obtain ⟨hI, hW⟩ := hJ
  have hF : Fr [131, 132] M M := Fr.rf
  refine en_i (by decide +kernel) (fun ad => by exact Nat.le_of_ble_eq_true rfl) (fun D cy ad A p e s m args below meth c Q F hret => ?_)
  refine z_eq (ls' := [(0, .ref (ad 131)), (1, ii x0)]) rfl rfl rfl ?_
  refine z_aload_n F dX12_undo_0 rfl (q := 0) rfl ?_
  refine z_iconst F dX12_undo_1 ?_
  refine pf_X12_73 F hI gs_131 rfl bd_131_4 rfl rfl dX12_undo_2 (by omega) (by omega) (fun M2 hI sf1 f1 => ?_)
  have hF := hF.wr f1 (by decide) (by decide)
  have hW : WFk M2 := hW.site f1 (by decide)
  refine z_iload_n F dX12_undo_5 rfl (q := 1) rfl ?_
  refine z_i2l F dX12_undo_6 (by omega) ?_
  refine z_lconst (x := 1) F dX12_undo_7 (by decide +kernel) ?_
  refine z_ldc2 (x := 12) F dX12_undo_8 (gin lm_94 rfl) (by decide +kernel) ?_
  refine zs_i (rest := []) F (k_X12_within l M2 ⟨hI, hW⟩ x0 (by omega) (by omega) 1 (by omega) (by omega) 12 (by omega) (by omega)) cs_X12_137 (by decide) (by decide) rfl rfl rfl (Nat.le_of_ble_eq_true rfl) dX12_undo_11 (fun v3 M4 rv3 hI p5 => ?_)
  obtain ⟨hI, hW⟩ := hI
  obtain ⟨⟨av3, bv3⟩, rfl, xp5⟩ := p5
  refine z_if_eq (tgt := 28) F dX12_undo_14 (by decide +kernel) (by omega) (fun c6 => ?_) (fun c6 => ?_)
  · refine z_aload_n F dX12_undo_28 rfl (q := 0) rfl ?_
    refine z_iconst F dX12_undo_29 ?_
    refine zv_i (rest := []) F (k_X12_fails l M2 ⟨hI, hW⟩ 1 (by omega) (by omega)) cs_X12_262 (T := TX12) (N := 44) (ci := 12) rfl gs_131 (by decide) (by decide) rfl rfl rfl (Nat.le_of_ble_eq_true rfl) dX12_undo_30 (fun v7 M8 rv7 hI p9 => ?_)
    obtain ⟨hI, hW⟩ := hI
    obtain ⟨⟨av7, bv7⟩, fp9⟩ := p9
    have hF := hF.call fp9 (by decide)
    exact hret _ _ 33 _ (by omega) ⟨hI, hW⟩ ⟨⟨by omega, by omega⟩, hF⟩ dX12_undo_33
  · refine z_iload_n F dX12_undo_17 rfl (q := 1) rfl ?_
    refine z_aload_n F dX12_undo_18 rfl (q := 0) rfl ?_
    refine rf_X12_9 F gs_131 rfl dX12_undo_19 ?_
    refine z_bipush F dX12_undo_22 (by decide +kernel) ?_
    refine z_iald F hI gs_132 (by omega) (by omega) (by decide) (show Bd 132 7 = (0, 12) from rfl) dX12_undo_24 (fun v10 (ev10 : v10 = M2 132 7) av10 bv10 => ?_)
    refine z_icmp_le (tgt := 34) F dX12_undo_25 (by decide +kernel) (by omega) (by omega) (fun c11 => ?_) (fun c11 => ?_)
    · refine z_aload_n F dX12_undo_34 rfl (q := 0) rfl ?_
      refine rf_X12_9 F gs_131 rfl dX12_undo_35 ?_
      refine z_bipush F dX12_undo_38 (by decide +kernel) ?_
      refine z_dup2 F dX12_undo_40 rfl rfl ?_
      refine z_iald F hI gs_132 (by omega) (by omega) (by decide) (show Bd 132 7 = (0, 12) from rfl) dX12_undo_41 (fun v12 (ev12 : v12 = M2 132 7) av12 bv12 => ?_)
      have zv12 : v10 = v12 := ev10.trans ev12.symm
      subst zv12
      refine z_iload_n F dX12_undo_42 rfl (q := 1) rfl ?_
      refine z_isub F dX12_undo_43 ?_
      refine z_nm (fun v14 ev14 => ?_)
      refine z_iast F hI gs_132 (by omega) (by omega) (by decide) (show Bd 132 7 = (0, 12) from rfl) dX12_undo_44 (by omega) (by omega) (fun M15 hI sf13 f13 => ?_)
      have hF := hF.wrk f13 (by decide) (by omega)
      have hW : WFk M15 := hW.known f13 (by omega)
      have sf13 : M15 132 7 = v14 := sf13
      refine z_iconst F dX12_undo_45 ?_
      refine z_istore_n F dX12_undo_46 rfl (by decide) (ls' := [(2, ii 0), (0, .ref (ad 131)), (1, ii x0)]) rfl ?_
      refine z_loc [1, 0] (ls' := [(0, .ref (ad 131)), (2, ii 0)]) rfl ?_
      suffices key47 : ∀ (n : Nat) (y17 : Int) (M16 : Mem), Inv M16 → WFk M16 → Fr [131, 132] M M16 → 0 ≤ y17 → y17 ≤ 18 → M16 132 7 ≤ 11 → 18 - y17 < (n : Int) → Z D cy ad p l e (RMh 2) s m args below meth c A 3 0 0 Q 47 [(0, .ref (ad 131)), (2, ii y17)] [] M16 from key47 19 0 M15 hI hW hF (by omega) (by omega) (by omega) (by omega)
      intro n47
      induction n47 with
      | zero => intro y17 M16 hI hW hF ay17 by17 i47_0 hn47; exfalso; omega
      | succ n47 ih47 =>
        intro y17 M16 hI hW hF ay17 by17 i47_0 hn47
        obtain ⟨u18, eu18⟩ : ∃ v : Int, v = M16 132 7 := ⟨_, rfl⟩
        have ku18 : 0 ≤ u18 ∧ u18 ≤ 11 := by have := hI.at (show Bd 132 7 = (0, 12) from rfl); omega
        refine z_iload_n F dX12_undo_47 rfl (q := 1) rfl ?_
        refine z_bipush F dX12_undo_48 (by decide +kernel) ?_
        refine z_icmp_ge (tgt := 89) F dX12_undo_50 (by decide +kernel) (by omega) (by omega) (fun c19 => ?_) (fun c19 => ?_)
        · refine z_aload_n F dX12_undo_89 rfl (q := 0) rfl ?_
          refine rf_X12_9 F gs_131 rfl dX12_undo_90 ?_
          refine z_bipush F dX12_undo_93 (by decide +kernel) ?_
          refine z_iald F hI gs_132 (by omega) (by omega) (by decide) (show Bd 132 7 = (0, 12) from rfl) dX12_undo_95 (fun v20 (ev20 : v20 = M16 132 7) av20 bv20 => ?_)
          have zv20 : u18 = v20 := eu18.trans ev20.symm
          subst zv20
          exact hret _ _ 96 _ (by omega) ⟨hI, hW⟩ ⟨⟨by omega, by omega⟩, hF⟩ dX12_undo_96
        · refine z_aload_n F dX12_undo_53 rfl (q := 0) rfl ?_
          refine rf_X12_9 F gs_131 rfl dX12_undo_54 ?_
          refine z_bipush F dX12_undo_57 (by decide +kernel) ?_
          refine z_iload_n F dX12_undo_59 rfl (q := 1) rfl ?_
          refine z_iadd F dX12_undo_60 ?_
          refine z_aload_n F dX12_undo_61 rfl (q := 0) rfl ?_
          refine rf_X12_9 F gs_131 rfl dX12_undo_62 ?_
          refine z_sipush F dX12_undo_65 (by decide +kernel) ?_
          refine z_bipush F dX12_undo_68 (by decide +kernel) ?_
          refine z_aload_n F dX12_undo_70 rfl (q := 0) rfl ?_
          refine rf_X12_9 F gs_131 rfl dX12_undo_71 ?_
          refine z_bipush F dX12_undo_74 (by decide +kernel) ?_
          refine z_iald F hI gs_132 (by omega) (by omega) (by decide) (show Bd 132 7 = (0, 12) from rfl) dX12_undo_76 (fun v21 (ev21 : v21 = M16 132 7) av21 bv21 => ?_)
          have zv21 : u18 = v21 := eu18.trans ev21.symm
          subst zv21
          refine z_imul F dX12_undo_77 ?_
          refine z_iadd F dX12_undo_78 ?_
          refine z_iload_n F dX12_undo_79 rfl (q := 1) rfl ?_
          refine z_iadd F dX12_undo_80 ?_
          refine z_ialdB F hI gs_132 (by omega) (by omega) (by decide) kn_w dX12_undo_81 (fun v22 ev22 av22 bv22 rv22 => ?_)
          refine z_iastB F hI gs_132 (by omega) (by omega) (by decide) dX12_undo_82 (bq_in (Eq.trans (bq_as (y := y17) (by omega) (by omega) (by omega)) (Eq.symm (bq_un (y := y17) u18 (by omega) (by omega) (by omega) (by omega) (by omega)))) av22 bv22) (fun M24 hI sf23 f23 => ?_)
          have hF := hF.wrk f23 (by decide) (by omega)
          have hW : WFk M24 := hW.known f23 (by omega)
          refine z_iincN F dX12_undo_83 (q := 1) rfl (by decide) (fun v25 ev25 => ?_)
          refine z_eq (ls' := [(2, ii v25), (0, .ref (ad 131))]) rfl rfl rfl ?_
          refine z_goto (tgt := 47) F dX12_undo_86 (by decide +kernel) ?_
          refine z_loc [1, 0] (ls' := [(0, .ref (ad 131)), (2, ii v25)]) rfl ?_
          have q26 : u18 = M24 132 7 := eu18.trans (f23 132 7 (fun q => by omega)).symm
          exact ih47 v25 M24 hI hW hF (by omega) (by omega) (by omega) (by omega)
    · refine z_aload_n F dX12_undo_28 rfl (q := 0) rfl ?_
      refine z_iconst F dX12_undo_29 ?_
      refine zv_i (rest := []) F (k_X12_fails l M2 ⟨hI, hW⟩ 1 (by omega) (by omega)) cs_X12_262 (T := TX12) (N := 44) (ci := 12) rfl gs_131 (by decide) (by decide) rfl rfl rfl (Nat.le_of_ble_eq_true rfl) dX12_undo_30 (fun v27 M28 rv27 hI p29 => ?_)
      obtain ⟨hI, hW⟩ := hI
      obtain ⟨⟨av27, bv27⟩, fp29⟩ := p29
      have hF := hF.call fp29 (by decide)
      exact hret _ _ 33 _ (by omega) ⟨hI, hW⟩ ⟨⟨by omega, by omega⟩, hF⟩ dX12_undo_33
set_option maxRecDepth 4000 in
theorem k_X12_isTray (l : Launch) (M : Mem) (hJ : Iw M) (x0 : Int) (hx0a : (-2147483648) ≤ x0) (hx0b : x0 ≤ 2147483647) : CI l yX12_isTray cX12_isTray 1 (some .boolean) 2 (fun ad => [ii x0]) M (fun z M' => (0 ≤ z ∧ z ≤ 1) ∧ M = M' ∧ (z = 1 → 0 ≤ x0 ∧ x0 ≤ 3)) := by
  obtain ⟨hI, hW⟩ := hJ
  refine en_z (by decide +kernel) (fun ad => by exact Nat.le_of_ble_eq_true rfl) (fun D cy ad A p e s m args below meth c Q F hret => ?_)
  refine z_eq (ls' := [(0, ii x0)]) rfl rfl rfl ?_
  refine z_iload_n F dX12_isTray_0 rfl (q := 0) rfl ?_
  refine z_i2l F dX12_isTray_1 (by omega) ?_
  refine z_lconst (x := 0) F dX12_isTray_2 (by decide +kernel) ?_
  refine z_ldc2 (x := 3) F dX12_isTray_3 (gin lm_95 rfl) (by decide +kernel) ?_
  refine zs_i (rest := []) F (k_X12_within l M ⟨hI, hW⟩ x0 (by omega) (by omega) 0 (by omega) (by omega) 3 (by omega) (by omega)) cs_X12_137 (by decide) (by decide) rfl rfl rfl (Nat.le_of_ble_eq_true rfl) dX12_isTray_6 (fun v1 M2 rv1 hI p3 => ?_)
  obtain ⟨hI, hW⟩ := hI
  obtain ⟨⟨av1, bv1⟩, rfl, xp3⟩ := p3
  exact hret _ _ 9 _ ⟨by omega, by omega⟩ ⟨hI, hW⟩ ⟨⟨by omega, by omega⟩, rfl, (by omega)⟩ dX12_isTray_9
set_option maxRecDepth 4000 in
theorem k_X12_trayFault (l : Launch) (M : Mem) (hJ : Iw M) (x0 : Int) (hx0a : (-2147483648) ≤ x0) (hx0b : x0 ≤ 2147483647) : CI l yX12_trayFault cX12_trayFault 2 (some .int) 3 (fun ad => [.ref (ad 131), ii x0]) M (fun z M' => (0 ≤ z ∧ z ≤ 2) ∧ M = M' ∧ (z = 0 → 0 ≤ x0 ∧ x0 ≤ 3)) := by
  obtain ⟨hI, hW⟩ := hJ
  refine en_i (by decide +kernel) (fun ad => by exact Nat.le_of_ble_eq_true rfl) (fun D cy ad A p e s m args below meth c Q F hret => ?_)
  refine z_eq (ls' := [(0, .ref (ad 131)), (1, ii x0)]) rfl rfl rfl ?_
  refine z_iload_n F dX12_trayFault_0 rfl (q := 1) rfl ?_
  refine zs_i (rest := []) F (k_X12_isTray l M ⟨hI, hW⟩ x0 (by omega) (by omega)) cs_X12_390 (by decide) (by decide) rfl rfl rfl (Nat.le_of_ble_eq_true rfl) dX12_trayFault_1 (fun v1 M2 rv1 hI p3 => ?_)
  obtain ⟨hI, hW⟩ := hI
  obtain ⟨⟨av1, bv1⟩, rfl, xp3⟩ := p3
  refine z_if_ne (tgt := 11) F dX12_trayFault_4 (by decide +kernel) (by omega) (fun c4 => ?_) (fun c4 => ?_)
  · refine z_aload_n F dX12_trayFault_11 rfl (q := 0) rfl ?_
    refine rf_X12_63 F gs_131 rfl dX12_trayFault_12 ?_
    refine z_iload_n F dX12_trayFault_15 rfl (q := 1) rfl ?_
    refine z_iald F hI gs_148 (by omega) (by omega) (by decide) bd_148 dX12_trayFault_16 (fun v5 (ev5 : v5 = M 148 _) av5 bv5 => ?_)
    refine z_iconst F dX12_trayFault_17 ?_
    refine z_icmp_ne (tgt := 25) F dX12_trayFault_18 (by decide +kernel) (by omega) (by omega) (fun c6 => ?_) (fun c6 => ?_)
    · refine z_iconst F dX12_trayFault_25 ?_
      exact hret _ _ 26 _ (by omega) ⟨hI, hW⟩ ⟨⟨by omega, by omega⟩, rfl, (by omega)⟩ dX12_trayFault_26
    · refine z_iconst F dX12_trayFault_21 ?_
      refine z_goto (tgt := 26) F dX12_trayFault_22 (by decide +kernel) ?_
      exact hret _ _ 26 _ (by omega) ⟨hI, hW⟩ ⟨⟨by omega, by omega⟩, rfl, (by omega)⟩ dX12_trayFault_26
  · refine z_iconst F dX12_trayFault_7 ?_
    refine z_goto (tgt := 26) F dX12_trayFault_8 (by decide +kernel) ?_
    exact hret _ _ 26 _ (by omega) ⟨hI, hW⟩ ⟨⟨by omega, by omega⟩, rfl, (by omega)⟩ dX12_trayFault_26
set_option maxRecDepth 4000 in
theorem k_X12_whyTold (l : Launch) (M : Mem) (hJ : Iw M) (x0 : Int) (hx0a : (-9223372036854775808) ≤ x0) (hx0b : x0 ≤ 9223372036854775807) : CI l yX12_whyTold cX12_whyTold 3 (some .int) 4 (fun ad => [.ref (ad 131), ll x0]) M (fun z M' => (0 ≤ z ∧ z ≤ 4) ∧ M = M' ∧ (z = 0 → (x0 = -1 ∨ 0 ≤ x0 ∧ x0 < 100 ∧ x0 / 10 ≤ 7 ∨ 100 ≤ x0 ∧ x0 ≤ 299 ∧ x0 % 100 / 10 ≤ 7))) := by
  obtain ⟨hI, hW⟩ := hJ
  refine en_i (by decide +kernel) (fun ad => by exact Nat.le_of_ble_eq_true rfl) (fun D cy ad A p e s m args below meth c Q F hret => ?_)
  refine z_eq (ls' := [(0, .ref (ad 131)), (1, ll x0)]) rfl rfl rfl ?_
  refine z_lload_n F dX12_whyTold_0 rfl (q := 1) rfl ?_
  refine z_ldc2 (x := (-1)) F dX12_whyTold_1 (gin lm_100 rfl) (by decide +kernel) ?_
  refine z_lcmp F dX12_whyTold_4 (by omega) (by omega) (fun v1 ev1 => ?_)
  refine z_if_ne (tgt := 10) F dX12_whyTold_5 (by decide +kernel) (by omega) (fun c2 => ?_) (fun c2 => ?_)
  · refine z_lload_n F dX12_whyTold_10 rfl (q := 1) rfl ?_
    refine z_lconst (x := 0) F dX12_whyTold_11 (by decide +kernel) ?_
    refine z_ldc2 (x := 99) F dX12_whyTold_12 (gin lm_81 rfl) (by decide +kernel) ?_
    refine zs_i (rest := []) F (k_X12_within l M ⟨hI, hW⟩ x0 (by omega) (by omega) 0 (by omega) (by omega) 99 (by omega) (by omega)) cs_X12_137 (by decide) (by decide) rfl rfl rfl (Nat.le_of_ble_eq_true rfl) dX12_whyTold_15 (fun v3 M4 rv3 hI p5 => ?_)
    obtain ⟨hI, hW⟩ := hI
    obtain ⟨⟨av3, bv3⟩, rfl, xp5⟩ := p5
    refine z_if_eq (tgt := 36) F dX12_whyTold_18 (by decide +kernel) (by omega) (fun c6 => ?_) (fun c6 => ?_)
    · refine z_lload_n F dX12_whyTold_36 rfl (q := 1) rfl ?_
      refine z_ldc2 (x := 100) F dX12_whyTold_37 (gin lm_101 rfl) (by decide +kernel) ?_
      refine z_ldc2 (x := 299) F dX12_whyTold_40 (gin lm_102 rfl) (by decide +kernel) ?_
      refine zs_i (rest := []) F (k_X12_within l M ⟨hI, hW⟩ x0 (by omega) (by omega) 100 (by omega) (by omega) 299 (by omega) (by omega)) cs_X12_137 (by decide) (by decide) rfl rfl rfl (Nat.le_of_ble_eq_true rfl) dX12_whyTold_43 (fun v7 M8 rv7 hI p9 => ?_)
      obtain ⟨hI, hW⟩ := hI
      obtain ⟨⟨av7, bv7⟩, rfl, xp9⟩ := p9
      refine z_if_eq (tgt := 79) F dX12_whyTold_46 (by decide +kernel) (by omega) (fun c10 => ?_) (fun c10 => ?_)
      · refine z_iconst F dX12_whyTold_79 ?_
        exact hret _ _ 80 _ (by omega) ⟨hI, hW⟩ ⟨⟨by omega, by omega⟩, rfl, (by omega)⟩ dX12_whyTold_80
      · refine z_aload_n F dX12_whyTold_49 rfl (q := 0) rfl ?_
        refine z_lload_n F dX12_whyTold_50 rfl (q := 1) rfl ?_
        refine z_ldc2 (x := 100) F dX12_whyTold_51 (gin lm_101 rfl) (by decide +kernel) ?_
        refine z_lrem_p F dX12_whyTold_54 (by omega) (by omega) (by omega) (by omega) (fun v11 ev11 => ?_)
        refine z_ldc2 (x := 10) F dX12_whyTold_55 (gin lm_103 rfl) (by decide +kernel) ?_
        refine z_ldiv_p F dX12_whyTold_58 (by omega) (by omega) (by omega) (by omega) (fun v12 ev12 => ?_)
        refine zv_i (rest := []) F (k_X12_isThing l M ⟨hI, hW⟩ v12 (by omega) (by omega)) cs_X12_335 (T := TX12) (N := 44) (ci := 12) rfl gs_131 (by decide) (by decide) rfl rfl rfl (Nat.le_of_ble_eq_true rfl) dX12_whyTold_59 (fun v13 M14 rv13 hI p15 => ?_)
        obtain ⟨hI, hW⟩ := hI
        obtain ⟨⟨av13, bv13⟩, rfl, xp15⟩ := p15
        refine z_if_eq (tgt := 79) F dX12_whyTold_62 (by decide +kernel) (by omega) (fun c16 => ?_) (fun c16 => ?_)
        · refine z_iconst F dX12_whyTold_79 ?_
          exact hret _ _ 80 _ (by omega) ⟨hI, hW⟩ ⟨⟨by omega, by omega⟩, rfl, (by omega)⟩ dX12_whyTold_80
        · refine z_lload_n F dX12_whyTold_65 rfl (q := 1) rfl ?_
          refine z_ldc2 (x := 10) F dX12_whyTold_66 (gin lm_103 rfl) (by decide +kernel) ?_
          refine z_lrem_p F dX12_whyTold_69 (by omega) (by omega) (by omega) (by omega) (fun v17 ev17 => ?_)
          refine z_lconst (x := 0) F dX12_whyTold_70 (by decide +kernel) ?_
          refine z_lcmp F dX12_whyTold_71 (by omega) (by omega) (fun v18 ev18 => ?_)
          refine z_if_le (tgt := 79) F dX12_whyTold_72 (by decide +kernel) (by omega) (fun c19 => ?_) (fun c19 => ?_)
          · refine z_iconst F dX12_whyTold_79 ?_
            exact hret _ _ 80 _ (by omega) ⟨hI, hW⟩ ⟨⟨by omega, by omega⟩, rfl, (by omega)⟩ dX12_whyTold_80
          · refine z_iconst F dX12_whyTold_75 ?_
            refine z_goto (tgt := 80) F dX12_whyTold_76 (by decide +kernel) ?_
            exact hret _ _ 80 _ (by omega) ⟨hI, hW⟩ ⟨⟨by omega, by omega⟩, rfl, (by omega)⟩ dX12_whyTold_80
    · refine z_aload_n F dX12_whyTold_21 rfl (q := 0) rfl ?_
      refine z_lload_n F dX12_whyTold_22 rfl (q := 1) rfl ?_
      refine z_ldc2 (x := 10) F dX12_whyTold_23 (gin lm_103 rfl) (by decide +kernel) ?_
      refine z_ldiv_p F dX12_whyTold_26 (by omega) (by omega) (by omega) (by omega) (fun v20 ev20 => ?_)
      refine z_lload_n F dX12_whyTold_27 rfl (q := 1) rfl ?_
      refine z_ldc2 (x := 10) F dX12_whyTold_28 (gin lm_103 rfl) (by decide +kernel) ?_
      refine z_lrem_p F dX12_whyTold_31 (by omega) (by omega) (by omega) (by omega) (fun v21 ev21 => ?_)
      refine zv_i (rest := []) F (k_X12_whyNot l M ⟨hI, hW⟩ v20 (by omega) (by omega) v21 (by omega) (by omega)) cs_X12_378 (T := TX12) (N := 44) (ci := 12) rfl gs_131 (by decide) (by decide) rfl rfl rfl (Nat.le_of_ble_eq_true rfl) dX12_whyTold_32 (fun v22 M23 rv22 hI p24 => ?_)
      obtain ⟨hI, hW⟩ := hI
      obtain ⟨⟨av22, bv22⟩, rfl, xp24⟩ := p24
      exact hret _ _ 35 _ (by omega) ⟨hI, hW⟩ ⟨⟨by omega, by omega⟩, rfl, (by omega)⟩ dX12_whyTold_35
  · refine z_iconst F dX12_whyTold_8 ?_
    exact hret _ _ 9 _ (by omega) ⟨hI, hW⟩ ⟨⟨by omega, by omega⟩, rfl, (by omega)⟩ dX12_whyTold_9
set_option maxRecDepth 4000 in
theorem k_X12_draw (l : Launch) (M : Mem) (hJ : Iw M) (x0 : Int) (hx0a : 1 ≤ x0) (hx0b : x0 ≤ 10) : CI l yX12_draw cX12_draw 2 (some .int) 1 (fun ad => [.ref (ad 131), ii x0]) M (fun z M' => (0 ≤ z ∧ z ≤ 9) ∧ Fr [131] M M') := by
  obtain ⟨hI, hW⟩ := hJ
  have hF : Fr [131] M M := Fr.rf
  refine en_i (by decide +kernel) (fun ad => by exact Nat.le_of_ble_eq_true rfl) (fun D cy ad A p e s m args below meth c Q F hret => ?_)
  refine z_eq (ls' := [(0, .ref (ad 131)), (1, ii x0)]) rfl rfl rfl ?_
  refine z_aload_n F dX12_draw_0 rfl (q := 0) rfl ?_
  refine z_ldcw (x := 1103515245) F dX12_draw_1 (gin lm_104 rfl) (by decide +kernel) ?_
  refine z_aload_n F dX12_draw_4 rfl (q := 0) rfl ?_
  refine gf_X12_419 F hI gs_131 rfl bd_131_19 dX12_draw_5 (fun v1 ev1 av1 bv1 => ?_)
  refine z_imul F dX12_draw_8 ?_
  refine z_wrap (fun v2 rv2 wv2 => ?_)
  refine z_sipush F dX12_draw_9 (by decide +kernel) ?_
  refine z_iadd F dX12_draw_12 ?_
  refine z_wrap (fun v3 rv3 wv3 => ?_)
  refine pf_X12_419 F hI gs_131 rfl bd_131_19 rfl rfl dX12_draw_13 (by omega) (by omega) (fun M5 hI sf4 f4 => ?_)
  have hF := hF.wr f4 (by decide) (by decide)
  have hW : WFk M5 := hW.site f4 (by decide)
  refine z_aload_n F dX12_draw_16 rfl (q := 0) rfl ?_
  refine gf_X12_419 F hI gs_131 rfl bd_131_19 dX12_draw_17 (fun v6 ev6 av6 bv6 => ?_)
  have zv6 : v3 = v6 := sf4.symm.trans ev6.symm
  subst zv6
  refine z_bipush F dX12_draw_20 (by decide +kernel) ?_
  refine z_iushr_k (k := 16) F dX12_draw_22 (by decide) (by decide +kernel) (fun v7 av7 bv7 => ?_)
  refine z_iload_n F dX12_draw_23 rfl (q := 1) rfl ?_
  refine z_irem_v F dX12_draw_24 (by omega) (by omega) (by omega) (by omega) (fun v8 av8 bv8 => ?_)
  exact hret _ _ 25 _ (by omega) ⟨hI, hW⟩ ⟨⟨by omega, by omega⟩, hF⟩ dX12_draw_25
set_option maxRecDepth 4000 in
theorem k_X12_sides (l : Launch) (M : Mem) (hJ : Iw M) : CI l yX12_sides cX12_sides 7 (some .int) 2 (fun ad => [.ref (ad 131)]) M (fun z M' => ((-1) ≤ z ∧ z ≤ 1023) ∧ Fr [131] M M') := by
  obtain ⟨hI, hW⟩ := hJ
  have hF : Fr [131] M M := Fr.rf
  refine en_i (by decide +kernel) (fun ad => by exact Nat.le_of_ble_eq_true rfl) (fun D cy ad A p e s m args below meth c Q F hret => ?_)
  refine z_eq (ls' := [(0, .ref (ad 131))]) rfl rfl rfl ?_
  refine z_aload_n F dX12_sides_0 rfl (q := 0) rfl ?_
  refine z_iconst F dX12_sides_1 ?_
  refine pf_X12_73 F hI gs_131 rfl bd_131_4 rfl rfl dX12_sides_2 (by omega) (by omega) (fun M2 hI sf1 f1 => ?_)
  have hF := hF.wr f1 (by decide) (by decide)
  have hW : WFk M2 := hW.site f1 (by decide)
  refine z_iconst F dX12_sides_5 ?_
  refine z_istore_n F dX12_sides_6 rfl (by decide) (ls' := [(1, ii 0), (0, .ref (ad 131))]) rfl ?_
  refine z_iconst F dX12_sides_7 ?_
  refine z_istore_n F dX12_sides_8 rfl (by decide) (ls' := [(2, ii 0), (1, ii 0), (0, .ref (ad 131))]) rfl ?_
  refine z_iconst F dX12_sides_9 ?_
  refine z_istore_n F dX12_sides_10 rfl (by decide) (ls' := [(3, ii 0), (2, ii 0), (1, ii 0), (0, .ref (ad 131))]) rfl ?_
  refine z_loc [3, 2, 1, 0] (ls' := [(0, .ref (ad 131)), (1, ii 0), (2, ii 0), (3, ii 0)]) rfl ?_
  suffices key11 : ∀ (n : Nat) (y4 : Int) (y5 : Int) (y6 : Int), 0 ≤ y4 → y4 ≤ 1023 → 0 ≤ y5 → y5 ≤ 1023 → 0 ≤ y6 → y6 ≤ 10 → 10 - y6 < (n : Int) → Z D cy ad p l e (RMh 2) s m args below meth c A 7 0 0 Q 11 [(0, .ref (ad 131)), (1, ii y4), (2, ii y5), (3, ii y6)] [] M2 from key11 11 0 0 0 (by omega) (by omega) (by omega) (by omega) (by omega) (by omega) (by omega)
  intro n11
  induction n11 with
  | zero => intro y4 y5 y6 ay4 by4 ay5 by5 ay6 by6 hn11; exfalso; omega
  | succ n11 ih11 =>
    intro y4 y5 y6 ay4 by4 ay5 by5 ay6 by6 hn11
    refine z_iload_n F dX12_sides_11 rfl (q := 3) rfl ?_
    refine z_aload_n F dX12_sides_12 rfl (q := 0) rfl ?_
    refine zv_i (rest := [ii y6]) F (k_X12_places l M2 ⟨hI, hW⟩) cs_X12_273 (T := TX12) (N := 44) (ci := 12) rfl gs_131 (by decide) (by decide) rfl rfl rfl (Nat.le_of_ble_eq_true rfl) dX12_sides_13 (fun v7 M8 rv7 hI p9 => ?_)
    obtain ⟨hI, hW⟩ := hI
    obtain ⟨⟨av7, bv7⟩, rfl, xp9⟩ := p9
    refine z_icmp_ge (tgt := 152) F dX12_sides_16 (by decide +kernel) (by omega) (by omega) (fun c10 => ?_) (fun c10 => ?_)
    · refine z_iload_n F dX12_sides_152 rfl (q := 1) rfl ?_
      refine z_iload_n F dX12_sides_153 rfl (q := 2) rfl ?_
      refine z_iand_r F dX12_sides_154 (by omega) (by omega) (fun v11 av11 bv11 => ?_)
      refine z_if_eq (tgt := 162) F dX12_sides_155 (by decide +kernel) (by omega) (fun c12 => ?_) (fun c12 => ?_)
      · refine z_iload_n F dX12_sides_162 rfl (q := 1) rfl ?_
        exact hret _ _ 163 _ (by omega) ⟨hI, hW⟩ ⟨⟨by omega, by omega⟩, hF⟩ dX12_sides_163
      · refine z_iconst F dX12_sides_158 ?_
        refine z_goto (tgt := 163) F dX12_sides_159 (by decide +kernel) ?_
        exact hret _ _ 163 _ (by omega) ⟨hI, hW⟩ ⟨⟨by omega, by omega⟩, hF⟩ dX12_sides_163
    · refine z_iload_n F dX12_sides_19 rfl (q := 1) rfl ?_
      refine z_iload_n F dX12_sides_20 rfl (q := 2) rfl ?_
      refine z_ior_k (k := 10) F dX12_sides_21 (by decide) (by omega) (by omega) (by omega) (by omega) (fun v13 av13 bv13 => ?_)
      refine z_iload_n F dX12_sides_22 rfl (q := 3) rfl ?_
      refine zs_i (rest := []) F (k_X12_has l M2 ⟨hI, hW⟩ v13 (by omega) (by omega) y6 (by omega) (by omega)) cs_X12_346 (by decide) (by decide) rfl rfl rfl (Nat.le_of_ble_eq_true rfl) dX12_sides_23 (fun v14 M15 rv14 hI p16 => ?_)
      obtain ⟨hI, hW⟩ := hI
      obtain ⟨⟨av14, bv14⟩, rfl⟩ := p16
      refine z_if_eq (tgt := 32) F dX12_sides_26 (by decide +kernel) (by omega) (fun c17 => ?_) (fun c17 => ?_)
      · refine z_iload_n F dX12_sides_32 rfl (q := 1) rfl ?_
        refine z_iconst F dX12_sides_33 ?_
        refine z_iload_n F dX12_sides_34 rfl (q := 3) rfl ?_
        refine z_shl1 (k := 9) F dX12_sides_35 (by decide) (by omega) (by omega) (fun v18 ev18 av18 bv18 => ?_)
        refine z_ior_k (k := 10) F dX12_sides_36 (by decide) (by omega) (by omega) (by omega) (by omega) (fun v19 av19 bv19 => ?_)
        refine z_istore_n F dX12_sides_37 rfl (by decide) (ls' := [(1, ii v19), (0, .ref (ad 131)), (2, ii y5), (3, ii y6)]) rfl ?_
        refine z_iconst F dX12_sides_38 ?_
        refine z_istore F dX12_sides_39 (by decide) (ls' := [(4, ii 0), (1, ii v19), (0, .ref (ad 131)), (2, ii y5), (3, ii y6)]) rfl ?_
        refine z_loc [2, 1, 3, 4, 0] (ls' := [(0, .ref (ad 131)), (1, ii v19), (2, ii y5), (3, ii y6), (4, ii 0)]) rfl ?_
        suffices key41 : ∀ (n : Nat) (y21 : Int) (y22 : Int) (y23 : Int), 0 ≤ y21 → y21 ≤ 1023 → 0 ≤ y22 → y22 ≤ 1023 → 0 ≤ y23 → y23 ≤ 10 → 10 - y23 < (n : Int) → Z D cy ad p l e (RMh 2) s m args below meth c A 7 0 0 Q 41 [(0, .ref (ad 131)), (1, ii y21), (2, ii y22), (3, ii y6), (4, ii y23)] [] M2 from key41 11 v19 y5 0 (by omega) (by omega) (by omega) (by omega) (by omega) (by omega) (by omega)
        intro n41
        induction n41 with
        | zero => intro y21 y22 y23 ay21 by21 ay22 by22 ay23 by23 hn41; exfalso; omega
        | succ n41 ih41 =>
          intro y21 y22 y23 ay21 by21 ay22 by22 ay23 by23 hn41
          refine z_iload F dX12_sides_41 (q := 4) rfl ?_
          refine z_aload_n F dX12_sides_43 rfl (q := 0) rfl ?_
          refine zv_i (rest := [ii y23]) F (k_X12_places l M2 ⟨hI, hW⟩) cs_X12_273 (T := TX12) (N := 44) (ci := 12) rfl gs_131 (by decide) (by decide) rfl rfl rfl (Nat.le_of_ble_eq_true rfl) dX12_sides_44 (fun v24 M25 rv24 hI p26 => ?_)
          obtain ⟨hI, hW⟩ := hI
          obtain ⟨⟨av24, bv24⟩, rfl, xp26⟩ := p26
          have zv24 : v7 = v24 := xp9.trans xp26.symm
          subst zv24
          refine z_icmp_ge (tgt := 146) F dX12_sides_47 (by decide +kernel) (by omega) (by omega) (fun c27 => ?_) (fun c27 => ?_)
          · refine z_iincN F dX12_sides_146 (q := 3) rfl (by decide) (fun v28 ev28 => ?_)
            refine z_eq (ls' := [(3, ii v28), (0, .ref (ad 131)), (1, ii y21), (2, ii y22), (4, ii y23)]) rfl rfl rfl ?_
            refine z_goto (tgt := 11) F dX12_sides_149 (by decide +kernel) ?_
            refine z_loc [1, 2, 3, 0] (ls' := [(0, .ref (ad 131)), (1, ii y21), (2, ii y22), (3, ii v28)]) rfl ?_
            exact ih11 y21 y22 v28 (by omega) (by omega) (by omega) (by omega) (by omega) (by omega) (by omega)
          · refine z_iconst F dX12_sides_50 ?_
            refine z_istore F dX12_sides_51 (by decide) (ls' := [(5, ii 0), (0, .ref (ad 131)), (1, ii y21), (2, ii y22), (3, ii y6), (4, ii y23)]) rfl ?_
            refine z_loc [1, 2, 3, 4, 5, 0] (ls' := [(0, .ref (ad 131)), (1, ii y21), (2, ii y22), (3, ii y6), (4, ii y23), (5, ii 0)]) rfl ?_
            suffices key53 : ∀ (n : Nat) (y30 : Int) (y31 : Int) (y32 : Int), 0 ≤ y30 → y30 ≤ 1023 → 0 ≤ y31 → y31 ≤ 1023 → 0 ≤ y32 → y32 ≤ 10 → 10 - y32 < (n : Int) → Z D cy ad p l e (RMh 2) s m args below meth c A 7 0 0 Q 53 [(0, .ref (ad 131)), (1, ii y30), (2, ii y31), (3, ii y6), (4, ii y23), (5, ii y32)] [] M2 from key53 11 y21 y22 0 (by omega) (by omega) (by omega) (by omega) (by omega) (by omega) (by omega)
            intro n53
            induction n53 with
            | zero => intro y30 y31 y32 ay30 by30 ay31 by31 ay32 by32 hn53; exfalso; omega
            | succ n53 ih53 =>
              intro y30 y31 y32 ay30 by30 ay31 by31 ay32 by32 hn53
              refine z_iload F dX12_sides_53 (q := 5) rfl ?_
              refine z_aload_n F dX12_sides_55 rfl (q := 0) rfl ?_
              refine zv_i (rest := [ii y32]) F (k_X12_places l M2 ⟨hI, hW⟩) cs_X12_273 (T := TX12) (N := 44) (ci := 12) rfl gs_131 (by decide) (by decide) rfl rfl rfl (Nat.le_of_ble_eq_true rfl) dX12_sides_56 (fun v33 M34 rv33 hI p35 => ?_)
              obtain ⟨hI, hW⟩ := hI
              obtain ⟨⟨av33, bv33⟩, rfl, xp35⟩ := p35
              have zv33 : v7 = v33 := xp9.trans xp35.symm
              subst zv33
              refine z_icmp_ge (tgt := 140) F dX12_sides_59 (by decide +kernel) (by omega) (by omega) (fun c36 => ?_) (fun c36 => ?_)
              · refine z_iincN F dX12_sides_140 (q := 4) rfl (by decide) (fun v37 ev37 => ?_)
                refine z_eq (ls' := [(4, ii v37), (0, .ref (ad 131)), (1, ii y30), (2, ii y31), (3, ii y6), (5, ii y32)]) rfl rfl rfl ?_
                refine z_goto (tgt := 41) F dX12_sides_143 (by decide +kernel) ?_
                refine z_loc [1, 2, 3, 4, 0] (ls' := [(0, .ref (ad 131)), (1, ii y30), (2, ii y31), (3, ii y6), (4, ii v37)]) rfl ?_
                exact ih41 y30 y31 v37 (by omega) (by omega) (by omega) (by omega) (by omega) (by omega) (by omega)
              · refine z_iconst F dX12_sides_62 ?_
                refine z_istore F dX12_sides_63 (by decide) (ls' := [(6, ii 0), (0, .ref (ad 131)), (1, ii y30), (2, ii y31), (3, ii y6), (4, ii y23), (5, ii y32)]) rfl ?_
                refine z_loc [1, 2, 3, 4, 5, 6, 0] (ls' := [(0, .ref (ad 131)), (1, ii y30), (2, ii y31), (3, ii y6), (4, ii y23), (5, ii y32), (6, ii 0)]) rfl ?_
                suffices key65 : ∀ (n : Nat) (y39 : Int) (y40 : Int) (y41 : Int), 0 ≤ y39 → y39 ≤ 1023 → 0 ≤ y40 → y40 ≤ 1023 → 0 ≤ y41 → y41 ≤ 10 → 10 - y41 < (n : Int) → Z D cy ad p l e (RMh 2) s m args below meth c A 7 0 0 Q 65 [(0, .ref (ad 131)), (1, ii y39), (2, ii y40), (3, ii y6), (4, ii y23), (5, ii y32), (6, ii y41)] [] M2 from key65 11 y30 y31 0 (by omega) (by omega) (by omega) (by omega) (by omega) (by omega) (by omega)
                intro n65
                induction n65 with
                | zero => intro y39 y40 y41 ay39 by39 ay40 by40 ay41 by41 hn65; exfalso; omega
                | succ n65 ih65 =>
                  intro y39 y40 y41 ay39 by39 ay40 by40 ay41 by41 hn65
                  refine z_iload F dX12_sides_65 (q := 6) rfl ?_
                  refine z_aload_n F dX12_sides_67 rfl (q := 0) rfl ?_
                  refine zv_i (rest := [ii y41]) F (k_X12_places l M2 ⟨hI, hW⟩) cs_X12_273 (T := TX12) (N := 44) (ci := 12) rfl gs_131 (by decide) (by decide) rfl rfl rfl (Nat.le_of_ble_eq_true rfl) dX12_sides_68 (fun v42 M43 rv42 hI p44 => ?_)
                  obtain ⟨hI, hW⟩ := hI
                  obtain ⟨⟨av42, bv42⟩, rfl, xp44⟩ := p44
                  have zv42 : v7 = v42 := xp9.trans xp44.symm
                  subst zv42
                  refine z_icmp_ge (tgt := 134) F dX12_sides_71 (by decide +kernel) (by omega) (by omega) (fun c45 => ?_) (fun c45 => ?_)
                  · refine z_iincN F dX12_sides_134 (q := 5) rfl (by decide) (fun v46 ev46 => ?_)
                    refine z_eq (ls' := [(5, ii v46), (0, .ref (ad 131)), (1, ii y39), (2, ii y40), (3, ii y6), (4, ii y23), (6, ii y41)]) rfl rfl rfl ?_
                    refine z_goto (tgt := 53) F dX12_sides_137 (by decide +kernel) ?_
                    refine z_loc [1, 2, 3, 4, 5, 0] (ls' := [(0, .ref (ad 131)), (1, ii y39), (2, ii y40), (3, ii y6), (4, ii y23), (5, ii v46)]) rfl ?_
                    exact ih53 y39 y40 v46 (by omega) (by omega) (by omega) (by omega) (by omega) (by omega) (by omega)
                  · refine z_aload_n F dX12_sides_74 rfl (q := 0) rfl ?_
                    refine z_iload F dX12_sides_75 (q := 5) rfl ?_
                    refine z_iload F dX12_sides_77 (q := 6) rfl ?_
                    refine zv_i (rest := []) F (k_X12_touch l M2 ⟨hI, hW⟩ y32 (by omega) (by omega) y41 (by omega) (by omega)) cs_X12_320 (T := TX12) (N := 44) (ci := 12) rfl gs_131 (by decide) (by decide) rfl rfl rfl (Nat.le_of_ble_eq_true rfl) dX12_sides_79 (fun v47 M48 rv47 hI p49 => ?_)
                    obtain ⟨hI, hW⟩ := hI
                    obtain ⟨⟨av47, bv47⟩, rfl⟩ := p49
                    refine z_if_ne (tgt := 88) F dX12_sides_82 (by decide +kernel) (by omega) (fun c50 => ?_) (fun c50 => ?_)
                    · refine z_iload_n F dX12_sides_88 rfl (q := 2) rfl ?_
                      refine z_iload_n F dX12_sides_89 rfl (q := 1) rfl ?_
                      refine z_iload F dX12_sides_90 (q := 5) rfl ?_
                      refine zs_i (rest := [ii y40]) F (k_X12_has l M2 ⟨hI, hW⟩ y39 (by omega) (by omega) y32 (by omega) (by omega)) cs_X12_346 (by decide) (by decide) rfl rfl rfl (Nat.le_of_ble_eq_true rfl) dX12_sides_92 (fun v51 M52 rv51 hI p53 => ?_)
                      obtain ⟨hI, hW⟩ := hI
                      obtain ⟨⟨av51, bv51⟩, rfl⟩ := p53
                      refine z_if_eq (tgt := 105) F dX12_sides_95 (by decide +kernel) (by omega) (fun c54 => ?_) (fun c54 => ?_)
                      · refine z_iconst F dX12_sides_105 ?_
                        refine z_ior_k (k := 10) F dX12_sides_106 (by decide) (by omega) (by omega) (by omega) (by omega) (fun v55 av55 bv55 => ?_)
                        refine z_istore_n F dX12_sides_107 rfl (by decide) (ls' := [(2, ii v55), (0, .ref (ad 131)), (1, ii y39), (3, ii y6), (4, ii y23), (5, ii y32), (6, ii y41)]) rfl ?_
                        refine z_iload_n F dX12_sides_108 rfl (q := 2) rfl ?_
                        refine z_iload_n F dX12_sides_109 rfl (q := 0) rfl ?_
                        refine z_iload F dX12_sides_110 (q := 5) rfl ?_
                        refine zs_i (rest := [ii y39]) F (k_X12_has l M2 ⟨hI, hW⟩ v55 (by omega) (by omega) y32 (by omega) (by omega)) cs_X12_346 (by decide) (by decide) rfl rfl rfl (Nat.le_of_ble_eq_true rfl) dX12_sides_112 (fun v56 M57 rv56 hI p58 => ?_)
                        obtain ⟨hI, hW⟩ := hI
                        obtain ⟨⟨av56, bv56⟩, rfl⟩ := p58
                        refine z_if_eq (tgt := 125) F dX12_sides_115 (by decide +kernel) (by omega) (fun c59 => ?_) (fun c59 => ?_)
                        · refine z_iconst F dX12_sides_125 ?_
                          refine z_ior_k (k := 10) F dX12_sides_126 (by decide) (by omega) (by omega) (by omega) (by omega) (fun v60 av60 bv60 => ?_)
                          refine z_istore_n F dX12_sides_127 rfl (by decide) (ls' := [(1, ii v60), (2, ii v55), (0, .ref (ad 131)), (3, ii y6), (4, ii y23), (5, ii y32), (6, ii y41)]) rfl ?_
                          refine z_iincN F dX12_sides_128 (q := 6) rfl (by decide) (fun v61 ev61 => ?_)
                          refine z_eq (ls' := [(6, ii v61), (1, ii v60), (2, ii v55), (0, .ref (ad 131)), (3, ii y6), (4, ii y23), (5, ii y32)]) rfl rfl rfl ?_
                          refine z_goto (tgt := 65) F dX12_sides_131 (by decide +kernel) ?_
                          refine z_loc [3, 1, 2, 4, 5, 6, 0] (ls' := [(0, .ref (ad 131)), (1, ii v60), (2, ii v55), (3, ii y6), (4, ii y23), (5, ii y32), (6, ii v61)]) rfl ?_
                          exact ih65 v60 v55 v61 (by omega) (by omega) (by omega) (by omega) (by omega) (by omega) (by omega)
                        · refine z_iconst F dX12_sides_118 ?_
                          refine z_iload F dX12_sides_119 (q := 6) rfl ?_
                          refine z_shl1 (k := 9) F dX12_sides_121 (by decide) (by omega) (by omega) (fun v62 ev62 av62 bv62 => ?_)
                          refine z_goto (tgt := 126) F dX12_sides_122 (by decide +kernel) ?_
                          refine z_ior_k (k := 10) F dX12_sides_126 (by decide) (by omega) (by omega) (by omega) (by omega) (fun v63 av63 bv63 => ?_)
                          refine z_istore_n F dX12_sides_127 rfl (by decide) (ls' := [(1, ii v63), (2, ii v55), (0, .ref (ad 131)), (3, ii y6), (4, ii y23), (5, ii y32), (6, ii y41)]) rfl ?_
                          refine z_iincN F dX12_sides_128 (q := 6) rfl (by decide) (fun v64 ev64 => ?_)
                          refine z_eq (ls' := [(6, ii v64), (1, ii v63), (2, ii v55), (0, .ref (ad 131)), (3, ii y6), (4, ii y23), (5, ii y32)]) rfl rfl rfl ?_
                          refine z_goto (tgt := 65) F dX12_sides_131 (by decide +kernel) ?_
                          refine z_loc [3, 1, 2, 4, 5, 6, 0] (ls' := [(0, .ref (ad 131)), (1, ii v63), (2, ii v55), (3, ii y6), (4, ii y23), (5, ii y32), (6, ii v64)]) rfl ?_
                          exact ih65 v63 v55 v64 (by omega) (by omega) (by omega) (by omega) (by omega) (by omega) (by omega)
                      · refine z_iconst F dX12_sides_98 ?_
                        refine z_iload F dX12_sides_99 (q := 6) rfl ?_
                        refine z_shl1 (k := 9) F dX12_sides_101 (by decide) (by omega) (by omega) (fun v65 ev65 av65 bv65 => ?_)
                        refine z_goto (tgt := 106) F dX12_sides_102 (by decide +kernel) ?_
                        refine z_ior_k (k := 10) F dX12_sides_106 (by decide) (by omega) (by omega) (by omega) (by omega) (fun v66 av66 bv66 => ?_)
                        refine z_istore_n F dX12_sides_107 rfl (by decide) (ls' := [(2, ii v66), (0, .ref (ad 131)), (1, ii y39), (3, ii y6), (4, ii y23), (5, ii y32), (6, ii y41)]) rfl ?_
                        refine z_iload_n F dX12_sides_108 rfl (q := 2) rfl ?_
                        refine z_iload_n F dX12_sides_109 rfl (q := 0) rfl ?_
                        refine z_iload F dX12_sides_110 (q := 5) rfl ?_
                        refine zs_i (rest := [ii y39]) F (k_X12_has l M2 ⟨hI, hW⟩ v66 (by omega) (by omega) y32 (by omega) (by omega)) cs_X12_346 (by decide) (by decide) rfl rfl rfl (Nat.le_of_ble_eq_true rfl) dX12_sides_112 (fun v67 M68 rv67 hI p69 => ?_)
                        obtain ⟨hI, hW⟩ := hI
                        obtain ⟨⟨av67, bv67⟩, rfl⟩ := p69
                        refine z_if_eq (tgt := 125) F dX12_sides_115 (by decide +kernel) (by omega) (fun c70 => ?_) (fun c70 => ?_)
                        · refine z_iconst F dX12_sides_125 ?_
                          refine z_ior_k (k := 10) F dX12_sides_126 (by decide) (by omega) (by omega) (by omega) (by omega) (fun v71 av71 bv71 => ?_)
                          refine z_istore_n F dX12_sides_127 rfl (by decide) (ls' := [(1, ii v71), (2, ii v66), (0, .ref (ad 131)), (3, ii y6), (4, ii y23), (5, ii y32), (6, ii y41)]) rfl ?_
                          refine z_iincN F dX12_sides_128 (q := 6) rfl (by decide) (fun v72 ev72 => ?_)
                          refine z_eq (ls' := [(6, ii v72), (1, ii v71), (2, ii v66), (0, .ref (ad 131)), (3, ii y6), (4, ii y23), (5, ii y32)]) rfl rfl rfl ?_
                          refine z_goto (tgt := 65) F dX12_sides_131 (by decide +kernel) ?_
                          refine z_loc [3, 1, 2, 4, 5, 6, 0] (ls' := [(0, .ref (ad 131)), (1, ii v71), (2, ii v66), (3, ii y6), (4, ii y23), (5, ii y32), (6, ii v72)]) rfl ?_
                          exact ih65 v71 v66 v72 (by omega) (by omega) (by omega) (by omega) (by omega) (by omega) (by omega)
                        · refine z_iconst F dX12_sides_118 ?_
                          refine z_iload F dX12_sides_119 (q := 6) rfl ?_
                          refine z_shl1 (k := 9) F dX12_sides_121 (by decide) (by omega) (by omega) (fun v73 ev73 av73 bv73 => ?_)
                          refine z_goto (tgt := 126) F dX12_sides_122 (by decide +kernel) ?_
                          refine z_ior_k (k := 10) F dX12_sides_126 (by decide) (by omega) (by omega) (by omega) (by omega) (fun v74 av74 bv74 => ?_)
                          refine z_istore_n F dX12_sides_127 rfl (by decide) (ls' := [(1, ii v74), (2, ii v66), (0, .ref (ad 131)), (3, ii y6), (4, ii y23), (5, ii y32), (6, ii y41)]) rfl ?_
                          refine z_iincN F dX12_sides_128 (q := 6) rfl (by decide) (fun v75 ev75 => ?_)
                          refine z_eq (ls' := [(6, ii v75), (1, ii v74), (2, ii v66), (0, .ref (ad 131)), (3, ii y6), (4, ii y23), (5, ii y32)]) rfl rfl rfl ?_
                          refine z_goto (tgt := 65) F dX12_sides_131 (by decide +kernel) ?_
                          refine z_loc [3, 1, 2, 4, 5, 6, 0] (ls' := [(0, .ref (ad 131)), (1, ii v74), (2, ii v66), (3, ii y6), (4, ii y23), (5, ii y32), (6, ii v75)]) rfl ?_
                          exact ih65 v74 v66 v75 (by omega) (by omega) (by omega) (by omega) (by omega) (by omega) (by omega)
                    · refine z_goto (tgt := 128) F dX12_sides_85 (by decide +kernel) ?_
                      refine z_iincN F dX12_sides_128 (q := 6) rfl (by decide) (fun v76 ev76 => ?_)
                      refine z_eq (ls' := [(6, ii v76), (0, .ref (ad 131)), (1, ii y39), (2, ii y40), (3, ii y6), (4, ii y23), (5, ii y32)]) rfl rfl rfl ?_
                      refine z_goto (tgt := 65) F dX12_sides_131 (by decide +kernel) ?_
                      refine z_loc [1, 2, 3, 4, 5, 6, 0] (ls' := [(0, .ref (ad 131)), (1, ii y39), (2, ii y40), (3, ii y6), (4, ii y23), (5, ii y32), (6, ii v76)]) rfl ?_
                      exact ih65 y39 y40 v76 (by omega) (by omega) (by omega) (by omega) (by omega) (by omega) (by omega)
      · refine z_goto (tgt := 146) F dX12_sides_29 (by decide +kernel) ?_
        refine z_iincN F dX12_sides_146 (q := 3) rfl (by decide) (fun v77 ev77 => ?_)
        refine z_eq (ls' := [(3, ii v77), (0, .ref (ad 131)), (1, ii y4), (2, ii y5)]) rfl rfl rfl ?_
        refine z_goto (tgt := 11) F dX12_sides_149 (by decide +kernel) ?_
        refine z_loc [1, 2, 3, 0] (ls' := [(0, .ref (ad 131)), (1, ii y4), (2, ii y5), (3, ii v77)]) rfl ?_
        exact ih11 y4 y5 v77 (by omega) (by omega) (by omega) (by omega) (by omega) (by omega) (by omega)
set_option maxRecDepth 4000 in
theorem k_X12_flip (l : Launch) (M : Mem) (hJ : Iw M) (x0 : Int) (hx0a : 0 ≤ x0) (hx0b : x0 ≤ 7) : CV l yX12_flip cX12_flip 2 none 1 (fun ad => [.ref (ad 131), ii x0]) M (fun M' => Fr [132] M M') := by
  obtain ⟨hI, hW⟩ := hJ
  have hF : Fr [132] M M := Fr.rf
  refine en_v (by decide +kernel) (fun ad => by exact Nat.le_of_ble_eq_true rfl) (fun D cy ad A p e s m args below meth c Q F hret => ?_)
  refine z_eq (ls' := [(0, .ref (ad 131)), (1, ii x0)]) rfl rfl rfl ?_
  refine z_aload_n F dX12_flip_0 rfl (q := 0) rfl ?_
  refine rf_X12_9 F gs_131 rfl dX12_flip_1 ?_
  refine z_bipush F dX12_flip_4 (by decide +kernel) ?_
  refine z_iload_n F dX12_flip_6 rfl (q := 1) rfl ?_
  refine z_iadd F dX12_flip_7 ?_
  refine z_dup2 F dX12_flip_8 rfl rfl ?_
  refine z_iald F hI gs_132 (by omega) (by omega) (by decide) (bd_132.trans (kn_any (by omega) (by omega))) dX12_flip_9 (fun v1 (ev1 : v1 = M 132 _) av1 bv1 => ?_)
  refine z_aload_n F dX12_flip_10 rfl (q := 0) rfl ?_
  refine rf_X12_9 F gs_131 rfl dX12_flip_11 ?_
  refine z_bipush F dX12_flip_14 (by decide +kernel) ?_
  refine z_iload_n F dX12_flip_16 rfl (q := 1) rfl ?_
  refine z_iadd F dX12_flip_17 ?_
  refine z_iald F hI gs_132 (by omega) (by omega) (by decide) (bd_132.trans (kn_any (by omega) (by omega))) dX12_flip_18 (fun v2 (ev2 : v2 = M 132 _) av2 bv2 => ?_)
  have zv2 : v1 = v2 := ev1.trans ev2.symm
  subst zv2
  refine z_bipush F dX12_flip_19 (by decide +kernel) ?_
  refine z_icmp_ne (tgt := 28) F dX12_flip_21 (by decide +kernel) (by omega) (by omega) (fun c3 => ?_) (fun c3 => ?_)
  · refine z_iconst F dX12_flip_28 ?_
    refine z_iadd F dX12_flip_29 ?_
    refine z_wrap (fun v4 rv4 wv4 => ?_)
    refine z_iast F hI gs_132 (by omega) (by omega) (by decide) (bd_132.trans (kn_any (by omega) (by omega))) dX12_flip_30 (by omega) (by omega) (fun M6 hI sf5 f5 => ?_)
    have hF := hF.wrk f5 (by decide) (by omega)
    have hW : WFk M6 := hW.known f5 (by omega)
    exact hret _ 31 _ ⟨hI, hW⟩ hF dX12_flip_31
  · refine z_iconst F dX12_flip_24 ?_
    refine z_goto (tgt := 29) F dX12_flip_25 (by decide +kernel) ?_
    refine z_iadd F dX12_flip_29 ?_
    refine z_nm (fun v8 ev8 => ?_)
    refine z_iast F hI gs_132 (by omega) (by omega) (by decide) (bd_132.trans (kn_any (by omega) (by omega))) dX12_flip_30 (by omega) (by omega) (fun M9 hI sf7 f7 => ?_)
    have hF := hF.wrk f7 (by decide) (by omega)
    have hW : WFk M9 := hW.known f7 (by omega)
    exact hret _ 31 _ ⟨hI, hW⟩ hF dX12_flip_31
set_option maxRecDepth 4000 in
theorem k_X12_event (l : Launch) (M : Mem) (hJ : Iw M) (x0 : Int) (hx0a : (-2147483648) ≤ x0) (hx0b : x0 ≤ 2147483647) (x1 : Int) (hx1a : (-2147483648) ≤ x1) (hx1b : x1 ≤ 2147483647) : CI l yX12_event cX12_event 3 (some .int) 2 (fun ad => [.ref (ad 131), ii x0, ii x1]) M (fun z M' => ((-2147483648) ≤ z ∧ z ≤ 2147483647) ∧ Fr [131] M M') := by
  obtain ⟨hI, hW⟩ := hJ
  have hF : Fr [131] M M := Fr.rf
  refine en_i (by decide +kernel) (fun ad => by exact Nat.le_of_ble_eq_true rfl) (fun D cy ad A p e s m args below meth c Q F hret => ?_)
  refine z_eq (ls' := [(0, .ref (ad 131)), (1, ii x0), (2, ii x1)]) rfl rfl rfl ?_
  refine z_aload_n F dX12_event_0 rfl (q := 0) rfl ?_
  refine z_iload_n F dX12_event_1 rfl (q := 1) rfl ?_
  refine z_i2l F dX12_event_2 (by omega) ?_
  refine z_lconst (x := 0) F dX12_event_3 (by decide +kernel) ?_
  refine z_aload_n F dX12_event_4 rfl (q := 0) rfl ?_
  refine rf_X12_9 F gs_131 rfl dX12_event_5 ?_
  refine z_iconst F dX12_event_8 ?_
  refine z_iald F hI gs_132 (by omega) (by omega) (by decide) (show Bd 132 4 = (0, 6) from rfl) dX12_event_9 (fun v1 (ev1 : v1 = M 132 4) av1 bv1 => ?_)
  refine z_iconst F dX12_event_10 ?_
  refine z_isub F dX12_event_11 ?_
  refine z_i2l F dX12_event_12 (by omega) ?_
  refine zs_i (rest := [.ref (ad 131)]) F (k_X12_within l M ⟨hI, hW⟩ x0 (by omega) (by omega) 0 (by omega) (by omega) (v1 - 1) (by omega) (by omega)) cs_X12_137 (by decide) (by decide) rfl rfl rfl (Nat.le_of_ble_eq_true rfl) dX12_event_13 (fun v2 M3 rv2 hI p4 => ?_)
  obtain ⟨hI, hW⟩ := hI
  obtain ⟨⟨av2, bv2⟩, rfl, xp4⟩ := p4
  refine z_if_ne (tgt := 23) F dX12_event_16 (by decide +kernel) (by omega) (fun c5 => ?_) (fun c5 => ?_)
  · refine z_iload_n F dX12_event_23 rfl (q := 2) rfl ?_
    refine z_i2l F dX12_event_24 (by omega) ?_
    refine z_lconst (x := 0) F dX12_event_25 (by decide +kernel) ?_
    refine z_ldc2 (x := 2) F dX12_event_26 (gin lm_46 rfl) (by decide +kernel) ?_
    refine zs_i (rest := [.ref (ad 131)]) F (k_X12_within l M ⟨hI, hW⟩ x1 (by omega) (by omega) 0 (by omega) (by omega) 2 (by omega) (by omega)) cs_X12_137 (by decide) (by decide) rfl rfl rfl (Nat.le_of_ble_eq_true rfl) dX12_event_29 (fun v6 M7 rv6 hI p8 => ?_)
    obtain ⟨hI, hW⟩ := hI
    obtain ⟨⟨av6, bv6⟩, rfl, xp8⟩ := p8
    refine z_if_eq (tgt := 39) F dX12_event_32 (by decide +kernel) (by omega) (fun c9 => ?_) (fun c9 => ?_)
    · refine z_iconst F dX12_event_39 ?_
      refine pf_X12_73 F hI gs_131 rfl bd_131_4 rfl rfl dX12_event_40 (by omega) (by omega) (fun M11 hI sf10 f10 => ?_)
      have hF := hF.wr f10 (by decide) (by decide)
      have hW : WFk M11 := hW.site f10 (by decide)
      refine z_aload_n F dX12_event_43 rfl (q := 0) rfl ?_
      refine gf_X12_73 F hI gs_131 rfl bd_131_4 dX12_event_44 (fun v12 ev12 av12 bv12 => ?_)
      have zv12 : 2 = v12 := sf10.symm.trans ev12.symm
      subst zv12
      refine z_if_le (tgt := 54) F dX12_event_47 (by decide +kernel) (by omega) (fun c13 => by exfalso; omega) (fun c13 => ?_)
      refine z_iconst F dX12_event_50 ?_
      refine z_goto (tgt := 68) F dX12_event_51 (by decide +kernel) ?_
      exact hret _ _ 68 _ (by omega) ⟨hI, hW⟩ ⟨⟨by omega, by omega⟩, hF⟩ dX12_event_68
    · refine z_iconst F dX12_event_35 ?_
      refine z_goto (tgt := 40) F dX12_event_36 (by decide +kernel) ?_
      refine pf_X12_73 F hI gs_131 rfl bd_131_4 rfl rfl dX12_event_40 (by omega) (by omega) (fun M15 hI sf14 f14 => ?_)
      have hF := hF.wr f14 (by decide) (by decide)
      have hW : WFk M15 := hW.site f14 (by decide)
      refine z_aload_n F dX12_event_43 rfl (q := 0) rfl ?_
      refine gf_X12_73 F hI gs_131 rfl bd_131_4 dX12_event_44 (fun v16 ev16 av16 bv16 => ?_)
      have zv16 : 0 = v16 := sf14.symm.trans ev16.symm
      subst zv16
      refine z_if_le (tgt := 54) F dX12_event_47 (by decide +kernel) (by omega) (fun c17 => ?_) (fun c17 => by exfalso; omega)
      refine z_aload_n F dX12_event_54 rfl (q := 0) rfl ?_
      refine rf_X12_9 F gs_131 rfl dX12_event_55 ?_
      refine z_sipush F dX12_event_58 (by decide +kernel) ?_
      refine z_iconst F dX12_event_61 ?_
      refine z_iload_n F dX12_event_62 rfl (q := 1) rfl ?_
      refine z_imul F dX12_event_63 ?_
      refine z_iadd F dX12_event_64 ?_
      refine z_iload_n F dX12_event_65 rfl (q := 2) rfl ?_
      refine z_iadd F dX12_event_66 ?_
      refine z_ialdB F hI gs_132 (by omega) (by omega) (by decide) kn_w dX12_event_67 (fun v18 ev18 av18 bv18 rv18 => ?_)
      exact hret _ _ 68 _ (by omega) ⟨hI, hW⟩ ⟨⟨by omega, by omega⟩, hF⟩ dX12_event_68
  · refine z_iconst F dX12_event_19 ?_
    refine z_goto (tgt := 40) F dX12_event_20 (by decide +kernel) ?_
    refine pf_X12_73 F hI gs_131 rfl bd_131_4 rfl rfl dX12_event_40 (by omega) (by omega) (fun M20 hI sf19 f19 => ?_)
    have hF := hF.wr f19 (by decide) (by decide)
    have hW : WFk M20 := hW.site f19 (by decide)
    refine z_aload_n F dX12_event_43 rfl (q := 0) rfl ?_
    refine gf_X12_73 F hI gs_131 rfl bd_131_4 dX12_event_44 (fun v21 ev21 av21 bv21 => ?_)
    have zv21 : 1 = v21 := sf19.symm.trans ev21.symm
    subst zv21
    refine z_if_le (tgt := 54) F dX12_event_47 (by decide +kernel) (by omega) (fun c22 => by exfalso; omega) (fun c22 => ?_)
    refine z_iconst F dX12_event_50 ?_
    refine z_goto (tgt := 68) F dX12_event_51 (by decide +kernel) ?_
    exact hret _ _ 68 _ (by omega) ⟨hI, hW⟩ ⟨⟨by omega, by omega⟩, hF⟩ dX12_event_68
set_option maxRecDepth 4000 in
theorem k_X12_areUnlike (l : Launch) (M : Mem) (hJ : Iw M) (x0 : Int) (hx0a : 0 ≤ x0) (hx0b : x0 ≤ 3) : CI l yX12_areUnlike cX12_areUnlike 4 (some .boolean) 3 (fun ad => [.ref (ad 131), ii x0]) M (fun z M' => (0 ≤ z ∧ z ≤ 1) ∧ M = M') := by
  obtain ⟨hI, hW⟩ := hJ
  refine en_z (by decide +kernel) (fun ad => by exact Nat.le_of_ble_eq_true rfl) (fun D cy ad A p e s m args below meth c Q F hret => ?_)
  refine z_eq (ls' := [(0, .ref (ad 131)), (1, ii x0)]) rfl rfl rfl ?_
  refine z_aload_n F dX12_areUnlike_0 rfl (q := 0) rfl ?_
  refine rf_X12_66 F gs_131 rfl dX12_areUnlike_1 ?_
  refine z_iload_n F dX12_areUnlike_4 rfl (q := 1) rfl ?_
  refine z_iald F hI gs_149 (by omega) (by omega) (by decide) bd_149 dX12_areUnlike_5 (fun v1 (ev1 : v1 = M 149 _) av1 bv1 => ?_)
  refine z_i2l F dX12_areUnlike_6 (by omega) ?_
  refine z_lconst (x := 1) F dX12_areUnlike_7 (by decide +kernel) ?_
  refine z_ldc2 (x := 10) F dX12_areUnlike_8 (gin lm_103 rfl) (by decide +kernel) ?_
  refine zs_i (rest := []) F (k_X12_within l M ⟨hI, hW⟩ v1 (by omega) (by omega) 1 (by omega) (by omega) 10 (by omega) (by omega)) cs_X12_137 (by decide) (by decide) rfl rfl rfl (Nat.le_of_ble_eq_true rfl) dX12_areUnlike_11 (fun v2 M3 rv2 hI p4 => ?_)
  obtain ⟨hI, hW⟩ := hI
  obtain ⟨⟨av2, bv2⟩, rfl, xp4⟩ := p4
  refine z_if_ne (tgt := 19) F dX12_areUnlike_14 (by decide +kernel) (by omega) (fun c5 => ?_) (fun c5 => ?_)
  · refine z_iconst F dX12_areUnlike_19 ?_
    refine z_istore_n F dX12_areUnlike_20 rfl (by decide) (ls' := [(2, ii 0), (0, .ref (ad 131)), (1, ii x0)]) rfl ?_
    refine z_loc [1, 2, 0] (ls' := [(0, .ref (ad 131)), (1, ii x0), (2, ii 0)]) rfl ?_
    suffices key21 : ∀ (n : Nat) (y7 : Int), 0 ≤ y7 → y7 ≤ 30 → 30 - y7 < (n : Int) → Z D cy ad p l e (RMh 3) s m args below meth c A 4 0 0 Q 21 [(0, .ref (ad 131)), (1, ii x0), (2, ii y7)] [] M from key21 31 0 (by omega) (by omega) (by omega)
    intro n21
    induction n21 with
    | zero => intro y7 ay7 by7 hn21; exfalso; omega
    | succ n21 ih21 =>
      intro y7 ay7 by7 hn21
      refine z_iload_n F dX12_areUnlike_21 rfl (q := 2) rfl ?_
      refine z_aload_n F dX12_areUnlike_22 rfl (q := 0) rfl ?_
      refine rf_X12_66 F gs_131 rfl dX12_areUnlike_23 ?_
      refine z_iload_n F dX12_areUnlike_26 rfl (q := 1) rfl ?_
      refine z_iald F hI gs_149 (by omega) (by omega) (by decide) bd_149 dX12_areUnlike_27 (fun v8 (ev8 : v8 = M 149 _) av8 bv8 => ?_)
      have zv8 : v1 = v8 := ev1.trans ev8.symm
      subst zv8
      refine z_icmp_ge (tgt := 98) F dX12_areUnlike_28 (by decide +kernel) (by omega) (by omega) (fun c9 => ?_) (fun c9 => ?_)
      · refine z_iconst F dX12_areUnlike_98 ?_
        exact hret _ _ 99 _ ⟨by omega, by omega⟩ ⟨hI, hW⟩ ⟨⟨by omega, by omega⟩, rfl⟩ dX12_areUnlike_99
      · refine z_aload_n F dX12_areUnlike_31 rfl (q := 0) rfl ?_
        refine z_aload_n F dX12_areUnlike_32 rfl (q := 0) rfl ?_
        refine rf_X12_69 F gs_131 rfl dX12_areUnlike_33 ?_
        refine z_bipush F dX12_areUnlike_36 (by decide +kernel) ?_
        refine z_iload_n F dX12_areUnlike_38 rfl (q := 1) rfl ?_
        refine z_imul F dX12_areUnlike_39 ?_
        refine z_iload_n F dX12_areUnlike_40 rfl (q := 2) rfl ?_
        refine z_iadd F dX12_areUnlike_41 ?_
        refine z_lald F hI gs_150 (by omega) (by omega) (by decide) bd_150 dX12_areUnlike_42 (fun v10 (ev10 : v10 = M 150 _) av10 bv10 => ?_)
        refine zv_i (rest := []) F (k_X12_isThing l M ⟨hI, hW⟩ v10 (by omega) (by omega)) cs_X12_335 (T := TX12) (N := 44) (ci := 12) rfl gs_131 (by decide) (by decide) rfl rfl rfl (Nat.le_of_ble_eq_true rfl) dX12_areUnlike_43 (fun v11 M12 rv11 hI p13 => ?_)
        obtain ⟨hI, hW⟩ := hI
        obtain ⟨⟨av11, bv11⟩, rfl, xp13⟩ := p13
        refine z_if_ne (tgt := 51) F dX12_areUnlike_46 (by decide +kernel) (by omega) (fun c14 => ?_) (fun c14 => ?_)
        · refine z_iconst F dX12_areUnlike_51 ?_
          refine z_istore_n F dX12_areUnlike_52 rfl (by decide) (ls' := [(3, ii 0), (0, .ref (ad 131)), (1, ii x0), (2, ii y7)]) rfl ?_
          refine z_loc [1, 2, 3, 0] (ls' := [(0, .ref (ad 131)), (1, ii x0), (2, ii y7), (3, ii 0)]) rfl ?_
          suffices key53 : ∀ (n : Nat) (y16 : Int), 0 ≤ y16 → y16 ≤ 9 → 9 - y16 < (n : Int) → Z D cy ad p l e (RMh 3) s m args below meth c A 4 0 0 Q 53 [(0, .ref (ad 131)), (1, ii x0), (2, ii y7), (3, ii y16)] [] M from key53 10 0 (by omega) (by omega) (by omega)
          intro n53
          induction n53 with
          | zero => intro y16 ay16 by16 hn53; exfalso; omega
          | succ n53 ih53 =>
            intro y16 ay16 by16 hn53
            refine z_iload_n F dX12_areUnlike_53 rfl (q := 3) rfl ?_
            refine z_iload_n F dX12_areUnlike_54 rfl (q := 2) rfl ?_
            refine z_icmp_ge (tgt := 92) F dX12_areUnlike_55 (by decide +kernel) (by omega) (by omega) (fun c17 => ?_) (fun c17 => ?_)
            · refine z_iincN F dX12_areUnlike_92 (q := 2) rfl (by decide) (fun v18 ev18 => ?_)
              refine z_eq (ls' := [(2, ii v18), (0, .ref (ad 131)), (1, ii x0), (3, ii y16)]) rfl rfl rfl ?_
              refine z_goto (tgt := 21) F dX12_areUnlike_95 (by decide +kernel) ?_
              refine z_loc [1, 2, 0] (ls' := [(0, .ref (ad 131)), (1, ii x0), (2, ii v18)]) rfl ?_
              exact ih21 v18 (by omega) (by omega) (by omega)
            · refine z_aload_n F dX12_areUnlike_58 rfl (q := 0) rfl ?_
              refine rf_X12_69 F gs_131 rfl dX12_areUnlike_59 ?_
              refine z_bipush F dX12_areUnlike_62 (by decide +kernel) ?_
              refine z_iload_n F dX12_areUnlike_64 rfl (q := 1) rfl ?_
              refine z_imul F dX12_areUnlike_65 ?_
              refine z_iload_n F dX12_areUnlike_66 rfl (q := 3) rfl ?_
              refine z_iadd F dX12_areUnlike_67 ?_
              refine z_lald F hI gs_150 (by omega) (by omega) (by decide) bd_150 dX12_areUnlike_68 (fun v19 (ev19 : v19 = M 150 _) av19 bv19 => ?_)
              refine z_aload_n F dX12_areUnlike_69 rfl (q := 0) rfl ?_
              refine rf_X12_69 F gs_131 rfl dX12_areUnlike_70 ?_
              refine z_bipush F dX12_areUnlike_73 (by decide +kernel) ?_
              refine z_iload_n F dX12_areUnlike_75 rfl (q := 1) rfl ?_
              refine z_imul F dX12_areUnlike_76 ?_
              refine z_iload_n F dX12_areUnlike_77 rfl (q := 2) rfl ?_
              refine z_iadd F dX12_areUnlike_78 ?_
              refine z_lald F hI gs_150 (by omega) (by omega) (by decide) bd_150 dX12_areUnlike_79 (fun v20 (ev20 : v20 = M 150 _) av20 bv20 => ?_)
              have zv20 : v10 = v20 := ev10.trans ev20.symm
              subst zv20
              refine z_lcmp F dX12_areUnlike_80 (by omega) (by omega) (fun v21 ev21 => ?_)
              refine z_if_ne (tgt := 86) F dX12_areUnlike_81 (by decide +kernel) (by omega) (fun c22 => ?_) (fun c22 => ?_)
              · refine z_iincN F dX12_areUnlike_86 (q := 3) rfl (by decide) (fun v23 ev23 => ?_)
                refine z_eq (ls' := [(3, ii v23), (0, .ref (ad 131)), (1, ii x0), (2, ii y7)]) rfl rfl rfl ?_
                refine z_goto (tgt := 53) F dX12_areUnlike_89 (by decide +kernel) ?_
                refine z_loc [1, 2, 3, 0] (ls' := [(0, .ref (ad 131)), (1, ii x0), (2, ii y7), (3, ii v23)]) rfl ?_
                exact ih53 v23 (by omega) (by omega) (by omega)
              · refine z_iconst F dX12_areUnlike_84 ?_
                exact hret _ _ 85 _ ⟨by omega, by omega⟩ ⟨hI, hW⟩ ⟨⟨by omega, by omega⟩, rfl⟩ dX12_areUnlike_85
        · refine z_iconst F dX12_areUnlike_49 ?_
          exact hret _ _ 50 _ ⟨by omega, by omega⟩ ⟨hI, hW⟩ ⟨⟨by omega, by omega⟩, rfl⟩ dX12_areUnlike_50
  · refine z_iconst F dX12_areUnlike_17 ?_
    exact hret _ _ 18 _ ⟨by omega, by omega⟩ ⟨hI, hW⟩ ⟨⟨by omega, by omega⟩, rfl⟩ dX12_areUnlike_18
set_option maxRecDepth 4000 in
theorem k_X12_toldThing (l : Launch) (M : Mem) (hJ : Iw M) (x0 : Int) (hx0a : 0 ≤ x0) (hx0b : x0 ≤ 3) (x1 : Int) (hx1a : 0 ≤ x1) (hx1b : x1 ≤ 29) : CI l yX12_toldThing cX12_toldThing 3 (some .int) 1 (fun ad => [.ref (ad 131), ii x0, ii x1]) M (fun z M' => ((-2147483648) ≤ z ∧ z ≤ 2147483647) ∧ M = M') := by
  obtain ⟨hI, hW⟩ := hJ
  refine en_i (by decide +kernel) (fun ad => by exact Nat.le_of_ble_eq_true rfl) (fun D cy ad A p e s m args below meth c Q F hret => ?_)
  refine z_eq (ls' := [(0, .ref (ad 131)), (1, ii x0), (2, ii x1)]) rfl rfl rfl ?_
  refine z_aload_n F dX12_toldThing_0 rfl (q := 0) rfl ?_
  refine rf_X12_69 F gs_131 rfl dX12_toldThing_1 ?_
  refine z_bipush F dX12_toldThing_4 (by decide +kernel) ?_
  refine z_iload_n F dX12_toldThing_6 rfl (q := 1) rfl ?_
  refine z_imul F dX12_toldThing_7 ?_
  refine z_iload_n F dX12_toldThing_8 rfl (q := 2) rfl ?_
  refine z_iadd F dX12_toldThing_9 ?_
  refine z_lald F hI gs_150 (by omega) (by omega) (by decide) bd_150 dX12_toldThing_10 (fun v1 (ev1 : v1 = M 150 _) av1 bv1 => ?_)
  refine z_l2i F dX12_toldThing_11 (by omega) ?_
  refine z_wrap (fun v2 rv2 wv2 => ?_)
  exact hret _ _ 12 _ (by omega) ⟨hI, hW⟩ ⟨⟨by omega, by omega⟩, rfl⟩ dX12_toldThing_12
set_option maxRecDepth 4000 in
theorem k_X12_seenFault (l : Launch) (M : Mem) (hJ : Iw M) (x0 : Int) (hx0a : (-2147483648) ≤ x0) (hx0b : x0 ≤ 2147483647) : CI l yX12_seenFault cX12_seenFault 4 (some .int) 4 (fun ad => [.ref (ad 131), ii x0]) M (fun z M' => (0 ≤ z ∧ z ≤ 3) ∧ M = M') := by
  obtain ⟨hI, hW⟩ := hJ
  refine en_i (by decide +kernel) (fun ad => by exact Nat.le_of_ble_eq_true rfl) (fun D cy ad A p e s m args below meth c Q F hret => ?_)
  refine z_eq (ls' := [(0, .ref (ad 131)), (1, ii x0)]) rfl rfl rfl ?_
  refine z_aload_n F dX12_seenFault_0 rfl (q := 0) rfl ?_
  refine z_iload_n F dX12_seenFault_1 rfl (q := 1) rfl ?_
  refine zv_i (rest := []) F (k_X12_trayFault l M ⟨hI, hW⟩ x0 (by omega) (by omega)) cs_X12_401 (T := TX12) (N := 44) (ci := 12) rfl gs_131 (by decide) (by decide) rfl rfl rfl (Nat.le_of_ble_eq_true rfl) dX12_seenFault_2 (fun v1 M2 rv1 hI p3 => ?_)
  obtain ⟨hI, hW⟩ := hI
  obtain ⟨⟨av1, bv1⟩, rfl, xp3⟩ := p3
  refine z_istore_n F dX12_seenFault_5 rfl (by decide) (ls' := [(2, ii v1), (0, .ref (ad 131)), (1, ii x0)]) rfl ?_
  refine z_iload_n F dX12_seenFault_6 rfl (q := 0) rfl ?_
  refine z_if_eq (tgt := 12) F dX12_seenFault_7 (by decide +kernel) (by omega) (fun c4 => ?_) (fun c4 => ?_)
  · refine z_aload_n F dX12_seenFault_12 rfl (q := 1) rfl ?_
    refine rf_X12_66 F gs_131 rfl dX12_seenFault_13 ?_
    refine z_iload_n F dX12_seenFault_16 rfl (q := 2) rfl ?_
    refine z_iald F hI gs_149 (by omega) (by omega) (by decide) bd_149 dX12_seenFault_17 (fun v5 (ev5 : v5 = M 149 _) av5 bv5 => ?_)
    refine z_i2l F dX12_seenFault_18 (by omega) ?_
    refine z_lconst (x := 1) F dX12_seenFault_19 (by decide +kernel) ?_
    refine z_ldc2 (x := 4) F dX12_seenFault_20 (gin lm_112 rfl) (by decide +kernel) ?_
    refine zs_i (rest := []) F (k_X12_within l M ⟨hI, hW⟩ v5 (by omega) (by omega) 1 (by omega) (by omega) 4 (by omega) (by omega)) cs_X12_137 (by decide) (by decide) rfl rfl rfl (Nat.le_of_ble_eq_true rfl) dX12_seenFault_23 (fun v6 M7 rv6 hI p8 => ?_)
    obtain ⟨hI, hW⟩ := hI
    obtain ⟨⟨av6, bv6⟩, rfl, xp8⟩ := p8
    refine z_if_ne (tgt := 31) F dX12_seenFault_26 (by decide +kernel) (by omega) (fun c9 => ?_) (fun c9 => ?_)
    · refine z_iconst F dX12_seenFault_31 ?_
      refine z_istore_n F dX12_seenFault_32 rfl (by decide) (ls' := [(3, ii 0), (2, ii v1), (0, .ref (ad 131)), (1, ii x0)]) rfl ?_
      refine z_loc [2, 3, 0] (ls' := [(0, .ref (ad 131)), (1, ii x0), (3, ii 0)]) rfl ?_
      suffices key33 : ∀ (n : Nat) (y11 : Int), 0 ≤ y11 → y11 ≤ 30 → 30 - y11 < (n : Int) → Z D cy ad p l e (RMh 4) s m args below meth c A 4 0 0 Q 33 [(0, .ref (ad 131)), (1, ii x0), (3, ii y11)] [] M from key33 31 0 (by omega) (by omega) (by omega)
      intro n33
      induction n33 with
      | zero => intro y11 ay11 by11 hn33; exfalso; omega
      | succ n33 ih33 =>
        intro y11 ay11 by11 hn33
        refine z_iload_n F dX12_seenFault_33 rfl (q := 2) rfl ?_
        refine z_aload_n F dX12_seenFault_34 rfl (q := 0) rfl ?_
        refine rf_X12_66 F gs_131 rfl dX12_seenFault_35 ?_
        refine z_iload_n F dX12_seenFault_38 rfl (q := 1) rfl ?_
        refine z_iald F hI gs_149 (by omega) (by omega) (by decide) bd_149 dX12_seenFault_39 (fun v12 (ev12 : v12 = M 149 _) av12 bv12 => ?_)
        have zv12 : v5 = v12 := ev5.trans ev12.symm
        subst zv12
        refine z_icmp_ge (tgt := 69) F dX12_seenFault_40 (by decide +kernel) (by omega) (by omega) (fun c13 => ?_) (fun c13 => ?_)
        · refine z_iconst F dX12_seenFault_69 ?_
          exact hret _ _ 70 _ (by omega) ⟨hI, hW⟩ ⟨⟨by omega, by omega⟩, rfl⟩ dX12_seenFault_70
        · refine z_aload_n F dX12_seenFault_43 rfl (q := 0) rfl ?_
          refine rf_X12_69 F gs_131 rfl dX12_seenFault_44 ?_
          refine z_bipush F dX12_seenFault_47 (by decide +kernel) ?_
          refine z_iload_n F dX12_seenFault_49 rfl (q := 1) rfl ?_
          refine z_imul F dX12_seenFault_50 ?_
          refine z_iload_n F dX12_seenFault_51 rfl (q := 2) rfl ?_
          refine z_iadd F dX12_seenFault_52 ?_
          refine z_lald F hI gs_150 (by omega) (by omega) (by decide) bd_150 dX12_seenFault_53 (fun v14 (ev14 : v14 = M 150 _) av14 bv14 => ?_)
          refine z_ldc2 (x := (-1)) F dX12_seenFault_54 (gin lm_100 rfl) (by decide +kernel) ?_
          refine z_lcmp F dX12_seenFault_57 (by omega) (by omega) (fun v15 ev15 => ?_)
          refine z_if_ge (tgt := 63) F dX12_seenFault_58 (by decide +kernel) (by omega) (fun c16 => ?_) (fun c16 => ?_)
          · refine z_iincN F dX12_seenFault_63 (q := 2) rfl (by decide) (fun v17 ev17 => ?_)
            refine z_eq (ls' := [(3, ii v17), (0, .ref (ad 131)), (1, ii x0)]) rfl rfl rfl ?_
            refine z_goto (tgt := 33) F dX12_seenFault_66 (by decide +kernel) ?_
            refine z_loc [1, 2, 0] (ls' := [(0, .ref (ad 131)), (1, ii x0), (3, ii v17)]) rfl ?_
            exact ih33 v17 (by omega) (by omega) (by omega)
          · refine z_iconst F dX12_seenFault_61 ?_
            exact hret _ _ 62 _ (by omega) ⟨hI, hW⟩ ⟨⟨by omega, by omega⟩, rfl⟩ dX12_seenFault_62
    · refine z_iconst F dX12_seenFault_29 ?_
      exact hret _ _ 30 _ (by omega) ⟨hI, hW⟩ ⟨⟨by omega, by omega⟩, rfl⟩ dX12_seenFault_30
  · refine z_iload_n F dX12_seenFault_10 rfl (q := 0) rfl ?_
    exact hret _ _ 11 _ (by omega) ⟨hI, hW⟩ ⟨⟨by omega, by omega⟩, rfl⟩ dX12_seenFault_11
set_option maxRecDepth 4000 in
theorem k_X12_tray (l : Launch) (M : Mem) (hJ : Iw M) (x0 : Int) (hx0a : (-2147483648) ≤ x0) (hx0b : x0 ≤ 2147483647) (x1 : Int) (hx1a : (-2147483648) ≤ x1) (hx1b : x1 ≤ 2147483647) (x2 : Int) (hx2a : (-2147483648) ≤ x2) (hx2b : x2 ≤ 2147483647) : CV l yX12_tray cX12_tray 5 none 3 (fun ad => [.ref (ad 131), ii x0, ii x1, ii x2]) M (fun M' => Fr [131, 148, 149, 150] M M') := by
  obtain ⟨hI, hW⟩ := hJ
  have hF : Fr [131, 148, 149, 150] M M := Fr.rf
  refine en_v (by decide +kernel) (fun ad => by exact Nat.le_of_ble_eq_true rfl) (fun D cy ad A p e s m args below meth c Q F hret => ?_)
  refine z_eq (ls' := [(0, .ref (ad 131)), (1, ii x0), (2, ii x1), (3, ii x2)]) rfl rfl rfl ?_
  refine z_aload_n F dX12_tray_0 rfl (q := 0) rfl ?_
  refine z_iload_n F dX12_tray_1 rfl (q := 1) rfl ?_
  refine zs_i (rest := [.ref (ad 131)]) F (k_X12_isTray l M ⟨hI, hW⟩ x0 (by omega) (by omega)) cs_X12_390 (by decide) (by decide) rfl rfl rfl (Nat.le_of_ble_eq_true rfl) dX12_tray_2 (fun v1 M2 rv1 hI p3 => ?_)
  obtain ⟨hI, hW⟩ := hI
  obtain ⟨⟨av1, bv1⟩, rfl, xp3⟩ := p3
  refine z_if_ne (tgt := 12) F dX12_tray_5 (by decide +kernel) (by omega) (fun c4 => ?_) (fun c4 => ?_)
  · refine z_iload_n F dX12_tray_12 rfl (q := 2) rfl ?_
    refine z_i2l F dX12_tray_13 (by omega) ?_
    refine z_lconst (x := 0) F dX12_tray_14 (by decide +kernel) ?_
    refine z_ldc2 (x := 3) F dX12_tray_15 (gin lm_95 rfl) (by decide +kernel) ?_
    refine zs_i (rest := [.ref (ad 131)]) F (k_X12_within l M ⟨hI, hW⟩ x1 (by omega) (by omega) 0 (by omega) (by omega) 3 (by omega) (by omega)) cs_X12_137 (by decide) (by decide) rfl rfl rfl (Nat.le_of_ble_eq_true rfl) dX12_tray_18 (fun v5 M6 rv5 hI p7 => ?_)
    obtain ⟨hI, hW⟩ := hI
    obtain ⟨⟨av5, bv5⟩, rfl, xp7⟩ := p7
    refine z_if_eq (tgt := 36) F dX12_tray_21 (by decide +kernel) (by omega) (fun c8 => ?_) (fun c8 => ?_)
    · refine z_iconst F dX12_tray_36 ?_
      refine z_goto (tgt := 41) F dX12_tray_37 (by decide +kernel) ?_
      refine pf_X12_73 F hI gs_131 rfl bd_131_4 rfl rfl dX12_tray_41 (by omega) (by omega) (fun M10 hI sf9 f9 => ?_)
      have hF := hF.wr f9 (by decide) (by decide)
      have hW : WFk M10 := hW.site f9 (by decide)
      refine z_aload_n F dX12_tray_44 rfl (q := 0) rfl ?_
      refine gf_X12_73 F hI gs_131 rfl bd_131_4 dX12_tray_45 (fun v11 ev11 av11 bv11 => ?_)
      have zv11 : 2 = v11 := sf9.symm.trans ev11.symm
      subst zv11
      refine z_if_le (tgt := 52) F dX12_tray_48 (by decide +kernel) (by omega) (fun c12 => by exfalso; omega) (fun c12 => ?_)
      exact hret _ 51 _ ⟨hI, hW⟩ hF dX12_tray_51
    · refine z_iload_n F dX12_tray_24 rfl (q := 3) rfl ?_
      refine z_i2l F dX12_tray_25 (by omega) ?_
      refine z_lconst (x := 0) F dX12_tray_26 (by decide +kernel) ?_
      refine z_ldc2 (x := 30) F dX12_tray_27 (gin lm_113 rfl) (by decide +kernel) ?_
      refine zs_i (rest := [.ref (ad 131)]) F (k_X12_within l M ⟨hI, hW⟩ x2 (by omega) (by omega) 0 (by omega) (by omega) 30 (by omega) (by omega)) cs_X12_137 (by decide) (by decide) rfl rfl rfl (Nat.le_of_ble_eq_true rfl) dX12_tray_30 (fun v13 M14 rv13 hI p15 => ?_)
      obtain ⟨hI, hW⟩ := hI
      obtain ⟨⟨av13, bv13⟩, rfl, xp15⟩ := p15
      refine z_if_ne (tgt := 40) F dX12_tray_33 (by decide +kernel) (by omega) (fun c16 => ?_) (fun c16 => ?_)
      · refine z_iconst F dX12_tray_40 ?_
        refine pf_X12_73 F hI gs_131 rfl bd_131_4 rfl rfl dX12_tray_41 (by omega) (by omega) (fun M18 hI sf17 f17 => ?_)
        have hF := hF.wr f17 (by decide) (by decide)
        have hW : WFk M18 := hW.site f17 (by decide)
        refine z_aload_n F dX12_tray_44 rfl (q := 0) rfl ?_
        refine gf_X12_73 F hI gs_131 rfl bd_131_4 dX12_tray_45 (fun v19 ev19 av19 bv19 => ?_)
        have zv19 : 0 = v19 := sf17.symm.trans ev19.symm
        subst zv19
        refine z_if_le (tgt := 52) F dX12_tray_48 (by decide +kernel) (by omega) (fun c20 => ?_) (fun c20 => by exfalso; omega)
        refine z_aload_n F dX12_tray_52 rfl (q := 0) rfl ?_
        refine rf_X12_63 F gs_131 rfl dX12_tray_53 ?_
        refine z_iload_n F dX12_tray_56 rfl (q := 1) rfl ?_
        refine z_iload_n F dX12_tray_57 rfl (q := 2) rfl ?_
        refine z_iast F hI gs_148 (by omega) (by omega) (by decide) bd_148 dX12_tray_58 (by omega) (by omega) (fun M22 hI sf21 f21 => ?_)
        have hF := hF.wr f21 (by decide) (by decide)
        have hW : WFk M22 := hW.site f21 (by decide)
        refine z_aload_n F dX12_tray_59 rfl (q := 0) rfl ?_
        refine rf_X12_66 F gs_131 rfl dX12_tray_60 ?_
        refine z_iload_n F dX12_tray_63 rfl (q := 1) rfl ?_
        refine z_iload_n F dX12_tray_64 rfl (q := 3) rfl ?_
        refine z_iast F hI gs_149 (by omega) (by omega) (by decide) bd_149 dX12_tray_65 (by omega) (by omega) (fun M24 hI sf23 f23 => ?_)
        have hF := hF.wr f23 (by decide) (by decide)
        have hW : WFk M24 := hW.site f23 (by decide)
        refine z_iconst F dX12_tray_66 ?_
        refine z_istore F dX12_tray_67 (by decide) (ls' := [(4, ii 0), (0, .ref (ad 131)), (1, ii x0), (2, ii x1), (3, ii x2)]) rfl ?_
        refine z_loc [1, 2, 0] (ls' := [(0, .ref (ad 131)), (1, ii x0), (4, ii 0)]) rfl ?_
        suffices key69 : ∀ (n : Nat) (y26 : Int) (M25 : Mem), Inv M25 → WFk M25 → Fr [131, 148, 149, 150] M M25 → 0 ≤ y26 → y26 ≤ 30 → 30 - y26 < (n : Int) → Z D cy ad p l e (RMh 3) s m args below meth c A 5 0 0 Q 69 [(0, .ref (ad 131)), (1, ii x0), (4, ii y26)] [] M25 from key69 31 0 M24 hI hW hF (by omega) (by omega) (by omega)
        intro n69
        induction n69 with
        | zero => intro y26 M25 hI hW hF ay26 by26 hn69; exfalso; omega
        | succ n69 ih69 =>
          intro y26 M25 hI hW hF ay26 by26 hn69
          refine z_iload F dX12_tray_69 (q := 2) rfl ?_
          refine z_bipush F dX12_tray_71 (by decide +kernel) ?_
          refine z_icmp_ge (tgt := 95) F dX12_tray_73 (by decide +kernel) (by omega) (by omega) (fun c27 => ?_) (fun c27 => ?_)
          · exact hret _ 95 _ ⟨hI, hW⟩ hF dX12_tray_95
          · refine z_aload_n F dX12_tray_76 rfl (q := 0) rfl ?_
            refine rf_X12_69 F gs_131 rfl dX12_tray_77 ?_
            refine z_bipush F dX12_tray_80 (by decide +kernel) ?_
            refine z_iload_n F dX12_tray_82 rfl (q := 1) rfl ?_
            refine z_imul F dX12_tray_83 ?_
            refine z_iload F dX12_tray_84 (q := 2) rfl ?_
            refine z_iadd F dX12_tray_86 ?_
            refine z_lconst (x := 0) F dX12_tray_87 (by decide +kernel) ?_
            refine z_last F hI gs_150 (by omega) (by omega) (by decide) bd_150 dX12_tray_88 (by omega) (by omega) (fun M29 hI sf28 f28 => ?_)
            have hF := hF.wr f28 (by decide) (by decide)
            have hW : WFk M29 := hW.site f28 (by decide)
            refine z_iincN F dX12_tray_89 (q := 2) rfl (by decide) (fun v30 ev30 => ?_)
            refine z_eq (ls' := [(4, ii v30), (0, .ref (ad 131)), (1, ii x0)]) rfl rfl rfl ?_
            refine z_goto (tgt := 69) F dX12_tray_92 (by decide +kernel) ?_
            refine z_loc [1, 2, 0] (ls' := [(0, .ref (ad 131)), (1, ii x0), (4, ii v30)]) rfl ?_
            exact ih69 v30 M29 hI hW hF (by omega) (by omega) (by omega)
      · refine z_iconst F dX12_tray_36 ?_
        refine z_goto (tgt := 41) F dX12_tray_37 (by decide +kernel) ?_
        refine pf_X12_73 F hI gs_131 rfl bd_131_4 rfl rfl dX12_tray_41 (by omega) (by omega) (fun M32 hI sf31 f31 => ?_)
        have hF := hF.wr f31 (by decide) (by decide)
        have hW : WFk M32 := hW.site f31 (by decide)
        refine z_aload_n F dX12_tray_44 rfl (q := 0) rfl ?_
        refine gf_X12_73 F hI gs_131 rfl bd_131_4 dX12_tray_45 (fun v33 ev33 av33 bv33 => ?_)
        have zv33 : 2 = v33 := sf31.symm.trans ev33.symm
        subst zv33
        refine z_if_le (tgt := 52) F dX12_tray_48 (by decide +kernel) (by omega) (fun c34 => by exfalso; omega) (fun c34 => ?_)
        exact hret _ 51 _ ⟨hI, hW⟩ hF dX12_tray_51
  · refine z_iconst F dX12_tray_8 ?_
    refine z_goto (tgt := 41) F dX12_tray_9 (by decide +kernel) ?_
    refine pf_X12_73 F hI gs_131 rfl bd_131_4 rfl rfl dX12_tray_41 (by omega) (by omega) (fun M36 hI sf35 f35 => ?_)
    have hF := hF.wr f35 (by decide) (by decide)
    have hW : WFk M36 := hW.site f35 (by decide)
    refine z_aload_n F dX12_tray_44 rfl (q := 0) rfl ?_
    refine gf_X12_73 F hI gs_131 rfl bd_131_4 dX12_tray_45 (fun v37 ev37 av37 bv37 => ?_)
    have zv37 : 1 = v37 := sf35.symm.trans ev37.symm
    subst zv37
    refine z_if_le (tgt := 52) F dX12_tray_48 (by decide +kernel) (by omega) (fun c38 => by exfalso; omega) (fun c38 => ?_)
    exact hret _ 51 _ ⟨hI, hW⟩ hF dX12_tray_51
set_option maxRecDepth 4000 in
theorem k_X12_cut (l : Launch) (M : Mem) (hJ : Iw M) (x0 : Int) (hx0a : 0 ≤ x0) (hx0b : x0 ≤ 3) (x1 : Int) (hx1a : 0 ≤ x1) (hx1b : x1 ≤ 29) (x2 : Int) (hx2a : (-9223372036854775808) ≤ x2) (hx2b : x2 ≤ 9223372036854775807) : CL l yX12_cut cX12_cut 6 (some .long) 1 (fun ad => [.ref (ad 131), ii x0, ii x1, ll x2]) M (fun z M' => ((-9223372036854775808) ≤ z ∧ z ≤ 9223372036854775807) ∧ Fr [150] M M') := by
  obtain ⟨hI, hW⟩ := hJ
  have hF : Fr [150] M M := Fr.rf
  refine en_l (by decide +kernel) (fun ad => by exact Nat.le_of_ble_eq_true rfl) (fun D cy ad A p e s m args below meth c Q F hret => ?_)
  refine z_eq (ls' := [(0, .ref (ad 131)), (1, ii x0), (2, ii x1), (3, ll x2)]) rfl rfl rfl ?_
  refine z_bipush F dX12_cut_0 (by decide +kernel) ?_
  refine z_bipush F dX12_cut_2 (by decide +kernel) ?_
  refine z_aload_n F dX12_cut_4 rfl (q := 0) rfl ?_
  refine rf_X12_63 F gs_131 rfl dX12_cut_5 ?_
  refine z_iload_n F dX12_cut_8 rfl (q := 1) rfl ?_
  refine z_iald F hI gs_148 (by omega) (by omega) (by decide) bd_148 dX12_cut_9 (fun v1 (ev1 : v1 = M 148 _) av1 bv1 => ?_)
  refine z_ishl0 F dX12_cut_10 (fun v2 ev2 rv2 => ?_)
  refine z_isub F dX12_cut_11 ?_
  refine z_wrap (fun v3 rv3 wv3 => ?_)
  refine z_istore F dX12_cut_12 (by decide) (ls' := [(5, ii v3), (0, .ref (ad 131)), (1, ii x0), (2, ii x1), (3, ll x2)]) rfl ?_
  refine z_aload_n F dX12_cut_14 rfl (q := 1) rfl ?_
  refine rf_X12_69 F gs_131 rfl dX12_cut_15 ?_
  refine z_bipush F dX12_cut_18 (by decide +kernel) ?_
  refine z_iload_n F dX12_cut_20 rfl (q := 2) rfl ?_
  refine z_imul F dX12_cut_21 ?_
  refine z_iload_n F dX12_cut_22 rfl (q := 3) rfl ?_
  refine z_iadd F dX12_cut_23 ?_
  refine z_lload_n F dX12_cut_24 rfl (q := 4) rfl ?_
  refine z_iload F dX12_cut_25 (q := 0) rfl ?_
  refine z_lshl0 F dX12_cut_27 (fun v4 _ rv4 => ?_)
  refine z_iload F dX12_cut_28 (q := 0) rfl ?_
  refine z_lshr0 F dX12_cut_30 (fun v5 _ rv5 => ?_)
  refine z_last F hI gs_150 (by omega) (by omega) (by decide) bd_150 dX12_cut_31 (by omega) (by omega) (fun M7 hI sf6 f6 => ?_)
  have hF := hF.wr f6 (by decide) (by decide)
  have hW : WFk M7 := hW.site f6 (by decide)
  refine z_aload_n F dX12_cut_32 rfl (q := 1) rfl ?_
  refine rf_X12_69 F gs_131 rfl dX12_cut_33 ?_
  refine z_bipush F dX12_cut_36 (by decide +kernel) ?_
  refine z_iload_n F dX12_cut_38 rfl (q := 2) rfl ?_
  refine z_imul F dX12_cut_39 ?_
  refine z_iload_n F dX12_cut_40 rfl (q := 3) rfl ?_
  refine z_iadd F dX12_cut_41 ?_
  refine z_lald F hI gs_150 (by omega) (by omega) (by decide) bd_150 dX12_cut_42 (fun v8 (ev8 : v8 = M7 150 _) av8 bv8 => ?_)
  exact hret _ _ 43 _ (by omega) ⟨hI, hW⟩ ⟨⟨by omega, by omega⟩, hF⟩ dX12_cut_43
set_option maxRecDepth 4000 in
theorem k_X12_write (l : Launch) (M : Mem) (hJ : Iw M) (x0 : Int) (hx0a : (-2147483648) ≤ x0) (hx0b : x0 ≤ 2147483647) (x1 : Int) (hx1a : (-2147483648) ≤ x1) (hx1b : x1 ≤ 2147483647) (x2 : Int) (hx2a : (-9223372036854775808) ≤ x2) (hx2b : x2 ≤ 9223372036854775807) : CL l yX12_write cX12_write 5 (some .long) 4 (fun ad => [.ref (ad 131), ii x0, ii x1, ll x2]) M (fun z M' => ((-9223372036854775808) ≤ z ∧ z ≤ 9223372036854775807) ∧ Fr [131, 150] M M') := by
  obtain ⟨hI, hW⟩ := hJ
  have hF : Fr [131, 150] M M := Fr.rf
  refine en_l (by decide +kernel) (fun ad => by exact Nat.le_of_ble_eq_true rfl) (fun D cy ad A p e s m args below meth c Q F hret => ?_)
  refine z_eq (ls' := [(0, .ref (ad 131)), (1, ii x0), (2, ii x1), (3, ll x2)]) rfl rfl rfl ?_
  refine z_aload_n F dX12_write_0 rfl (q := 0) rfl ?_
  refine z_aload_n F dX12_write_1 rfl (q := 0) rfl ?_
  refine z_iload_n F dX12_write_2 rfl (q := 1) rfl ?_
  refine zv_i (rest := [.ref (ad 131)]) F (k_X12_trayFault l M ⟨hI, hW⟩ x0 (by omega) (by omega)) cs_X12_401 (T := TX12) (N := 44) (ci := 12) rfl gs_131 (by decide) (by decide) rfl rfl rfl (Nat.le_of_ble_eq_true rfl) dX12_write_3 (fun v1 M2 rv1 hI p3 => ?_)
  obtain ⟨hI, hW⟩ := hI
  obtain ⟨⟨av1, bv1⟩, rfl, xp3⟩ := p3
  refine pf_X12_73 F hI gs_131 rfl bd_131_4 rfl rfl dX12_write_6 (by omega) (by omega) (fun M5 hI sf4 f4 => ?_)
  have hF := hF.wr f4 (by decide) (by decide)
  have hW : WFk M5 := hW.site f4 (by decide)
  refine z_aload_n F dX12_write_9 rfl (q := 0) rfl ?_
  refine gf_X12_73 F hI gs_131 rfl bd_131_4 dX12_write_10 (fun v6 ev6 av6 bv6 => ?_)
  have zv6 : v1 = v6 := sf4.symm.trans ev6.symm
  subst zv6
  refine z_if_le (tgt := 18) F dX12_write_13 (by decide +kernel) (by omega) (fun c7 => ?_) (fun c7 => ?_)
  · refine z_iload_n F dX12_write_18 rfl (q := 2) rfl ?_
    refine z_i2l F dX12_write_19 (by omega) ?_
    refine z_lconst (x := 0) F dX12_write_20 (by decide +kernel) ?_
    refine z_aload_n F dX12_write_21 rfl (q := 0) rfl ?_
    refine rf_X12_66 F gs_131 rfl dX12_write_22 ?_
    refine z_iload_n F dX12_write_25 rfl (q := 1) rfl ?_
    refine z_iald F hI gs_149 (by omega) (by omega) (by decide) bd_149 dX12_write_26 (fun v8 (ev8 : v8 = M5 149 _) av8 bv8 => ?_)
    refine z_iconst F dX12_write_27 ?_
    refine z_isub F dX12_write_28 ?_
    refine z_i2l F dX12_write_29 (by omega) ?_
    refine zs_i (rest := []) F (k_X12_within l M5 ⟨hI, hW⟩ x1 (by omega) (by omega) 0 (by omega) (by omega) (v8 - 1) (by omega) (by omega)) cs_X12_137 (by decide) (by decide) rfl rfl rfl (Nat.le_of_ble_eq_true rfl) dX12_write_30 (fun v9 M10 rv9 hI p11 => ?_)
    obtain ⟨hI, hW⟩ := hI
    obtain ⟨⟨av9, bv9⟩, rfl, xp11⟩ := p11
    refine z_if_eq (tgt := 46) F dX12_write_33 (by decide +kernel) (by omega) (fun c12 => ?_) (fun c12 => ?_)
    · refine z_aload_n F dX12_write_46 rfl (q := 0) rfl ?_
      refine z_iconst F dX12_write_47 ?_
      refine zv_i (rest := []) F (k_X12_fails l M5 ⟨hI, hW⟩ 3 (by omega) (by omega)) cs_X12_262 (T := TX12) (N := 44) (ci := 12) rfl gs_131 (by decide) (by decide) rfl rfl rfl (Nat.le_of_ble_eq_true rfl) dX12_write_48 (fun v13 M14 rv13 hI p15 => ?_)
      obtain ⟨hI, hW⟩ := hI
      obtain ⟨⟨av13, bv13⟩, fp15⟩ := p15
      have hF := hF.call fp15 (by decide)
      refine z_i2l F dX12_write_51 (by omega) ?_
      exact hret _ _ 52 _ (by omega) ⟨hI, hW⟩ ⟨⟨by omega, by omega⟩, hF⟩ dX12_write_52
    · refine z_aload_n F dX12_write_36 rfl (q := 0) rfl ?_
      refine z_iload_n F dX12_write_37 rfl (q := 1) rfl ?_
      refine z_iload_n F dX12_write_38 rfl (q := 2) rfl ?_
      refine z_lload_n F dX12_write_39 rfl (q := 3) rfl ?_
      refine zv_l (rest := []) F (k_X12_cut l M5 ⟨hI, hW⟩ x0 (by omega) (by omega) x1 (by omega) (by omega) x2 (by omega) (by omega)) cs_X12_535 (T := TX12) (N := 44) (ci := 12) rfl gs_131 (by decide) (by decide) rfl rfl rfl (Nat.le_of_ble_eq_true rfl) dX12_write_40 (fun v16 M17 rv16 hI p18 => ?_)
      obtain ⟨hI, hW⟩ := hI
      obtain ⟨⟨av16, bv16⟩, fp18⟩ := p18
      have hF := hF.call fp18 (by decide)
      refine z_goto (tgt := 52) F dX12_write_43 (by decide +kernel) ?_
      exact hret _ _ 52 _ (by omega) ⟨hI, hW⟩ ⟨⟨by omega, by omega⟩, hF⟩ dX12_write_52
  · refine z_lconst (x := 0) F dX12_write_16 (by decide +kernel) ?_
    exact hret _ _ 17 _ (by omega) ⟨hI, hW⟩ ⟨⟨by omega, by omega⟩, hF⟩ dX12_write_17
set_option maxRecDepth 4000 in
theorem k_X12_pour (l : Launch) (M : Mem) (hJ : Iw M) (x0 : Int) (hx0a : (-2147483648) ≤ x0) (hx0b : x0 ≤ 2147483647) : CI l yX12_pour cX12_pour 4 (some .int) 4 (fun ad => [.ref (ad 131), ii x0]) M (fun z M' => (0 ≤ z ∧ z ≤ 8) ∧ Fr [131, 150] M M') := by
  obtain ⟨hI, hW⟩ := hJ
  have hF : Fr [131, 150] M M := Fr.rf
  refine en_i (by decide +kernel) (fun ad => by exact Nat.le_of_ble_eq_true rfl) (fun D cy ad A p e s m args below meth c Q F hret => ?_)
  refine z_eq (ls' := [(0, .ref (ad 131)), (1, ii x0)]) rfl rfl rfl ?_
  refine z_aload_n F dX12_pour_0 rfl (q := 0) rfl ?_
  refine z_aload_n F dX12_pour_1 rfl (q := 0) rfl ?_
  refine z_iload_n F dX12_pour_2 rfl (q := 1) rfl ?_
  refine zv_i (rest := [.ref (ad 131)]) F (k_X12_trayFault l M ⟨hI, hW⟩ x0 (by omega) (by omega)) cs_X12_401 (T := TX12) (N := 44) (ci := 12) rfl gs_131 (by decide) (by decide) rfl rfl rfl (Nat.le_of_ble_eq_true rfl) dX12_pour_3 (fun v1 M2 rv1 hI p3 => ?_)
  obtain ⟨hI, hW⟩ := hI
  obtain ⟨⟨av1, bv1⟩, rfl, xp3⟩ := p3
  refine pf_X12_73 F hI gs_131 rfl bd_131_4 rfl rfl dX12_pour_6 (by omega) (by omega) (fun M5 hI sf4 f4 => ?_)
  have hF := hF.wr f4 (by decide) (by decide)
  have hW : WFk M5 := hW.site f4 (by decide)
  refine z_aload_n F dX12_pour_9 rfl (q := 0) rfl ?_
  refine gf_X12_73 F hI gs_131 rfl bd_131_4 dX12_pour_10 (fun v6 ev6 av6 bv6 => ?_)
  have zv6 : v1 = v6 := sf4.symm.trans ev6.symm
  subst zv6
  refine z_if_le (tgt := 18) F dX12_pour_13 (by decide +kernel) (by omega) (fun c7 => ?_) (fun c7 => ?_)
  · refine z_aload_n F dX12_pour_18 rfl (q := 0) rfl ?_
    refine rf_X12_66 F gs_131 rfl dX12_pour_19 ?_
    refine z_iload_n F dX12_pour_22 rfl (q := 1) rfl ?_
    refine z_iald F hI gs_149 (by omega) (by omega) (by decide) bd_149 dX12_pour_23 (fun v8 (ev8 : v8 = M5 149 _) av8 bv8 => ?_)
    refine z_aload_n F dX12_pour_24 rfl (q := 0) rfl ?_
    refine zv_i (rest := [ii v8]) F (k_X12_things l M5 ⟨hI, hW⟩) cs_X12_275 (T := TX12) (N := 44) (ci := 12) rfl gs_131 (by decide) (by decide) rfl rfl rfl (Nat.le_of_ble_eq_true rfl) dX12_pour_25 (fun v9 M10 rv9 hI p11 => ?_)
    obtain ⟨hI, hW⟩ := hI
    obtain ⟨⟨av9, bv9⟩, rfl, xp11⟩ := p11
    refine z_min F mm_X12_309 (Nat.le_of_ble_eq_true rfl) dX12_pour_28 (by omega) (by omega) (fun v12 ev12 => ?_)
    refine z_istore_n F dX12_pour_31 rfl (by decide) (ls' := [(2, ii v12), (0, .ref (ad 131)), (1, ii x0)]) rfl ?_
    refine z_iconst F dX12_pour_32 ?_
    refine z_istore_n F dX12_pour_33 rfl (by decide) (ls' := [(3, ii 0), (2, ii v12), (0, .ref (ad 131)), (1, ii x0)]) rfl ?_
    refine z_loc [2, 3, 1, 0] (ls' := [(0, .ref (ad 131)), (1, ii x0), (2, ii v12), (3, ii 0)]) rfl ?_
    suffices key34 : ∀ (n : Nat) (y14 : Int) (M13 : Mem), Inv M13 → WFk M13 → Fr [131, 150] M M13 → 0 ≤ y14 → y14 ≤ 8 → 8 - y14 < (n : Int) → Z D cy ad p l e (RMh 4) s m args below meth c A 4 0 0 Q 34 [(0, .ref (ad 131)), (1, ii x0), (2, ii v12), (3, ii y14)] [] M13 from key34 9 0 M5 hI hW hF (by omega) (by omega) (by omega)
    intro n34
    induction n34 with
    | zero => intro y14 M13 hI hW hF ay14 by14 hn34; exfalso; omega
    | succ n34 ih34 =>
      intro y14 M13 hI hW hF ay14 by14 hn34
      refine z_iload_n F dX12_pour_34 rfl (q := 3) rfl ?_
      refine z_iload_n F dX12_pour_35 rfl (q := 2) rfl ?_
      refine z_icmp_ge (tgt := 58) F dX12_pour_36 (by decide +kernel) (by omega) (by omega) (fun c15 => ?_) (fun c15 => ?_)
      · refine z_iload_n F dX12_pour_58 rfl (q := 2) rfl ?_
        exact hret _ _ 59 _ (by omega) ⟨hI, hW⟩ ⟨⟨by omega, by omega⟩, hF⟩ dX12_pour_59
      · refine z_aload_n F dX12_pour_39 rfl (q := 0) rfl ?_
        refine z_iload_n F dX12_pour_40 rfl (q := 1) rfl ?_
        refine z_iload_n F dX12_pour_41 rfl (q := 3) rfl ?_
        refine z_aload_n F dX12_pour_42 rfl (q := 0) rfl ?_
        refine z_iload_n F dX12_pour_43 rfl (q := 3) rfl ?_
        refine zv_i (rest := [ii y14, ii x0, .ref (ad 131)]) F (k_X12_lies l M13 ⟨hI, hW⟩ y14 (by omega) (by omega)) cs_X12_317 (T := TX12) (N := 44) (ci := 12) rfl gs_131 (by decide) (by decide) rfl rfl rfl (Nat.le_of_ble_eq_true rfl) dX12_pour_44 (fun v16 M17 rv16 hI p18 => ?_)
        obtain ⟨hI, hW⟩ := hI
        obtain ⟨⟨av16, bv16⟩, rfl⟩ := p18
        refine z_i2l F dX12_pour_47 (by omega) ?_
        refine zv_l (rest := []) F (k_X12_cut l M13 ⟨hI, hW⟩ x0 (by omega) (by omega) y14 (by omega) (by omega) v16 (by omega) (by omega)) cs_X12_535 (T := TX12) (N := 44) (ci := 12) rfl gs_131 (by decide) (by decide) rfl rfl rfl (Nat.le_of_ble_eq_true rfl) dX12_pour_48 (fun v19 M20 rv19 hI p21 => ?_)
        obtain ⟨hI, hW⟩ := hI
        obtain ⟨⟨av19, bv19⟩, fp21⟩ := p21
        have hF := hF.call fp21 (by decide)
        refine z_pop2 F dX12_pour_51 rfl ?_
        refine z_iincN F dX12_pour_52 (q := 3) rfl (by decide) (fun v22 ev22 => ?_)
        refine z_eq (ls' := [(3, ii v22), (0, .ref (ad 131)), (1, ii x0), (2, ii v12)]) rfl rfl rfl ?_
        refine z_goto (tgt := 34) F dX12_pour_55 (by decide +kernel) ?_
        refine z_loc [1, 2, 3, 0] (ls' := [(0, .ref (ad 131)), (1, ii x0), (2, ii v12), (3, ii v22)]) rfl ?_
        exact ih34 v22 M20 hI hW hF (by omega) (by omega) (by omega)
  · refine z_iconst F dX12_pour_16 ?_
    exact hret _ _ 17 _ (by omega) ⟨hI, hW⟩ ⟨⟨by omega, by omega⟩, hF⟩ dX12_pour_17
set_option maxRecDepth 4000 in
theorem k_X12_restore (l : Launch) (M : Mem) (hJ : Iw M) (x0 : Int) (hx0a : (-2147483648) ≤ x0) (hx0b : x0 ≤ 2147483647) : CV l yX12_restore cX12_restore 3 none 2 (fun ad => [.ref (ad 131), ii x0]) M (fun M' => Fr [131, 132, 232] M M') := by
  obtain ⟨hI, hW⟩ := hJ
  have hF : Fr [131, 132, 232] M M := Fr.rf
  refine en_v (by decide +kernel) (fun ad => by exact Nat.le_of_ble_eq_true rfl) (fun D cy ad A p e s m args below meth c Q F hret => ?_)
  refine z_eq (ls' := [(0, .ref (ad 131)), (1, ii x0)]) rfl rfl rfl ?_
  refine z_aload_n F dX12_restore_0 rfl (q := 0) rfl ?_
  refine z_iload_n F dX12_restore_1 rfl (q := 1) rfl ?_
  refine z_i2l F dX12_restore_2 (by omega) ?_
  refine z_lconst (x := 0) F dX12_restore_3 (by decide +kernel) ?_
  refine z_ldc2 (x := 2) F dX12_restore_4 (gin lm_46 rfl) (by decide +kernel) ?_
  refine zs_i (rest := [.ref (ad 131)]) F (k_X12_within l M ⟨hI, hW⟩ x0 (by omega) (by omega) 0 (by omega) (by omega) 2 (by omega) (by omega)) cs_X12_137 (by decide) (by decide) rfl rfl rfl (Nat.le_of_ble_eq_true rfl) dX12_restore_7 (fun v1 M2 rv1 hI p3 => ?_)
  obtain ⟨hI, hW⟩ := hI
  obtain ⟨⟨av1, bv1⟩, rfl, xp3⟩ := p3
  refine z_if_ne (tgt := 17) F dX12_restore_10 (by decide +kernel) (by omega) (fun c4 => ?_) (fun c4 => ?_)
  · refine z_aload_n F dX12_restore_17 rfl (q := 0) rfl ?_
    refine rf_X12_19 F gs_131 rfl dX12_restore_18 ?_
    refine z_iload_n F dX12_restore_21 rfl (q := 1) rfl ?_
    refine z_zald F hI gs_135 (by omega) (by omega) (by decide) bd_135 dX12_restore_22 (fun v5 (ev5 : v5 = M 135 _) av5 bv5 => ?_)
    refine z_if_ne (tgt := 30) F dX12_restore_23 (by decide +kernel) (by omega) (fun c6 => ?_) (fun c6 => ?_)
    · refine z_iconst F dX12_restore_30 ?_
      refine pf_X12_73 F hI gs_131 rfl bd_131_4 rfl rfl dX12_restore_31 (by omega) (by omega) (fun M8 hI sf7 f7 => ?_)
      have hF := hF.wr f7 (by decide) (by decide)
      have hW : WFk M8 := hW.site f7 (by decide)
      refine z_aload_n F dX12_restore_34 rfl (q := 0) rfl ?_
      refine gf_X12_73 F hI gs_131 rfl bd_131_4 dX12_restore_35 (fun v9 ev9 av9 bv9 => ?_)
      have zv9 : 0 = v9 := sf7.symm.trans ev9.symm
      subst zv9
      refine z_if_le (tgt := 42) F dX12_restore_38 (by decide +kernel) (by omega) (fun c10 => ?_) (fun c10 => by exfalso; omega)
      refine z_iconst F dX12_restore_42 ?_
      refine z_istore_n F dX12_restore_43 rfl (by decide) (ls' := [(2, ii 0), (0, .ref (ad 131)), (1, ii x0)]) rfl ?_
      refine z_loc [1, 2, 0] (ls' := [(0, .ref (ad 131)), (1, ii x0), (2, ii 0)]) rfl ?_
      suffices key44 : ∀ (n : Nat) (y12 : Int) (M11 : Mem), Inv M11 → WFk M11 → Fr [131, 132, 232] M M11 → 0 ≤ y12 → y12 ≤ 1300 → 1300 - y12 < (n : Int) → Z D cy ad p l e (RMh 2) s m args below meth c A 3 0 0 Q 44 [(0, .ref (ad 131)), (1, ii x0), (2, ii y12)] [] M11 from key44 1301 0 M8 hI hW hF (by omega) (by omega) (by omega)
      intro n44
      induction n44 with
      | zero => intro y12 M11 hI hW hF ay12 by12 hn44; exfalso; omega
      | succ n44 ih44 =>
        intro y12 M11 hI hW hF ay12 by12 hn44
        refine z_iload_n F dX12_restore_44 rfl (q := 2) rfl ?_
        refine z_sipush F dX12_restore_45 (by decide +kernel) ?_
        refine z_icmp_ge (tgt := 75) F dX12_restore_48 (by decide +kernel) (by omega) (by omega) (fun c13 => ?_) (fun c13 => ?_)
        · exact hret _ 75 _ ⟨hI, hW⟩ hF dX12_restore_75
        · refine z_aload_n F dX12_restore_51 rfl (q := 0) rfl ?_
          refine rf_X12_9 F gs_131 rfl dX12_restore_52 ?_
          refine z_iload_n F dX12_restore_55 rfl (q := 2) rfl ?_
          refine z_aload_n F dX12_restore_56 rfl (q := 0) rfl ?_
          refine rf_X12_16 F gs_131 rfl dX12_restore_57 ?_
          refine z_sipush F dX12_restore_60 (by decide +kernel) ?_
          refine z_iload_n F dX12_restore_63 rfl (q := 1) rfl ?_
          refine z_imul F dX12_restore_64 ?_
          refine z_iload_n F dX12_restore_65 rfl (q := 2) rfl ?_
          refine z_iadd F dX12_restore_66 ?_
          refine z_ialdB F hI gs_134 (by omega) (by omega) (by decide) kn3_w dX12_restore_67 (fun v14 ev14 av14 bv14 rv14 => ?_)
          refine z_iastB F hI gs_132 (by omega) (by omega) (by decide) dX12_restore_68 (bq_in (Eq.trans (rfl : Bd 132 _ = kn _) (Eq.symm (bq_im (k := y12) x0 (by omega) (by omega) (by omega) (by omega)))) av14 bv14) (fun M16 hI sf15 f15 => ?_)
          have hF := hF.wrs f15 (by decide) (by decide)
          have hW : WFk M16 := hW.known f15 (by omega)
          refine z_iincN F dX12_restore_69 (q := 2) rfl (by decide) (fun v17 ev17 => ?_)
          refine z_eq (ls' := [(2, ii v17), (0, .ref (ad 131)), (1, ii x0)]) rfl rfl rfl ?_
          refine z_goto (tgt := 44) F dX12_restore_72 (by decide +kernel) ?_
          refine z_loc [1, 2, 0] (ls' := [(0, .ref (ad 131)), (1, ii x0), (2, ii v17)]) rfl ?_
          exact ih44 v17 M16 hI hW hF (by omega) (by omega) (by omega)
    · refine z_iconst F dX12_restore_26 ?_
      refine z_goto (tgt := 31) F dX12_restore_27 (by decide +kernel) ?_
      refine pf_X12_73 F hI gs_131 rfl bd_131_4 rfl rfl dX12_restore_31 (by omega) (by omega) (fun M19 hI sf18 f18 => ?_)
      have hF := hF.wr f18 (by decide) (by decide)
      have hW : WFk M19 := hW.site f18 (by decide)
      refine z_aload_n F dX12_restore_34 rfl (q := 0) rfl ?_
      refine gf_X12_73 F hI gs_131 rfl bd_131_4 dX12_restore_35 (fun v20 ev20 av20 bv20 => ?_)
      have zv20 : 2 = v20 := sf18.symm.trans ev20.symm
      subst zv20
      refine z_if_le (tgt := 42) F dX12_restore_38 (by decide +kernel) (by omega) (fun c21 => by exfalso; omega) (fun c21 => ?_)
      exact hret _ 41 _ ⟨hI, hW⟩ hF dX12_restore_41
  · refine z_iconst F dX12_restore_13 ?_
    refine z_goto (tgt := 31) F dX12_restore_14 (by decide +kernel) ?_
    refine pf_X12_73 F hI gs_131 rfl bd_131_4 rfl rfl dX12_restore_31 (by omega) (by omega) (fun M23 hI sf22 f22 => ?_)
    have hF := hF.wr f22 (by decide) (by decide)
    have hW : WFk M23 := hW.site f22 (by decide)
    refine z_aload_n F dX12_restore_34 rfl (q := 0) rfl ?_
    refine gf_X12_73 F hI gs_131 rfl bd_131_4 dX12_restore_35 (fun v24 ev24 av24 bv24 => ?_)
    have zv24 : 1 = v24 := sf22.symm.trans ev24.symm
    subst zv24
    refine z_if_le (tgt := 42) F dX12_restore_38 (by decide +kernel) (by omega) (fun c25 => by exfalso; omega) (fun c25 => ?_)
    exact hret _ 41 _ ⟨hI, hW⟩ hF dX12_restore_41
set_option maxRecDepth 4000 in
theorem k_X12_count (l : Launch) (M : Mem) (hJ : Iw M) (x0 : Int) (hx0a : (-2147483648) ≤ x0) (hx0b : x0 ≤ 2147483647) : CI l yX12_count cX12_count 2 (some .int) 2 (fun ad => [.ref (ad 131), ii x0]) M (fun z M' => ((-2147483648) ≤ z ∧ z ≤ 2147483647) ∧ Fr [131] M M') := by
  obtain ⟨hI, hW⟩ := hJ
  have hF : Fr [131] M M := Fr.rf
  refine en_i (by decide +kernel) (fun ad => by exact Nat.le_of_ble_eq_true rfl) (fun D cy ad A p e s m args below meth c Q F hret => ?_)
  refine z_eq (ls' := [(0, .ref (ad 131)), (1, ii x0)]) rfl rfl rfl ?_
  refine z_aload_n F dX12_count_0 rfl (q := 0) rfl ?_
  refine z_iconst F dX12_count_1 ?_
  refine pf_X12_73 F hI gs_131 rfl bd_131_4 rfl rfl dX12_count_2 (by omega) (by omega) (fun M2 hI sf1 f1 => ?_)
  have hF := hF.wr f1 (by decide) (by decide)
  have hW : WFk M2 := hW.site f1 (by decide)
  refine z_iload_n F dX12_count_5 rfl (q := 1) rfl ?_
  rcases (show x0 = 0 ∨ x0 = 1 ∨ x0 = 2 ∨ x0 = 3 ∨ x0 = 4 ∨ x0 = 5 ∨ x0 = 6 ∨ x0 = 7 ∨ x0 = 8 ∨ x0 = 9 ∨ x0 = 10 ∨ (¬ x0 = 0 ∧ ¬ x0 = 1 ∧ ¬ x0 = 2 ∧ ¬ x0 = 3 ∧ ¬ x0 = 4 ∧ ¬ x0 = 5 ∧ ¬ x0 = 6 ∧ ¬ x0 = 7 ∧ ¬ x0 = 8 ∧ ¬ x0 = 9 ∧ ¬ x0 = 10) by omega) with c3 | c3 | c3 | c3 | c3 | c3 | c3 | c3 | c3 | c3 | c3 | c3
  · refine z_tabIn (tgt := 64) (off := 58) F dX12_count_6 (by omega) (by omega) (by omega) (by rw [c3]; rfl) (by decide +kernel) ?_
    refine z_aload_n F dX12_count_64 rfl (q := 0) rfl ?_
    refine rf_X12_9 F gs_131 rfl dX12_count_65 ?_
    refine z_iconst F dX12_count_68 ?_
    refine z_iald F hI gs_132 (by omega) (by omega) (by decide) (show Bd 132 0 = (-2147483648, 2147483647) from rfl) dX12_count_69 (fun v4 (ev4 : v4 = M2 132 0) av4 bv4 => ?_)
    exact hret _ _ 70 _ (by omega) ⟨hI, hW⟩ ⟨⟨by omega, by omega⟩, hF⟩ dX12_count_70
  · refine z_tabIn (tgt := 71) (off := 65) F dX12_count_6 (by omega) (by omega) (by omega) (by rw [c3]; rfl) (by decide +kernel) ?_
    refine z_aload_n F dX12_count_71 rfl (q := 0) rfl ?_
    refine zv_i (rest := []) F (k_X12_places l M2 ⟨hI, hW⟩) cs_X12_273 (T := TX12) (N := 44) (ci := 12) rfl gs_131 (by decide) (by decide) rfl rfl rfl (Nat.le_of_ble_eq_true rfl) dX12_count_72 (fun v5 M6 rv5 hI p7 => ?_)
    obtain ⟨hI, hW⟩ := hI
    obtain ⟨⟨av5, bv5⟩, rfl, xp7⟩ := p7
    exact hret _ _ 75 _ (by omega) ⟨hI, hW⟩ ⟨⟨by omega, by omega⟩, hF⟩ dX12_count_75
  · refine z_tabIn (tgt := 76) (off := 70) F dX12_count_6 (by omega) (by omega) (by omega) (by rw [c3]; rfl) (by decide +kernel) ?_
    refine z_aload_n F dX12_count_76 rfl (q := 0) rfl ?_
    refine zv_i (rest := []) F (k_X12_things l M2 ⟨hI, hW⟩) cs_X12_275 (T := TX12) (N := 44) (ci := 12) rfl gs_131 (by decide) (by decide) rfl rfl rfl (Nat.le_of_ble_eq_true rfl) dX12_count_77 (fun v8 M9 rv8 hI p10 => ?_)
    obtain ⟨hI, hW⟩ := hI
    obtain ⟨⟨av8, bv8⟩, rfl, xp10⟩ := p10
    exact hret _ _ 80 _ (by omega) ⟨hI, hW⟩ ⟨⟨by omega, by omega⟩, hF⟩ dX12_count_80
  · refine z_tabIn (tgt := 81) (off := 75) F dX12_count_6 (by omega) (by omega) (by omega) (by rw [c3]; rfl) (by decide +kernel) ?_
    refine z_aload_n F dX12_count_81 rfl (q := 0) rfl ?_
    refine rf_X12_9 F gs_131 rfl dX12_count_82 ?_
    refine z_iconst F dX12_count_85 ?_
    refine z_iald F hI gs_132 (by omega) (by omega) (by decide) (show Bd 132 3 = (-2147483648, 2147483647) from rfl) dX12_count_86 (fun v11 (ev11 : v11 = M2 132 3) av11 bv11 => ?_)
    exact hret _ _ 87 _ (by omega) ⟨hI, hW⟩ ⟨⟨by omega, by omega⟩, hF⟩ dX12_count_87
  · refine z_tabIn (tgt := 88) (off := 82) F dX12_count_6 (by omega) (by omega) (by omega) (by rw [c3]; rfl) (by decide +kernel) ?_
    refine z_aload_n F dX12_count_88 rfl (q := 0) rfl ?_
    refine rf_X12_9 F gs_131 rfl dX12_count_89 ?_
    refine z_iconst F dX12_count_92 ?_
    refine z_iald F hI gs_132 (by omega) (by omega) (by decide) (show Bd 132 4 = (0, 6) from rfl) dX12_count_93 (fun v12 (ev12 : v12 = M2 132 4) av12 bv12 => ?_)
    exact hret _ _ 94 _ (by omega) ⟨hI, hW⟩ ⟨⟨by omega, by omega⟩, hF⟩ dX12_count_94
  · refine z_tabIn (tgt := 95) (off := 89) F dX12_count_6 (by omega) (by omega) (by omega) (by rw [c3]; rfl) (by decide +kernel) ?_
    refine z_aload_n F dX12_count_95 rfl (q := 0) rfl ?_
    refine rf_X12_9 F gs_131 rfl dX12_count_96 ?_
    refine z_bipush F dX12_count_99 (by decide +kernel) ?_
    refine z_iald F hI gs_132 (by omega) (by omega) (by decide) (show Bd 132 24 = (-2147483648, 2147483647) from rfl) dX12_count_101 (fun v13 (ev13 : v13 = M2 132 24) av13 bv13 => ?_)
    exact hret _ _ 102 _ (by omega) ⟨hI, hW⟩ ⟨⟨by omega, by omega⟩, hF⟩ dX12_count_102
  · refine z_tabIn (tgt := 103) (off := 97) F dX12_count_6 (by omega) (by omega) (by omega) (by rw [c3]; rfl) (by decide +kernel) ?_
    refine z_aload_n F dX12_count_103 rfl (q := 0) rfl ?_
    refine rf_X12_9 F gs_131 rfl dX12_count_104 ?_
    refine z_bipush F dX12_count_107 (by decide +kernel) ?_
    refine z_iald F hI gs_132 (by omega) (by omega) (by decide) (show Bd 132 25 = (-2147483648, 2147483647) from rfl) dX12_count_109 (fun v14 (ev14 : v14 = M2 132 25) av14 bv14 => ?_)
    exact hret _ _ 110 _ (by omega) ⟨hI, hW⟩ ⟨⟨by omega, by omega⟩, hF⟩ dX12_count_110
  · refine z_tabIn (tgt := 111) (off := 105) F dX12_count_6 (by omega) (by omega) (by omega) (by rw [c3]; rfl) (by decide +kernel) ?_
    refine z_aload_n F dX12_count_111 rfl (q := 0) rfl ?_
    refine rf_X12_9 F gs_131 rfl dX12_count_112 ?_
    refine z_bipush F dX12_count_115 (by decide +kernel) ?_
    refine z_iald F hI gs_132 (by omega) (by omega) (by decide) (show Bd 132 7 = (0, 12) from rfl) dX12_count_117 (fun v15 (ev15 : v15 = M2 132 7) av15 bv15 => ?_)
    exact hret _ _ 118 _ (by omega) ⟨hI, hW⟩ ⟨⟨by omega, by omega⟩, hF⟩ dX12_count_118
  · refine z_tabIn (tgt := 119) (off := 113) F dX12_count_6 (by omega) (by omega) (by omega) (by rw [c3]; rfl) (by decide +kernel) ?_
    refine z_aload_n F dX12_count_119 rfl (q := 0) rfl ?_
    refine gf_X12_76 F hI gs_131 rfl bd_131_6 dX12_count_120 (fun v16 ev16 av16 bv16 => ?_)
    exact hret _ _ 123 _ (by omega) ⟨hI, hW⟩ ⟨⟨by omega, by omega⟩, hF⟩ dX12_count_123
  · refine z_tabIn (tgt := 124) (off := 118) F dX12_count_6 (by omega) (by omega) (by omega) (by rw [c3]; rfl) (by decide +kernel) ?_
    refine z_aload_n F dX12_count_124 rfl (q := 0) rfl ?_
    refine rf_X12_9 F gs_131 rfl dX12_count_125 ?_
    refine z_bipush F dX12_count_128 (by decide +kernel) ?_
    refine z_iald F hI gs_132 (by omega) (by omega) (by decide) (show Bd 132 6 = (0, 900) from rfl) dX12_count_130 (fun v17 (ev17 : v17 = M2 132 6) av17 bv17 => ?_)
    refine z_if_le (tgt := 138) F dX12_count_131 (by decide +kernel) (by omega) (fun c18 => ?_) (fun c18 => ?_)
    · refine z_iconst F dX12_count_138 ?_
      exact hret _ _ 139 _ (by omega) ⟨hI, hW⟩ ⟨⟨by omega, by omega⟩, hF⟩ dX12_count_139
    · refine z_iconst F dX12_count_134 ?_
      refine z_goto (tgt := 139) F dX12_count_135 (by decide +kernel) ?_
      exact hret _ _ 139 _ (by omega) ⟨hI, hW⟩ ⟨⟨by omega, by omega⟩, hF⟩ dX12_count_139
  · refine z_tabIn (tgt := 140) (off := 134) F dX12_count_6 (by omega) (by omega) (by omega) (by rw [c3]; rfl) (by decide +kernel) ?_
    refine z_aload_n F dX12_count_140 rfl (q := 0) rfl ?_
    refine zv_i (rest := []) F (k_X12_places l M2 ⟨hI, hW⟩) cs_X12_273 (T := TX12) (N := 44) (ci := 12) rfl gs_131 (by decide) (by decide) rfl rfl rfl (Nat.le_of_ble_eq_true rfl) dX12_count_141 (fun v19 M20 rv19 hI p21 => ?_)
    obtain ⟨hI, hW⟩ := hI
    obtain ⟨⟨av19, bv19⟩, rfl, xp21⟩ := p21
    refine z_aload_n F dX12_count_144 rfl (q := 0) rfl ?_
    refine zv_i (rest := [ii v19]) F (k_X12_things l M2 ⟨hI, hW⟩) cs_X12_275 (T := TX12) (N := 44) (ci := 12) rfl gs_131 (by decide) (by decide) rfl rfl rfl (Nat.le_of_ble_eq_true rfl) dX12_count_145 (fun v22 M23 rv22 hI p24 => ?_)
    obtain ⟨hI, hW⟩ := hI
    obtain ⟨⟨av22, bv22⟩, rfl, xp24⟩ := p24
    refine z_isub F dX12_count_148 ?_
    exact hret _ _ 149 _ (by omega) ⟨hI, hW⟩ ⟨⟨by omega, by omega⟩, hF⟩ dX12_count_149
  · refine z_tabOut (tgt := 150) F dX12_count_6 (by omega) (by omega) (by decide +kernel) ?_
    refine z_iconst F dX12_count_150 ?_
    exact hret _ _ 151 _ (by omega) ⟨hI, hW⟩ ⟨⟨by omega, by omega⟩, hF⟩ dX12_count_151
