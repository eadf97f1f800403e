theorem dX12_count_0 : decode cX12_count 0 = .ok (.aload_n 0, 1) := by decide +kernel
theorem dX12_count_1 : decode cX12_count 1 = .ok (.iconst 0, 1) := by decide +kernel
theorem dX12_count_101 : decode cX12_count 101 = .ok (.iaload, 1) := by decide +kernel
theorem dX12_count_102 : decode cX12_count 102 = .ok (.ireturn, 1) := by decide +kernel
theorem dX12_count_103 : decode cX12_count 103 = .ok (.aload_n 0, 1) := by decide +kernel
theorem dX12_count_104 : decode cX12_count 104 = .ok (.getfield 9, 3) := by decide +kernel
theorem dX12_count_107 : decode cX12_count 107 = .ok (.bipush 25, 2) := by decide +kernel
theorem dX12_count_109 : decode cX12_count 109 = .ok (.iaload, 1) := by decide +kernel
theorem dX12_count_110 : decode cX12_count 110 = .ok (.ireturn, 1) := by decide +kernel
theorem dX12_count_111 : decode cX12_count 111 = .ok (.aload_n 0, 1) := by decide +kernel
theorem dX12_count_112 : decode cX12_count 112 = .ok (.getfield 9, 3) := by decide +kernel
theorem dX12_count_115 : decode cX12_count 115 = .ok (.bipush 7, 2) := by decide +kernel
theorem dX12_count_117 : decode cX12_count 117 = .ok (.iaload, 1) := by decide +kernel
theorem dX12_count_118 : decode cX12_count 118 = .ok (.ireturn, 1) := by decide +kernel
theorem dX12_count_119 : decode cX12_count 119 = .ok (.aload_n 0, 1) := by decide +kernel
theorem dX12_count_120 : decode cX12_count 120 = .ok (.getfield 76, 3) := by decide +kernel
theorem dX12_count_123 : decode cX12_count 123 = .ok (.ireturn, 1) := by decide +kernel
theorem dX12_count_124 : decode cX12_count 124 = .ok (.aload_n 0, 1) := by decide +kernel
theorem dX12_count_125 : decode cX12_count 125 = .ok (.getfield 9, 3) := by decide +kernel
theorem dX12_count_128 : decode cX12_count 128 = .ok (.bipush 6, 2) := by decide +kernel
theorem dX12_count_130 : decode cX12_count 130 = .ok (.iaload, 1) := by decide +kernel
theorem dX12_count_131 : decode cX12_count 131 = .ok (.ifCond .le 7, 3) := by decide +kernel
theorem dX12_count_134 : decode cX12_count 134 = .ok (.iconst 1, 1) := by decide +kernel
theorem dX12_count_135 : decode cX12_count 135 = .ok (.goto 4, 3) := by decide +kernel
theorem dX12_count_138 : decode cX12_count 138 = .ok (.iconst 0, 1) := by decide +kernel
theorem dX12_count_139 : decode cX12_count 139 = .ok (.ireturn, 1) := by decide +kernel
theorem dX12_count_140 : decode cX12_count 140 = .ok (.aload_n 0, 1) := by decide +kernel
theorem dX12_count_141 : decode cX12_count 141 = .ok (.invokevirtual 273, 3) := by decide +kernel
theorem dX12_count_144 : decode cX12_count 144 = .ok (.aload_n 0, 1) := by decide +kernel
theorem dX12_count_145 : decode cX12_count 145 = .ok (.invokevirtual 275, 3) := by decide +kernel
theorem dX12_count_148 : decode cX12_count 148 = .ok (.isub, 1) := by decide +kernel
theorem dX12_count_149 : decode cX12_count 149 = .ok (.ireturn, 1) := by decide +kernel
theorem dX12_count_150 : decode cX12_count 150 = .ok (.iconst (-1), 1) := by decide +kernel
theorem dX12_count_151 : decode cX12_count 151 = .ok (.ireturn, 1) := by decide +kernel
theorem dX12_count_2 : decode cX12_count 2 = .ok (.putfield 73, 3) := by decide +kernel
theorem dX12_count_5 : decode cX12_count 5 = .ok (.iload_n 1, 1) := by decide +kernel
theorem dX12_count_6 : decode cX12_count 6 = .ok (.tableswitch 144 0 10 #[58, 65, 70, 75, 82, 89, 97, 105, 113, 118, 134], 58) := by decide +kernel
theorem dX12_count_64 : decode cX12_count 64 = .ok (.aload_n 0, 1) := by decide +kernel
theorem dX12_count_65 : decode cX12_count 65 = .ok (.getfield 9, 3) := by decide +kernel
theorem dX12_count_68 : decode cX12_count 68 = .ok (.iconst 0, 1) := by decide +kernel
theorem dX12_count_69 : decode cX12_count 69 = .ok (.iaload, 1) := by decide +kernel
theorem dX12_count_70 : decode cX12_count 70 = .ok (.ireturn, 1) := by decide +kernel
theorem dX12_count_71 : decode cX12_count 71 = .ok (.aload_n 0, 1) := by decide +kernel
theorem dX12_count_72 : decode cX12_count 72 = .ok (.invokevirtual 273, 3) := by decide +kernel
theorem dX12_count_75 : decode cX12_count 75 = .ok (.ireturn, 1) := by decide +kernel
theorem dX12_count_76 : decode cX12_count 76 = .ok (.aload_n 0, 1) := by decide +kernel
theorem dX12_count_77 : decode cX12_count 77 = .ok (.invokevirtual 275, 3) := by decide +kernel
theorem dX12_count_80 : decode cX12_count 80 = .ok (.ireturn, 1) := by decide +kernel
theorem dX12_count_81 : decode cX12_count 81 = .ok (.aload_n 0, 1) := by decide +kernel
theorem dX12_count_82 : decode cX12_count 82 = .ok (.getfield 9, 3) := by decide +kernel
theorem dX12_count_85 : decode cX12_count 85 = .ok (.iconst 3, 1) := by decide +kernel
theorem dX12_count_86 : decode cX12_count 86 = .ok (.iaload, 1) := by decide +kernel
theorem dX12_count_87 : decode cX12_count 87 = .ok (.ireturn, 1) := by decide +kernel
theorem dX12_count_88 : decode cX12_count 88 = .ok (.aload_n 0, 1) := by decide +kernel
theorem dX12_count_89 : decode cX12_count 89 = .ok (.getfield 9, 3) := by decide +kernel
theorem dX12_count_92 : decode cX12_count 92 = .ok (.iconst 4, 1) := by decide +kernel
theorem dX12_count_93 : decode cX12_count 93 = .ok (.iaload, 1) := by decide +kernel
theorem dX12_count_94 : decode cX12_count 94 = .ok (.ireturn, 1) := by decide +kernel
theorem dX12_count_95 : decode cX12_count 95 = .ok (.aload_n 0, 1) := by decide +kernel
theorem dX12_count_96 : decode cX12_count 96 = .ok (.getfield 9, 3) := by decide +kernel
theorem dX12_count_99 : decode cX12_count 99 = .ok (.bipush 24, 2) := by decide +kernel
theorem dX12_cut_0 : decode cX12_cut 0 = .ok (.bipush 64, 2) := by decide +kernel
theorem dX12_cut_10 : decode cX12_cut 10 = .ok (.ishl, 1) := by decide +kernel
theorem dX12_cut_11 : decode cX12_cut 11 = .ok (.isub, 1) := by decide +kernel
theorem dX12_cut_12 : decode cX12_cut 12 = .ok (.istore 5, 2) := by decide +kernel
theorem dX12_cut_14 : decode cX12_cut 14 = .ok (.aload_n 0, 1) := by decide +kernel
theorem dX12_cut_15 : decode cX12_cut 15 = .ok (.getfield 69, 3) := by decide +kernel
theorem dX12_cut_18 : decode cX12_cut 18 = .ok (.bipush 30, 2) := by decide +kernel
theorem dX12_cut_2 : decode cX12_cut 2 = .ok (.bipush 8, 2) := by decide +kernel
theorem dX12_cut_20 : decode cX12_cut 20 = .ok (.iload_n 1, 1) := by decide +kernel
theorem dX12_cut_21 : decode cX12_cut 21 = .ok (.imul, 1) := by decide +kernel
theorem dX12_cut_22 : decode cX12_cut 22 = .ok (.iload_n 2, 1) := by decide +kernel
theorem dX12_cut_23 : decode cX12_cut 23 = .ok (.iadd, 1) := by decide +kernel
theorem dX12_cut_24 : decode cX12_cut 24 = .ok (.lload_n 3, 1) := by decide +kernel
theorem dX12_cut_25 : decode cX12_cut 25 = .ok (.iload 5, 2) := by decide +kernel
theorem dX12_cut_27 : decode cX12_cut 27 = .ok (.lshl, 1) := by decide +kernel
theorem dX12_cut_28 : decode cX12_cut 28 = .ok (.iload 5, 2) := by decide +kernel
theorem dX12_cut_30 : decode cX12_cut 30 = .ok (.lshr, 1) := by decide +kernel
theorem dX12_cut_31 : decode cX12_cut 31 = .ok (.lastore, 1) := by decide +kernel
theorem dX12_cut_32 : decode cX12_cut 32 = .ok (.aload_n 0, 1) := by decide +kernel
theorem dX12_cut_33 : decode cX12_cut 33 = .ok (.getfield 69, 3) := by decide +kernel
theorem dX12_cut_36 : decode cX12_cut 36 = .ok (.bipush 30, 2) := by decide +kernel
theorem dX12_cut_38 : decode cX12_cut 38 = .ok (.iload_n 1, 1) := by decide +kernel
theorem dX12_cut_39 : decode cX12_cut 39 = .ok (.imul, 1) := by decide +kernel
theorem dX12_cut_4 : decode cX12_cut 4 = .ok (.aload_n 0, 1) := by decide +kernel
theorem dX12_cut_40 : decode cX12_cut 40 = .ok (.iload_n 2, 1) := by decide +kernel
theorem dX12_cut_41 : decode cX12_cut 41 = .ok (.iadd, 1) := by decide +kernel
theorem dX12_cut_42 : decode cX12_cut 42 = .ok (.laload, 1) := by decide +kernel
theorem dX12_cut_43 : decode cX12_cut 43 = .ok (.lreturn, 1) := by decide +kernel
theorem dX12_cut_5 : decode cX12_cut 5 = .ok (.getfield 63, 3) := by decide +kernel
theorem dX12_cut_8 : decode cX12_cut 8 = .ok (.iload_n 1, 1) := by decide +kernel
theorem dX12_cut_9 : decode cX12_cut 9 = .ok (.iaload, 1) := by decide +kernel
theorem dX12_image_0 : decode cX12_image 0 = .ok (.aload_n 0, 1) := by decide +kernel
theorem dX12_image_1 : decode cX12_image 1 = .ok (.iload_n 1, 1) := by decide +kernel
theorem dX12_image_10 : decode cX12_image 10 = .ok (.ifCond .eq 7, 3) := by decide +kernel
theorem dX12_image_13 : decode cX12_image 13 = .ok (.iconst 0, 1) := by decide +kernel
theorem dX12_image_14 : decode cX12_image 14 = .ok (.goto 4, 3) := by decide +kernel
theorem dX12_image_17 : decode cX12_image 17 = .ok (.iconst 1, 1) := by decide +kernel
theorem dX12_image_18 : decode cX12_image 18 = .ok (.putfield 73, 3) := by decide +kernel
theorem dX12_image_2 : decode cX12_image 2 = .ok (.i2l, 1) := by decide +kernel
theorem dX12_image_21 : decode cX12_image 21 = .ok (.aload_n 0, 1) := by decide +kernel
theorem dX12_image_22 : decode cX12_image 22 = .ok (.getfield 73, 3) := by decide +kernel
theorem dX12_image_25 : decode cX12_image 25 = .ok (.ifCond .le 4, 3) := by decide +kernel
theorem dX12_image_28 : decode cX12_image 28 = .ok (.return_, 1) := by decide +kernel
theorem dX12_image_29 : decode cX12_image 29 = .ok (.aload_n 0, 1) := by decide +kernel
theorem dX12_image_3 : decode cX12_image 3 = .ok (.lconst 0, 1) := by decide +kernel
theorem dX12_image_30 : decode cX12_image 30 = .ok (.getfield 19, 3) := by decide +kernel
theorem dX12_image_33 : decode cX12_image 33 = .ok (.iload_n 1, 1) := by decide +kernel
theorem dX12_image_34 : decode cX12_image 34 = .ok (.iconst 1, 1) := by decide +kernel
theorem dX12_image_35 : decode cX12_image 35 = .ok (.bastore, 1) := by decide +kernel
theorem dX12_image_36 : decode cX12_image 36 = .ok (.iconst 0, 1) := by decide +kernel
theorem dX12_image_37 : decode cX12_image 37 = .ok (.istore_n 2, 1) := by decide +kernel
theorem dX12_image_38 : decode cX12_image 38 = .ok (.iload_n 2, 1) := by decide +kernel
theorem dX12_image_39 : decode cX12_image 39 = .ok (.sipush 1300, 3) := by decide +kernel
theorem dX12_image_4 : decode cX12_image 4 = .ok (.ldc2_w 344, 3) := by decide +kernel
theorem dX12_image_42 : decode cX12_image 42 = .ok (.if_icmp .ge 27, 3) := by decide +kernel
theorem dX12_image_45 : decode cX12_image 45 = .ok (.aload_n 0, 1) := by decide +kernel
theorem dX12_image_46 : decode cX12_image 46 = .ok (.getfield 16, 3) := by decide +kernel
theorem dX12_image_49 : decode cX12_image 49 = .ok (.sipush 1300, 3) := by decide +kernel
theorem dX12_image_52 : decode cX12_image 52 = .ok (.iload_n 1, 1) := by decide +kernel
theorem dX12_image_53 : decode cX12_image 53 = .ok (.imul, 1) := by decide +kernel
theorem dX12_image_54 : decode cX12_image 54 = .ok (.iload_n 2, 1) := by decide +kernel
theorem dX12_image_55 : decode cX12_image 55 = .ok (.iadd, 1) := by decide +kernel
theorem dX12_image_56 : decode cX12_image 56 = .ok (.aload_n 0, 1) := by decide +kernel
theorem dX12_image_57 : decode cX12_image 57 = .ok (.getfield 9, 3) := by decide +kernel
theorem dX12_image_60 : decode cX12_image 60 = .ok (.iload_n 2, 1) := by decide +kernel
theorem dX12_image_61 : decode cX12_image 61 = .ok (.iaload, 1) := by decide +kernel
theorem dX12_image_62 : decode cX12_image 62 = .ok (.iastore, 1) := by decide +kernel
theorem dX12_image_63 : decode cX12_image 63 = .ok (.iinc 2 1, 3) := by decide +kernel
theorem dX12_image_66 : decode cX12_image 66 = .ok (.goto (-28), 3) := by decide +kernel
theorem dX12_image_69 : decode cX12_image 69 = .ok (.return_, 1) := by decide +kernel
theorem dX12_image_7 : decode cX12_image 7 = .ok (.invokestatic 137, 3) := by decide +kernel
theorem dX12_laysSeen_0 : decode cX12_laysSeen 0 = .ok (.aload_n 0, 1) := by decide +kernel
theorem dX12_laysSeen_1 : decode cX12_laysSeen 1 = .ok (.iconst 0, 1) := by decide +kernel
theorem dX12_laysSeen_12 : decode cX12_laysSeen 12 = .ok (.aload_n 0, 1) := by decide +kernel
theorem dX12_laysSeen_13 : decode cX12_laysSeen 13 = .ok (.getfield 60, 3) := by decide +kernel
theorem dX12_laysSeen_16 : decode cX12_laysSeen 16 = .ok (.iload_n 2, 1) := by decide +kernel
theorem dX12_laysSeen_17 : decode cX12_laysSeen 17 = .ok (.iconst 0, 1) := by decide +kernel
theorem dX12_laysSeen_18 : decode cX12_laysSeen 18 = .ok (.iastore, 1) := by decide +kernel
theorem dX12_laysSeen_19 : decode cX12_laysSeen 19 = .ok (.iinc 2 1, 3) := by decide +kernel
theorem dX12_laysSeen_2 : decode cX12_laysSeen 2 = .ok (.putfield 521, 3) := by decide +kernel
theorem dX12_laysSeen_22 : decode cX12_laysSeen 22 = .ok (.goto (-15), 3) := by decide +kernel
theorem dX12_laysSeen_25 : decode cX12_laysSeen 25 = .ok (.aload_n 0, 1) := by decide +kernel
theorem dX12_laysSeen_26 : decode cX12_laysSeen 26 = .ok (.iload_n 1, 1) := by decide +kernel
theorem dX12_laysSeen_27 : decode cX12_laysSeen 27 = .ok (.iconst 0, 1) := by decide +kernel
theorem dX12_laysSeen_28 : decode cX12_laysSeen 28 = .ok (.invokevirtual 524, 3) := by decide +kernel
theorem dX12_laysSeen_31 : decode cX12_laysSeen 31 = .ok (.return_, 1) := by decide +kernel
theorem dX12_laysSeen_5 : decode cX12_laysSeen 5 = .ok (.iconst 0, 1) := by decide +kernel
theorem dX12_laysSeen_6 : decode cX12_laysSeen 6 = .ok (.istore_n 2, 1) := by decide +kernel
theorem dX12_laysSeen_7 : decode cX12_laysSeen 7 = .ok (.iload_n 2, 1) := by decide +kernel
theorem dX12_laysSeen_8 : decode cX12_laysSeen 8 = .ok (.iconst 4, 1) := by decide +kernel
theorem dX12_laysSeen_9 : decode cX12_laysSeen 9 = .ok (.if_icmp .ge 16, 3) := by decide +kernel
theorem dX12_pour_0 : decode cX12_pour 0 = .ok (.aload_n 0, 1) := by decide +kernel
theorem dX12_pour_1 : decode cX12_pour 1 = .ok (.aload_n 0, 1) := by decide +kernel
theorem dX12_pour_10 : decode cX12_pour 10 = .ok (.getfield 73, 3) := by decide +kernel
theorem dX12_pour_13 : decode cX12_pour 13 = .ok (.ifCond .le 5, 3) := by decide +kernel
theorem dX12_pour_16 : decode cX12_pour 16 = .ok (.iconst 0, 1) := by decide +kernel
theorem dX12_pour_17 : decode cX12_pour 17 = .ok (.ireturn, 1) := by decide +kernel
theorem dX12_pour_18 : decode cX12_pour 18 = .ok (.aload_n 0, 1) := by decide +kernel
theorem dX12_pour_19 : decode cX12_pour 19 = .ok (.getfield 66, 3) := by decide +kernel
theorem dX12_pour_2 : decode cX12_pour 2 = .ok (.iload_n 1, 1) := by decide +kernel
theorem dX12_pour_22 : decode cX12_pour 22 = .ok (.iload_n 1, 1) := by decide +kernel
theorem dX12_pour_23 : decode cX12_pour 23 = .ok (.iaload, 1) := by decide +kernel
theorem dX12_pour_24 : decode cX12_pour 24 = .ok (.aload_n 0, 1) := by decide +kernel
theorem dX12_pour_25 : decode cX12_pour 25 = .ok (.invokevirtual 275, 3) := by decide +kernel
theorem dX12_pour_28 : decode cX12_pour 28 = .ok (.invokestatic 309, 3) := by decide +kernel
theorem dX12_pour_3 : decode cX12_pour 3 = .ok (.invokevirtual 401, 3) := by decide +kernel
theorem dX12_pour_31 : decode cX12_pour 31 = .ok (.istore_n 2, 1) := by decide +kernel
theorem dX12_pour_32 : decode cX12_pour 32 = .ok (.iconst 0, 1) := by decide +kernel
theorem dX12_pour_33 : decode cX12_pour 33 = .ok (.istore_n 3, 1) := by decide +kernel
theorem dX12_pour_34 : decode cX12_pour 34 = .ok (.iload_n 3, 1) := by decide +kernel
theorem dX12_pour_35 : decode cX12_pour 35 = .ok (.iload_n 2, 1) := by decide +kernel
theorem dX12_pour_36 : decode cX12_pour 36 = .ok (.if_icmp .ge 22, 3) := by decide +kernel
theorem dX12_pour_39 : decode cX12_pour 39 = .ok (.aload_n 0, 1) := by decide +kernel
theorem dX12_pour_40 : decode cX12_pour 40 = .ok (.iload_n 1, 1) := by decide +kernel
theorem dX12_pour_41 : decode cX12_pour 41 = .ok (.iload_n 3, 1) := by decide +kernel
theorem dX12_pour_42 : decode cX12_pour 42 = .ok (.aload_n 0, 1) := by decide +kernel
theorem dX12_pour_43 : decode cX12_pour 43 = .ok (.iload_n 3, 1) := by decide +kernel
theorem dX12_pour_44 : decode cX12_pour 44 = .ok (.invokevirtual 317, 3) := by decide +kernel
theorem dX12_pour_47 : decode cX12_pour 47 = .ok (.i2l, 1) := by decide +kernel
theorem dX12_pour_48 : decode cX12_pour 48 = .ok (.invokevirtual 535, 3) := by decide +kernel
theorem dX12_pour_51 : decode cX12_pour 51 = .ok (.pop2, 1) := by decide +kernel
theorem dX12_pour_52 : decode cX12_pour 52 = .ok (.iinc 3 1, 3) := by decide +kernel
theorem dX12_pour_55 : decode cX12_pour 55 = .ok (.goto (-21), 3) := by decide +kernel
theorem dX12_pour_58 : decode cX12_pour 58 = .ok (.iload_n 2, 1) := by decide +kernel
theorem dX12_pour_59 : decode cX12_pour 59 = .ok (.ireturn, 1) := by decide +kernel
theorem dX12_pour_6 : decode cX12_pour 6 = .ok (.putfield 73, 3) := by decide +kernel
theorem dX12_pour_9 : decode cX12_pour 9 = .ok (.aload_n 0, 1) := by decide +kernel
theorem dX12_restore_0 : decode cX12_restore 0 = .ok (.aload_n 0, 1) := by decide +kernel
theorem dX12_restore_1 : decode cX12_restore 1 = .ok (.iload_n 1, 1) := by decide +kernel
theorem dX12_restore_10 : decode cX12_restore 10 = .ok (.ifCond .ne 7, 3) := by decide +kernel
theorem dX12_restore_13 : decode cX12_restore 13 = .ok (.iconst 1, 1) := by decide +kernel
theorem dX12_restore_14 : decode cX12_restore 14 = .ok (.goto 17, 3) := by decide +kernel
theorem dX12_restore_17 : decode cX12_restore 17 = .ok (.aload_n 0, 1) := by decide +kernel
theorem dX12_restore_18 : decode cX12_restore 18 = .ok (.getfield 19, 3) := by decide +kernel
theorem dX12_restore_2 : decode cX12_restore 2 = .ok (.i2l, 1) := by decide +kernel
theorem dX12_restore_21 : decode cX12_restore 21 = .ok (.iload_n 1, 1) := by decide +kernel
theorem dX12_restore_22 : decode cX12_restore 22 = .ok (.baload, 1) := by decide +kernel
theorem dX12_restore_23 : decode cX12_restore 23 = .ok (.ifCond .ne 7, 3) := by decide +kernel
theorem dX12_restore_26 : decode cX12_restore 26 = .ok (.iconst 2, 1) := by decide +kernel
theorem dX12_restore_27 : decode cX12_restore 27 = .ok (.goto 4, 3) := by decide +kernel
theorem dX12_restore_3 : decode cX12_restore 3 = .ok (.lconst 0, 1) := by decide +kernel
theorem dX12_restore_30 : decode cX12_restore 30 = .ok (.iconst 0, 1) := by decide +kernel
theorem dX12_restore_31 : decode cX12_restore 31 = .ok (.putfield 73, 3) := by decide +kernel
theorem dX12_restore_34 : decode cX12_restore 34 = .ok (.aload_n 0, 1) := by decide +kernel
theorem dX12_restore_35 : decode cX12_restore 35 = .ok (.getfield 73, 3) := by decide +kernel
theorem dX12_restore_38 : decode cX12_restore 38 = .ok (.ifCond .le 4, 3) := by decide +kernel
theorem dX12_restore_4 : decode cX12_restore 4 = .ok (.ldc2_w 344, 3) := by decide +kernel
theorem dX12_restore_41 : decode cX12_restore 41 = .ok (.return_, 1) := by decide +kernel
theorem dX12_restore_42 : decode cX12_restore 42 = .ok (.iconst 0, 1) := by decide +kernel
theorem dX12_restore_43 : decode cX12_restore 43 = .ok (.istore_n 2, 1) := by decide +kernel
theorem dX12_restore_44 : decode cX12_restore 44 = .ok (.iload_n 2, 1) := by decide +kernel
theorem dX12_restore_45 : decode cX12_restore 45 = .ok (.sipush 1300, 3) := by decide +kernel
theorem dX12_restore_48 : decode cX12_restore 48 = .ok (.if_icmp .ge 27, 3) := by decide +kernel
theorem dX12_restore_51 : decode cX12_restore 51 = .ok (.aload_n 0, 1) := by decide +kernel
theorem dX12_restore_52 : decode cX12_restore 52 = .ok (.getfield 9, 3) := by decide +kernel
theorem dX12_restore_55 : decode cX12_restore 55 = .ok (.iload_n 2, 1) := by decide +kernel
theorem dX12_restore_56 : decode cX12_restore 56 = .ok (.aload_n 0, 1) := by decide +kernel
theorem dX12_restore_57 : decode cX12_restore 57 = .ok (.getfield 16, 3) := by decide +kernel
theorem dX12_restore_60 : decode cX12_restore 60 = .ok (.sipush 1300, 3) := by decide +kernel
theorem dX12_restore_63 : decode cX12_restore 63 = .ok (.iload_n 1, 1) := by decide +kernel
theorem dX12_restore_64 : decode cX12_restore 64 = .ok (.imul, 1) := by decide +kernel
theorem dX12_restore_65 : decode cX12_restore 65 = .ok (.iload_n 2, 1) := by decide +kernel
theorem dX12_restore_66 : decode cX12_restore 66 = .ok (.iadd, 1) := by decide +kernel
theorem dX12_restore_67 : decode cX12_restore 67 = .ok (.iaload, 1) := by decide +kernel
theorem dX12_restore_68 : decode cX12_restore 68 = .ok (.iastore, 1) := by decide +kernel
theorem dX12_restore_69 : decode cX12_restore 69 = .ok (.iinc 2 1, 3) := by decide +kernel
theorem dX12_restore_7 : decode cX12_restore 7 = .ok (.invokestatic 137, 3) := by decide +kernel
theorem dX12_restore_72 : decode cX12_restore 72 = .ok (.goto (-28), 3) := by decide +kernel
theorem dX12_restore_75 : decode cX12_restore 75 = .ok (.return_, 1) := by decide +kernel
theorem dX12_seenFault_0 : decode cX12_seenFault 0 = .ok (.aload_n 0, 1) := by decide +kernel
theorem dX12_seenFault_1 : decode cX12_seenFault 1 = .ok (.iload_n 1, 1) := by decide +kernel
theorem dX12_seenFault_10 : decode cX12_seenFault 10 = .ok (.iload_n 2, 1) := by decide +kernel
theorem dX12_seenFault_11 : decode cX12_seenFault 11 = .ok (.ireturn, 1) := by decide +kernel
theorem dX12_seenFault_12 : decode cX12_seenFault 12 = .ok (.aload_n 0, 1) := by decide +kernel
theorem dX12_seenFault_13 : decode cX12_seenFault 13 = .ok (.getfield 66, 3) := by decide +kernel
theorem dX12_seenFault_16 : decode cX12_seenFault 16 = .ok (.iload_n 1, 1) := by decide +kernel
theorem dX12_seenFault_17 : decode cX12_seenFault 17 = .ok (.iaload, 1) := by decide +kernel
theorem dX12_seenFault_18 : decode cX12_seenFault 18 = .ok (.i2l, 1) := by decide +kernel
theorem dX12_seenFault_19 : decode cX12_seenFault 19 = .ok (.lconst 1, 1) := by decide +kernel
theorem dX12_seenFault_2 : decode cX12_seenFault 2 = .ok (.invokevirtual 401, 3) := by decide +kernel
theorem dX12_seenFault_20 : decode cX12_seenFault 20 = .ok (.ldc2_w 527, 3) := by decide +kernel
theorem dX12_seenFault_23 : decode cX12_seenFault 23 = .ok (.invokestatic 137, 3) := by decide +kernel
theorem dX12_seenFault_26 : decode cX12_seenFault 26 = .ok (.ifCond .ne 5, 3) := by decide +kernel
theorem dX12_seenFault_29 : decode cX12_seenFault 29 = .ok (.iconst 3, 1) := by decide +kernel
theorem dX12_seenFault_30 : decode cX12_seenFault 30 = .ok (.ireturn, 1) := by decide +kernel
theorem dX12_seenFault_31 : decode cX12_seenFault 31 = .ok (.iconst 0, 1) := by decide +kernel
theorem dX12_seenFault_32 : decode cX12_seenFault 32 = .ok (.istore_n 3, 1) := by decide +kernel
theorem dX12_seenFault_33 : decode cX12_seenFault 33 = .ok (.iload_n 3, 1) := by decide +kernel
theorem dX12_seenFault_34 : decode cX12_seenFault 34 = .ok (.aload_n 0, 1) := by decide +kernel
theorem dX12_seenFault_35 : decode cX12_seenFault 35 = .ok (.getfield 66, 3) := by decide +kernel
theorem dX12_seenFault_38 : decode cX12_seenFault 38 = .ok (.iload_n 1, 1) := by decide +kernel
theorem dX12_seenFault_39 : decode cX12_seenFault 39 = .ok (.iaload, 1) := by decide +kernel
theorem dX12_seenFault_40 : decode cX12_seenFault 40 = .ok (.if_icmp .ge 29, 3) := by decide +kernel
theorem dX12_seenFault_43 : decode cX12_seenFault 43 = .ok (.aload_n 0, 1) := by decide +kernel
theorem dX12_seenFault_44 : decode cX12_seenFault 44 = .ok (.getfield 69, 3) := by decide +kernel
theorem dX12_seenFault_47 : decode cX12_seenFault 47 = .ok (.bipush 30, 2) := by decide +kernel
theorem dX12_seenFault_49 : decode cX12_seenFault 49 = .ok (.iload_n 1, 1) := by decide +kernel
theorem dX12_seenFault_5 : decode cX12_seenFault 5 = .ok (.istore_n 2, 1) := by decide +kernel
theorem dX12_seenFault_50 : decode cX12_seenFault 50 = .ok (.imul, 1) := by decide +kernel
theorem dX12_seenFault_51 : decode cX12_seenFault 51 = .ok (.iload_n 3, 1) := by decide +kernel
theorem dX12_seenFault_52 : decode cX12_seenFault 52 = .ok (.iadd, 1) := by decide +kernel
theorem dX12_seenFault_53 : decode cX12_seenFault 53 = .ok (.laload, 1) := by decide +kernel
theorem dX12_seenFault_54 : decode cX12_seenFault 54 = .ok (.ldc2_w 393, 3) := by decide +kernel
theorem dX12_seenFault_57 : decode cX12_seenFault 57 = .ok (.lcmp, 1) := by decide +kernel
theorem dX12_seenFault_58 : decode cX12_seenFault 58 = .ok (.ifCond .ge 5, 3) := by decide +kernel
theorem dX12_seenFault_6 : decode cX12_seenFault 6 = .ok (.iload_n 2, 1) := by decide +kernel
theorem dX12_seenFault_61 : decode cX12_seenFault 61 = .ok (.iconst 3, 1) := by decide +kernel
theorem dX12_seenFault_62 : decode cX12_seenFault 62 = .ok (.ireturn, 1) := by decide +kernel
theorem dX12_seenFault_63 : decode cX12_seenFault 63 = .ok (.iinc 3 1, 3) := by decide +kernel
theorem dX12_seenFault_66 : decode cX12_seenFault 66 = .ok (.goto (-33), 3) := by decide +kernel
theorem dX12_seenFault_69 : decode cX12_seenFault 69 = .ok (.iconst 0, 1) := by decide +kernel
theorem dX12_seenFault_7 : decode cX12_seenFault 7 = .ok (.ifCond .eq 5, 3) := by decide +kernel
theorem dX12_seenFault_70 : decode cX12_seenFault 70 = .ok (.ireturn, 1) := by decide +kernel
theorem dX12_seen_0 : decode cX12_seen 0 = .ok (.aload_n 0, 1) := by decide +kernel
theorem dX12_seen_1 : decode cX12_seen 1 = .ok (.aload_n 0, 1) := by decide +kernel
theorem dX12_seen_10 : decode cX12_seen 10 = .ok (.getfield 73, 3) := by decide +kernel
theorem dX12_seen_13 : decode cX12_seen 13 = .ok (.ifCond .le 5, 3) := by decide +kernel
theorem dX12_seen_16 : decode cX12_seen 16 = .ok (.iconst 0, 1) := by decide +kernel
theorem dX12_seen_17 : decode cX12_seen 17 = .ok (.ireturn, 1) := by decide +kernel
theorem dX12_seen_18 : decode cX12_seen 18 = .ok (.aload_n 0, 1) := by decide +kernel
theorem dX12_seen_19 : decode cX12_seen 19 = .ok (.iload_n 1, 1) := by decide +kernel
theorem dX12_seen_2 : decode cX12_seen 2 = .ok (.iload_n 1, 1) := by decide +kernel
theorem dX12_seen_20 : decode cX12_seen 20 = .ok (.invokevirtual 532, 3) := by decide +kernel
theorem dX12_seen_23 : decode cX12_seen 23 = .ok (.aload_n 0, 1) := by decide +kernel
theorem dX12_seen_24 : decode cX12_seen 24 = .ok (.getfield 521, 3) := by decide +kernel
theorem dX12_seen_27 : decode cX12_seen 27 = .ok (.ireturn, 1) := by decide +kernel
theorem dX12_seen_3 : decode cX12_seen 3 = .ok (.invokevirtual 529, 3) := by decide +kernel
theorem dX12_seen_6 : decode cX12_seen 6 = .ok (.putfield 73, 3) := by decide +kernel
theorem dX12_seen_9 : decode cX12_seen 9 = .ok (.aload_n 0, 1) := by decide +kernel
theorem dX12_sure_0 : decode cX12_sure 0 = .ok (.aload_n 0, 1) := by decide +kernel
theorem dX12_sure_1 : decode cX12_sure 1 = .ok (.aload_n 0, 1) := by decide +kernel
theorem dX12_sure_10 : decode cX12_sure 10 = .ok (.getfield 73, 3) := by decide +kernel
theorem dX12_sure_102 : decode cX12_sure 102 = .ok (.iload_n 3, 1) := by decide +kernel
theorem dX12_sure_103 : decode cX12_sure 103 = .ok (.ireturn, 1) := by decide +kernel
theorem dX12_sure_13 : decode cX12_sure 13 = .ok (.ifCond .ne 26, 3) := by decide +kernel
theorem dX12_sure_16 : decode cX12_sure 16 = .ok (.iload_n 2, 1) := by decide +kernel
theorem dX12_sure_17 : decode cX12_sure 17 = .ok (.i2l, 1) := by decide +kernel
theorem dX12_sure_18 : decode cX12_sure 18 = .ok (.lconst 0, 1) := by decide +kernel
theorem dX12_sure_19 : decode cX12_sure 19 = .ok (.aload_n 0, 1) := by decide +kernel
theorem dX12_sure_2 : decode cX12_sure 2 = .ok (.iload_n 1, 1) := by decide +kernel
theorem dX12_sure_20 : decode cX12_sure 20 = .ok (.getfield 66, 3) := by decide +kernel
theorem dX12_sure_23 : decode cX12_sure 23 = .ok (.iload_n 1, 1) := by decide +kernel
theorem dX12_sure_24 : decode cX12_sure 24 = .ok (.iaload, 1) := by decide +kernel
theorem dX12_sure_25 : decode cX12_sure 25 = .ok (.iconst 1, 1) := by decide +kernel
theorem dX12_sure_26 : decode cX12_sure 26 = .ok (.isub, 1) := by decide +kernel
theorem dX12_sure_27 : decode cX12_sure 27 = .ok (.i2l, 1) := by decide +kernel
theorem dX12_sure_28 : decode cX12_sure 28 = .ok (.invokestatic 137, 3) := by decide +kernel
theorem dX12_sure_3 : decode cX12_sure 3 = .ok (.invokevirtual 529, 3) := by decide +kernel
theorem dX12_sure_31 : decode cX12_sure 31 = .ok (.ifCond .ne 8, 3) := by decide +kernel
theorem dX12_sure_34 : decode cX12_sure 34 = .ok (.aload_n 0, 1) := by decide +kernel
theorem dX12_sure_35 : decode cX12_sure 35 = .ok (.iconst 3, 1) := by decide +kernel
theorem dX12_sure_36 : decode cX12_sure 36 = .ok (.putfield 73, 3) := by decide +kernel
theorem dX12_sure_39 : decode cX12_sure 39 = .ok (.aload_n 0, 1) := by decide +kernel
theorem dX12_sure_40 : decode cX12_sure 40 = .ok (.getfield 73, 3) := by decide +kernel
theorem dX12_sure_43 : decode cX12_sure 43 = .ok (.ifCond .le 5, 3) := by decide +kernel
theorem dX12_sure_46 : decode cX12_sure 46 = .ok (.iconst 0, 1) := by decide +kernel
theorem dX12_sure_47 : decode cX12_sure 47 = .ok (.ireturn, 1) := by decide +kernel
theorem dX12_sure_48 : decode cX12_sure 48 = .ok (.aload_n 0, 1) := by decide +kernel
theorem dX12_sure_49 : decode cX12_sure 49 = .ok (.iload_n 1, 1) := by decide +kernel
theorem dX12_sure_50 : decode cX12_sure 50 = .ok (.invokevirtual 532, 3) := by decide +kernel
theorem dX12_sure_53 : decode cX12_sure 53 = .ok (.aload_n 0, 1) := by decide +kernel
theorem dX12_sure_54 : decode cX12_sure 54 = .ok (.getfield 60, 3) := by decide +kernel
theorem dX12_sure_57 : decode cX12_sure 57 = .ok (.iload_n 2, 1) := by decide +kernel
theorem dX12_sure_58 : decode cX12_sure 58 = .ok (.iaload, 1) := by decide +kernel
theorem dX12_sure_59 : decode cX12_sure 59 = .ok (.invokestatic 332, 3) := by decide +kernel
theorem dX12_sure_6 : decode cX12_sure 6 = .ok (.putfield 73, 3) := by decide +kernel
theorem dX12_sure_62 : decode cX12_sure 62 = .ok (.iconst 1, 1) := by decide +kernel
theorem dX12_sure_63 : decode cX12_sure 63 = .ok (.if_icmp .eq 6, 3) := by decide +kernel
theorem dX12_sure_66 : decode cX12_sure 66 = .ok (.bipush (-2), 2) := by decide +kernel
theorem dX12_sure_68 : decode cX12_sure 68 = .ok (.ireturn, 1) := by decide +kernel
theorem dX12_sure_69 : decode cX12_sure 69 = .ok (.iconst 0, 1) := by decide +kernel
theorem dX12_sure_70 : decode cX12_sure 70 = .ok (.istore_n 3, 1) := by decide +kernel
theorem dX12_sure_71 : decode cX12_sure 71 = .ok (.aload_n 0, 1) := by decide +kernel
theorem dX12_sure_72 : decode cX12_sure 72 = .ok (.getfield 60, 3) := by decide +kernel
theorem dX12_sure_75 : decode cX12_sure 75 = .ok (.iload_n 2, 1) := by decide +kernel
theorem dX12_sure_76 : decode cX12_sure 76 = .ok (.iaload, 1) := by decide +kernel
theorem dX12_sure_77 : decode cX12_sure 77 = .ok (.iload_n 3, 1) := by decide +kernel
theorem dX12_sure_78 : decode cX12_sure 78 = .ok (.invokestatic 346, 3) := by decide +kernel
theorem dX12_sure_81 : decode cX12_sure 81 = .ok (.ifCond .ne 9, 3) := by decide +kernel
theorem dX12_sure_84 : decode cX12_sure 84 = .ok (.iinc 3 1, 3) := by decide +kernel
theorem dX12_sure_87 : decode cX12_sure 87 = .ok (.goto (-16), 3) := by decide +kernel
theorem dX12_sure_9 : decode cX12_sure 9 = .ok (.aload_n 0, 1) := by decide +kernel
theorem dX12_sure_90 : decode cX12_sure 90 = .ok (.iload_n 3, 1) := by decide +kernel
theorem dX12_sure_91 : decode cX12_sure 91 = .ok (.aload_n 0, 1) := by decide +kernel
theorem dX12_sure_92 : decode cX12_sure 92 = .ok (.invokevirtual 275, 3) := by decide +kernel
theorem dX12_sure_95 : decode cX12_sure 95 = .ok (.if_icmp .ne 7, 3) := by decide +kernel
theorem dX12_sure_98 : decode cX12_sure 98 = .ok (.iconst (-1), 1) := by decide +kernel
theorem dX12_sure_99 : decode cX12_sure 99 = .ok (.goto 4, 3) := by decide +kernel
theorem dX12_tray_0 : decode cX12_tray 0 = .ok (.aload_n 0, 1) := by decide +kernel
theorem dX12_tray_1 : decode cX12_tray 1 = .ok (.iload_n 1, 1) := by decide +kernel
theorem dX12_tray_12 : decode cX12_tray 12 = .ok (.iload_n 2, 1) := by decide +kernel
theorem dX12_tray_13 : decode cX12_tray 13 = .ok (.i2l, 1) := by decide +kernel
theorem dX12_tray_14 : decode cX12_tray 14 = .ok (.lconst 0, 1) := by decide +kernel
theorem dX12_tray_15 : decode cX12_tray 15 = .ok (.ldc2_w 404, 3) := by decide +kernel
theorem dX12_tray_18 : decode cX12_tray 18 = .ok (.invokestatic 137, 3) := by decide +kernel
theorem dX12_tray_2 : decode cX12_tray 2 = .ok (.invokestatic 390, 3) := by decide +kernel
theorem dX12_tray_21 : decode cX12_tray 21 = .ok (.ifCond .eq 15, 3) := by decide +kernel
theorem dX12_tray_24 : decode cX12_tray 24 = .ok (.iload_n 3, 1) := by decide +kernel
theorem dX12_tray_25 : decode cX12_tray 25 = .ok (.i2l, 1) := by decide +kernel
theorem dX12_tray_26 : decode cX12_tray 26 = .ok (.lconst 0, 1) := by decide +kernel
theorem dX12_tray_27 : decode cX12_tray 27 = .ok (.ldc2_w 422, 3) := by decide +kernel
theorem dX12_tray_30 : decode cX12_tray 30 = .ok (.invokestatic 137, 3) := by decide +kernel
theorem dX12_tray_33 : decode cX12_tray 33 = .ok (.ifCond .ne 7, 3) := by decide +kernel
theorem dX12_tray_36 : decode cX12_tray 36 = .ok (.iconst 2, 1) := by decide +kernel
theorem dX12_tray_37 : decode cX12_tray 37 = .ok (.goto 4, 3) := by decide +kernel
theorem dX12_tray_40 : decode cX12_tray 40 = .ok (.iconst 0, 1) := by decide +kernel
theorem dX12_tray_41 : decode cX12_tray 41 = .ok (.putfield 73, 3) := by decide +kernel
theorem dX12_tray_44 : decode cX12_tray 44 = .ok (.aload_n 0, 1) := by decide +kernel
theorem dX12_tray_45 : decode cX12_tray 45 = .ok (.getfield 73, 3) := by decide +kernel
theorem dX12_tray_48 : decode cX12_tray 48 = .ok (.ifCond .le 4, 3) := by decide +kernel
theorem dX12_tray_5 : decode cX12_tray 5 = .ok (.ifCond .ne 7, 3) := by decide +kernel
theorem dX12_tray_51 : decode cX12_tray 51 = .ok (.return_, 1) := by decide +kernel
theorem dX12_tray_52 : decode cX12_tray 52 = .ok (.aload_n 0, 1) := by decide +kernel
theorem dX12_tray_53 : decode cX12_tray 53 = .ok (.getfield 63, 3) := by decide +kernel
theorem dX12_tray_56 : decode cX12_tray 56 = .ok (.iload_n 1, 1) := by decide +kernel
theorem dX12_tray_57 : decode cX12_tray 57 = .ok (.iload_n 2, 1) := by decide +kernel
theorem dX12_tray_58 : decode cX12_tray 58 = .ok (.iastore, 1) := by decide +kernel
theorem dX12_tray_59 : decode cX12_tray 59 = .ok (.aload_n 0, 1) := by decide +kernel
theorem dX12_tray_60 : decode cX12_tray 60 = .ok (.getfield 66, 3) := by decide +kernel
theorem dX12_tray_63 : decode cX12_tray 63 = .ok (.iload_n 1, 1) := by decide +kernel
theorem dX12_tray_64 : decode cX12_tray 64 = .ok (.iload_n 3, 1) := by decide +kernel
theorem dX12_tray_65 : decode cX12_tray 65 = .ok (.iastore, 1) := by decide +kernel
theorem dX12_tray_66 : decode cX12_tray 66 = .ok (.iconst 0, 1) := by decide +kernel
theorem dX12_tray_67 : decode cX12_tray 67 = .ok (.istore 4, 2) := by decide +kernel
theorem dX12_tray_69 : decode cX12_tray 69 = .ok (.iload 4, 2) := by decide +kernel
theorem dX12_tray_71 : decode cX12_tray 71 = .ok (.bipush 30, 2) := by decide +kernel
theorem dX12_tray_73 : decode cX12_tray 73 = .ok (.if_icmp .ge 22, 3) := by decide +kernel
theorem dX12_tray_76 : decode cX12_tray 76 = .ok (.aload_n 0, 1) := by decide +kernel
theorem dX12_tray_77 : decode cX12_tray 77 = .ok (.getfield 69, 3) := by decide +kernel
theorem dX12_tray_8 : decode cX12_tray 8 = .ok (.iconst 1, 1) := by decide +kernel
theorem dX12_tray_80 : decode cX12_tray 80 = .ok (.bipush 30, 2) := by decide +kernel
theorem dX12_tray_82 : decode cX12_tray 82 = .ok (.iload_n 1, 1) := by decide +kernel
theorem dX12_tray_83 : decode cX12_tray 83 = .ok (.imul, 1) := by decide +kernel
theorem dX12_tray_84 : decode cX12_tray 84 = .ok (.iload 4, 2) := by decide +kernel
theorem dX12_tray_86 : decode cX12_tray 86 = .ok (.iadd, 1) := by decide +kernel
theorem dX12_tray_87 : decode cX12_tray 87 = .ok (.lconst 0, 1) := by decide +kernel
theorem dX12_tray_88 : decode cX12_tray 88 = .ok (.lastore, 1) := by decide +kernel
theorem dX12_tray_89 : decode cX12_tray 89 = .ok (.iinc 4 1, 3) := by decide +kernel
theorem dX12_tray_9 : decode cX12_tray 9 = .ok (.goto 32, 3) := by decide +kernel
theorem dX12_tray_92 : decode cX12_tray 92 = .ok (.goto (-23), 3) := by decide +kernel
theorem dX12_tray_95 : decode cX12_tray 95 = .ok (.return_, 1) := by decide +kernel
theorem dX12_write_0 : decode cX12_write 0 = .ok (.aload_n 0, 1) := by decide +kernel
theorem dX12_write_1 : decode cX12_write 1 = .ok (.aload_n 0, 1) := by decide +kernel
theorem dX12_write_10 : decode cX12_write 10 = .ok (.getfield 73, 3) := by decide +kernel
theorem dX12_write_13 : decode cX12_write 13 = .ok (.ifCond .le 5, 3) := by decide +kernel
theorem dX12_write_16 : decode cX12_write 16 = .ok (.lconst 0, 1) := by decide +kernel
theorem dX12_write_17 : decode cX12_write 17 = .ok (.lreturn, 1) := by decide +kernel
theorem dX12_write_18 : decode cX12_write 18 = .ok (.iload_n 2, 1) := by decide +kernel
theorem dX12_write_19 : decode cX12_write 19 = .ok (.i2l, 1) := by decide +kernel
theorem dX12_write_2 : decode cX12_write 2 = .ok (.iload_n 1, 1) := by decide +kernel
theorem dX12_write_20 : decode cX12_write 20 = .ok (.lconst 0, 1) := by decide +kernel
theorem dX12_write_21 : decode cX12_write 21 = .ok (.aload_n 0, 1) := by decide +kernel
theorem dX12_write_22 : decode cX12_write 22 = .ok (.getfield 66, 3) := by decide +kernel
theorem dX12_write_25 : decode cX12_write 25 = .ok (.iload_n 1, 1) := by decide +kernel
theorem dX12_write_26 : decode cX12_write 26 = .ok (.iaload, 1) := by decide +kernel
theorem dX12_write_27 : decode cX12_write 27 = .ok (.iconst 1, 1) := by decide +kernel
theorem dX12_write_28 : decode cX12_write 28 = .ok (.isub, 1) := by decide +kernel
theorem dX12_write_29 : decode cX12_write 29 = .ok (.i2l, 1) := by decide +kernel
theorem dX12_write_3 : decode cX12_write 3 = .ok (.invokevirtual 401, 3) := by decide +kernel
theorem dX12_write_30 : decode cX12_write 30 = .ok (.invokestatic 137, 3) := by decide +kernel
theorem dX12_write_33 : decode cX12_write 33 = .ok (.ifCond .eq 13, 3) := by decide +kernel
theorem dX12_write_36 : decode cX12_write 36 = .ok (.aload_n 0, 1) := by decide +kernel
theorem dX12_write_37 : decode cX12_write 37 = .ok (.iload_n 1, 1) := by decide +kernel
theorem dX12_write_38 : decode cX12_write 38 = .ok (.iload_n 2, 1) := by decide +kernel
theorem dX12_write_39 : decode cX12_write 39 = .ok (.lload_n 3, 1) := by decide +kernel
theorem dX12_write_40 : decode cX12_write 40 = .ok (.invokevirtual 535, 3) := by decide +kernel
theorem dX12_write_43 : decode cX12_write 43 = .ok (.goto 9, 3) := by decide +kernel
theorem dX12_write_46 : decode cX12_write 46 = .ok (.aload_n 0, 1) := by decide +kernel
theorem dX12_write_47 : decode cX12_write 47 = .ok (.iconst 3, 1) := by decide +kernel
theorem dX12_write_48 : decode cX12_write 48 = .ok (.invokevirtual 262, 3) := by decide +kernel
theorem dX12_write_51 : decode cX12_write 51 = .ok (.i2l, 1) := by decide +kernel
theorem dX12_write_52 : decode cX12_write 52 = .ok (.lreturn, 1) := by decide +kernel
theorem dX12_write_6 : decode cX12_write 6 = .ok (.putfield 73, 3) := by decide +kernel
theorem dX12_write_9 : decode cX12_write 9 = .ok (.aload_n 0, 1) := by decide +kernel
set_option maxRecDepth 4000 in
theorem k_X12_seenFault (l : Launch) (M : Mem) (hJ : Iw M) (x0 : Int) (hx0a : (-2147483648) ≤ x0) (hx0b : x0 ≤ 2147483647) : CI l yX12_seenFault cX12_seenFault 4 (some .int) 4 (fun ad => [.ref (ad 131), ii x0]) M (fun z M' => (0 ≤ z ∧ z ≤ 3) ∧ M = M' ∧ (z = 0 → 0 ≤ x0 ∧ x0 ≤ 3 ∧ 1 ≤ M 149 x0.toNat ∧ M 149 x0.toNat ≤ 4)) := by
  obtain ⟨hI, hW⟩ := hJ
  refine en_i (by decide +kernel) (fun ad => by exact Nat.le_of_ble_eq_true rfl) (fun D cy ad A p e s m args below meth c Q F hret => ?_)
  refine z_eq (ls' := [(0, .ref (ad 131)), (1, ii x0)]) rfl rfl rfl ?_
  refine z_aload_n F dX12_seenFault_0 rfl (q := 0) rfl ?_
  refine z_iload_n F dX12_seenFault_1 rfl (q := 1) rfl ?_
  refine zv_i (rest := []) F (k_X12_trayFault l M ⟨hI, hW⟩ x0 (by omega) (by omega)) cs_X12_401 (T := TX12) (N := 44) (ci := 12) rfl gs_131 (by decide) (by decide) rfl rfl rfl (Nat.le_of_ble_eq_true rfl) dX12_seenFault_2 (fun v1 M2 rv1 hI p3 => ?_)
  obtain ⟨hI, hW⟩ := hI
  obtain ⟨⟨av1, bv1⟩, rfl, xp3⟩ := p3
  refine z_istore_n F dX12_seenFault_5 rfl (by decide) (ls' := [(2, ii v1), (0, .ref (ad 131)), (1, ii x0)]) rfl ?_
  refine z_iload_n F dX12_seenFault_6 rfl (q := 0) rfl ?_
  refine z_if_eq (tgt := 12) F dX12_seenFault_7 (by decide +kernel) (by omega) (fun c4 => ?_) (fun c4 => ?_)
  · refine z_aload_n F dX12_seenFault_12 rfl (q := 1) rfl ?_
    refine rf_X12_66 F gs_131 rfl dX12_seenFault_13 ?_
    refine z_iload_n F dX12_seenFault_16 rfl (q := 2) rfl ?_
    refine z_iald F hI gs_149 (by omega) (by omega) (by decide) bd_149 dX12_seenFault_17 (fun v5 (ev5 : v5 = M 149 _) av5 bv5 => ?_)
    refine z_i2l F dX12_seenFault_18 (by omega) ?_
    refine z_lconst (x := 1) F dX12_seenFault_19 (by decide +kernel) ?_
    refine z_ldc2 (x := 4) F dX12_seenFault_20 (gin lm_287 rfl) (by decide +kernel) ?_
    refine zs_i (rest := []) F (k_X12_within l M ⟨hI, hW⟩ v5 (by omega) (by omega) 1 (by omega) (by omega) 4 (by omega) (by omega)) cs_X12_137 (by decide) (by decide) rfl rfl rfl (Nat.le_of_ble_eq_true rfl) dX12_seenFault_23 (fun v6 M7 rv6 hI p8 => ?_)
    obtain ⟨hI, hW⟩ := hI
    obtain ⟨⟨av6, bv6⟩, rfl, xp8⟩ := p8
    refine z_if_ne (tgt := 31) F dX12_seenFault_26 (by decide +kernel) (by omega) (fun c9 => ?_) (fun c9 => ?_)
    · refine z_iconst F dX12_seenFault_31 ?_
      refine z_istore_n F dX12_seenFault_32 rfl (by decide) (ls' := [(3, ii 0), (2, ii v1), (0, .ref (ad 131)), (1, ii x0)]) rfl ?_
      refine z_loc [2, 3, 0] (ls' := [(0, .ref (ad 131)), (1, ii x0), (3, ii 0)]) rfl ?_
      suffices key33 : ∀ (n : Nat) (y11 : Int), 0 ≤ y11 → y11 ≤ 30 → 30 - y11 < (n : Int) → Z D cy ad p l e (RMh 4) s m args below meth c A 4 0 0 Q 33 [(0, .ref (ad 131)), (1, ii x0), (3, ii y11)] [] M from key33 31 0 (by omega) (by omega) (by omega)
      intro n33
      induction n33 with
      | zero => intro y11 ay11 by11 hn33; exfalso; omega
      | succ n33 ih33 =>
        intro y11 ay11 by11 hn33
        refine z_iload_n F dX12_seenFault_33 rfl (q := 2) rfl ?_
        refine z_aload_n F dX12_seenFault_34 rfl (q := 0) rfl ?_
        refine rf_X12_66 F gs_131 rfl dX12_seenFault_35 ?_
        refine z_iload_n F dX12_seenFault_38 rfl (q := 1) rfl ?_
        refine z_iald F hI gs_149 (by omega) (by omega) (by decide) bd_149 dX12_seenFault_39 (fun v12 (ev12 : v12 = M 149 _) av12 bv12 => ?_)
        have zv12 : v5 = v12 := ev5.trans ev12.symm
        subst zv12
        refine z_icmp_ge (tgt := 69) F dX12_seenFault_40 (by decide +kernel) (by omega) (by omega) (fun c13 => ?_) (fun c13 => ?_)
        · refine z_iconst F dX12_seenFault_69 ?_
          exact hret _ _ 70 _ (by omega) ⟨hI, hW⟩ ⟨⟨by omega, by omega⟩, rfl, (by omega)⟩ dX12_seenFault_70
        · refine z_aload_n F dX12_seenFault_43 rfl (q := 0) rfl ?_
          refine rf_X12_69 F gs_131 rfl dX12_seenFault_44 ?_
          refine z_bipush F dX12_seenFault_47 (by decide +kernel) ?_
          refine z_iload_n F dX12_seenFault_49 rfl (q := 1) rfl ?_
          refine z_imul F dX12_seenFault_50 ?_
          refine z_iload_n F dX12_seenFault_51 rfl (q := 2) rfl ?_
          refine z_iadd F dX12_seenFault_52 ?_
          refine z_lald F hI gs_150 (by omega) (by omega) (by decide) bd_150 dX12_seenFault_53 (fun v14 (ev14 : v14 = M 150 _) av14 bv14 => ?_)
          refine z_ldc2 (x := (-1)) F dX12_seenFault_54 (gin lm_158 rfl) (by decide +kernel) ?_
          refine z_lcmp F dX12_seenFault_57 (by omega) (by omega) (fun v15 ev15 => ?_)
          refine z_if_ge (tgt := 63) F dX12_seenFault_58 (by decide +kernel) (by omega) (fun c16 => ?_) (fun c16 => ?_)
          · refine z_iincN F dX12_seenFault_63 (q := 2) rfl (by decide) (fun v17 ev17 => ?_)
            refine z_eq (ls' := [(3, ii v17), (0, .ref (ad 131)), (1, ii x0)]) rfl rfl rfl ?_
            refine z_goto (tgt := 33) F dX12_seenFault_66 (by decide +kernel) ?_
            refine z_loc [1, 2, 0] (ls' := [(0, .ref (ad 131)), (1, ii x0), (3, ii v17)]) rfl ?_
            exact ih33 v17 (by omega) (by omega) (by omega)
          · refine z_iconst F dX12_seenFault_61 ?_
            exact hret _ _ 62 _ (by omega) ⟨hI, hW⟩ ⟨⟨by omega, by omega⟩, rfl, (by omega)⟩ dX12_seenFault_62
    · refine z_iconst F dX12_seenFault_29 ?_
      exact hret _ _ 30 _ (by omega) ⟨hI, hW⟩ ⟨⟨by omega, by omega⟩, rfl, (by omega)⟩ dX12_seenFault_30
  · refine z_iload_n F dX12_seenFault_10 rfl (q := 0) rfl ?_
    exact hret _ _ 11 _ (by omega) ⟨hI, hW⟩ ⟨⟨by omega, by omega⟩, rfl, (by omega)⟩ dX12_seenFault_11
set_option maxRecDepth 4000 in
theorem k_X12_laysSeen (l : Launch) (M : Mem) (hJ : Iw M) (x0 : Int) (hx0a : 0 ≤ x0) (hx0b : x0 ≤ 3) (hp0 : 1 ≤ M 149 x0.toNat) (hp1 : M 149 x0.toNat ≤ 4) : CV l yX12_laysSeen cX12_laysSeen 3 none 14 (fun ad => [.ref (ad 131), ii x0]) M (fun M' => Fr [131, 132, 137, 146, 147] M M') := by
  obtain ⟨hI, hW⟩ := hJ
  have hF : Fr [131, 132, 137, 146, 147] M M := Fr.rf
  refine en_v (by decide +kernel) (fun ad => by exact Nat.le_of_ble_eq_true rfl) (fun D cy ad A p e s m args below meth c Q F hret => ?_)
  refine z_eq (ls' := [(0, .ref (ad 131)), (1, ii x0)]) rfl rfl rfl ?_
  refine z_aload_n F dX12_laysSeen_0 rfl (q := 0) rfl ?_
  refine z_iconst F dX12_laysSeen_1 ?_
  refine pf_X12_521 F hI gs_131 rfl bd_131_40 rfl rfl dX12_laysSeen_2 (by omega) (by omega) (fun M2 hI sf1 f1 => ?_)
  have hF := hF.wrf f1 (by decide) (by decide)
  have hW : WFk M2 := hW.site f1 (by decide)
  refine z_iconst F dX12_laysSeen_5 ?_
  refine z_istore_n F dX12_laysSeen_6 rfl (by decide) (ls' := [(2, ii 0), (0, .ref (ad 131)), (1, ii x0)]) rfl ?_
  refine z_loc [1, 2, 0] (ls' := [(0, .ref (ad 131)), (1, ii x0), (2, ii 0)]) rfl ?_
  suffices key7 : ∀ (n : Nat) (y4 : Int) (M3 : Mem), Inv M3 → WFk M3 → Fr [131, 132, 137, 146, 147] M M3 → 0 ≤ y4 → y4 ≤ 4 → 4 - y4 < (n : Int) → Z D cy ad p l e (RMh 14) s m args below meth c A 3 0 0 Q 7 [(0, .ref (ad 131)), (1, ii x0), (2, ii y4)] [] M3 from key7 5 0 M2 hI hW hF (by omega) (by omega) (by omega)
  intro n7
  induction n7 with
  | zero => intro y4 M3 hI hW hF ay4 by4 hn7; exfalso; omega
  | succ n7 ih7 =>
    intro y4 M3 hI hW hF ay4 by4 hn7
    refine z_iload_n F dX12_laysSeen_7 rfl (q := 2) rfl ?_
    refine z_iconst F dX12_laysSeen_8 ?_
    refine z_icmp_ge (tgt := 25) F dX12_laysSeen_9 (by decide +kernel) (by omega) (by omega) (fun c5 => ?_) (fun c5 => ?_)
    · refine z_aload_n F dX12_laysSeen_25 rfl (q := 0) rfl ?_
      refine z_iload_n F dX12_laysSeen_26 rfl (q := 1) rfl ?_
      refine z_iconst F dX12_laysSeen_27 ?_
      refine zv_v (rest := []) F (k_X12_goesSeen l 5 M3 ⟨hI, hW⟩ x0 (by omega) (by omega) 0 (by omega) (by omega) (by have := hF.at (a := 149) (b := x0.toNat) (by decide); omega) (by have := hF.at (a := 149) (b := x0.toNat) (by decide); omega) (by omega)) cs_X12_524 (T := TX12) (N := 44) (ci := 12) rfl gs_131 (by decide) (by decide) rfl rfl rfl (Nat.le_of_ble_eq_true rfl) dX12_laysSeen_28 (fun M6 hI p7 => ?_)
      obtain ⟨hI, hW⟩ := hI
      have fp7 := p7
      have hF := hF.call fp7 (by decide)
      exact hret _ 31 _ ⟨hI, hW⟩ hF dX12_laysSeen_31
    · refine z_aload_n F dX12_laysSeen_12 rfl (q := 0) rfl ?_
      refine rf_X12_60 F gs_131 rfl dX12_laysSeen_13 ?_
      refine z_iload_n F dX12_laysSeen_16 rfl (q := 2) rfl ?_
      refine z_iconst F dX12_laysSeen_17 ?_
      refine z_iast F hI gs_147 (by omega) (by omega) (by decide) bd_147 dX12_laysSeen_18 (by omega) (by omega) (fun M9 hI sf8 f8 => ?_)
      have hF := hF.wr f8 (by decide) (by decide)
      have hW : WFk M9 := hW.site f8 (by decide)
      refine z_iincN F dX12_laysSeen_19 (q := 2) rfl (by decide) (fun v10 ev10 => ?_)
      refine z_eq (ls' := [(2, ii v10), (0, .ref (ad 131)), (1, ii x0)]) rfl rfl rfl ?_
      refine z_goto (tgt := 7) F dX12_laysSeen_22 (by decide +kernel) ?_
      refine z_loc [1, 2, 0] (ls' := [(0, .ref (ad 131)), (1, ii x0), (2, ii v10)]) rfl ?_
      exact ih7 v10 M9 hI hW hF (by omega) (by omega) (by omega)
set_option maxRecDepth 4000 in
theorem k_X12_seen (l : Launch) (M : Mem) (hJ : Iw M) (x0 : Int) (hx0a : (-2147483648) ≤ x0) (hx0b : x0 ≤ 2147483647) : CI l yX12_seen cX12_seen 2 (some .int) 15 (fun ad => [.ref (ad 131), ii x0]) M (fun z M' => ((-2147483648) ≤ z ∧ z ≤ 2147483647) ∧ Fr [131, 132, 137, 146, 147] M M') := by
  obtain ⟨hI, hW⟩ := hJ
  have hF : Fr [131, 132, 137, 146, 147] M M := Fr.rf
  refine en_i (by decide +kernel) (fun ad => by exact Nat.le_of_ble_eq_true rfl) (fun D cy ad A p e s m args below meth c Q F hret => ?_)
  refine z_eq (ls' := [(0, .ref (ad 131)), (1, ii x0)]) rfl rfl rfl ?_
  refine z_aload_n F dX12_seen_0 rfl (q := 0) rfl ?_
  refine z_aload_n F dX12_seen_1 rfl (q := 0) rfl ?_
  refine z_iload_n F dX12_seen_2 rfl (q := 1) rfl ?_
  refine zv_i (rest := [.ref (ad 131)]) F (k_X12_seenFault l M ⟨hI, hW⟩ x0 (by omega) (by omega)) cs_X12_529 (T := TX12) (N := 44) (ci := 12) rfl gs_131 (by decide) (by decide) rfl rfl rfl (Nat.le_of_ble_eq_true rfl) dX12_seen_3 (fun v1 M2 rv1 hI p3 => ?_)
  obtain ⟨hI, hW⟩ := hI
  obtain ⟨⟨av1, bv1⟩, rfl, xp3⟩ := p3
  refine pf_X12_73 F hI gs_131 rfl bd_131_4 rfl rfl dX12_seen_6 (by omega) (by omega) (fun M5 hI sf4 f4 => ?_)
  have hF := hF.wrf f4 (by decide) (by decide)
  have hW : WFk M5 := hW.site f4 (by decide)
  refine z_aload_n F dX12_seen_9 rfl (q := 0) rfl ?_
  refine gf_X12_73 F hI gs_131 rfl bd_131_4 dX12_seen_10 (fun v6 ev6 av6 bv6 => ?_)
  have zv6 : v1 = v6 := sf4.symm.trans ev6.symm
  subst zv6
  refine z_if_le (tgt := 18) F dX12_seen_13 (by decide +kernel) (by omega) (fun c7 => ?_) (fun c7 => ?_)
  · refine z_aload_n F dX12_seen_18 rfl (q := 0) rfl ?_
    refine z_iload_n F dX12_seen_19 rfl (q := 1) rfl ?_
    refine zv_v (rest := []) F (k_X12_laysSeen l M5 ⟨hI, hW⟩ x0 (by omega) (by omega) (by have := hF.at (a := 149) (b := x0.toNat) (by decide); omega) (by have := hF.at (a := 149) (b := x0.toNat) (by decide); omega)) cs_X12_532 (T := TX12) (N := 44) (ci := 12) rfl gs_131 (by decide) (by decide) rfl rfl rfl (Nat.le_of_ble_eq_true rfl) dX12_seen_20 (fun M8 hI p9 => ?_)
    obtain ⟨hI, hW⟩ := hI
    have fp9 := p9
    have hF := hF.call fp9 (by decide)
    refine z_aload_n F dX12_seen_23 rfl (q := 0) rfl ?_
    refine gf_X12_521 F hI gs_131 rfl bd_131_40 dX12_seen_24 (fun v10 ev10 av10 bv10 => ?_)
    exact hret _ _ 27 _ (by omega) ⟨hI, hW⟩ ⟨⟨by omega, by omega⟩, hF⟩ dX12_seen_27
  · refine z_iconst F dX12_seen_16 ?_
    exact hret _ _ 17 _ (by omega) ⟨hI, hW⟩ ⟨⟨by omega, by omega⟩, hF⟩ dX12_seen_17
set_option maxRecDepth 4000 in
theorem k_X12_sure (l : Launch) (M : Mem) (hJ : Iw M) (x0 : Int) (hx0a : (-2147483648) ≤ x0) (hx0b : x0 ≤ 2147483647) (x1 : Int) (hx1a : (-2147483648) ≤ x1) (hx1b : x1 ≤ 2147483647) : CI l yX12_sure cX12_sure 4 (some .int) 15 (fun ad => [.ref (ad 131), ii x0, ii x1]) M (fun z M' => ((-2) ≤ z ∧ z ≤ 9) ∧ Fr [131, 132, 137, 146, 147] M M') := by
  obtain ⟨hI, hW⟩ := hJ
  have hF : Fr [131, 132, 137, 146, 147] M M := Fr.rf
  refine en_i (by decide +kernel) (fun ad => by exact Nat.le_of_ble_eq_true rfl) (fun D cy ad A p e s m args below meth c Q F hret => ?_)
  refine z_eq (ls' := [(0, .ref (ad 131)), (1, ii x0), (2, ii x1)]) rfl rfl rfl ?_
  refine z_aload_n F dX12_sure_0 rfl (q := 0) rfl ?_
  refine z_aload_n F dX12_sure_1 rfl (q := 0) rfl ?_
  refine z_iload_n F dX12_sure_2 rfl (q := 1) rfl ?_
  refine zv_i (rest := [.ref (ad 131)]) F (k_X12_seenFault l M ⟨hI, hW⟩ x0 (by omega) (by omega)) cs_X12_529 (T := TX12) (N := 44) (ci := 12) rfl gs_131 (by decide) (by decide) rfl rfl rfl (Nat.le_of_ble_eq_true rfl) dX12_sure_3 (fun v1 M2 rv1 hI p3 => ?_)
  obtain ⟨hI, hW⟩ := hI
  obtain ⟨⟨av1, bv1⟩, rfl, xp3⟩ := p3
  refine pf_X12_73 F hI gs_131 rfl bd_131_4 rfl rfl dX12_sure_6 (by omega) (by omega) (fun M5 hI sf4 f4 => ?_)
  have hF := hF.wrf f4 (by decide) (by decide)
  have hW : WFk M5 := hW.site f4 (by decide)
  refine z_aload_n F dX12_sure_9 rfl (q := 0) rfl ?_
  refine gf_X12_73 F hI gs_131 rfl bd_131_4 dX12_sure_10 (fun v6 ev6 av6 bv6 => ?_)
  have zv6 : v1 = v6 := sf4.symm.trans ev6.symm
  subst zv6
  refine z_if_ne (tgt := 39) F dX12_sure_13 (by decide +kernel) (by omega) (fun c7 => ?_) (fun c7 => ?_)
  · refine z_aload_n F dX12_sure_39 rfl (q := 0) rfl ?_
    refine gf_X12_73 F hI gs_131 rfl bd_131_4 dX12_sure_40 (fun v8 ev8 av8 bv8 => ?_)
    have zv8 : v1 = v8 := sf4.symm.trans ev8.symm
    subst zv8
    refine z_if_le (tgt := 48) F dX12_sure_43 (by decide +kernel) (by omega) (fun c9 => by exfalso; omega) (fun c9 => ?_)
    refine z_iconst F dX12_sure_46 ?_
    exact hret _ _ 47 _ (by omega) ⟨hI, hW⟩ ⟨⟨by omega, by omega⟩, hF⟩ dX12_sure_47
  · refine z_iload_n F dX12_sure_16 rfl (q := 2) rfl ?_
    refine z_i2l F dX12_sure_17 (by omega) ?_
    refine z_lconst (x := 0) F dX12_sure_18 (by decide +kernel) ?_
    refine z_aload_n F dX12_sure_19 rfl (q := 0) rfl ?_
    refine rf_X12_66 F gs_131 rfl dX12_sure_20 ?_
    refine z_iload_n F dX12_sure_23 rfl (q := 1) rfl ?_
    refine z_iald F hI gs_149 (by omega) (by omega) (by decide) bd_149 dX12_sure_24 (fun v10 (ev10 : v10 = M5 149 _) av10 bv10 => ?_)
    refine z_iconst F dX12_sure_25 ?_
    refine z_isub F dX12_sure_26 ?_
    refine z_i2l F dX12_sure_27 (by omega) ?_
    refine zs_i (rest := []) F (k_X12_within l M5 ⟨hI, hW⟩ x1 (by omega) (by omega) 0 (by omega) (by omega) (v10 - 1) (by omega) (by omega)) cs_X12_137 (by decide) (by decide) rfl rfl rfl (Nat.le_of_ble_eq_true rfl) dX12_sure_28 (fun v11 M12 rv11 hI p13 => ?_)
    obtain ⟨hI, hW⟩ := hI
    obtain ⟨⟨av11, bv11⟩, rfl, xp13⟩ := p13
    refine z_if_ne (tgt := 39) F dX12_sure_31 (by decide +kernel) (by omega) (fun c14 => ?_) (fun c14 => ?_)
    · refine z_aload_n F dX12_sure_39 rfl (q := 0) rfl ?_
      refine gf_X12_73 F hI gs_131 rfl bd_131_4 dX12_sure_40 (fun v15 ev15 av15 bv15 => ?_)
      have zv15 : v1 = v15 := sf4.symm.trans ev15.symm
      subst zv15
      refine z_if_le (tgt := 48) F dX12_sure_43 (by decide +kernel) (by omega) (fun c16 => ?_) (fun c16 => by exfalso; omega)
      refine z_aload_n F dX12_sure_48 rfl (q := 0) rfl ?_
      refine z_iload_n F dX12_sure_49 rfl (q := 1) rfl ?_
      have hm149 := hF.at (a := 149) (b := x0.toNat) (by decide)
      have k17 : 0 ≤ x1 ∧ x1 ≤ 3 := by omega
      refine zv_v (rest := []) F (k_X12_laysSeen l M5 ⟨hI, hW⟩ x0 (by omega) (by omega) (by have := hF.at (a := 149) (b := x0.toNat) (by decide); omega) (by have := hF.at (a := 149) (b := x0.toNat) (by decide); omega)) cs_X12_532 (T := TX12) (N := 44) (ci := 12) rfl gs_131 (by decide) (by decide) rfl rfl rfl (Nat.le_of_ble_eq_true rfl) dX12_sure_50 (fun M18 hI p19 => ?_)
      obtain ⟨hI, hW⟩ := hI
      have fp19 := p19
      have hF := hF.call fp19 (by decide)
      refine z_aload_n F dX12_sure_53 rfl (q := 0) rfl ?_
      refine rf_X12_60 F gs_131 rfl dX12_sure_54 ?_
      refine z_iload_n F dX12_sure_57 rfl (q := 2) rfl ?_
      refine z_iald F hI gs_147 (by omega) (by omega) (by decide) bd_147 dX12_sure_58 (fun v20 (ev20 : v20 = M18 147 _) av20 bv20 => ?_)
      refine zs_i (rest := []) F (k_X12_size l M18 ⟨hI, hW⟩ v20 (by omega) (by omega)) cs_X12_332 (by decide) (by decide) rfl rfl rfl (Nat.le_of_ble_eq_true rfl) dX12_sure_59 (fun v21 M22 rv21 hI p23 => ?_)
      obtain ⟨hI, hW⟩ := hI
      obtain ⟨⟨av21, bv21⟩, rfl, xp23, yp23⟩ := p23
      refine z_iconst F dX12_sure_62 ?_
      refine z_icmp_eq (tgt := 69) F dX12_sure_63 (by decide +kernel) (by omega) (by omega) (fun c24 => ?_) (fun c24 => ?_)
      · refine z_iconst F dX12_sure_69 ?_
        refine z_istore_n F dX12_sure_70 rfl (by decide) (ls' := [(3, ii 0), (0, .ref (ad 131)), (1, ii x0), (2, ii x1)]) rfl ?_
        refine z_loc [1, 3, 0] (ls' := [(0, .ref (ad 131)), (2, ii x1), (3, ii 0)]) rfl ?_
        suffices key71 : ∀ (n : Nat) (y26 : Int), 0 ≤ y26 → y26 ≤ 9 → (∀ j : Int, 0 ≤ j → j < y26 → ¬ Bt v20 j) → 9 - y26 < (n : Int) → Z D cy ad p l e (RMh 15) s m args below meth c A 4 0 0 Q 71 [(0, .ref (ad 131)), (2, ii x1), (3, ii y26)] [] M18 from key71 10 0 (by omega) (by omega) (fun j a b => by omega) (by omega)
        intro n71
        induction n71 with
        | zero => intro y26 ay26 by26 i71_0 hn71; exfalso; omega
        | succ n71 ih71 =>
          intro y26 ay26 by26 i71_0 hn71
          refine z_aload_n F dX12_sure_71 rfl (q := 0) rfl ?_
          refine rf_X12_60 F gs_131 rfl dX12_sure_72 ?_
          refine z_iload_n F dX12_sure_75 rfl (q := 1) rfl ?_
          refine z_iald F hI gs_147 (by omega) (by omega) (by decide) bd_147 dX12_sure_76 (fun v27 (ev27 : v27 = M18 147 _) av27 bv27 => ?_)
          have zv27 : v20 = v27 := ev20.trans ev27.symm
          subst zv27
          refine z_iload_n F dX12_sure_77 rfl (q := 2) rfl ?_
          refine zs_i (rest := []) F (k_X12_has l M18 ⟨hI, hW⟩ v20 (by omega) (by omega) y26 (by omega) (by omega)) cs_X12_346 (by decide) (by decide) rfl rfl rfl (Nat.le_of_ble_eq_true rfl) dX12_sure_78 (fun v28 M29 rv28 hI p30 => ?_)
          obtain ⟨hI, hW⟩ := hI
          obtain ⟨⟨av28, bv28⟩, rfl, xp30⟩ := p30
          have hbqy26 := xp30
          refine z_if_ne (tgt := 90) F dX12_sure_81 (by decide +kernel) (by omega) (fun c31 => ?_) (fun c31 => ?_)
          · refine z_iload_n F dX12_sure_90 rfl (q := 2) rfl ?_
            refine z_aload_n F dX12_sure_91 rfl (q := 0) rfl ?_
            refine zv_i (rest := [ii y26]) F (k_X12_things l M18 ⟨hI, hW⟩) cs_X12_275 (T := TX12) (N := 44) (ci := 12) rfl gs_131 (by decide) (by decide) rfl rfl rfl (Nat.le_of_ble_eq_true rfl) dX12_sure_92 (fun v32 M33 rv32 hI p34 => ?_)
            obtain ⟨hI, hW⟩ := hI
            obtain ⟨⟨av32, bv32⟩, rfl, xp34⟩ := p34
            refine z_icmp_ne (tgt := 102) F dX12_sure_95 (by decide +kernel) (by omega) (by omega) (fun c35 => ?_) (fun c35 => ?_)
            · refine z_iload_n F dX12_sure_102 rfl (q := 2) rfl ?_
              exact hret _ _ 103 _ (by omega) ⟨hI, hW⟩ ⟨⟨by omega, by omega⟩, hF⟩ dX12_sure_103
            · refine z_iconst F dX12_sure_98 ?_
              refine z_goto (tgt := 103) F dX12_sure_99 (by decide +kernel) ?_
              exact hret _ _ 103 _ (by omega) ⟨hI, hW⟩ ⟨⟨by omega, by omega⟩, hF⟩ dX12_sure_103
          · have hnb : ¬ Bt v20 y26 := fun q => by have := hbqy26.mpr q; omega
            have hlt := bt_lt (s := v20) (h := y26) (by omega) (by omega) (by omega) (by omega) i71_0 hnb
            have k36 : 0 ≤ y26 ∧ y26 ≤ 8 := by omega
            refine z_iincN F dX12_sure_84 (q := 2) rfl (by decide) (fun v37 ev37 => ?_)
            refine z_eq (ls' := [(3, ii v37), (0, .ref (ad 131)), (2, ii x1)]) rfl rfl rfl ?_
            refine z_goto (tgt := 71) F dX12_sure_87 (by decide +kernel) ?_
            refine z_loc [1, 2, 0] (ls' := [(0, .ref (ad 131)), (2, ii x1), (3, ii v37)]) rfl ?_
            exact ih71 v37 (by omega) (by omega) (fun j a b => if hq : j = y26 then (by rw [hq]; exact hnb) else i71_0 j a (by omega)) (by omega)
      · refine z_bipush F dX12_sure_66 (by decide +kernel) ?_
        exact hret _ _ 68 _ (by omega) ⟨hI, hW⟩ ⟨⟨by omega, by omega⟩, hF⟩ dX12_sure_68
    · refine z_aload_n F dX12_sure_34 rfl (q := 0) rfl ?_
      refine z_iconst F dX12_sure_35 ?_
      refine pf_X12_73 F hI gs_131 rfl bd_131_4 rfl rfl dX12_sure_36 (by omega) (by omega) (fun M39 hI sf38 f38 => ?_)
      have hF := hF.wrf f38 (by decide) (by decide)
      have hW : WFk M39 := hW.site f38 (by decide)
      refine z_aload_n F dX12_sure_39 rfl (q := 0) rfl ?_
      refine gf_X12_73 F hI gs_131 rfl bd_131_4 dX12_sure_40 (fun v40 ev40 av40 bv40 => ?_)
      have zv40 : 3 = v40 := sf38.symm.trans ev40.symm
      subst zv40
      refine z_if_le (tgt := 48) F dX12_sure_43 (by decide +kernel) (by omega) (fun c41 => by exfalso; omega) (fun c41 => ?_)
      refine z_iconst F dX12_sure_46 ?_
      exact hret _ _ 47 _ (by omega) ⟨hI, hW⟩ ⟨⟨by omega, by omega⟩, hF⟩ dX12_sure_47
set_option maxRecDepth 4000 in
theorem k_X12_tray (l : Launch) (M : Mem) (hJ : Iw M) (x0 : Int) (hx0a : (-2147483648) ≤ x0) (hx0b : x0 ≤ 2147483647) (x1 : Int) (hx1a : (-2147483648) ≤ x1) (hx1b : x1 ≤ 2147483647) (x2 : Int) (hx2a : (-2147483648) ≤ x2) (hx2b : x2 ≤ 2147483647) : CV l yX12_tray cX12_tray 5 none 3 (fun ad => [.ref (ad 131), ii x0, ii x1, ii x2]) M (fun M' => Fr [131, 148, 149, 150] M M' ∧ ((M' 131 4 = 0 ∧ 0 ≤ x0 ∧ x0 ≤ 3 ∧ 0 ≤ x1 ∧ x1 ≤ 3 ∧ 0 ≤ x2 ∧ x2 ≤ 30 ∨ M' 131 4 = 1 ∧ (x0 < 0 ∨ 3 < x0) ∨ M' 131 4 = 2 ∧ 0 ≤ x0 ∧ x0 ≤ 3 ∧ (x1 < 0 ∨ 3 < x1 ∨ x2 < 0 ∨ 30 < x2)))) := by
  obtain ⟨hI, hW⟩ := hJ
  have hF : Fr [131, 148, 149, 150] M M := Fr.rf
  refine en_v (by decide +kernel) (fun ad => by exact Nat.le_of_ble_eq_true rfl) (fun D cy ad A p e s m args below meth c Q F hret => ?_)
  refine z_eq (ls' := [(0, .ref (ad 131)), (1, ii x0), (2, ii x1), (3, ii x2)]) rfl rfl rfl ?_
  refine z_aload_n F dX12_tray_0 rfl (q := 0) rfl ?_
  refine z_iload_n F dX12_tray_1 rfl (q := 1) rfl ?_
  refine zs_i (rest := [.ref (ad 131)]) F (k_X12_isTray l M ⟨hI, hW⟩ x0 (by omega) (by omega)) cs_X12_390 (by decide) (by decide) rfl rfl rfl (Nat.le_of_ble_eq_true rfl) dX12_tray_2 (fun v1 M2 rv1 hI p3 => ?_)
  obtain ⟨hI, hW⟩ := hI
  obtain ⟨⟨av1, bv1⟩, rfl, xp3⟩ := p3
  refine z_if_ne (tgt := 12) F dX12_tray_5 (by decide +kernel) (by omega) (fun c4 => ?_) (fun c4 => ?_)
  · refine z_iload_n F dX12_tray_12 rfl (q := 2) rfl ?_
    refine z_i2l F dX12_tray_13 (by omega) ?_
    refine z_lconst (x := 0) F dX12_tray_14 (by decide +kernel) ?_
    refine z_ldc2 (x := 3) F dX12_tray_15 (gin lm_153 rfl) (by decide +kernel) ?_
    refine zs_i (rest := [.ref (ad 131)]) F (k_X12_within l M ⟨hI, hW⟩ x1 (by omega) (by omega) 0 (by omega) (by omega) 3 (by omega) (by omega)) cs_X12_137 (by decide) (by decide) rfl rfl rfl (Nat.le_of_ble_eq_true rfl) dX12_tray_18 (fun v5 M6 rv5 hI p7 => ?_)
    obtain ⟨hI, hW⟩ := hI
    obtain ⟨⟨av5, bv5⟩, rfl, xp7⟩ := p7
    refine z_if_eq (tgt := 36) F dX12_tray_21 (by decide +kernel) (by omega) (fun c8 => ?_) (fun c8 => ?_)
    · refine z_iconst F dX12_tray_36 ?_
      refine z_goto (tgt := 41) F dX12_tray_37 (by decide +kernel) ?_
      refine pf_X12_73 F hI gs_131 rfl bd_131_4 rfl rfl dX12_tray_41 (by omega) (by omega) (fun M10 hI sf9 f9 => ?_)
      have hF := hF.wrf f9 (by decide) (by decide)
      have hW : WFk M10 := hW.site f9 (by decide)
      refine z_aload_n F dX12_tray_44 rfl (q := 0) rfl ?_
      refine gf_X12_73 F hI gs_131 rfl bd_131_4 dX12_tray_45 (fun v11 ev11 av11 bv11 => ?_)
      have zv11 : 2 = v11 := sf9.symm.trans ev11.symm
      subst zv11
      refine z_if_le (tgt := 52) F dX12_tray_48 (by decide +kernel) (by omega) (fun c12 => by exfalso; omega) (fun c12 => ?_)
      exact hret _ 51 _ ⟨hI, hW⟩ ⟨hF, (by omega)⟩ dX12_tray_51
    · refine z_iload_n F dX12_tray_24 rfl (q := 3) rfl ?_
      refine z_i2l F dX12_tray_25 (by omega) ?_
      refine z_lconst (x := 0) F dX12_tray_26 (by decide +kernel) ?_
      refine z_ldc2 (x := 30) F dX12_tray_27 (gin lm_186 rfl) (by decide +kernel) ?_
      refine zs_i (rest := [.ref (ad 131)]) F (k_X12_within l M ⟨hI, hW⟩ x2 (by omega) (by omega) 0 (by omega) (by omega) 30 (by omega) (by omega)) cs_X12_137 (by decide) (by decide) rfl rfl rfl (Nat.le_of_ble_eq_true rfl) dX12_tray_30 (fun v13 M14 rv13 hI p15 => ?_)
      obtain ⟨hI, hW⟩ := hI
      obtain ⟨⟨av13, bv13⟩, rfl, xp15⟩ := p15
      refine z_if_ne (tgt := 40) F dX12_tray_33 (by decide +kernel) (by omega) (fun c16 => ?_) (fun c16 => ?_)
      · refine z_iconst F dX12_tray_40 ?_
        refine pf_X12_73 F hI gs_131 rfl bd_131_4 rfl rfl dX12_tray_41 (by omega) (by omega) (fun M18 hI sf17 f17 => ?_)
        have hF := hF.wrf f17 (by decide) (by decide)
        have hW : WFk M18 := hW.site f17 (by decide)
        refine z_aload_n F dX12_tray_44 rfl (q := 0) rfl ?_
        refine gf_X12_73 F hI gs_131 rfl bd_131_4 dX12_tray_45 (fun v19 ev19 av19 bv19 => ?_)
        have zv19 : 0 = v19 := sf17.symm.trans ev19.symm
        subst zv19
        refine z_if_le (tgt := 52) F dX12_tray_48 (by decide +kernel) (by omega) (fun c20 => ?_) (fun c20 => by exfalso; omega)
        refine z_aload_n F dX12_tray_52 rfl (q := 0) rfl ?_
        refine rf_X12_63 F gs_131 rfl dX12_tray_53 ?_
        refine z_iload_n F dX12_tray_56 rfl (q := 1) rfl ?_
        refine z_iload_n F dX12_tray_57 rfl (q := 2) rfl ?_
        refine z_iast F hI gs_148 (by omega) (by omega) (by decide) bd_148 dX12_tray_58 (by omega) (by omega) (fun M22 hI sf21 f21 => ?_)
        have hF := hF.wr f21 (by decide) (by decide)
        have hW : WFk M22 := hW.site f21 (by decide)
        refine z_aload_n F dX12_tray_59 rfl (q := 0) rfl ?_
        refine rf_X12_66 F gs_131 rfl dX12_tray_60 ?_
        refine z_iload_n F dX12_tray_63 rfl (q := 1) rfl ?_
        refine z_iload_n F dX12_tray_64 rfl (q := 3) rfl ?_
        refine z_iast F hI gs_149 (by omega) (by omega) (by decide) bd_149 dX12_tray_65 (by omega) (by omega) (fun M24 hI sf23 f23 => ?_)
        have hF := hF.wr f23 (by decide) (by decide)
        have hW : WFk M24 := hW.site f23 (by decide)
        refine z_iconst F dX12_tray_66 ?_
        refine z_istore F dX12_tray_67 (by decide) (ls' := [(4, ii 0), (0, .ref (ad 131)), (1, ii x0), (2, ii x1), (3, ii x2)]) rfl ?_
        refine z_loc [1, 2, 0] (ls' := [(0, .ref (ad 131)), (1, ii x0), (4, ii 0)]) rfl ?_
        have q27 : 0 = M22 131 4 := sf17.symm.trans (f21 131 4 (fun q => absurd q.1 (by decide))).symm
        have q28 : 0 = M24 131 4 := q27.trans (f23 131 4 (fun q => absurd q.1 (by decide))).symm
        suffices key69 : ∀ (n : Nat) (y26 : Int) (M25 : Mem), Inv M25 → WFk M25 → Fr [131, 148, 149, 150] M M25 → 0 ≤ y26 → y26 ≤ 30 → (M25 131 4 = 0) → 30 - y26 < (n : Int) → Z D cy ad p l e (RMh 3) s m args below meth c A 5 0 0 Q 69 [(0, .ref (ad 131)), (1, ii x0), (4, ii y26)] [] M25 from key69 31 0 M24 hI hW hF (by omega) (by omega) (by omega) (by omega)
        intro n69
        induction n69 with
        | zero => intro y26 M25 hI hW hF ay26 by26 i69_0 hn69; exfalso; omega
        | succ n69 ih69 =>
          intro y26 M25 hI hW hF ay26 by26 i69_0 hn69
          obtain ⟨u29, eu29⟩ : ∃ v : Int, v = M25 131 4 := ⟨_, rfl⟩
          have ku29 : 0 ≤ u29 ∧ u29 ≤ 3 := by have := hI.at (show Bd 131 4 = (0, 3) from rfl); omega
          refine z_iload F dX12_tray_69 (q := 2) rfl ?_
          refine z_bipush F dX12_tray_71 (by decide +kernel) ?_
          refine z_icmp_ge (tgt := 95) F dX12_tray_73 (by decide +kernel) (by omega) (by omega) (fun c30 => ?_) (fun c30 => ?_)
          · exact hret _ 95 _ ⟨hI, hW⟩ ⟨hF, (by omega)⟩ dX12_tray_95
          · refine z_aload_n F dX12_tray_76 rfl (q := 0) rfl ?_
            refine rf_X12_69 F gs_131 rfl dX12_tray_77 ?_
            refine z_bipush F dX12_tray_80 (by decide +kernel) ?_
            refine z_iload_n F dX12_tray_82 rfl (q := 1) rfl ?_
            refine z_imul F dX12_tray_83 ?_
            refine z_iload F dX12_tray_84 (q := 2) rfl ?_
            refine z_iadd F dX12_tray_86 ?_
            refine z_lconst (x := 0) F dX12_tray_87 (by decide +kernel) ?_
            refine z_last F hI gs_150 (by omega) (by omega) (by decide) bd_150 dX12_tray_88 (by omega) (by omega) (fun M32 hI sf31 f31 => ?_)
            have hF := hF.wr f31 (by decide) (by decide)
            have hW : WFk M32 := hW.site f31 (by decide)
            refine z_iincN F dX12_tray_89 (q := 2) rfl (by decide) (fun v33 ev33 => ?_)
            refine z_eq (ls' := [(4, ii v33), (0, .ref (ad 131)), (1, ii x0)]) rfl rfl rfl ?_
            refine z_goto (tgt := 69) F dX12_tray_92 (by decide +kernel) ?_
            refine z_loc [1, 2, 0] (ls' := [(0, .ref (ad 131)), (1, ii x0), (4, ii v33)]) rfl ?_
            have q34 : u29 = M32 131 4 := eu29.trans (f31 131 4 (fun q => absurd q.1 (by decide))).symm
            exact ih69 v33 M32 hI hW hF (by omega) (by omega) (by omega) (by omega)
      · refine z_iconst F dX12_tray_36 ?_
        refine z_goto (tgt := 41) F dX12_tray_37 (by decide +kernel) ?_
        refine pf_X12_73 F hI gs_131 rfl bd_131_4 rfl rfl dX12_tray_41 (by omega) (by omega) (fun M36 hI sf35 f35 => ?_)
        have hF := hF.wrf f35 (by decide) (by decide)
        have hW : WFk M36 := hW.site f35 (by decide)
        refine z_aload_n F dX12_tray_44 rfl (q := 0) rfl ?_
        refine gf_X12_73 F hI gs_131 rfl bd_131_4 dX12_tray_45 (fun v37 ev37 av37 bv37 => ?_)
        have zv37 : 2 = v37 := sf35.symm.trans ev37.symm
        subst zv37
        refine z_if_le (tgt := 52) F dX12_tray_48 (by decide +kernel) (by omega) (fun c38 => by exfalso; omega) (fun c38 => ?_)
        exact hret _ 51 _ ⟨hI, hW⟩ ⟨hF, (by omega)⟩ dX12_tray_51
  · refine z_iconst F dX12_tray_8 ?_
    refine z_goto (tgt := 41) F dX12_tray_9 (by decide +kernel) ?_
    refine pf_X12_73 F hI gs_131 rfl bd_131_4 rfl rfl dX12_tray_41 (by omega) (by omega) (fun M40 hI sf39 f39 => ?_)
    have hF := hF.wrf f39 (by decide) (by decide)
    have hW : WFk M40 := hW.site f39 (by decide)
    refine z_aload_n F dX12_tray_44 rfl (q := 0) rfl ?_
    refine gf_X12_73 F hI gs_131 rfl bd_131_4 dX12_tray_45 (fun v41 ev41 av41 bv41 => ?_)
    have zv41 : 1 = v41 := sf39.symm.trans ev41.symm
    subst zv41
    refine z_if_le (tgt := 52) F dX12_tray_48 (by decide +kernel) (by omega) (fun c42 => by exfalso; omega) (fun c42 => ?_)
    exact hret _ 51 _ ⟨hI, hW⟩ ⟨hF, (by omega)⟩ dX12_tray_51
set_option maxRecDepth 4000 in
theorem k_X12_cut (l : Launch) (M : Mem) (hJ : Iw M) (x0 : Int) (hx0a : 0 ≤ x0) (hx0b : x0 ≤ 3) (x1 : Int) (hx1a : 0 ≤ x1) (hx1b : x1 ≤ 29) (x2 : Int) (hx2a : (-9223372036854775808) ≤ x2) (hx2b : x2 ≤ 9223372036854775807) : CL l yX12_cut cX12_cut 6 (some .long) 1 (fun ad => [.ref (ad 131), ii x0, ii x1, ll x2]) M (fun z M' => ((-9223372036854775808) ≤ z ∧ z ≤ 9223372036854775807) ∧ Fr [150] M M') := by
  obtain ⟨hI, hW⟩ := hJ
  have hF : Fr [150] M M := Fr.rf
  refine en_l (by decide +kernel) (fun ad => by exact Nat.le_of_ble_eq_true rfl) (fun D cy ad A p e s m args below meth c Q F hret => ?_)
  refine z_eq (ls' := [(0, .ref (ad 131)), (1, ii x0), (2, ii x1), (3, ll x2)]) rfl rfl rfl ?_
  refine z_bipush F dX12_cut_0 (by decide +kernel) ?_
  refine z_bipush F dX12_cut_2 (by decide +kernel) ?_
  refine z_aload_n F dX12_cut_4 rfl (q := 0) rfl ?_
  refine rf_X12_63 F gs_131 rfl dX12_cut_5 ?_
  refine z_iload_n F dX12_cut_8 rfl (q := 1) rfl ?_
  refine z_iald F hI gs_148 (by omega) (by omega) (by decide) bd_148 dX12_cut_9 (fun v1 (ev1 : v1 = M 148 _) av1 bv1 => ?_)
  refine z_ishl0 F dX12_cut_10 (fun v2 ev2 rv2 => ?_)
  refine z_isub F dX12_cut_11 ?_
  refine z_wrap (fun v3 rv3 wv3 => ?_)
  refine z_istore F dX12_cut_12 (by decide) (ls' := [(5, ii v3), (0, .ref (ad 131)), (1, ii x0), (2, ii x1), (3, ll x2)]) rfl ?_
  refine z_aload_n F dX12_cut_14 rfl (q := 1) rfl ?_
  refine rf_X12_69 F gs_131 rfl dX12_cut_15 ?_
  refine z_bipush F dX12_cut_18 (by decide +kernel) ?_
  refine z_iload_n F dX12_cut_20 rfl (q := 2) rfl ?_
  refine z_imul F dX12_cut_21 ?_
  refine z_iload_n F dX12_cut_22 rfl (q := 3) rfl ?_
  refine z_iadd F dX12_cut_23 ?_
  refine z_lload_n F dX12_cut_24 rfl (q := 4) rfl ?_
  refine z_iload F dX12_cut_25 (q := 0) rfl ?_
  refine z_lshl0 F dX12_cut_27 (fun v4 _ rv4 => ?_)
  refine z_iload F dX12_cut_28 (q := 0) rfl ?_
  refine z_lshr0 F dX12_cut_30 (fun v5 _ rv5 => ?_)
  refine z_last F hI gs_150 (by omega) (by omega) (by decide) bd_150 dX12_cut_31 (by omega) (by omega) (fun M7 hI sf6 f6 => ?_)
  have hF := hF.wr f6 (by decide) (by decide)
  have hW : WFk M7 := hW.site f6 (by decide)
  refine z_aload_n F dX12_cut_32 rfl (q := 1) rfl ?_
  refine rf_X12_69 F gs_131 rfl dX12_cut_33 ?_
  refine z_bipush F dX12_cut_36 (by decide +kernel) ?_
  refine z_iload_n F dX12_cut_38 rfl (q := 2) rfl ?_
  refine z_imul F dX12_cut_39 ?_
  refine z_iload_n F dX12_cut_40 rfl (q := 3) rfl ?_
  refine z_iadd F dX12_cut_41 ?_
  refine z_lald F hI gs_150 (by omega) (by omega) (by decide) bd_150 dX12_cut_42 (fun v8 (ev8 : v8 = M7 150 _) av8 bv8 => ?_)
  exact hret _ _ 43 _ (by omega) ⟨hI, hW⟩ ⟨⟨by omega, by omega⟩, hF⟩ dX12_cut_43
set_option maxRecDepth 4000 in
theorem k_X12_write (l : Launch) (M : Mem) (hJ : Iw M) (x0 : Int) (hx0a : (-2147483648) ≤ x0) (hx0b : x0 ≤ 2147483647) (x1 : Int) (hx1a : (-2147483648) ≤ x1) (hx1b : x1 ≤ 2147483647) (x2 : Int) (hx2a : (-9223372036854775808) ≤ x2) (hx2b : x2 ≤ 9223372036854775807) : CL l yX12_write cX12_write 5 (some .long) 4 (fun ad => [.ref (ad 131), ii x0, ii x1, ll x2]) M (fun z M' => ((-9223372036854775808) ≤ z ∧ z ≤ 9223372036854775807) ∧ Fr [131, 150] M M') := by
  obtain ⟨hI, hW⟩ := hJ
  have hF : Fr [131, 150] M M := Fr.rf
  refine en_l (by decide +kernel) (fun ad => by exact Nat.le_of_ble_eq_true rfl) (fun D cy ad A p e s m args below meth c Q F hret => ?_)
  refine z_eq (ls' := [(0, .ref (ad 131)), (1, ii x0), (2, ii x1), (3, ll x2)]) rfl rfl rfl ?_
  refine z_aload_n F dX12_write_0 rfl (q := 0) rfl ?_
  refine z_aload_n F dX12_write_1 rfl (q := 0) rfl ?_
  refine z_iload_n F dX12_write_2 rfl (q := 1) rfl ?_
  refine zv_i (rest := [.ref (ad 131)]) F (k_X12_trayFault l M ⟨hI, hW⟩ x0 (by omega) (by omega)) cs_X12_401 (T := TX12) (N := 44) (ci := 12) rfl gs_131 (by decide) (by decide) rfl rfl rfl (Nat.le_of_ble_eq_true rfl) dX12_write_3 (fun v1 M2 rv1 hI p3 => ?_)
  obtain ⟨hI, hW⟩ := hI
  obtain ⟨⟨av1, bv1⟩, rfl, xp3⟩ := p3
  refine pf_X12_73 F hI gs_131 rfl bd_131_4 rfl rfl dX12_write_6 (by omega) (by omega) (fun M5 hI sf4 f4 => ?_)
  have hF := hF.wrf f4 (by decide) (by decide)
  have hW : WFk M5 := hW.site f4 (by decide)
  refine z_aload_n F dX12_write_9 rfl (q := 0) rfl ?_
  refine gf_X12_73 F hI gs_131 rfl bd_131_4 dX12_write_10 (fun v6 ev6 av6 bv6 => ?_)
  have zv6 : v1 = v6 := sf4.symm.trans ev6.symm
  subst zv6
  refine z_if_le (tgt := 18) F dX12_write_13 (by decide +kernel) (by omega) (fun c7 => ?_) (fun c7 => ?_)
  · refine z_iload_n F dX12_write_18 rfl (q := 2) rfl ?_
    refine z_i2l F dX12_write_19 (by omega) ?_
    refine z_lconst (x := 0) F dX12_write_20 (by decide +kernel) ?_
    refine z_aload_n F dX12_write_21 rfl (q := 0) rfl ?_
    refine rf_X12_66 F gs_131 rfl dX12_write_22 ?_
    refine z_iload_n F dX12_write_25 rfl (q := 1) rfl ?_
    refine z_iald F hI gs_149 (by omega) (by omega) (by decide) bd_149 dX12_write_26 (fun v8 (ev8 : v8 = M5 149 _) av8 bv8 => ?_)
    refine z_iconst F dX12_write_27 ?_
    refine z_isub F dX12_write_28 ?_
    refine z_i2l F dX12_write_29 (by omega) ?_
    refine zs_i (rest := []) F (k_X12_within l M5 ⟨hI, hW⟩ x1 (by omega) (by omega) 0 (by omega) (by omega) (v8 - 1) (by omega) (by omega)) cs_X12_137 (by decide) (by decide) rfl rfl rfl (Nat.le_of_ble_eq_true rfl) dX12_write_30 (fun v9 M10 rv9 hI p11 => ?_)
    obtain ⟨hI, hW⟩ := hI
    obtain ⟨⟨av9, bv9⟩, rfl, xp11⟩ := p11
    refine z_if_eq (tgt := 46) F dX12_write_33 (by decide +kernel) (by omega) (fun c12 => ?_) (fun c12 => ?_)
    · refine z_aload_n F dX12_write_46 rfl (q := 0) rfl ?_
      refine z_iconst F dX12_write_47 ?_
      refine zv_i (rest := []) F (k_X12_fails l M5 ⟨hI, hW⟩ 3 (by omega) (by omega)) cs_X12_262 (T := TX12) (N := 44) (ci := 12) rfl gs_131 (by decide) (by decide) rfl rfl rfl (Nat.le_of_ble_eq_true rfl) dX12_write_48 (fun v13 M14 rv13 hI p15 => ?_)
      obtain ⟨hI, hW⟩ := hI
      obtain ⟨⟨av13, bv13⟩, fp15, xp15⟩ := p15
      have hF := hF.call fp15 (by decide)
      refine z_i2l F dX12_write_51 (by omega) ?_
      exact hret _ _ 52 _ (by omega) ⟨hI, hW⟩ ⟨⟨by omega, by omega⟩, hF⟩ dX12_write_52
    · refine z_aload_n F dX12_write_36 rfl (q := 0) rfl ?_
      refine z_iload_n F dX12_write_37 rfl (q := 1) rfl ?_
      refine z_iload_n F dX12_write_38 rfl (q := 2) rfl ?_
      refine z_lload_n F dX12_write_39 rfl (q := 3) rfl ?_
      refine zv_l (rest := []) F (k_X12_cut l M5 ⟨hI, hW⟩ x0 (by omega) (by omega) x1 (by omega) (by omega) x2 (by omega) (by omega)) cs_X12_535 (T := TX12) (N := 44) (ci := 12) rfl gs_131 (by decide) (by decide) rfl rfl rfl (Nat.le_of_ble_eq_true rfl) dX12_write_40 (fun v16 M17 rv16 hI p18 => ?_)
      obtain ⟨hI, hW⟩ := hI
      obtain ⟨⟨av16, bv16⟩, fp18⟩ := p18
      have hF := hF.call fp18 (by decide)
      refine z_goto (tgt := 52) F dX12_write_43 (by decide +kernel) ?_
      exact hret _ _ 52 _ (by omega) ⟨hI, hW⟩ ⟨⟨by omega, by omega⟩, hF⟩ dX12_write_52
  · refine z_lconst (x := 0) F dX12_write_16 (by decide +kernel) ?_
    exact hret _ _ 17 _ (by omega) ⟨hI, hW⟩ ⟨⟨by omega, by omega⟩, hF⟩ dX12_write_17
set_option maxRecDepth 4000 in
theorem k_X12_pour (l : Launch) (M : Mem) (hJ : Iw M) (x0 : Int) (hx0a : (-2147483648) ≤ x0) (hx0b : x0 ≤ 2147483647) : CI l yX12_pour cX12_pour 4 (some .int) 4 (fun ad => [.ref (ad 131), ii x0]) M (fun z M' => (0 ≤ z ∧ z ≤ 8) ∧ Fr [131, 150] M M') := by
  obtain ⟨hI, hW⟩ := hJ
  have hF : Fr [131, 150] M M := Fr.rf
  refine en_i (by decide +kernel) (fun ad => by exact Nat.le_of_ble_eq_true rfl) (fun D cy ad A p e s m args below meth c Q F hret => ?_)
  refine z_eq (ls' := [(0, .ref (ad 131)), (1, ii x0)]) rfl rfl rfl ?_
  refine z_aload_n F dX12_pour_0 rfl (q := 0) rfl ?_
  refine z_aload_n F dX12_pour_1 rfl (q := 0) rfl ?_
  refine z_iload_n F dX12_pour_2 rfl (q := 1) rfl ?_
  refine zv_i (rest := [.ref (ad 131)]) F (k_X12_trayFault l M ⟨hI, hW⟩ x0 (by omega) (by omega)) cs_X12_401 (T := TX12) (N := 44) (ci := 12) rfl gs_131 (by decide) (by decide) rfl rfl rfl (Nat.le_of_ble_eq_true rfl) dX12_pour_3 (fun v1 M2 rv1 hI p3 => ?_)
  obtain ⟨hI, hW⟩ := hI
  obtain ⟨⟨av1, bv1⟩, rfl, xp3⟩ := p3
  refine pf_X12_73 F hI gs_131 rfl bd_131_4 rfl rfl dX12_pour_6 (by omega) (by omega) (fun M5 hI sf4 f4 => ?_)
  have hF := hF.wrf f4 (by decide) (by decide)
  have hW : WFk M5 := hW.site f4 (by decide)
  refine z_aload_n F dX12_pour_9 rfl (q := 0) rfl ?_
  refine gf_X12_73 F hI gs_131 rfl bd_131_4 dX12_pour_10 (fun v6 ev6 av6 bv6 => ?_)
  have zv6 : v1 = v6 := sf4.symm.trans ev6.symm
  subst zv6
  refine z_if_le (tgt := 18) F dX12_pour_13 (by decide +kernel) (by omega) (fun c7 => ?_) (fun c7 => ?_)
  · refine z_aload_n F dX12_pour_18 rfl (q := 0) rfl ?_
    refine rf_X12_66 F gs_131 rfl dX12_pour_19 ?_
    refine z_iload_n F dX12_pour_22 rfl (q := 1) rfl ?_
    refine z_iald F hI gs_149 (by omega) (by omega) (by decide) bd_149 dX12_pour_23 (fun v8 (ev8 : v8 = M5 149 _) av8 bv8 => ?_)
    refine z_aload_n F dX12_pour_24 rfl (q := 0) rfl ?_
    refine zv_i (rest := [ii v8]) F (k_X12_things l M5 ⟨hI, hW⟩) cs_X12_275 (T := TX12) (N := 44) (ci := 12) rfl gs_131 (by decide) (by decide) rfl rfl rfl (Nat.le_of_ble_eq_true rfl) dX12_pour_25 (fun v9 M10 rv9 hI p11 => ?_)
    obtain ⟨hI, hW⟩ := hI
    obtain ⟨⟨av9, bv9⟩, rfl, xp11⟩ := p11
    refine z_min F mm_X12_309 (Nat.le_of_ble_eq_true rfl) dX12_pour_28 (by omega) (by omega) (fun v12 ev12 => ?_)
    refine z_istore_n F dX12_pour_31 rfl (by decide) (ls' := [(2, ii v12), (0, .ref (ad 131)), (1, ii x0)]) rfl ?_
    refine z_iconst F dX12_pour_32 ?_
    refine z_istore_n F dX12_pour_33 rfl (by decide) (ls' := [(3, ii 0), (2, ii v12), (0, .ref (ad 131)), (1, ii x0)]) rfl ?_
    refine z_loc [2, 3, 1, 0] (ls' := [(0, .ref (ad 131)), (1, ii x0), (2, ii v12), (3, ii 0)]) rfl ?_
    suffices key34 : ∀ (n : Nat) (y14 : Int) (M13 : Mem), Inv M13 → WFk M13 → Fr [131, 150] M M13 → 0 ≤ y14 → y14 ≤ 8 → 8 - y14 < (n : Int) → Z D cy ad p l e (RMh 4) s m args below meth c A 4 0 0 Q 34 [(0, .ref (ad 131)), (1, ii x0), (2, ii v12), (3, ii y14)] [] M13 from key34 9 0 M5 hI hW hF (by omega) (by omega) (by omega)
    intro n34
    induction n34 with
    | zero => intro y14 M13 hI hW hF ay14 by14 hn34; exfalso; omega
    | succ n34 ih34 =>
      intro y14 M13 hI hW hF ay14 by14 hn34
      refine z_iload_n F dX12_pour_34 rfl (q := 3) rfl ?_
      refine z_iload_n F dX12_pour_35 rfl (q := 2) rfl ?_
      refine z_icmp_ge (tgt := 58) F dX12_pour_36 (by decide +kernel) (by omega) (by omega) (fun c15 => ?_) (fun c15 => ?_)
      · refine z_iload_n F dX12_pour_58 rfl (q := 2) rfl ?_
        exact hret _ _ 59 _ (by omega) ⟨hI, hW⟩ ⟨⟨by omega, by omega⟩, hF⟩ dX12_pour_59
      · refine z_aload_n F dX12_pour_39 rfl (q := 0) rfl ?_
        refine z_iload_n F dX12_pour_40 rfl (q := 1) rfl ?_
        refine z_iload_n F dX12_pour_41 rfl (q := 3) rfl ?_
        refine z_aload_n F dX12_pour_42 rfl (q := 0) rfl ?_
        refine z_iload_n F dX12_pour_43 rfl (q := 3) rfl ?_
        refine zv_i (rest := [ii y14, ii x0, .ref (ad 131)]) F (k_X12_lies l M13 ⟨hI, hW⟩ y14 (by omega) (by omega)) cs_X12_317 (T := TX12) (N := 44) (ci := 12) rfl gs_131 (by decide) (by decide) rfl rfl rfl (Nat.le_of_ble_eq_true rfl) dX12_pour_44 (fun v16 M17 rv16 hI p18 => ?_)
        obtain ⟨hI, hW⟩ := hI
        obtain ⟨⟨av16, bv16⟩, rfl⟩ := p18
        refine z_i2l F dX12_pour_47 (by omega) ?_
        refine zv_l (rest := []) F (k_X12_cut l M13 ⟨hI, hW⟩ x0 (by omega) (by omega) y14 (by omega) (by omega) v16 (by omega) (by omega)) cs_X12_535 (T := TX12) (N := 44) (ci := 12) rfl gs_131 (by decide) (by decide) rfl rfl rfl (Nat.le_of_ble_eq_true rfl) dX12_pour_48 (fun v19 M20 rv19 hI p21 => ?_)
        obtain ⟨hI, hW⟩ := hI
        obtain ⟨⟨av19, bv19⟩, fp21⟩ := p21
        have hF := hF.call fp21 (by decide)
        refine z_pop2 F dX12_pour_51 rfl ?_
        refine z_iincN F dX12_pour_52 (q := 3) rfl (by decide) (fun v22 ev22 => ?_)
        refine z_eq (ls' := [(3, ii v22), (0, .ref (ad 131)), (1, ii x0), (2, ii v12)]) rfl rfl rfl ?_
        refine z_goto (tgt := 34) F dX12_pour_55 (by decide +kernel) ?_
        refine z_loc [1, 2, 3, 0] (ls' := [(0, .ref (ad 131)), (1, ii x0), (2, ii v12), (3, ii v22)]) rfl ?_
        exact ih34 v22 M20 hI hW hF (by omega) (by omega) (by omega)
  · refine z_iconst F dX12_pour_16 ?_
    exact hret _ _ 17 _ (by omega) ⟨hI, hW⟩ ⟨⟨by omega, by omega⟩, hF⟩ dX12_pour_17
set_option maxRecDepth 4000 in
theorem k_X12_image (l : Launch) (M : Mem) (hJ : Iw M) (x0 : Int) (hx0a : (-2147483648) ≤ x0) (hx0b : x0 ≤ 2147483647) : CV l yX12_image cX12_image 3 none 2 (fun ad => [.ref (ad 131), ii x0]) M (fun M' => Fr [131, 134, 135] M M' ∧ (M' 131 4 = 0 ∧ (x0 = 0 ∧ M' 135 0 = 1 ∧ M' 135 1 = M 135 1 ∧ M' 135 2 = M 135 2 ∨ x0 = 1 ∧ M' 135 0 = M 135 0 ∧ M' 135 1 = 1 ∧ M' 135 2 = M 135 2 ∨ x0 = 2 ∧ M' 135 0 = M 135 0 ∧ M' 135 1 = M 135 1 ∧ M' 135 2 = 1) ∨ M' 131 4 = 1 ∧ (x0 < 0 ∨ 2 < x0) ∧ M' 135 0 = M 135 0 ∧ M' 135 1 = M 135 1 ∧ M' 135 2 = M 135 2) ∧ (ImR x0 M M')) := by
  obtain ⟨hI, hW⟩ := hJ
  have hF : Fr [131, 134, 135] M M := Fr.rf
  have hI0 := hI
  have hW0 := hW
  refine en_v (by decide +kernel) (fun ad => by exact Nat.le_of_ble_eq_true rfl) (fun D cy ad A p e s m args below meth c Q F hret => ?_)
  refine z_eq (ls' := [(0, .ref (ad 131)), (1, ii x0)]) rfl rfl rfl ?_
  refine z_aload_n F dX12_image_0 rfl (q := 0) rfl ?_
  refine z_iload_n F dX12_image_1 rfl (q := 1) rfl ?_
  refine z_i2l F dX12_image_2 (by omega) ?_
  refine z_lconst (x := 0) F dX12_image_3 (by decide +kernel) ?_
  refine z_ldc2 (x := 2) F dX12_image_4 (gin lm_93 rfl) (by decide +kernel) ?_
  refine zs_i (rest := [.ref (ad 131)]) F (k_X12_within l M ⟨hI, hW⟩ x0 (by omega) (by omega) 0 (by omega) (by omega) 2 (by omega) (by omega)) cs_X12_137 (by decide) (by decide) rfl rfl rfl (Nat.le_of_ble_eq_true rfl) dX12_image_7 (fun v1 M2 rv1 hI p3 => ?_)
  obtain ⟨hI, hW⟩ := hI
  obtain ⟨⟨av1, bv1⟩, rfl, xp3⟩ := p3
  refine z_if_eq (tgt := 17) F dX12_image_10 (by decide +kernel) (by omega) (fun c4 => ?_) (fun c4 => ?_)
  · refine z_iconst F dX12_image_17 ?_
    refine pf_X12_73 F hI gs_131 rfl bd_131_4 rfl rfl dX12_image_18 (by omega) (by omega) (fun M6 hI sf5 f5 => ?_)
    have tM6_135_0 : M6 135 0 = M 135 0 := f5 135 0 (fun q => absurd q.1 (by decide))
    have tM6_135_1 : M6 135 1 = M 135 1 := f5 135 1 (fun q => absurd q.1 (by decide))
    have tM6_135_2 : M6 135 2 = M 135 2 := f5 135 2 (fun q => absurd q.1 (by decide))
    have hF := hF.wrf f5 (by decide) (by decide)
    have hW : WFk M6 := hW.site f5 (by decide)
    refine z_aload_n F dX12_image_21 rfl (q := 0) rfl ?_
    refine gf_X12_73 F hI gs_131 rfl bd_131_4 dX12_image_22 (fun v7 ev7 av7 bv7 => ?_)
    have zv7 : 1 = v7 := sf5.symm.trans ev7.symm
    subst zv7
    refine z_if_le (tgt := 29) F dX12_image_25 (by decide +kernel) (by omega) (fun c8 => by exfalso; omega) (fun c8 => ?_)
    exact hret _ 28 _ ⟨hI, hW⟩ ⟨hF, (by omega), ⟨fun q1 q2 => by exfalso; omega, fun b _ => (f5 134 b (fun q => absurd q.1 (by decide))), fun _ b => (f5 134 b (fun q => absurd q.1 (by decide)))⟩⟩ dX12_image_28
  · refine z_iconst F dX12_image_13 ?_
    refine z_goto (tgt := 18) F dX12_image_14 (by decide +kernel) ?_
    refine pf_X12_73 F hI gs_131 rfl bd_131_4 rfl rfl dX12_image_18 (by omega) (by omega) (fun M10 hI sf9 f9 => ?_)
    have tM10_135_0 : M10 135 0 = M 135 0 := f9 135 0 (fun q => absurd q.1 (by decide))
    have tM10_135_1 : M10 135 1 = M 135 1 := f9 135 1 (fun q => absurd q.1 (by decide))
    have tM10_135_2 : M10 135 2 = M 135 2 := f9 135 2 (fun q => absurd q.1 (by decide))
    have hF := hF.wrf f9 (by decide) (by decide)
    have hW : WFk M10 := hW.site f9 (by decide)
    refine z_aload_n F dX12_image_21 rfl (q := 0) rfl ?_
    refine gf_X12_73 F hI gs_131 rfl bd_131_4 dX12_image_22 (fun v11 ev11 av11 bv11 => ?_)
    have zv11 : 0 = v11 := sf9.symm.trans ev11.symm
    subst zv11
    refine z_if_le (tgt := 29) F dX12_image_25 (by decide +kernel) (by omega) (fun c12 => ?_) (fun c12 => by exfalso; omega)
    refine z_aload_n F dX12_image_29 rfl (q := 0) rfl ?_
    refine rf_X12_19 F gs_131 rfl dX12_image_30 ?_
    refine z_iload_n F dX12_image_33 rfl (q := 1) rfl ?_
    refine z_iconst F dX12_image_34 ?_
    refine z_zast F hI gs_135 (by omega) (by omega) (by decide) bd_135 dX12_image_35 (nar_zz (by omega) (by omega)) (by omega) (by omega) (fun M14 hI sf13 f13 => ?_)
    have hF := hF.wr f13 (by decide) (by decide)
    have hW : WFk M14 := hW.site f13 (by decide)
    have hx3 := ix3 (x := x0) (by omega) (by omega) sf13 f13
    refine z_iconst F dX12_image_36 ?_
    refine z_istore_n F dX12_image_37 rfl (by decide) (ls' := [(2, ii 0), (0, .ref (ad 131)), (1, ii x0)]) rfl ?_
    refine z_loc [1, 2, 0] (ls' := [(0, .ref (ad 131)), (1, ii x0), (2, ii 0)]) rfl ?_
    have q17 : 0 = M14 131 4 := sf9.symm.trans (f13 131 4 (fun q => absurd q.1 (by decide))).symm
    suffices key38 : ∀ (n : Nat) (y16 : Int) (M15 : Mem), Inv M15 → Fr [131, 134, 135] M M15 → 0 ≤ y16 → y16 ≤ 1300 → (∀ j : Nat, (j : Int) < y16 → M15 134 (1300 * x0.toNat + j) = M15 132 j) → (∀ b : Nat, b < 1300 * x0.toNat ∨ 1300 * x0.toNat + 1300 ≤ b → M15 134 b = M 134 b) → (M15 131 4 = 0) → (x0 = 0 ∧ M15 135 0 = 1 ∧ M15 135 1 = M 135 1 ∧ M15 135 2 = M 135 2 ∨ x0 = 1 ∧ M15 135 0 = M 135 0 ∧ M15 135 1 = 1 ∧ M15 135 2 = M 135 2 ∨ x0 = 2 ∧ M15 135 0 = M 135 0 ∧ M15 135 1 = M 135 1 ∧ M15 135 2 = 1) → 1300 - y16 < (n : Int) → Z D cy ad p l e (RMh 2) s m args below meth c A 3 0 0 Q 38 [(0, .ref (ad 131)), (1, ii x0), (2, ii y16)] [] M15 from key38 1301 0 M14 hI hF (by omega) (by omega) (fun j hj => by omega) (fun b _ => ((f13 134 b (fun q => absurd q.1 (by decide))).trans (f9 134 b (fun q => absurd q.1 (by decide))))) (by omega) (by omega) (by omega)
    intro n38
    induction n38 with
    | zero => intro y16 M15 hI hF ay16 by16 i38_0 i38_1 i38_2 i38_3 hn38; exfalso; omega
    | succ n38 ih38 =>
      intro y16 M15 hI hF ay16 by16 i38_0 i38_1 i38_2 i38_3 hn38
      obtain ⟨u18, eu18⟩ : ∃ v : Int, v = M15 131 4 := ⟨_, rfl⟩
      have ku18 : 0 ≤ u18 ∧ u18 ≤ 3 := by have := hI.at (show Bd 131 4 = (0, 3) from rfl); omega
      refine z_iload_n F dX12_image_38 rfl (q := 2) rfl ?_
      refine z_sipush F dX12_image_39 (by decide +kernel) ?_
      refine z_icmp_ge (tgt := 69) F dX12_image_42 (by decide +kernel) (by omega) (by omega) (fun c19 => ?_) (fun c19 => ?_)
      · have hW : WFk M15 := wf_image hW0 hI0 (by omega) (by omega) (fun j hj => i38_0 j (by omega)) i38_1 (fun b => hF.at (by decide))
        exact hret _ 69 _ ⟨hI, hW⟩ ⟨hF, (by omega), ⟨fun _ _ j h => (i38_0 j (by omega)).trans (hF.at (by decide)), i38_1, fun q => by exfalso; omega⟩⟩ dX12_image_69
      · refine z_aload_n F dX12_image_45 rfl (q := 0) rfl ?_
        refine rf_X12_16 F gs_131 rfl dX12_image_46 ?_
        refine z_sipush F dX12_image_49 (by decide +kernel) ?_
        refine z_iload_n F dX12_image_52 rfl (q := 1) rfl ?_
        refine z_imul F dX12_image_53 ?_
        refine z_iload_n F dX12_image_54 rfl (q := 2) rfl ?_
        refine z_iadd F dX12_image_55 ?_
        refine z_aload_n F dX12_image_56 rfl (q := 0) rfl ?_
        refine rf_X12_9 F gs_131 rfl dX12_image_57 ?_
        refine z_iload_n F dX12_image_60 rfl (q := 2) rfl ?_
        refine z_ialdB F hI gs_132 (by omega) (by omega) (by decide) kn_w dX12_image_61 (fun v20 ev20 av20 bv20 rv20 => ?_)
        refine z_iastB F hI gs_134 (by omega) (by omega) (by decide) dX12_image_62 (bq_in (Eq.trans (bq_im (k := y16) x0 (by omega) (by omega) (by omega) (by omega)) (Eq.symm (rfl : Bd 132 _ = kn _))) av20 bv20) (fun M22 hI sf21 f21 => ?_)
        have tM22_135_0 : M22 135 0 = M15 135 0 := f21 135 0 (fun q => absurd q.1 (by decide))
        have tM22_135_1 : M22 135 1 = M15 135 1 := f21 135 1 (fun q => absurd q.1 (by decide))
        have tM22_135_2 : M22 135 2 = M15 135 2 := f21 135 2 (fun q => absurd q.1 (by decide))
        have hF := hF.wr f21 (by decide) (by decide)
        refine z_iincN F dX12_image_63 (q := 2) rfl (by decide) (fun v23 ev23 => ?_)
        refine z_eq (ls' := [(2, ii v23), (0, .ref (ad 131)), (1, ii x0)]) rfl rfl rfl ?_
        refine z_goto (tgt := 38) F dX12_image_66 (by decide +kernel) ?_
        refine z_loc [1, 2, 0] (ls' := [(0, .ref (ad 131)), (1, ii x0), (2, ii v23)]) rfl ?_
        have q24 : u18 = M22 131 4 := eu18.trans (f21 131 4 (fun q => absurd q.1 (by decide))).symm
        have nb25 : ∀ j : Nat, (j : Int) < v23 → M22 134 (1300 * x0.toNat + j) = M22 132 j := by
          intro j hj
          by_cases hq : j = y16.toNat
          · subst hq; rw [f21 132 _ (fun q => absurd q.1 (by decide)), show 1300 * x0.toNat + y16.toNat = ((1300 * x0) + y16).toNat by omega, sf21]; assumption
          · rw [f21 132 j (fun q => absurd q.1 (by decide)), f21 134 _ (fun q => by have := q.2; omega)]; exact i38_0 j (by omega)
        exact ih38 v23 M22 hI hF (by omega) (by omega) nb25 (fun b hb => (f21 134 b (fun q => by have := q.2; omega)).trans (i38_1 b hb)) (by omega) (by omega) (by omega)
set_option maxRecDepth 4000 in
theorem k_X12_restore (l : Launch) (M : Mem) (hJ : Iw M) (x0 : Int) (hx0a : (-2147483648) ≤ x0) (hx0b : x0 ≤ 2147483647) : CV l yX12_restore cX12_restore 3 none 2 (fun ad => [.ref (ad 131), ii x0]) M (fun M' => Fr [131, 132, 232] M M' ∧ (M' 131 4 = 1 ∧ (x0 < 0 ∨ 2 < x0) ∨ M' 131 4 = 2 ∧ (x0 = 0 ∧ M 135 0 = 0 ∨ x0 = 1 ∧ M 135 1 = 0 ∨ x0 = 2 ∧ M 135 2 = 0) ∨ M' 131 4 = 0 ∧ (x0 = 0 ∧ M 135 0 = 1 ∨ x0 = 1 ∧ M 135 1 = 1 ∨ x0 = 2 ∧ M 135 2 = 1)) ∧ (ReR x0 M M')) := by
  obtain ⟨hI, hW⟩ := hJ
  have hF : Fr [131, 132, 232] M M := Fr.rf
  have hI0 := hI
  have hW0 := hW
  refine en_v (by decide +kernel) (fun ad => by exact Nat.le_of_ble_eq_true rfl) (fun D cy ad A p e s m args below meth c Q F hret => ?_)
  refine z_eq (ls' := [(0, .ref (ad 131)), (1, ii x0)]) rfl rfl rfl ?_
  refine z_aload_n F dX12_restore_0 rfl (q := 0) rfl ?_
  refine z_iload_n F dX12_restore_1 rfl (q := 1) rfl ?_
  refine z_i2l F dX12_restore_2 (by omega) ?_
  refine z_lconst (x := 0) F dX12_restore_3 (by decide +kernel) ?_
  refine z_ldc2 (x := 2) F dX12_restore_4 (gin lm_93 rfl) (by decide +kernel) ?_
  refine zs_i (rest := [.ref (ad 131)]) F (k_X12_within l M ⟨hI, hW⟩ x0 (by omega) (by omega) 0 (by omega) (by omega) 2 (by omega) (by omega)) cs_X12_137 (by decide) (by decide) rfl rfl rfl (Nat.le_of_ble_eq_true rfl) dX12_restore_7 (fun v1 M2 rv1 hI p3 => ?_)
  obtain ⟨hI, hW⟩ := hI
  obtain ⟨⟨av1, bv1⟩, rfl, xp3⟩ := p3
  refine z_if_ne (tgt := 17) F dX12_restore_10 (by decide +kernel) (by omega) (fun c4 => ?_) (fun c4 => ?_)
  · refine z_aload_n F dX12_restore_17 rfl (q := 0) rfl ?_
    refine rf_X12_19 F gs_131 rfl dX12_restore_18 ?_
    refine z_iload_n F dX12_restore_21 rfl (q := 1) rfl ?_
    refine z_zald F hI gs_135 (by omega) (by omega) (by decide) bd_135 dX12_restore_22 (fun v5 (ev5 : v5 = M 135 _) av5 bv5 => ?_)
    have hx3 : (x0 = 0 → v5 = M 135 0) ∧ (x0 = 1 → v5 = M 135 1) ∧ (x0 = 2 → v5 = M 135 2) := ⟨fun h => by rw [ev5, h]; rfl, fun h => by rw [ev5, h]; rfl, fun h => by rw [ev5, h]; rfl⟩
    refine z_if_ne (tgt := 30) F dX12_restore_23 (by decide +kernel) (by omega) (fun c6 => ?_) (fun c6 => ?_)
    · refine z_iconst F dX12_restore_30 ?_
      refine pf_X12_73 F hI gs_131 rfl bd_131_4 rfl rfl dX12_restore_31 (by omega) (by omega) (fun M8 hI sf7 f7 => ?_)
      have hF := hF.wrf f7 (by decide) (by decide)
      have hW : WFk M8 := hW.site f7 (by decide)
      refine z_aload_n F dX12_restore_34 rfl (q := 0) rfl ?_
      refine gf_X12_73 F hI gs_131 rfl bd_131_4 dX12_restore_35 (fun v9 ev9 av9 bv9 => ?_)
      have zv9 : 0 = v9 := sf7.symm.trans ev9.symm
      subst zv9
      refine z_if_le (tgt := 42) F dX12_restore_38 (by decide +kernel) (by omega) (fun c10 => ?_) (fun c10 => by exfalso; omega)
      refine z_iconst F dX12_restore_42 ?_
      refine z_istore_n F dX12_restore_43 rfl (by decide) (ls' := [(2, ii 0), (0, .ref (ad 131)), (1, ii x0)]) rfl ?_
      refine z_loc [1, 2, 0] (ls' := [(0, .ref (ad 131)), (1, ii x0), (2, ii 0)]) rfl ?_
      suffices key44 : ∀ (n : Nat) (y12 : Int) (M11 : Mem), Inv M11 → Fr [131, 132, 232] M M11 → 0 ≤ y12 → y12 ≤ 1300 → (∀ j : Nat, (j : Int) < y12 → M11 132 j = M11 134 (1300 * x0.toNat + j)) → (M11 131 4 = 0) → 1300 - y12 < (n : Int) → Z D cy ad p l e (RMh 2) s m args below meth c A 3 0 0 Q 44 [(0, .ref (ad 131)), (1, ii x0), (2, ii y12)] [] M11 from key44 1301 0 M8 hI hF (by omega) (by omega) (fun j hj => by omega) (by omega) (by omega)
      intro n44
      induction n44 with
      | zero => intro y12 M11 hI hF ay12 by12 i44_0 i44_1 hn44; exfalso; omega
      | succ n44 ih44 =>
        intro y12 M11 hI hF ay12 by12 i44_0 i44_1 hn44
        obtain ⟨u13, eu13⟩ : ∃ v : Int, v = M11 131 4 := ⟨_, rfl⟩
        have ku13 : 0 ≤ u13 ∧ u13 ≤ 3 := by have := hI.at (show Bd 131 4 = (0, 3) from rfl); omega
        refine z_iload_n F dX12_restore_44 rfl (q := 2) rfl ?_
        refine z_sipush F dX12_restore_45 (by decide +kernel) ?_
        refine z_icmp_ge (tgt := 75) F dX12_restore_48 (by decide +kernel) (by omega) (by omega) (fun c14 => ?_) (fun c14 => ?_)
        · have hW : WFk M11 := wf_restore hW0 hI0 (by omega) (by omega) (fun j hj => i44_0 j (by omega)) (fun b => hF.at (by decide))
          exact hret _ 75 _ ⟨hI, hW⟩ ⟨hF, (by omega), ⟨fun _ j h => (i44_0 j (by omega)).trans (hF.at (by decide)), fun q => by exfalso; omega⟩⟩ dX12_restore_75
        · refine z_aload_n F dX12_restore_51 rfl (q := 0) rfl ?_
          refine rf_X12_9 F gs_131 rfl dX12_restore_52 ?_
          refine z_iload_n F dX12_restore_55 rfl (q := 2) rfl ?_
          refine z_aload_n F dX12_restore_56 rfl (q := 0) rfl ?_
          refine rf_X12_16 F gs_131 rfl dX12_restore_57 ?_
          refine z_sipush F dX12_restore_60 (by decide +kernel) ?_
          refine z_iload_n F dX12_restore_63 rfl (q := 1) rfl ?_
          refine z_imul F dX12_restore_64 ?_
          refine z_iload_n F dX12_restore_65 rfl (q := 2) rfl ?_
          refine z_iadd F dX12_restore_66 ?_
          refine z_ialdB F hI gs_134 (by omega) (by omega) (by decide) kn3_w dX12_restore_67 (fun v15 ev15 av15 bv15 rv15 => ?_)
          refine z_iastB F hI gs_132 (by omega) (by omega) (by decide) dX12_restore_68 (bq_in (Eq.trans (rfl : Bd 132 _ = kn _) (Eq.symm (bq_im (k := y12) x0 (by omega) (by omega) (by omega) (by omega)))) av15 bv15) (fun M17 hI sf16 f16 => ?_)
          have hF := hF.wrs f16 (by decide) (by decide)
          refine z_iincN F dX12_restore_69 (q := 2) rfl (by decide) (fun v18 ev18 => ?_)
          refine z_eq (ls' := [(2, ii v18), (0, .ref (ad 131)), (1, ii x0)]) rfl rfl rfl ?_
          refine z_goto (tgt := 44) F dX12_restore_72 (by decide +kernel) ?_
          refine z_loc [1, 2, 0] (ls' := [(0, .ref (ad 131)), (1, ii x0), (2, ii v18)]) rfl ?_
          have q19 : u13 = M17 131 4 := eu13.trans (f16 131 4 (fun q => absurd q.1 (by decide))).symm
          have nb20 : ∀ j : Nat, (j : Int) < v18 → M17 132 j = M17 134 (1300 * x0.toNat + j) := by
            intro j hj
            by_cases hq : j = y12.toNat
            · subst hq; rw [sf16, f16 134 _ (fun q => absurd q.1 (by decide))]; rw [show 1300 * x0.toNat + y12.toNat = ((1300 * x0) + y12).toNat by omega]; assumption
            · rw [f16 132 j (fun q => hq q.2), f16 134 _ (fun q => absurd q.1 (by decide))]; exact i44_0 j (by omega)
          exact ih44 v18 M17 hI hF (by omega) (by omega) nb20 (by omega) (by omega)
    · refine z_iconst F dX12_restore_26 ?_
      refine z_goto (tgt := 31) F dX12_restore_27 (by decide +kernel) ?_
      refine pf_X12_73 F hI gs_131 rfl bd_131_4 rfl rfl dX12_restore_31 (by omega) (by omega) (fun M22 hI sf21 f21 => ?_)
      have hF := hF.wrf f21 (by decide) (by decide)
      have hW : WFk M22 := hW.site f21 (by decide)
      refine z_aload_n F dX12_restore_34 rfl (q := 0) rfl ?_
      refine gf_X12_73 F hI gs_131 rfl bd_131_4 dX12_restore_35 (fun v23 ev23 av23 bv23 => ?_)
      have zv23 : 2 = v23 := sf21.symm.trans ev23.symm
      subst zv23
      refine z_if_le (tgt := 42) F dX12_restore_38 (by decide +kernel) (by omega) (fun c24 => by exfalso; omega) (fun c24 => ?_)
      exact hret _ 41 _ ⟨hI, hW⟩ ⟨hF, (by omega), ⟨fun q => by exfalso; omega, fun _ b => (f21 132 b (fun q => absurd q.1 (by decide)))⟩⟩ dX12_restore_41
  · refine z_iconst F dX12_restore_13 ?_
    refine z_goto (tgt := 31) F dX12_restore_14 (by decide +kernel) ?_
    refine pf_X12_73 F hI gs_131 rfl bd_131_4 rfl rfl dX12_restore_31 (by omega) (by omega) (fun M26 hI sf25 f25 => ?_)
    have hF := hF.wrf f25 (by decide) (by decide)
    have hW : WFk M26 := hW.site f25 (by decide)
    refine z_aload_n F dX12_restore_34 rfl (q := 0) rfl ?_
    refine gf_X12_73 F hI gs_131 rfl bd_131_4 dX12_restore_35 (fun v27 ev27 av27 bv27 => ?_)
    have zv27 : 1 = v27 := sf25.symm.trans ev27.symm
    subst zv27
    refine z_if_le (tgt := 42) F dX12_restore_38 (by decide +kernel) (by omega) (fun c28 => by exfalso; omega) (fun c28 => ?_)
    exact hret _ 41 _ ⟨hI, hW⟩ ⟨hF, (by omega), ⟨fun q => by exfalso; omega, fun _ b => (f25 132 b (fun q => absurd q.1 (by decide)))⟩⟩ dX12_restore_41
set_option maxRecDepth 4000 in
theorem k_X12_count (l : Launch) (M : Mem) (hJ : Iw M) (x0 : Int) (hx0a : (-2147483648) ≤ x0) (hx0b : x0 ≤ 2147483647) : CI l yX12_count cX12_count 2 (some .int) 2 (fun ad => [.ref (ad 131), ii x0]) M (fun z M' => ((-2147483648) ≤ z ∧ z ≤ 2147483647) ∧ Fr [131] M M') := by
  obtain ⟨hI, hW⟩ := hJ
  have hF : Fr [131] M M := Fr.rf
  refine en_i (by decide +kernel) (fun ad => by exact Nat.le_of_ble_eq_true rfl) (fun D cy ad A p e s m args below meth c Q F hret => ?_)
  refine z_eq (ls' := [(0, .ref (ad 131)), (1, ii x0)]) rfl rfl rfl ?_
  refine z_aload_n F dX12_count_0 rfl (q := 0) rfl ?_
  refine z_iconst F dX12_count_1 ?_
  refine pf_X12_73 F hI gs_131 rfl bd_131_4 rfl rfl dX12_count_2 (by omega) (by omega) (fun M2 hI sf1 f1 => ?_)
  have hF := hF.wrf f1 (by decide) (by decide)
  have hW : WFk M2 := hW.site f1 (by decide)
  refine z_iload_n F dX12_count_5 rfl (q := 1) rfl ?_
  rcases (show x0 = 0 ∨ x0 = 1 ∨ x0 = 2 ∨ x0 = 3 ∨ x0 = 4 ∨ x0 = 5 ∨ x0 = 6 ∨ x0 = 7 ∨ x0 = 8 ∨ x0 = 9 ∨ x0 = 10 ∨ (¬ x0 = 0 ∧ ¬ x0 = 1 ∧ ¬ x0 = 2 ∧ ¬ x0 = 3 ∧ ¬ x0 = 4 ∧ ¬ x0 = 5 ∧ ¬ x0 = 6 ∧ ¬ x0 = 7 ∧ ¬ x0 = 8 ∧ ¬ x0 = 9 ∧ ¬ x0 = 10) by omega) with c3 | c3 | c3 | c3 | c3 | c3 | c3 | c3 | c3 | c3 | c3 | c3
  · refine z_tabIn (tgt := 64) (off := 58) F dX12_count_6 (by omega) (by omega) (by omega) (by rw [c3]; rfl) (by decide +kernel) ?_
    refine z_aload_n F dX12_count_64 rfl (q := 0) rfl ?_
    refine rf_X12_9 F gs_131 rfl dX12_count_65 ?_
    refine z_iconst F dX12_count_68 ?_
    refine z_iald F hI gs_132 (by omega) (by omega) (by decide) (show Bd 132 0 = (-2147483648, 2147483647) from rfl) dX12_count_69 (fun v4 (ev4 : v4 = M2 132 0) av4 bv4 => ?_)
    exact hret _ _ 70 _ (by omega) ⟨hI, hW⟩ ⟨⟨by omega, by omega⟩, hF⟩ dX12_count_70
  · refine z_tabIn (tgt := 71) (off := 65) F dX12_count_6 (by omega) (by omega) (by omega) (by rw [c3]; rfl) (by decide +kernel) ?_
    refine z_aload_n F dX12_count_71 rfl (q := 0) rfl ?_
    refine zv_i (rest := []) F (k_X12_places l M2 ⟨hI, hW⟩) cs_X12_273 (T := TX12) (N := 44) (ci := 12) rfl gs_131 (by decide) (by decide) rfl rfl rfl (Nat.le_of_ble_eq_true rfl) dX12_count_72 (fun v5 M6 rv5 hI p7 => ?_)
    obtain ⟨hI, hW⟩ := hI
    obtain ⟨⟨av5, bv5⟩, rfl, xp7⟩ := p7
    exact hret _ _ 75 _ (by omega) ⟨hI, hW⟩ ⟨⟨by omega, by omega⟩, hF⟩ dX12_count_75
  · refine z_tabIn (tgt := 76) (off := 70) F dX12_count_6 (by omega) (by omega) (by omega) (by rw [c3]; rfl) (by decide +kernel) ?_
    refine z_aload_n F dX12_count_76 rfl (q := 0) rfl ?_
    refine zv_i (rest := []) F (k_X12_things l M2 ⟨hI, hW⟩) cs_X12_275 (T := TX12) (N := 44) (ci := 12) rfl gs_131 (by decide) (by decide) rfl rfl rfl (Nat.le_of_ble_eq_true rfl) dX12_count_77 (fun v8 M9 rv8 hI p10 => ?_)
    obtain ⟨hI, hW⟩ := hI
    obtain ⟨⟨av8, bv8⟩, rfl, xp10⟩ := p10
    exact hret _ _ 80 _ (by omega) ⟨hI, hW⟩ ⟨⟨by omega, by omega⟩, hF⟩ dX12_count_80
  · refine z_tabIn (tgt := 81) (off := 75) F dX12_count_6 (by omega) (by omega) (by omega) (by rw [c3]; rfl) (by decide +kernel) ?_
    refine z_aload_n F dX12_count_81 rfl (q := 0) rfl ?_
    refine rf_X12_9 F gs_131 rfl dX12_count_82 ?_
    refine z_iconst F dX12_count_85 ?_
    refine z_iald F hI gs_132 (by omega) (by omega) (by decide) (show Bd 132 3 = (0, 20) from rfl) dX12_count_86 (fun v11 (ev11 : v11 = M2 132 3) av11 bv11 => ?_)
    exact hret _ _ 87 _ (by omega) ⟨hI, hW⟩ ⟨⟨by omega, by omega⟩, hF⟩ dX12_count_87
  · refine z_tabIn (tgt := 88) (off := 82) F dX12_count_6 (by omega) (by omega) (by omega) (by rw [c3]; rfl) (by decide +kernel) ?_
    refine z_aload_n F dX12_count_88 rfl (q := 0) rfl ?_
    refine rf_X12_9 F gs_131 rfl dX12_count_89 ?_
    refine z_iconst F dX12_count_92 ?_
    refine z_iald F hI gs_132 (by omega) (by omega) (by decide) (show Bd 132 4 = (0, 6) from rfl) dX12_count_93 (fun v12 (ev12 : v12 = M2 132 4) av12 bv12 => ?_)
    exact hret _ _ 94 _ (by omega) ⟨hI, hW⟩ ⟨⟨by omega, by omega⟩, hF⟩ dX12_count_94
  · refine z_tabIn (tgt := 95) (off := 89) F dX12_count_6 (by omega) (by omega) (by omega) (by rw [c3]; rfl) (by decide +kernel) ?_
    refine z_aload_n F dX12_count_95 rfl (q := 0) rfl ?_
    refine rf_X12_9 F gs_131 rfl dX12_count_96 ?_
    refine z_bipush F dX12_count_99 (by decide +kernel) ?_
    refine z_iald F hI gs_132 (by omega) (by omega) (by decide) (show Bd 132 24 = (-2147483648, 2147483647) from rfl) dX12_count_101 (fun v13 (ev13 : v13 = M2 132 24) av13 bv13 => ?_)
    exact hret _ _ 102 _ (by omega) ⟨hI, hW⟩ ⟨⟨by omega, by omega⟩, hF⟩ dX12_count_102
  · refine z_tabIn (tgt := 103) (off := 97) F dX12_count_6 (by omega) (by omega) (by omega) (by rw [c3]; rfl) (by decide +kernel) ?_
    refine z_aload_n F dX12_count_103 rfl (q := 0) rfl ?_
    refine rf_X12_9 F gs_131 rfl dX12_count_104 ?_
    refine z_bipush F dX12_count_107 (by decide +kernel) ?_
    refine z_iald F hI gs_132 (by omega) (by omega) (by decide) (show Bd 132 25 = (-2147483648, 2147483647) from rfl) dX12_count_109 (fun v14 (ev14 : v14 = M2 132 25) av14 bv14 => ?_)
    exact hret _ _ 110 _ (by omega) ⟨hI, hW⟩ ⟨⟨by omega, by omega⟩, hF⟩ dX12_count_110
  · refine z_tabIn (tgt := 111) (off := 105) F dX12_count_6 (by omega) (by omega) (by omega) (by rw [c3]; rfl) (by decide +kernel) ?_
    refine z_aload_n F dX12_count_111 rfl (q := 0) rfl ?_
    refine rf_X12_9 F gs_131 rfl dX12_count_112 ?_
    refine z_bipush F dX12_count_115 (by decide +kernel) ?_
    refine z_iald F hI gs_132 (by omega) (by omega) (by decide) (show Bd 132 7 = (0, 12) from rfl) dX12_count_117 (fun v15 (ev15 : v15 = M2 132 7) av15 bv15 => ?_)
    exact hret _ _ 118 _ (by omega) ⟨hI, hW⟩ ⟨⟨by omega, by omega⟩, hF⟩ dX12_count_118
  · refine z_tabIn (tgt := 119) (off := 113) F dX12_count_6 (by omega) (by omega) (by omega) (by rw [c3]; rfl) (by decide +kernel) ?_
    refine z_aload_n F dX12_count_119 rfl (q := 0) rfl ?_
    refine gf_X12_76 F hI gs_131 rfl bd_131_6 dX12_count_120 (fun v16 ev16 av16 bv16 => ?_)
    exact hret _ _ 123 _ (by omega) ⟨hI, hW⟩ ⟨⟨by omega, by omega⟩, hF⟩ dX12_count_123
  · refine z_tabIn (tgt := 124) (off := 118) F dX12_count_6 (by omega) (by omega) (by omega) (by rw [c3]; rfl) (by decide +kernel) ?_
    refine z_aload_n F dX12_count_124 rfl (q := 0) rfl ?_
    refine rf_X12_9 F gs_131 rfl dX12_count_125 ?_
    refine z_bipush F dX12_count_128 (by decide +kernel) ?_
    refine z_iald F hI gs_132 (by omega) (by omega) (by decide) (show Bd 132 6 = (0, 900) from rfl) dX12_count_130 (fun v17 (ev17 : v17 = M2 132 6) av17 bv17 => ?_)
    refine z_if_le (tgt := 138) F dX12_count_131 (by decide +kernel) (by omega) (fun c18 => ?_) (fun c18 => ?_)
    · refine z_iconst F dX12_count_138 ?_
      exact hret _ _ 139 _ (by omega) ⟨hI, hW⟩ ⟨⟨by omega, by omega⟩, hF⟩ dX12_count_139
    · refine z_iconst F dX12_count_134 ?_
      refine z_goto (tgt := 139) F dX12_count_135 (by decide +kernel) ?_
      exact hret _ _ 139 _ (by omega) ⟨hI, hW⟩ ⟨⟨by omega, by omega⟩, hF⟩ dX12_count_139
  · refine z_tabIn (tgt := 140) (off := 134) F dX12_count_6 (by omega) (by omega) (by omega) (by rw [c3]; rfl) (by decide +kernel) ?_
    refine z_aload_n F dX12_count_140 rfl (q := 0) rfl ?_
    refine zv_i (rest := []) F (k_X12_places l M2 ⟨hI, hW⟩) cs_X12_273 (T := TX12) (N := 44) (ci := 12) rfl gs_131 (by decide) (by decide) rfl rfl rfl (Nat.le_of_ble_eq_true rfl) dX12_count_141 (fun v19 M20 rv19 hI p21 => ?_)
    obtain ⟨hI, hW⟩ := hI
    obtain ⟨⟨av19, bv19⟩, rfl, xp21⟩ := p21
    refine z_aload_n F dX12_count_144 rfl (q := 0) rfl ?_
    refine zv_i (rest := [ii v19]) F (k_X12_things l M2 ⟨hI, hW⟩) cs_X12_275 (T := TX12) (N := 44) (ci := 12) rfl gs_131 (by decide) (by decide) rfl rfl rfl (Nat.le_of_ble_eq_true rfl) dX12_count_145 (fun v22 M23 rv22 hI p24 => ?_)
    obtain ⟨hI, hW⟩ := hI
    obtain ⟨⟨av22, bv22⟩, rfl, xp24⟩ := p24
    refine z_isub F dX12_count_148 ?_
    exact hret _ _ 149 _ (by omega) ⟨hI, hW⟩ ⟨⟨by omega, by omega⟩, hF⟩ dX12_count_149
  · refine z_tabOut (tgt := 150) F dX12_count_6 (by omega) (by omega) (by decide +kernel) ?_
    refine z_iconst F dX12_count_150 ?_
    exact hret _ _ 151 _ (by omega) ⟨hI, hW⟩ ⟨⟨by omega, by omega⟩, hF⟩ dX12_count_151
