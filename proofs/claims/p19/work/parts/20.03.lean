theorem dX12_areUnlike_0 : decode cX12_areUnlike 0 = .ok (.aload_n 0, 1) := by decide +kernel
theorem dX12_areUnlike_1 : decode cX12_areUnlike 1 = .ok (.getfield 66, 3) := by decide +kernel
theorem dX12_areUnlike_11 : decode cX12_areUnlike 11 = .ok (.invokestatic 137, 3) := by decide +kernel
theorem dX12_areUnlike_14 : decode cX12_areUnlike 14 = .ok (.ifCond .ne 5, 3) := by decide +kernel
theorem dX12_areUnlike_17 : decode cX12_areUnlike 17 = .ok (.iconst 0, 1) := by decide +kernel
theorem dX12_areUnlike_18 : decode cX12_areUnlike 18 = .ok (.ireturn, 1) := by decide +kernel
theorem dX12_areUnlike_19 : decode cX12_areUnlike 19 = .ok (.iconst 0, 1) := by decide +kernel
theorem dX12_areUnlike_20 : decode cX12_areUnlike 20 = .ok (.istore_n 2, 1) := by decide +kernel
theorem dX12_areUnlike_21 : decode cX12_areUnlike 21 = .ok (.iload_n 2, 1) := by decide +kernel
theorem dX12_areUnlike_22 : decode cX12_areUnlike 22 = .ok (.aload_n 0, 1) := by decide +kernel
theorem dX12_areUnlike_23 : decode cX12_areUnlike 23 = .ok (.getfield 66, 3) := by decide +kernel
theorem dX12_areUnlike_26 : decode cX12_areUnlike 26 = .ok (.iload_n 1, 1) := by decide +kernel
theorem dX12_areUnlike_27 : decode cX12_areUnlike 27 = .ok (.iaload, 1) := by decide +kernel
theorem dX12_areUnlike_28 : decode cX12_areUnlike 28 = .ok (.if_icmp .ge 70, 3) := by decide +kernel
theorem dX12_areUnlike_31 : decode cX12_areUnlike 31 = .ok (.aload_n 0, 1) := by decide +kernel
theorem dX12_areUnlike_32 : decode cX12_areUnlike 32 = .ok (.aload_n 0, 1) := by decide +kernel
theorem dX12_areUnlike_33 : decode cX12_areUnlike 33 = .ok (.getfield 69, 3) := by decide +kernel
theorem dX12_areUnlike_36 : decode cX12_areUnlike 36 = .ok (.bipush 30, 2) := by decide +kernel
theorem dX12_areUnlike_38 : decode cX12_areUnlike 38 = .ok (.iload_n 1, 1) := by decide +kernel
theorem dX12_areUnlike_39 : decode cX12_areUnlike 39 = .ok (.imul, 1) := by decide +kernel
theorem dX12_areUnlike_4 : decode cX12_areUnlike 4 = .ok (.iload_n 1, 1) := by decide +kernel
theorem dX12_areUnlike_40 : decode cX12_areUnlike 40 = .ok (.iload_n 2, 1) := by decide +kernel
theorem dX12_areUnlike_41 : decode cX12_areUnlike 41 = .ok (.iadd, 1) := by decide +kernel
theorem dX12_areUnlike_42 : decode cX12_areUnlike 42 = .ok (.laload, 1) := by decide +kernel
theorem dX12_areUnlike_43 : decode cX12_areUnlike 43 = .ok (.invokevirtual 335, 3) := by decide +kernel
theorem dX12_areUnlike_46 : decode cX12_areUnlike 46 = .ok (.ifCond .ne 5, 3) := by decide +kernel
theorem dX12_areUnlike_49 : decode cX12_areUnlike 49 = .ok (.iconst 0, 1) := by decide +kernel
theorem dX12_areUnlike_5 : decode cX12_areUnlike 5 = .ok (.iaload, 1) := by decide +kernel
theorem dX12_areUnlike_50 : decode cX12_areUnlike 50 = .ok (.ireturn, 1) := by decide +kernel
theorem dX12_areUnlike_51 : decode cX12_areUnlike 51 = .ok (.iconst 0, 1) := by decide +kernel
theorem dX12_areUnlike_52 : decode cX12_areUnlike 52 = .ok (.istore_n 3, 1) := by decide +kernel
theorem dX12_areUnlike_53 : decode cX12_areUnlike 53 = .ok (.iload_n 3, 1) := by decide +kernel
theorem dX12_areUnlike_54 : decode cX12_areUnlike 54 = .ok (.iload_n 2, 1) := by decide +kernel
theorem dX12_areUnlike_55 : decode cX12_areUnlike 55 = .ok (.if_icmp .ge 37, 3) := by decide +kernel
theorem dX12_areUnlike_58 : decode cX12_areUnlike 58 = .ok (.aload_n 0, 1) := by decide +kernel
theorem dX12_areUnlike_59 : decode cX12_areUnlike 59 = .ok (.getfield 69, 3) := by decide +kernel
theorem dX12_areUnlike_6 : decode cX12_areUnlike 6 = .ok (.i2l, 1) := by decide +kernel
theorem dX12_areUnlike_62 : decode cX12_areUnlike 62 = .ok (.bipush 30, 2) := by decide +kernel
theorem dX12_areUnlike_64 : decode cX12_areUnlike 64 = .ok (.iload_n 1, 1) := by decide +kernel
theorem dX12_areUnlike_65 : decode cX12_areUnlike 65 = .ok (.imul, 1) := by decide +kernel
theorem dX12_areUnlike_66 : decode cX12_areUnlike 66 = .ok (.iload_n 3, 1) := by decide +kernel
theorem dX12_areUnlike_67 : decode cX12_areUnlike 67 = .ok (.iadd, 1) := by decide +kernel
theorem dX12_areUnlike_68 : decode cX12_areUnlike 68 = .ok (.laload, 1) := by decide +kernel
theorem dX12_areUnlike_69 : decode cX12_areUnlike 69 = .ok (.aload_n 0, 1) := by decide +kernel
theorem dX12_areUnlike_7 : decode cX12_areUnlike 7 = .ok (.lconst 1, 1) := by decide +kernel
theorem dX12_areUnlike_70 : decode cX12_areUnlike 70 = .ok (.getfield 69, 3) := by decide +kernel
theorem dX12_areUnlike_73 : decode cX12_areUnlike 73 = .ok (.bipush 30, 2) := by decide +kernel
theorem dX12_areUnlike_75 : decode cX12_areUnlike 75 = .ok (.iload_n 1, 1) := by decide +kernel
theorem dX12_areUnlike_76 : decode cX12_areUnlike 76 = .ok (.imul, 1) := by decide +kernel
theorem dX12_areUnlike_77 : decode cX12_areUnlike 77 = .ok (.iload_n 2, 1) := by decide +kernel
theorem dX12_areUnlike_78 : decode cX12_areUnlike 78 = .ok (.iadd, 1) := by decide +kernel
theorem dX12_areUnlike_79 : decode cX12_areUnlike 79 = .ok (.laload, 1) := by decide +kernel
theorem dX12_areUnlike_8 : decode cX12_areUnlike 8 = .ok (.ldc2_w 395, 3) := by decide +kernel
theorem dX12_areUnlike_80 : decode cX12_areUnlike 80 = .ok (.lcmp, 1) := by decide +kernel
theorem dX12_areUnlike_81 : decode cX12_areUnlike 81 = .ok (.ifCond .ne 5, 3) := by decide +kernel
theorem dX12_areUnlike_84 : decode cX12_areUnlike 84 = .ok (.iconst 0, 1) := by decide +kernel
theorem dX12_areUnlike_85 : decode cX12_areUnlike 85 = .ok (.ireturn, 1) := by decide +kernel
theorem dX12_areUnlike_86 : decode cX12_areUnlike 86 = .ok (.iinc 3 1, 3) := by decide +kernel
theorem dX12_areUnlike_89 : decode cX12_areUnlike 89 = .ok (.goto (-36), 3) := by decide +kernel
theorem dX12_areUnlike_92 : decode cX12_areUnlike 92 = .ok (.iinc 2 1, 3) := by decide +kernel
theorem dX12_areUnlike_95 : decode cX12_areUnlike 95 = .ok (.goto (-74), 3) := by decide +kernel
theorem dX12_areUnlike_98 : decode cX12_areUnlike 98 = .ok (.iconst 1, 1) := by decide +kernel
theorem dX12_areUnlike_99 : decode cX12_areUnlike 99 = .ok (.ireturn, 1) := by decide +kernel
theorem dX12_atRest_0 : decode cX12_atRest 0 = .ok (.aload_n 0, 1) := by decide +kernel
theorem dX12_atRest_1 : decode cX12_atRest 1 = .ok (.iconst 0, 1) := by decide +kernel
theorem dX12_atRest_12 : decode cX12_atRest 12 = .ok (.if_icmp .ge 20, 3) := by decide +kernel
theorem dX12_atRest_15 : decode cX12_atRest 15 = .ok (.aload_n 0, 1) := by decide +kernel
theorem dX12_atRest_16 : decode cX12_atRest 16 = .ok (.iload_n 1, 1) := by decide +kernel
theorem dX12_atRest_17 : decode cX12_atRest 17 = .ok (.invokevirtual 518, 3) := by decide +kernel
theorem dX12_atRest_2 : decode cX12_atRest 2 = .ok (.putfield 73, 3) := by decide +kernel
theorem dX12_atRest_20 : decode cX12_atRest 20 = .ok (.iconst (-1), 1) := by decide +kernel
theorem dX12_atRest_21 : decode cX12_atRest 21 = .ok (.if_icmp .eq 5, 3) := by decide +kernel
theorem dX12_atRest_24 : decode cX12_atRest 24 = .ok (.iconst 0, 1) := by decide +kernel
theorem dX12_atRest_25 : decode cX12_atRest 25 = .ok (.ireturn, 1) := by decide +kernel
theorem dX12_atRest_26 : decode cX12_atRest 26 = .ok (.iinc 1 1, 3) := by decide +kernel
theorem dX12_atRest_29 : decode cX12_atRest 29 = .ok (.goto (-22), 3) := by decide +kernel
theorem dX12_atRest_32 : decode cX12_atRest 32 = .ok (.iconst 1, 1) := by decide +kernel
theorem dX12_atRest_33 : decode cX12_atRest 33 = .ok (.ireturn, 1) := by decide +kernel
theorem dX12_atRest_5 : decode cX12_atRest 5 = .ok (.iconst 0, 1) := by decide +kernel
theorem dX12_atRest_6 : decode cX12_atRest 6 = .ok (.istore_n 1, 1) := by decide +kernel
theorem dX12_atRest_7 : decode cX12_atRest 7 = .ok (.iload_n 1, 1) := by decide +kernel
theorem dX12_atRest_8 : decode cX12_atRest 8 = .ok (.aload_n 0, 1) := by decide +kernel
theorem dX12_atRest_9 : decode cX12_atRest 9 = .ok (.invokevirtual 275, 3) := by decide +kernel
theorem dX12_bestRow_0 : decode cX12_bestRow 0 = .ok (.aload_n 0, 1) := by decide +kernel
theorem dX12_bestRow_1 : decode cX12_bestRow 1 = .ok (.iconst 0, 1) := by decide +kernel
theorem dX12_bestRow_11 : decode cX12_bestRow 11 = .ok (.ishl, 1) := by decide +kernel
theorem dX12_bestRow_12 : decode cX12_bestRow 12 = .ok (.ineg, 1) := by decide +kernel
theorem dX12_bestRow_13 : decode cX12_bestRow 13 = .ok (.iand, 1) := by decide +kernel
theorem dX12_bestRow_14 : decode cX12_bestRow 14 = .ok (.ifCond .ne 21, 3) := by decide +kernel
theorem dX12_bestRow_17 : decode cX12_bestRow 17 = .ok (.iload_n 3, 1) := by decide +kernel
theorem dX12_bestRow_18 : decode cX12_bestRow 18 = .ok (.ifCond .eq 23, 3) := by decide +kernel
theorem dX12_bestRow_2 : decode cX12_bestRow 2 = .ok (.putfield 73, 3) := by decide +kernel
theorem dX12_bestRow_21 : decode cX12_bestRow 21 = .ok (.iload_n 3, 1) := by decide +kernel
theorem dX12_bestRow_22 : decode cX12_bestRow 22 = .ok (.i2l, 1) := by decide +kernel
theorem dX12_bestRow_23 : decode cX12_bestRow 23 = .ok (.ldc2_w 395, 3) := by decide +kernel
theorem dX12_bestRow_26 : decode cX12_bestRow 26 = .ok (.ldc2_w 508, 3) := by decide +kernel
theorem dX12_bestRow_29 : decode cX12_bestRow 29 = .ok (.invokestatic 137, 3) := by decide +kernel
theorem dX12_bestRow_32 : decode cX12_bestRow 32 = .ok (.ifCond .ne 9, 3) := by decide +kernel
theorem dX12_bestRow_35 : decode cX12_bestRow 35 = .ok (.aload_n 0, 1) := by decide +kernel
theorem dX12_bestRow_36 : decode cX12_bestRow 36 = .ok (.iconst 1, 1) := by decide +kernel
theorem dX12_bestRow_37 : decode cX12_bestRow 37 = .ok (.invokevirtual 262, 3) := by decide +kernel
theorem dX12_bestRow_40 : decode cX12_bestRow 40 = .ok (.ireturn, 1) := by decide +kernel
theorem dX12_bestRow_41 : decode cX12_bestRow 41 = .ok (.aload_n 0, 1) := by decide +kernel
theorem dX12_bestRow_42 : decode cX12_bestRow 42 = .ok (.iconst 0, 1) := by decide +kernel
theorem dX12_bestRow_43 : decode cX12_bestRow 43 = .ok (.putfield 498, 3) := by decide +kernel
theorem dX12_bestRow_46 : decode cX12_bestRow 46 = .ok (.aload_n 0, 1) := by decide +kernel
theorem dX12_bestRow_47 : decode cX12_bestRow 47 = .ok (.iconst 0, 1) := by decide +kernel
theorem dX12_bestRow_48 : decode cX12_bestRow 48 = .ok (.iload_n 1, 1) := by decide +kernel
theorem dX12_bestRow_49 : decode cX12_bestRow 49 = .ok (.iconst 0, 1) := by decide +kernel
theorem dX12_bestRow_5 : decode cX12_bestRow 5 = .ok (.iload_n 1, 1) := by decide +kernel
theorem dX12_bestRow_50 : decode cX12_bestRow 50 = .ok (.iload_n 2, 1) := by decide +kernel
theorem dX12_bestRow_51 : decode cX12_bestRow 51 = .ok (.invokevirtual 504, 3) := by decide +kernel
theorem dX12_bestRow_54 : decode cX12_bestRow 54 = .ok (.iload_n 3, 1) := by decide +kernel
theorem dX12_bestRow_55 : decode cX12_bestRow 55 = .ok (.ifCond .ne 10, 3) := by decide +kernel
theorem dX12_bestRow_58 : decode cX12_bestRow 58 = .ok (.aload_n 0, 1) := by decide +kernel
theorem dX12_bestRow_59 : decode cX12_bestRow 59 = .ok (.getfield 501, 3) := by decide +kernel
theorem dX12_bestRow_6 : decode cX12_bestRow 6 = .ok (.iconst 1, 1) := by decide +kernel
theorem dX12_bestRow_62 : decode cX12_bestRow 62 = .ok (.goto 27, 3) := by decide +kernel
theorem dX12_bestRow_65 : decode cX12_bestRow 65 = .ok (.iload_n 3, 1) := by decide +kernel
theorem dX12_bestRow_66 : decode cX12_bestRow 66 = .ok (.bipush 10, 2) := by decide +kernel
theorem dX12_bestRow_68 : decode cX12_bestRow 68 = .ok (.isub, 1) := by decide +kernel
theorem dX12_bestRow_69 : decode cX12_bestRow 69 = .ok (.iload_n 1, 1) := by decide +kernel
theorem dX12_bestRow_7 : decode cX12_bestRow 7 = .ok (.aload_n 0, 1) := by decide +kernel
theorem dX12_bestRow_70 : decode cX12_bestRow 70 = .ok (.invokestatic 332, 3) := by decide +kernel
theorem dX12_bestRow_73 : decode cX12_bestRow 73 = .ok (.if_icmp .ge 15, 3) := by decide +kernel
theorem dX12_bestRow_76 : decode cX12_bestRow 76 = .ok (.aload_n 0, 1) := by decide +kernel
theorem dX12_bestRow_77 : decode cX12_bestRow 77 = .ok (.getfield 51, 3) := by decide +kernel
theorem dX12_bestRow_8 : decode cX12_bestRow 8 = .ok (.invokevirtual 275, 3) := by decide +kernel
theorem dX12_bestRow_80 : decode cX12_bestRow 80 = .ok (.iload_n 3, 1) := by decide +kernel
theorem dX12_bestRow_81 : decode cX12_bestRow 81 = .ok (.bipush 10, 2) := by decide +kernel
theorem dX12_bestRow_83 : decode cX12_bestRow 83 = .ok (.isub, 1) := by decide +kernel
theorem dX12_bestRow_84 : decode cX12_bestRow 84 = .ok (.iaload, 1) := by decide +kernel
theorem dX12_bestRow_85 : decode cX12_bestRow 85 = .ok (.goto 4, 3) := by decide +kernel
theorem dX12_bestRow_88 : decode cX12_bestRow 88 = .ok (.iconst (-1), 1) := by decide +kernel
theorem dX12_bestRow_89 : decode cX12_bestRow 89 = .ok (.ireturn, 1) := by decide +kernel
theorem dX12_calm_0 : decode cX12_calm 0 = .ok (.aload_n 0, 1) := by decide +kernel
theorem dX12_calm_1 : decode cX12_calm 1 = .ok (.iconst 0, 1) := by decide +kernel
theorem dX12_calm_10 : decode cX12_calm 10 = .ok (.i2l, 1) := by decide +kernel
theorem dX12_calm_11 : decode cX12_calm 11 = .ok (.ldc2_w 395, 3) := by decide +kernel
theorem dX12_calm_14 : decode cX12_calm 14 = .ok (.ldc2_w 490, 3) := by decide +kernel
theorem dX12_calm_17 : decode cX12_calm 17 = .ok (.invokestatic 137, 3) := by decide +kernel
theorem dX12_calm_2 : decode cX12_calm 2 = .ok (.putfield 73, 3) := by decide +kernel
theorem dX12_calm_20 : decode cX12_calm 20 = .ok (.ifCond .ne 9, 3) := by decide +kernel
theorem dX12_calm_23 : decode cX12_calm 23 = .ok (.aload_n 0, 1) := by decide +kernel
theorem dX12_calm_24 : decode cX12_calm 24 = .ok (.iconst 1, 1) := by decide +kernel
theorem dX12_calm_25 : decode cX12_calm 25 = .ok (.invokevirtual 262, 3) := by decide +kernel
theorem dX12_calm_28 : decode cX12_calm 28 = .ok (.ireturn, 1) := by decide +kernel
theorem dX12_calm_29 : decode cX12_calm 29 = .ok (.aload_n 0, 1) := by decide +kernel
theorem dX12_calm_30 : decode cX12_calm 30 = .ok (.iconst 0, 1) := by decide +kernel
theorem dX12_calm_31 : decode cX12_calm 31 = .ok (.putfield 481, 3) := by decide +kernel
theorem dX12_calm_34 : decode cX12_calm 34 = .ok (.aload_n 0, 1) := by decide +kernel
theorem dX12_calm_35 : decode cX12_calm 35 = .ok (.iconst 0, 1) := by decide +kernel
theorem dX12_calm_36 : decode cX12_calm 36 = .ok (.iconst 1, 1) := by decide +kernel
theorem dX12_calm_37 : decode cX12_calm 37 = .ok (.aload_n 0, 1) := by decide +kernel
theorem dX12_calm_38 : decode cX12_calm 38 = .ok (.getfield 9, 3) := by decide +kernel
theorem dX12_calm_41 : decode cX12_calm 41 = .ok (.iconst 4, 1) := by decide +kernel
theorem dX12_calm_42 : decode cX12_calm 42 = .ok (.iaload, 1) := by decide +kernel
theorem dX12_calm_43 : decode cX12_calm 43 = .ok (.ishl, 1) := by decide +kernel
theorem dX12_calm_44 : decode cX12_calm 44 = .ok (.iconst 1, 1) := by decide +kernel
theorem dX12_calm_45 : decode cX12_calm 45 = .ok (.isub, 1) := by decide +kernel
theorem dX12_calm_46 : decode cX12_calm 46 = .ok (.iconst 0, 1) := by decide +kernel
theorem dX12_calm_47 : decode cX12_calm 47 = .ok (.invokevirtual 487, 3) := by decide +kernel
theorem dX12_calm_5 : decode cX12_calm 5 = .ok (.iload_n 1, 1) := by decide +kernel
theorem dX12_calm_50 : decode cX12_calm 50 = .ok (.iload_n 1, 1) := by decide +kernel
theorem dX12_calm_51 : decode cX12_calm 51 = .ok (.ifCond .ne 10, 3) := by decide +kernel
theorem dX12_calm_54 : decode cX12_calm 54 = .ok (.aload_n 0, 1) := by decide +kernel
theorem dX12_calm_55 : decode cX12_calm 55 = .ok (.getfield 484, 3) := by decide +kernel
theorem dX12_calm_58 : decode cX12_calm 58 = .ok (.goto 29, 3) := by decide +kernel
theorem dX12_calm_6 : decode cX12_calm 6 = .ok (.ifCond .eq 23, 3) := by decide +kernel
theorem dX12_calm_61 : decode cX12_calm 61 = .ok (.iload_n 1, 1) := by decide +kernel
theorem dX12_calm_62 : decode cX12_calm 62 = .ok (.bipush 10, 2) := by decide +kernel
theorem dX12_calm_64 : decode cX12_calm 64 = .ok (.isub, 1) := by decide +kernel
theorem dX12_calm_65 : decode cX12_calm 65 = .ok (.aload_n 0, 1) := by decide +kernel
theorem dX12_calm_66 : decode cX12_calm 66 = .ok (.getfield 9, 3) := by decide +kernel
theorem dX12_calm_69 : decode cX12_calm 69 = .ok (.iconst 4, 1) := by decide +kernel
theorem dX12_calm_70 : decode cX12_calm 70 = .ok (.iaload, 1) := by decide +kernel
theorem dX12_calm_71 : decode cX12_calm 71 = .ok (.if_icmp .ge 15, 3) := by decide +kernel
theorem dX12_calm_74 : decode cX12_calm 74 = .ok (.aload_n 0, 1) := by decide +kernel
theorem dX12_calm_75 : decode cX12_calm 75 = .ok (.getfield 45, 3) := by decide +kernel
theorem dX12_calm_78 : decode cX12_calm 78 = .ok (.iload_n 1, 1) := by decide +kernel
theorem dX12_calm_79 : decode cX12_calm 79 = .ok (.bipush 10, 2) := by decide +kernel
theorem dX12_calm_81 : decode cX12_calm 81 = .ok (.isub, 1) := by decide +kernel
theorem dX12_calm_82 : decode cX12_calm 82 = .ok (.iaload, 1) := by decide +kernel
theorem dX12_calm_83 : decode cX12_calm 83 = .ok (.goto 4, 3) := by decide +kernel
theorem dX12_calm_86 : decode cX12_calm 86 = .ok (.iconst (-1), 1) := by decide +kernel
theorem dX12_calm_87 : decode cX12_calm 87 = .ok (.ireturn, 1) := by decide +kernel
theorem dX12_calm_9 : decode cX12_calm 9 = .ok (.iload_n 1, 1) := by decide +kernel
theorem dX12_drift_0 : decode cX12_drift 0 = .ok (.aload_n 0, 1) := by decide +kernel
theorem dX12_drift_1 : decode cX12_drift 1 = .ok (.iconst 0, 1) := by decide +kernel
theorem dX12_drift_10 : decode cX12_drift 10 = .ok (.istore_n 1, 1) := by decide +kernel
theorem dX12_drift_11 : decode cX12_drift 11 = .ok (.iconst 1, 1) := by decide +kernel
theorem dX12_drift_12 : decode cX12_drift 12 = .ok (.istore_n 2, 1) := by decide +kernel
theorem dX12_drift_13 : decode cX12_drift 13 = .ok (.iconst 0, 1) := by decide +kernel
theorem dX12_drift_14 : decode cX12_drift 14 = .ok (.istore_n 3, 1) := by decide +kernel
theorem dX12_drift_15 : decode cX12_drift 15 = .ok (.iload_n 3, 1) := by decide +kernel
theorem dX12_drift_16 : decode cX12_drift 16 = .ok (.bipush 20, 2) := by decide +kernel
theorem dX12_drift_18 : decode cX12_drift 18 = .ok (.if_icmp .ge 67, 3) := by decide +kernel
theorem dX12_drift_2 : decode cX12_drift 2 = .ok (.putfield 73, 3) := by decide +kernel
theorem dX12_drift_21 : decode cX12_drift 21 = .ok (.iload_n 2, 1) := by decide +kernel
theorem dX12_drift_22 : decode cX12_drift 22 = .ok (.ifCond .eq 63, 3) := by decide +kernel
theorem dX12_drift_25 : decode cX12_drift 25 = .ok (.iconst 0, 1) := by decide +kernel
theorem dX12_drift_26 : decode cX12_drift 26 = .ok (.istore_n 2, 1) := by decide +kernel
theorem dX12_drift_27 : decode cX12_drift 27 = .ok (.iconst 0, 1) := by decide +kernel
theorem dX12_drift_28 : decode cX12_drift 28 = .ok (.istore 4, 2) := by decide +kernel
theorem dX12_drift_30 : decode cX12_drift 30 = .ok (.iload 4, 2) := by decide +kernel
theorem dX12_drift_32 : decode cX12_drift 32 = .ok (.aload_n 0, 1) := by decide +kernel
theorem dX12_drift_33 : decode cX12_drift 33 = .ok (.invokevirtual 275, 3) := by decide +kernel
theorem dX12_drift_36 : decode cX12_drift 36 = .ok (.if_icmp .ge 43, 3) := by decide +kernel
theorem dX12_drift_39 : decode cX12_drift 39 = .ok (.aload_n 0, 1) := by decide +kernel
theorem dX12_drift_40 : decode cX12_drift 40 = .ok (.iload 4, 2) := by decide +kernel
theorem dX12_drift_42 : decode cX12_drift 42 = .ok (.invokevirtual 518, 3) := by decide +kernel
theorem dX12_drift_45 : decode cX12_drift 45 = .ok (.istore 5, 2) := by decide +kernel
theorem dX12_drift_47 : decode cX12_drift 47 = .ok (.iload 5, 2) := by decide +kernel
theorem dX12_drift_49 : decode cX12_drift 49 = .ok (.iconst (-1), 1) := by decide +kernel
theorem dX12_drift_5 : decode cX12_drift 5 = .ok (.aload_n 0, 1) := by decide +kernel
theorem dX12_drift_50 : decode cX12_drift 50 = .ok (.if_icmp .ne 6, 3) := by decide +kernel
theorem dX12_drift_53 : decode cX12_drift 53 = .ok (.goto 20, 3) := by decide +kernel
theorem dX12_drift_56 : decode cX12_drift 56 = .ok (.aload_n 0, 1) := by decide +kernel
theorem dX12_drift_57 : decode cX12_drift 57 = .ok (.getfield 9, 3) := by decide +kernel
theorem dX12_drift_6 : decode cX12_drift 6 = .ok (.invokevirtual 375, 3) := by decide +kernel
theorem dX12_drift_60 : decode cX12_drift 60 = .ok (.bipush 8, 2) := by decide +kernel
theorem dX12_drift_62 : decode cX12_drift 62 = .ok (.iload 4, 2) := by decide +kernel
theorem dX12_drift_64 : decode cX12_drift 64 = .ok (.iadd, 1) := by decide +kernel
theorem dX12_drift_65 : decode cX12_drift 65 = .ok (.iload 5, 2) := by decide +kernel
theorem dX12_drift_67 : decode cX12_drift 67 = .ok (.iastore, 1) := by decide +kernel
theorem dX12_drift_68 : decode cX12_drift 68 = .ok (.iconst 1, 1) := by decide +kernel
theorem dX12_drift_69 : decode cX12_drift 69 = .ok (.istore_n 2, 1) := by decide +kernel
theorem dX12_drift_70 : decode cX12_drift 70 = .ok (.iinc 1 1, 3) := by decide +kernel
theorem dX12_drift_73 : decode cX12_drift 73 = .ok (.iinc 4 1, 3) := by decide +kernel
theorem dX12_drift_76 : decode cX12_drift 76 = .ok (.goto (-46), 3) := by decide +kernel
theorem dX12_drift_79 : decode cX12_drift 79 = .ok (.iinc 3 1, 3) := by decide +kernel
theorem dX12_drift_82 : decode cX12_drift 82 = .ok (.goto (-67), 3) := by decide +kernel
theorem dX12_drift_85 : decode cX12_drift 85 = .ok (.iload_n 1, 1) := by decide +kernel
theorem dX12_drift_86 : decode cX12_drift 86 = .ok (.ireturn, 1) := by decide +kernel
theorem dX12_drift_9 : decode cX12_drift 9 = .ok (.iconst 0, 1) := by decide +kernel
theorem dX12_escape_0 : decode cX12_escape 0 = .ok (.iconst (-1), 1) := by decide +kernel
theorem dX12_escape_1 : decode cX12_escape 1 = .ok (.istore_n 2, 1) := by decide +kernel
theorem dX12_escape_12 : decode cX12_escape 12 = .ok (.aload_n 0, 1) := by decide +kernel
theorem dX12_escape_13 : decode cX12_escape 13 = .ok (.iload_n 1, 1) := by decide +kernel
theorem dX12_escape_14 : decode cX12_escape 14 = .ok (.i2l, 1) := by decide +kernel
theorem dX12_escape_15 : decode cX12_escape 15 = .ok (.iload_n 3, 1) := by decide +kernel
theorem dX12_escape_16 : decode cX12_escape 16 = .ok (.i2l, 1) := by decide +kernel
theorem dX12_escape_17 : decode cX12_escape 17 = .ok (.invokevirtual 378, 3) := by decide +kernel
theorem dX12_escape_2 : decode cX12_escape 2 = .ok (.iconst 0, 1) := by decide +kernel
theorem dX12_escape_20 : decode cX12_escape 20 = .ok (.ifCond .ne 45, 3) := by decide +kernel
theorem dX12_escape_23 : decode cX12_escape 23 = .ok (.aload_n 0, 1) := by decide +kernel
theorem dX12_escape_24 : decode cX12_escape 24 = .ok (.iload_n 1, 1) := by decide +kernel
theorem dX12_escape_25 : decode cX12_escape 25 = .ok (.iload_n 3, 1) := by decide +kernel
theorem dX12_escape_26 : decode cX12_escape 26 = .ok (.invokevirtual 329, 3) := by decide +kernel
theorem dX12_escape_29 : decode cX12_escape 29 = .ok (.ifCond .eq 6, 3) := by decide +kernel
theorem dX12_escape_3 : decode cX12_escape 3 = .ok (.istore_n 3, 1) := by decide +kernel
theorem dX12_escape_32 : decode cX12_escape 32 = .ok (.goto 33, 3) := by decide +kernel
theorem dX12_escape_35 : decode cX12_escape 35 = .ok (.aload_n 0, 1) := by decide +kernel
theorem dX12_escape_36 : decode cX12_escape 36 = .ok (.iload_n 1, 1) := by decide +kernel
theorem dX12_escape_37 : decode cX12_escape 37 = .ok (.iload_n 3, 1) := by decide +kernel
theorem dX12_escape_38 : decode cX12_escape 38 = .ok (.invokevirtual 358, 3) := by decide +kernel
theorem dX12_escape_4 : decode cX12_escape 4 = .ok (.iload_n 3, 1) := by decide +kernel
theorem dX12_escape_41 : decode cX12_escape 41 = .ok (.istore 4, 2) := by decide +kernel
theorem dX12_escape_43 : decode cX12_escape 43 = .ok (.iload_n 2, 1) := by decide +kernel
theorem dX12_escape_44 : decode cX12_escape 44 = .ok (.iconst (-1), 1) := by decide +kernel
theorem dX12_escape_45 : decode cX12_escape 45 = .ok (.if_icmp .eq 12, 3) := by decide +kernel
theorem dX12_escape_48 : decode cX12_escape 48 = .ok (.iload 4, 2) := by decide +kernel
theorem dX12_escape_5 : decode cX12_escape 5 = .ok (.aload_n 0, 1) := by decide +kernel
theorem dX12_escape_50 : decode cX12_escape 50 = .ok (.iload_n 2, 1) := by decide +kernel
theorem dX12_escape_51 : decode cX12_escape 51 = .ok (.if_icmp .lt 6, 3) := by decide +kernel
theorem dX12_escape_54 : decode cX12_escape 54 = .ok (.goto 11, 3) := by decide +kernel
theorem dX12_escape_57 : decode cX12_escape 57 = .ok (.iload 4, 2) := by decide +kernel
theorem dX12_escape_59 : decode cX12_escape 59 = .ok (.istore_n 2, 1) := by decide +kernel
theorem dX12_escape_6 : decode cX12_escape 6 = .ok (.invokevirtual 273, 3) := by decide +kernel
theorem dX12_escape_60 : decode cX12_escape 60 = .ok (.aload_n 0, 1) := by decide +kernel
theorem dX12_escape_61 : decode cX12_escape 61 = .ok (.iload_n 3, 1) := by decide +kernel
theorem dX12_escape_62 : decode cX12_escape 62 = .ok (.putfield 466, 3) := by decide +kernel
theorem dX12_escape_65 : decode cX12_escape 65 = .ok (.iinc 3 1, 3) := by decide +kernel
theorem dX12_escape_68 : decode cX12_escape 68 = .ok (.goto (-64), 3) := by decide +kernel
theorem dX12_escape_71 : decode cX12_escape 71 = .ok (.iload_n 2, 1) := by decide +kernel
theorem dX12_escape_72 : decode cX12_escape 72 = .ok (.ireturn, 1) := by decide +kernel
theorem dX12_escape_9 : decode cX12_escape 9 = .ok (.if_icmp .ge 62, 3) := by decide +kernel
theorem dX12_event_0 : decode cX12_event 0 = .ok (.aload_n 0, 1) := by decide +kernel
theorem dX12_event_1 : decode cX12_event 1 = .ok (.iload_n 1, 1) := by decide +kernel
theorem dX12_event_10 : decode cX12_event 10 = .ok (.iconst 1, 1) := by decide +kernel
theorem dX12_event_11 : decode cX12_event 11 = .ok (.isub, 1) := by decide +kernel
theorem dX12_event_12 : decode cX12_event 12 = .ok (.i2l, 1) := by decide +kernel
theorem dX12_event_13 : decode cX12_event 13 = .ok (.invokestatic 137, 3) := by decide +kernel
theorem dX12_event_16 : decode cX12_event 16 = .ok (.ifCond .ne 7, 3) := by decide +kernel
theorem dX12_event_19 : decode cX12_event 19 = .ok (.iconst 1, 1) := by decide +kernel
theorem dX12_event_2 : decode cX12_event 2 = .ok (.i2l, 1) := by decide +kernel
theorem dX12_event_20 : decode cX12_event 20 = .ok (.goto 20, 3) := by decide +kernel
theorem dX12_event_23 : decode cX12_event 23 = .ok (.iload_n 2, 1) := by decide +kernel
theorem dX12_event_24 : decode cX12_event 24 = .ok (.i2l, 1) := by decide +kernel
theorem dX12_event_25 : decode cX12_event 25 = .ok (.lconst 0, 1) := by decide +kernel
theorem dX12_event_26 : decode cX12_event 26 = .ok (.ldc2_w 344, 3) := by decide +kernel
theorem dX12_event_29 : decode cX12_event 29 = .ok (.invokestatic 137, 3) := by decide +kernel
theorem dX12_event_3 : decode cX12_event 3 = .ok (.lconst 0, 1) := by decide +kernel
theorem dX12_event_32 : decode cX12_event 32 = .ok (.ifCond .eq 7, 3) := by decide +kernel
theorem dX12_event_35 : decode cX12_event 35 = .ok (.iconst 0, 1) := by decide +kernel
theorem dX12_event_36 : decode cX12_event 36 = .ok (.goto 4, 3) := by decide +kernel
theorem dX12_event_39 : decode cX12_event 39 = .ok (.iconst 2, 1) := by decide +kernel
theorem dX12_event_4 : decode cX12_event 4 = .ok (.aload_n 0, 1) := by decide +kernel
theorem dX12_event_40 : decode cX12_event 40 = .ok (.putfield 73, 3) := by decide +kernel
theorem dX12_event_43 : decode cX12_event 43 = .ok (.aload_n 0, 1) := by decide +kernel
theorem dX12_event_44 : decode cX12_event 44 = .ok (.getfield 73, 3) := by decide +kernel
theorem dX12_event_47 : decode cX12_event 47 = .ok (.ifCond .le 7, 3) := by decide +kernel
theorem dX12_event_5 : decode cX12_event 5 = .ok (.getfield 9, 3) := by decide +kernel
theorem dX12_event_50 : decode cX12_event 50 = .ok (.iconst 0, 1) := by decide +kernel
theorem dX12_event_51 : decode cX12_event 51 = .ok (.goto 17, 3) := by decide +kernel
theorem dX12_event_54 : decode cX12_event 54 = .ok (.aload_n 0, 1) := by decide +kernel
theorem dX12_event_55 : decode cX12_event 55 = .ok (.getfield 9, 3) := by decide +kernel
theorem dX12_event_58 : decode cX12_event 58 = .ok (.sipush 150, 3) := by decide +kernel
theorem dX12_event_61 : decode cX12_event 61 = .ok (.iconst 3, 1) := by decide +kernel
theorem dX12_event_62 : decode cX12_event 62 = .ok (.iload_n 1, 1) := by decide +kernel
theorem dX12_event_63 : decode cX12_event 63 = .ok (.imul, 1) := by decide +kernel
theorem dX12_event_64 : decode cX12_event 64 = .ok (.iadd, 1) := by decide +kernel
theorem dX12_event_65 : decode cX12_event 65 = .ok (.iload_n 2, 1) := by decide +kernel
theorem dX12_event_66 : decode cX12_event 66 = .ok (.iadd, 1) := by decide +kernel
theorem dX12_event_67 : decode cX12_event 67 = .ok (.iaload, 1) := by decide +kernel
theorem dX12_event_68 : decode cX12_event 68 = .ok (.ireturn, 1) := by decide +kernel
theorem dX12_event_8 : decode cX12_event 8 = .ok (.iconst 4, 1) := by decide +kernel
theorem dX12_event_9 : decode cX12_event 9 = .ok (.iaload, 1) := by decide +kernel
theorem dX12_flip_0 : decode cX12_flip 0 = .ok (.aload_n 0, 1) := by decide +kernel
theorem dX12_flip_1 : decode cX12_flip 1 = .ok (.getfield 9, 3) := by decide +kernel
theorem dX12_flip_10 : decode cX12_flip 10 = .ok (.aload_n 0, 1) := by decide +kernel
theorem dX12_flip_11 : decode cX12_flip 11 = .ok (.getfield 9, 3) := by decide +kernel
theorem dX12_flip_14 : decode cX12_flip 14 = .ok (.bipush 16, 2) := by decide +kernel
theorem dX12_flip_16 : decode cX12_flip 16 = .ok (.iload_n 1, 1) := by decide +kernel
theorem dX12_flip_17 : decode cX12_flip 17 = .ok (.iadd, 1) := by decide +kernel
theorem dX12_flip_18 : decode cX12_flip 18 = .ok (.iaload, 1) := by decide +kernel
theorem dX12_flip_19 : decode cX12_flip 19 = .ok (.bipush 99, 2) := by decide +kernel
theorem dX12_flip_21 : decode cX12_flip 21 = .ok (.if_icmp .ne 7, 3) := by decide +kernel
theorem dX12_flip_24 : decode cX12_flip 24 = .ok (.iconst (-1), 1) := by decide +kernel
theorem dX12_flip_25 : decode cX12_flip 25 = .ok (.goto 4, 3) := by decide +kernel
theorem dX12_flip_28 : decode cX12_flip 28 = .ok (.iconst 1, 1) := by decide +kernel
theorem dX12_flip_29 : decode cX12_flip 29 = .ok (.iadd, 1) := by decide +kernel
theorem dX12_flip_30 : decode cX12_flip 30 = .ok (.iastore, 1) := by decide +kernel
theorem dX12_flip_31 : decode cX12_flip 31 = .ok (.return_, 1) := by decide +kernel
theorem dX12_flip_4 : decode cX12_flip 4 = .ok (.bipush 16, 2) := by decide +kernel
theorem dX12_flip_6 : decode cX12_flip 6 = .ok (.iload_n 1, 1) := by decide +kernel
theorem dX12_flip_7 : decode cX12_flip 7 = .ok (.iadd, 1) := by decide +kernel
theorem dX12_flip_8 : decode cX12_flip 8 = .ok (.dup2, 1) := by decide +kernel
theorem dX12_flip_9 : decode cX12_flip 9 = .ok (.iaload, 1) := by decide +kernel
theorem dX12_flipsOf_0 : decode cX12_flipsOf 0 = .ok (.aload_n 0, 1) := by decide +kernel
theorem dX12_flipsOf_1 : decode cX12_flipsOf 1 = .ok (.invokevirtual 406, 3) := by decide +kernel
theorem dX12_flipsOf_10 : decode cX12_flipsOf 10 = .ok (.aload_n 0, 1) := by decide +kernel
theorem dX12_flipsOf_11 : decode cX12_flipsOf 11 = .ok (.invokevirtual 275, 3) := by decide +kernel
theorem dX12_flipsOf_14 : decode cX12_flipsOf 14 = .ok (.ishl, 1) := by decide +kernel
theorem dX12_flipsOf_15 : decode cX12_flipsOf 15 = .ok (.if_icmp .ge 71, 3) := by decide +kernel
theorem dX12_flipsOf_18 : decode cX12_flipsOf 18 = .ok (.iload_n 1, 1) := by decide +kernel
theorem dX12_flipsOf_19 : decode cX12_flipsOf 19 = .ok (.iconst (-1), 1) := by decide +kernel
theorem dX12_flipsOf_20 : decode cX12_flipsOf 20 = .ok (.if_icmp .eq 17, 3) := by decide +kernel
theorem dX12_flipsOf_23 : decode cX12_flipsOf 23 = .ok (.iload_n 2, 1) := by decide +kernel
theorem dX12_flipsOf_24 : decode cX12_flipsOf 24 = .ok (.invokestatic 332, 3) := by decide +kernel
theorem dX12_flipsOf_27 : decode cX12_flipsOf 27 = .ok (.iload_n 1, 1) := by decide +kernel
theorem dX12_flipsOf_28 : decode cX12_flipsOf 28 = .ok (.invokestatic 332, 3) := by decide +kernel
theorem dX12_flipsOf_31 : decode cX12_flipsOf 31 = .ok (.if_icmp .lt 6, 3) := by decide +kernel
theorem dX12_flipsOf_34 : decode cX12_flipsOf 34 = .ok (.goto 46, 3) := by decide +kernel
theorem dX12_flipsOf_37 : decode cX12_flipsOf 37 = .ok (.iconst 0, 1) := by decide +kernel
theorem dX12_flipsOf_38 : decode cX12_flipsOf 38 = .ok (.istore_n 3, 1) := by decide +kernel
theorem dX12_flipsOf_39 : decode cX12_flipsOf 39 = .ok (.iload_n 3, 1) := by decide +kernel
theorem dX12_flipsOf_4 : decode cX12_flipsOf 4 = .ok (.iconst (-1), 1) := by decide +kernel
theorem dX12_flipsOf_40 : decode cX12_flipsOf 40 = .ok (.aload_n 0, 1) := by decide +kernel
theorem dX12_flipsOf_41 : decode cX12_flipsOf 41 = .ok (.invokevirtual 275, 3) := by decide +kernel
theorem dX12_flipsOf_44 : decode cX12_flipsOf 44 = .ok (.if_icmp .ge 22, 3) := by decide +kernel
theorem dX12_flipsOf_47 : decode cX12_flipsOf 47 = .ok (.iload_n 2, 1) := by decide +kernel
theorem dX12_flipsOf_48 : decode cX12_flipsOf 48 = .ok (.iload_n 3, 1) := by decide +kernel
theorem dX12_flipsOf_49 : decode cX12_flipsOf 49 = .ok (.invokestatic 346, 3) := by decide +kernel
theorem dX12_flipsOf_5 : decode cX12_flipsOf 5 = .ok (.istore_n 1, 1) := by decide +kernel
theorem dX12_flipsOf_52 : decode cX12_flipsOf 52 = .ok (.ifCond .eq 8, 3) := by decide +kernel
theorem dX12_flipsOf_55 : decode cX12_flipsOf 55 = .ok (.aload_n 0, 1) := by decide +kernel
theorem dX12_flipsOf_56 : decode cX12_flipsOf 56 = .ok (.iload_n 3, 1) := by decide +kernel
theorem dX12_flipsOf_57 : decode cX12_flipsOf 57 = .ok (.invokevirtual 460, 3) := by decide +kernel
theorem dX12_flipsOf_6 : decode cX12_flipsOf 6 = .ok (.iconst 0, 1) := by decide +kernel
theorem dX12_flipsOf_60 : decode cX12_flipsOf 60 = .ok (.iinc 3 1, 3) := by decide +kernel
theorem dX12_flipsOf_63 : decode cX12_flipsOf 63 = .ok (.goto (-24), 3) := by decide +kernel
theorem dX12_flipsOf_66 : decode cX12_flipsOf 66 = .ok (.aload_n 0, 1) := by decide +kernel
theorem dX12_flipsOf_67 : decode cX12_flipsOf 67 = .ok (.invokevirtual 355, 3) := by decide +kernel
theorem dX12_flipsOf_7 : decode cX12_flipsOf 7 = .ok (.istore_n 2, 1) := by decide +kernel
theorem dX12_flipsOf_70 : decode cX12_flipsOf 70 = .ok (.iconst (-1), 1) := by decide +kernel
theorem dX12_flipsOf_71 : decode cX12_flipsOf 71 = .ok (.if_icmp .ne 5, 3) := by decide +kernel
theorem dX12_flipsOf_74 : decode cX12_flipsOf 74 = .ok (.iload_n 2, 1) := by decide +kernel
theorem dX12_flipsOf_75 : decode cX12_flipsOf 75 = .ok (.istore_n 1, 1) := by decide +kernel
theorem dX12_flipsOf_76 : decode cX12_flipsOf 76 = .ok (.aload_n 0, 1) := by decide +kernel
theorem dX12_flipsOf_77 : decode cX12_flipsOf 77 = .ok (.invokevirtual 415, 3) := by decide +kernel
theorem dX12_flipsOf_8 : decode cX12_flipsOf 8 = .ok (.iload_n 2, 1) := by decide +kernel
theorem dX12_flipsOf_80 : decode cX12_flipsOf 80 = .ok (.iinc 2 1, 3) := by decide +kernel
theorem dX12_flipsOf_83 : decode cX12_flipsOf 83 = .ok (.goto (-75), 3) := by decide +kernel
theorem dX12_flipsOf_86 : decode cX12_flipsOf 86 = .ok (.iload_n 1, 1) := by decide +kernel
theorem dX12_flipsOf_87 : decode cX12_flipsOf 87 = .ok (.ireturn, 1) := by decide +kernel
theorem dX12_flipsOf_9 : decode cX12_flipsOf 9 = .ok (.iconst 1, 1) := by decide +kernel
theorem dX12_flips_0 : decode cX12_flips 0 = .ok (.aload_n 0, 1) := by decide +kernel
theorem dX12_flips_1 : decode cX12_flips 1 = .ok (.iconst 0, 1) := by decide +kernel
theorem dX12_flips_12 : decode cX12_flips 12 = .ok (.ifCond .ne 9, 3) := by decide +kernel
theorem dX12_flips_15 : decode cX12_flips 15 = .ok (.aload_n 0, 1) := by decide +kernel
theorem dX12_flips_16 : decode cX12_flips 16 = .ok (.iconst 1, 1) := by decide +kernel
theorem dX12_flips_17 : decode cX12_flips 17 = .ok (.invokevirtual 262, 3) := by decide +kernel
theorem dX12_flips_2 : decode cX12_flips 2 = .ok (.putfield 73, 3) := by decide +kernel
theorem dX12_flips_20 : decode cX12_flips 20 = .ok (.ireturn, 1) := by decide +kernel
theorem dX12_flips_21 : decode cX12_flips 21 = .ok (.aload_n 0, 1) := by decide +kernel
theorem dX12_flips_22 : decode cX12_flips 22 = .ok (.invokevirtual 463, 3) := by decide +kernel
theorem dX12_flips_25 : decode cX12_flips 25 = .ok (.istore_n 2, 1) := by decide +kernel
theorem dX12_flips_26 : decode cX12_flips 26 = .ok (.iload_n 2, 1) := by decide +kernel
theorem dX12_flips_27 : decode cX12_flips 27 = .ok (.iconst (-1), 1) := by decide +kernel
theorem dX12_flips_28 : decode cX12_flips 28 = .ok (.if_icmp .eq 8, 3) := by decide +kernel
theorem dX12_flips_31 : decode cX12_flips 31 = .ok (.iload_n 1, 1) := by decide +kernel
theorem dX12_flips_32 : decode cX12_flips 32 = .ok (.iconst 1, 1) := by decide +kernel
theorem dX12_flips_33 : decode cX12_flips 33 = .ok (.if_icmp .ne 7, 3) := by decide +kernel
theorem dX12_flips_36 : decode cX12_flips 36 = .ok (.iload_n 2, 1) := by decide +kernel
theorem dX12_flips_37 : decode cX12_flips 37 = .ok (.goto 7, 3) := by decide +kernel
theorem dX12_flips_40 : decode cX12_flips 40 = .ok (.iload_n 2, 1) := by decide +kernel
theorem dX12_flips_41 : decode cX12_flips 41 = .ok (.invokestatic 332, 3) := by decide +kernel
theorem dX12_flips_44 : decode cX12_flips 44 = .ok (.ireturn, 1) := by decide +kernel
theorem dX12_flips_5 : decode cX12_flips 5 = .ok (.iload_n 1, 1) := by decide +kernel
theorem dX12_flips_6 : decode cX12_flips 6 = .ok (.i2l, 1) := by decide +kernel
theorem dX12_flips_7 : decode cX12_flips 7 = .ok (.lconst 0, 1) := by decide +kernel
theorem dX12_flips_8 : decode cX12_flips 8 = .ok (.lconst 1, 1) := by decide +kernel
theorem dX12_flips_9 : decode cX12_flips 9 = .ok (.invokestatic 137, 3) := by decide +kernel
theorem dX12_goWave_0 : decode cX12_goWave 0 = .ok (.aload_n 0, 1) := by decide +kernel
theorem dX12_goWave_1 : decode cX12_goWave 1 = .ok (.iconst 0, 1) := by decide +kernel
theorem dX12_goWave_10 : decode cX12_goWave 10 = .ok (.invokevirtual 478, 3) := by decide +kernel
theorem dX12_goWave_13 : decode cX12_goWave 13 = .ok (.aload_n 0, 1) := by decide +kernel
theorem dX12_goWave_14 : decode cX12_goWave 14 = .ok (.getfield 472, 3) := by decide +kernel
theorem dX12_goWave_17 : decode cX12_goWave 17 = .ok (.ireturn, 1) := by decide +kernel
theorem dX12_goWave_2 : decode cX12_goWave 2 = .ok (.putfield 73, 3) := by decide +kernel
theorem dX12_goWave_5 : decode cX12_goWave 5 = .ok (.aload_n 0, 1) := by decide +kernel
theorem dX12_goWave_6 : decode cX12_goWave 6 = .ok (.invokevirtual 375, 3) := by decide +kernel
theorem dX12_goWave_9 : decode cX12_goWave 9 = .ok (.aload_n 0, 1) := by decide +kernel
theorem dX12_goats_0 : decode cX12_goats 0 = .ok (.aload_n 0, 1) := by decide +kernel
theorem dX12_goats_1 : decode cX12_goats 1 = .ok (.aload_n 0, 1) := by decide +kernel
theorem dX12_goats_10 : decode cX12_goats 10 = .ok (.getfield 73, 3) := by decide +kernel
theorem dX12_goats_100 : decode cX12_goats 100 = .ok (.ifCond .eq 34, 3) := by decide +kernel
theorem dX12_goats_103 : decode cX12_goats 103 = .ok (.iload_n 3, 1) := by decide +kernel
theorem dX12_goats_104 : decode cX12_goats 104 = .ok (.iconst 2, 1) := by decide +kernel
theorem dX12_goats_105 : decode cX12_goats 105 = .ok (.if_icmp .le 29, 3) := by decide +kernel
theorem dX12_goats_108 : decode cX12_goats 108 = .ok (.aload_n 0, 1) := by decide +kernel
theorem dX12_goats_109 : decode cX12_goats 109 = .ok (.aload_n 0, 1) := by decide +kernel
theorem dX12_goats_110 : decode cX12_goats 110 = .ok (.iload_n 1, 1) := by decide +kernel
theorem dX12_goats_111 : decode cX12_goats 111 = .ok (.iconst 0, 1) := by decide +kernel
theorem dX12_goats_112 : decode cX12_goats 112 = .ok (.invokevirtual 495, 3) := by decide +kernel
theorem dX12_goats_115 : decode cX12_goats 115 = .ok (.aload_n 0, 1) := by decide +kernel
theorem dX12_goats_116 : decode cX12_goats 116 = .ok (.iload_n 1, 1) := by decide +kernel
theorem dX12_goats_117 : decode cX12_goats 117 = .ok (.iload_n 3, 1) := by decide +kernel
theorem dX12_goats_118 : decode cX12_goats 118 = .ok (.iconst 1, 1) := by decide +kernel
theorem dX12_goats_119 : decode cX12_goats 119 = .ok (.isub, 1) := by decide +kernel
theorem dX12_goats_120 : decode cX12_goats 120 = .ok (.invokevirtual 495, 3) := by decide +kernel
theorem dX12_goats_123 : decode cX12_goats 123 = .ok (.iconst 0, 1) := by decide +kernel
theorem dX12_goats_124 : decode cX12_goats 124 = .ok (.invokevirtual 322, 3) := by decide +kernel
theorem dX12_goats_127 : decode cX12_goats 127 = .ok (.ifCond .eq 7, 3) := by decide +kernel
theorem dX12_goats_13 : decode cX12_goats 13 = .ok (.ifCond .ne 16, 3) := by decide +kernel
theorem dX12_goats_130 : decode cX12_goats 130 = .ok (.iconst 1, 1) := by decide +kernel
theorem dX12_goats_131 : decode cX12_goats 131 = .ok (.goto 4, 3) := by decide +kernel
theorem dX12_goats_134 : decode cX12_goats 134 = .ok (.iconst 0, 1) := by decide +kernel
theorem dX12_goats_135 : decode cX12_goats 135 = .ok (.iadd, 1) := by decide +kernel
theorem dX12_goats_136 : decode cX12_goats 136 = .ok (.ireturn, 1) := by decide +kernel
theorem dX12_goats_16 : decode cX12_goats 16 = .ok (.aload_n 0, 1) := by decide +kernel
theorem dX12_goats_17 : decode cX12_goats 17 = .ok (.iload_n 1, 1) := by decide +kernel
theorem dX12_goats_18 : decode cX12_goats 18 = .ok (.invokevirtual 492, 3) := by decide +kernel
theorem dX12_goats_2 : decode cX12_goats 2 = .ok (.iload_n 1, 1) := by decide +kernel
theorem dX12_goats_21 : decode cX12_goats 21 = .ok (.ifCond .ne 8, 3) := by decide +kernel
theorem dX12_goats_24 : decode cX12_goats 24 = .ok (.aload_n 0, 1) := by decide +kernel
theorem dX12_goats_25 : decode cX12_goats 25 = .ok (.iconst 3, 1) := by decide +kernel
theorem dX12_goats_26 : decode cX12_goats 26 = .ok (.putfield 73, 3) := by decide +kernel
theorem dX12_goats_29 : decode cX12_goats 29 = .ok (.aload_n 0, 1) := by decide +kernel
theorem dX12_goats_3 : decode cX12_goats 3 = .ok (.invokevirtual 401, 3) := by decide +kernel
theorem dX12_goats_30 : decode cX12_goats 30 = .ok (.getfield 73, 3) := by decide +kernel
theorem dX12_goats_33 : decode cX12_goats 33 = .ok (.ifCond .le 5, 3) := by decide +kernel
theorem dX12_goats_36 : decode cX12_goats 36 = .ok (.iconst 0, 1) := by decide +kernel
theorem dX12_goats_37 : decode cX12_goats 37 = .ok (.ireturn, 1) := by decide +kernel
theorem dX12_goats_38 : decode cX12_goats 38 = .ok (.aload_n 0, 1) := by decide +kernel
theorem dX12_goats_39 : decode cX12_goats 39 = .ok (.getfield 66, 3) := by decide +kernel
theorem dX12_goats_42 : decode cX12_goats 42 = .ok (.iload_n 1, 1) := by decide +kernel
theorem dX12_goats_43 : decode cX12_goats 43 = .ok (.iaload, 1) := by decide +kernel
theorem dX12_goats_44 : decode cX12_goats 44 = .ok (.istore_n 3, 1) := by decide +kernel
theorem dX12_goats_45 : decode cX12_goats 45 = .ok (.iconst 0, 1) := by decide +kernel
theorem dX12_goats_46 : decode cX12_goats 46 = .ok (.istore 4, 2) := by decide +kernel
theorem dX12_goats_48 : decode cX12_goats 48 = .ok (.iconst 1, 1) := by decide +kernel
theorem dX12_goats_49 : decode cX12_goats 49 = .ok (.istore 5, 2) := by decide +kernel
theorem dX12_goats_51 : decode cX12_goats 51 = .ok (.iload 5, 2) := by decide +kernel
theorem dX12_goats_53 : decode cX12_goats 53 = .ok (.iload_n 3, 1) := by decide +kernel
theorem dX12_goats_54 : decode cX12_goats 54 = .ok (.if_icmp .ge 43, 3) := by decide +kernel
theorem dX12_goats_57 : decode cX12_goats 57 = .ok (.iload 4, 2) := by decide +kernel
theorem dX12_goats_59 : decode cX12_goats 59 = .ok (.aload_n 0, 1) := by decide +kernel
theorem dX12_goats_6 : decode cX12_goats 6 = .ok (.putfield 73, 3) := by decide +kernel
theorem dX12_goats_60 : decode cX12_goats 60 = .ok (.aload_n 0, 1) := by decide +kernel
theorem dX12_goats_61 : decode cX12_goats 61 = .ok (.iload_n 1, 1) := by decide +kernel
theorem dX12_goats_62 : decode cX12_goats 62 = .ok (.iload 5, 2) := by decide +kernel
theorem dX12_goats_64 : decode cX12_goats 64 = .ok (.iconst 1, 1) := by decide +kernel
theorem dX12_goats_65 : decode cX12_goats 65 = .ok (.isub, 1) := by decide +kernel
theorem dX12_goats_66 : decode cX12_goats 66 = .ok (.invokevirtual 495, 3) := by decide +kernel
theorem dX12_goats_69 : decode cX12_goats 69 = .ok (.aload_n 0, 1) := by decide +kernel
theorem dX12_goats_70 : decode cX12_goats 70 = .ok (.iload_n 1, 1) := by decide +kernel
theorem dX12_goats_71 : decode cX12_goats 71 = .ok (.iload 5, 2) := by decide +kernel
theorem dX12_goats_73 : decode cX12_goats 73 = .ok (.invokevirtual 495, 3) := by decide +kernel
theorem dX12_goats_76 : decode cX12_goats 76 = .ok (.iconst 0, 1) := by decide +kernel
theorem dX12_goats_77 : decode cX12_goats 77 = .ok (.invokevirtual 322, 3) := by decide +kernel
theorem dX12_goats_80 : decode cX12_goats 80 = .ok (.ifCond .eq 7, 3) := by decide +kernel
theorem dX12_goats_83 : decode cX12_goats 83 = .ok (.iconst 1, 1) := by decide +kernel
theorem dX12_goats_84 : decode cX12_goats 84 = .ok (.goto 4, 3) := by decide +kernel
theorem dX12_goats_87 : decode cX12_goats 87 = .ok (.iconst 0, 1) := by decide +kernel
theorem dX12_goats_88 : decode cX12_goats 88 = .ok (.iadd, 1) := by decide +kernel
theorem dX12_goats_89 : decode cX12_goats 89 = .ok (.istore 4, 2) := by decide +kernel
theorem dX12_goats_9 : decode cX12_goats 9 = .ok (.aload_n 0, 1) := by decide +kernel
theorem dX12_goats_91 : decode cX12_goats 91 = .ok (.iinc 5 1, 3) := by decide +kernel
theorem dX12_goats_94 : decode cX12_goats 94 = .ok (.goto (-43), 3) := by decide +kernel
theorem dX12_goats_97 : decode cX12_goats 97 = .ok (.iload 4, 2) := by decide +kernel
theorem dX12_goats_99 : decode cX12_goats 99 = .ok (.iload_n 2, 1) := by decide +kernel
theorem dX12_goesCalm_0 : decode cX12_goesCalm 0 = .ok (.aload_n 0, 1) := by decide +kernel
theorem dX12_goesCalm_1 : decode cX12_goesCalm 1 = .ok (.getfield 481, 3) := by decide +kernel
theorem dX12_goesCalm_100 : decode cX12_goesCalm 100 = .ok (.iaload, 1) := by decide +kernel
theorem dX12_goesCalm_101 : decode cX12_goesCalm 101 = .ok (.istore 5, 2) := by decide +kernel
theorem dX12_goesCalm_103 : decode cX12_goesCalm 103 = .ok (.aload_n 0, 1) := by decide +kernel
theorem dX12_goesCalm_104 : decode cX12_goesCalm 104 = .ok (.getfield 9, 3) := by decide +kernel
theorem dX12_goesCalm_107 : decode cX12_goesCalm 107 = .ok (.bipush 16, 2) := by decide +kernel
theorem dX12_goesCalm_109 : decode cX12_goesCalm 109 = .ok (.iload 5, 2) := by decide +kernel
theorem dX12_goesCalm_111 : decode cX12_goesCalm 111 = .ok (.iadd, 1) := by decide +kernel
theorem dX12_goesCalm_112 : decode cX12_goesCalm 112 = .ok (.iaload, 1) := by decide +kernel
theorem dX12_goesCalm_113 : decode cX12_goesCalm 113 = .ok (.istore 6, 2) := by decide +kernel
theorem dX12_goesCalm_115 : decode cX12_goesCalm 115 = .ok (.aload_n 0, 1) := by decide +kernel
theorem dX12_goesCalm_116 : decode cX12_goesCalm 116 = .ok (.iload 5, 2) := by decide +kernel
theorem dX12_goesCalm_118 : decode cX12_goesCalm 118 = .ok (.aload_n 0, 1) := by decide +kernel
theorem dX12_goesCalm_119 : decode cX12_goesCalm 119 = .ok (.getfield 9, 3) := by decide +kernel
theorem dX12_goesCalm_12 : decode cX12_goesCalm 12 = .ok (.if_icmp .lt 4, 3) := by decide +kernel
theorem dX12_goesCalm_122 : decode cX12_goesCalm 122 = .ok (.sipush 150, 3) := by decide +kernel
theorem dX12_goesCalm_125 : decode cX12_goesCalm 125 = .ok (.iconst 3, 1) := by decide +kernel
theorem dX12_goesCalm_126 : decode cX12_goesCalm 126 = .ok (.iload 4, 2) := by decide +kernel
theorem dX12_goesCalm_128 : decode cX12_goesCalm 128 = .ok (.imul, 1) := by decide +kernel
theorem dX12_goesCalm_129 : decode cX12_goesCalm 129 = .ok (.iadd, 1) := by decide +kernel
theorem dX12_goesCalm_130 : decode cX12_goesCalm 130 = .ok (.iconst 2, 1) := by decide +kernel
theorem dX12_goesCalm_131 : decode cX12_goesCalm 131 = .ok (.iadd, 1) := by decide +kernel
theorem dX12_goesCalm_132 : decode cX12_goesCalm 132 = .ok (.iaload, 1) := by decide +kernel
theorem dX12_goesCalm_133 : decode cX12_goesCalm 133 = .ok (.invokevirtual 367, 3) := by decide +kernel
theorem dX12_goesCalm_136 : decode cX12_goesCalm 136 = .ok (.aload_n 0, 1) := by decide +kernel
theorem dX12_goesCalm_137 : decode cX12_goesCalm 137 = .ok (.getfield 42, 3) := by decide +kernel
theorem dX12_goesCalm_140 : decode cX12_goesCalm 140 = .ok (.iload_n 1, 1) := by decide +kernel
theorem dX12_goesCalm_141 : decode cX12_goesCalm 141 = .ok (.iload 4, 2) := by decide +kernel
theorem dX12_goesCalm_143 : decode cX12_goesCalm 143 = .ok (.iastore, 1) := by decide +kernel
theorem dX12_goesCalm_144 : decode cX12_goesCalm 144 = .ok (.aload_n 0, 1) := by decide +kernel
theorem dX12_goesCalm_145 : decode cX12_goesCalm 145 = .ok (.iload_n 1, 1) := by decide +kernel
theorem dX12_goesCalm_146 : decode cX12_goesCalm 146 = .ok (.iconst 1, 1) := by decide +kernel
theorem dX12_goesCalm_147 : decode cX12_goesCalm 147 = .ok (.iadd, 1) := by decide +kernel
theorem dX12_goesCalm_148 : decode cX12_goesCalm 148 = .ok (.iload_n 2, 1) := by decide +kernel
theorem dX12_goesCalm_149 : decode cX12_goesCalm 149 = .ok (.iconst 1, 1) := by decide +kernel
theorem dX12_goesCalm_15 : decode cX12_goesCalm 15 = .ok (.return_, 1) := by decide +kernel
theorem dX12_goesCalm_150 : decode cX12_goesCalm 150 = .ok (.iload 4, 2) := by decide +kernel
theorem dX12_goesCalm_152 : decode cX12_goesCalm 152 = .ok (.ishl, 1) := by decide +kernel
theorem dX12_goesCalm_153 : decode cX12_goesCalm 153 = .ok (.iconst (-1), 1) := by decide +kernel
theorem dX12_goesCalm_154 : decode cX12_goesCalm 154 = .ok (.ixor, 1) := by decide +kernel
theorem dX12_goesCalm_155 : decode cX12_goesCalm 155 = .ok (.iand, 1) := by decide +kernel
theorem dX12_goesCalm_156 : decode cX12_goesCalm 156 = .ok (.iload_n 3, 1) := by decide +kernel
theorem dX12_goesCalm_157 : decode cX12_goesCalm 157 = .ok (.aload_n 0, 1) := by decide +kernel
theorem dX12_goesCalm_158 : decode cX12_goesCalm 158 = .ok (.invokevirtual 352, 3) := by decide +kernel
theorem dX12_goesCalm_16 : decode cX12_goesCalm 16 = .ok (.iload_n 2, 1) := by decide +kernel
theorem dX12_goesCalm_161 : decode cX12_goesCalm 161 = .ok (.iadd, 1) := by decide +kernel
theorem dX12_goesCalm_162 : decode cX12_goesCalm 162 = .ok (.invokevirtual 487, 3) := by decide +kernel
theorem dX12_goesCalm_165 : decode cX12_goesCalm 165 = .ok (.aload_n 0, 1) := by decide +kernel
theorem dX12_goesCalm_166 : decode cX12_goesCalm 166 = .ok (.getfield 9, 3) := by decide +kernel
theorem dX12_goesCalm_169 : decode cX12_goesCalm 169 = .ok (.bipush 16, 2) := by decide +kernel
theorem dX12_goesCalm_17 : decode cX12_goesCalm 17 = .ok (.ifCond .ne 43, 3) := by decide +kernel
theorem dX12_goesCalm_171 : decode cX12_goesCalm 171 = .ok (.iload 5, 2) := by decide +kernel
theorem dX12_goesCalm_173 : decode cX12_goesCalm 173 = .ok (.iadd, 1) := by decide +kernel
theorem dX12_goesCalm_174 : decode cX12_goesCalm 174 = .ok (.iload 6, 2) := by decide +kernel
theorem dX12_goesCalm_176 : decode cX12_goesCalm 176 = .ok (.iastore, 1) := by decide +kernel
theorem dX12_goesCalm_177 : decode cX12_goesCalm 177 = .ok (.iinc 4 1, 3) := by decide +kernel
theorem dX12_goesCalm_180 : decode cX12_goesCalm 180 = .ok (.goto (-117), 3) := by decide +kernel
theorem dX12_goesCalm_183 : decode cX12_goesCalm 183 = .ok (.return_, 1) := by decide +kernel
theorem dX12_goesCalm_20 : decode cX12_goesCalm 20 = .ok (.aload_n 0, 1) := by decide +kernel
theorem dX12_goesCalm_21 : decode cX12_goesCalm 21 = .ok (.iconst 1, 1) := by decide +kernel
theorem dX12_goesCalm_22 : decode cX12_goesCalm 22 = .ok (.putfield 481, 3) := by decide +kernel
theorem dX12_goesCalm_25 : decode cX12_goesCalm 25 = .ok (.aload_n 0, 1) := by decide +kernel
theorem dX12_goesCalm_26 : decode cX12_goesCalm 26 = .ok (.iload_n 3, 1) := by decide +kernel
theorem dX12_goesCalm_27 : decode cX12_goesCalm 27 = .ok (.putfield 484, 3) := by decide +kernel
theorem dX12_goesCalm_30 : decode cX12_goesCalm 30 = .ok (.iconst 0, 1) := by decide +kernel
theorem dX12_goesCalm_31 : decode cX12_goesCalm 31 = .ok (.istore 4, 2) := by decide +kernel
theorem dX12_goesCalm_33 : decode cX12_goesCalm 33 = .ok (.iload 4, 2) := by decide +kernel
theorem dX12_goesCalm_35 : decode cX12_goesCalm 35 = .ok (.iload_n 1, 1) := by decide +kernel
theorem dX12_goesCalm_36 : decode cX12_goesCalm 36 = .ok (.if_icmp .ge 23, 3) := by decide +kernel
theorem dX12_goesCalm_39 : decode cX12_goesCalm 39 = .ok (.aload_n 0, 1) := by decide +kernel
theorem dX12_goesCalm_4 : decode cX12_goesCalm 4 = .ok (.ifCond .eq 12, 3) := by decide +kernel
theorem dX12_goesCalm_40 : decode cX12_goesCalm 40 = .ok (.getfield 45, 3) := by decide +kernel
theorem dX12_goesCalm_43 : decode cX12_goesCalm 43 = .ok (.iload 4, 2) := by decide +kernel
theorem dX12_goesCalm_45 : decode cX12_goesCalm 45 = .ok (.aload_n 0, 1) := by decide +kernel
theorem dX12_goesCalm_46 : decode cX12_goesCalm 46 = .ok (.getfield 42, 3) := by decide +kernel
theorem dX12_goesCalm_49 : decode cX12_goesCalm 49 = .ok (.iload 4, 2) := by decide +kernel
theorem dX12_goesCalm_51 : decode cX12_goesCalm 51 = .ok (.iaload, 1) := by decide +kernel
theorem dX12_goesCalm_52 : decode cX12_goesCalm 52 = .ok (.iastore, 1) := by decide +kernel
theorem dX12_goesCalm_53 : decode cX12_goesCalm 53 = .ok (.iinc 4 1, 3) := by decide +kernel
theorem dX12_goesCalm_56 : decode cX12_goesCalm 56 = .ok (.goto (-23), 3) := by decide +kernel
theorem dX12_goesCalm_59 : decode cX12_goesCalm 59 = .ok (.return_, 1) := by decide +kernel
theorem dX12_goesCalm_60 : decode cX12_goesCalm 60 = .ok (.iconst 0, 1) := by decide +kernel
theorem dX12_goesCalm_61 : decode cX12_goesCalm 61 = .ok (.istore 4, 2) := by decide +kernel
theorem dX12_goesCalm_63 : decode cX12_goesCalm 63 = .ok (.iload 4, 2) := by decide +kernel
theorem dX12_goesCalm_65 : decode cX12_goesCalm 65 = .ok (.aload_n 0, 1) := by decide +kernel
theorem dX12_goesCalm_66 : decode cX12_goesCalm 66 = .ok (.getfield 9, 3) := by decide +kernel
theorem dX12_goesCalm_69 : decode cX12_goesCalm 69 = .ok (.iconst 4, 1) := by decide +kernel
theorem dX12_goesCalm_7 : decode cX12_goesCalm 7 = .ok (.iload_n 3, 1) := by decide +kernel
theorem dX12_goesCalm_70 : decode cX12_goesCalm 70 = .ok (.iaload, 1) := by decide +kernel
theorem dX12_goesCalm_71 : decode cX12_goesCalm 71 = .ok (.if_icmp .ge 112, 3) := by decide +kernel
theorem dX12_goesCalm_74 : decode cX12_goesCalm 74 = .ok (.iload_n 2, 1) := by decide +kernel
theorem dX12_goesCalm_75 : decode cX12_goesCalm 75 = .ok (.iload 4, 2) := by decide +kernel
theorem dX12_goesCalm_77 : decode cX12_goesCalm 77 = .ok (.invokestatic 346, 3) := by decide +kernel
theorem dX12_goesCalm_8 : decode cX12_goesCalm 8 = .ok (.aload_n 0, 1) := by decide +kernel
theorem dX12_goesCalm_80 : decode cX12_goesCalm 80 = .ok (.ifCond .ne 6, 3) := by decide +kernel
theorem dX12_goesCalm_83 : decode cX12_goesCalm 83 = .ok (.goto 94, 3) := by decide +kernel
theorem dX12_goesCalm_86 : decode cX12_goesCalm 86 = .ok (.aload_n 0, 1) := by decide +kernel
theorem dX12_goesCalm_87 : decode cX12_goesCalm 87 = .ok (.getfield 9, 3) := by decide +kernel
theorem dX12_goesCalm_9 : decode cX12_goesCalm 9 = .ok (.getfield 484, 3) := by decide +kernel
theorem dX12_goesCalm_90 : decode cX12_goesCalm 90 = .ok (.sipush 150, 3) := by decide +kernel
theorem dX12_goesCalm_93 : decode cX12_goesCalm 93 = .ok (.iconst 3, 1) := by decide +kernel
theorem dX12_goesCalm_94 : decode cX12_goesCalm 94 = .ok (.iload 4, 2) := by decide +kernel
theorem dX12_goesCalm_96 : decode cX12_goesCalm 96 = .ok (.imul, 1) := by decide +kernel
theorem dX12_goesCalm_97 : decode cX12_goesCalm 97 = .ok (.iadd, 1) := by decide +kernel
theorem dX12_goesCalm_98 : decode cX12_goesCalm 98 = .ok (.iconst 1, 1) := by decide +kernel
theorem dX12_goesCalm_99 : decode cX12_goesCalm 99 = .ok (.iadd, 1) := by decide +kernel
theorem dX12_goesRows_0 : decode cX12_goesRows 0 = .ok (.aload_n 0, 1) := by decide +kernel
theorem dX12_goesRows_1 : decode cX12_goesRows 1 = .ok (.getfield 498, 3) := by decide +kernel
theorem dX12_goesRows_102 : decode cX12_goesRows 102 = .ok (.iload 6, 2) := by decide +kernel
theorem dX12_goesRows_104 : decode cX12_goesRows 104 = .ok (.aload_n 0, 1) := by decide +kernel
theorem dX12_goesRows_105 : decode cX12_goesRows 105 = .ok (.getfield 48, 3) := by decide +kernel
theorem dX12_goesRows_108 : decode cX12_goesRows 108 = .ok (.iload 6, 2) := by decide +kernel
theorem dX12_goesRows_110 : decode cX12_goesRows 110 = .ok (.iaload, 1) := by decide +kernel
theorem dX12_goesRows_111 : decode cX12_goesRows 111 = .ok (.iastore, 1) := by decide +kernel
theorem dX12_goesRows_112 : decode cX12_goesRows 112 = .ok (.iinc 6 1, 3) := by decide +kernel
theorem dX12_goesRows_115 : decode cX12_goesRows 115 = .ok (.goto (-23), 3) := by decide +kernel
theorem dX12_goesRows_118 : decode cX12_goesRows 118 = .ok (.return_, 1) := by decide +kernel
theorem dX12_goesRows_119 : decode cX12_goesRows 119 = .ok (.iconst 0, 1) := by decide +kernel
theorem dX12_goesRows_12 : decode cX12_goesRows 12 = .ok (.if_icmp .lt 4, 3) := by decide +kernel
theorem dX12_goesRows_120 : decode cX12_goesRows 120 = .ok (.istore 5, 2) := by decide +kernel
theorem dX12_goesRows_122 : decode cX12_goesRows 122 = .ok (.iload 5, 2) := by decide +kernel
theorem dX12_goesRows_124 : decode cX12_goesRows 124 = .ok (.aload_n 0, 1) := by decide +kernel
theorem dX12_goesRows_125 : decode cX12_goesRows 125 = .ok (.invokevirtual 275, 3) := by decide +kernel
theorem dX12_goesRows_128 : decode cX12_goesRows 128 = .ok (.if_icmp .ge 75, 3) := by decide +kernel
theorem dX12_goesRows_131 : decode cX12_goesRows 131 = .ok (.iload_n 2, 1) := by decide +kernel
theorem dX12_goesRows_132 : decode cX12_goesRows 132 = .ok (.iload 5, 2) := by decide +kernel
theorem dX12_goesRows_134 : decode cX12_goesRows 134 = .ok (.invokestatic 346, 3) := by decide +kernel
theorem dX12_goesRows_137 : decode cX12_goesRows 137 = .ok (.ifCond .ne 6, 3) := by decide +kernel
theorem dX12_goesRows_140 : decode cX12_goesRows 140 = .ok (.goto 57, 3) := by decide +kernel
theorem dX12_goesRows_143 : decode cX12_goesRows 143 = .ok (.aload_n 0, 1) := by decide +kernel
theorem dX12_goesRows_144 : decode cX12_goesRows 144 = .ok (.getfield 48, 3) := by decide +kernel
theorem dX12_goesRows_147 : decode cX12_goesRows 147 = .ok (.iload_n 1, 1) := by decide +kernel
theorem dX12_goesRows_148 : decode cX12_goesRows 148 = .ok (.iload 5, 2) := by decide +kernel
theorem dX12_goesRows_15 : decode cX12_goesRows 15 = .ok (.return_, 1) := by decide +kernel
theorem dX12_goesRows_150 : decode cX12_goesRows 150 = .ok (.iastore, 1) := by decide +kernel
theorem dX12_goesRows_151 : decode cX12_goesRows 151 = .ok (.aload_n 0, 1) := by decide +kernel
theorem dX12_goesRows_152 : decode cX12_goesRows 152 = .ok (.iload_n 1, 1) := by decide +kernel
theorem dX12_goesRows_153 : decode cX12_goesRows 153 = .ok (.iconst 1, 1) := by decide +kernel
theorem dX12_goesRows_154 : decode cX12_goesRows 154 = .ok (.iadd, 1) := by decide +kernel
theorem dX12_goesRows_155 : decode cX12_goesRows 155 = .ok (.iload_n 2, 1) := by decide +kernel
theorem dX12_goesRows_156 : decode cX12_goesRows 156 = .ok (.iconst 1, 1) := by decide +kernel
theorem dX12_goesRows_157 : decode cX12_goesRows 157 = .ok (.iload 5, 2) := by decide +kernel
theorem dX12_goesRows_159 : decode cX12_goesRows 159 = .ok (.ishl, 1) := by decide +kernel
theorem dX12_goesRows_16 : decode cX12_goesRows 16 = .ok (.iload_n 2, 1) := by decide +kernel
theorem dX12_goesRows_160 : decode cX12_goesRows 160 = .ok (.iconst (-1), 1) := by decide +kernel
theorem dX12_goesRows_161 : decode cX12_goesRows 161 = .ok (.ixor, 1) := by decide +kernel
theorem dX12_goesRows_162 : decode cX12_goesRows 162 = .ok (.iand, 1) := by decide +kernel
theorem dX12_goesRows_163 : decode cX12_goesRows 163 = .ok (.iload_n 3, 1) := by decide +kernel
theorem dX12_goesRows_164 : decode cX12_goesRows 164 = .ok (.iload_n 1, 1) := by decide +kernel
theorem dX12_goesRows_165 : decode cX12_goesRows 165 = .ok (.ifCond .le 25, 3) := by decide +kernel
theorem dX12_goesRows_168 : decode cX12_goesRows 168 = .ok (.aload_n 0, 1) := by decide +kernel
theorem dX12_goesRows_169 : decode cX12_goesRows 169 = .ok (.aload_n 0, 1) := by decide +kernel
theorem dX12_goesRows_17 : decode cX12_goesRows 17 = .ok (.ifCond .ne 102, 3) := by decide +kernel
theorem dX12_goesRows_170 : decode cX12_goesRows 170 = .ok (.getfield 48, 3) := by decide +kernel
theorem dX12_goesRows_173 : decode cX12_goesRows 173 = .ok (.iload_n 1, 1) := by decide +kernel
theorem dX12_goesRows_174 : decode cX12_goesRows 174 = .ok (.iconst 1, 1) := by decide +kernel
theorem dX12_goesRows_175 : decode cX12_goesRows 175 = .ok (.isub, 1) := by decide +kernel
theorem dX12_goesRows_176 : decode cX12_goesRows 176 = .ok (.iaload, 1) := by decide +kernel
theorem dX12_goesRows_177 : decode cX12_goesRows 177 = .ok (.iload 5, 2) := by decide +kernel
theorem dX12_goesRows_179 : decode cX12_goesRows 179 = .ok (.iconst 0, 1) := by decide +kernel
theorem dX12_goesRows_180 : decode cX12_goesRows 180 = .ok (.invokevirtual 322, 3) := by decide +kernel
theorem dX12_goesRows_183 : decode cX12_goesRows 183 = .ok (.ifCond .eq 7, 3) := by decide +kernel
theorem dX12_goesRows_186 : decode cX12_goesRows 186 = .ok (.iconst 1, 1) := by decide +kernel
theorem dX12_goesRows_187 : decode cX12_goesRows 187 = .ok (.goto 4, 3) := by decide +kernel
theorem dX12_goesRows_190 : decode cX12_goesRows 190 = .ok (.iconst 0, 1) := by decide +kernel
theorem dX12_goesRows_191 : decode cX12_goesRows 191 = .ok (.iadd, 1) := by decide +kernel
theorem dX12_goesRows_192 : decode cX12_goesRows 192 = .ok (.iload 4, 2) := by decide +kernel
theorem dX12_goesRows_194 : decode cX12_goesRows 194 = .ok (.invokevirtual 504, 3) := by decide +kernel
theorem dX12_goesRows_197 : decode cX12_goesRows 197 = .ok (.iinc 5 1, 3) := by decide +kernel
theorem dX12_goesRows_20 : decode cX12_goesRows 20 = .ok (.iload_n 3, 1) := by decide +kernel
theorem dX12_goesRows_200 : decode cX12_goesRows 200 = .ok (.goto (-78), 3) := by decide +kernel
theorem dX12_goesRows_203 : decode cX12_goesRows 203 = .ok (.return_, 1) := by decide +kernel
theorem dX12_goesRows_21 : decode cX12_goesRows 21 = .ok (.iload 4, 2) := by decide +kernel
theorem dX12_goesRows_23 : decode cX12_goesRows 23 = .ok (.ifCond .eq 34, 3) := by decide +kernel
theorem dX12_goesRows_26 : decode cX12_goesRows 26 = .ok (.iload_n 1, 1) := by decide +kernel
theorem dX12_goesRows_27 : decode cX12_goesRows 27 = .ok (.iconst 2, 1) := by decide +kernel
theorem dX12_goesRows_28 : decode cX12_goesRows 28 = .ok (.if_icmp .le 29, 3) := by decide +kernel
theorem dX12_goesRows_31 : decode cX12_goesRows 31 = .ok (.aload_n 0, 1) := by decide +kernel
theorem dX12_goesRows_32 : decode cX12_goesRows 32 = .ok (.aload_n 0, 1) := by decide +kernel
theorem dX12_goesRows_33 : decode cX12_goesRows 33 = .ok (.getfield 48, 3) := by decide +kernel
theorem dX12_goesRows_36 : decode cX12_goesRows 36 = .ok (.iconst 0, 1) := by decide +kernel
theorem dX12_goesRows_37 : decode cX12_goesRows 37 = .ok (.iaload, 1) := by decide +kernel
theorem dX12_goesRows_38 : decode cX12_goesRows 38 = .ok (.aload_n 0, 1) := by decide +kernel
theorem dX12_goesRows_39 : decode cX12_goesRows 39 = .ok (.getfield 48, 3) := by decide +kernel
theorem dX12_goesRows_4 : decode cX12_goesRows 4 = .ok (.ifCond .eq 12, 3) := by decide +kernel
theorem dX12_goesRows_42 : decode cX12_goesRows 42 = .ok (.iload_n 1, 1) := by decide +kernel
theorem dX12_goesRows_43 : decode cX12_goesRows 43 = .ok (.iconst 1, 1) := by decide +kernel
theorem dX12_goesRows_44 : decode cX12_goesRows 44 = .ok (.isub, 1) := by decide +kernel
theorem dX12_goesRows_45 : decode cX12_goesRows 45 = .ok (.iaload, 1) := by decide +kernel
theorem dX12_goesRows_46 : decode cX12_goesRows 46 = .ok (.iconst 0, 1) := by decide +kernel
theorem dX12_goesRows_47 : decode cX12_goesRows 47 = .ok (.invokevirtual 322, 3) := by decide +kernel
theorem dX12_goesRows_50 : decode cX12_goesRows 50 = .ok (.ifCond .eq 7, 3) := by decide +kernel
theorem dX12_goesRows_53 : decode cX12_goesRows 53 = .ok (.iconst 1, 1) := by decide +kernel
theorem dX12_goesRows_54 : decode cX12_goesRows 54 = .ok (.goto 4, 3) := by decide +kernel
theorem dX12_goesRows_57 : decode cX12_goesRows 57 = .ok (.iconst 0, 1) := by decide +kernel
theorem dX12_goesRows_58 : decode cX12_goesRows 58 = .ok (.iadd, 1) := by decide +kernel
theorem dX12_goesRows_59 : decode cX12_goesRows 59 = .ok (.istore 5, 2) := by decide +kernel
theorem dX12_goesRows_61 : decode cX12_goesRows 61 = .ok (.aload_n 0, 1) := by decide +kernel
theorem dX12_goesRows_62 : decode cX12_goesRows 62 = .ok (.getfield 498, 3) := by decide +kernel
theorem dX12_goesRows_65 : decode cX12_goesRows 65 = .ok (.ifCond .eq 13, 3) := by decide +kernel
theorem dX12_goesRows_68 : decode cX12_goesRows 68 = .ok (.iload 5, 2) := by decide +kernel
theorem dX12_goesRows_7 : decode cX12_goesRows 7 = .ok (.iload_n 3, 1) := by decide +kernel
theorem dX12_goesRows_70 : decode cX12_goesRows 70 = .ok (.aload_n 0, 1) := by decide +kernel
theorem dX12_goesRows_71 : decode cX12_goesRows 71 = .ok (.getfield 501, 3) := by decide +kernel
theorem dX12_goesRows_74 : decode cX12_goesRows 74 = .ok (.if_icmp .lt 4, 3) := by decide +kernel
theorem dX12_goesRows_77 : decode cX12_goesRows 77 = .ok (.return_, 1) := by decide +kernel
theorem dX12_goesRows_78 : decode cX12_goesRows 78 = .ok (.aload_n 0, 1) := by decide +kernel
theorem dX12_goesRows_79 : decode cX12_goesRows 79 = .ok (.iconst 1, 1) := by decide +kernel
theorem dX12_goesRows_8 : decode cX12_goesRows 8 = .ok (.aload_n 0, 1) := by decide +kernel
theorem dX12_goesRows_80 : decode cX12_goesRows 80 = .ok (.putfield 498, 3) := by decide +kernel
theorem dX12_goesRows_83 : decode cX12_goesRows 83 = .ok (.aload_n 0, 1) := by decide +kernel
theorem dX12_goesRows_84 : decode cX12_goesRows 84 = .ok (.iload 5, 2) := by decide +kernel
theorem dX12_goesRows_86 : decode cX12_goesRows 86 = .ok (.putfield 501, 3) := by decide +kernel
theorem dX12_goesRows_89 : decode cX12_goesRows 89 = .ok (.iconst 0, 1) := by decide +kernel
theorem dX12_goesRows_9 : decode cX12_goesRows 9 = .ok (.getfield 501, 3) := by decide +kernel
theorem dX12_goesRows_90 : decode cX12_goesRows 90 = .ok (.istore 6, 2) := by decide +kernel
theorem dX12_goesRows_92 : decode cX12_goesRows 92 = .ok (.iload 6, 2) := by decide +kernel
theorem dX12_goesRows_94 : decode cX12_goesRows 94 = .ok (.iload_n 1, 1) := by decide +kernel
theorem dX12_goesRows_95 : decode cX12_goesRows 95 = .ok (.if_icmp .ge 23, 3) := by decide +kernel
theorem dX12_goesRows_98 : decode cX12_goesRows 98 = .ok (.aload_n 0, 1) := by decide +kernel
theorem dX12_goesRows_99 : decode cX12_goesRows 99 = .ok (.getfield 51, 3) := by decide +kernel
theorem dX12_goesSeen_0 : decode cX12_goesSeen 0 = .ok (.iload_n 2, 1) := by decide +kernel
theorem dX12_goesSeen_1 : decode cX12_goesSeen 1 = .ok (.aload_n 0, 1) := by decide +kernel
theorem dX12_goesSeen_10 : decode cX12_goesSeen 10 = .ok (.iconst 0, 1) := by decide +kernel
theorem dX12_goesSeen_101 : decode cX12_goesSeen 101 = .ok (.iload_n 2, 1) := by decide +kernel
theorem dX12_goesSeen_102 : decode cX12_goesSeen 102 = .ok (.iload_n 3, 1) := by decide +kernel
theorem dX12_goesSeen_103 : decode cX12_goesSeen 103 = .ok (.iastore, 1) := by decide +kernel
theorem dX12_goesSeen_104 : decode cX12_goesSeen 104 = .ok (.aload_n 0, 1) := by decide +kernel
theorem dX12_goesSeen_105 : decode cX12_goesSeen 105 = .ok (.getfield 69, 3) := by decide +kernel
theorem dX12_goesSeen_108 : decode cX12_goesSeen 108 = .ok (.bipush 30, 2) := by decide +kernel
theorem dX12_goesSeen_11 : decode cX12_goesSeen 11 = .ok (.istore_n 3, 1) := by decide +kernel
theorem dX12_goesSeen_110 : decode cX12_goesSeen 110 = .ok (.iload_n 1, 1) := by decide +kernel
theorem dX12_goesSeen_111 : decode cX12_goesSeen 111 = .ok (.imul, 1) := by decide +kernel
theorem dX12_goesSeen_112 : decode cX12_goesSeen 112 = .ok (.iload_n 2, 1) := by decide +kernel
theorem dX12_goesSeen_113 : decode cX12_goesSeen 113 = .ok (.iadd, 1) := by decide +kernel
theorem dX12_goesSeen_114 : decode cX12_goesSeen 114 = .ok (.laload, 1) := by decide +kernel
theorem dX12_goesSeen_115 : decode cX12_goesSeen 115 = .ok (.lstore 5, 2) := by decide +kernel
theorem dX12_goesSeen_117 : decode cX12_goesSeen 117 = .ok (.lload 5, 2) := by decide +kernel
theorem dX12_goesSeen_119 : decode cX12_goesSeen 119 = .ok (.ldc2_w 393, 3) := by decide +kernel
theorem dX12_goesSeen_12 : decode cX12_goesSeen 12 = .ok (.iload_n 3, 1) := by decide +kernel
theorem dX12_goesSeen_122 : decode cX12_goesSeen 122 = .ok (.lcmp, 1) := by decide +kernel
theorem dX12_goesSeen_123 : decode cX12_goesSeen 123 = .ok (.ifCond .eq 14, 3) := by decide +kernel
theorem dX12_goesSeen_126 : decode cX12_goesSeen 126 = .ok (.lload 5, 2) := by decide +kernel
theorem dX12_goesSeen_128 : decode cX12_goesSeen 128 = .ok (.aload_n 0, 1) := by decide +kernel
theorem dX12_goesSeen_129 : decode cX12_goesSeen 129 = .ok (.invokevirtual 352, 3) := by decide +kernel
theorem dX12_goesSeen_13 : decode cX12_goesSeen 13 = .ok (.iload_n 2, 1) := by decide +kernel
theorem dX12_goesSeen_132 : decode cX12_goesSeen 132 = .ok (.i2l, 1) := by decide +kernel
theorem dX12_goesSeen_133 : decode cX12_goesSeen 133 = .ok (.lcmp, 1) := by decide +kernel
theorem dX12_goesSeen_134 : decode cX12_goesSeen 134 = .ok (.ifCond .ne 11, 3) := by decide +kernel
theorem dX12_goesSeen_137 : decode cX12_goesSeen 137 = .ok (.aload_n 0, 1) := by decide +kernel
theorem dX12_goesSeen_138 : decode cX12_goesSeen 138 = .ok (.iload_n 1, 1) := by decide +kernel
theorem dX12_goesSeen_139 : decode cX12_goesSeen 139 = .ok (.iload_n 2, 1) := by decide +kernel
theorem dX12_goesSeen_14 : decode cX12_goesSeen 14 = .ok (.if_icmp .ge 26, 3) := by decide +kernel
theorem dX12_goesSeen_140 : decode cX12_goesSeen 140 = .ok (.iconst 1, 1) := by decide +kernel
theorem dX12_goesSeen_141 : decode cX12_goesSeen 141 = .ok (.iadd, 1) := by decide +kernel
theorem dX12_goesSeen_142 : decode cX12_goesSeen 142 = .ok (.invokevirtual 524, 3) := by decide +kernel
theorem dX12_goesSeen_145 : decode cX12_goesSeen 145 = .ok (.iload_n 3, 1) := by decide +kernel
theorem dX12_goesSeen_146 : decode cX12_goesSeen 146 = .ok (.aload_n 0, 1) := by decide +kernel
theorem dX12_goesSeen_147 : decode cX12_goesSeen 147 = .ok (.invokevirtual 275, 3) := by decide +kernel
theorem dX12_goesSeen_150 : decode cX12_goesSeen 150 = .ok (.if_icmp .ge 14, 3) := by decide +kernel
theorem dX12_goesSeen_153 : decode cX12_goesSeen 153 = .ok (.aload_n 0, 1) := by decide +kernel
theorem dX12_goesSeen_154 : decode cX12_goesSeen 154 = .ok (.getfield 9, 3) := by decide +kernel
theorem dX12_goesSeen_157 : decode cX12_goesSeen 157 = .ok (.bipush 16, 2) := by decide +kernel
theorem dX12_goesSeen_159 : decode cX12_goesSeen 159 = .ok (.iload_n 3, 1) := by decide +kernel
theorem dX12_goesSeen_160 : decode cX12_goesSeen 160 = .ok (.iadd, 1) := by decide +kernel
theorem dX12_goesSeen_161 : decode cX12_goesSeen 161 = .ok (.iload 4, 2) := by decide +kernel
theorem dX12_goesSeen_163 : decode cX12_goesSeen 163 = .ok (.iastore, 1) := by decide +kernel
theorem dX12_goesSeen_164 : decode cX12_goesSeen 164 = .ok (.iinc 3 1, 3) := by decide +kernel
theorem dX12_goesSeen_167 : decode cX12_goesSeen 167 = .ok (.goto (-114), 3) := by decide +kernel
theorem dX12_goesSeen_17 : decode cX12_goesSeen 17 = .ok (.aload_n 0, 1) := by decide +kernel
theorem dX12_goesSeen_170 : decode cX12_goesSeen 170 = .ok (.return_, 1) := by decide +kernel
theorem dX12_goesSeen_18 : decode cX12_goesSeen 18 = .ok (.getfield 60, 3) := by decide +kernel
theorem dX12_goesSeen_2 : decode cX12_goesSeen 2 = .ok (.getfield 66, 3) := by decide +kernel
theorem dX12_goesSeen_21 : decode cX12_goesSeen 21 = .ok (.iload_n 3, 1) := by decide +kernel
theorem dX12_goesSeen_22 : decode cX12_goesSeen 22 = .ok (.dup2, 1) := by decide +kernel
theorem dX12_goesSeen_23 : decode cX12_goesSeen 23 = .ok (.iaload, 1) := by decide +kernel
theorem dX12_goesSeen_24 : decode cX12_goesSeen 24 = .ok (.iconst 1, 1) := by decide +kernel
theorem dX12_goesSeen_25 : decode cX12_goesSeen 25 = .ok (.aload_n 0, 1) := by decide +kernel
theorem dX12_goesSeen_26 : decode cX12_goesSeen 26 = .ok (.getfield 57, 3) := by decide +kernel
theorem dX12_goesSeen_29 : decode cX12_goesSeen 29 = .ok (.iload_n 3, 1) := by decide +kernel
theorem dX12_goesSeen_30 : decode cX12_goesSeen 30 = .ok (.iaload, 1) := by decide +kernel
theorem dX12_goesSeen_31 : decode cX12_goesSeen 31 = .ok (.ishl, 1) := by decide +kernel
theorem dX12_goesSeen_32 : decode cX12_goesSeen 32 = .ok (.ior, 1) := by decide +kernel
theorem dX12_goesSeen_33 : decode cX12_goesSeen 33 = .ok (.iastore, 1) := by decide +kernel
theorem dX12_goesSeen_34 : decode cX12_goesSeen 34 = .ok (.iinc 3 1, 3) := by decide +kernel
theorem dX12_goesSeen_37 : decode cX12_goesSeen 37 = .ok (.goto (-25), 3) := by decide +kernel
theorem dX12_goesSeen_40 : decode cX12_goesSeen 40 = .ok (.aload_n 0, 1) := by decide +kernel
theorem dX12_goesSeen_41 : decode cX12_goesSeen 41 = .ok (.dup, 1) := by decide +kernel
theorem dX12_goesSeen_42 : decode cX12_goesSeen 42 = .ok (.getfield 521, 3) := by decide +kernel
theorem dX12_goesSeen_45 : decode cX12_goesSeen 45 = .ok (.iconst 1, 1) := by decide +kernel
theorem dX12_goesSeen_46 : decode cX12_goesSeen 46 = .ok (.iadd, 1) := by decide +kernel
theorem dX12_goesSeen_47 : decode cX12_goesSeen 47 = .ok (.putfield 521, 3) := by decide +kernel
theorem dX12_goesSeen_5 : decode cX12_goesSeen 5 = .ok (.iload_n 1, 1) := by decide +kernel
theorem dX12_goesSeen_50 : decode cX12_goesSeen 50 = .ok (.return_, 1) := by decide +kernel
theorem dX12_goesSeen_51 : decode cX12_goesSeen 51 = .ok (.iconst 0, 1) := by decide +kernel
theorem dX12_goesSeen_52 : decode cX12_goesSeen 52 = .ok (.istore_n 3, 1) := by decide +kernel
theorem dX12_goesSeen_53 : decode cX12_goesSeen 53 = .ok (.iload_n 3, 1) := by decide +kernel
theorem dX12_goesSeen_54 : decode cX12_goesSeen 54 = .ok (.aload_n 0, 1) := by decide +kernel
theorem dX12_goesSeen_55 : decode cX12_goesSeen 55 = .ok (.invokevirtual 275, 3) := by decide +kernel
theorem dX12_goesSeen_58 : decode cX12_goesSeen 58 = .ok (.if_icmp .gt 112, 3) := by decide +kernel
theorem dX12_goesSeen_6 : decode cX12_goesSeen 6 = .ok (.iaload, 1) := by decide +kernel
theorem dX12_goesSeen_61 : decode cX12_goesSeen 61 = .ok (.iload_n 3, 1) := by decide +kernel
theorem dX12_goesSeen_62 : decode cX12_goesSeen 62 = .ok (.aload_n 0, 1) := by decide +kernel
theorem dX12_goesSeen_63 : decode cX12_goesSeen 63 = .ok (.invokevirtual 275, 3) := by decide +kernel
theorem dX12_goesSeen_66 : decode cX12_goesSeen 66 = .ok (.if_icmp .ge 15, 3) := by decide +kernel
theorem dX12_goesSeen_69 : decode cX12_goesSeen 69 = .ok (.aload_n 0, 1) := by decide +kernel
theorem dX12_goesSeen_7 : decode cX12_goesSeen 7 = .ok (.if_icmp .ne 44, 3) := by decide +kernel
theorem dX12_goesSeen_70 : decode cX12_goesSeen 70 = .ok (.getfield 9, 3) := by decide +kernel
theorem dX12_goesSeen_73 : decode cX12_goesSeen 73 = .ok (.bipush 16, 2) := by decide +kernel
theorem dX12_goesSeen_75 : decode cX12_goesSeen 75 = .ok (.iload_n 3, 1) := by decide +kernel
theorem dX12_goesSeen_76 : decode cX12_goesSeen 76 = .ok (.iadd, 1) := by decide +kernel
theorem dX12_goesSeen_77 : decode cX12_goesSeen 77 = .ok (.iaload, 1) := by decide +kernel
theorem dX12_goesSeen_78 : decode cX12_goesSeen 78 = .ok (.goto 4, 3) := by decide +kernel
theorem dX12_goesSeen_81 : decode cX12_goesSeen 81 = .ok (.iconst 0, 1) := by decide +kernel
theorem dX12_goesSeen_82 : decode cX12_goesSeen 82 = .ok (.istore 4, 2) := by decide +kernel
theorem dX12_goesSeen_84 : decode cX12_goesSeen 84 = .ok (.iload_n 3, 1) := by decide +kernel
theorem dX12_goesSeen_85 : decode cX12_goesSeen 85 = .ok (.aload_n 0, 1) := by decide +kernel
theorem dX12_goesSeen_86 : decode cX12_goesSeen 86 = .ok (.invokevirtual 275, 3) := by decide +kernel
theorem dX12_goesSeen_89 : decode cX12_goesSeen 89 = .ok (.if_icmp .ge 8, 3) := by decide +kernel
theorem dX12_goesSeen_92 : decode cX12_goesSeen 92 = .ok (.aload_n 0, 1) := by decide +kernel
theorem dX12_goesSeen_93 : decode cX12_goesSeen 93 = .ok (.iload_n 3, 1) := by decide +kernel
theorem dX12_goesSeen_94 : decode cX12_goesSeen 94 = .ok (.invokevirtual 460, 3) := by decide +kernel
theorem dX12_goesSeen_97 : decode cX12_goesSeen 97 = .ok (.aload_n 0, 1) := by decide +kernel
theorem dX12_goesSeen_98 : decode cX12_goesSeen 98 = .ok (.getfield 57, 3) := by decide +kernel
theorem dX12_goesWave_0 : decode cX12_goesWave 0 = .ok (.aload_n 0, 1) := by decide +kernel
theorem dX12_goesWave_1 : decode cX12_goesWave 1 = .ok (.iconst 0, 1) := by decide +kernel
theorem dX12_goesWave_10 : decode cX12_goesWave 10 = .ok (.iload_n 1, 1) := by decide +kernel
theorem dX12_goesWave_11 : decode cX12_goesWave 11 = .ok (.iconst (-1), 1) := by decide +kernel
theorem dX12_goesWave_12 : decode cX12_goesWave 12 = .ok (.if_icmp .eq 65, 3) := by decide +kernel
theorem dX12_goesWave_15 : decode cX12_goesWave 15 = .ok (.aload_n 0, 1) := by decide +kernel
theorem dX12_goesWave_16 : decode cX12_goesWave 16 = .ok (.getfield 472, 3) := by decide +kernel
theorem dX12_goesWave_19 : decode cX12_goesWave 19 = .ok (.bipush 50, 2) := by decide +kernel
theorem dX12_goesWave_2 : decode cX12_goesWave 2 = .ok (.putfield 472, 3) := by decide +kernel
theorem dX12_goesWave_21 : decode cX12_goesWave 21 = .ok (.if_icmp .ge 56, 3) := by decide +kernel
theorem dX12_goesWave_24 : decode cX12_goesWave 24 = .ok (.aload_n 0, 1) := by decide +kernel
theorem dX12_goesWave_25 : decode cX12_goesWave 25 = .ok (.iload_n 1, 1) := by decide +kernel
theorem dX12_goesWave_26 : decode cX12_goesWave 26 = .ok (.bipush 10, 2) := by decide +kernel
theorem dX12_goesWave_28 : decode cX12_goesWave 28 = .ok (.idiv, 1) := by decide +kernel
theorem dX12_goesWave_29 : decode cX12_goesWave 29 = .ok (.iload_n 1, 1) := by decide +kernel
theorem dX12_goesWave_30 : decode cX12_goesWave 30 = .ok (.bipush 10, 2) := by decide +kernel
theorem dX12_goesWave_32 : decode cX12_goesWave 32 = .ok (.irem, 1) := by decide +kernel
theorem dX12_goesWave_33 : decode cX12_goesWave 33 = .ok (.invokevirtual 475, 3) := by decide +kernel
theorem dX12_goesWave_36 : decode cX12_goesWave 36 = .ok (.istore_n 2, 1) := by decide +kernel
theorem dX12_goesWave_37 : decode cX12_goesWave 37 = .ok (.iload_n 2, 1) := by decide +kernel
theorem dX12_goesWave_38 : decode cX12_goesWave 38 = .ok (.iconst (-1), 1) := by decide +kernel
theorem dX12_goesWave_39 : decode cX12_goesWave 39 = .ok (.if_icmp .ne 4, 3) := by decide +kernel
theorem dX12_goesWave_42 : decode cX12_goesWave 42 = .ok (.return_, 1) := by decide +kernel
theorem dX12_goesWave_43 : decode cX12_goesWave 43 = .ok (.aload_n 0, 1) := by decide +kernel
theorem dX12_goesWave_44 : decode cX12_goesWave 44 = .ok (.iload_n 2, 1) := by decide +kernel
theorem dX12_goesWave_45 : decode cX12_goesWave 45 = .ok (.invokevirtual 469, 3) := by decide +kernel
theorem dX12_goesWave_48 : decode cX12_goesWave 48 = .ok (.pop, 1) := by decide +kernel
theorem dX12_goesWave_49 : decode cX12_goesWave 49 = .ok (.aload_n 0, 1) := by decide +kernel
theorem dX12_goesWave_5 : decode cX12_goesWave 5 = .ok (.aload_n 0, 1) := by decide +kernel
theorem dX12_goesWave_50 : decode cX12_goesWave 50 = .ok (.iload_n 2, 1) := by decide +kernel
theorem dX12_goesWave_51 : decode cX12_goesWave 51 = .ok (.aload_n 0, 1) := by decide +kernel
theorem dX12_goesWave_52 : decode cX12_goesWave 52 = .ok (.getfield 466, 3) := by decide +kernel
theorem dX12_goesWave_55 : decode cX12_goesWave 55 = .ok (.invokevirtual 382, 3) := by decide +kernel
theorem dX12_goesWave_58 : decode cX12_goesWave 58 = .ok (.pop, 1) := by decide +kernel
theorem dX12_goesWave_59 : decode cX12_goesWave 59 = .ok (.aload_n 0, 1) := by decide +kernel
theorem dX12_goesWave_6 : decode cX12_goesWave 6 = .ok (.invokevirtual 355, 3) := by decide +kernel
theorem dX12_goesWave_60 : decode cX12_goesWave 60 = .ok (.dup, 1) := by decide +kernel
theorem dX12_goesWave_61 : decode cX12_goesWave 61 = .ok (.getfield 472, 3) := by decide +kernel
theorem dX12_goesWave_64 : decode cX12_goesWave 64 = .ok (.iconst 1, 1) := by decide +kernel
theorem dX12_goesWave_65 : decode cX12_goesWave 65 = .ok (.iadd, 1) := by decide +kernel
theorem dX12_goesWave_66 : decode cX12_goesWave 66 = .ok (.putfield 472, 3) := by decide +kernel
theorem dX12_goesWave_69 : decode cX12_goesWave 69 = .ok (.aload_n 0, 1) := by decide +kernel
theorem dX12_goesWave_70 : decode cX12_goesWave 70 = .ok (.invokevirtual 355, 3) := by decide +kernel
theorem dX12_goesWave_73 : decode cX12_goesWave 73 = .ok (.istore_n 1, 1) := by decide +kernel
theorem dX12_goesWave_74 : decode cX12_goesWave 74 = .ok (.goto (-64), 3) := by decide +kernel
theorem dX12_goesWave_77 : decode cX12_goesWave 77 = .ok (.return_, 1) := by decide +kernel
theorem dX12_goesWave_9 : decode cX12_goesWave 9 = .ok (.istore_n 1, 1) := by decide +kernel
theorem dX12_mayClash_0 : decode cX12_mayClash 0 = .ok (.aload_n 0, 1) := by decide +kernel
theorem dX12_mayClash_1 : decode cX12_mayClash 1 = .ok (.getfield 54, 3) := by decide +kernel
theorem dX12_mayClash_10 : decode cX12_mayClash 10 = .ok (.aload_n 0, 1) := by decide +kernel
theorem dX12_mayClash_11 : decode cX12_mayClash 11 = .ok (.iload_n 1, 1) := by decide +kernel
theorem dX12_mayClash_12 : decode cX12_mayClash 12 = .ok (.aload_n 0, 1) := by decide +kernel
theorem dX12_mayClash_13 : decode cX12_mayClash 13 = .ok (.getfield 54, 3) := by decide +kernel
theorem dX12_mayClash_16 : decode cX12_mayClash 16 = .ok (.iload_n 2, 1) := by decide +kernel
theorem dX12_mayClash_17 : decode cX12_mayClash 17 = .ok (.iaload, 1) := by decide +kernel
theorem dX12_mayClash_18 : decode cX12_mayClash 18 = .ok (.iconst 0, 1) := by decide +kernel
theorem dX12_mayClash_19 : decode cX12_mayClash 19 = .ok (.invokevirtual 322, 3) := by decide +kernel
theorem dX12_mayClash_22 : decode cX12_mayClash 22 = .ok (.ifCond .eq 7, 3) := by decide +kernel
theorem dX12_mayClash_25 : decode cX12_mayClash 25 = .ok (.iconst 1, 1) := by decide +kernel
theorem dX12_mayClash_26 : decode cX12_mayClash 26 = .ok (.goto 4, 3) := by decide +kernel
theorem dX12_mayClash_29 : decode cX12_mayClash 29 = .ok (.iconst 0, 1) := by decide +kernel
theorem dX12_mayClash_30 : decode cX12_mayClash 30 = .ok (.ireturn, 1) := by decide +kernel
theorem dX12_mayClash_4 : decode cX12_mayClash 4 = .ok (.iload_n 2, 1) := by decide +kernel
theorem dX12_mayClash_5 : decode cX12_mayClash 5 = .ok (.iaload, 1) := by decide +kernel
theorem dX12_mayClash_6 : decode cX12_mayClash 6 = .ok (.iconst (-1), 1) := by decide +kernel
theorem dX12_mayClash_7 : decode cX12_mayClash 7 = .ok (.if_icmp .eq 22, 3) := by decide +kernel
theorem dX12_mover_0 : decode cX12_mover 0 = .ok (.aload_n 0, 1) := by decide +kernel
theorem dX12_mover_1 : decode cX12_mover 1 = .ok (.iload_n 1, 1) := by decide +kernel
theorem dX12_mover_100 : decode cX12_mover 100 = .ok (.ifCond .ne 7, 3) := by decide +kernel
theorem dX12_mover_103 : decode cX12_mover 103 = .ok (.iload_n 1, 1) := by decide +kernel
theorem dX12_mover_104 : decode cX12_mover 104 = .ok (.goto 4, 3) := by decide +kernel
theorem dX12_mover_107 : decode cX12_mover 107 = .ok (.iload_n 2, 1) := by decide +kernel
theorem dX12_mover_108 : decode cX12_mover 108 = .ok (.ireturn, 1) := by decide +kernel
theorem dX12_mover_11 : decode cX12_mover 11 = .ok (.istore 4, 2) := by decide +kernel
theorem dX12_mover_13 : decode cX12_mover 13 = .ok (.iload_n 3, 1) := by decide +kernel
theorem dX12_mover_14 : decode cX12_mover 14 = .ok (.iconst (-1), 1) := by decide +kernel
theorem dX12_mover_15 : decode cX12_mover 15 = .ok (.if_icmp .eq 9, 3) := by decide +kernel
theorem dX12_mover_18 : decode cX12_mover 18 = .ok (.iload 4, 2) := by decide +kernel
theorem dX12_mover_2 : decode cX12_mover 2 = .ok (.invokevirtual 469, 3) := by decide +kernel
theorem dX12_mover_20 : decode cX12_mover 20 = .ok (.iconst (-1), 1) := by decide +kernel
theorem dX12_mover_21 : decode cX12_mover 21 = .ok (.if_icmp .ne 24, 3) := by decide +kernel
theorem dX12_mover_24 : decode cX12_mover 24 = .ok (.iload_n 3, 1) := by decide +kernel
theorem dX12_mover_25 : decode cX12_mover 25 = .ok (.iconst (-1), 1) := by decide +kernel
theorem dX12_mover_26 : decode cX12_mover 26 = .ok (.if_icmp .eq 7, 3) := by decide +kernel
theorem dX12_mover_29 : decode cX12_mover 29 = .ok (.iload_n 1, 1) := by decide +kernel
theorem dX12_mover_30 : decode cX12_mover 30 = .ok (.goto 14, 3) := by decide +kernel
theorem dX12_mover_33 : decode cX12_mover 33 = .ok (.iload 4, 2) := by decide +kernel
theorem dX12_mover_35 : decode cX12_mover 35 = .ok (.iconst (-1), 1) := by decide +kernel
theorem dX12_mover_36 : decode cX12_mover 36 = .ok (.if_icmp .eq 7, 3) := by decide +kernel
theorem dX12_mover_39 : decode cX12_mover 39 = .ok (.iload_n 2, 1) := by decide +kernel
theorem dX12_mover_40 : decode cX12_mover 40 = .ok (.goto 4, 3) := by decide +kernel
theorem dX12_mover_43 : decode cX12_mover 43 = .ok (.iconst (-1), 1) := by decide +kernel
theorem dX12_mover_44 : decode cX12_mover 44 = .ok (.ireturn, 1) := by decide +kernel
theorem dX12_mover_45 : decode cX12_mover 45 = .ok (.iload_n 3, 1) := by decide +kernel
theorem dX12_mover_46 : decode cX12_mover 46 = .ok (.iload 4, 2) := by decide +kernel
theorem dX12_mover_48 : decode cX12_mover 48 = .ok (.if_icmp .eq 15, 3) := by decide +kernel
theorem dX12_mover_5 : decode cX12_mover 5 = .ok (.istore_n 3, 1) := by decide +kernel
theorem dX12_mover_51 : decode cX12_mover 51 = .ok (.iload_n 3, 1) := by decide +kernel
theorem dX12_mover_52 : decode cX12_mover 52 = .ok (.iload 4, 2) := by decide +kernel
theorem dX12_mover_54 : decode cX12_mover 54 = .ok (.if_icmp .ge 7, 3) := by decide +kernel
theorem dX12_mover_57 : decode cX12_mover 57 = .ok (.iload_n 1, 1) := by decide +kernel
theorem dX12_mover_58 : decode cX12_mover 58 = .ok (.goto 4, 3) := by decide +kernel
theorem dX12_mover_6 : decode cX12_mover 6 = .ok (.aload_n 0, 1) := by decide +kernel
theorem dX12_mover_61 : decode cX12_mover 61 = .ok (.iload_n 2, 1) := by decide +kernel
theorem dX12_mover_62 : decode cX12_mover 62 = .ok (.ireturn, 1) := by decide +kernel
theorem dX12_mover_63 : decode cX12_mover 63 = .ok (.aload_n 0, 1) := by decide +kernel
theorem dX12_mover_64 : decode cX12_mover 64 = .ok (.aload_n 0, 1) := by decide +kernel
theorem dX12_mover_65 : decode cX12_mover 65 = .ok (.getfield 9, 3) := by decide +kernel
theorem dX12_mover_68 : decode cX12_mover 68 = .ok (.bipush 16, 2) := by decide +kernel
theorem dX12_mover_7 : decode cX12_mover 7 = .ok (.iload_n 2, 1) := by decide +kernel
theorem dX12_mover_70 : decode cX12_mover 70 = .ok (.iload_n 1, 1) := by decide +kernel
theorem dX12_mover_71 : decode cX12_mover 71 = .ok (.iadd, 1) := by decide +kernel
theorem dX12_mover_72 : decode cX12_mover 72 = .ok (.iaload, 1) := by decide +kernel
theorem dX12_mover_73 : decode cX12_mover 73 = .ok (.invokevirtual 298, 3) := by decide +kernel
theorem dX12_mover_76 : decode cX12_mover 76 = .ok (.istore 5, 2) := by decide +kernel
theorem dX12_mover_78 : decode cX12_mover 78 = .ok (.aload_n 0, 1) := by decide +kernel
theorem dX12_mover_79 : decode cX12_mover 79 = .ok (.aload_n 0, 1) := by decide +kernel
theorem dX12_mover_8 : decode cX12_mover 8 = .ok (.invokevirtual 469, 3) := by decide +kernel
theorem dX12_mover_80 : decode cX12_mover 80 = .ok (.getfield 9, 3) := by decide +kernel
theorem dX12_mover_83 : decode cX12_mover 83 = .ok (.bipush 16, 2) := by decide +kernel
theorem dX12_mover_85 : decode cX12_mover 85 = .ok (.iload_n 2, 1) := by decide +kernel
theorem dX12_mover_86 : decode cX12_mover 86 = .ok (.iadd, 1) := by decide +kernel
theorem dX12_mover_87 : decode cX12_mover 87 = .ok (.iaload, 1) := by decide +kernel
theorem dX12_mover_88 : decode cX12_mover 88 = .ok (.invokevirtual 298, 3) := by decide +kernel
theorem dX12_mover_91 : decode cX12_mover 91 = .ok (.istore 6, 2) := by decide +kernel
theorem dX12_mover_93 : decode cX12_mover 93 = .ok (.iload 5, 2) := by decide +kernel
theorem dX12_mover_95 : decode cX12_mover 95 = .ok (.ifCond .eq 12, 3) := by decide +kernel
theorem dX12_mover_98 : decode cX12_mover 98 = .ok (.iload 6, 2) := by decide +kernel
theorem dX12_pleasureOf_0 : decode cX12_pleasureOf 0 = .ok (.iconst 0, 1) := by decide +kernel
theorem dX12_pleasureOf_1 : decode cX12_pleasureOf 1 = .ok (.istore_n 3, 1) := by decide +kernel
theorem dX12_pleasureOf_11 : decode cX12_pleasureOf 11 = .ok (.if_icmp .ge 37, 3) := by decide +kernel
theorem dX12_pleasureOf_14 : decode cX12_pleasureOf 14 = .ok (.iload_n 3, 1) := by decide +kernel
theorem dX12_pleasureOf_15 : decode cX12_pleasureOf 15 = .ok (.iload 4, 2) := by decide +kernel
theorem dX12_pleasureOf_17 : decode cX12_pleasureOf 17 = .ok (.iload_n 1, 1) := by decide +kernel
theorem dX12_pleasureOf_18 : decode cX12_pleasureOf 18 = .ok (.if_icmp .eq 21, 3) := by decide +kernel
theorem dX12_pleasureOf_2 : decode cX12_pleasureOf 2 = .ok (.iconst 0, 1) := by decide +kernel
theorem dX12_pleasureOf_21 : decode cX12_pleasureOf 21 = .ok (.aload_n 0, 1) := by decide +kernel
theorem dX12_pleasureOf_22 : decode cX12_pleasureOf 22 = .ok (.iload_n 2, 1) := by decide +kernel
theorem dX12_pleasureOf_23 : decode cX12_pleasureOf 23 = .ok (.aload_n 0, 1) := by decide +kernel
theorem dX12_pleasureOf_24 : decode cX12_pleasureOf 24 = .ok (.iload 4, 2) := by decide +kernel
theorem dX12_pleasureOf_26 : decode cX12_pleasureOf 26 = .ok (.invokevirtual 317, 3) := by decide +kernel
theorem dX12_pleasureOf_29 : decode cX12_pleasureOf 29 = .ok (.invokevirtual 320, 3) := by decide +kernel
theorem dX12_pleasureOf_3 : decode cX12_pleasureOf 3 = .ok (.istore 4, 2) := by decide +kernel
theorem dX12_pleasureOf_32 : decode cX12_pleasureOf 32 = .ok (.ifCond .eq 7, 3) := by decide +kernel
theorem dX12_pleasureOf_35 : decode cX12_pleasureOf 35 = .ok (.iconst 2, 1) := by decide +kernel
theorem dX12_pleasureOf_36 : decode cX12_pleasureOf 36 = .ok (.goto 4, 3) := by decide +kernel
theorem dX12_pleasureOf_39 : decode cX12_pleasureOf 39 = .ok (.iconst 0, 1) := by decide +kernel
theorem dX12_pleasureOf_40 : decode cX12_pleasureOf 40 = .ok (.iadd, 1) := by decide +kernel
theorem dX12_pleasureOf_41 : decode cX12_pleasureOf 41 = .ok (.istore_n 3, 1) := by decide +kernel
theorem dX12_pleasureOf_42 : decode cX12_pleasureOf 42 = .ok (.iinc 4 1, 3) := by decide +kernel
theorem dX12_pleasureOf_45 : decode cX12_pleasureOf 45 = .ok (.goto (-40), 3) := by decide +kernel
theorem dX12_pleasureOf_48 : decode cX12_pleasureOf 48 = .ok (.iload_n 3, 1) := by decide +kernel
theorem dX12_pleasureOf_49 : decode cX12_pleasureOf 49 = .ok (.iconst 5, 1) := by decide +kernel
theorem dX12_pleasureOf_5 : decode cX12_pleasureOf 5 = .ok (.iload 4, 2) := by decide +kernel
theorem dX12_pleasureOf_50 : decode cX12_pleasureOf 50 = .ok (.aload_n 0, 1) := by decide +kernel
theorem dX12_pleasureOf_51 : decode cX12_pleasureOf 51 = .ok (.iload_n 1, 1) := by decide +kernel
theorem dX12_pleasureOf_52 : decode cX12_pleasureOf 52 = .ok (.iload_n 2, 1) := by decide +kernel
theorem dX12_pleasureOf_53 : decode cX12_pleasureOf 53 = .ok (.invokevirtual 329, 3) := by decide +kernel
theorem dX12_pleasureOf_56 : decode cX12_pleasureOf 56 = .ok (.invokestatic 332, 3) := by decide +kernel
theorem dX12_pleasureOf_59 : decode cX12_pleasureOf 59 = .ok (.imul, 1) := by decide +kernel
theorem dX12_pleasureOf_60 : decode cX12_pleasureOf 60 = .ok (.isub, 1) := by decide +kernel
theorem dX12_pleasureOf_61 : decode cX12_pleasureOf 61 = .ok (.ireturn, 1) := by decide +kernel
theorem dX12_pleasureOf_7 : decode cX12_pleasureOf 7 = .ok (.aload_n 0, 1) := by decide +kernel
theorem dX12_pleasureOf_8 : decode cX12_pleasureOf 8 = .ok (.invokevirtual 275, 3) := by decide +kernel
theorem dX12_pleasure_0 : decode cX12_pleasure 0 = .ok (.aload_n 0, 1) := by decide +kernel
theorem dX12_pleasure_1 : decode cX12_pleasure 1 = .ok (.aload_n 0, 1) := by decide +kernel
theorem dX12_pleasure_10 : decode cX12_pleasure 10 = .ok (.aload_n 0, 1) := by decide +kernel
theorem dX12_pleasure_11 : decode cX12_pleasure 11 = .ok (.iload_n 2, 1) := by decide +kernel
theorem dX12_pleasure_12 : decode cX12_pleasure 12 = .ok (.i2l, 1) := by decide +kernel
theorem dX12_pleasure_13 : decode cX12_pleasure 13 = .ok (.invokevirtual 341, 3) := by decide +kernel
theorem dX12_pleasure_16 : decode cX12_pleasure 16 = .ok (.ifCond .ne 7, 3) := by decide +kernel
theorem dX12_pleasure_19 : decode cX12_pleasure 19 = .ok (.iconst 1, 1) := by decide +kernel
theorem dX12_pleasure_2 : decode cX12_pleasure 2 = .ok (.iload_n 1, 1) := by decide +kernel
theorem dX12_pleasure_20 : decode cX12_pleasure 20 = .ok (.goto 29, 3) := by decide +kernel
theorem dX12_pleasure_23 : decode cX12_pleasure 23 = .ok (.aload_n 0, 1) := by decide +kernel
theorem dX12_pleasure_24 : decode cX12_pleasure 24 = .ok (.getfield 9, 3) := by decide +kernel
theorem dX12_pleasure_27 : decode cX12_pleasure 27 = .ok (.iload_n 2, 1) := by decide +kernel
theorem dX12_pleasure_28 : decode cX12_pleasure 28 = .ok (.invokestatic 209, 3) := by decide +kernel
theorem dX12_pleasure_3 : decode cX12_pleasure 3 = .ok (.i2l, 1) := by decide +kernel
theorem dX12_pleasure_31 : decode cX12_pleasure 31 = .ok (.iconst (-1), 1) := by decide +kernel
theorem dX12_pleasure_32 : decode cX12_pleasure 32 = .ok (.if_icmp .eq 16, 3) := by decide +kernel
theorem dX12_pleasure_35 : decode cX12_pleasure 35 = .ok (.aload_n 0, 1) := by decide +kernel
theorem dX12_pleasure_36 : decode cX12_pleasure 36 = .ok (.iload_n 1, 1) := by decide +kernel
theorem dX12_pleasure_37 : decode cX12_pleasure 37 = .ok (.invokevirtual 317, 3) := by decide +kernel
theorem dX12_pleasure_4 : decode cX12_pleasure 4 = .ok (.invokevirtual 335, 3) := by decide +kernel
theorem dX12_pleasure_40 : decode cX12_pleasure 40 = .ok (.iload_n 2, 1) := by decide +kernel
theorem dX12_pleasure_41 : decode cX12_pleasure 41 = .ok (.if_icmp .eq 7, 3) := by decide +kernel
theorem dX12_pleasure_44 : decode cX12_pleasure 44 = .ok (.iconst 2, 1) := by decide +kernel
theorem dX12_pleasure_45 : decode cX12_pleasure 45 = .ok (.goto 4, 3) := by decide +kernel
theorem dX12_pleasure_48 : decode cX12_pleasure 48 = .ok (.iconst 0, 1) := by decide +kernel
theorem dX12_pleasure_49 : decode cX12_pleasure 49 = .ok (.putfield 73, 3) := by decide +kernel
theorem dX12_pleasure_52 : decode cX12_pleasure 52 = .ok (.aload_n 0, 1) := by decide +kernel
theorem dX12_pleasure_53 : decode cX12_pleasure 53 = .ok (.getfield 73, 3) := by decide +kernel
theorem dX12_pleasure_56 : decode cX12_pleasure 56 = .ok (.ifCond .le 7, 3) := by decide +kernel
theorem dX12_pleasure_59 : decode cX12_pleasure 59 = .ok (.iconst 0, 1) := by decide +kernel
theorem dX12_pleasure_60 : decode cX12_pleasure 60 = .ok (.goto 9, 3) := by decide +kernel
theorem dX12_pleasure_63 : decode cX12_pleasure 63 = .ok (.aload_n 0, 1) := by decide +kernel
theorem dX12_pleasure_64 : decode cX12_pleasure 64 = .ok (.iload_n 1, 1) := by decide +kernel
theorem dX12_pleasure_65 : decode cX12_pleasure 65 = .ok (.iload_n 2, 1) := by decide +kernel
theorem dX12_pleasure_66 : decode cX12_pleasure 66 = .ok (.invokevirtual 515, 3) := by decide +kernel
theorem dX12_pleasure_69 : decode cX12_pleasure 69 = .ok (.ireturn, 1) := by decide +kernel
theorem dX12_pleasure_7 : decode cX12_pleasure 7 = .ok (.ifCond .eq 12, 3) := by decide +kernel
theorem dX12_rather_0 : decode cX12_rather 0 = .ok (.iconst (-1), 1) := by decide +kernel
theorem dX12_rather_1 : decode cX12_rather 1 = .ok (.istore_n 2, 1) := by decide +kernel
theorem dX12_rather_12 : decode cX12_rather 12 = .ok (.istore_n 3, 1) := by decide +kernel
theorem dX12_rather_13 : decode cX12_rather 13 = .ok (.iconst 0, 1) := by decide +kernel
theorem dX12_rather_14 : decode cX12_rather 14 = .ok (.istore 4, 2) := by decide +kernel
theorem dX12_rather_16 : decode cX12_rather 16 = .ok (.iload 4, 2) := by decide +kernel
theorem dX12_rather_18 : decode cX12_rather 18 = .ok (.aload_n 0, 1) := by decide +kernel
theorem dX12_rather_19 : decode cX12_rather 19 = .ok (.invokevirtual 273, 3) := by decide +kernel
theorem dX12_rather_2 : decode cX12_rather 2 = .ok (.aload_n 0, 1) := by decide +kernel
theorem dX12_rather_22 : decode cX12_rather 22 = .ok (.if_icmp .ge 46, 3) := by decide +kernel
theorem dX12_rather_25 : decode cX12_rather 25 = .ok (.aload_n 0, 1) := by decide +kernel
theorem dX12_rather_26 : decode cX12_rather 26 = .ok (.iload_n 1, 1) := by decide +kernel
theorem dX12_rather_27 : decode cX12_rather 27 = .ok (.i2l, 1) := by decide +kernel
theorem dX12_rather_28 : decode cX12_rather 28 = .ok (.iload 4, 2) := by decide +kernel
theorem dX12_rather_3 : decode cX12_rather 3 = .ok (.iload_n 1, 1) := by decide +kernel
theorem dX12_rather_30 : decode cX12_rather 30 = .ok (.i2l, 1) := by decide +kernel
theorem dX12_rather_31 : decode cX12_rather 31 = .ok (.invokevirtual 378, 3) := by decide +kernel
theorem dX12_rather_34 : decode cX12_rather 34 = .ok (.ifCond .ne 28, 3) := by decide +kernel
theorem dX12_rather_37 : decode cX12_rather 37 = .ok (.aload_n 0, 1) := by decide +kernel
theorem dX12_rather_38 : decode cX12_rather 38 = .ok (.iload_n 1, 1) := by decide +kernel
theorem dX12_rather_39 : decode cX12_rather 39 = .ok (.iload 4, 2) := by decide +kernel
theorem dX12_rather_4 : decode cX12_rather 4 = .ok (.aload_n 0, 1) := by decide +kernel
theorem dX12_rather_41 : decode cX12_rather 41 = .ok (.invokevirtual 515, 3) := by decide +kernel
theorem dX12_rather_44 : decode cX12_rather 44 = .ok (.iload_n 3, 1) := by decide +kernel
theorem dX12_rather_45 : decode cX12_rather 45 = .ok (.if_icmp .gt 6, 3) := by decide +kernel
theorem dX12_rather_48 : decode cX12_rather 48 = .ok (.goto 14, 3) := by decide +kernel
theorem dX12_rather_5 : decode cX12_rather 5 = .ok (.iload_n 1, 1) := by decide +kernel
theorem dX12_rather_51 : decode cX12_rather 51 = .ok (.iload 4, 2) := by decide +kernel
theorem dX12_rather_53 : decode cX12_rather 53 = .ok (.istore_n 2, 1) := by decide +kernel
theorem dX12_rather_54 : decode cX12_rather 54 = .ok (.aload_n 0, 1) := by decide +kernel
theorem dX12_rather_55 : decode cX12_rather 55 = .ok (.iload_n 1, 1) := by decide +kernel
theorem dX12_rather_56 : decode cX12_rather 56 = .ok (.iload 4, 2) := by decide +kernel
theorem dX12_rather_58 : decode cX12_rather 58 = .ok (.invokevirtual 515, 3) := by decide +kernel
theorem dX12_rather_6 : decode cX12_rather 6 = .ok (.invokevirtual 317, 3) := by decide +kernel
theorem dX12_rather_61 : decode cX12_rather 61 = .ok (.istore_n 3, 1) := by decide +kernel
theorem dX12_rather_62 : decode cX12_rather 62 = .ok (.iinc 4 1, 3) := by decide +kernel
theorem dX12_rather_65 : decode cX12_rather 65 = .ok (.goto (-49), 3) := by decide +kernel
theorem dX12_rather_68 : decode cX12_rather 68 = .ok (.iload_n 2, 1) := by decide +kernel
theorem dX12_rather_69 : decode cX12_rather 69 = .ok (.ireturn, 1) := by decide +kernel
theorem dX12_rather_9 : decode cX12_rather 9 = .ok (.invokevirtual 515, 3) := by decide +kernel
theorem dX12_seats_0 : decode cX12_seats 0 = .ok (.aload_n 0, 1) := by decide +kernel
theorem dX12_seats_1 : decode cX12_seats 1 = .ok (.aload_n 0, 1) := by decide +kernel
theorem dX12_seats_10 : decode cX12_seats 10 = .ok (.getfield 73, 3) := by decide +kernel
theorem dX12_seats_101 : decode cX12_seats 101 = .ok (.iload 5, 2) := by decide +kernel
theorem dX12_seats_103 : decode cX12_seats 103 = .ok (.iconst (-1), 1) := by decide +kernel
theorem dX12_seats_104 : decode cX12_seats 104 = .ok (.iastore, 1) := by decide +kernel
theorem dX12_seats_105 : decode cX12_seats 105 = .ok (.iinc 5 1, 3) := by decide +kernel
theorem dX12_seats_108 : decode cX12_seats 108 = .ok (.goto (-18), 3) := by decide +kernel
theorem dX12_seats_111 : decode cX12_seats 111 = .ok (.iconst 0, 1) := by decide +kernel
theorem dX12_seats_112 : decode cX12_seats 112 = .ok (.istore 5, 2) := by decide +kernel
theorem dX12_seats_114 : decode cX12_seats 114 = .ok (.iconst 0, 1) := by decide +kernel
theorem dX12_seats_115 : decode cX12_seats 115 = .ok (.istore 6, 2) := by decide +kernel
theorem dX12_seats_117 : decode cX12_seats 117 = .ok (.iload 6, 2) := by decide +kernel
theorem dX12_seats_119 : decode cX12_seats 119 = .ok (.aload_n 0, 1) := by decide +kernel
theorem dX12_seats_120 : decode cX12_seats 120 = .ok (.getfield 66, 3) := by decide +kernel
theorem dX12_seats_123 : decode cX12_seats 123 = .ok (.iload_n 1, 1) := by decide +kernel
theorem dX12_seats_124 : decode cX12_seats 124 = .ok (.iaload, 1) := by decide +kernel
theorem dX12_seats_125 : decode cX12_seats 125 = .ok (.if_icmp .ge 97, 3) := by decide +kernel
theorem dX12_seats_128 : decode cX12_seats 128 = .ok (.aload_n 0, 1) := by decide +kernel
theorem dX12_seats_129 : decode cX12_seats 129 = .ok (.iload_n 1, 1) := by decide +kernel
theorem dX12_seats_13 : decode cX12_seats 13 = .ok (.ifCond .ne 45, 3) := by decide +kernel
theorem dX12_seats_130 : decode cX12_seats 130 = .ok (.iload 6, 2) := by decide +kernel
theorem dX12_seats_132 : decode cX12_seats 132 = .ok (.invokevirtual 495, 3) := by decide +kernel
theorem dX12_seats_135 : decode cX12_seats 135 = .ok (.istore 7, 2) := by decide +kernel
theorem dX12_seats_137 : decode cX12_seats 137 = .ok (.iconst 0, 1) := by decide +kernel
theorem dX12_seats_138 : decode cX12_seats 138 = .ok (.istore 8, 2) := by decide +kernel
theorem dX12_seats_140 : decode cX12_seats 140 = .ok (.iload 8, 2) := by decide +kernel
theorem dX12_seats_142 : decode cX12_seats 142 = .ok (.iload_n 2, 1) := by decide +kernel
theorem dX12_seats_143 : decode cX12_seats 143 = .ok (.if_icmp .ge 52, 3) := by decide +kernel
theorem dX12_seats_146 : decode cX12_seats 146 = .ok (.aload_n 0, 1) := by decide +kernel
theorem dX12_seats_147 : decode cX12_seats 147 = .ok (.getfield 54, 3) := by decide +kernel
theorem dX12_seats_150 : decode cX12_seats 150 = .ok (.iload 8, 2) := by decide +kernel
theorem dX12_seats_152 : decode cX12_seats 152 = .ok (.iaload, 1) := by decide +kernel
theorem dX12_seats_153 : decode cX12_seats 153 = .ok (.iconst (-1), 1) := by decide +kernel
theorem dX12_seats_154 : decode cX12_seats 154 = .ok (.if_icmp .ne 35, 3) := by decide +kernel
theorem dX12_seats_157 : decode cX12_seats 157 = .ok (.aload_n 0, 1) := by decide +kernel
theorem dX12_seats_158 : decode cX12_seats 158 = .ok (.iload 7, 2) := by decide +kernel
theorem dX12_seats_16 : decode cX12_seats 16 = .ok (.aload_n 0, 1) := by decide +kernel
theorem dX12_seats_160 : decode cX12_seats 160 = .ok (.iload 8, 2) := by decide +kernel
theorem dX12_seats_162 : decode cX12_seats 162 = .ok (.iconst 1, 1) := by decide +kernel
theorem dX12_seats_163 : decode cX12_seats 163 = .ok (.iadd, 1) := by decide +kernel
theorem dX12_seats_164 : decode cX12_seats 164 = .ok (.iload_n 2, 1) := by decide +kernel
theorem dX12_seats_165 : decode cX12_seats 165 = .ok (.irem, 1) := by decide +kernel
theorem dX12_seats_166 : decode cX12_seats 166 = .ok (.invokevirtual 512, 3) := by decide +kernel
theorem dX12_seats_169 : decode cX12_seats 169 = .ok (.ifCond .ne 20, 3) := by decide +kernel
theorem dX12_seats_17 : decode cX12_seats 17 = .ok (.iload_n 1, 1) := by decide +kernel
theorem dX12_seats_172 : decode cX12_seats 172 = .ok (.aload_n 0, 1) := by decide +kernel
theorem dX12_seats_173 : decode cX12_seats 173 = .ok (.iload 7, 2) := by decide +kernel
theorem dX12_seats_175 : decode cX12_seats 175 = .ok (.iload 8, 2) := by decide +kernel
theorem dX12_seats_177 : decode cX12_seats 177 = .ok (.iload_n 2, 1) := by decide +kernel
theorem dX12_seats_178 : decode cX12_seats 178 = .ok (.iadd, 1) := by decide +kernel
theorem dX12_seats_179 : decode cX12_seats 179 = .ok (.iconst 1, 1) := by decide +kernel
theorem dX12_seats_18 : decode cX12_seats 18 = .ok (.invokevirtual 492, 3) := by decide +kernel
theorem dX12_seats_180 : decode cX12_seats 180 = .ok (.isub, 1) := by decide +kernel
theorem dX12_seats_181 : decode cX12_seats 181 = .ok (.iload_n 2, 1) := by decide +kernel
theorem dX12_seats_182 : decode cX12_seats 182 = .ok (.irem, 1) := by decide +kernel
theorem dX12_seats_183 : decode cX12_seats 183 = .ok (.invokevirtual 512, 3) := by decide +kernel
theorem dX12_seats_186 : decode cX12_seats 186 = .ok (.ifCond .eq 9, 3) := by decide +kernel
theorem dX12_seats_189 : decode cX12_seats 189 = .ok (.iinc 8 1, 3) := by decide +kernel
theorem dX12_seats_192 : decode cX12_seats 192 = .ok (.goto (-52), 3) := by decide +kernel
theorem dX12_seats_195 : decode cX12_seats 195 = .ok (.iload 8, 2) := by decide +kernel
theorem dX12_seats_197 : decode cX12_seats 197 = .ok (.iload_n 2, 1) := by decide +kernel
theorem dX12_seats_198 : decode cX12_seats 198 = .ok (.if_icmp .ne 6, 3) := by decide +kernel
theorem dX12_seats_2 : decode cX12_seats 2 = .ok (.iload_n 1, 1) := by decide +kernel
theorem dX12_seats_201 : decode cX12_seats 201 = .ok (.goto 15, 3) := by decide +kernel
theorem dX12_seats_204 : decode cX12_seats 204 = .ok (.aload_n 0, 1) := by decide +kernel
theorem dX12_seats_205 : decode cX12_seats 205 = .ok (.getfield 54, 3) := by decide +kernel
theorem dX12_seats_208 : decode cX12_seats 208 = .ok (.iload 8, 2) := by decide +kernel
theorem dX12_seats_21 : decode cX12_seats 21 = .ok (.ifCond .eq 37, 3) := by decide +kernel
theorem dX12_seats_210 : decode cX12_seats 210 = .ok (.iload 7, 2) := by decide +kernel
theorem dX12_seats_212 : decode cX12_seats 212 = .ok (.iastore, 1) := by decide +kernel
theorem dX12_seats_213 : decode cX12_seats 213 = .ok (.iinc 5 1, 3) := by decide +kernel
theorem dX12_seats_216 : decode cX12_seats 216 = .ok (.iinc 6 1, 3) := by decide +kernel
theorem dX12_seats_219 : decode cX12_seats 219 = .ok (.goto (-102), 3) := by decide +kernel
theorem dX12_seats_222 : decode cX12_seats 222 = .ok (.iload_n 3, 1) := by decide +kernel
theorem dX12_seats_223 : decode cX12_seats 223 = .ok (.ifCond .ne 8, 3) := by decide +kernel
theorem dX12_seats_226 : decode cX12_seats 226 = .ok (.iload 5, 2) := by decide +kernel
theorem dX12_seats_228 : decode cX12_seats 228 = .ok (.goto 12, 3) := by decide +kernel
theorem dX12_seats_231 : decode cX12_seats 231 = .ok (.aload_n 0, 1) := by decide +kernel
theorem dX12_seats_232 : decode cX12_seats 232 = .ok (.getfield 54, 3) := by decide +kernel
theorem dX12_seats_235 : decode cX12_seats 235 = .ok (.iload_n 3, 1) := by decide +kernel
theorem dX12_seats_236 : decode cX12_seats 236 = .ok (.bipush 10, 2) := by decide +kernel
theorem dX12_seats_238 : decode cX12_seats 238 = .ok (.isub, 1) := by decide +kernel
theorem dX12_seats_239 : decode cX12_seats 239 = .ok (.iaload, 1) := by decide +kernel
theorem dX12_seats_24 : decode cX12_seats 24 = .ok (.iload_n 2, 1) := by decide +kernel
theorem dX12_seats_240 : decode cX12_seats 240 = .ok (.ireturn, 1) := by decide +kernel
theorem dX12_seats_25 : decode cX12_seats 25 = .ok (.i2l, 1) := by decide +kernel
theorem dX12_seats_26 : decode cX12_seats 26 = .ok (.lconst 1, 1) := by decide +kernel
theorem dX12_seats_27 : decode cX12_seats 27 = .ok (.ldc2_w 395, 3) := by decide +kernel
theorem dX12_seats_3 : decode cX12_seats 3 = .ok (.invokevirtual 401, 3) := by decide +kernel
theorem dX12_seats_30 : decode cX12_seats 30 = .ok (.invokestatic 137, 3) := by decide +kernel
theorem dX12_seats_33 : decode cX12_seats 33 = .ok (.ifCond .eq 25, 3) := by decide +kernel
theorem dX12_seats_36 : decode cX12_seats 36 = .ok (.iload_n 3, 1) := by decide +kernel
theorem dX12_seats_37 : decode cX12_seats 37 = .ok (.ifCond .eq 17, 3) := by decide +kernel
theorem dX12_seats_40 : decode cX12_seats 40 = .ok (.iload_n 3, 1) := by decide +kernel
theorem dX12_seats_41 : decode cX12_seats 41 = .ok (.i2l, 1) := by decide +kernel
theorem dX12_seats_42 : decode cX12_seats 42 = .ok (.ldc2_w 395, 3) := by decide +kernel
theorem dX12_seats_45 : decode cX12_seats 45 = .ok (.ldc2_w 510, 3) := by decide +kernel
theorem dX12_seats_48 : decode cX12_seats 48 = .ok (.invokestatic 137, 3) := by decide +kernel
theorem dX12_seats_51 : decode cX12_seats 51 = .ok (.ifCond .eq 7, 3) := by decide +kernel
theorem dX12_seats_54 : decode cX12_seats 54 = .ok (.iconst 1, 1) := by decide +kernel
theorem dX12_seats_55 : decode cX12_seats 55 = .ok (.goto 4, 3) := by decide +kernel
theorem dX12_seats_58 : decode cX12_seats 58 = .ok (.iconst 0, 1) := by decide +kernel
theorem dX12_seats_59 : decode cX12_seats 59 = .ok (.istore 4, 2) := by decide +kernel
theorem dX12_seats_6 : decode cX12_seats 6 = .ok (.putfield 73, 3) := by decide +kernel
theorem dX12_seats_61 : decode cX12_seats 61 = .ok (.aload_n 0, 1) := by decide +kernel
theorem dX12_seats_62 : decode cX12_seats 62 = .ok (.getfield 73, 3) := by decide +kernel
theorem dX12_seats_65 : decode cX12_seats 65 = .ok (.ifCond .ne 13, 3) := by decide +kernel
theorem dX12_seats_68 : decode cX12_seats 68 = .ok (.iload 4, 2) := by decide +kernel
theorem dX12_seats_70 : decode cX12_seats 70 = .ok (.ifCond .ne 8, 3) := by decide +kernel
theorem dX12_seats_73 : decode cX12_seats 73 = .ok (.aload_n 0, 1) := by decide +kernel
theorem dX12_seats_74 : decode cX12_seats 74 = .ok (.iconst 3, 1) := by decide +kernel
theorem dX12_seats_75 : decode cX12_seats 75 = .ok (.putfield 73, 3) := by decide +kernel
theorem dX12_seats_78 : decode cX12_seats 78 = .ok (.aload_n 0, 1) := by decide +kernel
theorem dX12_seats_79 : decode cX12_seats 79 = .ok (.getfield 73, 3) := by decide +kernel
theorem dX12_seats_82 : decode cX12_seats 82 = .ok (.ifCond .le 5, 3) := by decide +kernel
theorem dX12_seats_85 : decode cX12_seats 85 = .ok (.iconst 0, 1) := by decide +kernel
theorem dX12_seats_86 : decode cX12_seats 86 = .ok (.ireturn, 1) := by decide +kernel
theorem dX12_seats_87 : decode cX12_seats 87 = .ok (.iconst 0, 1) := by decide +kernel
theorem dX12_seats_88 : decode cX12_seats 88 = .ok (.istore 5, 2) := by decide +kernel
theorem dX12_seats_9 : decode cX12_seats 9 = .ok (.aload_n 0, 1) := by decide +kernel
theorem dX12_seats_90 : decode cX12_seats 90 = .ok (.iload 5, 2) := by decide +kernel
theorem dX12_seats_92 : decode cX12_seats 92 = .ok (.bipush 10, 2) := by decide +kernel
theorem dX12_seats_94 : decode cX12_seats 94 = .ok (.if_icmp .ge 17, 3) := by decide +kernel
theorem dX12_seats_97 : decode cX12_seats 97 = .ok (.aload_n 0, 1) := by decide +kernel
theorem dX12_seats_98 : decode cX12_seats 98 = .ok (.getfield 54, 3) := by decide +kernel
theorem dX12_toldThing_0 : decode cX12_toldThing 0 = .ok (.aload_n 0, 1) := by decide +kernel
theorem dX12_toldThing_1 : decode cX12_toldThing 1 = .ok (.getfield 69, 3) := by decide +kernel
theorem dX12_toldThing_10 : decode cX12_toldThing 10 = .ok (.laload, 1) := by decide +kernel
theorem dX12_toldThing_11 : decode cX12_toldThing 11 = .ok (.l2i, 1) := by decide +kernel
theorem dX12_toldThing_12 : decode cX12_toldThing 12 = .ok (.ireturn, 1) := by decide +kernel
theorem dX12_toldThing_4 : decode cX12_toldThing 4 = .ok (.bipush 30, 2) := by decide +kernel
theorem dX12_toldThing_6 : decode cX12_toldThing 6 = .ok (.iload_n 1, 1) := by decide +kernel
theorem dX12_toldThing_7 : decode cX12_toldThing 7 = .ok (.imul, 1) := by decide +kernel
theorem dX12_toldThing_8 : decode cX12_toldThing 8 = .ok (.iload_n 2, 1) := by decide +kernel
theorem dX12_toldThing_9 : decode cX12_toldThing 9 = .ok (.iadd, 1) := by decide +kernel
theorem dX12_wave_0 : decode cX12_wave 0 = .ok (.aload_n 0, 1) := by decide +kernel
theorem dX12_wave_1 : decode cX12_wave 1 = .ok (.iconst 0, 1) := by decide +kernel
theorem dX12_wave_11 : decode cX12_wave 11 = .ok (.invokestatic 137, 3) := by decide +kernel
theorem dX12_wave_14 : decode cX12_wave 14 = .ok (.ifCond .ne 9, 3) := by decide +kernel
theorem dX12_wave_17 : decode cX12_wave 17 = .ok (.aload_n 0, 1) := by decide +kernel
theorem dX12_wave_18 : decode cX12_wave 18 = .ok (.iconst 1, 1) := by decide +kernel
theorem dX12_wave_19 : decode cX12_wave 19 = .ok (.invokevirtual 262, 3) := by decide +kernel
theorem dX12_wave_2 : decode cX12_wave 2 = .ok (.putfield 73, 3) := by decide +kernel
theorem dX12_wave_22 : decode cX12_wave 22 = .ok (.ireturn, 1) := by decide +kernel
theorem dX12_wave_23 : decode cX12_wave 23 = .ok (.aload_n 0, 1) := by decide +kernel
theorem dX12_wave_24 : decode cX12_wave 24 = .ok (.invokevirtual 406, 3) := by decide +kernel
theorem dX12_wave_27 : decode cX12_wave 27 = .ok (.aload_n 0, 1) := by decide +kernel
theorem dX12_wave_28 : decode cX12_wave 28 = .ok (.invokevirtual 478, 3) := by decide +kernel
theorem dX12_wave_31 : decode cX12_wave 31 = .ok (.aload_n 0, 1) := by decide +kernel
theorem dX12_wave_32 : decode cX12_wave 32 = .ok (.getfield 9, 3) := by decide +kernel
theorem dX12_wave_35 : decode cX12_wave 35 = .ok (.bipush 24, 2) := by decide +kernel
theorem dX12_wave_37 : decode cX12_wave 37 = .ok (.iaload, 1) := by decide +kernel
theorem dX12_wave_38 : decode cX12_wave 38 = .ok (.istore_n 2, 1) := by decide +kernel
theorem dX12_wave_39 : decode cX12_wave 39 = .ok (.aload_n 0, 1) := by decide +kernel
theorem dX12_wave_40 : decode cX12_wave 40 = .ok (.invokevirtual 352, 3) := by decide +kernel
theorem dX12_wave_43 : decode cX12_wave 43 = .ok (.istore_n 3, 1) := by decide +kernel
theorem dX12_wave_44 : decode cX12_wave 44 = .ok (.aload_n 0, 1) := by decide +kernel
theorem dX12_wave_45 : decode cX12_wave 45 = .ok (.invokevirtual 415, 3) := by decide +kernel
theorem dX12_wave_48 : decode cX12_wave 48 = .ok (.iload_n 1, 1) := by decide +kernel
theorem dX12_wave_49 : decode cX12_wave 49 = .ok (.ifCond .ne 10, 3) := by decide +kernel
theorem dX12_wave_5 : decode cX12_wave 5 = .ok (.iload_n 1, 1) := by decide +kernel
theorem dX12_wave_52 : decode cX12_wave 52 = .ok (.aload_n 0, 1) := by decide +kernel
theorem dX12_wave_53 : decode cX12_wave 53 = .ok (.getfield 472, 3) := by decide +kernel
theorem dX12_wave_56 : decode cX12_wave 56 = .ok (.goto 21, 3) := by decide +kernel
theorem dX12_wave_59 : decode cX12_wave 59 = .ok (.iload_n 1, 1) := by decide +kernel
theorem dX12_wave_6 : decode cX12_wave 6 = .ok (.i2l, 1) := by decide +kernel
theorem dX12_wave_60 : decode cX12_wave 60 = .ok (.iconst 1, 1) := by decide +kernel
theorem dX12_wave_61 : decode cX12_wave 61 = .ok (.if_icmp .ne 15, 3) := by decide +kernel
theorem dX12_wave_64 : decode cX12_wave 64 = .ok (.iload_n 2, 1) := by decide +kernel
theorem dX12_wave_65 : decode cX12_wave 65 = .ok (.aload_n 0, 1) := by decide +kernel
theorem dX12_wave_66 : decode cX12_wave 66 = .ok (.getfield 9, 3) := by decide +kernel
theorem dX12_wave_69 : decode cX12_wave 69 = .ok (.bipush 24, 2) := by decide +kernel
theorem dX12_wave_7 : decode cX12_wave 7 = .ok (.lconst 0, 1) := by decide +kernel
theorem dX12_wave_71 : decode cX12_wave 71 = .ok (.iaload, 1) := by decide +kernel
theorem dX12_wave_72 : decode cX12_wave 72 = .ok (.isub, 1) := by decide +kernel
theorem dX12_wave_73 : decode cX12_wave 73 = .ok (.goto 4, 3) := by decide +kernel
theorem dX12_wave_76 : decode cX12_wave 76 = .ok (.iload_n 3, 1) := by decide +kernel
theorem dX12_wave_77 : decode cX12_wave 77 = .ok (.ireturn, 1) := by decide +kernel
theorem dX12_wave_8 : decode cX12_wave 8 = .ok (.ldc2_w 344, 3) := by decide +kernel
set_option maxRecDepth 4000 in
theorem k_X12_flip (l : Launch) (M : Mem) (hJ : Iw M) (x0 : Int) (hx0a : 0 ≤ x0) (hx0b : x0 ≤ 7) : CV l yX12_flip cX12_flip 2 none 1 (fun ad => [.ref (ad 131), ii x0]) M (fun M' => Fr [132] M M') := by
  obtain ⟨hI, hW⟩ := hJ
  have hF : Fr [132] M M := Fr.rf
  refine en_v (by decide +kernel) (fun ad => by exact Nat.le_of_ble_eq_true rfl) (fun D cy ad A p e s m args below meth c Q F hret => ?_)
  refine z_eq (ls' := [(0, .ref (ad 131)), (1, ii x0)]) rfl rfl rfl ?_
  refine z_aload_n F dX12_flip_0 rfl (q := 0) rfl ?_
  refine rf_X12_9 F gs_131 rfl dX12_flip_1 ?_
  refine z_bipush F dX12_flip_4 (by decide +kernel) ?_
  refine z_iload_n F dX12_flip_6 rfl (q := 1) rfl ?_
  refine z_iadd F dX12_flip_7 ?_
  refine z_dup2 F dX12_flip_8 rfl rfl ?_
  refine z_iald F hI gs_132 (by omega) (by omega) (by decide) (bd_132.trans (kn_any (by omega) (by omega))) dX12_flip_9 (fun v1 (ev1 : v1 = M 132 _) av1 bv1 => ?_)
  refine z_aload_n F dX12_flip_10 rfl (q := 0) rfl ?_
  refine rf_X12_9 F gs_131 rfl dX12_flip_11 ?_
  refine z_bipush F dX12_flip_14 (by decide +kernel) ?_
  refine z_iload_n F dX12_flip_16 rfl (q := 1) rfl ?_
  refine z_iadd F dX12_flip_17 ?_
  refine z_iald F hI gs_132 (by omega) (by omega) (by decide) (bd_132.trans (kn_any (by omega) (by omega))) dX12_flip_18 (fun v2 (ev2 : v2 = M 132 _) av2 bv2 => ?_)
  have zv2 : v1 = v2 := ev1.trans ev2.symm
  subst zv2
  refine z_bipush F dX12_flip_19 (by decide +kernel) ?_
  refine z_icmp_ne (tgt := 28) F dX12_flip_21 (by decide +kernel) (by omega) (by omega) (fun c3 => ?_) (fun c3 => ?_)
  · refine z_iconst F dX12_flip_28 ?_
    refine z_iadd F dX12_flip_29 ?_
    refine z_wrap (fun v4 rv4 wv4 => ?_)
    refine z_iast F hI gs_132 (by omega) (by omega) (by decide) (bd_132.trans (kn_any (by omega) (by omega))) dX12_flip_30 (by omega) (by omega) (fun M6 hI sf5 f5 => ?_)
    have hF := hF.wrk f5 (by decide) (by omega)
    have hW : WFk M6 := hW.known f5 (by omega)
    exact hret _ 31 _ ⟨hI, hW⟩ hF dX12_flip_31
  · refine z_iconst F dX12_flip_24 ?_
    refine z_goto (tgt := 29) F dX12_flip_25 (by decide +kernel) ?_
    refine z_iadd F dX12_flip_29 ?_
    refine z_nm (fun v8 ev8 => ?_)
    refine z_iast F hI gs_132 (by omega) (by omega) (by decide) (bd_132.trans (kn_any (by omega) (by omega))) dX12_flip_30 (by omega) (by omega) (fun M9 hI sf7 f7 => ?_)
    have hF := hF.wrk f7 (by decide) (by omega)
    have hW : WFk M9 := hW.known f7 (by omega)
    exact hret _ 31 _ ⟨hI, hW⟩ hF dX12_flip_31
set_option maxRecDepth 4000 in
theorem k_X12_flipsOf (l : Launch) (M : Mem) (hJ : Iw M) : CI l yX12_flipsOf cX12_flipsOf 4 (some .int) 7 (fun ad => [.ref (ad 131)]) M (fun z M' => ((-1) ≤ z ∧ z ≤ 2147483647) ∧ Fr [132, 137, 138] M M') := by
  obtain ⟨hI, hW⟩ := hJ
  have hF : Fr [132, 137, 138] M M := Fr.rf
  refine en_i (by decide +kernel) (fun ad => by exact Nat.le_of_ble_eq_true rfl) (fun D cy ad A p e s m args below meth c Q F hret => ?_)
  refine z_eq (ls' := [(0, .ref (ad 131))]) rfl rfl rfl ?_
  refine z_aload_n F dX12_flipsOf_0 rfl (q := 0) rfl ?_
  refine zv_v (rest := []) F (k_X12_putsAside l M ⟨hI, hW⟩) cs_X12_406 (T := TX12) (N := 44) (ci := 12) rfl gs_131 (by decide) (by decide) rfl rfl rfl (Nat.le_of_ble_eq_true rfl) dX12_flipsOf_1 (fun M1 hI p2 => ?_)
  obtain ⟨hI, hW⟩ := hI
  have fp2 := p2
  have hF := hF.call fp2 (by decide)
  refine z_iconst F dX12_flipsOf_4 ?_
  refine z_istore_n F dX12_flipsOf_5 rfl (by decide) (ls' := [(1, ii (-1)), (0, .ref (ad 131))]) rfl ?_
  refine z_iconst F dX12_flipsOf_6 ?_
  refine z_istore_n F dX12_flipsOf_7 rfl (by decide) (ls' := [(2, ii 0), (1, ii (-1)), (0, .ref (ad 131))]) rfl ?_
  refine z_loc [2, 1, 0] (ls' := [(0, .ref (ad 131)), (1, ii (-1)), (2, ii 0)]) rfl ?_
  suffices key8 : ∀ (n : Nat) (y4 : Int) (y5 : Int) (M3 : Mem), Inv M3 → WFk M3 → Fr [132, 137, 138] M M3 → (-1) ≤ y4 → y4 ≤ 2147483647 → 0 ≤ y5 → y5 ≤ 256 → 256 - y5 < (n : Int) → Z D cy ad p l e (RMh 7) s m args below meth c A 4 0 0 Q 8 [(0, .ref (ad 131)), (1, ii y4), (2, ii y5)] [] M3 from key8 257 (-1) 0 M1 hI hW hF (by omega) (by omega) (by omega) (by omega) (by omega)
  intro n8
  induction n8 with
  | zero => intro y4 y5 M3 hI hW hF ay4 by4 ay5 by5 hn8; exfalso; omega
  | succ n8 ih8 =>
    intro y4 y5 M3 hI hW hF ay4 by4 ay5 by5 hn8
    refine z_iload_n F dX12_flipsOf_8 rfl (q := 2) rfl ?_
    refine z_iconst F dX12_flipsOf_9 ?_
    refine z_aload_n F dX12_flipsOf_10 rfl (q := 0) rfl ?_
    refine zv_i (rest := [ii 1, ii y5]) F (k_X12_things l M3 ⟨hI, hW⟩) cs_X12_275 (T := TX12) (N := 44) (ci := 12) rfl gs_131 (by decide) (by decide) rfl rfl rfl (Nat.le_of_ble_eq_true rfl) dX12_flipsOf_11 (fun v6 M7 rv6 hI p8 => ?_)
    obtain ⟨hI, hW⟩ := hI
    obtain ⟨⟨av6, bv6⟩, rfl, xp8⟩ := p8
    refine z_shl1 (k := 8) F dX12_flipsOf_14 (by decide) (by omega) (by omega) (fun v9 ev9 av9 bv9 => ?_)
    refine z_icmp_ge (tgt := 86) F dX12_flipsOf_15 (by decide +kernel) (by omega) (by omega) (fun c10 => ?_) (fun c10 => ?_)
    · refine z_iload_n F dX12_flipsOf_86 rfl (q := 1) rfl ?_
      exact hret _ _ 87 _ (by omega) ⟨hI, hW⟩ ⟨⟨by omega, by omega⟩, hF⟩ dX12_flipsOf_87
    · refine z_iload_n F dX12_flipsOf_18 rfl (q := 1) rfl ?_
      refine z_iconst F dX12_flipsOf_19 ?_
      refine z_icmp_eq (tgt := 37) F dX12_flipsOf_20 (by decide +kernel) (by omega) (by omega) (fun c11 => ?_) (fun c11 => ?_)
      · refine z_iconst F dX12_flipsOf_37 ?_
        refine z_istore_n F dX12_flipsOf_38 rfl (by decide) (ls' := [(3, ii 0), (0, .ref (ad 131)), (1, ii y4), (2, ii y5)]) rfl ?_
        refine z_loc [1, 2, 3, 0] (ls' := [(0, .ref (ad 131)), (1, ii y4), (2, ii y5), (3, ii 0)]) rfl ?_
        suffices key39 : ∀ (n : Nat) (y13 : Int) (M12 : Mem), Inv M12 → WFk M12 → Fr [132, 137, 138] M M12 → 0 ≤ y13 → y13 ≤ 8 → 8 - y13 < (n : Int) → Z D cy ad p l e (RMh 7) s m args below meth c A 4 0 0 Q 39 [(0, .ref (ad 131)), (1, ii y4), (2, ii y5), (3, ii y13)] [] M12 from key39 9 0 M3 hI hW hF (by omega) (by omega) (by omega)
        intro n39
        induction n39 with
        | zero => intro y13 M12 hI hW hF ay13 by13 hn39; exfalso; omega
        | succ n39 ih39 =>
          intro y13 M12 hI hW hF ay13 by13 hn39
          refine z_iload_n F dX12_flipsOf_39 rfl (q := 3) rfl ?_
          refine z_aload_n F dX12_flipsOf_40 rfl (q := 0) rfl ?_
          refine zv_i (rest := [ii y13]) F (k_X12_things l M12 ⟨hI, hW⟩) cs_X12_275 (T := TX12) (N := 44) (ci := 12) rfl gs_131 (by decide) (by decide) rfl rfl rfl (Nat.le_of_ble_eq_true rfl) dX12_flipsOf_41 (fun v14 M15 rv14 hI p16 => ?_)
          obtain ⟨hI, hW⟩ := hI
          obtain ⟨⟨av14, bv14⟩, rfl, xp16⟩ := p16
          refine z_icmp_ge (tgt := 66) F dX12_flipsOf_44 (by decide +kernel) (by omega) (by omega) (fun c17 => ?_) (fun c17 => ?_)
          · refine z_aload_n F dX12_flipsOf_66 rfl (q := 0) rfl ?_
            refine zv_i (rest := []) F (k_X12_firstOf l M12 ⟨hI, hW⟩) cs_X12_355 (T := TX12) (N := 44) (ci := 12) rfl gs_131 (by decide) (by decide) rfl rfl rfl (Nat.le_of_ble_eq_true rfl) dX12_flipsOf_67 (fun v18 M19 rv18 hI p20 => ?_)
            obtain ⟨hI, hW⟩ := hI
            obtain ⟨⟨av18, bv18⟩, fp20, xp20⟩ := p20
            have hF := hF.call fp20 (by decide)
            refine z_iconst F dX12_flipsOf_70 ?_
            refine z_icmp_ne (tgt := 76) F dX12_flipsOf_71 (by decide +kernel) (by omega) (by omega) (fun c21 => ?_) (fun c21 => ?_)
            · refine z_aload_n F dX12_flipsOf_76 rfl (q := 0) rfl ?_
              refine zv_v (rest := []) F (k_X12_putsBack l M19 ⟨hI, hW⟩) cs_X12_415 (T := TX12) (N := 44) (ci := 12) rfl gs_131 (by decide) (by decide) rfl rfl rfl (Nat.le_of_ble_eq_true rfl) dX12_flipsOf_77 (fun M22 hI p23 => ?_)
              obtain ⟨hI, hW⟩ := hI
              have fp23 := p23
              have hF := hF.call fp23 (by decide)
              refine z_iincN F dX12_flipsOf_80 (q := 2) rfl (by decide) (fun v24 ev24 => ?_)
              refine z_eq (ls' := [(2, ii v24), (0, .ref (ad 131)), (1, ii y4), (3, ii y13)]) rfl rfl rfl ?_
              refine z_goto (tgt := 8) F dX12_flipsOf_83 (by decide +kernel) ?_
              refine z_loc [1, 2, 0] (ls' := [(0, .ref (ad 131)), (1, ii y4), (2, ii v24)]) rfl ?_
              exact ih8 y4 v24 M22 hI hW hF (by omega) (by omega) (by omega) (by omega) (by omega)
            · refine z_iload_n F dX12_flipsOf_74 rfl (q := 2) rfl ?_
              refine z_istore_n F dX12_flipsOf_75 rfl (by decide) (ls' := [(1, ii y5), (0, .ref (ad 131)), (2, ii y5), (3, ii y13)]) rfl ?_
              refine z_aload_n F dX12_flipsOf_76 rfl (q := 1) rfl ?_
              refine zv_v (rest := []) F (k_X12_putsBack l M19 ⟨hI, hW⟩) cs_X12_415 (T := TX12) (N := 44) (ci := 12) rfl gs_131 (by decide) (by decide) rfl rfl rfl (Nat.le_of_ble_eq_true rfl) dX12_flipsOf_77 (fun M25 hI p26 => ?_)
              obtain ⟨hI, hW⟩ := hI
              have fp26 := p26
              have hF := hF.call fp26 (by decide)
              refine z_iincN F dX12_flipsOf_80 (q := 2) rfl (by decide) (fun v27 ev27 => ?_)
              refine z_eq (ls' := [(2, ii v27), (1, ii y5), (0, .ref (ad 131)), (3, ii y13)]) rfl rfl rfl ?_
              refine z_goto (tgt := 8) F dX12_flipsOf_83 (by decide +kernel) ?_
              refine z_loc [2, 1, 0] (ls' := [(0, .ref (ad 131)), (1, ii y5), (2, ii v27)]) rfl ?_
              exact ih8 y5 v27 M25 hI hW hF (by omega) (by omega) (by omega) (by omega) (by omega)
          · refine z_iload_n F dX12_flipsOf_47 rfl (q := 2) rfl ?_
            refine z_iload_n F dX12_flipsOf_48 rfl (q := 3) rfl ?_
            refine zs_i (rest := []) F (k_X12_has l M12 ⟨hI, hW⟩ y5 (by omega) (by omega) y13 (by omega) (by omega)) cs_X12_346 (by decide) (by decide) rfl rfl rfl (Nat.le_of_ble_eq_true rfl) dX12_flipsOf_49 (fun v28 M29 rv28 hI p30 => ?_)
            obtain ⟨hI, hW⟩ := hI
            obtain ⟨⟨av28, bv28⟩, rfl, xp30⟩ := p30
            have hbqy13 := xp30
            refine z_if_eq (tgt := 60) F dX12_flipsOf_52 (by decide +kernel) (by omega) (fun c31 => ?_) (fun c31 => ?_)
            · refine z_iincN F dX12_flipsOf_60 (q := 3) rfl (by decide) (fun v32 ev32 => ?_)
              refine z_eq (ls' := [(3, ii v32), (0, .ref (ad 131)), (1, ii y4), (2, ii y5)]) rfl rfl rfl ?_
              refine z_goto (tgt := 39) F dX12_flipsOf_63 (by decide +kernel) ?_
              refine z_loc [1, 2, 3, 0] (ls' := [(0, .ref (ad 131)), (1, ii y4), (2, ii y5), (3, ii v32)]) rfl ?_
              exact ih39 v32 M12 hI hW hF (by omega) (by omega) (by omega)
            · refine z_aload_n F dX12_flipsOf_55 rfl (q := 0) rfl ?_
              refine z_iload_n F dX12_flipsOf_56 rfl (q := 3) rfl ?_
              refine zv_v (rest := []) F (k_X12_flip l M12 ⟨hI, hW⟩ y13 (by omega) (by omega)) cs_X12_460 (T := TX12) (N := 44) (ci := 12) rfl gs_131 (by decide) (by decide) rfl rfl rfl (Nat.le_of_ble_eq_true rfl) dX12_flipsOf_57 (fun M33 hI p34 => ?_)
              obtain ⟨hI, hW⟩ := hI
              have fp34 := p34
              have hF := hF.call fp34 (by decide)
              refine z_iincN F dX12_flipsOf_60 (q := 3) rfl (by decide) (fun v35 ev35 => ?_)
              refine z_eq (ls' := [(3, ii v35), (0, .ref (ad 131)), (1, ii y4), (2, ii y5)]) rfl rfl rfl ?_
              refine z_goto (tgt := 39) F dX12_flipsOf_63 (by decide +kernel) ?_
              refine z_loc [1, 2, 3, 0] (ls' := [(0, .ref (ad 131)), (1, ii y4), (2, ii y5), (3, ii v35)]) rfl ?_
              exact ih39 v35 M33 hI hW hF (by omega) (by omega) (by omega)
      · refine z_iload_n F dX12_flipsOf_23 rfl (q := 2) rfl ?_
        refine zs_i (rest := []) F (k_X12_size l M3 ⟨hI, hW⟩ y5 (by omega) (by omega)) cs_X12_332 (by decide) (by decide) rfl rfl rfl (Nat.le_of_ble_eq_true rfl) dX12_flipsOf_24 (fun v36 M37 rv36 hI p38 => ?_)
        obtain ⟨hI, hW⟩ := hI
        obtain ⟨⟨av36, bv36⟩, rfl, xp38, yp38⟩ := p38
        refine z_iload_n F dX12_flipsOf_27 rfl (q := 1) rfl ?_
        refine zs_i (rest := [ii v36]) F (k_X12_size l M3 ⟨hI, hW⟩ y4 (by omega) (by omega)) cs_X12_332 (by decide) (by decide) rfl rfl rfl (Nat.le_of_ble_eq_true rfl) dX12_flipsOf_28 (fun v39 M40 rv39 hI p41 => ?_)
        obtain ⟨hI, hW⟩ := hI
        obtain ⟨⟨av39, bv39⟩, rfl, xp41, yp41⟩ := p41
        refine z_icmp_lt (tgt := 37) F dX12_flipsOf_31 (by decide +kernel) (by omega) (by omega) (fun c42 => ?_) (fun c42 => ?_)
        · refine z_iconst F dX12_flipsOf_37 ?_
          refine z_istore_n F dX12_flipsOf_38 rfl (by decide) (ls' := [(3, ii 0), (0, .ref (ad 131)), (1, ii y4), (2, ii y5)]) rfl ?_
          refine z_loc [1, 2, 3, 0] (ls' := [(0, .ref (ad 131)), (1, ii y4), (2, ii y5), (3, ii 0)]) rfl ?_
          suffices key39 : ∀ (n : Nat) (y44 : Int) (M43 : Mem), Inv M43 → WFk M43 → Fr [132, 137, 138] M M43 → 0 ≤ y44 → y44 ≤ 8 → 8 - y44 < (n : Int) → Z D cy ad p l e (RMh 7) s m args below meth c A 4 0 0 Q 39 [(0, .ref (ad 131)), (1, ii y4), (2, ii y5), (3, ii y44)] [] M43 from key39 9 0 M3 hI hW hF (by omega) (by omega) (by omega)
          intro n39
          induction n39 with
          | zero => intro y44 M43 hI hW hF ay44 by44 hn39; exfalso; omega
          | succ n39 ih39 =>
            intro y44 M43 hI hW hF ay44 by44 hn39
            refine z_iload_n F dX12_flipsOf_39 rfl (q := 3) rfl ?_
            refine z_aload_n F dX12_flipsOf_40 rfl (q := 0) rfl ?_
            refine zv_i (rest := [ii y44]) F (k_X12_things l M43 ⟨hI, hW⟩) cs_X12_275 (T := TX12) (N := 44) (ci := 12) rfl gs_131 (by decide) (by decide) rfl rfl rfl (Nat.le_of_ble_eq_true rfl) dX12_flipsOf_41 (fun v45 M46 rv45 hI p47 => ?_)
            obtain ⟨hI, hW⟩ := hI
            obtain ⟨⟨av45, bv45⟩, rfl, xp47⟩ := p47
            refine z_icmp_ge (tgt := 66) F dX12_flipsOf_44 (by decide +kernel) (by omega) (by omega) (fun c48 => ?_) (fun c48 => ?_)
            · refine z_aload_n F dX12_flipsOf_66 rfl (q := 0) rfl ?_
              refine zv_i (rest := []) F (k_X12_firstOf l M43 ⟨hI, hW⟩) cs_X12_355 (T := TX12) (N := 44) (ci := 12) rfl gs_131 (by decide) (by decide) rfl rfl rfl (Nat.le_of_ble_eq_true rfl) dX12_flipsOf_67 (fun v49 M50 rv49 hI p51 => ?_)
              obtain ⟨hI, hW⟩ := hI
              obtain ⟨⟨av49, bv49⟩, fp51, xp51⟩ := p51
              have hF := hF.call fp51 (by decide)
              refine z_iconst F dX12_flipsOf_70 ?_
              refine z_icmp_ne (tgt := 76) F dX12_flipsOf_71 (by decide +kernel) (by omega) (by omega) (fun c52 => ?_) (fun c52 => ?_)
              · refine z_aload_n F dX12_flipsOf_76 rfl (q := 0) rfl ?_
                refine zv_v (rest := []) F (k_X12_putsBack l M50 ⟨hI, hW⟩) cs_X12_415 (T := TX12) (N := 44) (ci := 12) rfl gs_131 (by decide) (by decide) rfl rfl rfl (Nat.le_of_ble_eq_true rfl) dX12_flipsOf_77 (fun M53 hI p54 => ?_)
                obtain ⟨hI, hW⟩ := hI
                have fp54 := p54
                have hF := hF.call fp54 (by decide)
                refine z_iincN F dX12_flipsOf_80 (q := 2) rfl (by decide) (fun v55 ev55 => ?_)
                refine z_eq (ls' := [(2, ii v55), (0, .ref (ad 131)), (1, ii y4), (3, ii y44)]) rfl rfl rfl ?_
                refine z_goto (tgt := 8) F dX12_flipsOf_83 (by decide +kernel) ?_
                refine z_loc [1, 2, 0] (ls' := [(0, .ref (ad 131)), (1, ii y4), (2, ii v55)]) rfl ?_
                exact ih8 y4 v55 M53 hI hW hF (by omega) (by omega) (by omega) (by omega) (by omega)
              · refine z_iload_n F dX12_flipsOf_74 rfl (q := 2) rfl ?_
                refine z_istore_n F dX12_flipsOf_75 rfl (by decide) (ls' := [(1, ii y5), (0, .ref (ad 131)), (2, ii y5), (3, ii y44)]) rfl ?_
                refine z_aload_n F dX12_flipsOf_76 rfl (q := 1) rfl ?_
                refine zv_v (rest := []) F (k_X12_putsBack l M50 ⟨hI, hW⟩) cs_X12_415 (T := TX12) (N := 44) (ci := 12) rfl gs_131 (by decide) (by decide) rfl rfl rfl (Nat.le_of_ble_eq_true rfl) dX12_flipsOf_77 (fun M56 hI p57 => ?_)
                obtain ⟨hI, hW⟩ := hI
                have fp57 := p57
                have hF := hF.call fp57 (by decide)
                refine z_iincN F dX12_flipsOf_80 (q := 2) rfl (by decide) (fun v58 ev58 => ?_)
                refine z_eq (ls' := [(2, ii v58), (1, ii y5), (0, .ref (ad 131)), (3, ii y44)]) rfl rfl rfl ?_
                refine z_goto (tgt := 8) F dX12_flipsOf_83 (by decide +kernel) ?_
                refine z_loc [2, 1, 0] (ls' := [(0, .ref (ad 131)), (1, ii y5), (2, ii v58)]) rfl ?_
                exact ih8 y5 v58 M56 hI hW hF (by omega) (by omega) (by omega) (by omega) (by omega)
            · refine z_iload_n F dX12_flipsOf_47 rfl (q := 2) rfl ?_
              refine z_iload_n F dX12_flipsOf_48 rfl (q := 3) rfl ?_
              refine zs_i (rest := []) F (k_X12_has l M43 ⟨hI, hW⟩ y5 (by omega) (by omega) y44 (by omega) (by omega)) cs_X12_346 (by decide) (by decide) rfl rfl rfl (Nat.le_of_ble_eq_true rfl) dX12_flipsOf_49 (fun v59 M60 rv59 hI p61 => ?_)
              obtain ⟨hI, hW⟩ := hI
              obtain ⟨⟨av59, bv59⟩, rfl, xp61⟩ := p61
              have hbqy44 := xp61
              refine z_if_eq (tgt := 60) F dX12_flipsOf_52 (by decide +kernel) (by omega) (fun c62 => ?_) (fun c62 => ?_)
              · refine z_iincN F dX12_flipsOf_60 (q := 3) rfl (by decide) (fun v63 ev63 => ?_)
                refine z_eq (ls' := [(3, ii v63), (0, .ref (ad 131)), (1, ii y4), (2, ii y5)]) rfl rfl rfl ?_
                refine z_goto (tgt := 39) F dX12_flipsOf_63 (by decide +kernel) ?_
                refine z_loc [1, 2, 3, 0] (ls' := [(0, .ref (ad 131)), (1, ii y4), (2, ii y5), (3, ii v63)]) rfl ?_
                exact ih39 v63 M43 hI hW hF (by omega) (by omega) (by omega)
              · refine z_aload_n F dX12_flipsOf_55 rfl (q := 0) rfl ?_
                refine z_iload_n F dX12_flipsOf_56 rfl (q := 3) rfl ?_
                refine zv_v (rest := []) F (k_X12_flip l M43 ⟨hI, hW⟩ y44 (by omega) (by omega)) cs_X12_460 (T := TX12) (N := 44) (ci := 12) rfl gs_131 (by decide) (by decide) rfl rfl rfl (Nat.le_of_ble_eq_true rfl) dX12_flipsOf_57 (fun M64 hI p65 => ?_)
                obtain ⟨hI, hW⟩ := hI
                have fp65 := p65
                have hF := hF.call fp65 (by decide)
                refine z_iincN F dX12_flipsOf_60 (q := 3) rfl (by decide) (fun v66 ev66 => ?_)
                refine z_eq (ls' := [(3, ii v66), (0, .ref (ad 131)), (1, ii y4), (2, ii y5)]) rfl rfl rfl ?_
                refine z_goto (tgt := 39) F dX12_flipsOf_63 (by decide +kernel) ?_
                refine z_loc [1, 2, 3, 0] (ls' := [(0, .ref (ad 131)), (1, ii y4), (2, ii y5), (3, ii v66)]) rfl ?_
                exact ih39 v66 M64 hI hW hF (by omega) (by omega) (by omega)
        · refine z_goto (tgt := 80) F dX12_flipsOf_34 (by decide +kernel) ?_
          refine z_iincN F dX12_flipsOf_80 (q := 2) rfl (by decide) (fun v67 ev67 => ?_)
          refine z_eq (ls' := [(2, ii v67), (0, .ref (ad 131)), (1, ii y4)]) rfl rfl rfl ?_
          refine z_goto (tgt := 8) F dX12_flipsOf_83 (by decide +kernel) ?_
          refine z_loc [1, 2, 0] (ls' := [(0, .ref (ad 131)), (1, ii y4), (2, ii v67)]) rfl ?_
          exact ih8 y4 v67 M3 hI hW hF (by omega) (by omega) (by omega) (by omega) (by omega)
set_option maxRecDepth 4000 in
theorem k_X12_flips (l : Launch) (M : Mem) (hJ : Iw M) (x0 : Int) (hx0a : (-2147483648) ≤ x0) (hx0b : x0 ≤ 2147483647) : CI l yX12_flips cX12_flips 3 (some .int) 8 (fun ad => [.ref (ad 131), ii x0]) M (fun z M' => ((-2147483648) ≤ z ∧ z ≤ 2147483647) ∧ Fr [131, 132, 137, 138] M M') := by
  obtain ⟨hI, hW⟩ := hJ
  have hF : Fr [131, 132, 137, 138] M M := Fr.rf
  refine en_i (by decide +kernel) (fun ad => by exact Nat.le_of_ble_eq_true rfl) (fun D cy ad A p e s m args below meth c Q F hret => ?_)
  refine z_eq (ls' := [(0, .ref (ad 131)), (1, ii x0)]) rfl rfl rfl ?_
  refine z_aload_n F dX12_flips_0 rfl (q := 0) rfl ?_
  refine z_iconst F dX12_flips_1 ?_
  refine pf_X12_73 F hI gs_131 rfl bd_131_4 rfl rfl dX12_flips_2 (by omega) (by omega) (fun M2 hI sf1 f1 => ?_)
  have hF := hF.wrf f1 (by decide) (by decide)
  have hW : WFk M2 := hW.site f1 (by decide)
  refine z_iload_n F dX12_flips_5 rfl (q := 1) rfl ?_
  refine z_i2l F dX12_flips_6 (by omega) ?_
  refine z_lconst (x := 0) F dX12_flips_7 (by decide +kernel) ?_
  refine z_lconst (x := 1) F dX12_flips_8 (by decide +kernel) ?_
  refine zs_i (rest := []) F (k_X12_within l M2 ⟨hI, hW⟩ x0 (by omega) (by omega) 0 (by omega) (by omega) 1 (by omega) (by omega)) cs_X12_137 (by decide) (by decide) rfl rfl rfl (Nat.le_of_ble_eq_true rfl) dX12_flips_9 (fun v3 M4 rv3 hI p5 => ?_)
  obtain ⟨hI, hW⟩ := hI
  obtain ⟨⟨av3, bv3⟩, rfl, xp5⟩ := p5
  refine z_if_ne (tgt := 21) F dX12_flips_12 (by decide +kernel) (by omega) (fun c6 => ?_) (fun c6 => ?_)
  · refine z_aload_n F dX12_flips_21 rfl (q := 0) rfl ?_
    refine zv_i (rest := []) F (k_X12_flipsOf l M2 ⟨hI, hW⟩) cs_X12_463 (T := TX12) (N := 44) (ci := 12) rfl gs_131 (by decide) (by decide) rfl rfl rfl (Nat.le_of_ble_eq_true rfl) dX12_flips_22 (fun v7 M8 rv7 hI p9 => ?_)
    obtain ⟨hI, hW⟩ := hI
    obtain ⟨⟨av7, bv7⟩, fp9⟩ := p9
    have hF := hF.call fp9 (by decide)
    refine z_istore_n F dX12_flips_25 rfl (by decide) (ls' := [(2, ii v7), (0, .ref (ad 131)), (1, ii x0)]) rfl ?_
    refine z_iload_n F dX12_flips_26 rfl (q := 0) rfl ?_
    refine z_iconst F dX12_flips_27 ?_
    refine z_icmp_eq (tgt := 36) F dX12_flips_28 (by decide +kernel) (by omega) (by omega) (fun c10 => ?_) (fun c10 => ?_)
    · refine z_iload_n F dX12_flips_36 rfl (q := 0) rfl ?_
      refine z_goto (tgt := 44) F dX12_flips_37 (by decide +kernel) ?_
      exact hret _ _ 44 _ (by omega) ⟨hI, hW⟩ ⟨⟨by omega, by omega⟩, hF⟩ dX12_flips_44
    · refine z_iload_n F dX12_flips_31 rfl (q := 2) rfl ?_
      refine z_iconst F dX12_flips_32 ?_
      refine z_icmp_ne (tgt := 40) F dX12_flips_33 (by decide +kernel) (by omega) (by omega) (fun c11 => ?_) (fun c11 => ?_)
      · refine z_iload_n F dX12_flips_40 rfl (q := 0) rfl ?_
        refine zs_i (rest := []) F (k_X12_size l M8 ⟨hI, hW⟩ v7 (by omega) (by omega)) cs_X12_332 (by decide) (by decide) rfl rfl rfl (Nat.le_of_ble_eq_true rfl) dX12_flips_41 (fun v12 M13 rv12 hI p14 => ?_)
        obtain ⟨hI, hW⟩ := hI
        obtain ⟨⟨av12, bv12⟩, rfl, xp14, yp14⟩ := p14
        exact hret _ _ 44 _ (by omega) ⟨hI, hW⟩ ⟨⟨by omega, by omega⟩, hF⟩ dX12_flips_44
      · refine z_iload_n F dX12_flips_36 rfl (q := 0) rfl ?_
        refine z_goto (tgt := 44) F dX12_flips_37 (by decide +kernel) ?_
        exact hret _ _ 44 _ (by omega) ⟨hI, hW⟩ ⟨⟨by omega, by omega⟩, hF⟩ dX12_flips_44
  · refine z_aload_n F dX12_flips_15 rfl (q := 0) rfl ?_
    refine z_iconst F dX12_flips_16 ?_
    refine zv_i (rest := []) F (k_X12_fails l M2 ⟨hI, hW⟩ 1 (by omega) (by omega)) cs_X12_262 (T := TX12) (N := 44) (ci := 12) rfl gs_131 (by decide) (by decide) rfl rfl rfl (Nat.le_of_ble_eq_true rfl) dX12_flips_17 (fun v15 M16 rv15 hI p17 => ?_)
    obtain ⟨hI, hW⟩ := hI
    obtain ⟨⟨av15, bv15⟩, fp17, xp17⟩ := p17
    have hF := hF.call fp17 (by decide)
    exact hret _ _ 20 _ (by omega) ⟨hI, hW⟩ ⟨⟨by omega, by omega⟩, hF⟩ dX12_flips_20
set_option maxRecDepth 4000 in
theorem k_X12_escape (l : Launch) (M : Mem) (hJ : Iw M) (x0 : Int) (hx0a : 0 ≤ x0) (hx0b : x0 ≤ 7) : CI l yX12_escape cX12_escape 5 (some .int) 7 (fun ad => [.ref (ad 131), ii x0]) M (fun z M' => ((-2147483648) ≤ z ∧ z ≤ 2147483647) ∧ Fr [131, 137] M M' ∧ (M' 131 27 = M 131 27)) := by
  obtain ⟨hI, hW⟩ := hJ
  have hF : Fr [131, 137] M M := Fr.rf
  refine en_i (by decide +kernel) (fun ad => by exact Nat.le_of_ble_eq_true rfl) (fun D cy ad A p e s m args below meth c Q F hret => ?_)
  refine z_eq (ls' := [(0, .ref (ad 131)), (1, ii x0)]) rfl rfl rfl ?_
  refine z_iconst F dX12_escape_0 ?_
  refine z_istore_n F dX12_escape_1 rfl (by decide) (ls' := [(2, ii (-1)), (0, .ref (ad 131)), (1, ii x0)]) rfl ?_
  refine z_iconst F dX12_escape_2 ?_
  refine z_istore_n F dX12_escape_3 rfl (by decide) (ls' := [(3, ii 0), (2, ii (-1)), (0, .ref (ad 131)), (1, ii x0)]) rfl ?_
  refine z_loc [2, 3, 1, 0] (ls' := [(0, .ref (ad 131)), (1, ii x0), (2, ii (-1)), (3, ii 0)]) rfl ?_
  suffices key4 : ∀ (n : Nat) (y2 : Int) (y3 : Int) (M1 : Mem), Inv M1 → WFk M1 → Fr [131, 137] M M1 → (-2147483648) ≤ y2 → y2 ≤ 2147483647 → 0 ≤ y3 → y3 ≤ 10 → (M1 131 27 = M 131 27) → 10 - y3 < (n : Int) → Z D cy ad p l e (RMh 7) s m args below meth c A 5 0 0 Q 4 [(0, .ref (ad 131)), (1, ii x0), (2, ii y2), (3, ii y3)] [] M1 from key4 11 (-1) 0 M hI hW hF (by omega) (by omega) (by omega) (by omega) (by omega) (by omega)
  intro n4
  induction n4 with
  | zero => intro y2 y3 M1 hI hW hF ay2 by2 ay3 by3 i4_0 hn4; exfalso; omega
  | succ n4 ih4 =>
    intro y2 y3 M1 hI hW hF ay2 by2 ay3 by3 i4_0 hn4
    obtain ⟨u4, eu4⟩ : ∃ v : Int, v = M1 131 27 := ⟨_, rfl⟩
    have ku4 : 0 ≤ u4 ∧ u4 ≤ 50 := by have := hI.at (show Bd 131 27 = (0, 50) from rfl); omega
    refine z_iload_n F dX12_escape_4 rfl (q := 3) rfl ?_
    refine z_aload_n F dX12_escape_5 rfl (q := 0) rfl ?_
    refine zv_i (rest := [ii y3]) F (k_X12_places l M1 ⟨hI, hW⟩) cs_X12_273 (T := TX12) (N := 44) (ci := 12) rfl gs_131 (by decide) (by decide) rfl rfl rfl (Nat.le_of_ble_eq_true rfl) dX12_escape_6 (fun v5 M6 rv5 hI p7 => ?_)
    obtain ⟨hI, hW⟩ := hI
    obtain ⟨⟨av5, bv5⟩, rfl, xp7⟩ := p7
    refine z_icmp_ge (tgt := 71) F dX12_escape_9 (by decide +kernel) (by omega) (by omega) (fun c8 => ?_) (fun c8 => ?_)
    · refine z_iload_n F dX12_escape_71 rfl (q := 2) rfl ?_
      exact hret _ _ 72 _ (by omega) ⟨hI, hW⟩ ⟨⟨by omega, by omega⟩, hF, (by omega)⟩ dX12_escape_72
    · refine z_aload_n F dX12_escape_12 rfl (q := 0) rfl ?_
      refine z_iload_n F dX12_escape_13 rfl (q := 1) rfl ?_
      refine z_i2l F dX12_escape_14 (by omega) ?_
      refine z_iload_n F dX12_escape_15 rfl (q := 3) rfl ?_
      refine z_i2l F dX12_escape_16 (by omega) ?_
      refine zv_i (rest := []) F (k_X12_whyNot l M1 ⟨hI, hW⟩ x0 (by omega) (by omega) y3 (by omega) (by omega)) cs_X12_378 (T := TX12) (N := 44) (ci := 12) rfl gs_131 (by decide) (by decide) rfl rfl rfl (Nat.le_of_ble_eq_true rfl) dX12_escape_17 (fun v9 M10 rv9 hI p11 => ?_)
      obtain ⟨hI, hW⟩ := hI
      obtain ⟨⟨av9, bv9⟩, rfl, xp11⟩ := p11
      refine z_if_ne (tgt := 65) F dX12_escape_20 (by decide +kernel) (by omega) (fun c12 => ?_) (fun c12 => ?_)
      · refine z_iincN F dX12_escape_65 (q := 3) rfl (by decide) (fun v13 ev13 => ?_)
        refine z_eq (ls' := [(3, ii v13), (0, .ref (ad 131)), (1, ii x0), (2, ii y2)]) rfl rfl rfl ?_
        refine z_goto (tgt := 4) F dX12_escape_68 (by decide +kernel) ?_
        refine z_loc [1, 2, 3, 0] (ls' := [(0, .ref (ad 131)), (1, ii x0), (2, ii y2), (3, ii v13)]) rfl ?_
        exact ih4 y2 v13 M1 hI hW hF (by omega) (by omega) (by omega) (by omega) (by omega) (by omega)
      · refine z_aload_n F dX12_escape_23 rfl (q := 0) rfl ?_
        refine z_iload_n F dX12_escape_24 rfl (q := 1) rfl ?_
        refine z_iload_n F dX12_escape_25 rfl (q := 3) rfl ?_
        refine zv_i (rest := []) F (k_X12_clashesOf l M1 ⟨hI, hW⟩ x0 (by omega) (by omega) y3 (by omega) (by omega)) cs_X12_329 (T := TX12) (N := 44) (ci := 12) rfl gs_131 (by decide) (by decide) rfl rfl rfl (Nat.le_of_ble_eq_true rfl) dX12_escape_26 (fun v14 M15 rv14 hI p16 => ?_)
        obtain ⟨hI, hW⟩ := hI
        obtain ⟨⟨av14, bv14⟩, fp16⟩ := p16
        have hF := hF.call fp16 (by decide)
        refine z_if_eq (tgt := 35) F dX12_escape_29 (by decide +kernel) (by omega) (fun c17 => ?_) (fun c17 => ?_)
        · refine z_aload_n F dX12_escape_35 rfl (q := 0) rfl ?_
          refine z_iload_n F dX12_escape_36 rfl (q := 1) rfl ?_
          refine z_iload_n F dX12_escape_37 rfl (q := 3) rfl ?_
          refine zv_i (rest := []) F (k_X12_minutesOf l M15 ⟨hI, hW⟩ x0 (by omega) (by omega) y3 (by omega) (by omega)) cs_X12_358 (T := TX12) (N := 44) (ci := 12) rfl gs_131 (by decide) (by decide) rfl rfl rfl (Nat.le_of_ble_eq_true rfl) dX12_escape_38 (fun v18 M19 rv18 hI p20 => ?_)
          obtain ⟨hI, hW⟩ := hI
          obtain ⟨⟨av18, bv18⟩, rfl⟩ := p20
          refine z_istore F dX12_escape_41 (by decide) (ls' := [(4, ii v18), (0, .ref (ad 131)), (1, ii x0), (2, ii y2), (3, ii y3)]) rfl ?_
          refine z_iload_n F dX12_escape_43 rfl (q := 3) rfl ?_
          refine z_iconst F dX12_escape_44 ?_
          refine z_icmp_eq (tgt := 57) F dX12_escape_45 (by decide +kernel) (by omega) (by omega) (fun c21 => ?_) (fun c21 => ?_)
          · refine z_iload F dX12_escape_57 (q := 0) rfl ?_
            refine z_istore_n F dX12_escape_59 rfl (by decide) (ls' := [(2, ii v18), (4, ii v18), (0, .ref (ad 131)), (1, ii x0), (3, ii y3)]) rfl ?_
            refine z_aload_n F dX12_escape_60 rfl (q := 2) rfl ?_
            refine z_iload_n F dX12_escape_61 rfl (q := 4) rfl ?_
            refine pf_X12_466 F hI gs_131 rfl bd_131_28 rfl rfl dX12_escape_62 (by omega) (by omega) (fun M23 hI sf22 f22 => ?_)
            have hF := hF.wrf f22 (by decide) (by decide)
            have hW : WFk M23 := hW.site f22 (by decide)
            refine z_iincN F dX12_escape_65 (q := 4) rfl (by decide) (fun v24 ev24 => ?_)
            refine z_eq (ls' := [(3, ii v24), (2, ii v18), (4, ii v18), (0, .ref (ad 131)), (1, ii x0)]) rfl rfl rfl ?_
            refine z_goto (tgt := 4) F dX12_escape_68 (by decide +kernel) ?_
            refine z_loc [3, 4, 1, 0] (ls' := [(0, .ref (ad 131)), (1, ii x0), (2, ii v18), (3, ii v24)]) rfl ?_
            have q25 : u4 = M15 131 27 := eu4.trans ((fp16.at (by decide)) : M15 131 27 = _).symm
            have q26 : u4 = M23 131 27 := q25.trans (f22 131 27 (fun q => absurd q.2 (by decide))).symm
            exact ih4 v18 v24 M23 hI hW hF (by omega) (by omega) (by omega) (by omega) (by omega) (by omega)
          · refine z_iload F dX12_escape_48 (q := 0) rfl ?_
            refine z_iload_n F dX12_escape_50 rfl (q := 3) rfl ?_
            refine z_icmp_lt (tgt := 57) F dX12_escape_51 (by decide +kernel) (by omega) (by omega) (fun c27 => ?_) (fun c27 => ?_)
            · refine z_iload F dX12_escape_57 (q := 0) rfl ?_
              refine z_istore_n F dX12_escape_59 rfl (by decide) (ls' := [(2, ii v18), (4, ii v18), (0, .ref (ad 131)), (1, ii x0), (3, ii y3)]) rfl ?_
              refine z_aload_n F dX12_escape_60 rfl (q := 2) rfl ?_
              refine z_iload_n F dX12_escape_61 rfl (q := 4) rfl ?_
              refine pf_X12_466 F hI gs_131 rfl bd_131_28 rfl rfl dX12_escape_62 (by omega) (by omega) (fun M29 hI sf28 f28 => ?_)
              have hF := hF.wrf f28 (by decide) (by decide)
              have hW : WFk M29 := hW.site f28 (by decide)
              refine z_iincN F dX12_escape_65 (q := 4) rfl (by decide) (fun v30 ev30 => ?_)
              refine z_eq (ls' := [(3, ii v30), (2, ii v18), (4, ii v18), (0, .ref (ad 131)), (1, ii x0)]) rfl rfl rfl ?_
              refine z_goto (tgt := 4) F dX12_escape_68 (by decide +kernel) ?_
              refine z_loc [3, 4, 1, 0] (ls' := [(0, .ref (ad 131)), (1, ii x0), (2, ii v18), (3, ii v30)]) rfl ?_
              have q31 : u4 = M15 131 27 := eu4.trans ((fp16.at (by decide)) : M15 131 27 = _).symm
              have q32 : u4 = M29 131 27 := q31.trans (f28 131 27 (fun q => absurd q.2 (by decide))).symm
              exact ih4 v18 v30 M29 hI hW hF (by omega) (by omega) (by omega) (by omega) (by omega) (by omega)
            · refine z_goto (tgt := 65) F dX12_escape_54 (by decide +kernel) ?_
              refine z_iincN F dX12_escape_65 (q := 4) rfl (by decide) (fun v33 ev33 => ?_)
              refine z_eq (ls' := [(3, ii v33), (4, ii v18), (0, .ref (ad 131)), (1, ii x0), (2, ii y2)]) rfl rfl rfl ?_
              refine z_goto (tgt := 4) F dX12_escape_68 (by decide +kernel) ?_
              refine z_loc [2, 3, 4, 0] (ls' := [(0, .ref (ad 131)), (1, ii x0), (2, ii y2), (3, ii v33)]) rfl ?_
              have q34 : u4 = M15 131 27 := eu4.trans ((fp16.at (by decide)) : M15 131 27 = _).symm
              exact ih4 y2 v33 M15 hI hW hF (by omega) (by omega) (by omega) (by omega) (by omega) (by omega)
        · refine z_goto (tgt := 65) F dX12_escape_32 (by decide +kernel) ?_
          refine z_iincN F dX12_escape_65 (q := 3) rfl (by decide) (fun v35 ev35 => ?_)
          refine z_eq (ls' := [(3, ii v35), (0, .ref (ad 131)), (1, ii x0), (2, ii y2)]) rfl rfl rfl ?_
          refine z_goto (tgt := 4) F dX12_escape_68 (by decide +kernel) ?_
          refine z_loc [1, 2, 3, 0] (ls' := [(0, .ref (ad 131)), (1, ii x0), (2, ii y2), (3, ii v35)]) rfl ?_
          have q36 : u4 = M15 131 27 := eu4.trans ((fp16.at (by decide)) : M15 131 27 = _).symm
          exact ih4 y2 v35 M15 hI hW hF (by omega) (by omega) (by omega) (by omega) (by omega) (by omega)
set_option maxRecDepth 4000 in
theorem k_X12_mover (l : Launch) (M : Mem) (hJ : Iw M) (x0 : Int) (hx0a : 0 ≤ x0) (hx0b : x0 ≤ 7) (x1 : Int) (hx1a : 0 ≤ x1) (hx1b : x1 ≤ 7) : CI l yX12_mover cX12_mover 7 (some .int) 8 (fun ad => [.ref (ad 131), ii x0, ii x1]) M (fun z M' => ((-1) ≤ z ∧ z ≤ 7) ∧ Fr [131, 137] M M' ∧ (M' 131 27 = M 131 27)) := by
  obtain ⟨hI, hW⟩ := hJ
  have hF : Fr [131, 137] M M := Fr.rf
  refine en_i (by decide +kernel) (fun ad => by exact Nat.le_of_ble_eq_true rfl) (fun D cy ad A p e s m args below meth c Q F hret => ?_)
  refine z_eq (ls' := [(0, .ref (ad 131)), (1, ii x0), (2, ii x1)]) rfl rfl rfl ?_
  refine z_aload_n F dX12_mover_0 rfl (q := 0) rfl ?_
  refine z_iload_n F dX12_mover_1 rfl (q := 1) rfl ?_
  refine zv_i (rest := []) F (k_X12_escape l M ⟨hI, hW⟩ x0 (by omega) (by omega)) cs_X12_469 (T := TX12) (N := 44) (ci := 12) rfl gs_131 (by decide) (by decide) rfl rfl rfl (Nat.le_of_ble_eq_true rfl) dX12_mover_2 (fun v1 M2 rv1 hI p3 => ?_)
  obtain ⟨hI, hW⟩ := hI
  obtain ⟨⟨av1, bv1⟩, fp3, xp3⟩ := p3
  have hF := hF.call fp3 (by decide)
  refine z_istore_n F dX12_mover_5 rfl (by decide) (ls' := [(3, ii v1), (0, .ref (ad 131)), (1, ii x0), (2, ii x1)]) rfl ?_
  refine z_aload_n F dX12_mover_6 rfl (q := 1) rfl ?_
  refine z_iload_n F dX12_mover_7 rfl (q := 3) rfl ?_
  refine zv_i (rest := []) F (k_X12_escape l M2 ⟨hI, hW⟩ x1 (by omega) (by omega)) cs_X12_469 (T := TX12) (N := 44) (ci := 12) rfl gs_131 (by decide) (by decide) rfl rfl rfl (Nat.le_of_ble_eq_true rfl) dX12_mover_8 (fun v4 M5 rv4 hI p6 => ?_)
  obtain ⟨hI, hW⟩ := hI
  obtain ⟨⟨av4, bv4⟩, fp6, xp6⟩ := p6
  have hF := hF.call fp6 (by decide)
  refine z_istore F dX12_mover_11 (by decide) (ls' := [(4, ii v4), (3, ii v1), (0, .ref (ad 131)), (1, ii x0), (2, ii x1)]) rfl ?_
  refine z_iload_n F dX12_mover_13 rfl (q := 1) rfl ?_
  refine z_iconst F dX12_mover_14 ?_
  refine z_icmp_eq (tgt := 24) F dX12_mover_15 (by decide +kernel) (by omega) (by omega) (fun c7 => ?_) (fun c7 => ?_)
  · refine z_iload_n F dX12_mover_24 rfl (q := 1) rfl ?_
    refine z_iconst F dX12_mover_25 ?_
    refine z_icmp_eq (tgt := 33) F dX12_mover_26 (by decide +kernel) (by omega) (by omega) (fun c8 => ?_) (fun c8 => by exfalso; omega)
    refine z_iload F dX12_mover_33 (q := 0) rfl ?_
    refine z_iconst F dX12_mover_35 ?_
    refine z_icmp_eq (tgt := 43) F dX12_mover_36 (by decide +kernel) (by omega) (by omega) (fun c9 => ?_) (fun c9 => ?_)
    · refine z_iconst F dX12_mover_43 ?_
      exact hret _ _ 44 _ (by omega) ⟨hI, hW⟩ ⟨⟨by omega, by omega⟩, hF, (by omega)⟩ dX12_mover_44
    · refine z_iload_n F dX12_mover_39 rfl (q := 4) rfl ?_
      refine z_goto (tgt := 44) F dX12_mover_40 (by decide +kernel) ?_
      exact hret _ _ 44 _ (by omega) ⟨hI, hW⟩ ⟨⟨by omega, by omega⟩, hF, (by omega)⟩ dX12_mover_44
  · refine z_iload F dX12_mover_18 (q := 0) rfl ?_
    refine z_iconst F dX12_mover_20 ?_
    refine z_icmp_ne (tgt := 45) F dX12_mover_21 (by decide +kernel) (by omega) (by omega) (fun c10 => ?_) (fun c10 => ?_)
    · refine z_iload_n F dX12_mover_45 rfl (q := 1) rfl ?_
      refine z_iload F dX12_mover_46 (q := 0) rfl ?_
      refine z_icmp_eq (tgt := 63) F dX12_mover_48 (by decide +kernel) (by omega) (by omega) (fun c11 => ?_) (fun c11 => ?_)
      · refine z_aload_n F dX12_mover_63 rfl (q := 2) rfl ?_
        refine z_aload_n F dX12_mover_64 rfl (q := 2) rfl ?_
        refine rf_X12_9 F gs_131 rfl dX12_mover_65 ?_
        refine z_bipush F dX12_mover_68 (by decide +kernel) ?_
        refine z_iload_n F dX12_mover_70 rfl (q := 3) rfl ?_
        refine z_iadd F dX12_mover_71 ?_
        refine z_iald F hI gs_132 (by omega) (by omega) (by decide) (bd_132.trans (kn_any (by omega) (by omega))) dX12_mover_72 (fun v12 (ev12 : v12 = M5 132 _) av12 bv12 => ?_)
        refine zv_i (rest := []) F (k_X12_isEven l M5 ⟨hI, hW⟩ v12 (by omega) (by omega)) cs_X12_298 (T := TX12) (N := 44) (ci := 12) rfl gs_131 (by decide) (by decide) rfl rfl rfl (Nat.le_of_ble_eq_true rfl) dX12_mover_73 (fun v13 M14 rv13 hI p15 => ?_)
        obtain ⟨hI, hW⟩ := hI
        obtain ⟨⟨av13, bv13⟩, rfl⟩ := p15
        refine z_istore F dX12_mover_76 (by decide) (ls' := [(5, ii v13), (4, ii v4), (3, ii v1), (0, .ref (ad 131)), (1, ii x0), (2, ii x1)]) rfl ?_
        refine z_aload_n F dX12_mover_78 rfl (q := 3) rfl ?_
        refine z_aload_n F dX12_mover_79 rfl (q := 3) rfl ?_
        refine rf_X12_9 F gs_131 rfl dX12_mover_80 ?_
        refine z_bipush F dX12_mover_83 (by decide +kernel) ?_
        refine z_iload_n F dX12_mover_85 rfl (q := 5) rfl ?_
        refine z_iadd F dX12_mover_86 ?_
        refine z_iald F hI gs_132 (by omega) (by omega) (by decide) (bd_132.trans (kn_any (by omega) (by omega))) dX12_mover_87 (fun v16 (ev16 : v16 = M5 132 _) av16 bv16 => ?_)
        refine zv_i (rest := []) F (k_X12_isEven l M5 ⟨hI, hW⟩ v16 (by omega) (by omega)) cs_X12_298 (T := TX12) (N := 44) (ci := 12) rfl gs_131 (by decide) (by decide) rfl rfl rfl (Nat.le_of_ble_eq_true rfl) dX12_mover_88 (fun v17 M18 rv17 hI p19 => ?_)
        obtain ⟨hI, hW⟩ := hI
        obtain ⟨⟨av17, bv17⟩, rfl⟩ := p19
        refine z_istore F dX12_mover_91 (by decide) (ls' := [(6, ii v17), (5, ii v13), (4, ii v4), (3, ii v1), (0, .ref (ad 131)), (1, ii x0), (2, ii x1)]) rfl ?_
        refine z_iload F dX12_mover_93 (q := 1) rfl ?_
        refine z_if_eq (tgt := 107) F dX12_mover_95 (by decide +kernel) (by omega) (fun c20 => ?_) (fun c20 => ?_)
        · refine z_iload_n F dX12_mover_107 rfl (q := 6) rfl ?_
          exact hret _ _ 108 _ (by omega) ⟨hI, hW⟩ ⟨⟨by omega, by omega⟩, hF, (by omega)⟩ dX12_mover_108
        · refine z_iload F dX12_mover_98 (q := 0) rfl ?_
          refine z_if_ne (tgt := 107) F dX12_mover_100 (by decide +kernel) (by omega) (fun c21 => ?_) (fun c21 => ?_)
          · refine z_iload_n F dX12_mover_107 rfl (q := 6) rfl ?_
            exact hret _ _ 108 _ (by omega) ⟨hI, hW⟩ ⟨⟨by omega, by omega⟩, hF, (by omega)⟩ dX12_mover_108
          · refine z_iload_n F dX12_mover_103 rfl (q := 5) rfl ?_
            refine z_goto (tgt := 108) F dX12_mover_104 (by decide +kernel) ?_
            exact hret _ _ 108 _ (by omega) ⟨hI, hW⟩ ⟨⟨by omega, by omega⟩, hF, (by omega)⟩ dX12_mover_108
      · refine z_iload_n F dX12_mover_51 rfl (q := 1) rfl ?_
        refine z_iload F dX12_mover_52 (q := 0) rfl ?_
        refine z_icmp_ge (tgt := 61) F dX12_mover_54 (by decide +kernel) (by omega) (by omega) (fun c22 => ?_) (fun c22 => ?_)
        · refine z_iload_n F dX12_mover_61 rfl (q := 4) rfl ?_
          exact hret _ _ 62 _ (by omega) ⟨hI, hW⟩ ⟨⟨by omega, by omega⟩, hF, (by omega)⟩ dX12_mover_62
        · refine z_iload_n F dX12_mover_57 rfl (q := 3) rfl ?_
          refine z_goto (tgt := 62) F dX12_mover_58 (by decide +kernel) ?_
          exact hret _ _ 62 _ (by omega) ⟨hI, hW⟩ ⟨⟨by omega, by omega⟩, hF, (by omega)⟩ dX12_mover_62
    · refine z_iload_n F dX12_mover_24 rfl (q := 1) rfl ?_
      refine z_iconst F dX12_mover_25 ?_
      refine z_icmp_eq (tgt := 33) F dX12_mover_26 (by decide +kernel) (by omega) (by omega) (fun c23 => ?_) (fun c23 => ?_)
      · refine z_iload F dX12_mover_33 (q := 0) rfl ?_
        refine z_iconst F dX12_mover_35 ?_
        refine z_icmp_eq (tgt := 43) F dX12_mover_36 (by decide +kernel) (by omega) (by omega) (fun c24 => ?_) (fun c24 => by exfalso; omega)
        refine z_iconst F dX12_mover_43 ?_
        exact hret _ _ 44 _ (by omega) ⟨hI, hW⟩ ⟨⟨by omega, by omega⟩, hF, (by omega)⟩ dX12_mover_44
      · refine z_iload_n F dX12_mover_29 rfl (q := 3) rfl ?_
        refine z_goto (tgt := 44) F dX12_mover_30 (by decide +kernel) ?_
        exact hret _ _ 44 _ (by omega) ⟨hI, hW⟩ ⟨⟨by omega, by omega⟩, hF, (by omega)⟩ dX12_mover_44
set_option maxRecDepth 4000 in
theorem k_X12_goesWave (l : Launch) (M : Mem) (hJ : Iw M) : CV l yX12_goesWave cX12_goesWave 3 none 10 (fun ad => [.ref (ad 131)]) M (fun M' => Fr [131, 132, 137] M M') := by
  obtain ⟨hI, hW⟩ := hJ
  have hF : Fr [131, 132, 137] M M := Fr.rf
  refine en_v (by decide +kernel) (fun ad => by exact Nat.le_of_ble_eq_true rfl) (fun D cy ad A p e s m args below meth c Q F hret => ?_)
  refine z_eq (ls' := [(0, .ref (ad 131))]) rfl rfl rfl ?_
  refine z_aload_n F dX12_goesWave_0 rfl (q := 0) rfl ?_
  refine z_iconst F dX12_goesWave_1 ?_
  refine pf_X12_472 F hI gs_131 rfl bd_131_27 rfl rfl dX12_goesWave_2 (by omega) (by omega) (fun M2 hI sf1 f1 => ?_)
  have hF := hF.wrf f1 (by decide) (by decide)
  have hW : WFk M2 := hW.site f1 (by decide)
  refine z_aload_n F dX12_goesWave_5 rfl (q := 0) rfl ?_
  refine zv_i (rest := []) F (k_X12_firstOf l M2 ⟨hI, hW⟩) cs_X12_355 (T := TX12) (N := 44) (ci := 12) rfl gs_131 (by decide) (by decide) rfl rfl rfl (Nat.le_of_ble_eq_true rfl) dX12_goesWave_6 (fun v3 M4 rv3 hI p5 => ?_)
  obtain ⟨hI, hW⟩ := hI
  obtain ⟨⟨av3, bv3⟩, fp5, xp5⟩ := p5
  have hF := hF.call fp5 (by decide)
  refine z_istore_n F dX12_goesWave_9 rfl (by decide) (ls' := [(1, ii v3), (0, .ref (ad 131))]) rfl ?_
  refine z_loc [1, 0] (ls' := [(0, .ref (ad 131)), (1, ii v3)]) rfl ?_
  have q8 : 0 = M4 131 27 := sf1.symm.trans ((fp5.at (by decide)) : M4 131 27 = _).symm
  suffices key10 : ∀ (n : Nat) (y7 : Int) (M6 : Mem), Inv M6 → WFk M6 → Fr [131, 132, 137] M M6 → (-1) ≤ y7 → y7 ≤ 77 → ((y7 = -1 ∨ 0 ≤ y7 ∧ y7 % 10 ≤ 7 ∧ y7 / 10 ≤ 7)) → (0 ≤ M6 131 27 ∧ M6 131 27 ≤ 50) → 50 - M6 131 27 < (n : Int) → Z D cy ad p l e (RMh 10) s m args below meth c A 3 0 0 Q 10 [(0, .ref (ad 131)), (1, ii y7)] [] M6 from key10 51 v3 M4 hI hW hF (by omega) (by omega) (by omega) (by omega) (by omega)
  intro n10
  induction n10 with
  | zero => intro y7 M6 hI hW hF ay7 by7 i10_0 i10_1 hn10; exfalso; omega
  | succ n10 ih10 =>
    intro y7 M6 hI hW hF ay7 by7 i10_0 i10_1 hn10
    obtain ⟨u9, eu9⟩ : ∃ v : Int, v = M6 131 27 := ⟨_, rfl⟩
    have ku9 : 0 ≤ u9 ∧ u9 ≤ 50 := by have := hI.at (show Bd 131 27 = (0, 50) from rfl); omega
    refine z_iload_n F dX12_goesWave_10 rfl (q := 1) rfl ?_
    refine z_iconst F dX12_goesWave_11 ?_
    refine z_icmp_eq (tgt := 77) F dX12_goesWave_12 (by decide +kernel) (by omega) (by omega) (fun c10 => ?_) (fun c10 => ?_)
    · exact hret _ 77 _ ⟨hI, hW⟩ hF dX12_goesWave_77
    · refine z_aload_n F dX12_goesWave_15 rfl (q := 0) rfl ?_
      refine gf_X12_472 F hI gs_131 rfl bd_131_27 dX12_goesWave_16 (fun v11 ev11 av11 bv11 => ?_)
      have zv11 : u9 = v11 := eu9.trans ev11.symm
      subst zv11
      refine z_bipush F dX12_goesWave_19 (by decide +kernel) ?_
      refine z_icmp_ge (tgt := 77) F dX12_goesWave_21 (by decide +kernel) (by omega) (by omega) (fun c12 => ?_) (fun c12 => ?_)
      · exact hret _ 77 _ ⟨hI, hW⟩ hF dX12_goesWave_77
      · refine z_aload_n F dX12_goesWave_24 rfl (q := 0) rfl ?_
        refine z_iload_n F dX12_goesWave_25 rfl (q := 1) rfl ?_
        refine z_bipush F dX12_goesWave_26 (by decide +kernel) ?_
        refine z_idiv_p F dX12_goesWave_28 (by omega) (by omega) (by omega) (by omega) (fun v13 ev13 => ?_)
        refine z_iload_n F dX12_goesWave_29 rfl (q := 1) rfl ?_
        refine z_bipush F dX12_goesWave_30 (by decide +kernel) ?_
        refine z_irem_p F dX12_goesWave_32 (by omega) (by omega) (by omega) (by omega) (fun v14 ev14 => ?_)
        have k15 : 0 ≤ v14 ∧ v14 ≤ 7 := by omega
        have k16 : 0 ≤ v13 ∧ v13 ≤ 7 := by omega
        refine zv_i (rest := []) F (k_X12_mover l M6 ⟨hI, hW⟩ v13 (by omega) (by omega) v14 (by omega) (by omega)) cs_X12_475 (T := TX12) (N := 44) (ci := 12) rfl gs_131 (by decide) (by decide) rfl rfl rfl (Nat.le_of_ble_eq_true rfl) dX12_goesWave_33 (fun v17 M18 rv17 hI p19 => ?_)
        obtain ⟨hI, hW⟩ := hI
        obtain ⟨⟨av17, bv17⟩, fp19, xp19⟩ := p19
        have hF := hF.call fp19 (by decide)
        refine z_istore_n F dX12_goesWave_36 rfl (by decide) (ls' := [(2, ii v17), (0, .ref (ad 131)), (1, ii y7)]) rfl ?_
        refine z_iload_n F dX12_goesWave_37 rfl (q := 0) rfl ?_
        refine z_iconst F dX12_goesWave_38 ?_
        refine z_icmp_ne (tgt := 43) F dX12_goesWave_39 (by decide +kernel) (by omega) (by omega) (fun c20 => ?_) (fun c20 => ?_)
        · refine z_aload_n F dX12_goesWave_43 rfl (q := 1) rfl ?_
          refine z_iload_n F dX12_goesWave_44 rfl (q := 0) rfl ?_
          refine zv_i (rest := []) F (k_X12_escape l M18 ⟨hI, hW⟩ v17 (by omega) (by omega)) cs_X12_469 (T := TX12) (N := 44) (ci := 12) rfl gs_131 (by decide) (by decide) rfl rfl rfl (Nat.le_of_ble_eq_true rfl) dX12_goesWave_45 (fun v21 M22 rv21 hI p23 => ?_)
          obtain ⟨hI, hW⟩ := hI
          obtain ⟨⟨av21, bv21⟩, fp23, xp23⟩ := p23
          have hF := hF.call fp23 (by decide)
          refine z_pop F dX12_goesWave_48 rfl ?_
          refine z_aload_n F dX12_goesWave_49 rfl (q := 1) rfl ?_
          refine z_iload_n F dX12_goesWave_50 rfl (q := 0) rfl ?_
          refine z_aload_n F dX12_goesWave_51 rfl (q := 1) rfl ?_
          refine gf_X12_466 F hI gs_131 rfl bd_131_28 dX12_goesWave_52 (fun v24 ev24 av24 bv24 => ?_)
          refine zv_i (rest := []) F (k_X12_moves l M22 ⟨hI, hW⟩ v17 (by omega) (by omega) v24 (by omega) (by omega)) cs_X12_382 (T := TX12) (N := 44) (ci := 12) rfl gs_131 (by decide) (by decide) rfl rfl rfl (Nat.le_of_ble_eq_true rfl) dX12_goesWave_55 (fun v25 M26 rv25 hI p27 => ?_)
          obtain ⟨hI, hW⟩ := hI
          obtain ⟨⟨av25, bv25⟩, fp27⟩ := p27
          have hF := hF.call fp27 (by decide)
          refine z_pop F dX12_goesWave_58 rfl ?_
          refine z_aload_n F dX12_goesWave_59 rfl (q := 1) rfl ?_
          refine z_dup F dX12_goesWave_60 rfl ?_
          refine gf_X12_472 F hI gs_131 rfl bd_131_27 dX12_goesWave_61 (fun v28 ev28 av28 bv28 => ?_)
          have hwm := fp27.at (a := 131) (b := 27) (by decide)
          have k29 : 0 ≤ v28 ∧ v28 ≤ 49 := by omega
          refine z_iconst F dX12_goesWave_64 ?_
          refine z_iadd F dX12_goesWave_65 ?_
          refine z_nm (fun v30 ev30 => ?_)
          refine pf_X12_472 F hI gs_131 rfl bd_131_27 rfl rfl dX12_goesWave_66 (by omega) (by omega) (fun M32 hI sf31 f31 => ?_)
          have hF := hF.wrf f31 (by decide) (by decide)
          have hW : WFk M32 := hW.site f31 (by decide)
          refine z_aload_n F dX12_goesWave_69 rfl (q := 1) rfl ?_
          refine zv_i (rest := []) F (k_X12_firstOf l M32 ⟨hI, hW⟩) cs_X12_355 (T := TX12) (N := 44) (ci := 12) rfl gs_131 (by decide) (by decide) rfl rfl rfl (Nat.le_of_ble_eq_true rfl) dX12_goesWave_70 (fun v33 M34 rv33 hI p35 => ?_)
          obtain ⟨hI, hW⟩ := hI
          obtain ⟨⟨av33, bv33⟩, fp35, xp35⟩ := p35
          have hF := hF.call fp35 (by decide)
          refine z_istore_n F dX12_goesWave_73 rfl (by decide) (ls' := [(1, ii v33), (2, ii v17), (0, .ref (ad 131))]) rfl ?_
          refine z_goto (tgt := 10) F dX12_goesWave_74 (by decide +kernel) ?_
          refine z_loc [2, 0] (ls' := [(0, .ref (ad 131)), (1, ii v33)]) rfl ?_
          have q36 : v30 = M34 131 27 := sf31.symm.trans ((fp35.at (by decide)) : M34 131 27 = _).symm
          exact ih10 v33 M34 hI hW hF (by omega) (by omega) (by omega) (by omega) (by omega)
        · exact hret _ 42 _ ⟨hI, hW⟩ hF dX12_goesWave_42
set_option maxRecDepth 4000 in
theorem k_X12_wave (l : Launch) (M : Mem) (hJ : Iw M) (x0 : Int) (hx0a : (-2147483648) ≤ x0) (hx0b : x0 ≤ 2147483647) : CI l yX12_wave cX12_wave 4 (some .int) 11 (fun ad => [.ref (ad 131), ii x0]) M (fun z M' => ((-2147483648) ≤ z ∧ z ≤ 2147483647) ∧ Fr [131, 132, 137, 138] M M') := by
  obtain ⟨hI, hW⟩ := hJ
  have hF : Fr [131, 132, 137, 138] M M := Fr.rf
  refine en_i (by decide +kernel) (fun ad => by exact Nat.le_of_ble_eq_true rfl) (fun D cy ad A p e s m args below meth c Q F hret => ?_)
  refine z_eq (ls' := [(0, .ref (ad 131)), (1, ii x0)]) rfl rfl rfl ?_
  refine z_aload_n F dX12_wave_0 rfl (q := 0) rfl ?_
  refine z_iconst F dX12_wave_1 ?_
  refine pf_X12_73 F hI gs_131 rfl bd_131_4 rfl rfl dX12_wave_2 (by omega) (by omega) (fun M2 hI sf1 f1 => ?_)
  have hF := hF.wrf f1 (by decide) (by decide)
  have hW : WFk M2 := hW.site f1 (by decide)
  refine z_iload_n F dX12_wave_5 rfl (q := 1) rfl ?_
  refine z_i2l F dX12_wave_6 (by omega) ?_
  refine z_lconst (x := 0) F dX12_wave_7 (by decide +kernel) ?_
  refine z_ldc2 (x := 2) F dX12_wave_8 (gin lm_93 rfl) (by decide +kernel) ?_
  refine zs_i (rest := []) F (k_X12_within l M2 ⟨hI, hW⟩ x0 (by omega) (by omega) 0 (by omega) (by omega) 2 (by omega) (by omega)) cs_X12_137 (by decide) (by decide) rfl rfl rfl (Nat.le_of_ble_eq_true rfl) dX12_wave_11 (fun v3 M4 rv3 hI p5 => ?_)
  obtain ⟨hI, hW⟩ := hI
  obtain ⟨⟨av3, bv3⟩, rfl, xp5⟩ := p5
  refine z_if_ne (tgt := 23) F dX12_wave_14 (by decide +kernel) (by omega) (fun c6 => ?_) (fun c6 => ?_)
  · refine z_aload_n F dX12_wave_23 rfl (q := 0) rfl ?_
    refine zv_v (rest := []) F (k_X12_putsAside l M2 ⟨hI, hW⟩) cs_X12_406 (T := TX12) (N := 44) (ci := 12) rfl gs_131 (by decide) (by decide) rfl rfl rfl (Nat.le_of_ble_eq_true rfl) dX12_wave_24 (fun M7 hI p8 => ?_)
    obtain ⟨hI, hW⟩ := hI
    have fp8 := p8
    have hF := hF.call fp8 (by decide)
    refine z_aload_n F dX12_wave_27 rfl (q := 0) rfl ?_
    refine zv_v (rest := []) F (k_X12_goesWave l M7 ⟨hI, hW⟩) cs_X12_478 (T := TX12) (N := 44) (ci := 12) rfl gs_131 (by decide) (by decide) rfl rfl rfl (Nat.le_of_ble_eq_true rfl) dX12_wave_28 (fun M9 hI p10 => ?_)
    obtain ⟨hI, hW⟩ := hI
    have fp10 := p10
    have hF := hF.call fp10 (by decide)
    refine z_aload_n F dX12_wave_31 rfl (q := 0) rfl ?_
    refine rf_X12_9 F gs_131 rfl dX12_wave_32 ?_
    refine z_bipush F dX12_wave_35 (by decide +kernel) ?_
    refine z_iald F hI gs_132 (by omega) (by omega) (by decide) (show Bd 132 24 = (-2147483648, 2147483647) from rfl) dX12_wave_37 (fun v11 (ev11 : v11 = M9 132 24) av11 bv11 => ?_)
    refine z_istore_n F dX12_wave_38 rfl (by decide) (ls' := [(2, ii v11), (0, .ref (ad 131)), (1, ii x0)]) rfl ?_
    refine z_aload_n F dX12_wave_39 rfl (q := 1) rfl ?_
    refine zv_i (rest := []) F (k_X12_allClashes l M9 ⟨hI, hW⟩) cs_X12_352 (T := TX12) (N := 44) (ci := 12) rfl gs_131 (by decide) (by decide) rfl rfl rfl (Nat.le_of_ble_eq_true rfl) dX12_wave_40 (fun v12 M13 rv12 hI p14 => ?_)
    obtain ⟨hI, hW⟩ := hI
    obtain ⟨⟨av12, bv12⟩, fp14⟩ := p14
    have hF := hF.call fp14 (by decide)
    refine z_istore_n F dX12_wave_43 rfl (by decide) (ls' := [(3, ii v12), (2, ii v11), (0, .ref (ad 131)), (1, ii x0)]) rfl ?_
    refine z_aload_n F dX12_wave_44 rfl (q := 2) rfl ?_
    refine zv_v (rest := []) F (k_X12_putsBack l M13 ⟨hI, hW⟩) cs_X12_415 (T := TX12) (N := 44) (ci := 12) rfl gs_131 (by decide) (by decide) rfl rfl rfl (Nat.le_of_ble_eq_true rfl) dX12_wave_45 (fun M15 hI p16 => ?_)
    obtain ⟨hI, hW⟩ := hI
    have fp16 := p16
    have hF := hF.call fp16 (by decide)
    refine z_iload_n F dX12_wave_48 rfl (q := 3) rfl ?_
    refine z_if_ne (tgt := 59) F dX12_wave_49 (by decide +kernel) (by omega) (fun c17 => ?_) (fun c17 => ?_)
    · refine z_iload_n F dX12_wave_59 rfl (q := 3) rfl ?_
      refine z_iconst F dX12_wave_60 ?_
      refine z_icmp_ne (tgt := 76) F dX12_wave_61 (by decide +kernel) (by omega) (by omega) (fun c18 => ?_) (fun c18 => ?_)
      · refine z_iload_n F dX12_wave_76 rfl (q := 0) rfl ?_
        exact hret _ _ 77 _ (by omega) ⟨hI, hW⟩ ⟨⟨by omega, by omega⟩, hF⟩ dX12_wave_77
      · refine z_iload_n F dX12_wave_64 rfl (q := 1) rfl ?_
        refine z_aload_n F dX12_wave_65 rfl (q := 2) rfl ?_
        refine rf_X12_9 F gs_131 rfl dX12_wave_66 ?_
        refine z_bipush F dX12_wave_69 (by decide +kernel) ?_
        refine z_iald F hI gs_132 (by omega) (by omega) (by decide) (show Bd 132 24 = (-2147483648, 2147483647) from rfl) dX12_wave_71 (fun v19 (ev19 : v19 = M15 132 24) av19 bv19 => ?_)
        have q20 : v11 = M13 132 24 := ev11.trans ((fp14.at (by decide)) : M13 132 24 = _).symm
        refine z_isub F dX12_wave_72 ?_
        refine z_wrap (fun v21 rv21 wv21 => ?_)
        refine z_goto (tgt := 77) F dX12_wave_73 (by decide +kernel) ?_
        exact hret _ _ 77 _ (by omega) ⟨hI, hW⟩ ⟨⟨by omega, by omega⟩, hF⟩ dX12_wave_77
    · refine z_aload_n F dX12_wave_52 rfl (q := 2) rfl ?_
      refine gf_X12_472 F hI gs_131 rfl bd_131_27 dX12_wave_53 (fun v22 ev22 av22 bv22 => ?_)
      refine z_goto (tgt := 77) F dX12_wave_56 (by decide +kernel) ?_
      exact hret _ _ 77 _ (by omega) ⟨hI, hW⟩ ⟨⟨by omega, by omega⟩, hF⟩ dX12_wave_77
  · refine z_aload_n F dX12_wave_17 rfl (q := 0) rfl ?_
    refine z_iconst F dX12_wave_18 ?_
    refine zv_i (rest := []) F (k_X12_fails l M2 ⟨hI, hW⟩ 1 (by omega) (by omega)) cs_X12_262 (T := TX12) (N := 44) (ci := 12) rfl gs_131 (by decide) (by decide) rfl rfl rfl (Nat.le_of_ble_eq_true rfl) dX12_wave_19 (fun v23 M24 rv23 hI p25 => ?_)
    obtain ⟨hI, hW⟩ := hI
    obtain ⟨⟨av23, bv23⟩, fp25, xp25⟩ := p25
    have hF := hF.call fp25 (by decide)
    exact hret _ _ 22 _ (by omega) ⟨hI, hW⟩ ⟨⟨by omega, by omega⟩, hF⟩ dX12_wave_22
set_option maxRecDepth 4000 in
theorem k_X12_goWave (l : Launch) (M : Mem) (hJ : Iw M) : CI l yX12_goWave cX12_goWave 1 (some .int) 11 (fun ad => [.ref (ad 131)]) M (fun z M' => (0 ≤ z ∧ z ≤ 50) ∧ Fr [131, 132, 137] M M') := by
  obtain ⟨hI, hW⟩ := hJ
  have hF : Fr [131, 132, 137] M M := Fr.rf
  refine en_i (by decide +kernel) (fun ad => by exact Nat.le_of_ble_eq_true rfl) (fun D cy ad A p e s m args below meth c Q F hret => ?_)
  refine z_eq (ls' := [(0, .ref (ad 131))]) rfl rfl rfl ?_
  refine z_aload_n F dX12_goWave_0 rfl (q := 0) rfl ?_
  refine z_iconst F dX12_goWave_1 ?_
  refine pf_X12_73 F hI gs_131 rfl bd_131_4 rfl rfl dX12_goWave_2 (by omega) (by omega) (fun M2 hI sf1 f1 => ?_)
  have hF := hF.wrf f1 (by decide) (by decide)
  have hW : WFk M2 := hW.site f1 (by decide)
  refine z_aload_n F dX12_goWave_5 rfl (q := 0) rfl ?_
  refine zv_v (rest := []) F (k_X12_keeps l M2 ⟨hI, hW⟩) cs_X12_375 (T := TX12) (N := 44) (ci := 12) rfl gs_131 (by decide) (by decide) rfl rfl rfl (Nat.le_of_ble_eq_true rfl) dX12_goWave_6 (fun M3 hI p4 => ?_)
  obtain ⟨hI, hW⟩ := hI
  have fp4 := p4
  have hF := hF.call fp4 (by decide)
  refine z_aload_n F dX12_goWave_9 rfl (q := 0) rfl ?_
  refine zv_v (rest := []) F (k_X12_goesWave l M3 ⟨hI, hW⟩) cs_X12_478 (T := TX12) (N := 44) (ci := 12) rfl gs_131 (by decide) (by decide) rfl rfl rfl (Nat.le_of_ble_eq_true rfl) dX12_goWave_10 (fun M5 hI p6 => ?_)
  obtain ⟨hI, hW⟩ := hI
  have fp6 := p6
  have hF := hF.call fp6 (by decide)
  refine z_aload_n F dX12_goWave_13 rfl (q := 0) rfl ?_
  refine gf_X12_472 F hI gs_131 rfl bd_131_27 dX12_goWave_14 (fun v7 ev7 av7 bv7 => ?_)
  exact hret _ _ 17 _ (by omega) ⟨hI, hW⟩ ⟨⟨by omega, by omega⟩, hF⟩ dX12_goWave_17
set_option maxRecDepth 4000 in
theorem k_X12_goesCalm (l : Launch) : ∀ (nr : Nat) (M : Mem) (hJ : Iw M) (x0 : Int) (hx0a : 0 ≤ x0) (hx0b : x0 ≤ 6) (x1 : Int) (hx1a : 0 ≤ x1) (hx1b : x1 ≤ 63) (x2 : Int) (hx2a : (-2147483648) ≤ x2) (hx2b : x2 ≤ 2147483647) (hp0 : x0 + pcn x1.toNat ≤ 6) (hmu : x1 < (nr : Int)), CV l yX12_goesCalm cX12_goesCalm 7 none (8 + nr) (fun ad => [.ref (ad 131), ii x0, ii x1, ii x2]) M (fun M' => Fr [131, 132, 137, 141, 142] M M') := by
  intro nr
  induction nr with
  | zero => intro M hJ x0 hx0a hx0b x1 hx1a hx1b x2 hx2a hx2b hp0 hmu; exfalso; omega
  | succ nr ih =>
  intro M hJ x0 hx0a hx0b x1 hx1a hx1b x2 hx2a hx2b hp0 hmu
  obtain ⟨hI, hW⟩ := hJ
  have hF : Fr [131, 132, 137, 141, 142] M M := Fr.rf
  have hI0 := hI
  have hW0 := hW
  refine en_v (by decide +kernel) (fun ad => by exact Nat.le_of_ble_eq_true rfl) (fun D cy ad A p e s m args below meth c Q F hret => ?_)
  refine z_eq (ls' := [(0, .ref (ad 131)), (1, ii x0), (2, ii x1), (3, ii x2)]) rfl rfl rfl ?_
  refine z_aload_n F dX12_goesCalm_0 rfl (q := 0) rfl ?_
  refine gf_X12_481 F hI gs_131 rfl bd_131_32 dX12_goesCalm_1 (fun v1 ev1 av1 bv1 => ?_)
  refine z_if_eq (tgt := 16) F dX12_goesCalm_4 (by decide +kernel) (by omega) (fun c2 => ?_) (fun c2 => ?_)
  · refine z_iload_n F dX12_goesCalm_16 rfl (q := 2) rfl ?_
    refine z_if_ne (tgt := 60) F dX12_goesCalm_17 (by decide +kernel) (by omega) (fun c3 => ?_) (fun c3 => ?_)
    · have hp1 := pcn_1 (s := x1) (by omega) (by omega) (by omega)
      have k4 : 0 ≤ x0 ∧ x0 ≤ 5 := by omega
      refine z_iconst F dX12_goesCalm_60 ?_
      refine z_istore F dX12_goesCalm_61 (by decide) (ls' := [(4, ii 0), (0, .ref (ad 131)), (1, ii x0), (2, ii x1), (3, ii x2)]) rfl ?_
      refine z_loc [1, 2, 3, 4, 0] (ls' := [(0, .ref (ad 131)), (1, ii x0), (2, ii x1), (3, ii x2), (4, ii 0)]) rfl ?_
      suffices key63 : ∀ (n : Nat) (y6 : Int) (M5 : Mem), Inv M5 → WFk M5 → Fr [131, 132, 137, 141, 142] M M5 → 0 ≤ y6 → y6 ≤ 6 → 6 - y6 < (n : Int) → Z D cy ad p l e (RMh (8 + (nr + 1))) s m args below meth c A 7 0 0 Q 63 [(0, .ref (ad 131)), (1, ii x0), (2, ii x1), (3, ii x2), (4, ii y6)] [] M5 from key63 7 0 M hI hW hF (by omega) (by omega) (by omega)
      intro n63
      induction n63 with
      | zero => intro y6 M5 hI hW hF ay6 by6 hn63; exfalso; omega
      | succ n63 ih63 =>
        intro y6 M5 hI hW hF ay6 by6 hn63
        refine z_iload F dX12_goesCalm_63 (q := 4) rfl ?_
        refine z_aload_n F dX12_goesCalm_65 rfl (q := 0) rfl ?_
        refine rf_X12_9 F gs_131 rfl dX12_goesCalm_66 ?_
        refine z_iconst F dX12_goesCalm_69 ?_
        refine z_iald F hI gs_132 (by omega) (by omega) (by decide) (show Bd 132 4 = (0, 6) from rfl) dX12_goesCalm_70 (fun v7 (ev7 : v7 = M5 132 4) av7 bv7 => ?_)
        refine z_icmp_ge (tgt := 183) F dX12_goesCalm_71 (by decide +kernel) (by omega) (by omega) (fun c8 => ?_) (fun c8 => ?_)
        · exact hret _ 183 _ ⟨hI, hW⟩ hF dX12_goesCalm_183
        · refine z_iload_n F dX12_goesCalm_74 rfl (q := 2) rfl ?_
          refine z_iload F dX12_goesCalm_75 (q := 4) rfl ?_
          refine zs_i (rest := []) F (k_X12_has l M5 ⟨hI, hW⟩ x1 (by omega) (by omega) y6 (by omega) (by omega)) cs_X12_346 (by omega) (by decide) rfl rfl rfl (Nat.le_of_ble_eq_true rfl) dX12_goesCalm_77 (fun v9 M10 rv9 hI p11 => ?_)
          obtain ⟨hI, hW⟩ := hI
          obtain ⟨⟨av9, bv9⟩, rfl, xp11⟩ := p11
          have hbqy6 := xp11
          refine z_if_ne (tgt := 86) F dX12_goesCalm_80 (by decide +kernel) (by omega) (fun c12 => ?_) (fun c12 => ?_)
          · refine z_aload_n F dX12_goesCalm_86 rfl (q := 0) rfl ?_
            refine rf_X12_9 F gs_131 rfl dX12_goesCalm_87 ?_
            refine z_sipush F dX12_goesCalm_90 (by decide +kernel) ?_
            refine z_iconst F dX12_goesCalm_93 ?_
            refine z_iload F dX12_goesCalm_94 (q := 4) rfl ?_
            refine z_imul F dX12_goesCalm_96 ?_
            refine z_iadd F dX12_goesCalm_97 ?_
            refine z_iconst F dX12_goesCalm_98 ?_
            refine z_iadd F dX12_goesCalm_99 ?_
            refine z_iald F hI gs_132 (by omega) (by omega) (by decide) (bd_132.trans (kn_ev1 (by omega) (by omega) (by omega))) dX12_goesCalm_100 (fun v13 (ev13 : v13 = M5 132 _) av13 bv13 => ?_)
            refine z_istore F dX12_goesCalm_101 (by decide) (ls' := [(5, ii v13), (0, .ref (ad 131)), (1, ii x0), (2, ii x1), (3, ii x2), (4, ii y6)]) rfl ?_
            refine z_aload_n F dX12_goesCalm_103 rfl (q := 1) rfl ?_
            refine rf_X12_9 F gs_131 rfl dX12_goesCalm_104 ?_
            refine z_bipush F dX12_goesCalm_107 (by decide +kernel) ?_
            refine z_iload F dX12_goesCalm_109 (q := 0) rfl ?_
            refine z_iadd F dX12_goesCalm_111 ?_
            refine z_iald F hI gs_132 (by omega) (by omega) (by decide) (bd_132.trans (kn_any (by omega) (by omega))) dX12_goesCalm_112 (fun v14 (ev14 : v14 = M5 132 _) av14 bv14 => ?_)
            refine z_istore F dX12_goesCalm_113 (by decide) (ls' := [(6, ii v14), (5, ii v13), (0, .ref (ad 131)), (1, ii x0), (2, ii x1), (3, ii x2), (4, ii y6)]) rfl ?_
            refine z_aload_n F dX12_goesCalm_115 rfl (q := 2) rfl ?_
            refine z_iload F dX12_goesCalm_116 (q := 1) rfl ?_
            refine z_aload_n F dX12_goesCalm_118 rfl (q := 2) rfl ?_
            refine rf_X12_9 F gs_131 rfl dX12_goesCalm_119 ?_
            refine z_sipush F dX12_goesCalm_122 (by decide +kernel) ?_
            refine z_iconst F dX12_goesCalm_125 ?_
            refine z_iload F dX12_goesCalm_126 (q := 6) rfl ?_
            refine z_imul F dX12_goesCalm_128 ?_
            refine z_iadd F dX12_goesCalm_129 ?_
            refine z_iconst F dX12_goesCalm_130 ?_
            refine z_iadd F dX12_goesCalm_131 ?_
            refine z_iald F hI gs_132 (by omega) (by omega) (by decide) (bd_132.trans (kn_ev2 (by omega) (by omega) (by omega))) dX12_goesCalm_132 (fun v15 (ev15 : v15 = M5 132 _) av15 bv15 => ?_)
            refine zv_v (rest := []) F (k_X12_adds l M5 ⟨hI, hW⟩ v13 (by omega) (by omega) v15 (by omega) (by omega)) cs_X12_367 (T := TX12) (N := 44) (ci := 12) rfl gs_131 (by omega) (by decide) rfl rfl rfl (Nat.le_of_ble_eq_true rfl) dX12_goesCalm_133 (fun M16 hI p17 => ?_)
            obtain ⟨hI, hW⟩ := hI
            have fp17 := p17
            have hF := hF.call fp17 (by decide)
            refine z_aload_n F dX12_goesCalm_136 rfl (q := 2) rfl ?_
            refine rf_X12_42 F gs_131 rfl dX12_goesCalm_137 ?_
            refine z_iload_n F dX12_goesCalm_140 rfl (q := 3) rfl ?_
            refine z_iload F dX12_goesCalm_141 (q := 6) rfl ?_
            refine z_iast F hI gs_141 (by omega) (by omega) (by decide) bd_141 dX12_goesCalm_143 (by omega) (by omega) (fun M19 hI sf18 f18 => ?_)
            have hF := hF.wr f18 (by decide) (by decide)
            have hW : WFk M19 := hW.site f18 (by decide)
            refine z_aload_n F dX12_goesCalm_144 rfl (q := 2) rfl ?_
            refine z_iload_n F dX12_goesCalm_145 rfl (q := 3) rfl ?_
            refine z_iconst F dX12_goesCalm_146 ?_
            refine z_iadd F dX12_goesCalm_147 ?_
            refine z_iload_n F dX12_goesCalm_148 rfl (q := 4) rfl ?_
            refine z_iconst F dX12_goesCalm_149 ?_
            refine z_iload F dX12_goesCalm_150 (q := 6) rfl ?_
            refine z_shl1 (k := 5) F dX12_goesCalm_152 (by decide) (by omega) (by omega) (fun v20 ev20 av20 bv20 => ?_)
            refine z_iconst F dX12_goesCalm_153 ?_
            refine z_ixor0 F dX12_goesCalm_154 (fun v21 ev21 rv21 => ?_)
            refine z_iand_l F dX12_goesCalm_155 (by omega) (by omega) (fun v22 ev22 av22 bv22 => ?_)
            have hdr := drop10 (s := x1) (q := y6) (by omega) (by omega) (by omega) (by omega) (hbqy6.mp (by omega)) ev22 (by assumption) (by assumption)
            refine z_iload_n F dX12_goesCalm_156 rfl (q := 5) rfl ?_
            refine z_aload_n F dX12_goesCalm_157 rfl (q := 2) rfl ?_
            refine zv_i (rest := [ii x2, ii v22, ii (x0 + 1), .ref (ad 131)]) F (k_X12_allClashes l M19 ⟨hI, hW⟩) cs_X12_352 (T := TX12) (N := 44) (ci := 12) rfl gs_131 (by omega) (by decide) rfl rfl rfl (Nat.le_of_ble_eq_true rfl) dX12_goesCalm_158 (fun v23 M24 rv23 hI p25 => ?_)
            obtain ⟨hI, hW⟩ := hI
            obtain ⟨⟨av23, bv23⟩, fp25⟩ := p25
            have hF := hF.call fp25 (by decide)
            refine z_iadd F dX12_goesCalm_161 ?_
            refine z_wrap (fun v26 rv26 wv26 => ?_)
            refine zv_v (rest := []) F (ih M24 ⟨hI, hW⟩ (x0 + 1) (by omega) (by omega) v22 (by omega) (by omega) v26 (by omega) (by omega) (by omega) (by omega)) cs_X12_487 (T := TX12) (N := 44) (ci := 12) rfl gs_131 (by omega) (by decide) rfl rfl rfl (Nat.le_of_ble_eq_true rfl) dX12_goesCalm_162 (fun M27 hI p28 => ?_)
            obtain ⟨hI, hW⟩ := hI
            have fp28 := p28
            have hF := hF.call fp28 (by decide)
            refine z_aload_n F dX12_goesCalm_165 rfl (q := 2) rfl ?_
            refine rf_X12_9 F gs_131 rfl dX12_goesCalm_166 ?_
            refine z_bipush F dX12_goesCalm_169 (by decide +kernel) ?_
            refine z_iload F dX12_goesCalm_171 (q := 1) rfl ?_
            refine z_iadd F dX12_goesCalm_173 ?_
            refine z_iload F dX12_goesCalm_174 (q := 0) rfl ?_
            refine z_iast F hI gs_132 (by omega) (by omega) (by decide) (bd_132.trans (kn_any (by omega) (by omega))) dX12_goesCalm_176 (by omega) (by omega) (fun M30 hI sf29 f29 => ?_)
            have hF := hF.wrk f29 (by decide) (by omega)
            have hW : WFk M30 := hW.known f29 (by omega)
            refine z_iincN F dX12_goesCalm_177 (q := 6) rfl (by decide) (fun v31 ev31 => ?_)
            refine z_eq (ls' := [(4, ii v31), (6, ii v14), (5, ii v13), (0, .ref (ad 131)), (1, ii x0), (2, ii x1), (3, ii x2)]) rfl rfl rfl ?_
            refine z_goto (tgt := 63) F dX12_goesCalm_180 (by decide +kernel) ?_
            refine z_loc [3, 4, 5, 6, 0] (ls' := [(0, .ref (ad 131)), (1, ii x0), (2, ii x1), (3, ii x2), (4, ii v31)]) rfl ?_
            exact ih63 v31 M30 hI hW hF (by omega) (by omega) (by omega)
          · refine z_goto (tgt := 177) F dX12_goesCalm_83 (by decide +kernel) ?_
            refine z_iincN F dX12_goesCalm_177 (q := 4) rfl (by decide) (fun v32 ev32 => ?_)
            refine z_eq (ls' := [(4, ii v32), (0, .ref (ad 131)), (1, ii x0), (2, ii x1), (3, ii x2)]) rfl rfl rfl ?_
            refine z_goto (tgt := 63) F dX12_goesCalm_180 (by decide +kernel) ?_
            refine z_loc [1, 2, 3, 4, 0] (ls' := [(0, .ref (ad 131)), (1, ii x0), (2, ii x1), (3, ii x2), (4, ii v32)]) rfl ?_
            exact ih63 v32 M5 hI hW hF (by omega) (by omega) (by omega)
    · refine z_aload_n F dX12_goesCalm_20 rfl (q := 0) rfl ?_
      refine z_iconst F dX12_goesCalm_21 ?_
      refine pf_X12_481 F hI gs_131 rfl bd_131_32 (nar_z (by omega) (by omega)) (fit_z (by omega) (by omega)) dX12_goesCalm_22 (by omega) (by omega) (fun M34 hI sf33 f33 => ?_)
      have hF := hF.wrf f33 (by decide) (by decide)
      have hW : WFk M34 := hW.site f33 (by decide)
      refine z_aload_n F dX12_goesCalm_25 rfl (q := 0) rfl ?_
      refine z_iload_n F dX12_goesCalm_26 rfl (q := 3) rfl ?_
      refine pf_X12_484 F hI gs_131 rfl bd_131_31 rfl rfl dX12_goesCalm_27 (by omega) (by omega) (fun M36 hI sf35 f35 => ?_)
      have hF := hF.wrf f35 (by decide) (by decide)
      have hW : WFk M36 := hW.site f35 (by decide)
      refine z_iconst F dX12_goesCalm_30 ?_
      refine z_istore F dX12_goesCalm_31 (by decide) (ls' := [(4, ii 0), (0, .ref (ad 131)), (1, ii x0), (2, ii x1), (3, ii x2)]) rfl ?_
      refine z_loc [1, 2, 0] (ls' := [(0, .ref (ad 131)), (1, ii x0), (4, ii 0)]) rfl ?_
      suffices key33 : ∀ (n : Nat) (y38 : Int) (M37 : Mem), Inv M37 → WFk M37 → Fr [131, 132, 137, 141, 142] M M37 → 0 ≤ y38 → y38 ≤ 6 → 6 - y38 < (n : Int) → Z D cy ad p l e (RMh (8 + (nr + 1))) s m args below meth c A 7 0 0 Q 33 [(0, .ref (ad 131)), (1, ii x0), (4, ii y38)] [] M37 from key33 7 0 M36 hI hW hF (by omega) (by omega) (by omega)
      intro n33
      induction n33 with
      | zero => intro y38 M37 hI hW hF ay38 by38 hn33; exfalso; omega
      | succ n33 ih33 =>
        intro y38 M37 hI hW hF ay38 by38 hn33
        refine z_iload F dX12_goesCalm_33 (q := 2) rfl ?_
        refine z_iload_n F dX12_goesCalm_35 rfl (q := 1) rfl ?_
        refine z_icmp_ge (tgt := 59) F dX12_goesCalm_36 (by decide +kernel) (by omega) (by omega) (fun c39 => ?_) (fun c39 => ?_)
        · exact hret _ 59 _ ⟨hI, hW⟩ hF dX12_goesCalm_59
        · refine z_aload_n F dX12_goesCalm_39 rfl (q := 0) rfl ?_
          refine rf_X12_45 F gs_131 rfl dX12_goesCalm_40 ?_
          refine z_iload F dX12_goesCalm_43 (q := 2) rfl ?_
          refine z_aload_n F dX12_goesCalm_45 rfl (q := 0) rfl ?_
          refine rf_X12_42 F gs_131 rfl dX12_goesCalm_46 ?_
          refine z_iload F dX12_goesCalm_49 (q := 2) rfl ?_
          refine z_iald F hI gs_141 (by omega) (by omega) (by decide) bd_141 dX12_goesCalm_51 (fun v40 (ev40 : v40 = M37 141 _) av40 bv40 => ?_)
          refine z_iast F hI gs_142 (by omega) (by omega) (by decide) bd_142 dX12_goesCalm_52 (by omega) (by omega) (fun M42 hI sf41 f41 => ?_)
          have hF := hF.wr f41 (by decide) (by decide)
          have hW : WFk M42 := hW.site f41 (by decide)
          refine z_iincN F dX12_goesCalm_53 (q := 2) rfl (by decide) (fun v43 ev43 => ?_)
          refine z_eq (ls' := [(4, ii v43), (0, .ref (ad 131)), (1, ii x0)]) rfl rfl rfl ?_
          refine z_goto (tgt := 33) F dX12_goesCalm_56 (by decide +kernel) ?_
          refine z_loc [1, 2, 0] (ls' := [(0, .ref (ad 131)), (1, ii x0), (4, ii v43)]) rfl ?_
          exact ih33 v43 M42 hI hW hF (by omega) (by omega) (by omega)
  · refine z_iload_n F dX12_goesCalm_7 rfl (q := 3) rfl ?_
    refine z_aload_n F dX12_goesCalm_8 rfl (q := 0) rfl ?_
    refine gf_X12_484 F hI gs_131 rfl bd_131_31 dX12_goesCalm_9 (fun v44 ev44 av44 bv44 => ?_)
    refine z_icmp_lt (tgt := 16) F dX12_goesCalm_12 (by decide +kernel) (by omega) (by omega) (fun c45 => ?_) (fun c45 => ?_)
    · refine z_iload_n F dX12_goesCalm_16 rfl (q := 2) rfl ?_
      refine z_if_ne (tgt := 60) F dX12_goesCalm_17 (by decide +kernel) (by omega) (fun c46 => ?_) (fun c46 => ?_)
      · have hp1 := pcn_1 (s := x1) (by omega) (by omega) (by omega)
        have k47 : 0 ≤ x0 ∧ x0 ≤ 5 := by omega
        refine z_iconst F dX12_goesCalm_60 ?_
        refine z_istore F dX12_goesCalm_61 (by decide) (ls' := [(4, ii 0), (0, .ref (ad 131)), (1, ii x0), (2, ii x1), (3, ii x2)]) rfl ?_
        refine z_loc [1, 2, 3, 4, 0] (ls' := [(0, .ref (ad 131)), (1, ii x0), (2, ii x1), (3, ii x2), (4, ii 0)]) rfl ?_
        suffices key63 : ∀ (n : Nat) (y49 : Int) (M48 : Mem), Inv M48 → WFk M48 → Fr [131, 132, 137, 141, 142] M M48 → 0 ≤ y49 → y49 ≤ 6 → 6 - y49 < (n : Int) → Z D cy ad p l e (RMh (8 + (nr + 1))) s m args below meth c A 7 0 0 Q 63 [(0, .ref (ad 131)), (1, ii x0), (2, ii x1), (3, ii x2), (4, ii y49)] [] M48 from key63 7 0 M hI hW hF (by omega) (by omega) (by omega)
        intro n63
        induction n63 with
        | zero => intro y49 M48 hI hW hF ay49 by49 hn63; exfalso; omega
        | succ n63 ih63 =>
          intro y49 M48 hI hW hF ay49 by49 hn63
          refine z_iload F dX12_goesCalm_63 (q := 4) rfl ?_
          refine z_aload_n F dX12_goesCalm_65 rfl (q := 0) rfl ?_
          refine rf_X12_9 F gs_131 rfl dX12_goesCalm_66 ?_
          refine z_iconst F dX12_goesCalm_69 ?_
          refine z_iald F hI gs_132 (by omega) (by omega) (by decide) (show Bd 132 4 = (0, 6) from rfl) dX12_goesCalm_70 (fun v50 (ev50 : v50 = M48 132 4) av50 bv50 => ?_)
          refine z_icmp_ge (tgt := 183) F dX12_goesCalm_71 (by decide +kernel) (by omega) (by omega) (fun c51 => ?_) (fun c51 => ?_)
          · exact hret _ 183 _ ⟨hI, hW⟩ hF dX12_goesCalm_183
          · refine z_iload_n F dX12_goesCalm_74 rfl (q := 2) rfl ?_
            refine z_iload F dX12_goesCalm_75 (q := 4) rfl ?_
            refine zs_i (rest := []) F (k_X12_has l M48 ⟨hI, hW⟩ x1 (by omega) (by omega) y49 (by omega) (by omega)) cs_X12_346 (by omega) (by decide) rfl rfl rfl (Nat.le_of_ble_eq_true rfl) dX12_goesCalm_77 (fun v52 M53 rv52 hI p54 => ?_)
            obtain ⟨hI, hW⟩ := hI
            obtain ⟨⟨av52, bv52⟩, rfl, xp54⟩ := p54
            have hbqy49 := xp54
            refine z_if_ne (tgt := 86) F dX12_goesCalm_80 (by decide +kernel) (by omega) (fun c55 => ?_) (fun c55 => ?_)
            · refine z_aload_n F dX12_goesCalm_86 rfl (q := 0) rfl ?_
              refine rf_X12_9 F gs_131 rfl dX12_goesCalm_87 ?_
              refine z_sipush F dX12_goesCalm_90 (by decide +kernel) ?_
              refine z_iconst F dX12_goesCalm_93 ?_
              refine z_iload F dX12_goesCalm_94 (q := 4) rfl ?_
              refine z_imul F dX12_goesCalm_96 ?_
              refine z_iadd F dX12_goesCalm_97 ?_
              refine z_iconst F dX12_goesCalm_98 ?_
              refine z_iadd F dX12_goesCalm_99 ?_
              refine z_iald F hI gs_132 (by omega) (by omega) (by decide) (bd_132.trans (kn_ev1 (by omega) (by omega) (by omega))) dX12_goesCalm_100 (fun v56 (ev56 : v56 = M48 132 _) av56 bv56 => ?_)
              refine z_istore F dX12_goesCalm_101 (by decide) (ls' := [(5, ii v56), (0, .ref (ad 131)), (1, ii x0), (2, ii x1), (3, ii x2), (4, ii y49)]) rfl ?_
              refine z_aload_n F dX12_goesCalm_103 rfl (q := 1) rfl ?_
              refine rf_X12_9 F gs_131 rfl dX12_goesCalm_104 ?_
              refine z_bipush F dX12_goesCalm_107 (by decide +kernel) ?_
              refine z_iload F dX12_goesCalm_109 (q := 0) rfl ?_
              refine z_iadd F dX12_goesCalm_111 ?_
              refine z_iald F hI gs_132 (by omega) (by omega) (by decide) (bd_132.trans (kn_any (by omega) (by omega))) dX12_goesCalm_112 (fun v57 (ev57 : v57 = M48 132 _) av57 bv57 => ?_)
              refine z_istore F dX12_goesCalm_113 (by decide) (ls' := [(6, ii v57), (5, ii v56), (0, .ref (ad 131)), (1, ii x0), (2, ii x1), (3, ii x2), (4, ii y49)]) rfl ?_
              refine z_aload_n F dX12_goesCalm_115 rfl (q := 2) rfl ?_
              refine z_iload F dX12_goesCalm_116 (q := 1) rfl ?_
              refine z_aload_n F dX12_goesCalm_118 rfl (q := 2) rfl ?_
              refine rf_X12_9 F gs_131 rfl dX12_goesCalm_119 ?_
              refine z_sipush F dX12_goesCalm_122 (by decide +kernel) ?_
              refine z_iconst F dX12_goesCalm_125 ?_
              refine z_iload F dX12_goesCalm_126 (q := 6) rfl ?_
              refine z_imul F dX12_goesCalm_128 ?_
              refine z_iadd F dX12_goesCalm_129 ?_
              refine z_iconst F dX12_goesCalm_130 ?_
              refine z_iadd F dX12_goesCalm_131 ?_
              refine z_iald F hI gs_132 (by omega) (by omega) (by decide) (bd_132.trans (kn_ev2 (by omega) (by omega) (by omega))) dX12_goesCalm_132 (fun v58 (ev58 : v58 = M48 132 _) av58 bv58 => ?_)
              refine zv_v (rest := []) F (k_X12_adds l M48 ⟨hI, hW⟩ v56 (by omega) (by omega) v58 (by omega) (by omega)) cs_X12_367 (T := TX12) (N := 44) (ci := 12) rfl gs_131 (by omega) (by decide) rfl rfl rfl (Nat.le_of_ble_eq_true rfl) dX12_goesCalm_133 (fun M59 hI p60 => ?_)
              obtain ⟨hI, hW⟩ := hI
              have fp60 := p60
              have hF := hF.call fp60 (by decide)
              refine z_aload_n F dX12_goesCalm_136 rfl (q := 2) rfl ?_
              refine rf_X12_42 F gs_131 rfl dX12_goesCalm_137 ?_
              refine z_iload_n F dX12_goesCalm_140 rfl (q := 3) rfl ?_
              refine z_iload F dX12_goesCalm_141 (q := 6) rfl ?_
              refine z_iast F hI gs_141 (by omega) (by omega) (by decide) bd_141 dX12_goesCalm_143 (by omega) (by omega) (fun M62 hI sf61 f61 => ?_)
              have hF := hF.wr f61 (by decide) (by decide)
              have hW : WFk M62 := hW.site f61 (by decide)
              refine z_aload_n F dX12_goesCalm_144 rfl (q := 2) rfl ?_
              refine z_iload_n F dX12_goesCalm_145 rfl (q := 3) rfl ?_
              refine z_iconst F dX12_goesCalm_146 ?_
              refine z_iadd F dX12_goesCalm_147 ?_
              refine z_iload_n F dX12_goesCalm_148 rfl (q := 4) rfl ?_
              refine z_iconst F dX12_goesCalm_149 ?_
              refine z_iload F dX12_goesCalm_150 (q := 6) rfl ?_
              refine z_shl1 (k := 5) F dX12_goesCalm_152 (by decide) (by omega) (by omega) (fun v63 ev63 av63 bv63 => ?_)
              refine z_iconst F dX12_goesCalm_153 ?_
              refine z_ixor0 F dX12_goesCalm_154 (fun v64 ev64 rv64 => ?_)
              refine z_iand_l F dX12_goesCalm_155 (by omega) (by omega) (fun v65 ev65 av65 bv65 => ?_)
              have hdr := drop10 (s := x1) (q := y49) (by omega) (by omega) (by omega) (by omega) (hbqy49.mp (by omega)) ev65 (by assumption) (by assumption)
              refine z_iload_n F dX12_goesCalm_156 rfl (q := 5) rfl ?_
              refine z_aload_n F dX12_goesCalm_157 rfl (q := 2) rfl ?_
              refine zv_i (rest := [ii x2, ii v65, ii (x0 + 1), .ref (ad 131)]) F (k_X12_allClashes l M62 ⟨hI, hW⟩) cs_X12_352 (T := TX12) (N := 44) (ci := 12) rfl gs_131 (by omega) (by decide) rfl rfl rfl (Nat.le_of_ble_eq_true rfl) dX12_goesCalm_158 (fun v66 M67 rv66 hI p68 => ?_)
              obtain ⟨hI, hW⟩ := hI
              obtain ⟨⟨av66, bv66⟩, fp68⟩ := p68
              have hF := hF.call fp68 (by decide)
              refine z_iadd F dX12_goesCalm_161 ?_
              refine z_wrap (fun v69 rv69 wv69 => ?_)
              refine zv_v (rest := []) F (ih M67 ⟨hI, hW⟩ (x0 + 1) (by omega) (by omega) v65 (by omega) (by omega) v69 (by omega) (by omega) (by omega) (by omega)) cs_X12_487 (T := TX12) (N := 44) (ci := 12) rfl gs_131 (by omega) (by decide) rfl rfl rfl (Nat.le_of_ble_eq_true rfl) dX12_goesCalm_162 (fun M70 hI p71 => ?_)
              obtain ⟨hI, hW⟩ := hI
              have fp71 := p71
              have hF := hF.call fp71 (by decide)
              refine z_aload_n F dX12_goesCalm_165 rfl (q := 2) rfl ?_
              refine rf_X12_9 F gs_131 rfl dX12_goesCalm_166 ?_
              refine z_bipush F dX12_goesCalm_169 (by decide +kernel) ?_
              refine z_iload F dX12_goesCalm_171 (q := 1) rfl ?_
              refine z_iadd F dX12_goesCalm_173 ?_
              refine z_iload F dX12_goesCalm_174 (q := 0) rfl ?_
              refine z_iast F hI gs_132 (by omega) (by omega) (by decide) (bd_132.trans (kn_any (by omega) (by omega))) dX12_goesCalm_176 (by omega) (by omega) (fun M73 hI sf72 f72 => ?_)
              have hF := hF.wrk f72 (by decide) (by omega)
              have hW : WFk M73 := hW.known f72 (by omega)
              refine z_iincN F dX12_goesCalm_177 (q := 6) rfl (by decide) (fun v74 ev74 => ?_)
              refine z_eq (ls' := [(4, ii v74), (6, ii v57), (5, ii v56), (0, .ref (ad 131)), (1, ii x0), (2, ii x1), (3, ii x2)]) rfl rfl rfl ?_
              refine z_goto (tgt := 63) F dX12_goesCalm_180 (by decide +kernel) ?_
              refine z_loc [3, 4, 5, 6, 0] (ls' := [(0, .ref (ad 131)), (1, ii x0), (2, ii x1), (3, ii x2), (4, ii v74)]) rfl ?_
              exact ih63 v74 M73 hI hW hF (by omega) (by omega) (by omega)
            · refine z_goto (tgt := 177) F dX12_goesCalm_83 (by decide +kernel) ?_
              refine z_iincN F dX12_goesCalm_177 (q := 4) rfl (by decide) (fun v75 ev75 => ?_)
              refine z_eq (ls' := [(4, ii v75), (0, .ref (ad 131)), (1, ii x0), (2, ii x1), (3, ii x2)]) rfl rfl rfl ?_
              refine z_goto (tgt := 63) F dX12_goesCalm_180 (by decide +kernel) ?_
              refine z_loc [1, 2, 3, 4, 0] (ls' := [(0, .ref (ad 131)), (1, ii x0), (2, ii x1), (3, ii x2), (4, ii v75)]) rfl ?_
              exact ih63 v75 M48 hI hW hF (by omega) (by omega) (by omega)
      · refine z_aload_n F dX12_goesCalm_20 rfl (q := 0) rfl ?_
        refine z_iconst F dX12_goesCalm_21 ?_
        refine pf_X12_481 F hI gs_131 rfl bd_131_32 (nar_z (by omega) (by omega)) (fit_z (by omega) (by omega)) dX12_goesCalm_22 (by omega) (by omega) (fun M77 hI sf76 f76 => ?_)
        have hF := hF.wrf f76 (by decide) (by decide)
        have hW : WFk M77 := hW.site f76 (by decide)
        refine z_aload_n F dX12_goesCalm_25 rfl (q := 0) rfl ?_
        refine z_iload_n F dX12_goesCalm_26 rfl (q := 3) rfl ?_
        refine pf_X12_484 F hI gs_131 rfl bd_131_31 rfl rfl dX12_goesCalm_27 (by omega) (by omega) (fun M79 hI sf78 f78 => ?_)
        have hF := hF.wrf f78 (by decide) (by decide)
        have hW : WFk M79 := hW.site f78 (by decide)
        refine z_iconst F dX12_goesCalm_30 ?_
        refine z_istore F dX12_goesCalm_31 (by decide) (ls' := [(4, ii 0), (0, .ref (ad 131)), (1, ii x0), (2, ii x1), (3, ii x2)]) rfl ?_
        refine z_loc [1, 2, 0] (ls' := [(0, .ref (ad 131)), (1, ii x0), (4, ii 0)]) rfl ?_
        suffices key33 : ∀ (n : Nat) (y81 : Int) (M80 : Mem), Inv M80 → WFk M80 → Fr [131, 132, 137, 141, 142] M M80 → 0 ≤ y81 → y81 ≤ 6 → 6 - y81 < (n : Int) → Z D cy ad p l e (RMh (8 + (nr + 1))) s m args below meth c A 7 0 0 Q 33 [(0, .ref (ad 131)), (1, ii x0), (4, ii y81)] [] M80 from key33 7 0 M79 hI hW hF (by omega) (by omega) (by omega)
        intro n33
        induction n33 with
        | zero => intro y81 M80 hI hW hF ay81 by81 hn33; exfalso; omega
        | succ n33 ih33 =>
          intro y81 M80 hI hW hF ay81 by81 hn33
          refine z_iload F dX12_goesCalm_33 (q := 2) rfl ?_
          refine z_iload_n F dX12_goesCalm_35 rfl (q := 1) rfl ?_
          refine z_icmp_ge (tgt := 59) F dX12_goesCalm_36 (by decide +kernel) (by omega) (by omega) (fun c82 => ?_) (fun c82 => ?_)
          · exact hret _ 59 _ ⟨hI, hW⟩ hF dX12_goesCalm_59
          · refine z_aload_n F dX12_goesCalm_39 rfl (q := 0) rfl ?_
            refine rf_X12_45 F gs_131 rfl dX12_goesCalm_40 ?_
            refine z_iload F dX12_goesCalm_43 (q := 2) rfl ?_
            refine z_aload_n F dX12_goesCalm_45 rfl (q := 0) rfl ?_
            refine rf_X12_42 F gs_131 rfl dX12_goesCalm_46 ?_
            refine z_iload F dX12_goesCalm_49 (q := 2) rfl ?_
            refine z_iald F hI gs_141 (by omega) (by omega) (by decide) bd_141 dX12_goesCalm_51 (fun v83 (ev83 : v83 = M80 141 _) av83 bv83 => ?_)
            refine z_iast F hI gs_142 (by omega) (by omega) (by decide) bd_142 dX12_goesCalm_52 (by omega) (by omega) (fun M85 hI sf84 f84 => ?_)
            have hF := hF.wr f84 (by decide) (by decide)
            have hW : WFk M85 := hW.site f84 (by decide)
            refine z_iincN F dX12_goesCalm_53 (q := 2) rfl (by decide) (fun v86 ev86 => ?_)
            refine z_eq (ls' := [(4, ii v86), (0, .ref (ad 131)), (1, ii x0)]) rfl rfl rfl ?_
            refine z_goto (tgt := 33) F dX12_goesCalm_56 (by decide +kernel) ?_
            refine z_loc [1, 2, 0] (ls' := [(0, .ref (ad 131)), (1, ii x0), (4, ii v86)]) rfl ?_
            exact ih33 v86 M85 hI hW hF (by omega) (by omega) (by omega)
    · exact hret _ 15 _ ⟨hI, hW⟩ hF dX12_goesCalm_15
set_option maxRecDepth 4000 in
theorem k_X12_calm (l : Launch) (M : Mem) (hJ : Iw M) (x0 : Int) (hx0a : (-2147483648) ≤ x0) (hx0b : x0 ≤ 2147483647) : CI l yX12_calm cX12_calm 2 (some .int) 73 (fun ad => [.ref (ad 131), ii x0]) M (fun z M' => ((-2147483648) ≤ z ∧ z ≤ 2147483647) ∧ Fr [131, 132, 137, 141, 142] M M') := by
  obtain ⟨hI, hW⟩ := hJ
  have hF : Fr [131, 132, 137, 141, 142] M M := Fr.rf
  refine en_i (by decide +kernel) (fun ad => by exact Nat.le_of_ble_eq_true rfl) (fun D cy ad A p e s m args below meth c Q F hret => ?_)
  refine z_eq (ls' := [(0, .ref (ad 131)), (1, ii x0)]) rfl rfl rfl ?_
  refine z_aload_n F dX12_calm_0 rfl (q := 0) rfl ?_
  refine z_iconst F dX12_calm_1 ?_
  refine pf_X12_73 F hI gs_131 rfl bd_131_4 rfl rfl dX12_calm_2 (by omega) (by omega) (fun M2 hI sf1 f1 => ?_)
  have hF := hF.wrf f1 (by decide) (by decide)
  have hW : WFk M2 := hW.site f1 (by decide)
  refine z_iload_n F dX12_calm_5 rfl (q := 1) rfl ?_
  refine z_if_eq (tgt := 29) F dX12_calm_6 (by decide +kernel) (by omega) (fun c3 => ?_) (fun c3 => ?_)
  · refine z_aload_n F dX12_calm_29 rfl (q := 0) rfl ?_
    refine z_iconst F dX12_calm_30 ?_
    refine pf_X12_481 F hI gs_131 rfl bd_131_32 (nar_z (by omega) (by omega)) (fit_z (by omega) (by omega)) dX12_calm_31 (by omega) (by omega) (fun M5 hI sf4 f4 => ?_)
    have hF := hF.wrf f4 (by decide) (by decide)
    have hW : WFk M5 := hW.site f4 (by decide)
    refine z_aload_n F dX12_calm_34 rfl (q := 0) rfl ?_
    refine z_iconst F dX12_calm_35 ?_
    refine z_iconst F dX12_calm_36 ?_
    refine z_aload_n F dX12_calm_37 rfl (q := 0) rfl ?_
    refine rf_X12_9 F gs_131 rfl dX12_calm_38 ?_
    refine z_iconst F dX12_calm_41 ?_
    refine z_iald F hI gs_132 (by omega) (by omega) (by decide) (show Bd 132 4 = (0, 6) from rfl) dX12_calm_42 (fun v6 (ev6 : v6 = M5 132 4) av6 bv6 => ?_)
    refine z_shl1 (k := 6) F dX12_calm_43 (by decide) (by omega) (by omega) (fun v7 ev7 av7 bv7 => ?_)
    refine z_iconst F dX12_calm_44 ?_
    refine z_isub F dX12_calm_45 ?_
    have hpa := pcn_all (by omega) (by omega) ev7
    refine z_iconst F dX12_calm_46 ?_
    refine zv_v (rest := []) F (k_X12_goesCalm l 64 M5 ⟨hI, hW⟩ 0 (by omega) (by omega) (v7 - 1) (by omega) (by omega) 0 (by omega) (by omega) (by omega) (by omega)) cs_X12_487 (T := TX12) (N := 44) (ci := 12) rfl gs_131 (by decide) (by decide) rfl rfl rfl (Nat.le_of_ble_eq_true rfl) dX12_calm_47 (fun M8 hI p9 => ?_)
    obtain ⟨hI, hW⟩ := hI
    have fp9 := p9
    have hF := hF.call fp9 (by decide)
    refine z_iload_n F dX12_calm_50 rfl (q := 1) rfl ?_
    refine z_if_ne (tgt := 61) F dX12_calm_51 (by decide +kernel) (by omega) (fun c10 => by exfalso; omega) (fun c10 => ?_)
    refine z_aload_n F dX12_calm_54 rfl (q := 0) rfl ?_
    refine gf_X12_484 F hI gs_131 rfl bd_131_31 dX12_calm_55 (fun v11 ev11 av11 bv11 => ?_)
    refine z_goto (tgt := 87) F dX12_calm_58 (by decide +kernel) ?_
    exact hret _ _ 87 _ (by omega) ⟨hI, hW⟩ ⟨⟨by omega, by omega⟩, hF⟩ dX12_calm_87
  · refine z_iload_n F dX12_calm_9 rfl (q := 1) rfl ?_
    refine z_i2l F dX12_calm_10 (by omega) ?_
    refine z_ldc2 (x := 10) F dX12_calm_11 (gin lm_161 rfl) (by decide +kernel) ?_
    refine z_ldc2 (x := 15) F dX12_calm_14 (gin lm_248 rfl) (by decide +kernel) ?_
    refine zs_i (rest := []) F (k_X12_within l M2 ⟨hI, hW⟩ x0 (by omega) (by omega) 10 (by omega) (by omega) 15 (by omega) (by omega)) cs_X12_137 (by decide) (by decide) rfl rfl rfl (Nat.le_of_ble_eq_true rfl) dX12_calm_17 (fun v12 M13 rv12 hI p14 => ?_)
    obtain ⟨hI, hW⟩ := hI
    obtain ⟨⟨av12, bv12⟩, rfl, xp14⟩ := p14
    refine z_if_ne (tgt := 29) F dX12_calm_20 (by decide +kernel) (by omega) (fun c15 => ?_) (fun c15 => ?_)
    · refine z_aload_n F dX12_calm_29 rfl (q := 0) rfl ?_
      refine z_iconst F dX12_calm_30 ?_
      refine pf_X12_481 F hI gs_131 rfl bd_131_32 (nar_z (by omega) (by omega)) (fit_z (by omega) (by omega)) dX12_calm_31 (by omega) (by omega) (fun M17 hI sf16 f16 => ?_)
      have hF := hF.wrf f16 (by decide) (by decide)
      have hW : WFk M17 := hW.site f16 (by decide)
      refine z_aload_n F dX12_calm_34 rfl (q := 0) rfl ?_
      refine z_iconst F dX12_calm_35 ?_
      refine z_iconst F dX12_calm_36 ?_
      refine z_aload_n F dX12_calm_37 rfl (q := 0) rfl ?_
      refine rf_X12_9 F gs_131 rfl dX12_calm_38 ?_
      refine z_iconst F dX12_calm_41 ?_
      refine z_iald F hI gs_132 (by omega) (by omega) (by decide) (show Bd 132 4 = (0, 6) from rfl) dX12_calm_42 (fun v18 (ev18 : v18 = M17 132 4) av18 bv18 => ?_)
      refine z_shl1 (k := 6) F dX12_calm_43 (by decide) (by omega) (by omega) (fun v19 ev19 av19 bv19 => ?_)
      refine z_iconst F dX12_calm_44 ?_
      refine z_isub F dX12_calm_45 ?_
      have hpa := pcn_all (by omega) (by omega) ev19
      refine z_iconst F dX12_calm_46 ?_
      refine zv_v (rest := []) F (k_X12_goesCalm l 64 M17 ⟨hI, hW⟩ 0 (by omega) (by omega) (v19 - 1) (by omega) (by omega) 0 (by omega) (by omega) (by omega) (by omega)) cs_X12_487 (T := TX12) (N := 44) (ci := 12) rfl gs_131 (by decide) (by decide) rfl rfl rfl (Nat.le_of_ble_eq_true rfl) dX12_calm_47 (fun M20 hI p21 => ?_)
      obtain ⟨hI, hW⟩ := hI
      have fp21 := p21
      have hF := hF.call fp21 (by decide)
      refine z_iload_n F dX12_calm_50 rfl (q := 1) rfl ?_
      refine z_if_ne (tgt := 61) F dX12_calm_51 (by decide +kernel) (by omega) (fun c22 => ?_) (fun c22 => by exfalso; omega)
      refine z_iload_n F dX12_calm_61 rfl (q := 1) rfl ?_
      refine z_bipush F dX12_calm_62 (by decide +kernel) ?_
      refine z_isub F dX12_calm_64 ?_
      refine z_aload_n F dX12_calm_65 rfl (q := 0) rfl ?_
      refine rf_X12_9 F gs_131 rfl dX12_calm_66 ?_
      refine z_iconst F dX12_calm_69 ?_
      refine z_iald F hI gs_132 (by omega) (by omega) (by decide) (show Bd 132 4 = (0, 6) from rfl) dX12_calm_70 (fun v23 (ev23 : v23 = M20 132 4) av23 bv23 => ?_)
      have q24 : v18 = M20 132 4 := ev18.trans ((fp21.st (by decide) (by unfold stat; omega)) : M20 132 4 = _).symm
      have zv23 : v18 = v23 := q24.trans ev23.symm
      subst zv23
      refine z_icmp_ge (tgt := 86) F dX12_calm_71 (by decide +kernel) (by omega) (by omega) (fun c25 => ?_) (fun c25 => ?_)
      · refine z_iconst F dX12_calm_86 ?_
        exact hret _ _ 87 _ (by omega) ⟨hI, hW⟩ ⟨⟨by omega, by omega⟩, hF⟩ dX12_calm_87
      · refine z_aload_n F dX12_calm_74 rfl (q := 0) rfl ?_
        refine rf_X12_45 F gs_131 rfl dX12_calm_75 ?_
        refine z_iload_n F dX12_calm_78 rfl (q := 1) rfl ?_
        refine z_bipush F dX12_calm_79 (by decide +kernel) ?_
        refine z_isub F dX12_calm_81 ?_
        refine z_iald F hI gs_142 (by omega) (by omega) (by decide) bd_142 dX12_calm_82 (fun v26 (ev26 : v26 = M20 142 _) av26 bv26 => ?_)
        refine z_goto (tgt := 87) F dX12_calm_83 (by decide +kernel) ?_
        exact hret _ _ 87 _ (by omega) ⟨hI, hW⟩ ⟨⟨by omega, by omega⟩, hF⟩ dX12_calm_87
    · refine z_aload_n F dX12_calm_23 rfl (q := 0) rfl ?_
      refine z_iconst F dX12_calm_24 ?_
      refine zv_i (rest := []) F (k_X12_fails l M2 ⟨hI, hW⟩ 1 (by omega) (by omega)) cs_X12_262 (T := TX12) (N := 44) (ci := 12) rfl gs_131 (by decide) (by decide) rfl rfl rfl (Nat.le_of_ble_eq_true rfl) dX12_calm_25 (fun v27 M28 rv27 hI p29 => ?_)
      obtain ⟨hI, hW⟩ := hI
      obtain ⟨⟨av27, bv27⟩, fp29, xp29⟩ := p29
      have hF := hF.call fp29 (by decide)
      exact hret _ _ 28 _ (by omega) ⟨hI, hW⟩ ⟨⟨by omega, by omega⟩, hF⟩ dX12_calm_28
set_option maxRecDepth 4000 in
theorem k_X12_event (l : Launch) (M : Mem) (hJ : Iw M) (x0 : Int) (hx0a : (-2147483648) ≤ x0) (hx0b : x0 ≤ 2147483647) (x1 : Int) (hx1a : (-2147483648) ≤ x1) (hx1b : x1 ≤ 2147483647) : CI l yX12_event cX12_event 3 (some .int) 2 (fun ad => [.ref (ad 131), ii x0, ii x1]) M (fun z M' => ((-2147483648) ≤ z ∧ z ≤ 2147483647) ∧ Fr [131] M M') := by
  obtain ⟨hI, hW⟩ := hJ
  have hF : Fr [131] M M := Fr.rf
  refine en_i (by decide +kernel) (fun ad => by exact Nat.le_of_ble_eq_true rfl) (fun D cy ad A p e s m args below meth c Q F hret => ?_)
  refine z_eq (ls' := [(0, .ref (ad 131)), (1, ii x0), (2, ii x1)]) rfl rfl rfl ?_
  refine z_aload_n F dX12_event_0 rfl (q := 0) rfl ?_
  refine z_iload_n F dX12_event_1 rfl (q := 1) rfl ?_
  refine z_i2l F dX12_event_2 (by omega) ?_
  refine z_lconst (x := 0) F dX12_event_3 (by decide +kernel) ?_
  refine z_aload_n F dX12_event_4 rfl (q := 0) rfl ?_
  refine rf_X12_9 F gs_131 rfl dX12_event_5 ?_
  refine z_iconst F dX12_event_8 ?_
  refine z_iald F hI gs_132 (by omega) (by omega) (by decide) (show Bd 132 4 = (0, 6) from rfl) dX12_event_9 (fun v1 (ev1 : v1 = M 132 4) av1 bv1 => ?_)
  refine z_iconst F dX12_event_10 ?_
  refine z_isub F dX12_event_11 ?_
  refine z_i2l F dX12_event_12 (by omega) ?_
  refine zs_i (rest := [.ref (ad 131)]) F (k_X12_within l M ⟨hI, hW⟩ x0 (by omega) (by omega) 0 (by omega) (by omega) (v1 - 1) (by omega) (by omega)) cs_X12_137 (by decide) (by decide) rfl rfl rfl (Nat.le_of_ble_eq_true rfl) dX12_event_13 (fun v2 M3 rv2 hI p4 => ?_)
  obtain ⟨hI, hW⟩ := hI
  obtain ⟨⟨av2, bv2⟩, rfl, xp4⟩ := p4
  refine z_if_ne (tgt := 23) F dX12_event_16 (by decide +kernel) (by omega) (fun c5 => ?_) (fun c5 => ?_)
  · refine z_iload_n F dX12_event_23 rfl (q := 2) rfl ?_
    refine z_i2l F dX12_event_24 (by omega) ?_
    refine z_lconst (x := 0) F dX12_event_25 (by decide +kernel) ?_
    refine z_ldc2 (x := 2) F dX12_event_26 (gin lm_93 rfl) (by decide +kernel) ?_
    refine zs_i (rest := [.ref (ad 131)]) F (k_X12_within l M ⟨hI, hW⟩ x1 (by omega) (by omega) 0 (by omega) (by omega) 2 (by omega) (by omega)) cs_X12_137 (by decide) (by decide) rfl rfl rfl (Nat.le_of_ble_eq_true rfl) dX12_event_29 (fun v6 M7 rv6 hI p8 => ?_)
    obtain ⟨hI, hW⟩ := hI
    obtain ⟨⟨av6, bv6⟩, rfl, xp8⟩ := p8
    refine z_if_eq (tgt := 39) F dX12_event_32 (by decide +kernel) (by omega) (fun c9 => ?_) (fun c9 => ?_)
    · refine z_iconst F dX12_event_39 ?_
      refine pf_X12_73 F hI gs_131 rfl bd_131_4 rfl rfl dX12_event_40 (by omega) (by omega) (fun M11 hI sf10 f10 => ?_)
      have hF := hF.wrf f10 (by decide) (by decide)
      have hW : WFk M11 := hW.site f10 (by decide)
      refine z_aload_n F dX12_event_43 rfl (q := 0) rfl ?_
      refine gf_X12_73 F hI gs_131 rfl bd_131_4 dX12_event_44 (fun v12 ev12 av12 bv12 => ?_)
      have zv12 : 2 = v12 := sf10.symm.trans ev12.symm
      subst zv12
      refine z_if_le (tgt := 54) F dX12_event_47 (by decide +kernel) (by omega) (fun c13 => by exfalso; omega) (fun c13 => ?_)
      refine z_iconst F dX12_event_50 ?_
      refine z_goto (tgt := 68) F dX12_event_51 (by decide +kernel) ?_
      exact hret _ _ 68 _ (by omega) ⟨hI, hW⟩ ⟨⟨by omega, by omega⟩, hF⟩ dX12_event_68
    · refine z_iconst F dX12_event_35 ?_
      refine z_goto (tgt := 40) F dX12_event_36 (by decide +kernel) ?_
      refine pf_X12_73 F hI gs_131 rfl bd_131_4 rfl rfl dX12_event_40 (by omega) (by omega) (fun M15 hI sf14 f14 => ?_)
      have hF := hF.wrf f14 (by decide) (by decide)
      have hW : WFk M15 := hW.site f14 (by decide)
      refine z_aload_n F dX12_event_43 rfl (q := 0) rfl ?_
      refine gf_X12_73 F hI gs_131 rfl bd_131_4 dX12_event_44 (fun v16 ev16 av16 bv16 => ?_)
      have zv16 : 0 = v16 := sf14.symm.trans ev16.symm
      subst zv16
      refine z_if_le (tgt := 54) F dX12_event_47 (by decide +kernel) (by omega) (fun c17 => ?_) (fun c17 => by exfalso; omega)
      refine z_aload_n F dX12_event_54 rfl (q := 0) rfl ?_
      refine rf_X12_9 F gs_131 rfl dX12_event_55 ?_
      refine z_sipush F dX12_event_58 (by decide +kernel) ?_
      refine z_iconst F dX12_event_61 ?_
      refine z_iload_n F dX12_event_62 rfl (q := 1) rfl ?_
      refine z_imul F dX12_event_63 ?_
      refine z_iadd F dX12_event_64 ?_
      refine z_iload_n F dX12_event_65 rfl (q := 2) rfl ?_
      refine z_iadd F dX12_event_66 ?_
      refine z_ialdB F hI gs_132 (by omega) (by omega) (by decide) kn_w dX12_event_67 (fun v18 ev18 av18 bv18 rv18 => ?_)
      exact hret _ _ 68 _ (by omega) ⟨hI, hW⟩ ⟨⟨by omega, by omega⟩, hF⟩ dX12_event_68
  · refine z_iconst F dX12_event_19 ?_
    refine z_goto (tgt := 40) F dX12_event_20 (by decide +kernel) ?_
    refine pf_X12_73 F hI gs_131 rfl bd_131_4 rfl rfl dX12_event_40 (by omega) (by omega) (fun M20 hI sf19 f19 => ?_)
    have hF := hF.wrf f19 (by decide) (by decide)
    have hW : WFk M20 := hW.site f19 (by decide)
    refine z_aload_n F dX12_event_43 rfl (q := 0) rfl ?_
    refine gf_X12_73 F hI gs_131 rfl bd_131_4 dX12_event_44 (fun v21 ev21 av21 bv21 => ?_)
    have zv21 : 1 = v21 := sf19.symm.trans ev21.symm
    subst zv21
    refine z_if_le (tgt := 54) F dX12_event_47 (by decide +kernel) (by omega) (fun c22 => by exfalso; omega) (fun c22 => ?_)
    refine z_iconst F dX12_event_50 ?_
    refine z_goto (tgt := 68) F dX12_event_51 (by decide +kernel) ?_
    exact hret _ _ 68 _ (by omega) ⟨hI, hW⟩ ⟨⟨by omega, by omega⟩, hF⟩ dX12_event_68
set_option maxRecDepth 4000 in
theorem k_X12_areUnlike (l : Launch) (M : Mem) (hJ : Iw M) (x0 : Int) (hx0a : 0 ≤ x0) (hx0b : x0 ≤ 3) : CI l yX12_areUnlike cX12_areUnlike 4 (some .boolean) 3 (fun ad => [.ref (ad 131), ii x0]) M (fun z M' => (0 ≤ z ∧ z ≤ 1) ∧ M = M' ∧ (z = 1 → 1 ≤ M 149 x0.toNat ∧ M 149 x0.toNat ≤ 10 ∧ ∀ j : Int, 0 ≤ j → j < M 149 x0.toNat → 0 ≤ M 150 (30 * x0 + j).toNat ∧ M 150 (30 * x0 + j).toNat ≤ 7)) := by
  obtain ⟨hI, hW⟩ := hJ
  refine en_z (by decide +kernel) (fun ad => by exact Nat.le_of_ble_eq_true rfl) (fun D cy ad A p e s m args below meth c Q F hret => ?_)
  refine z_eq (ls' := [(0, .ref (ad 131)), (1, ii x0)]) rfl rfl rfl ?_
  refine z_aload_n F dX12_areUnlike_0 rfl (q := 0) rfl ?_
  refine rf_X12_66 F gs_131 rfl dX12_areUnlike_1 ?_
  refine z_iload_n F dX12_areUnlike_4 rfl (q := 1) rfl ?_
  refine z_iald F hI gs_149 (by omega) (by omega) (by decide) bd_149 dX12_areUnlike_5 (fun v1 (ev1 : v1 = M 149 _) av1 bv1 => ?_)
  refine z_i2l F dX12_areUnlike_6 (by omega) ?_
  refine z_lconst (x := 1) F dX12_areUnlike_7 (by decide +kernel) ?_
  refine z_ldc2 (x := 10) F dX12_areUnlike_8 (gin lm_161 rfl) (by decide +kernel) ?_
  refine zs_i (rest := []) F (k_X12_within l M ⟨hI, hW⟩ v1 (by omega) (by omega) 1 (by omega) (by omega) 10 (by omega) (by omega)) cs_X12_137 (by decide) (by decide) rfl rfl rfl (Nat.le_of_ble_eq_true rfl) dX12_areUnlike_11 (fun v2 M3 rv2 hI p4 => ?_)
  obtain ⟨hI, hW⟩ := hI
  obtain ⟨⟨av2, bv2⟩, rfl, xp4⟩ := p4
  refine z_if_ne (tgt := 19) F dX12_areUnlike_14 (by decide +kernel) (by omega) (fun c5 => ?_) (fun c5 => ?_)
  · refine z_iconst F dX12_areUnlike_19 ?_
    refine z_istore_n F dX12_areUnlike_20 rfl (by decide) (ls' := [(2, ii 0), (0, .ref (ad 131)), (1, ii x0)]) rfl ?_
    refine z_loc [1, 2, 0] (ls' := [(0, .ref (ad 131)), (1, ii x0), (2, ii 0)]) rfl ?_
    suffices key21 : ∀ (n : Nat) (y7 : Int), 0 ≤ y7 → y7 ≤ 30 → (∀ j : Int, 0 ≤ j → j < y7 → 0 ≤ M 150 (30 * x0 + j).toNat ∧ M 150 (30 * x0 + j).toNat ≤ 7) → 30 - y7 < (n : Int) → Z D cy ad p l e (RMh 3) s m args below meth c A 4 0 0 Q 21 [(0, .ref (ad 131)), (1, ii x0), (2, ii y7)] [] M from key21 31 0 (by omega) (by omega) (fun j a b => by omega) (by omega)
    intro n21
    induction n21 with
    | zero => intro y7 ay7 by7 i21_0 hn21; exfalso; omega
    | succ n21 ih21 =>
      intro y7 ay7 by7 i21_0 hn21
      refine z_iload_n F dX12_areUnlike_21 rfl (q := 2) rfl ?_
      refine z_aload_n F dX12_areUnlike_22 rfl (q := 0) rfl ?_
      refine rf_X12_66 F gs_131 rfl dX12_areUnlike_23 ?_
      refine z_iload_n F dX12_areUnlike_26 rfl (q := 1) rfl ?_
      refine z_iald F hI gs_149 (by omega) (by omega) (by decide) bd_149 dX12_areUnlike_27 (fun v8 (ev8 : v8 = M 149 _) av8 bv8 => ?_)
      have zv8 : v1 = v8 := ev1.trans ev8.symm
      subst zv8
      refine z_icmp_ge (tgt := 98) F dX12_areUnlike_28 (by decide +kernel) (by omega) (by omega) (fun c9 => ?_) (fun c9 => ?_)
      · refine z_iconst F dX12_areUnlike_98 ?_
        exact hret _ _ 99 _ ⟨by omega, by omega⟩ ⟨hI, hW⟩ ⟨⟨by omega, by omega⟩, rfl, (fun q => ⟨by omega, by omega, fun j a b => i21_0 j a (by omega)⟩)⟩ dX12_areUnlike_99
      · refine z_aload_n F dX12_areUnlike_31 rfl (q := 0) rfl ?_
        refine z_aload_n F dX12_areUnlike_32 rfl (q := 0) rfl ?_
        refine rf_X12_69 F gs_131 rfl dX12_areUnlike_33 ?_
        refine z_bipush F dX12_areUnlike_36 (by decide +kernel) ?_
        refine z_iload_n F dX12_areUnlike_38 rfl (q := 1) rfl ?_
        refine z_imul F dX12_areUnlike_39 ?_
        refine z_iload_n F dX12_areUnlike_40 rfl (q := 2) rfl ?_
        refine z_iadd F dX12_areUnlike_41 ?_
        refine z_lald F hI gs_150 (by omega) (by omega) (by decide) bd_150 dX12_areUnlike_42 (fun v10 (ev10 : v10 = M 150 _) av10 bv10 => ?_)
        refine zv_i (rest := []) F (k_X12_isThing l M ⟨hI, hW⟩ v10 (by omega) (by omega)) cs_X12_335 (T := TX12) (N := 44) (ci := 12) rfl gs_131 (by decide) (by decide) rfl rfl rfl (Nat.le_of_ble_eq_true rfl) dX12_areUnlike_43 (fun v11 M12 rv11 hI p13 => ?_)
        obtain ⟨hI, hW⟩ := hI
        obtain ⟨⟨av11, bv11⟩, rfl, xp13⟩ := p13
        refine z_if_ne (tgt := 51) F dX12_areUnlike_46 (by decide +kernel) (by omega) (fun c14 => ?_) (fun c14 => ?_)
        · refine z_iconst F dX12_areUnlike_51 ?_
          refine z_istore_n F dX12_areUnlike_52 rfl (by decide) (ls' := [(3, ii 0), (0, .ref (ad 131)), (1, ii x0), (2, ii y7)]) rfl ?_
          refine z_loc [1, 2, 3, 0] (ls' := [(0, .ref (ad 131)), (1, ii x0), (2, ii y7), (3, ii 0)]) rfl ?_
          suffices key53 : ∀ (n : Nat) (y16 : Int), 0 ≤ y16 → y16 ≤ 9 → 9 - y16 < (n : Int) → Z D cy ad p l e (RMh 3) s m args below meth c A 4 0 0 Q 53 [(0, .ref (ad 131)), (1, ii x0), (2, ii y7), (3, ii y16)] [] M from key53 10 0 (by omega) (by omega) (by omega)
          intro n53
          induction n53 with
          | zero => intro y16 ay16 by16 hn53; exfalso; omega
          | succ n53 ih53 =>
            intro y16 ay16 by16 hn53
            refine z_iload_n F dX12_areUnlike_53 rfl (q := 3) rfl ?_
            refine z_iload_n F dX12_areUnlike_54 rfl (q := 2) rfl ?_
            refine z_icmp_ge (tgt := 92) F dX12_areUnlike_55 (by decide +kernel) (by omega) (by omega) (fun c17 => ?_) (fun c17 => ?_)
            · refine z_iincN F dX12_areUnlike_92 (q := 2) rfl (by decide) (fun v18 ev18 => ?_)
              refine z_eq (ls' := [(2, ii v18), (0, .ref (ad 131)), (1, ii x0), (3, ii y16)]) rfl rfl rfl ?_
              refine z_goto (tgt := 21) F dX12_areUnlike_95 (by decide +kernel) ?_
              refine z_loc [1, 2, 0] (ls' := [(0, .ref (ad 131)), (1, ii x0), (2, ii v18)]) rfl ?_
              exact ih21 v18 (by omega) (by omega) (fun j a b => if hq : j = y7 then (by rw [hq]; omega) else i21_0 j a (by omega)) (by omega)
            · refine z_aload_n F dX12_areUnlike_58 rfl (q := 0) rfl ?_
              refine rf_X12_69 F gs_131 rfl dX12_areUnlike_59 ?_
              refine z_bipush F dX12_areUnlike_62 (by decide +kernel) ?_
              refine z_iload_n F dX12_areUnlike_64 rfl (q := 1) rfl ?_
              refine z_imul F dX12_areUnlike_65 ?_
              refine z_iload_n F dX12_areUnlike_66 rfl (q := 3) rfl ?_
              refine z_iadd F dX12_areUnlike_67 ?_
              refine z_lald F hI gs_150 (by omega) (by omega) (by decide) bd_150 dX12_areUnlike_68 (fun v19 (ev19 : v19 = M 150 _) av19 bv19 => ?_)
              refine z_aload_n F dX12_areUnlike_69 rfl (q := 0) rfl ?_
              refine rf_X12_69 F gs_131 rfl dX12_areUnlike_70 ?_
              refine z_bipush F dX12_areUnlike_73 (by decide +kernel) ?_
              refine z_iload_n F dX12_areUnlike_75 rfl (q := 1) rfl ?_
              refine z_imul F dX12_areUnlike_76 ?_
              refine z_iload_n F dX12_areUnlike_77 rfl (q := 2) rfl ?_
              refine z_iadd F dX12_areUnlike_78 ?_
              refine z_lald F hI gs_150 (by omega) (by omega) (by decide) bd_150 dX12_areUnlike_79 (fun v20 (ev20 : v20 = M 150 _) av20 bv20 => ?_)
              have zv20 : v10 = v20 := ev10.trans ev20.symm
              subst zv20
              refine z_lcmp F dX12_areUnlike_80 (by omega) (by omega) (fun v21 ev21 => ?_)
              refine z_if_ne (tgt := 86) F dX12_areUnlike_81 (by decide +kernel) (by omega) (fun c22 => ?_) (fun c22 => ?_)
              · refine z_iincN F dX12_areUnlike_86 (q := 3) rfl (by decide) (fun v23 ev23 => ?_)
                refine z_eq (ls' := [(3, ii v23), (0, .ref (ad 131)), (1, ii x0), (2, ii y7)]) rfl rfl rfl ?_
                refine z_goto (tgt := 53) F dX12_areUnlike_89 (by decide +kernel) ?_
                refine z_loc [1, 2, 3, 0] (ls' := [(0, .ref (ad 131)), (1, ii x0), (2, ii y7), (3, ii v23)]) rfl ?_
                exact ih53 v23 (by omega) (by omega) (by omega)
              · refine z_iconst F dX12_areUnlike_84 ?_
                exact hret _ _ 85 _ ⟨by omega, by omega⟩ ⟨hI, hW⟩ ⟨⟨by omega, by omega⟩, rfl, (fun q => by omega)⟩ dX12_areUnlike_85
        · refine z_iconst F dX12_areUnlike_49 ?_
          exact hret _ _ 50 _ ⟨by omega, by omega⟩ ⟨hI, hW⟩ ⟨⟨by omega, by omega⟩, rfl, (fun q => by omega)⟩ dX12_areUnlike_50
  · refine z_iconst F dX12_areUnlike_17 ?_
    exact hret _ _ 18 _ ⟨by omega, by omega⟩ ⟨hI, hW⟩ ⟨⟨by omega, by omega⟩, rfl, (fun q => by omega)⟩ dX12_areUnlike_18
set_option maxRecDepth 4000 in
theorem k_X12_toldThing (l : Launch) (M : Mem) (hJ : Iw M) (x0 : Int) (hx0a : 0 ≤ x0) (hx0b : x0 ≤ 3) (x1 : Int) (hx1a : 0 ≤ x1) (hx1b : x1 ≤ 29) : CI l yX12_toldThing cX12_toldThing 3 (some .int) 1 (fun ad => [.ref (ad 131), ii x0, ii x1]) M (fun z M' => ((-2147483648) ≤ z ∧ z ≤ 2147483647) ∧ M = M' ∧ (0 ≤ M 150 (30 * x0 + x1).toNat → M 150 (30 * x0 + x1).toNat ≤ 7 → z = M 150 (30 * x0 + x1).toNat)) := by
  obtain ⟨hI, hW⟩ := hJ
  refine en_i (by decide +kernel) (fun ad => by exact Nat.le_of_ble_eq_true rfl) (fun D cy ad A p e s m args below meth c Q F hret => ?_)
  refine z_eq (ls' := [(0, .ref (ad 131)), (1, ii x0), (2, ii x1)]) rfl rfl rfl ?_
  refine z_aload_n F dX12_toldThing_0 rfl (q := 0) rfl ?_
  refine rf_X12_69 F gs_131 rfl dX12_toldThing_1 ?_
  refine z_bipush F dX12_toldThing_4 (by decide +kernel) ?_
  refine z_iload_n F dX12_toldThing_6 rfl (q := 1) rfl ?_
  refine z_imul F dX12_toldThing_7 ?_
  refine z_iload_n F dX12_toldThing_8 rfl (q := 2) rfl ?_
  refine z_iadd F dX12_toldThing_9 ?_
  refine z_lald F hI gs_150 (by omega) (by omega) (by decide) bd_150 dX12_toldThing_10 (fun v1 (ev1 : v1 = M 150 _) av1 bv1 => ?_)
  refine z_l2i F dX12_toldThing_11 (by omega) ?_
  refine z_wrap (fun v2 rv2 wv2 => ?_)
  exact hret _ _ 12 _ (by omega) ⟨hI, hW⟩ ⟨⟨by omega, by omega⟩, rfl, (by omega)⟩ dX12_toldThing_12
set_option maxRecDepth 4000 in
theorem k_X12_goats (l : Launch) (M : Mem) (hJ : Iw M) (x0 : Int) (hx0a : (-2147483648) ≤ x0) (hx0b : x0 ≤ 2147483647) (x1 : Int) (hx1a : 0 ≤ x1) (hx1b : x1 ≤ 1) : CI l yX12_goats cX12_goats 6 (some .int) 5 (fun ad => [.ref (ad 131), ii x0, ii x1]) M (fun z M' => ((-2147483648) ≤ z ∧ z ≤ 2147483647) ∧ Fr [131, 137] M M') := by
  obtain ⟨hI, hW⟩ := hJ
  have hF : Fr [131, 137] M M := Fr.rf
  refine en_i (by decide +kernel) (fun ad => by exact Nat.le_of_ble_eq_true rfl) (fun D cy ad A p e s m args below meth c Q F hret => ?_)
  refine z_eq (ls' := [(0, .ref (ad 131)), (1, ii x0), (2, ii x1)]) rfl rfl rfl ?_
  refine z_aload_n F dX12_goats_0 rfl (q := 0) rfl ?_
  refine z_aload_n F dX12_goats_1 rfl (q := 0) rfl ?_
  refine z_iload_n F dX12_goats_2 rfl (q := 1) rfl ?_
  refine zv_i (rest := [.ref (ad 131)]) F (k_X12_trayFault l M ⟨hI, hW⟩ x0 (by omega) (by omega)) cs_X12_401 (T := TX12) (N := 44) (ci := 12) rfl gs_131 (by decide) (by decide) rfl rfl rfl (Nat.le_of_ble_eq_true rfl) dX12_goats_3 (fun v1 M2 rv1 hI p3 => ?_)
  obtain ⟨hI, hW⟩ := hI
  obtain ⟨⟨av1, bv1⟩, rfl, xp3⟩ := p3
  refine pf_X12_73 F hI gs_131 rfl bd_131_4 rfl rfl dX12_goats_6 (by omega) (by omega) (fun M5 hI sf4 f4 => ?_)
  have hF := hF.wrf f4 (by decide) (by decide)
  have hW : WFk M5 := hW.site f4 (by decide)
  refine z_aload_n F dX12_goats_9 rfl (q := 0) rfl ?_
  refine gf_X12_73 F hI gs_131 rfl bd_131_4 dX12_goats_10 (fun v6 ev6 av6 bv6 => ?_)
  have zv6 : v1 = v6 := sf4.symm.trans ev6.symm
  subst zv6
  refine z_if_ne (tgt := 29) F dX12_goats_13 (by decide +kernel) (by omega) (fun c7 => ?_) (fun c7 => ?_)
  · refine z_aload_n F dX12_goats_29 rfl (q := 0) rfl ?_
    refine gf_X12_73 F hI gs_131 rfl bd_131_4 dX12_goats_30 (fun v8 ev8 av8 bv8 => ?_)
    have zv8 : v1 = v8 := sf4.symm.trans ev8.symm
    subst zv8
    refine z_if_le (tgt := 38) F dX12_goats_33 (by decide +kernel) (by omega) (fun c9 => by exfalso; omega) (fun c9 => ?_)
    refine z_iconst F dX12_goats_36 ?_
    exact hret _ _ 37 _ (by omega) ⟨hI, hW⟩ ⟨⟨by omega, by omega⟩, hF⟩ dX12_goats_37
  · refine z_aload_n F dX12_goats_16 rfl (q := 0) rfl ?_
    refine z_iload_n F dX12_goats_17 rfl (q := 1) rfl ?_
    refine zv_i (rest := []) F (k_X12_areUnlike l M5 ⟨hI, hW⟩ x0 (by omega) (by omega)) cs_X12_492 (T := TX12) (N := 44) (ci := 12) rfl gs_131 (by decide) (by decide) rfl rfl rfl (Nat.le_of_ble_eq_true rfl) dX12_goats_18 (fun v10 M11 rv10 hI p12 => ?_)
    obtain ⟨hI, hW⟩ := hI
    obtain ⟨⟨av10, bv10⟩, rfl, xp12⟩ := p12
    have hun : v10 = 1 → 1 ≤ M 149 x0.toNat ∧ M 149 x0.toNat ≤ 10 ∧ ∀ j : Int, 0 ≤ j → j < M 149 x0.toNat → 0 ≤ M 150 (30 * x0 + j).toNat ∧ M 150 (30 * x0 + j).toNat ≤ 7 := fun q => by have h := xp12 q; rw [show M5 149 = M 149 from funext fun _ => hF.at (by decide), show M5 150 = M 150 from funext fun _ => hF.at (by decide)] at h; exact h
    refine z_if_ne (tgt := 29) F dX12_goats_21 (by decide +kernel) (by omega) (fun c13 => ?_) (fun c13 => ?_)
    · refine z_aload_n F dX12_goats_29 rfl (q := 0) rfl ?_
      refine gf_X12_73 F hI gs_131 rfl bd_131_4 dX12_goats_30 (fun v14 ev14 av14 bv14 => ?_)
      have zv14 : v1 = v14 := sf4.symm.trans ev14.symm
      subst zv14
      refine z_if_le (tgt := 38) F dX12_goats_33 (by decide +kernel) (by omega) (fun c15 => ?_) (fun c15 => by exfalso; omega)
      refine z_aload_n F dX12_goats_38 rfl (q := 0) rfl ?_
      refine rf_X12_66 F gs_131 rfl dX12_goats_39 ?_
      refine z_iload_n F dX12_goats_42 rfl (q := 1) rfl ?_
      refine z_iald F hI gs_149 (by omega) (by omega) (by decide) bd_149 dX12_goats_43 (fun v16 (ev16 : v16 = M5 149 _) av16 bv16 => ?_)
      have frv16 : M5 149 (x0).toNat = M 149 (x0).toNat := hF.at (by decide)
      refine z_istore_n F dX12_goats_44 rfl (by decide) (ls' := [(3, ii v16), (0, .ref (ad 131)), (1, ii x0), (2, ii x1)]) rfl ?_
      refine z_iconst F dX12_goats_45 ?_
      refine z_istore F dX12_goats_46 (by decide) (ls' := [(4, ii 0), (3, ii v16), (0, .ref (ad 131)), (1, ii x0), (2, ii x1)]) rfl ?_
      refine z_iconst F dX12_goats_48 ?_
      refine z_istore F dX12_goats_49 (by decide) (ls' := [(5, ii 1), (4, ii 0), (3, ii v16), (0, .ref (ad 131)), (1, ii x0), (2, ii x1)]) rfl ?_
      refine z_loc [3, 4, 5, 2, 1, 0] (ls' := [(0, .ref (ad 131)), (1, ii x0), (2, ii x1), (3, ii v16), (4, ii 0), (5, ii 1)]) rfl ?_
      suffices key51 : ∀ (n : Nat) (y18 : Int) (y19 : Int) (M17 : Mem), Inv M17 → WFk M17 → Fr [131, 137] M M17 → (-2147483648) ≤ y18 → y18 ≤ 2147483647 → 1 ≤ y19 → y19 ≤ 30 → 30 - y19 < (n : Int) → Z D cy ad p l e (RMh 5) s m args below meth c A 6 0 0 Q 51 [(0, .ref (ad 131)), (1, ii x0), (2, ii x1), (3, ii v16), (4, ii y18), (5, ii y19)] [] M17 from key51 30 0 1 M5 hI hW hF (by omega) (by omega) (by omega) (by omega) (by omega)
      intro n51
      induction n51 with
      | zero => intro y18 y19 M17 hI hW hF ay18 by18 ay19 by19 hn51; exfalso; omega
      | succ n51 ih51 =>
        intro y18 y19 M17 hI hW hF ay18 by18 ay19 by19 hn51
        refine z_iload F dX12_goats_51 (q := 5) rfl ?_
        refine z_iload_n F dX12_goats_53 rfl (q := 3) rfl ?_
        refine z_icmp_ge (tgt := 97) F dX12_goats_54 (by decide +kernel) (by omega) (by omega) (fun c20 => ?_) (fun c20 => ?_)
        · refine z_iload F dX12_goats_97 (q := 4) rfl ?_
          refine z_iload_n F dX12_goats_99 rfl (q := 2) rfl ?_
          refine z_if_eq (tgt := 134) F dX12_goats_100 (by decide +kernel) (by omega) (fun c21 => ?_) (fun c21 => ?_)
          · refine z_iconst F dX12_goats_134 ?_
            refine z_iadd F dX12_goats_135 ?_
            exact hret _ _ 136 _ (by omega) ⟨hI, hW⟩ ⟨⟨by omega, by omega⟩, hF⟩ dX12_goats_136
          · refine z_iload_n F dX12_goats_103 rfl (q := 3) rfl ?_
            refine z_iconst F dX12_goats_104 ?_
            refine z_icmp_le (tgt := 134) F dX12_goats_105 (by decide +kernel) (by omega) (by omega) (fun c22 => ?_) (fun c22 => ?_)
            · refine z_iconst F dX12_goats_134 ?_
              refine z_iadd F dX12_goats_135 ?_
              exact hret _ _ 136 _ (by omega) ⟨hI, hW⟩ ⟨⟨by omega, by omega⟩, hF⟩ dX12_goats_136
            · refine z_aload_n F dX12_goats_108 rfl (q := 0) rfl ?_
              refine z_aload_n F dX12_goats_109 rfl (q := 0) rfl ?_
              refine z_iload_n F dX12_goats_110 rfl (q := 1) rfl ?_
              refine z_iconst F dX12_goats_111 ?_
              refine zv_i (rest := [.ref (ad 131), ii y18]) F (k_X12_toldThing l M17 ⟨hI, hW⟩ x0 (by omega) (by omega) 0 (by omega) (by omega)) cs_X12_495 (T := TX12) (N := 44) (ci := 12) rfl gs_131 (by decide) (by decide) rfl rfl rfl (Nat.le_of_ble_eq_true rfl) dX12_goats_112 (fun v23 M24 rv23 hI p25 => ?_)
              obtain ⟨hI, hW⟩ := hI
              obtain ⟨⟨av23, bv23⟩, rfl, xp25⟩ := p25
              have hav23 := hF.at (a := 150) (b := (30 * x0 + 0).toNat) (by decide)
              have hmv23 := hF.at (a := 149) (b := x0.toNat) (by decide)
              have huv23 := (hun (by omega)).2.2 (0) (by omega) (by omega)
              have hvv23 : 0 ≤ v23 ∧ v23 ≤ 7 := by omega
              refine z_aload_n F dX12_goats_115 rfl (q := 0) rfl ?_
              refine z_iload_n F dX12_goats_116 rfl (q := 1) rfl ?_
              refine z_iload_n F dX12_goats_117 rfl (q := 3) rfl ?_
              refine z_iconst F dX12_goats_118 ?_
              refine z_isub F dX12_goats_119 ?_
              refine zv_i (rest := [ii v23, .ref (ad 131), ii y18]) F (k_X12_toldThing l M17 ⟨hI, hW⟩ x0 (by omega) (by omega) (v16 - 1) (by omega) (by omega)) cs_X12_495 (T := TX12) (N := 44) (ci := 12) rfl gs_131 (by decide) (by decide) rfl rfl rfl (Nat.le_of_ble_eq_true rfl) dX12_goats_120 (fun v26 M27 rv26 hI p28 => ?_)
              obtain ⟨hI, hW⟩ := hI
              obtain ⟨⟨av26, bv26⟩, rfl, xp28⟩ := p28
              have hav26 := hF.at (a := 150) (b := (30 * x0 + (v16 - 1)).toNat) (by decide)
              have hmv26 := hF.at (a := 149) (b := x0.toNat) (by decide)
              have huv26 := (hun (by omega)).2.2 ((v16 - 1)) (by omega) (by omega)
              have hvv26 : 0 ≤ v26 ∧ v26 ≤ 7 := by omega
              refine z_iconst F dX12_goats_123 ?_
              refine zv_i (rest := [ii y18]) F (k_X12_wouldClash l M17 ⟨hI, hW⟩ v23 (by omega) (by omega) v26 (by omega) (by omega) 0 (by omega) (by omega)) cs_X12_322 (T := TX12) (N := 44) (ci := 12) rfl gs_131 (by decide) (by decide) rfl rfl rfl (Nat.le_of_ble_eq_true rfl) dX12_goats_124 (fun v29 M30 rv29 hI p31 => ?_)
              obtain ⟨hI, hW⟩ := hI
              obtain ⟨⟨av29, bv29⟩, fp31⟩ := p31
              have hF := hF.call fp31 (by decide)
              refine z_if_eq (tgt := 134) F dX12_goats_127 (by decide +kernel) (by omega) (fun c32 => ?_) (fun c32 => ?_)
              · refine z_iconst F dX12_goats_134 ?_
                refine z_iadd F dX12_goats_135 ?_
                exact hret _ _ 136 _ (by omega) ⟨hI, hW⟩ ⟨⟨by omega, by omega⟩, hF⟩ dX12_goats_136
              · refine z_iconst F dX12_goats_130 ?_
                refine z_goto (tgt := 135) F dX12_goats_131 (by decide +kernel) ?_
                refine z_iadd F dX12_goats_135 ?_
                refine z_wrap (fun v33 rv33 wv33 => ?_)
                exact hret _ _ 136 _ (by omega) ⟨hI, hW⟩ ⟨⟨by omega, by omega⟩, hF⟩ dX12_goats_136
        · refine z_iload F dX12_goats_57 (q := 4) rfl ?_
          refine z_aload_n F dX12_goats_59 rfl (q := 0) rfl ?_
          refine z_aload_n F dX12_goats_60 rfl (q := 0) rfl ?_
          refine z_iload_n F dX12_goats_61 rfl (q := 1) rfl ?_
          refine z_iload F dX12_goats_62 (q := 5) rfl ?_
          refine z_iconst F dX12_goats_64 ?_
          refine z_isub F dX12_goats_65 ?_
          refine zv_i (rest := [.ref (ad 131), ii y18]) F (k_X12_toldThing l M17 ⟨hI, hW⟩ x0 (by omega) (by omega) (y19 - 1) (by omega) (by omega)) cs_X12_495 (T := TX12) (N := 44) (ci := 12) rfl gs_131 (by decide) (by decide) rfl rfl rfl (Nat.le_of_ble_eq_true rfl) dX12_goats_66 (fun v34 M35 rv34 hI p36 => ?_)
          obtain ⟨hI, hW⟩ := hI
          obtain ⟨⟨av34, bv34⟩, rfl, xp36⟩ := p36
          have hav34 := hF.at (a := 150) (b := (30 * x0 + (y19 - 1)).toNat) (by decide)
          have hmv34 := hF.at (a := 149) (b := x0.toNat) (by decide)
          have huv34 := (hun (by omega)).2.2 ((y19 - 1)) (by omega) (by omega)
          have hvv34 : 0 ≤ v34 ∧ v34 ≤ 7 := by omega
          refine z_aload_n F dX12_goats_69 rfl (q := 0) rfl ?_
          refine z_iload_n F dX12_goats_70 rfl (q := 1) rfl ?_
          refine z_iload F dX12_goats_71 (q := 5) rfl ?_
          refine zv_i (rest := [ii v34, .ref (ad 131), ii y18]) F (k_X12_toldThing l M17 ⟨hI, hW⟩ x0 (by omega) (by omega) y19 (by omega) (by omega)) cs_X12_495 (T := TX12) (N := 44) (ci := 12) rfl gs_131 (by decide) (by decide) rfl rfl rfl (Nat.le_of_ble_eq_true rfl) dX12_goats_73 (fun v37 M38 rv37 hI p39 => ?_)
          obtain ⟨hI, hW⟩ := hI
          obtain ⟨⟨av37, bv37⟩, rfl, xp39⟩ := p39
          have hav37 := hF.at (a := 150) (b := (30 * x0 + y19).toNat) (by decide)
          have hmv37 := hF.at (a := 149) (b := x0.toNat) (by decide)
          have huv37 := (hun (by omega)).2.2 (y19) (by omega) (by omega)
          have hvv37 : 0 ≤ v37 ∧ v37 ≤ 7 := by omega
          refine z_iconst F dX12_goats_76 ?_
          refine zv_i (rest := [ii y18]) F (k_X12_wouldClash l M17 ⟨hI, hW⟩ v34 (by omega) (by omega) v37 (by omega) (by omega) 0 (by omega) (by omega)) cs_X12_322 (T := TX12) (N := 44) (ci := 12) rfl gs_131 (by decide) (by decide) rfl rfl rfl (Nat.le_of_ble_eq_true rfl) dX12_goats_77 (fun v40 M41 rv40 hI p42 => ?_)
          obtain ⟨hI, hW⟩ := hI
          obtain ⟨⟨av40, bv40⟩, fp42⟩ := p42
          have hF := hF.call fp42 (by decide)
          refine z_if_eq (tgt := 87) F dX12_goats_80 (by decide +kernel) (by omega) (fun c43 => ?_) (fun c43 => ?_)
          · refine z_iconst F dX12_goats_87 ?_
            refine z_iadd F dX12_goats_88 ?_
            refine z_nm (fun v44 ev44 => ?_)
            refine z_istore F dX12_goats_89 (by decide) (ls' := [(4, ii v44), (0, .ref (ad 131)), (1, ii x0), (2, ii x1), (3, ii v16), (5, ii y19)]) rfl ?_
            refine z_iincN F dX12_goats_91 (q := 5) rfl (by decide) (fun v45 ev45 => ?_)
            refine z_eq (ls' := [(5, ii v45), (4, ii v44), (0, .ref (ad 131)), (1, ii x0), (2, ii x1), (3, ii v16)]) rfl rfl rfl ?_
            refine z_goto (tgt := 51) F dX12_goats_94 (by decide +kernel) ?_
            refine z_loc [2, 3, 4, 5, 1, 0] (ls' := [(0, .ref (ad 131)), (1, ii x0), (2, ii x1), (3, ii v16), (4, ii v44), (5, ii v45)]) rfl ?_
            exact ih51 v44 v45 M41 hI hW hF (by omega) (by omega) (by omega) (by omega) (by omega)
          · refine z_iconst F dX12_goats_83 ?_
            refine z_goto (tgt := 88) F dX12_goats_84 (by decide +kernel) ?_
            refine z_iadd F dX12_goats_88 ?_
            refine z_wrap (fun v46 rv46 wv46 => ?_)
            refine z_istore F dX12_goats_89 (by decide) (ls' := [(4, ii v46), (0, .ref (ad 131)), (1, ii x0), (2, ii x1), (3, ii v16), (5, ii y19)]) rfl ?_
            refine z_iincN F dX12_goats_91 (q := 5) rfl (by decide) (fun v47 ev47 => ?_)
            refine z_eq (ls' := [(5, ii v47), (4, ii v46), (0, .ref (ad 131)), (1, ii x0), (2, ii x1), (3, ii v16)]) rfl rfl rfl ?_
            refine z_goto (tgt := 51) F dX12_goats_94 (by decide +kernel) ?_
            refine z_loc [2, 3, 4, 5, 1, 0] (ls' := [(0, .ref (ad 131)), (1, ii x0), (2, ii x1), (3, ii v16), (4, ii v46), (5, ii v47)]) rfl ?_
            exact ih51 v46 v47 M41 hI hW hF (by omega) (by omega) (by omega) (by omega) (by omega)
    · refine z_aload_n F dX12_goats_24 rfl (q := 0) rfl ?_
      refine z_iconst F dX12_goats_25 ?_
      refine pf_X12_73 F hI gs_131 rfl bd_131_4 rfl rfl dX12_goats_26 (by omega) (by omega) (fun M49 hI sf48 f48 => ?_)
      have hF := hF.wrf f48 (by decide) (by decide)
      have hW : WFk M49 := hW.site f48 (by decide)
      refine z_aload_n F dX12_goats_29 rfl (q := 0) rfl ?_
      refine gf_X12_73 F hI gs_131 rfl bd_131_4 dX12_goats_30 (fun v50 ev50 av50 bv50 => ?_)
      have zv50 : 3 = v50 := sf48.symm.trans ev50.symm
      subst zv50
      refine z_if_le (tgt := 38) F dX12_goats_33 (by decide +kernel) (by omega) (fun c51 => by exfalso; omega) (fun c51 => ?_)
      refine z_iconst F dX12_goats_36 ?_
      exact hret _ _ 37 _ (by omega) ⟨hI, hW⟩ ⟨⟨by omega, by omega⟩, hF⟩ dX12_goats_37
set_option maxRecDepth 4000 in
theorem k_X12_goesRows (l : Launch) : ∀ (nr : Nat) (M : Mem) (hJ : Iw M) (x0 : Int) (hx0a : 0 ≤ x0) (hx0b : x0 ≤ 8) (x1 : Int) (hx1a : 0 ≤ x1) (hx1b : x1 ≤ 255) (x2 : Int) (hx2a : (-2147483648) ≤ x2) (hx2b : x2 ≤ 2147483647) (x3 : Int) (hx3a : 0 ≤ x3) (hx3b : x3 ≤ 1) (hp0 : x0 + pcn x1.toNat ≤ 8) (hmu : x1 < (nr : Int)), CV l yX12_goesRows cX12_goesRows 7 none (5 + nr) (fun ad => [.ref (ad 131), ii x0, ii x1, ii x2, ii x3]) M (fun M' => Fr [131, 137, 143, 144] M M') := by
  intro nr
  induction nr with
  | zero => intro M hJ x0 hx0a hx0b x1 hx1a hx1b x2 hx2a hx2b x3 hx3a hx3b hp0 hmu; exfalso; omega
  | succ nr ih =>
  intro M hJ x0 hx0a hx0b x1 hx1a hx1b x2 hx2a hx2b x3 hx3a hx3b hp0 hmu
  obtain ⟨hI, hW⟩ := hJ
  have hF : Fr [131, 137, 143, 144] M M := Fr.rf
  have hI0 := hI
  have hW0 := hW
  refine en_v (by decide +kernel) (fun ad => by exact Nat.le_of_ble_eq_true rfl) (fun D cy ad A p e s m args below meth c Q F hret => ?_)
  refine z_eq (ls' := [(0, .ref (ad 131)), (1, ii x0), (2, ii x1), (3, ii x2), (4, ii x3)]) rfl rfl rfl ?_
  refine z_aload_n F dX12_goesRows_0 rfl (q := 0) rfl ?_
  refine gf_X12_498 F hI gs_131 rfl bd_131_36 dX12_goesRows_1 (fun v1 ev1 av1 bv1 => ?_)
  refine z_if_eq (tgt := 16) F dX12_goesRows_4 (by decide +kernel) (by omega) (fun c2 => ?_) (fun c2 => ?_)
  · refine z_iload_n F dX12_goesRows_16 rfl (q := 2) rfl ?_
    refine z_if_ne (tgt := 119) F dX12_goesRows_17 (by decide +kernel) (by omega) (fun c3 => ?_) (fun c3 => ?_)
    · have hp1 := pcn_1 (s := x1) (by omega) (by omega) (by omega)
      have k4 : 0 ≤ x0 ∧ x0 ≤ 7 := by omega
      refine z_iconst F dX12_goesRows_119 ?_
      refine z_istore F dX12_goesRows_120 (by decide) (ls' := [(5, ii 0), (0, .ref (ad 131)), (1, ii x0), (2, ii x1), (3, ii x2), (4, ii x3)]) rfl ?_
      refine z_loc [1, 2, 3, 4, 5, 0] (ls' := [(0, .ref (ad 131)), (1, ii x0), (2, ii x1), (3, ii x2), (4, ii x3), (5, ii 0)]) rfl ?_
      suffices key122 : ∀ (n : Nat) (y6 : Int) (M5 : Mem), Inv M5 → WFk M5 → Fr [131, 137, 143, 144] M M5 → 0 ≤ y6 → y6 ≤ 8 → 8 - y6 < (n : Int) → Z D cy ad p l e (RMh (5 + (nr + 1))) s m args below meth c A 7 0 0 Q 122 [(0, .ref (ad 131)), (1, ii x0), (2, ii x1), (3, ii x2), (4, ii x3), (5, ii y6)] [] M5 from key122 9 0 M hI hW hF (by omega) (by omega) (by omega)
      intro n122
      induction n122 with
      | zero => intro y6 M5 hI hW hF ay6 by6 hn122; exfalso; omega
      | succ n122 ih122 =>
        intro y6 M5 hI hW hF ay6 by6 hn122
        refine z_iload F dX12_goesRows_122 (q := 5) rfl ?_
        refine z_aload_n F dX12_goesRows_124 rfl (q := 0) rfl ?_
        refine zv_i (rest := [ii y6]) F (k_X12_things l M5 ⟨hI, hW⟩) cs_X12_275 (T := TX12) (N := 44) (ci := 12) rfl gs_131 (by omega) (by decide) rfl rfl rfl (Nat.le_of_ble_eq_true rfl) dX12_goesRows_125 (fun v7 M8 rv7 hI p9 => ?_)
        obtain ⟨hI, hW⟩ := hI
        obtain ⟨⟨av7, bv7⟩, rfl, xp9⟩ := p9
        refine z_icmp_ge (tgt := 203) F dX12_goesRows_128 (by decide +kernel) (by omega) (by omega) (fun c10 => ?_) (fun c10 => ?_)
        · exact hret _ 203 _ ⟨hI, hW⟩ hF dX12_goesRows_203
        · refine z_iload_n F dX12_goesRows_131 rfl (q := 2) rfl ?_
          refine z_iload F dX12_goesRows_132 (q := 5) rfl ?_
          refine zs_i (rest := []) F (k_X12_has l M5 ⟨hI, hW⟩ x1 (by omega) (by omega) y6 (by omega) (by omega)) cs_X12_346 (by omega) (by decide) rfl rfl rfl (Nat.le_of_ble_eq_true rfl) dX12_goesRows_134 (fun v11 M12 rv11 hI p13 => ?_)
          obtain ⟨hI, hW⟩ := hI
          obtain ⟨⟨av11, bv11⟩, rfl, xp13⟩ := p13
          have hbqy6 := xp13
          refine z_if_ne (tgt := 143) F dX12_goesRows_137 (by decide +kernel) (by omega) (fun c14 => ?_) (fun c14 => ?_)
          · refine z_aload_n F dX12_goesRows_143 rfl (q := 0) rfl ?_
            refine rf_X12_48 F gs_131 rfl dX12_goesRows_144 ?_
            refine z_iload_n F dX12_goesRows_147 rfl (q := 1) rfl ?_
            refine z_iload F dX12_goesRows_148 (q := 5) rfl ?_
            refine z_iast F hI gs_143 (by omega) (by omega) (by decide) bd_143 dX12_goesRows_150 (by omega) (by omega) (fun M16 hI sf15 f15 => ?_)
            have hF := hF.wr f15 (by decide) (by decide)
            have hW : WFk M16 := hW.site f15 (by decide)
            refine z_aload_n F dX12_goesRows_151 rfl (q := 0) rfl ?_
            refine z_iload_n F dX12_goesRows_152 rfl (q := 1) rfl ?_
            refine z_iconst F dX12_goesRows_153 ?_
            refine z_iadd F dX12_goesRows_154 ?_
            refine z_iload_n F dX12_goesRows_155 rfl (q := 2) rfl ?_
            refine z_iconst F dX12_goesRows_156 ?_
            refine z_iload F dX12_goesRows_157 (q := 5) rfl ?_
            refine z_shl1 (k := 7) F dX12_goesRows_159 (by decide) (by omega) (by omega) (fun v17 ev17 av17 bv17 => ?_)
            refine z_iconst F dX12_goesRows_160 ?_
            refine z_ixor0 F dX12_goesRows_161 (fun v18 ev18 rv18 => ?_)
            refine z_iand_l F dX12_goesRows_162 (by omega) (by omega) (fun v19 ev19 av19 bv19 => ?_)
            have hdr := drop10 (s := x1) (q := y6) (by omega) (by omega) (by omega) (by omega) (hbqy6.mp (by omega)) ev19 (by assumption) (by assumption)
            refine z_iload_n F dX12_goesRows_163 rfl (q := 3) rfl ?_
            refine z_iload_n F dX12_goesRows_164 rfl (q := 1) rfl ?_
            refine z_if_le (tgt := 190) F dX12_goesRows_165 (by decide +kernel) (by omega) (fun c20 => ?_) (fun c20 => ?_)
            · refine z_iconst F dX12_goesRows_190 ?_
              refine z_iadd F dX12_goesRows_191 ?_
              refine z_iload F dX12_goesRows_192 (q := 4) rfl ?_
              refine zv_v (rest := []) F (ih M16 ⟨hI, hW⟩ (x0 + 1) (by omega) (by omega) v19 (by omega) (by omega) (x2 + 0) (by omega) (by omega) x3 (by omega) (by omega) (by omega) (by omega)) cs_X12_504 (T := TX12) (N := 44) (ci := 12) rfl gs_131 (by omega) (by decide) rfl rfl rfl (Nat.le_of_ble_eq_true rfl) dX12_goesRows_194 (fun M21 hI p22 => ?_)
              obtain ⟨hI, hW⟩ := hI
              have fp22 := p22
              have hF := hF.call fp22 (by decide)
              refine z_iincN F dX12_goesRows_197 (q := 5) rfl (by decide) (fun v23 ev23 => ?_)
              refine z_eq (ls' := [(5, ii v23), (0, .ref (ad 131)), (1, ii x0), (2, ii x1), (3, ii x2), (4, ii x3)]) rfl rfl rfl ?_
              refine z_goto (tgt := 122) F dX12_goesRows_200 (by decide +kernel) ?_
              refine z_loc [1, 2, 3, 4, 5, 0] (ls' := [(0, .ref (ad 131)), (1, ii x0), (2, ii x1), (3, ii x2), (4, ii x3), (5, ii v23)]) rfl ?_
              exact ih122 v23 M21 hI hW hF (by omega) (by omega) (by omega)
            · refine z_aload_n F dX12_goesRows_168 rfl (q := 0) rfl ?_
              refine z_aload_n F dX12_goesRows_169 rfl (q := 0) rfl ?_
              refine rf_X12_48 F gs_131 rfl dX12_goesRows_170 ?_
              refine z_iload_n F dX12_goesRows_173 rfl (q := 1) rfl ?_
              refine z_iconst F dX12_goesRows_174 ?_
              refine z_isub F dX12_goesRows_175 ?_
              refine z_iald F hI gs_143 (by omega) (by omega) (by decide) bd_143 dX12_goesRows_176 (fun v24 (ev24 : v24 = M16 143 _) av24 bv24 => ?_)
              refine z_iload F dX12_goesRows_177 (q := 5) rfl ?_
              refine z_iconst F dX12_goesRows_179 ?_
              refine zv_i (rest := [ii x2, ii v19, ii (x0 + 1), .ref (ad 131)]) F (k_X12_wouldClash l M16 ⟨hI, hW⟩ v24 (by omega) (by omega) y6 (by omega) (by omega) 0 (by omega) (by omega)) cs_X12_322 (T := TX12) (N := 44) (ci := 12) rfl gs_131 (by omega) (by decide) rfl rfl rfl (Nat.le_of_ble_eq_true rfl) dX12_goesRows_180 (fun v25 M26 rv25 hI p27 => ?_)
              obtain ⟨hI, hW⟩ := hI
              obtain ⟨⟨av25, bv25⟩, fp27⟩ := p27
              have hF := hF.call fp27 (by decide)
              refine z_if_eq (tgt := 190) F dX12_goesRows_183 (by decide +kernel) (by omega) (fun c28 => ?_) (fun c28 => ?_)
              · refine z_iconst F dX12_goesRows_190 ?_
                refine z_iadd F dX12_goesRows_191 ?_
                refine z_iload F dX12_goesRows_192 (q := 4) rfl ?_
                refine zv_v (rest := []) F (ih M26 ⟨hI, hW⟩ (x0 + 1) (by omega) (by omega) v19 (by omega) (by omega) (x2 + 0) (by omega) (by omega) x3 (by omega) (by omega) (by omega) (by omega)) cs_X12_504 (T := TX12) (N := 44) (ci := 12) rfl gs_131 (by omega) (by decide) rfl rfl rfl (Nat.le_of_ble_eq_true rfl) dX12_goesRows_194 (fun M29 hI p30 => ?_)
                obtain ⟨hI, hW⟩ := hI
                have fp30 := p30
                have hF := hF.call fp30 (by decide)
                refine z_iincN F dX12_goesRows_197 (q := 5) rfl (by decide) (fun v31 ev31 => ?_)
                refine z_eq (ls' := [(5, ii v31), (0, .ref (ad 131)), (1, ii x0), (2, ii x1), (3, ii x2), (4, ii x3)]) rfl rfl rfl ?_
                refine z_goto (tgt := 122) F dX12_goesRows_200 (by decide +kernel) ?_
                refine z_loc [1, 2, 3, 4, 5, 0] (ls' := [(0, .ref (ad 131)), (1, ii x0), (2, ii x1), (3, ii x2), (4, ii x3), (5, ii v31)]) rfl ?_
                exact ih122 v31 M29 hI hW hF (by omega) (by omega) (by omega)
              · refine z_iconst F dX12_goesRows_186 ?_
                refine z_goto (tgt := 191) F dX12_goesRows_187 (by decide +kernel) ?_
                refine z_iadd F dX12_goesRows_191 ?_
                refine z_wrap (fun v32 rv32 wv32 => ?_)
                refine z_iload F dX12_goesRows_192 (q := 4) rfl ?_
                refine zv_v (rest := []) F (ih M26 ⟨hI, hW⟩ (x0 + 1) (by omega) (by omega) v19 (by omega) (by omega) v32 (by omega) (by omega) x3 (by omega) (by omega) (by omega) (by omega)) cs_X12_504 (T := TX12) (N := 44) (ci := 12) rfl gs_131 (by omega) (by decide) rfl rfl rfl (Nat.le_of_ble_eq_true rfl) dX12_goesRows_194 (fun M33 hI p34 => ?_)
                obtain ⟨hI, hW⟩ := hI
                have fp34 := p34
                have hF := hF.call fp34 (by decide)
                refine z_iincN F dX12_goesRows_197 (q := 5) rfl (by decide) (fun v35 ev35 => ?_)
                refine z_eq (ls' := [(5, ii v35), (0, .ref (ad 131)), (1, ii x0), (2, ii x1), (3, ii x2), (4, ii x3)]) rfl rfl rfl ?_
                refine z_goto (tgt := 122) F dX12_goesRows_200 (by decide +kernel) ?_
                refine z_loc [1, 2, 3, 4, 5, 0] (ls' := [(0, .ref (ad 131)), (1, ii x0), (2, ii x1), (3, ii x2), (4, ii x3), (5, ii v35)]) rfl ?_
                exact ih122 v35 M33 hI hW hF (by omega) (by omega) (by omega)
          · refine z_goto (tgt := 197) F dX12_goesRows_140 (by decide +kernel) ?_
            refine z_iincN F dX12_goesRows_197 (q := 5) rfl (by decide) (fun v36 ev36 => ?_)
            refine z_eq (ls' := [(5, ii v36), (0, .ref (ad 131)), (1, ii x0), (2, ii x1), (3, ii x2), (4, ii x3)]) rfl rfl rfl ?_
            refine z_goto (tgt := 122) F dX12_goesRows_200 (by decide +kernel) ?_
            refine z_loc [1, 2, 3, 4, 5, 0] (ls' := [(0, .ref (ad 131)), (1, ii x0), (2, ii x1), (3, ii x2), (4, ii x3), (5, ii v36)]) rfl ?_
            exact ih122 v36 M5 hI hW hF (by omega) (by omega) (by omega)
    · refine z_iload_n F dX12_goesRows_20 rfl (q := 3) rfl ?_
      refine z_iload F dX12_goesRows_21 (q := 4) rfl ?_
      refine z_if_eq (tgt := 57) F dX12_goesRows_23 (by decide +kernel) (by omega) (fun c37 => ?_) (fun c37 => ?_)
      · refine z_iconst F dX12_goesRows_57 ?_
        refine z_iadd F dX12_goesRows_58 ?_
        refine z_nm (fun v38 ev38 => ?_)
        refine z_istore F dX12_goesRows_59 (by decide) (ls' := [(5, ii v38), (0, .ref (ad 131)), (1, ii x0), (2, ii x1), (3, ii x2), (4, ii x3)]) rfl ?_
        refine z_aload_n F dX12_goesRows_61 rfl (q := 1) rfl ?_
        refine gf_X12_498 F hI gs_131 rfl bd_131_36 dX12_goesRows_62 (fun v39 ev39 av39 bv39 => ?_)
        have zv39 : v1 = v39 := ev1.trans ev39.symm
        subst zv39
        refine z_if_eq (tgt := 78) F dX12_goesRows_65 (by decide +kernel) (by omega) (fun c40 => ?_) (fun c40 => by exfalso; omega)
        refine z_aload_n F dX12_goesRows_78 rfl (q := 1) rfl ?_
        refine z_iconst F dX12_goesRows_79 ?_
        refine pf_X12_498 F hI gs_131 rfl bd_131_36 (nar_z (by omega) (by omega)) (fit_z (by omega) (by omega)) dX12_goesRows_80 (by omega) (by omega) (fun M42 hI sf41 f41 => ?_)
        have hF := hF.wrf f41 (by decide) (by decide)
        have hW : WFk M42 := hW.site f41 (by decide)
        refine z_aload_n F dX12_goesRows_83 rfl (q := 1) rfl ?_
        refine z_iload F dX12_goesRows_84 (q := 0) rfl ?_
        refine pf_X12_501 F hI gs_131 rfl bd_131_35 rfl rfl dX12_goesRows_86 (by omega) (by omega) (fun M44 hI sf43 f43 => ?_)
        have hF := hF.wrf f43 (by decide) (by decide)
        have hW : WFk M44 := hW.site f43 (by decide)
        refine z_iconst F dX12_goesRows_89 ?_
        refine z_istore F dX12_goesRows_90 (by decide) (ls' := [(6, ii 0), (5, ii v38), (0, .ref (ad 131)), (1, ii x0), (2, ii x1), (3, ii x2), (4, ii x3)]) rfl ?_
        refine z_loc [2, 3, 0] (ls' := [(0, .ref (ad 131)), (1, ii x0), (6, ii 0)]) rfl ?_
        suffices key92 : ∀ (n : Nat) (y46 : Int) (M45 : Mem), Inv M45 → WFk M45 → Fr [131, 137, 143, 144] M M45 → 0 ≤ y46 → y46 ≤ 8 → 8 - y46 < (n : Int) → Z D cy ad p l e (RMh (5 + (nr + 1))) s m args below meth c A 7 0 0 Q 92 [(0, .ref (ad 131)), (1, ii x0), (6, ii y46)] [] M45 from key92 9 0 M44 hI hW hF (by omega) (by omega) (by omega)
        intro n92
        induction n92 with
        | zero => intro y46 M45 hI hW hF ay46 by46 hn92; exfalso; omega
        | succ n92 ih92 =>
          intro y46 M45 hI hW hF ay46 by46 hn92
          refine z_iload F dX12_goesRows_92 (q := 2) rfl ?_
          refine z_iload_n F dX12_goesRows_94 rfl (q := 1) rfl ?_
          refine z_icmp_ge (tgt := 118) F dX12_goesRows_95 (by decide +kernel) (by omega) (by omega) (fun c47 => ?_) (fun c47 => ?_)
          · exact hret _ 118 _ ⟨hI, hW⟩ hF dX12_goesRows_118
          · refine z_aload_n F dX12_goesRows_98 rfl (q := 0) rfl ?_
            refine rf_X12_51 F gs_131 rfl dX12_goesRows_99 ?_
            refine z_iload F dX12_goesRows_102 (q := 2) rfl ?_
            refine z_aload_n F dX12_goesRows_104 rfl (q := 0) rfl ?_
            refine rf_X12_48 F gs_131 rfl dX12_goesRows_105 ?_
            refine z_iload F dX12_goesRows_108 (q := 2) rfl ?_
            refine z_iald F hI gs_143 (by omega) (by omega) (by decide) bd_143 dX12_goesRows_110 (fun v48 (ev48 : v48 = M45 143 _) av48 bv48 => ?_)
            refine z_iast F hI gs_144 (by omega) (by omega) (by decide) bd_144 dX12_goesRows_111 (by omega) (by omega) (fun M50 hI sf49 f49 => ?_)
            have hF := hF.wr f49 (by decide) (by decide)
            have hW : WFk M50 := hW.site f49 (by decide)
            refine z_iincN F dX12_goesRows_112 (q := 2) rfl (by decide) (fun v51 ev51 => ?_)
            refine z_eq (ls' := [(6, ii v51), (0, .ref (ad 131)), (1, ii x0)]) rfl rfl rfl ?_
            refine z_goto (tgt := 92) F dX12_goesRows_115 (by decide +kernel) ?_
            refine z_loc [1, 2, 0] (ls' := [(0, .ref (ad 131)), (1, ii x0), (6, ii v51)]) rfl ?_
            exact ih92 v51 M50 hI hW hF (by omega) (by omega) (by omega)
      · refine z_iload_n F dX12_goesRows_26 rfl (q := 1) rfl ?_
        refine z_iconst F dX12_goesRows_27 ?_
        refine z_icmp_le (tgt := 57) F dX12_goesRows_28 (by decide +kernel) (by omega) (by omega) (fun c52 => ?_) (fun c52 => ?_)
        · refine z_iconst F dX12_goesRows_57 ?_
          refine z_iadd F dX12_goesRows_58 ?_
          refine z_nm (fun v53 ev53 => ?_)
          refine z_istore F dX12_goesRows_59 (by decide) (ls' := [(5, ii v53), (0, .ref (ad 131)), (1, ii x0), (2, ii x1), (3, ii x2), (4, ii x3)]) rfl ?_
          refine z_aload_n F dX12_goesRows_61 rfl (q := 1) rfl ?_
          refine gf_X12_498 F hI gs_131 rfl bd_131_36 dX12_goesRows_62 (fun v54 ev54 av54 bv54 => ?_)
          have zv54 : v1 = v54 := ev1.trans ev54.symm
          subst zv54
          refine z_if_eq (tgt := 78) F dX12_goesRows_65 (by decide +kernel) (by omega) (fun c55 => ?_) (fun c55 => by exfalso; omega)
          refine z_aload_n F dX12_goesRows_78 rfl (q := 1) rfl ?_
          refine z_iconst F dX12_goesRows_79 ?_
          refine pf_X12_498 F hI gs_131 rfl bd_131_36 (nar_z (by omega) (by omega)) (fit_z (by omega) (by omega)) dX12_goesRows_80 (by omega) (by omega) (fun M57 hI sf56 f56 => ?_)
          have hF := hF.wrf f56 (by decide) (by decide)
          have hW : WFk M57 := hW.site f56 (by decide)
          refine z_aload_n F dX12_goesRows_83 rfl (q := 1) rfl ?_
          refine z_iload F dX12_goesRows_84 (q := 0) rfl ?_
          refine pf_X12_501 F hI gs_131 rfl bd_131_35 rfl rfl dX12_goesRows_86 (by omega) (by omega) (fun M59 hI sf58 f58 => ?_)
          have hF := hF.wrf f58 (by decide) (by decide)
          have hW : WFk M59 := hW.site f58 (by decide)
          refine z_iconst F dX12_goesRows_89 ?_
          refine z_istore F dX12_goesRows_90 (by decide) (ls' := [(6, ii 0), (5, ii v53), (0, .ref (ad 131)), (1, ii x0), (2, ii x1), (3, ii x2), (4, ii x3)]) rfl ?_
          refine z_loc [2, 3, 0] (ls' := [(0, .ref (ad 131)), (1, ii x0), (6, ii 0)]) rfl ?_
          suffices key92 : ∀ (n : Nat) (y61 : Int) (M60 : Mem), Inv M60 → WFk M60 → Fr [131, 137, 143, 144] M M60 → 0 ≤ y61 → y61 ≤ 2 → 2 - y61 < (n : Int) → Z D cy ad p l e (RMh (5 + (nr + 1))) s m args below meth c A 7 0 0 Q 92 [(0, .ref (ad 131)), (1, ii x0), (6, ii y61)] [] M60 from key92 3 0 M59 hI hW hF (by omega) (by omega) (by omega)
          intro n92
          induction n92 with
          | zero => intro y61 M60 hI hW hF ay61 by61 hn92; exfalso; omega
          | succ n92 ih92 =>
            intro y61 M60 hI hW hF ay61 by61 hn92
            refine z_iload F dX12_goesRows_92 (q := 2) rfl ?_
            refine z_iload_n F dX12_goesRows_94 rfl (q := 1) rfl ?_
            refine z_icmp_ge (tgt := 118) F dX12_goesRows_95 (by decide +kernel) (by omega) (by omega) (fun c62 => ?_) (fun c62 => ?_)
            · exact hret _ 118 _ ⟨hI, hW⟩ hF dX12_goesRows_118
            · refine z_aload_n F dX12_goesRows_98 rfl (q := 0) rfl ?_
              refine rf_X12_51 F gs_131 rfl dX12_goesRows_99 ?_
              refine z_iload F dX12_goesRows_102 (q := 2) rfl ?_
              refine z_aload_n F dX12_goesRows_104 rfl (q := 0) rfl ?_
              refine rf_X12_48 F gs_131 rfl dX12_goesRows_105 ?_
              refine z_iload F dX12_goesRows_108 (q := 2) rfl ?_
              refine z_iald F hI gs_143 (by omega) (by omega) (by decide) bd_143 dX12_goesRows_110 (fun v63 (ev63 : v63 = M60 143 _) av63 bv63 => ?_)
              refine z_iast F hI gs_144 (by omega) (by omega) (by decide) bd_144 dX12_goesRows_111 (by omega) (by omega) (fun M65 hI sf64 f64 => ?_)
              have hF := hF.wr f64 (by decide) (by decide)
              have hW : WFk M65 := hW.site f64 (by decide)
              refine z_iincN F dX12_goesRows_112 (q := 2) rfl (by decide) (fun v66 ev66 => ?_)
              refine z_eq (ls' := [(6, ii v66), (0, .ref (ad 131)), (1, ii x0)]) rfl rfl rfl ?_
              refine z_goto (tgt := 92) F dX12_goesRows_115 (by decide +kernel) ?_
              refine z_loc [1, 2, 0] (ls' := [(0, .ref (ad 131)), (1, ii x0), (6, ii v66)]) rfl ?_
              exact ih92 v66 M65 hI hW hF (by omega) (by omega) (by omega)
        · refine z_aload_n F dX12_goesRows_31 rfl (q := 0) rfl ?_
          refine z_aload_n F dX12_goesRows_32 rfl (q := 0) rfl ?_
          refine rf_X12_48 F gs_131 rfl dX12_goesRows_33 ?_
          refine z_iconst F dX12_goesRows_36 ?_
          refine z_iald F hI gs_143 (by omega) (by omega) (by decide) bd_143 dX12_goesRows_37 (fun v67 (ev67 : v67 = M 143 0) av67 bv67 => ?_)
          refine z_aload_n F dX12_goesRows_38 rfl (q := 0) rfl ?_
          refine rf_X12_48 F gs_131 rfl dX12_goesRows_39 ?_
          refine z_iload_n F dX12_goesRows_42 rfl (q := 1) rfl ?_
          refine z_iconst F dX12_goesRows_43 ?_
          refine z_isub F dX12_goesRows_44 ?_
          refine z_iald F hI gs_143 (by omega) (by omega) (by decide) bd_143 dX12_goesRows_45 (fun v68 (ev68 : v68 = M 143 _) av68 bv68 => ?_)
          refine z_iconst F dX12_goesRows_46 ?_
          refine zv_i (rest := [ii x2]) F (k_X12_wouldClash l M ⟨hI, hW⟩ v67 (by omega) (by omega) v68 (by omega) (by omega) 0 (by omega) (by omega)) cs_X12_322 (T := TX12) (N := 44) (ci := 12) rfl gs_131 (by omega) (by decide) rfl rfl rfl (Nat.le_of_ble_eq_true rfl) dX12_goesRows_47 (fun v69 M70 rv69 hI p71 => ?_)
          obtain ⟨hI, hW⟩ := hI
          obtain ⟨⟨av69, bv69⟩, fp71⟩ := p71
          have hF := hF.call fp71 (by decide)
          refine z_if_eq (tgt := 57) F dX12_goesRows_50 (by decide +kernel) (by omega) (fun c72 => ?_) (fun c72 => ?_)
          · refine z_iconst F dX12_goesRows_57 ?_
            refine z_iadd F dX12_goesRows_58 ?_
            refine z_nm (fun v73 ev73 => ?_)
            refine z_istore F dX12_goesRows_59 (by decide) (ls' := [(5, ii v73), (0, .ref (ad 131)), (1, ii x0), (2, ii x1), (3, ii x2), (4, ii x3)]) rfl ?_
            refine z_aload_n F dX12_goesRows_61 rfl (q := 1) rfl ?_
            refine gf_X12_498 F hI gs_131 rfl bd_131_36 dX12_goesRows_62 (fun v74 ev74 av74 bv74 => ?_)
            have q75 : v1 = M70 131 36 := ev1.trans ((fp71.at (by decide)) : M70 131 36 = _).symm
            have zv74 : v1 = v74 := q75.trans ev74.symm
            subst zv74
            refine z_if_eq (tgt := 78) F dX12_goesRows_65 (by decide +kernel) (by omega) (fun c76 => ?_) (fun c76 => by exfalso; omega)
            refine z_aload_n F dX12_goesRows_78 rfl (q := 1) rfl ?_
            refine z_iconst F dX12_goesRows_79 ?_
            refine pf_X12_498 F hI gs_131 rfl bd_131_36 (nar_z (by omega) (by omega)) (fit_z (by omega) (by omega)) dX12_goesRows_80 (by omega) (by omega) (fun M78 hI sf77 f77 => ?_)
            have hF := hF.wrf f77 (by decide) (by decide)
            have hW : WFk M78 := hW.site f77 (by decide)
            refine z_aload_n F dX12_goesRows_83 rfl (q := 1) rfl ?_
            refine z_iload F dX12_goesRows_84 (q := 0) rfl ?_
            refine pf_X12_501 F hI gs_131 rfl bd_131_35 rfl rfl dX12_goesRows_86 (by omega) (by omega) (fun M80 hI sf79 f79 => ?_)
            have hF := hF.wrf f79 (by decide) (by decide)
            have hW : WFk M80 := hW.site f79 (by decide)
            refine z_iconst F dX12_goesRows_89 ?_
            refine z_istore F dX12_goesRows_90 (by decide) (ls' := [(6, ii 0), (5, ii v73), (0, .ref (ad 131)), (1, ii x0), (2, ii x1), (3, ii x2), (4, ii x3)]) rfl ?_
            refine z_loc [2, 3, 0] (ls' := [(0, .ref (ad 131)), (1, ii x0), (6, ii 0)]) rfl ?_
            suffices key92 : ∀ (n : Nat) (y82 : Int) (M81 : Mem), Inv M81 → WFk M81 → Fr [131, 137, 143, 144] M M81 → 0 ≤ y82 → y82 ≤ 8 → 8 - y82 < (n : Int) → Z D cy ad p l e (RMh (5 + (nr + 1))) s m args below meth c A 7 0 0 Q 92 [(0, .ref (ad 131)), (1, ii x0), (6, ii y82)] [] M81 from key92 9 0 M80 hI hW hF (by omega) (by omega) (by omega)
            intro n92
            induction n92 with
            | zero => intro y82 M81 hI hW hF ay82 by82 hn92; exfalso; omega
            | succ n92 ih92 =>
              intro y82 M81 hI hW hF ay82 by82 hn92
              refine z_iload F dX12_goesRows_92 (q := 2) rfl ?_
              refine z_iload_n F dX12_goesRows_94 rfl (q := 1) rfl ?_
              refine z_icmp_ge (tgt := 118) F dX12_goesRows_95 (by decide +kernel) (by omega) (by omega) (fun c83 => ?_) (fun c83 => ?_)
              · exact hret _ 118 _ ⟨hI, hW⟩ hF dX12_goesRows_118
              · refine z_aload_n F dX12_goesRows_98 rfl (q := 0) rfl ?_
                refine rf_X12_51 F gs_131 rfl dX12_goesRows_99 ?_
                refine z_iload F dX12_goesRows_102 (q := 2) rfl ?_
                refine z_aload_n F dX12_goesRows_104 rfl (q := 0) rfl ?_
                refine rf_X12_48 F gs_131 rfl dX12_goesRows_105 ?_
                refine z_iload F dX12_goesRows_108 (q := 2) rfl ?_
                refine z_iald F hI gs_143 (by omega) (by omega) (by decide) bd_143 dX12_goesRows_110 (fun v84 (ev84 : v84 = M81 143 _) av84 bv84 => ?_)
                refine z_iast F hI gs_144 (by omega) (by omega) (by decide) bd_144 dX12_goesRows_111 (by omega) (by omega) (fun M86 hI sf85 f85 => ?_)
                have hF := hF.wr f85 (by decide) (by decide)
                have hW : WFk M86 := hW.site f85 (by decide)
                refine z_iincN F dX12_goesRows_112 (q := 2) rfl (by decide) (fun v87 ev87 => ?_)
                refine z_eq (ls' := [(6, ii v87), (0, .ref (ad 131)), (1, ii x0)]) rfl rfl rfl ?_
                refine z_goto (tgt := 92) F dX12_goesRows_115 (by decide +kernel) ?_
                refine z_loc [1, 2, 0] (ls' := [(0, .ref (ad 131)), (1, ii x0), (6, ii v87)]) rfl ?_
                exact ih92 v87 M86 hI hW hF (by omega) (by omega) (by omega)
          · refine z_iconst F dX12_goesRows_53 ?_
            refine z_goto (tgt := 58) F dX12_goesRows_54 (by decide +kernel) ?_
            refine z_iadd F dX12_goesRows_58 ?_
            refine z_wrap (fun v88 rv88 wv88 => ?_)
            refine z_istore F dX12_goesRows_59 (by decide) (ls' := [(5, ii v88), (0, .ref (ad 131)), (1, ii x0), (2, ii x1), (3, ii x2), (4, ii x3)]) rfl ?_
            refine z_aload_n F dX12_goesRows_61 rfl (q := 1) rfl ?_
            refine gf_X12_498 F hI gs_131 rfl bd_131_36 dX12_goesRows_62 (fun v89 ev89 av89 bv89 => ?_)
            have q90 : v1 = M70 131 36 := ev1.trans ((fp71.at (by decide)) : M70 131 36 = _).symm
            have zv89 : v1 = v89 := q90.trans ev89.symm
            subst zv89
            refine z_if_eq (tgt := 78) F dX12_goesRows_65 (by decide +kernel) (by omega) (fun c91 => ?_) (fun c91 => by exfalso; omega)
            refine z_aload_n F dX12_goesRows_78 rfl (q := 1) rfl ?_
            refine z_iconst F dX12_goesRows_79 ?_
            refine pf_X12_498 F hI gs_131 rfl bd_131_36 (nar_z (by omega) (by omega)) (fit_z (by omega) (by omega)) dX12_goesRows_80 (by omega) (by omega) (fun M93 hI sf92 f92 => ?_)
            have hF := hF.wrf f92 (by decide) (by decide)
            have hW : WFk M93 := hW.site f92 (by decide)
            refine z_aload_n F dX12_goesRows_83 rfl (q := 1) rfl ?_
            refine z_iload F dX12_goesRows_84 (q := 0) rfl ?_
            refine pf_X12_501 F hI gs_131 rfl bd_131_35 rfl rfl dX12_goesRows_86 (by omega) (by omega) (fun M95 hI sf94 f94 => ?_)
            have hF := hF.wrf f94 (by decide) (by decide)
            have hW : WFk M95 := hW.site f94 (by decide)
            refine z_iconst F dX12_goesRows_89 ?_
            refine z_istore F dX12_goesRows_90 (by decide) (ls' := [(6, ii 0), (5, ii v88), (0, .ref (ad 131)), (1, ii x0), (2, ii x1), (3, ii x2), (4, ii x3)]) rfl ?_
            refine z_loc [2, 3, 0] (ls' := [(0, .ref (ad 131)), (1, ii x0), (6, ii 0)]) rfl ?_
            suffices key92 : ∀ (n : Nat) (y97 : Int) (M96 : Mem), Inv M96 → WFk M96 → Fr [131, 137, 143, 144] M M96 → 0 ≤ y97 → y97 ≤ 8 → 8 - y97 < (n : Int) → Z D cy ad p l e (RMh (5 + (nr + 1))) s m args below meth c A 7 0 0 Q 92 [(0, .ref (ad 131)), (1, ii x0), (6, ii y97)] [] M96 from key92 9 0 M95 hI hW hF (by omega) (by omega) (by omega)
            intro n92
            induction n92 with
            | zero => intro y97 M96 hI hW hF ay97 by97 hn92; exfalso; omega
            | succ n92 ih92 =>
              intro y97 M96 hI hW hF ay97 by97 hn92
              refine z_iload F dX12_goesRows_92 (q := 2) rfl ?_
              refine z_iload_n F dX12_goesRows_94 rfl (q := 1) rfl ?_
              refine z_icmp_ge (tgt := 118) F dX12_goesRows_95 (by decide +kernel) (by omega) (by omega) (fun c98 => ?_) (fun c98 => ?_)
              · exact hret _ 118 _ ⟨hI, hW⟩ hF dX12_goesRows_118
              · refine z_aload_n F dX12_goesRows_98 rfl (q := 0) rfl ?_
                refine rf_X12_51 F gs_131 rfl dX12_goesRows_99 ?_
                refine z_iload F dX12_goesRows_102 (q := 2) rfl ?_
                refine z_aload_n F dX12_goesRows_104 rfl (q := 0) rfl ?_
                refine rf_X12_48 F gs_131 rfl dX12_goesRows_105 ?_
                refine z_iload F dX12_goesRows_108 (q := 2) rfl ?_
                refine z_iald F hI gs_143 (by omega) (by omega) (by decide) bd_143 dX12_goesRows_110 (fun v99 (ev99 : v99 = M96 143 _) av99 bv99 => ?_)
                refine z_iast F hI gs_144 (by omega) (by omega) (by decide) bd_144 dX12_goesRows_111 (by omega) (by omega) (fun M101 hI sf100 f100 => ?_)
                have hF := hF.wr f100 (by decide) (by decide)
                have hW : WFk M101 := hW.site f100 (by decide)
                refine z_iincN F dX12_goesRows_112 (q := 2) rfl (by decide) (fun v102 ev102 => ?_)
                refine z_eq (ls' := [(6, ii v102), (0, .ref (ad 131)), (1, ii x0)]) rfl rfl rfl ?_
                refine z_goto (tgt := 92) F dX12_goesRows_115 (by decide +kernel) ?_
                refine z_loc [1, 2, 0] (ls' := [(0, .ref (ad 131)), (1, ii x0), (6, ii v102)]) rfl ?_
                exact ih92 v102 M101 hI hW hF (by omega) (by omega) (by omega)
  · refine z_iload_n F dX12_goesRows_7 rfl (q := 3) rfl ?_
    refine z_aload_n F dX12_goesRows_8 rfl (q := 0) rfl ?_
    refine gf_X12_501 F hI gs_131 rfl bd_131_35 dX12_goesRows_9 (fun v103 ev103 av103 bv103 => ?_)
    refine z_icmp_lt (tgt := 16) F dX12_goesRows_12 (by decide +kernel) (by omega) (by omega) (fun c104 => ?_) (fun c104 => ?_)
    · refine z_iload_n F dX12_goesRows_16 rfl (q := 2) rfl ?_
      refine z_if_ne (tgt := 119) F dX12_goesRows_17 (by decide +kernel) (by omega) (fun c105 => ?_) (fun c105 => ?_)
      · have hp1 := pcn_1 (s := x1) (by omega) (by omega) (by omega)
        have k106 : 0 ≤ x0 ∧ x0 ≤ 7 := by omega
        refine z_iconst F dX12_goesRows_119 ?_
        refine z_istore F dX12_goesRows_120 (by decide) (ls' := [(5, ii 0), (0, .ref (ad 131)), (1, ii x0), (2, ii x1), (3, ii x2), (4, ii x3)]) rfl ?_
        refine z_loc [1, 2, 3, 4, 5, 0] (ls' := [(0, .ref (ad 131)), (1, ii x0), (2, ii x1), (3, ii x2), (4, ii x3), (5, ii 0)]) rfl ?_
        suffices key122 : ∀ (n : Nat) (y108 : Int) (M107 : Mem), Inv M107 → WFk M107 → Fr [131, 137, 143, 144] M M107 → 0 ≤ y108 → y108 ≤ 8 → 8 - y108 < (n : Int) → Z D cy ad p l e (RMh (5 + (nr + 1))) s m args below meth c A 7 0 0 Q 122 [(0, .ref (ad 131)), (1, ii x0), (2, ii x1), (3, ii x2), (4, ii x3), (5, ii y108)] [] M107 from key122 9 0 M hI hW hF (by omega) (by omega) (by omega)
        intro n122
        induction n122 with
        | zero => intro y108 M107 hI hW hF ay108 by108 hn122; exfalso; omega
        | succ n122 ih122 =>
          intro y108 M107 hI hW hF ay108 by108 hn122
          refine z_iload F dX12_goesRows_122 (q := 5) rfl ?_
          refine z_aload_n F dX12_goesRows_124 rfl (q := 0) rfl ?_
          refine zv_i (rest := [ii y108]) F (k_X12_things l M107 ⟨hI, hW⟩) cs_X12_275 (T := TX12) (N := 44) (ci := 12) rfl gs_131 (by omega) (by decide) rfl rfl rfl (Nat.le_of_ble_eq_true rfl) dX12_goesRows_125 (fun v109 M110 rv109 hI p111 => ?_)
          obtain ⟨hI, hW⟩ := hI
          obtain ⟨⟨av109, bv109⟩, rfl, xp111⟩ := p111
          refine z_icmp_ge (tgt := 203) F dX12_goesRows_128 (by decide +kernel) (by omega) (by omega) (fun c112 => ?_) (fun c112 => ?_)
          · exact hret _ 203 _ ⟨hI, hW⟩ hF dX12_goesRows_203
          · refine z_iload_n F dX12_goesRows_131 rfl (q := 2) rfl ?_
            refine z_iload F dX12_goesRows_132 (q := 5) rfl ?_
            refine zs_i (rest := []) F (k_X12_has l M107 ⟨hI, hW⟩ x1 (by omega) (by omega) y108 (by omega) (by omega)) cs_X12_346 (by omega) (by decide) rfl rfl rfl (Nat.le_of_ble_eq_true rfl) dX12_goesRows_134 (fun v113 M114 rv113 hI p115 => ?_)
            obtain ⟨hI, hW⟩ := hI
            obtain ⟨⟨av113, bv113⟩, rfl, xp115⟩ := p115
            have hbqy108 := xp115
            refine z_if_ne (tgt := 143) F dX12_goesRows_137 (by decide +kernel) (by omega) (fun c116 => ?_) (fun c116 => ?_)
            · refine z_aload_n F dX12_goesRows_143 rfl (q := 0) rfl ?_
              refine rf_X12_48 F gs_131 rfl dX12_goesRows_144 ?_
              refine z_iload_n F dX12_goesRows_147 rfl (q := 1) rfl ?_
              refine z_iload F dX12_goesRows_148 (q := 5) rfl ?_
              refine z_iast F hI gs_143 (by omega) (by omega) (by decide) bd_143 dX12_goesRows_150 (by omega) (by omega) (fun M118 hI sf117 f117 => ?_)
              have hF := hF.wr f117 (by decide) (by decide)
              have hW : WFk M118 := hW.site f117 (by decide)
              refine z_aload_n F dX12_goesRows_151 rfl (q := 0) rfl ?_
              refine z_iload_n F dX12_goesRows_152 rfl (q := 1) rfl ?_
              refine z_iconst F dX12_goesRows_153 ?_
              refine z_iadd F dX12_goesRows_154 ?_
              refine z_iload_n F dX12_goesRows_155 rfl (q := 2) rfl ?_
              refine z_iconst F dX12_goesRows_156 ?_
              refine z_iload F dX12_goesRows_157 (q := 5) rfl ?_
              refine z_shl1 (k := 7) F dX12_goesRows_159 (by decide) (by omega) (by omega) (fun v119 ev119 av119 bv119 => ?_)
              refine z_iconst F dX12_goesRows_160 ?_
              refine z_ixor0 F dX12_goesRows_161 (fun v120 ev120 rv120 => ?_)
              refine z_iand_l F dX12_goesRows_162 (by omega) (by omega) (fun v121 ev121 av121 bv121 => ?_)
              have hdr := drop10 (s := x1) (q := y108) (by omega) (by omega) (by omega) (by omega) (hbqy108.mp (by omega)) ev121 (by assumption) (by assumption)
              refine z_iload_n F dX12_goesRows_163 rfl (q := 3) rfl ?_
              refine z_iload_n F dX12_goesRows_164 rfl (q := 1) rfl ?_
              refine z_if_le (tgt := 190) F dX12_goesRows_165 (by decide +kernel) (by omega) (fun c122 => ?_) (fun c122 => ?_)
              · refine z_iconst F dX12_goesRows_190 ?_
                refine z_iadd F dX12_goesRows_191 ?_
                refine z_iload F dX12_goesRows_192 (q := 4) rfl ?_
                refine zv_v (rest := []) F (ih M118 ⟨hI, hW⟩ (x0 + 1) (by omega) (by omega) v121 (by omega) (by omega) (x2 + 0) (by omega) (by omega) x3 (by omega) (by omega) (by omega) (by omega)) cs_X12_504 (T := TX12) (N := 44) (ci := 12) rfl gs_131 (by omega) (by decide) rfl rfl rfl (Nat.le_of_ble_eq_true rfl) dX12_goesRows_194 (fun M123 hI p124 => ?_)
                obtain ⟨hI, hW⟩ := hI
                have fp124 := p124
                have hF := hF.call fp124 (by decide)
                refine z_iincN F dX12_goesRows_197 (q := 5) rfl (by decide) (fun v125 ev125 => ?_)
                refine z_eq (ls' := [(5, ii v125), (0, .ref (ad 131)), (1, ii x0), (2, ii x1), (3, ii x2), (4, ii x3)]) rfl rfl rfl ?_
                refine z_goto (tgt := 122) F dX12_goesRows_200 (by decide +kernel) ?_
                refine z_loc [1, 2, 3, 4, 5, 0] (ls' := [(0, .ref (ad 131)), (1, ii x0), (2, ii x1), (3, ii x2), (4, ii x3), (5, ii v125)]) rfl ?_
                exact ih122 v125 M123 hI hW hF (by omega) (by omega) (by omega)
              · refine z_aload_n F dX12_goesRows_168 rfl (q := 0) rfl ?_
                refine z_aload_n F dX12_goesRows_169 rfl (q := 0) rfl ?_
                refine rf_X12_48 F gs_131 rfl dX12_goesRows_170 ?_
                refine z_iload_n F dX12_goesRows_173 rfl (q := 1) rfl ?_
                refine z_iconst F dX12_goesRows_174 ?_
                refine z_isub F dX12_goesRows_175 ?_
                refine z_iald F hI gs_143 (by omega) (by omega) (by decide) bd_143 dX12_goesRows_176 (fun v126 (ev126 : v126 = M118 143 _) av126 bv126 => ?_)
                refine z_iload F dX12_goesRows_177 (q := 5) rfl ?_
                refine z_iconst F dX12_goesRows_179 ?_
                refine zv_i (rest := [ii x2, ii v121, ii (x0 + 1), .ref (ad 131)]) F (k_X12_wouldClash l M118 ⟨hI, hW⟩ v126 (by omega) (by omega) y108 (by omega) (by omega) 0 (by omega) (by omega)) cs_X12_322 (T := TX12) (N := 44) (ci := 12) rfl gs_131 (by omega) (by decide) rfl rfl rfl (Nat.le_of_ble_eq_true rfl) dX12_goesRows_180 (fun v127 M128 rv127 hI p129 => ?_)
                obtain ⟨hI, hW⟩ := hI
                obtain ⟨⟨av127, bv127⟩, fp129⟩ := p129
                have hF := hF.call fp129 (by decide)
                refine z_if_eq (tgt := 190) F dX12_goesRows_183 (by decide +kernel) (by omega) (fun c130 => ?_) (fun c130 => ?_)
                · refine z_iconst F dX12_goesRows_190 ?_
                  refine z_iadd F dX12_goesRows_191 ?_
                  refine z_iload F dX12_goesRows_192 (q := 4) rfl ?_
                  refine zv_v (rest := []) F (ih M128 ⟨hI, hW⟩ (x0 + 1) (by omega) (by omega) v121 (by omega) (by omega) (x2 + 0) (by omega) (by omega) x3 (by omega) (by omega) (by omega) (by omega)) cs_X12_504 (T := TX12) (N := 44) (ci := 12) rfl gs_131 (by omega) (by decide) rfl rfl rfl (Nat.le_of_ble_eq_true rfl) dX12_goesRows_194 (fun M131 hI p132 => ?_)
                  obtain ⟨hI, hW⟩ := hI
                  have fp132 := p132
                  have hF := hF.call fp132 (by decide)
                  refine z_iincN F dX12_goesRows_197 (q := 5) rfl (by decide) (fun v133 ev133 => ?_)
                  refine z_eq (ls' := [(5, ii v133), (0, .ref (ad 131)), (1, ii x0), (2, ii x1), (3, ii x2), (4, ii x3)]) rfl rfl rfl ?_
                  refine z_goto (tgt := 122) F dX12_goesRows_200 (by decide +kernel) ?_
                  refine z_loc [1, 2, 3, 4, 5, 0] (ls' := [(0, .ref (ad 131)), (1, ii x0), (2, ii x1), (3, ii x2), (4, ii x3), (5, ii v133)]) rfl ?_
                  exact ih122 v133 M131 hI hW hF (by omega) (by omega) (by omega)
                · refine z_iconst F dX12_goesRows_186 ?_
                  refine z_goto (tgt := 191) F dX12_goesRows_187 (by decide +kernel) ?_
                  refine z_iadd F dX12_goesRows_191 ?_
                  refine z_iload F dX12_goesRows_192 (q := 4) rfl ?_
                  refine zv_v (rest := []) F (ih M128 ⟨hI, hW⟩ (x0 + 1) (by omega) (by omega) v121 (by omega) (by omega) (x2 + 1) (by omega) (by omega) x3 (by omega) (by omega) (by omega) (by omega)) cs_X12_504 (T := TX12) (N := 44) (ci := 12) rfl gs_131 (by omega) (by decide) rfl rfl rfl (Nat.le_of_ble_eq_true rfl) dX12_goesRows_194 (fun M134 hI p135 => ?_)
                  obtain ⟨hI, hW⟩ := hI
                  have fp135 := p135
                  have hF := hF.call fp135 (by decide)
                  refine z_iincN F dX12_goesRows_197 (q := 5) rfl (by decide) (fun v136 ev136 => ?_)
                  refine z_eq (ls' := [(5, ii v136), (0, .ref (ad 131)), (1, ii x0), (2, ii x1), (3, ii x2), (4, ii x3)]) rfl rfl rfl ?_
                  refine z_goto (tgt := 122) F dX12_goesRows_200 (by decide +kernel) ?_
                  refine z_loc [1, 2, 3, 4, 5, 0] (ls' := [(0, .ref (ad 131)), (1, ii x0), (2, ii x1), (3, ii x2), (4, ii x3), (5, ii v136)]) rfl ?_
                  exact ih122 v136 M134 hI hW hF (by omega) (by omega) (by omega)
            · refine z_goto (tgt := 197) F dX12_goesRows_140 (by decide +kernel) ?_
              refine z_iincN F dX12_goesRows_197 (q := 5) rfl (by decide) (fun v137 ev137 => ?_)
              refine z_eq (ls' := [(5, ii v137), (0, .ref (ad 131)), (1, ii x0), (2, ii x1), (3, ii x2), (4, ii x3)]) rfl rfl rfl ?_
              refine z_goto (tgt := 122) F dX12_goesRows_200 (by decide +kernel) ?_
              refine z_loc [1, 2, 3, 4, 5, 0] (ls' := [(0, .ref (ad 131)), (1, ii x0), (2, ii x1), (3, ii x2), (4, ii x3), (5, ii v137)]) rfl ?_
              exact ih122 v137 M107 hI hW hF (by omega) (by omega) (by omega)
      · refine z_iload_n F dX12_goesRows_20 rfl (q := 3) rfl ?_
        refine z_iload F dX12_goesRows_21 (q := 4) rfl ?_
        refine z_if_eq (tgt := 57) F dX12_goesRows_23 (by decide +kernel) (by omega) (fun c138 => ?_) (fun c138 => ?_)
        · refine z_iconst F dX12_goesRows_57 ?_
          refine z_iadd F dX12_goesRows_58 ?_
          refine z_nm (fun v139 ev139 => ?_)
          refine z_istore F dX12_goesRows_59 (by decide) (ls' := [(5, ii v139), (0, .ref (ad 131)), (1, ii x0), (2, ii x1), (3, ii x2), (4, ii x3)]) rfl ?_
          refine z_aload_n F dX12_goesRows_61 rfl (q := 1) rfl ?_
          refine gf_X12_498 F hI gs_131 rfl bd_131_36 dX12_goesRows_62 (fun v140 ev140 av140 bv140 => ?_)
          have zv140 : v1 = v140 := ev1.trans ev140.symm
          subst zv140
          refine z_if_eq (tgt := 78) F dX12_goesRows_65 (by decide +kernel) (by omega) (fun c141 => by exfalso; omega) (fun c141 => ?_)
          refine z_iload F dX12_goesRows_68 (q := 0) rfl ?_
          refine z_aload_n F dX12_goesRows_70 rfl (q := 1) rfl ?_
          refine gf_X12_501 F hI gs_131 rfl bd_131_35 dX12_goesRows_71 (fun v142 ev142 av142 bv142 => ?_)
          have zv142 : v103 = v142 := ev103.trans ev142.symm
          subst zv142
          refine z_icmp_lt (tgt := 78) F dX12_goesRows_74 (by decide +kernel) (by omega) (by omega) (fun c143 => ?_) (fun c143 => ?_)
          · refine z_aload_n F dX12_goesRows_78 rfl (q := 1) rfl ?_
            refine z_iconst F dX12_goesRows_79 ?_
            refine pf_X12_498 F hI gs_131 rfl bd_131_36 (nar_z (by omega) (by omega)) (fit_z (by omega) (by omega)) dX12_goesRows_80 (by omega) (by omega) (fun M145 hI sf144 f144 => ?_)
            have hF := hF.wrf f144 (by decide) (by decide)
            have hW : WFk M145 := hW.site f144 (by decide)
            refine z_aload_n F dX12_goesRows_83 rfl (q := 1) rfl ?_
            refine z_iload F dX12_goesRows_84 (q := 0) rfl ?_
            refine pf_X12_501 F hI gs_131 rfl bd_131_35 rfl rfl dX12_goesRows_86 (by omega) (by omega) (fun M147 hI sf146 f146 => ?_)
            have hF := hF.wrf f146 (by decide) (by decide)
            have hW : WFk M147 := hW.site f146 (by decide)
            refine z_iconst F dX12_goesRows_89 ?_
            refine z_istore F dX12_goesRows_90 (by decide) (ls' := [(6, ii 0), (5, ii v139), (0, .ref (ad 131)), (1, ii x0), (2, ii x1), (3, ii x2), (4, ii x3)]) rfl ?_
            refine z_loc [2, 3, 0] (ls' := [(0, .ref (ad 131)), (1, ii x0), (6, ii 0)]) rfl ?_
            suffices key92 : ∀ (n : Nat) (y149 : Int) (M148 : Mem), Inv M148 → WFk M148 → Fr [131, 137, 143, 144] M M148 → 0 ≤ y149 → y149 ≤ 8 → 8 - y149 < (n : Int) → Z D cy ad p l e (RMh (5 + (nr + 1))) s m args below meth c A 7 0 0 Q 92 [(0, .ref (ad 131)), (1, ii x0), (6, ii y149)] [] M148 from key92 9 0 M147 hI hW hF (by omega) (by omega) (by omega)
            intro n92
            induction n92 with
            | zero => intro y149 M148 hI hW hF ay149 by149 hn92; exfalso; omega
            | succ n92 ih92 =>
              intro y149 M148 hI hW hF ay149 by149 hn92
              refine z_iload F dX12_goesRows_92 (q := 2) rfl ?_
              refine z_iload_n F dX12_goesRows_94 rfl (q := 1) rfl ?_
              refine z_icmp_ge (tgt := 118) F dX12_goesRows_95 (by decide +kernel) (by omega) (by omega) (fun c150 => ?_) (fun c150 => ?_)
              · exact hret _ 118 _ ⟨hI, hW⟩ hF dX12_goesRows_118
              · refine z_aload_n F dX12_goesRows_98 rfl (q := 0) rfl ?_
                refine rf_X12_51 F gs_131 rfl dX12_goesRows_99 ?_
                refine z_iload F dX12_goesRows_102 (q := 2) rfl ?_
                refine z_aload_n F dX12_goesRows_104 rfl (q := 0) rfl ?_
                refine rf_X12_48 F gs_131 rfl dX12_goesRows_105 ?_
                refine z_iload F dX12_goesRows_108 (q := 2) rfl ?_
                refine z_iald F hI gs_143 (by omega) (by omega) (by decide) bd_143 dX12_goesRows_110 (fun v151 (ev151 : v151 = M148 143 _) av151 bv151 => ?_)
                refine z_iast F hI gs_144 (by omega) (by omega) (by decide) bd_144 dX12_goesRows_111 (by omega) (by omega) (fun M153 hI sf152 f152 => ?_)
                have hF := hF.wr f152 (by decide) (by decide)
                have hW : WFk M153 := hW.site f152 (by decide)
                refine z_iincN F dX12_goesRows_112 (q := 2) rfl (by decide) (fun v154 ev154 => ?_)
                refine z_eq (ls' := [(6, ii v154), (0, .ref (ad 131)), (1, ii x0)]) rfl rfl rfl ?_
                refine z_goto (tgt := 92) F dX12_goesRows_115 (by decide +kernel) ?_
                refine z_loc [1, 2, 0] (ls' := [(0, .ref (ad 131)), (1, ii x0), (6, ii v154)]) rfl ?_
                exact ih92 v154 M153 hI hW hF (by omega) (by omega) (by omega)
          · exact hret _ 77 _ ⟨hI, hW⟩ hF dX12_goesRows_77
        · refine z_iload_n F dX12_goesRows_26 rfl (q := 1) rfl ?_
          refine z_iconst F dX12_goesRows_27 ?_
          refine z_icmp_le (tgt := 57) F dX12_goesRows_28 (by decide +kernel) (by omega) (by omega) (fun c155 => ?_) (fun c155 => ?_)
          · refine z_iconst F dX12_goesRows_57 ?_
            refine z_iadd F dX12_goesRows_58 ?_
            refine z_nm (fun v156 ev156 => ?_)
            refine z_istore F dX12_goesRows_59 (by decide) (ls' := [(5, ii v156), (0, .ref (ad 131)), (1, ii x0), (2, ii x1), (3, ii x2), (4, ii x3)]) rfl ?_
            refine z_aload_n F dX12_goesRows_61 rfl (q := 1) rfl ?_
            refine gf_X12_498 F hI gs_131 rfl bd_131_36 dX12_goesRows_62 (fun v157 ev157 av157 bv157 => ?_)
            have zv157 : v1 = v157 := ev1.trans ev157.symm
            subst zv157
            refine z_if_eq (tgt := 78) F dX12_goesRows_65 (by decide +kernel) (by omega) (fun c158 => by exfalso; omega) (fun c158 => ?_)
            refine z_iload F dX12_goesRows_68 (q := 0) rfl ?_
            refine z_aload_n F dX12_goesRows_70 rfl (q := 1) rfl ?_
            refine gf_X12_501 F hI gs_131 rfl bd_131_35 dX12_goesRows_71 (fun v159 ev159 av159 bv159 => ?_)
            have zv159 : v103 = v159 := ev103.trans ev159.symm
            subst zv159
            refine z_icmp_lt (tgt := 78) F dX12_goesRows_74 (by decide +kernel) (by omega) (by omega) (fun c160 => ?_) (fun c160 => ?_)
            · refine z_aload_n F dX12_goesRows_78 rfl (q := 1) rfl ?_
              refine z_iconst F dX12_goesRows_79 ?_
              refine pf_X12_498 F hI gs_131 rfl bd_131_36 (nar_z (by omega) (by omega)) (fit_z (by omega) (by omega)) dX12_goesRows_80 (by omega) (by omega) (fun M162 hI sf161 f161 => ?_)
              have hF := hF.wrf f161 (by decide) (by decide)
              have hW : WFk M162 := hW.site f161 (by decide)
              refine z_aload_n F dX12_goesRows_83 rfl (q := 1) rfl ?_
              refine z_iload F dX12_goesRows_84 (q := 0) rfl ?_
              refine pf_X12_501 F hI gs_131 rfl bd_131_35 rfl rfl dX12_goesRows_86 (by omega) (by omega) (fun M164 hI sf163 f163 => ?_)
              have hF := hF.wrf f163 (by decide) (by decide)
              have hW : WFk M164 := hW.site f163 (by decide)
              refine z_iconst F dX12_goesRows_89 ?_
              refine z_istore F dX12_goesRows_90 (by decide) (ls' := [(6, ii 0), (5, ii v156), (0, .ref (ad 131)), (1, ii x0), (2, ii x1), (3, ii x2), (4, ii x3)]) rfl ?_
              refine z_loc [2, 3, 0] (ls' := [(0, .ref (ad 131)), (1, ii x0), (6, ii 0)]) rfl ?_
              suffices key92 : ∀ (n : Nat) (y166 : Int) (M165 : Mem), Inv M165 → WFk M165 → Fr [131, 137, 143, 144] M M165 → 0 ≤ y166 → y166 ≤ 2 → 2 - y166 < (n : Int) → Z D cy ad p l e (RMh (5 + (nr + 1))) s m args below meth c A 7 0 0 Q 92 [(0, .ref (ad 131)), (1, ii x0), (6, ii y166)] [] M165 from key92 3 0 M164 hI hW hF (by omega) (by omega) (by omega)
              intro n92
              induction n92 with
              | zero => intro y166 M165 hI hW hF ay166 by166 hn92; exfalso; omega
              | succ n92 ih92 =>
                intro y166 M165 hI hW hF ay166 by166 hn92
                refine z_iload F dX12_goesRows_92 (q := 2) rfl ?_
                refine z_iload_n F dX12_goesRows_94 rfl (q := 1) rfl ?_
                refine z_icmp_ge (tgt := 118) F dX12_goesRows_95 (by decide +kernel) (by omega) (by omega) (fun c167 => ?_) (fun c167 => ?_)
                · exact hret _ 118 _ ⟨hI, hW⟩ hF dX12_goesRows_118
                · refine z_aload_n F dX12_goesRows_98 rfl (q := 0) rfl ?_
                  refine rf_X12_51 F gs_131 rfl dX12_goesRows_99 ?_
                  refine z_iload F dX12_goesRows_102 (q := 2) rfl ?_
                  refine z_aload_n F dX12_goesRows_104 rfl (q := 0) rfl ?_
                  refine rf_X12_48 F gs_131 rfl dX12_goesRows_105 ?_
                  refine z_iload F dX12_goesRows_108 (q := 2) rfl ?_
                  refine z_iald F hI gs_143 (by omega) (by omega) (by decide) bd_143 dX12_goesRows_110 (fun v168 (ev168 : v168 = M165 143 _) av168 bv168 => ?_)
                  refine z_iast F hI gs_144 (by omega) (by omega) (by decide) bd_144 dX12_goesRows_111 (by omega) (by omega) (fun M170 hI sf169 f169 => ?_)
                  have hF := hF.wr f169 (by decide) (by decide)
                  have hW : WFk M170 := hW.site f169 (by decide)
                  refine z_iincN F dX12_goesRows_112 (q := 2) rfl (by decide) (fun v171 ev171 => ?_)
                  refine z_eq (ls' := [(6, ii v171), (0, .ref (ad 131)), (1, ii x0)]) rfl rfl rfl ?_
                  refine z_goto (tgt := 92) F dX12_goesRows_115 (by decide +kernel) ?_
                  refine z_loc [1, 2, 0] (ls' := [(0, .ref (ad 131)), (1, ii x0), (6, ii v171)]) rfl ?_
                  exact ih92 v171 M170 hI hW hF (by omega) (by omega) (by omega)
            · exact hret _ 77 _ ⟨hI, hW⟩ hF dX12_goesRows_77
          · refine z_aload_n F dX12_goesRows_31 rfl (q := 0) rfl ?_
            refine z_aload_n F dX12_goesRows_32 rfl (q := 0) rfl ?_
            refine rf_X12_48 F gs_131 rfl dX12_goesRows_33 ?_
            refine z_iconst F dX12_goesRows_36 ?_
            refine z_iald F hI gs_143 (by omega) (by omega) (by decide) bd_143 dX12_goesRows_37 (fun v172 (ev172 : v172 = M 143 0) av172 bv172 => ?_)
            refine z_aload_n F dX12_goesRows_38 rfl (q := 0) rfl ?_
            refine rf_X12_48 F gs_131 rfl dX12_goesRows_39 ?_
            refine z_iload_n F dX12_goesRows_42 rfl (q := 1) rfl ?_
            refine z_iconst F dX12_goesRows_43 ?_
            refine z_isub F dX12_goesRows_44 ?_
            refine z_iald F hI gs_143 (by omega) (by omega) (by decide) bd_143 dX12_goesRows_45 (fun v173 (ev173 : v173 = M 143 _) av173 bv173 => ?_)
            refine z_iconst F dX12_goesRows_46 ?_
            refine zv_i (rest := [ii x2]) F (k_X12_wouldClash l M ⟨hI, hW⟩ v172 (by omega) (by omega) v173 (by omega) (by omega) 0 (by omega) (by omega)) cs_X12_322 (T := TX12) (N := 44) (ci := 12) rfl gs_131 (by omega) (by decide) rfl rfl rfl (Nat.le_of_ble_eq_true rfl) dX12_goesRows_47 (fun v174 M175 rv174 hI p176 => ?_)
            obtain ⟨hI, hW⟩ := hI
            obtain ⟨⟨av174, bv174⟩, fp176⟩ := p176
            have hF := hF.call fp176 (by decide)
            refine z_if_eq (tgt := 57) F dX12_goesRows_50 (by decide +kernel) (by omega) (fun c177 => ?_) (fun c177 => ?_)
            · refine z_iconst F dX12_goesRows_57 ?_
              refine z_iadd F dX12_goesRows_58 ?_
              refine z_nm (fun v178 ev178 => ?_)
              refine z_istore F dX12_goesRows_59 (by decide) (ls' := [(5, ii v178), (0, .ref (ad 131)), (1, ii x0), (2, ii x1), (3, ii x2), (4, ii x3)]) rfl ?_
              refine z_aload_n F dX12_goesRows_61 rfl (q := 1) rfl ?_
              refine gf_X12_498 F hI gs_131 rfl bd_131_36 dX12_goesRows_62 (fun v179 ev179 av179 bv179 => ?_)
              have q180 : v1 = M175 131 36 := ev1.trans ((fp176.at (by decide)) : M175 131 36 = _).symm
              have zv179 : v1 = v179 := q180.trans ev179.symm
              subst zv179
              refine z_if_eq (tgt := 78) F dX12_goesRows_65 (by decide +kernel) (by omega) (fun c181 => by exfalso; omega) (fun c181 => ?_)
              refine z_iload F dX12_goesRows_68 (q := 0) rfl ?_
              refine z_aload_n F dX12_goesRows_70 rfl (q := 1) rfl ?_
              refine gf_X12_501 F hI gs_131 rfl bd_131_35 dX12_goesRows_71 (fun v182 ev182 av182 bv182 => ?_)
              have q183 : v103 = M175 131 35 := ev103.trans ((fp176.at (by decide)) : M175 131 35 = _).symm
              have zv182 : v103 = v182 := q183.trans ev182.symm
              subst zv182
              refine z_icmp_lt (tgt := 78) F dX12_goesRows_74 (by decide +kernel) (by omega) (by omega) (fun c184 => ?_) (fun c184 => ?_)
              · refine z_aload_n F dX12_goesRows_78 rfl (q := 1) rfl ?_
                refine z_iconst F dX12_goesRows_79 ?_
                refine pf_X12_498 F hI gs_131 rfl bd_131_36 (nar_z (by omega) (by omega)) (fit_z (by omega) (by omega)) dX12_goesRows_80 (by omega) (by omega) (fun M186 hI sf185 f185 => ?_)
                have hF := hF.wrf f185 (by decide) (by decide)
                have hW : WFk M186 := hW.site f185 (by decide)
                refine z_aload_n F dX12_goesRows_83 rfl (q := 1) rfl ?_
                refine z_iload F dX12_goesRows_84 (q := 0) rfl ?_
                refine pf_X12_501 F hI gs_131 rfl bd_131_35 rfl rfl dX12_goesRows_86 (by omega) (by omega) (fun M188 hI sf187 f187 => ?_)
                have hF := hF.wrf f187 (by decide) (by decide)
                have hW : WFk M188 := hW.site f187 (by decide)
                refine z_iconst F dX12_goesRows_89 ?_
                refine z_istore F dX12_goesRows_90 (by decide) (ls' := [(6, ii 0), (5, ii v178), (0, .ref (ad 131)), (1, ii x0), (2, ii x1), (3, ii x2), (4, ii x3)]) rfl ?_
                refine z_loc [2, 3, 0] (ls' := [(0, .ref (ad 131)), (1, ii x0), (6, ii 0)]) rfl ?_
                suffices key92 : ∀ (n : Nat) (y190 : Int) (M189 : Mem), Inv M189 → WFk M189 → Fr [131, 137, 143, 144] M M189 → 0 ≤ y190 → y190 ≤ 8 → 8 - y190 < (n : Int) → Z D cy ad p l e (RMh (5 + (nr + 1))) s m args below meth c A 7 0 0 Q 92 [(0, .ref (ad 131)), (1, ii x0), (6, ii y190)] [] M189 from key92 9 0 M188 hI hW hF (by omega) (by omega) (by omega)
                intro n92
                induction n92 with
                | zero => intro y190 M189 hI hW hF ay190 by190 hn92; exfalso; omega
                | succ n92 ih92 =>
                  intro y190 M189 hI hW hF ay190 by190 hn92
                  refine z_iload F dX12_goesRows_92 (q := 2) rfl ?_
                  refine z_iload_n F dX12_goesRows_94 rfl (q := 1) rfl ?_
                  refine z_icmp_ge (tgt := 118) F dX12_goesRows_95 (by decide +kernel) (by omega) (by omega) (fun c191 => ?_) (fun c191 => ?_)
                  · exact hret _ 118 _ ⟨hI, hW⟩ hF dX12_goesRows_118
                  · refine z_aload_n F dX12_goesRows_98 rfl (q := 0) rfl ?_
                    refine rf_X12_51 F gs_131 rfl dX12_goesRows_99 ?_
                    refine z_iload F dX12_goesRows_102 (q := 2) rfl ?_
                    refine z_aload_n F dX12_goesRows_104 rfl (q := 0) rfl ?_
                    refine rf_X12_48 F gs_131 rfl dX12_goesRows_105 ?_
                    refine z_iload F dX12_goesRows_108 (q := 2) rfl ?_
                    refine z_iald F hI gs_143 (by omega) (by omega) (by decide) bd_143 dX12_goesRows_110 (fun v192 (ev192 : v192 = M189 143 _) av192 bv192 => ?_)
                    refine z_iast F hI gs_144 (by omega) (by omega) (by decide) bd_144 dX12_goesRows_111 (by omega) (by omega) (fun M194 hI sf193 f193 => ?_)
                    have hF := hF.wr f193 (by decide) (by decide)
                    have hW : WFk M194 := hW.site f193 (by decide)
                    refine z_iincN F dX12_goesRows_112 (q := 2) rfl (by decide) (fun v195 ev195 => ?_)
                    refine z_eq (ls' := [(6, ii v195), (0, .ref (ad 131)), (1, ii x0)]) rfl rfl rfl ?_
                    refine z_goto (tgt := 92) F dX12_goesRows_115 (by decide +kernel) ?_
                    refine z_loc [1, 2, 0] (ls' := [(0, .ref (ad 131)), (1, ii x0), (6, ii v195)]) rfl ?_
                    exact ih92 v195 M194 hI hW hF (by omega) (by omega) (by omega)
              · exact hret _ 77 _ ⟨hI, hW⟩ hF dX12_goesRows_77
            · refine z_iconst F dX12_goesRows_53 ?_
              refine z_goto (tgt := 58) F dX12_goesRows_54 (by decide +kernel) ?_
              refine z_iadd F dX12_goesRows_58 ?_
              refine z_nm (fun v196 ev196 => ?_)
              refine z_istore F dX12_goesRows_59 (by decide) (ls' := [(5, ii v196), (0, .ref (ad 131)), (1, ii x0), (2, ii x1), (3, ii x2), (4, ii x3)]) rfl ?_
              refine z_aload_n F dX12_goesRows_61 rfl (q := 1) rfl ?_
              refine gf_X12_498 F hI gs_131 rfl bd_131_36 dX12_goesRows_62 (fun v197 ev197 av197 bv197 => ?_)
              have q198 : v1 = M175 131 36 := ev1.trans ((fp176.at (by decide)) : M175 131 36 = _).symm
              have zv197 : v1 = v197 := q198.trans ev197.symm
              subst zv197
              refine z_if_eq (tgt := 78) F dX12_goesRows_65 (by decide +kernel) (by omega) (fun c199 => by exfalso; omega) (fun c199 => ?_)
              refine z_iload F dX12_goesRows_68 (q := 0) rfl ?_
              refine z_aload_n F dX12_goesRows_70 rfl (q := 1) rfl ?_
              refine gf_X12_501 F hI gs_131 rfl bd_131_35 dX12_goesRows_71 (fun v200 ev200 av200 bv200 => ?_)
              have q201 : v103 = M175 131 35 := ev103.trans ((fp176.at (by decide)) : M175 131 35 = _).symm
              have zv200 : v103 = v200 := q201.trans ev200.symm
              subst zv200
              refine z_icmp_lt (tgt := 78) F dX12_goesRows_74 (by decide +kernel) (by omega) (by omega) (fun c202 => ?_) (fun c202 => ?_)
              · refine z_aload_n F dX12_goesRows_78 rfl (q := 1) rfl ?_
                refine z_iconst F dX12_goesRows_79 ?_
                refine pf_X12_498 F hI gs_131 rfl bd_131_36 (nar_z (by omega) (by omega)) (fit_z (by omega) (by omega)) dX12_goesRows_80 (by omega) (by omega) (fun M204 hI sf203 f203 => ?_)
                have hF := hF.wrf f203 (by decide) (by decide)
                have hW : WFk M204 := hW.site f203 (by decide)
                refine z_aload_n F dX12_goesRows_83 rfl (q := 1) rfl ?_
                refine z_iload F dX12_goesRows_84 (q := 0) rfl ?_
                refine pf_X12_501 F hI gs_131 rfl bd_131_35 rfl rfl dX12_goesRows_86 (by omega) (by omega) (fun M206 hI sf205 f205 => ?_)
                have hF := hF.wrf f205 (by decide) (by decide)
                have hW : WFk M206 := hW.site f205 (by decide)
                refine z_iconst F dX12_goesRows_89 ?_
                refine z_istore F dX12_goesRows_90 (by decide) (ls' := [(6, ii 0), (5, ii v196), (0, .ref (ad 131)), (1, ii x0), (2, ii x1), (3, ii x2), (4, ii x3)]) rfl ?_
                refine z_loc [2, 3, 0] (ls' := [(0, .ref (ad 131)), (1, ii x0), (6, ii 0)]) rfl ?_
                suffices key92 : ∀ (n : Nat) (y208 : Int) (M207 : Mem), Inv M207 → WFk M207 → Fr [131, 137, 143, 144] M M207 → 0 ≤ y208 → y208 ≤ 8 → 8 - y208 < (n : Int) → Z D cy ad p l e (RMh (5 + (nr + 1))) s m args below meth c A 7 0 0 Q 92 [(0, .ref (ad 131)), (1, ii x0), (6, ii y208)] [] M207 from key92 9 0 M206 hI hW hF (by omega) (by omega) (by omega)
                intro n92
                induction n92 with
                | zero => intro y208 M207 hI hW hF ay208 by208 hn92; exfalso; omega
                | succ n92 ih92 =>
                  intro y208 M207 hI hW hF ay208 by208 hn92
                  refine z_iload F dX12_goesRows_92 (q := 2) rfl ?_
                  refine z_iload_n F dX12_goesRows_94 rfl (q := 1) rfl ?_
                  refine z_icmp_ge (tgt := 118) F dX12_goesRows_95 (by decide +kernel) (by omega) (by omega) (fun c209 => ?_) (fun c209 => ?_)
                  · exact hret _ 118 _ ⟨hI, hW⟩ hF dX12_goesRows_118
                  · refine z_aload_n F dX12_goesRows_98 rfl (q := 0) rfl ?_
                    refine rf_X12_51 F gs_131 rfl dX12_goesRows_99 ?_
                    refine z_iload F dX12_goesRows_102 (q := 2) rfl ?_
                    refine z_aload_n F dX12_goesRows_104 rfl (q := 0) rfl ?_
                    refine rf_X12_48 F gs_131 rfl dX12_goesRows_105 ?_
                    refine z_iload F dX12_goesRows_108 (q := 2) rfl ?_
                    refine z_iald F hI gs_143 (by omega) (by omega) (by decide) bd_143 dX12_goesRows_110 (fun v210 (ev210 : v210 = M207 143 _) av210 bv210 => ?_)
                    refine z_iast F hI gs_144 (by omega) (by omega) (by decide) bd_144 dX12_goesRows_111 (by omega) (by omega) (fun M212 hI sf211 f211 => ?_)
                    have hF := hF.wr f211 (by decide) (by decide)
                    have hW : WFk M212 := hW.site f211 (by decide)
                    refine z_iincN F dX12_goesRows_112 (q := 2) rfl (by decide) (fun v213 ev213 => ?_)
                    refine z_eq (ls' := [(6, ii v213), (0, .ref (ad 131)), (1, ii x0)]) rfl rfl rfl ?_
                    refine z_goto (tgt := 92) F dX12_goesRows_115 (by decide +kernel) ?_
                    refine z_loc [1, 2, 0] (ls' := [(0, .ref (ad 131)), (1, ii x0), (6, ii v213)]) rfl ?_
                    exact ih92 v213 M212 hI hW hF (by omega) (by omega) (by omega)
              · exact hret _ 77 _ ⟨hI, hW⟩ hF dX12_goesRows_77
    · exact hret _ 15 _ ⟨hI, hW⟩ hF dX12_goesRows_15
set_option maxRecDepth 4000 in
theorem k_X12_bestRow (l : Launch) (M : Mem) (hJ : Iw M) (x0 : Int) (hx0a : (-2147483648) ≤ x0) (hx0b : x0 ≤ 2147483647) (x1 : Int) (hx1a : 0 ≤ x1) (hx1b : x1 ≤ 1) (x2 : Int) (hx2a : (-2147483648) ≤ x2) (hx2b : x2 ≤ 2147483647) : CI l yX12_bestRow cX12_bestRow 4 (some .int) 262 (fun ad => [.ref (ad 131), ii x0, ii x1, ii x2]) M (fun z M' => ((-2147483648) ≤ z ∧ z ≤ 2147483647) ∧ Fr [131, 137, 143, 144] M M') := by
  obtain ⟨hI, hW⟩ := hJ
  have hF : Fr [131, 137, 143, 144] M M := Fr.rf
  refine en_i (by decide +kernel) (fun ad => by exact Nat.le_of_ble_eq_true rfl) (fun D cy ad A p e s m args below meth c Q F hret => ?_)
  refine z_eq (ls' := [(0, .ref (ad 131)), (1, ii x0), (2, ii x1), (3, ii x2)]) rfl rfl rfl ?_
  refine z_aload_n F dX12_bestRow_0 rfl (q := 0) rfl ?_
  refine z_iconst F dX12_bestRow_1 ?_
  refine pf_X12_73 F hI gs_131 rfl bd_131_4 rfl rfl dX12_bestRow_2 (by omega) (by omega) (fun M2 hI sf1 f1 => ?_)
  have hF := hF.wrf f1 (by decide) (by decide)
  have hW : WFk M2 := hW.site f1 (by decide)
  refine z_iload_n F dX12_bestRow_5 rfl (q := 1) rfl ?_
  refine z_iconst F dX12_bestRow_6 ?_
  refine z_aload_n F dX12_bestRow_7 rfl (q := 0) rfl ?_
  refine zv_i (rest := [ii 1, ii x0]) F (k_X12_things l M2 ⟨hI, hW⟩) cs_X12_275 (T := TX12) (N := 44) (ci := 12) rfl gs_131 (by decide) (by decide) rfl rfl rfl (Nat.le_of_ble_eq_true rfl) dX12_bestRow_8 (fun v3 M4 rv3 hI p5 => ?_)
  obtain ⟨hI, hW⟩ := hI
  obtain ⟨⟨av3, bv3⟩, rfl, xp5⟩ := p5
  refine z_shl1 (k := 8) F dX12_bestRow_11 (by decide) (by omega) (by omega) (fun v6 ev6 av6 bv6 => ?_)
  refine z_ineg F dX12_bestRow_12 ?_
  refine z_iand0 F dX12_bestRow_13 (fun v7 ev7 rv7 => ?_)
  have hnm := neg_mask (by omega) (by omega) (by omega) (by assumption) ev7
  refine z_if_ne (tgt := 35) F dX12_bestRow_14 (by decide +kernel) (by omega) (fun c8 => ?_) (fun c8 => ?_)
  · refine z_aload_n F dX12_bestRow_35 rfl (q := 0) rfl ?_
    refine z_iconst F dX12_bestRow_36 ?_
    refine zv_i (rest := []) F (k_X12_fails l M2 ⟨hI, hW⟩ 1 (by omega) (by omega)) cs_X12_262 (T := TX12) (N := 44) (ci := 12) rfl gs_131 (by decide) (by decide) rfl rfl rfl (Nat.le_of_ble_eq_true rfl) dX12_bestRow_37 (fun v9 M10 rv9 hI p11 => ?_)
    obtain ⟨hI, hW⟩ := hI
    obtain ⟨⟨av9, bv9⟩, fp11, xp11⟩ := p11
    have hF := hF.call fp11 (by decide)
    exact hret _ _ 40 _ (by omega) ⟨hI, hW⟩ ⟨⟨by omega, by omega⟩, hF⟩ dX12_bestRow_40
  · refine z_iload_n F dX12_bestRow_17 rfl (q := 3) rfl ?_
    refine z_if_eq (tgt := 41) F dX12_bestRow_18 (by decide +kernel) (by omega) (fun c12 => ?_) (fun c12 => ?_)
    · have hsr := hnm (by omega)
      refine z_aload_n F dX12_bestRow_41 rfl (q := 0) rfl ?_
      refine z_iconst F dX12_bestRow_42 ?_
      refine pf_X12_498 F hI gs_131 rfl bd_131_36 (nar_z (by omega) (by omega)) (fit_z (by omega) (by omega)) dX12_bestRow_43 (by omega) (by omega) (fun M14 hI sf13 f13 => ?_)
      have hF := hF.wrf f13 (by decide) (by decide)
      have hW : WFk M14 := hW.site f13 (by decide)
      have k15 : 0 ≤ x0 ∧ x0 ≤ 255 := by omega
      refine z_aload_n F dX12_bestRow_46 rfl (q := 0) rfl ?_
      refine z_iconst F dX12_bestRow_47 ?_
      refine z_iload_n F dX12_bestRow_48 rfl (q := 1) rfl ?_
      refine z_iconst F dX12_bestRow_49 ?_
      refine z_iload_n F dX12_bestRow_50 rfl (q := 2) rfl ?_
      have hp8 := pcn_8 (s := x0) (by omega) (by omega)
      refine zv_v (rest := []) F (k_X12_goesRows l 256 M14 ⟨hI, hW⟩ 0 (by omega) (by omega) x0 (by omega) (by omega) 0 (by omega) (by omega) x1 (by omega) (by omega) (by omega) (by omega)) cs_X12_504 (T := TX12) (N := 44) (ci := 12) rfl gs_131 (by decide) (by decide) rfl rfl rfl (Nat.le_of_ble_eq_true rfl) dX12_bestRow_51 (fun M16 hI p17 => ?_)
      obtain ⟨hI, hW⟩ := hI
      have fp17 := p17
      have hF := hF.call fp17 (by decide)
      refine z_iload_n F dX12_bestRow_54 rfl (q := 3) rfl ?_
      refine z_if_ne (tgt := 65) F dX12_bestRow_55 (by decide +kernel) (by omega) (fun c18 => by exfalso; omega) (fun c18 => ?_)
      refine z_aload_n F dX12_bestRow_58 rfl (q := 0) rfl ?_
      refine gf_X12_501 F hI gs_131 rfl bd_131_35 dX12_bestRow_59 (fun v19 ev19 av19 bv19 => ?_)
      refine z_goto (tgt := 89) F dX12_bestRow_62 (by decide +kernel) ?_
      exact hret _ _ 89 _ (by omega) ⟨hI, hW⟩ ⟨⟨by omega, by omega⟩, hF⟩ dX12_bestRow_89
    · refine z_iload_n F dX12_bestRow_21 rfl (q := 3) rfl ?_
      refine z_i2l F dX12_bestRow_22 (by omega) ?_
      refine z_ldc2 (x := 10) F dX12_bestRow_23 (gin lm_161 rfl) (by decide +kernel) ?_
      refine z_ldc2 (x := 17) F dX12_bestRow_26 (gin lm_265 rfl) (by decide +kernel) ?_
      refine zs_i (rest := []) F (k_X12_within l M2 ⟨hI, hW⟩ x2 (by omega) (by omega) 10 (by omega) (by omega) 17 (by omega) (by omega)) cs_X12_137 (by decide) (by decide) rfl rfl rfl (Nat.le_of_ble_eq_true rfl) dX12_bestRow_29 (fun v20 M21 rv20 hI p22 => ?_)
      obtain ⟨hI, hW⟩ := hI
      obtain ⟨⟨av20, bv20⟩, rfl, xp22⟩ := p22
      refine z_if_ne (tgt := 41) F dX12_bestRow_32 (by decide +kernel) (by omega) (fun c23 => ?_) (fun c23 => ?_)
      · have hsr := hnm (by omega)
        refine z_aload_n F dX12_bestRow_41 rfl (q := 0) rfl ?_
        refine z_iconst F dX12_bestRow_42 ?_
        refine pf_X12_498 F hI gs_131 rfl bd_131_36 (nar_z (by omega) (by omega)) (fit_z (by omega) (by omega)) dX12_bestRow_43 (by omega) (by omega) (fun M25 hI sf24 f24 => ?_)
        have hF := hF.wrf f24 (by decide) (by decide)
        have hW : WFk M25 := hW.site f24 (by decide)
        have k26 : 0 ≤ x0 ∧ x0 ≤ 255 := by omega
        refine z_aload_n F dX12_bestRow_46 rfl (q := 0) rfl ?_
        refine z_iconst F dX12_bestRow_47 ?_
        refine z_iload_n F dX12_bestRow_48 rfl (q := 1) rfl ?_
        refine z_iconst F dX12_bestRow_49 ?_
        refine z_iload_n F dX12_bestRow_50 rfl (q := 2) rfl ?_
        have hp8 := pcn_8 (s := x0) (by omega) (by omega)
        refine zv_v (rest := []) F (k_X12_goesRows l 256 M25 ⟨hI, hW⟩ 0 (by omega) (by omega) x0 (by omega) (by omega) 0 (by omega) (by omega) x1 (by omega) (by omega) (by omega) (by omega)) cs_X12_504 (T := TX12) (N := 44) (ci := 12) rfl gs_131 (by decide) (by decide) rfl rfl rfl (Nat.le_of_ble_eq_true rfl) dX12_bestRow_51 (fun M27 hI p28 => ?_)
        obtain ⟨hI, hW⟩ := hI
        have fp28 := p28
        have hF := hF.call fp28 (by decide)
        refine z_iload_n F dX12_bestRow_54 rfl (q := 3) rfl ?_
        refine z_if_ne (tgt := 65) F dX12_bestRow_55 (by decide +kernel) (by omega) (fun c29 => ?_) (fun c29 => by exfalso; omega)
        refine z_iload_n F dX12_bestRow_65 rfl (q := 3) rfl ?_
        refine z_bipush F dX12_bestRow_66 (by decide +kernel) ?_
        refine z_isub F dX12_bestRow_68 ?_
        refine z_iload_n F dX12_bestRow_69 rfl (q := 1) rfl ?_
        refine zs_i (rest := [ii (x2 - 10)]) F (k_X12_size l M27 ⟨hI, hW⟩ x0 (by omega) (by omega)) cs_X12_332 (by decide) (by decide) rfl rfl rfl (Nat.le_of_ble_eq_true rfl) dX12_bestRow_70 (fun v30 M31 rv30 hI p32 => ?_)
        obtain ⟨hI, hW⟩ := hI
        obtain ⟨⟨av30, bv30⟩, rfl, xp32, yp32⟩ := p32
        refine z_icmp_ge (tgt := 88) F dX12_bestRow_73 (by decide +kernel) (by omega) (by omega) (fun c33 => ?_) (fun c33 => ?_)
        · refine z_iconst F dX12_bestRow_88 ?_
          exact hret _ _ 89 _ (by omega) ⟨hI, hW⟩ ⟨⟨by omega, by omega⟩, hF⟩ dX12_bestRow_89
        · refine z_aload_n F dX12_bestRow_76 rfl (q := 0) rfl ?_
          refine rf_X12_51 F gs_131 rfl dX12_bestRow_77 ?_
          refine z_iload_n F dX12_bestRow_80 rfl (q := 3) rfl ?_
          refine z_bipush F dX12_bestRow_81 (by decide +kernel) ?_
          refine z_isub F dX12_bestRow_83 ?_
          refine z_iald F hI gs_144 (by omega) (by omega) (by decide) bd_144 dX12_bestRow_84 (fun v34 (ev34 : v34 = M27 144 _) av34 bv34 => ?_)
          refine z_goto (tgt := 89) F dX12_bestRow_85 (by decide +kernel) ?_
          exact hret _ _ 89 _ (by omega) ⟨hI, hW⟩ ⟨⟨by omega, by omega⟩, hF⟩ dX12_bestRow_89
      · refine z_aload_n F dX12_bestRow_35 rfl (q := 0) rfl ?_
        refine z_iconst F dX12_bestRow_36 ?_
        refine zv_i (rest := []) F (k_X12_fails l M2 ⟨hI, hW⟩ 1 (by omega) (by omega)) cs_X12_262 (T := TX12) (N := 44) (ci := 12) rfl gs_131 (by decide) (by decide) rfl rfl rfl (Nat.le_of_ble_eq_true rfl) dX12_bestRow_37 (fun v35 M36 rv35 hI p37 => ?_)
        obtain ⟨hI, hW⟩ := hI
        obtain ⟨⟨av35, bv35⟩, fp37, xp37⟩ := p37
        have hF := hF.call fp37 (by decide)
        exact hret _ _ 40 _ (by omega) ⟨hI, hW⟩ ⟨⟨by omega, by omega⟩, hF⟩ dX12_bestRow_40
set_option maxRecDepth 4000 in
theorem k_X12_mayClash (l : Launch) (M : Mem) (hJ : Iw M) (x0 : Int) (hx0a : 0 ≤ x0) (hx0b : x0 ≤ 7) (x1 : Int) (hx1a : 0 ≤ x1) (hx1b : x1 ≤ 9) : CI l yX12_mayClash cX12_mayClash 3 (some .boolean) 5 (fun ad => [.ref (ad 131), ii x0, ii x1]) M (fun z M' => (0 ≤ z ∧ z ≤ 1) ∧ Fr [137] M M') := by
  obtain ⟨hI, hW⟩ := hJ
  have hF : Fr [137] M M := Fr.rf
  refine en_z (by decide +kernel) (fun ad => by exact Nat.le_of_ble_eq_true rfl) (fun D cy ad A p e s m args below meth c Q F hret => ?_)
  refine z_eq (ls' := [(0, .ref (ad 131)), (1, ii x0), (2, ii x1)]) rfl rfl rfl ?_
  refine z_aload_n F dX12_mayClash_0 rfl (q := 0) rfl ?_
  refine rf_X12_54 F gs_131 rfl dX12_mayClash_1 ?_
  refine z_iload_n F dX12_mayClash_4 rfl (q := 2) rfl ?_
  refine z_iald F hI gs_145 (by omega) (by omega) (by decide) bd_145 dX12_mayClash_5 (fun v1 (ev1 : v1 = M 145 _) av1 bv1 => ?_)
  refine z_iconst F dX12_mayClash_6 ?_
  refine z_icmp_eq (tgt := 29) F dX12_mayClash_7 (by decide +kernel) (by omega) (by omega) (fun c2 => ?_) (fun c2 => ?_)
  · refine z_iconst F dX12_mayClash_29 ?_
    exact hret _ _ 30 _ ⟨by omega, by omega⟩ ⟨hI, hW⟩ ⟨⟨by omega, by omega⟩, hF⟩ dX12_mayClash_30
  · refine z_aload_n F dX12_mayClash_10 rfl (q := 0) rfl ?_
    refine z_iload_n F dX12_mayClash_11 rfl (q := 1) rfl ?_
    refine z_aload_n F dX12_mayClash_12 rfl (q := 0) rfl ?_
    refine rf_X12_54 F gs_131 rfl dX12_mayClash_13 ?_
    refine z_iload_n F dX12_mayClash_16 rfl (q := 2) rfl ?_
    refine z_iald F hI gs_145 (by omega) (by omega) (by decide) bd_145 dX12_mayClash_17 (fun v3 (ev3 : v3 = M 145 _) av3 bv3 => ?_)
    have zv3 : v1 = v3 := ev1.trans ev3.symm
    subst zv3
    refine z_iconst F dX12_mayClash_18 ?_
    refine zv_i (rest := []) F (k_X12_wouldClash l M ⟨hI, hW⟩ x0 (by omega) (by omega) v1 (by omega) (by omega) 0 (by omega) (by omega)) cs_X12_322 (T := TX12) (N := 44) (ci := 12) rfl gs_131 (by decide) (by decide) rfl rfl rfl (Nat.le_of_ble_eq_true rfl) dX12_mayClash_19 (fun v4 M5 rv4 hI p6 => ?_)
    obtain ⟨hI, hW⟩ := hI
    obtain ⟨⟨av4, bv4⟩, fp6⟩ := p6
    have hF := hF.call fp6 (by decide)
    refine z_if_eq (tgt := 29) F dX12_mayClash_22 (by decide +kernel) (by omega) (fun c7 => ?_) (fun c7 => ?_)
    · refine z_iconst F dX12_mayClash_29 ?_
      exact hret _ _ 30 _ ⟨by omega, by omega⟩ ⟨hI, hW⟩ ⟨⟨by omega, by omega⟩, hF⟩ dX12_mayClash_30
    · refine z_iconst F dX12_mayClash_25 ?_
      refine z_goto (tgt := 30) F dX12_mayClash_26 (by decide +kernel) ?_
      exact hret _ _ 30 _ ⟨by omega, by omega⟩ ⟨hI, hW⟩ ⟨⟨by omega, by omega⟩, hF⟩ dX12_mayClash_30
set_option maxRecDepth 4000 in
theorem k_X12_seats (l : Launch) (M : Mem) (hJ : Iw M) (x0 : Int) (hx0a : (-2147483648) ≤ x0) (hx0b : x0 ≤ 2147483647) (x1 : Int) (hx1a : (-2147483648) ≤ x1) (hx1b : x1 ≤ 2147483647) (x2 : Int) (hx2a : (-2147483648) ≤ x2) (hx2b : x2 ≤ 2147483647) : CI l yX12_seats cX12_seats 9 (some .int) 6 (fun ad => [.ref (ad 131), ii x0, ii x1, ii x2]) M (fun z M' => ((-2147483648) ≤ z ∧ z ≤ 2147483647) ∧ Fr [131, 137, 145] M M') := by
  obtain ⟨hI, hW⟩ := hJ
  have hF : Fr [131, 137, 145] M M := Fr.rf
  refine en_i (by decide +kernel) (fun ad => by exact Nat.le_of_ble_eq_true rfl) (fun D cy ad A p e s m args below meth c Q F hret => ?_)
  refine z_eq (ls' := [(0, .ref (ad 131)), (1, ii x0), (2, ii x1), (3, ii x2)]) rfl rfl rfl ?_
  refine z_aload_n F dX12_seats_0 rfl (q := 0) rfl ?_
  refine z_aload_n F dX12_seats_1 rfl (q := 0) rfl ?_
  refine z_iload_n F dX12_seats_2 rfl (q := 1) rfl ?_
  refine zv_i (rest := [.ref (ad 131)]) F (k_X12_trayFault l M ⟨hI, hW⟩ x0 (by omega) (by omega)) cs_X12_401 (T := TX12) (N := 44) (ci := 12) rfl gs_131 (by decide) (by decide) rfl rfl rfl (Nat.le_of_ble_eq_true rfl) dX12_seats_3 (fun v1 M2 rv1 hI p3 => ?_)
  obtain ⟨hI, hW⟩ := hI
  obtain ⟨⟨av1, bv1⟩, rfl, xp3⟩ := p3
  refine pf_X12_73 F hI gs_131 rfl bd_131_4 rfl rfl dX12_seats_6 (by omega) (by omega) (fun M5 hI sf4 f4 => ?_)
  have hF := hF.wrf f4 (by decide) (by decide)
  have hW : WFk M5 := hW.site f4 (by decide)
  refine z_aload_n F dX12_seats_9 rfl (q := 0) rfl ?_
  refine gf_X12_73 F hI gs_131 rfl bd_131_4 dX12_seats_10 (fun v6 ev6 av6 bv6 => ?_)
  have zv6 : v1 = v6 := sf4.symm.trans ev6.symm
  subst zv6
  refine z_if_ne (tgt := 58) F dX12_seats_13 (by decide +kernel) (by omega) (fun c7 => ?_) (fun c7 => ?_)
  · refine z_iconst F dX12_seats_58 ?_
    refine z_istore F dX12_seats_59 (by decide) (ls' := [(4, ii 0), (0, .ref (ad 131)), (1, ii x0), (2, ii x1), (3, ii x2)]) rfl ?_
    refine z_aload_n F dX12_seats_61 rfl (q := 1) rfl ?_
    refine gf_X12_73 F hI gs_131 rfl bd_131_4 dX12_seats_62 (fun v8 ev8 av8 bv8 => ?_)
    have zv8 : v1 = v8 := sf4.symm.trans ev8.symm
    subst zv8
    refine z_if_ne (tgt := 78) F dX12_seats_65 (by decide +kernel) (by omega) (fun c9 => ?_) (fun c9 => by exfalso; omega)
    refine z_aload_n F dX12_seats_78 rfl (q := 1) rfl ?_
    refine gf_X12_73 F hI gs_131 rfl bd_131_4 dX12_seats_79 (fun v10 ev10 av10 bv10 => ?_)
    have zv10 : v1 = v10 := sf4.symm.trans ev10.symm
    subst zv10
    refine z_if_le (tgt := 87) F dX12_seats_82 (by decide +kernel) (by omega) (fun c11 => by exfalso; omega) (fun c11 => ?_)
    refine z_iconst F dX12_seats_85 ?_
    exact hret _ _ 86 _ (by omega) ⟨hI, hW⟩ ⟨⟨by omega, by omega⟩, hF⟩ dX12_seats_86
  · refine z_aload_n F dX12_seats_16 rfl (q := 0) rfl ?_
    refine z_iload_n F dX12_seats_17 rfl (q := 1) rfl ?_
    refine zv_i (rest := []) F (k_X12_areUnlike l M5 ⟨hI, hW⟩ x0 (by omega) (by omega)) cs_X12_492 (T := TX12) (N := 44) (ci := 12) rfl gs_131 (by decide) (by decide) rfl rfl rfl (Nat.le_of_ble_eq_true rfl) dX12_seats_18 (fun v12 M13 rv12 hI p14 => ?_)
    obtain ⟨hI, hW⟩ := hI
    obtain ⟨⟨av12, bv12⟩, rfl, xp14⟩ := p14
    have hun : v12 = 1 → 1 ≤ M 149 x0.toNat ∧ M 149 x0.toNat ≤ 10 ∧ ∀ j : Int, 0 ≤ j → j < M 149 x0.toNat → 0 ≤ M 150 (30 * x0 + j).toNat ∧ M 150 (30 * x0 + j).toNat ≤ 7 := fun q => by have h := xp14 q; rw [show M5 149 = M 149 from funext fun _ => hF.at (by decide), show M5 150 = M 150 from funext fun _ => hF.at (by decide)] at h; exact h
    refine z_if_eq (tgt := 58) F dX12_seats_21 (by decide +kernel) (by omega) (fun c15 => ?_) (fun c15 => ?_)
    · refine z_iconst F dX12_seats_58 ?_
      refine z_istore F dX12_seats_59 (by decide) (ls' := [(4, ii 0), (0, .ref (ad 131)), (1, ii x0), (2, ii x1), (3, ii x2)]) rfl ?_
      refine z_aload_n F dX12_seats_61 rfl (q := 1) rfl ?_
      refine gf_X12_73 F hI gs_131 rfl bd_131_4 dX12_seats_62 (fun v16 ev16 av16 bv16 => ?_)
      have zv16 : v1 = v16 := sf4.symm.trans ev16.symm
      subst zv16
      refine z_if_ne (tgt := 78) F dX12_seats_65 (by decide +kernel) (by omega) (fun c17 => by exfalso; omega) (fun c17 => ?_)
      refine z_iload F dX12_seats_68 (q := 0) rfl ?_
      refine z_if_ne (tgt := 78) F dX12_seats_70 (by decide +kernel) (by omega) (fun c18 => by exfalso; omega) (fun c18 => ?_)
      refine z_aload_n F dX12_seats_73 rfl (q := 1) rfl ?_
      refine z_iconst F dX12_seats_74 ?_
      refine pf_X12_73 F hI gs_131 rfl bd_131_4 rfl rfl dX12_seats_75 (by omega) (by omega) (fun M20 hI sf19 f19 => ?_)
      have hF := hF.wrf f19 (by decide) (by decide)
      have hW : WFk M20 := hW.site f19 (by decide)
      refine z_aload_n F dX12_seats_78 rfl (q := 1) rfl ?_
      refine gf_X12_73 F hI gs_131 rfl bd_131_4 dX12_seats_79 (fun v21 ev21 av21 bv21 => ?_)
      have zv21 : 3 = v21 := sf19.symm.trans ev21.symm
      subst zv21
      refine z_if_le (tgt := 87) F dX12_seats_82 (by decide +kernel) (by omega) (fun c22 => by exfalso; omega) (fun c22 => ?_)
      refine z_iconst F dX12_seats_85 ?_
      exact hret _ _ 86 _ (by omega) ⟨hI, hW⟩ ⟨⟨by omega, by omega⟩, hF⟩ dX12_seats_86
    · refine z_iload_n F dX12_seats_24 rfl (q := 2) rfl ?_
      refine z_i2l F dX12_seats_25 (by omega) ?_
      refine z_lconst (x := 1) F dX12_seats_26 (by decide +kernel) ?_
      refine z_ldc2 (x := 10) F dX12_seats_27 (gin lm_161 rfl) (by decide +kernel) ?_
      refine zs_i (rest := []) F (k_X12_within l M5 ⟨hI, hW⟩ x1 (by omega) (by omega) 1 (by omega) (by omega) 10 (by omega) (by omega)) cs_X12_137 (by decide) (by decide) rfl rfl rfl (Nat.le_of_ble_eq_true rfl) dX12_seats_30 (fun v23 M24 rv23 hI p25 => ?_)
      obtain ⟨hI, hW⟩ := hI
      obtain ⟨⟨av23, bv23⟩, rfl, xp25⟩ := p25
      refine z_if_eq (tgt := 58) F dX12_seats_33 (by decide +kernel) (by omega) (fun c26 => ?_) (fun c26 => ?_)
      · refine z_iconst F dX12_seats_58 ?_
        refine z_istore F dX12_seats_59 (by decide) (ls' := [(4, ii 0), (0, .ref (ad 131)), (1, ii x0), (2, ii x1), (3, ii x2)]) rfl ?_
        refine z_aload_n F dX12_seats_61 rfl (q := 1) rfl ?_
        refine gf_X12_73 F hI gs_131 rfl bd_131_4 dX12_seats_62 (fun v27 ev27 av27 bv27 => ?_)
        have zv27 : v1 = v27 := sf4.symm.trans ev27.symm
        subst zv27
        refine z_if_ne (tgt := 78) F dX12_seats_65 (by decide +kernel) (by omega) (fun c28 => by exfalso; omega) (fun c28 => ?_)
        refine z_iload F dX12_seats_68 (q := 0) rfl ?_
        refine z_if_ne (tgt := 78) F dX12_seats_70 (by decide +kernel) (by omega) (fun c29 => by exfalso; omega) (fun c29 => ?_)
        refine z_aload_n F dX12_seats_73 rfl (q := 1) rfl ?_
        refine z_iconst F dX12_seats_74 ?_
        refine pf_X12_73 F hI gs_131 rfl bd_131_4 rfl rfl dX12_seats_75 (by omega) (by omega) (fun M31 hI sf30 f30 => ?_)
        have hF := hF.wrf f30 (by decide) (by decide)
        have hW : WFk M31 := hW.site f30 (by decide)
        refine z_aload_n F dX12_seats_78 rfl (q := 1) rfl ?_
        refine gf_X12_73 F hI gs_131 rfl bd_131_4 dX12_seats_79 (fun v32 ev32 av32 bv32 => ?_)
        have zv32 : 3 = v32 := sf30.symm.trans ev32.symm
        subst zv32
        refine z_if_le (tgt := 87) F dX12_seats_82 (by decide +kernel) (by omega) (fun c33 => by exfalso; omega) (fun c33 => ?_)
        refine z_iconst F dX12_seats_85 ?_
        exact hret _ _ 86 _ (by omega) ⟨hI, hW⟩ ⟨⟨by omega, by omega⟩, hF⟩ dX12_seats_86
      · refine z_iload_n F dX12_seats_36 rfl (q := 3) rfl ?_
        refine z_if_eq (tgt := 54) F dX12_seats_37 (by decide +kernel) (by omega) (fun c34 => ?_) (fun c34 => ?_)
        · refine z_iconst F dX12_seats_54 ?_
          refine z_goto (tgt := 59) F dX12_seats_55 (by decide +kernel) ?_
          refine z_istore F dX12_seats_59 (by decide) (ls' := [(4, ii 1), (0, .ref (ad 131)), (1, ii x0), (2, ii x1), (3, ii x2)]) rfl ?_
          refine z_aload_n F dX12_seats_61 rfl (q := 1) rfl ?_
          refine gf_X12_73 F hI gs_131 rfl bd_131_4 dX12_seats_62 (fun v35 ev35 av35 bv35 => ?_)
          have zv35 : v1 = v35 := sf4.symm.trans ev35.symm
          subst zv35
          refine z_if_ne (tgt := 78) F dX12_seats_65 (by decide +kernel) (by omega) (fun c36 => by exfalso; omega) (fun c36 => ?_)
          refine z_iload F dX12_seats_68 (q := 0) rfl ?_
          refine z_if_ne (tgt := 78) F dX12_seats_70 (by decide +kernel) (by omega) (fun c37 => ?_) (fun c37 => by exfalso; omega)
          refine z_aload_n F dX12_seats_78 rfl (q := 1) rfl ?_
          refine gf_X12_73 F hI gs_131 rfl bd_131_4 dX12_seats_79 (fun v38 ev38 av38 bv38 => ?_)
          have zv38 : v1 = v38 := sf4.symm.trans ev38.symm
          subst zv38
          refine z_if_le (tgt := 87) F dX12_seats_82 (by decide +kernel) (by omega) (fun c39 => ?_) (fun c39 => by exfalso; omega)
          refine z_iconst F dX12_seats_87 ?_
          refine z_istore F dX12_seats_88 (by decide) (ls' := [(5, ii 0), (4, ii 1), (0, .ref (ad 131)), (1, ii x0), (2, ii x1), (3, ii x2)]) rfl ?_
          refine z_loc [2, 3, 4, 5, 0] (ls' := [(0, .ref (ad 131)), (1, ii x0), (2, ii x1), (3, ii x2), (5, ii 0)]) rfl ?_
          suffices key90 : ∀ (n : Nat) (y41 : Int) (M40 : Mem), Inv M40 → WFk M40 → Fr [131, 137, 145] M M40 → 0 ≤ y41 → y41 ≤ 10 → 10 - y41 < (n : Int) → Z D cy ad p l e (RMh 6) s m args below meth c A 9 0 0 Q 90 [(0, .ref (ad 131)), (1, ii x0), (2, ii x1), (3, ii x2), (5, ii y41)] [] M40 from key90 11 0 M5 hI hW hF (by omega) (by omega) (by omega)
          intro n90
          induction n90 with
          | zero => intro y41 M40 hI hW hF ay41 by41 hn90; exfalso; omega
          | succ n90 ih90 =>
            intro y41 M40 hI hW hF ay41 by41 hn90
            refine z_iload F dX12_seats_90 (q := 4) rfl ?_
            refine z_bipush F dX12_seats_92 (by decide +kernel) ?_
            refine z_icmp_ge (tgt := 111) F dX12_seats_94 (by decide +kernel) (by omega) (by omega) (fun c42 => ?_) (fun c42 => ?_)
            · refine z_iconst F dX12_seats_111 ?_
              refine z_istore F dX12_seats_112 (by decide) (ls' := [(5, ii 0), (0, .ref (ad 131)), (1, ii x0), (2, ii x1), (3, ii x2)]) rfl ?_
              refine z_iconst F dX12_seats_114 ?_
              refine z_istore F dX12_seats_115 (by decide) (ls' := [(6, ii 0), (5, ii 0), (0, .ref (ad 131)), (1, ii x0), (2, ii x1), (3, ii x2)]) rfl ?_
              refine z_loc [2, 3, 4, 5, 1, 0] (ls' := [(0, .ref (ad 131)), (1, ii x0), (2, ii x1), (3, ii x2), (5, ii 0), (6, ii 0)]) rfl ?_
              suffices key117 : ∀ (n : Nat) (y44 : Int) (y45 : Int) (M43 : Mem), Inv M43 → WFk M43 → Fr [131, 137, 145] M M43 → (-2147483648) ≤ y44 → y44 ≤ 2147483647 → 0 ≤ y45 → y45 ≤ 30 → 30 - y45 < (n : Int) → Z D cy ad p l e (RMh 6) s m args below meth c A 9 0 0 Q 117 [(0, .ref (ad 131)), (1, ii x0), (2, ii x1), (3, ii x2), (5, ii y44), (6, ii y45)] [] M43 from key117 31 0 0 M40 hI hW hF (by omega) (by omega) (by omega) (by omega) (by omega)
              intro n117
              induction n117 with
              | zero => intro y44 y45 M43 hI hW hF ay44 by44 ay45 by45 hn117; exfalso; omega
              | succ n117 ih117 =>
                intro y44 y45 M43 hI hW hF ay44 by44 ay45 by45 hn117
                refine z_iload F dX12_seats_117 (q := 5) rfl ?_
                refine z_aload_n F dX12_seats_119 rfl (q := 0) rfl ?_
                refine rf_X12_66 F gs_131 rfl dX12_seats_120 ?_
                refine z_iload_n F dX12_seats_123 rfl (q := 1) rfl ?_
                refine z_iald F hI gs_149 (by omega) (by omega) (by decide) bd_149 dX12_seats_124 (fun v46 (ev46 : v46 = M43 149 _) av46 bv46 => ?_)
                have frv46 : M43 149 (x0).toNat = M 149 (x0).toNat := hF.at (by decide)
                refine z_icmp_ge (tgt := 222) F dX12_seats_125 (by decide +kernel) (by omega) (by omega) (fun c47 => ?_) (fun c47 => ?_)
                · refine z_iload_n F dX12_seats_222 rfl (q := 3) rfl ?_
                  refine z_if_ne (tgt := 231) F dX12_seats_223 (by decide +kernel) (by omega) (fun c48 => by exfalso; omega) (fun c48 => ?_)
                  refine z_iload F dX12_seats_226 (q := 4) rfl ?_
                  refine z_goto (tgt := 240) F dX12_seats_228 (by decide +kernel) ?_
                  exact hret _ _ 240 _ (by omega) ⟨hI, hW⟩ ⟨⟨by omega, by omega⟩, hF⟩ dX12_seats_240
                · refine z_aload_n F dX12_seats_128 rfl (q := 0) rfl ?_
                  refine z_iload_n F dX12_seats_129 rfl (q := 1) rfl ?_
                  refine z_iload F dX12_seats_130 (q := 5) rfl ?_
                  refine zv_i (rest := []) F (k_X12_toldThing l M43 ⟨hI, hW⟩ x0 (by omega) (by omega) y45 (by omega) (by omega)) cs_X12_495 (T := TX12) (N := 44) (ci := 12) rfl gs_131 (by decide) (by decide) rfl rfl rfl (Nat.le_of_ble_eq_true rfl) dX12_seats_132 (fun v49 M50 rv49 hI p51 => ?_)
                  obtain ⟨hI, hW⟩ := hI
                  obtain ⟨⟨av49, bv49⟩, rfl, xp51⟩ := p51
                  have hav49 := hF.at (a := 150) (b := (30 * x0 + y45).toNat) (by decide)
                  have hmv49 := hF.at (a := 149) (b := x0.toNat) (by decide)
                  have huv49 := (hun (by omega)).2.2 (y45) (by omega) (by omega)
                  have hvv49 : 0 ≤ v49 ∧ v49 ≤ 7 := by omega
                  refine z_istore F dX12_seats_135 (by decide) (ls' := [(7, ii v49), (0, .ref (ad 131)), (1, ii x0), (2, ii x1), (3, ii x2), (5, ii y44), (6, ii y45)]) rfl ?_
                  refine z_iconst F dX12_seats_137 ?_
                  refine z_istore F dX12_seats_138 (by decide) (ls' := [(8, ii 0), (7, ii v49), (0, .ref (ad 131)), (1, ii x0), (2, ii x1), (3, ii x2), (5, ii y44), (6, ii y45)]) rfl ?_
                  refine z_loc [2, 3, 4, 5, 6, 7, 1, 0] (ls' := [(0, .ref (ad 131)), (1, ii x0), (2, ii x1), (3, ii x2), (5, ii y44), (6, ii y45), (7, ii v49), (8, ii 0)]) rfl ?_
                  suffices key140 : ∀ (n : Nat) (y53 : Int) (M52 : Mem), Inv M52 → WFk M52 → Fr [131, 137, 145] M M52 → 0 ≤ y53 → y53 ≤ 10 → (y53 ≤ x1) → 10 - y53 < (n : Int) → Z D cy ad p l e (RMh 6) s m args below meth c A 9 0 0 Q 140 [(0, .ref (ad 131)), (1, ii x0), (2, ii x1), (3, ii x2), (5, ii y44), (6, ii y45), (7, ii v49), (8, ii y53)] [] M52 from key140 11 0 M43 hI hW hF (by omega) (by omega) (by omega) (by omega)
                  intro n140
                  induction n140 with
                  | zero => intro y53 M52 hI hW hF ay53 by53 i140_0 hn140; exfalso; omega
                  | succ n140 ih140 =>
                    intro y53 M52 hI hW hF ay53 by53 i140_0 hn140
                    refine z_iload F dX12_seats_140 (q := 7) rfl ?_
                    refine z_iload_n F dX12_seats_142 rfl (q := 2) rfl ?_
                    refine z_icmp_ge (tgt := 195) F dX12_seats_143 (by decide +kernel) (by omega) (by omega) (fun c54 => ?_) (fun c54 => ?_)
                    · refine z_iload F dX12_seats_195 (q := 7) rfl ?_
                      refine z_iload_n F dX12_seats_197 rfl (q := 2) rfl ?_
                      refine z_icmp_ne (tgt := 204) F dX12_seats_198 (by decide +kernel) (by omega) (by omega) (fun c55 => ?_) (fun c55 => ?_)
                      · refine z_aload_n F dX12_seats_204 rfl (q := 0) rfl ?_
                        refine rf_X12_54 F gs_131 rfl dX12_seats_205 ?_
                        refine z_iload F dX12_seats_208 (q := 7) rfl ?_
                        refine z_iload F dX12_seats_210 (q := 6) rfl ?_
                        have k56 : 0 ≤ y53 ∧ y53 ≤ 9 := by omega
                        refine z_iast F hI gs_145 (by omega) (by omega) (by decide) bd_145 dX12_seats_212 (by omega) (by omega) (fun M58 hI sf57 f57 => ?_)
                        have hF := hF.wr f57 (by decide) (by decide)
                        have hW : WFk M58 := hW.site f57 (by decide)
                        refine z_iincW F dX12_seats_213 (q := 4) rfl (by decide) (fun v59 rv59 wv59 => ?_)
                        refine z_eq (ls' := [(5, ii v59), (0, .ref (ad 131)), (1, ii x0), (2, ii x1), (3, ii x2), (6, ii y45), (7, ii v49), (8, ii y53)]) rfl rfl rfl ?_
                        refine z_iincN F dX12_seats_216 (q := 5) rfl (by decide) (fun v60 ev60 => ?_)
                        refine z_eq (ls' := [(6, ii v60), (5, ii v59), (0, .ref (ad 131)), (1, ii x0), (2, ii x1), (3, ii x2), (7, ii v49), (8, ii y53)]) rfl rfl rfl ?_
                        refine z_goto (tgt := 117) F dX12_seats_219 (by decide +kernel) ?_
                        refine z_loc [2, 3, 4, 5, 1, 0] (ls' := [(0, .ref (ad 131)), (1, ii x0), (2, ii x1), (3, ii x2), (5, ii v59), (6, ii v60)]) rfl ?_
                        exact ih117 v59 v60 M58 hI hW hF (by omega) (by omega) (by omega) (by omega) (by omega)
                      · refine z_goto (tgt := 216) F dX12_seats_201 (by decide +kernel) ?_
                        refine z_iincN F dX12_seats_216 (q := 5) rfl (by decide) (fun v61 ev61 => ?_)
                        refine z_eq (ls' := [(6, ii v61), (0, .ref (ad 131)), (1, ii x0), (2, ii x1), (3, ii x2), (5, ii y44), (7, ii v49), (8, ii y53)]) rfl rfl rfl ?_
                        refine z_goto (tgt := 117) F dX12_seats_219 (by decide +kernel) ?_
                        refine z_loc [1, 2, 3, 4, 5, 0] (ls' := [(0, .ref (ad 131)), (1, ii x0), (2, ii x1), (3, ii x2), (5, ii y44), (6, ii v61)]) rfl ?_
                        exact ih117 y44 v61 M52 hI hW hF (by omega) (by omega) (by omega) (by omega) (by omega)
                    · refine z_aload_n F dX12_seats_146 rfl (q := 0) rfl ?_
                      refine rf_X12_54 F gs_131 rfl dX12_seats_147 ?_
                      refine z_iload F dX12_seats_150 (q := 7) rfl ?_
                      refine z_iald F hI gs_145 (by omega) (by omega) (by decide) bd_145 dX12_seats_152 (fun v62 (ev62 : v62 = M52 145 _) av62 bv62 => ?_)
                      refine z_iconst F dX12_seats_153 ?_
                      refine z_icmp_ne (tgt := 189) F dX12_seats_154 (by decide +kernel) (by omega) (by omega) (fun c63 => ?_) (fun c63 => ?_)
                      · refine z_iincN F dX12_seats_189 (q := 7) rfl (by decide) (fun v64 ev64 => ?_)
                        refine z_eq (ls' := [(8, ii v64), (0, .ref (ad 131)), (1, ii x0), (2, ii x1), (3, ii x2), (5, ii y44), (6, ii y45), (7, ii v49)]) rfl rfl rfl ?_
                        refine z_goto (tgt := 140) F dX12_seats_192 (by decide +kernel) ?_
                        refine z_loc [1, 2, 3, 4, 5, 6, 7, 0] (ls' := [(0, .ref (ad 131)), (1, ii x0), (2, ii x1), (3, ii x2), (5, ii y44), (6, ii y45), (7, ii v49), (8, ii v64)]) rfl ?_
                        exact ih140 v64 M52 hI hW hF (by omega) (by omega) (by omega) (by omega)
                      · refine z_aload_n F dX12_seats_157 rfl (q := 0) rfl ?_
                        refine z_iload F dX12_seats_158 (q := 6) rfl ?_
                        refine z_iload F dX12_seats_160 (q := 7) rfl ?_
                        refine z_iconst F dX12_seats_162 ?_
                        refine z_iadd F dX12_seats_163 ?_
                        refine z_iload_n F dX12_seats_164 rfl (q := 2) rfl ?_
                        refine z_irem_v F dX12_seats_165 (by omega) (by omega) (by omega) (by omega) (fun v65 av65 bv65 => ?_)
                        refine zv_i (rest := []) F (k_X12_mayClash l M52 ⟨hI, hW⟩ v49 (by omega) (by omega) v65 (by omega) (by omega)) cs_X12_512 (T := TX12) (N := 44) (ci := 12) rfl gs_131 (by decide) (by decide) rfl rfl rfl (Nat.le_of_ble_eq_true rfl) dX12_seats_166 (fun v66 M67 rv66 hI p68 => ?_)
                        obtain ⟨hI, hW⟩ := hI
                        obtain ⟨⟨av66, bv66⟩, fp68⟩ := p68
                        have hF := hF.call fp68 (by decide)
                        refine z_if_ne (tgt := 189) F dX12_seats_169 (by decide +kernel) (by omega) (fun c69 => ?_) (fun c69 => ?_)
                        · refine z_iincN F dX12_seats_189 (q := 7) rfl (by decide) (fun v70 ev70 => ?_)
                          refine z_eq (ls' := [(8, ii v70), (0, .ref (ad 131)), (1, ii x0), (2, ii x1), (3, ii x2), (5, ii y44), (6, ii y45), (7, ii v49)]) rfl rfl rfl ?_
                          refine z_goto (tgt := 140) F dX12_seats_192 (by decide +kernel) ?_
                          refine z_loc [1, 2, 3, 4, 5, 6, 7, 0] (ls' := [(0, .ref (ad 131)), (1, ii x0), (2, ii x1), (3, ii x2), (5, ii y44), (6, ii y45), (7, ii v49), (8, ii v70)]) rfl ?_
                          exact ih140 v70 M67 hI hW hF (by omega) (by omega) (by omega) (by omega)
                        · refine z_aload_n F dX12_seats_172 rfl (q := 0) rfl ?_
                          refine z_iload F dX12_seats_173 (q := 6) rfl ?_
                          refine z_iload F dX12_seats_175 (q := 7) rfl ?_
                          refine z_iload_n F dX12_seats_177 rfl (q := 2) rfl ?_
                          refine z_iadd F dX12_seats_178 ?_
                          refine z_iconst F dX12_seats_179 ?_
                          refine z_isub F dX12_seats_180 ?_
                          refine z_iload_n F dX12_seats_181 rfl (q := 2) rfl ?_
                          refine z_irem_v F dX12_seats_182 (by omega) (by omega) (by omega) (by omega) (fun v71 av71 bv71 => ?_)
                          refine zv_i (rest := []) F (k_X12_mayClash l M67 ⟨hI, hW⟩ v49 (by omega) (by omega) v71 (by omega) (by omega)) cs_X12_512 (T := TX12) (N := 44) (ci := 12) rfl gs_131 (by decide) (by decide) rfl rfl rfl (Nat.le_of_ble_eq_true rfl) dX12_seats_183 (fun v72 M73 rv72 hI p74 => ?_)
                          obtain ⟨hI, hW⟩ := hI
                          obtain ⟨⟨av72, bv72⟩, fp74⟩ := p74
                          have hF := hF.call fp74 (by decide)
                          refine z_if_eq (tgt := 195) F dX12_seats_186 (by decide +kernel) (by omega) (fun c75 => ?_) (fun c75 => ?_)
                          · refine z_iload F dX12_seats_195 (q := 7) rfl ?_
                            refine z_iload_n F dX12_seats_197 rfl (q := 2) rfl ?_
                            refine z_icmp_ne (tgt := 204) F dX12_seats_198 (by decide +kernel) (by omega) (by omega) (fun c76 => ?_) (fun c76 => ?_)
                            · refine z_aload_n F dX12_seats_204 rfl (q := 0) rfl ?_
                              refine rf_X12_54 F gs_131 rfl dX12_seats_205 ?_
                              refine z_iload F dX12_seats_208 (q := 7) rfl ?_
                              refine z_iload F dX12_seats_210 (q := 6) rfl ?_
                              have k77 : 0 ≤ y53 ∧ y53 ≤ 9 := by omega
                              refine z_iast F hI gs_145 (by omega) (by omega) (by decide) bd_145 dX12_seats_212 (by omega) (by omega) (fun M79 hI sf78 f78 => ?_)
                              have hF := hF.wr f78 (by decide) (by decide)
                              have hW : WFk M79 := hW.site f78 (by decide)
                              refine z_iincW F dX12_seats_213 (q := 4) rfl (by decide) (fun v80 rv80 wv80 => ?_)
                              refine z_eq (ls' := [(5, ii v80), (0, .ref (ad 131)), (1, ii x0), (2, ii x1), (3, ii x2), (6, ii y45), (7, ii v49), (8, ii y53)]) rfl rfl rfl ?_
                              refine z_iincN F dX12_seats_216 (q := 5) rfl (by decide) (fun v81 ev81 => ?_)
                              refine z_eq (ls' := [(6, ii v81), (5, ii v80), (0, .ref (ad 131)), (1, ii x0), (2, ii x1), (3, ii x2), (7, ii v49), (8, ii y53)]) rfl rfl rfl ?_
                              refine z_goto (tgt := 117) F dX12_seats_219 (by decide +kernel) ?_
                              refine z_loc [2, 3, 4, 5, 1, 0] (ls' := [(0, .ref (ad 131)), (1, ii x0), (2, ii x1), (3, ii x2), (5, ii v80), (6, ii v81)]) rfl ?_
                              exact ih117 v80 v81 M79 hI hW hF (by omega) (by omega) (by omega) (by omega) (by omega)
                            · refine z_goto (tgt := 216) F dX12_seats_201 (by decide +kernel) ?_
                              refine z_iincN F dX12_seats_216 (q := 5) rfl (by decide) (fun v82 ev82 => ?_)
                              refine z_eq (ls' := [(6, ii v82), (0, .ref (ad 131)), (1, ii x0), (2, ii x1), (3, ii x2), (5, ii y44), (7, ii v49), (8, ii y53)]) rfl rfl rfl ?_
                              refine z_goto (tgt := 117) F dX12_seats_219 (by decide +kernel) ?_
                              refine z_loc [1, 2, 3, 4, 5, 0] (ls' := [(0, .ref (ad 131)), (1, ii x0), (2, ii x1), (3, ii x2), (5, ii y44), (6, ii v82)]) rfl ?_
                              exact ih117 y44 v82 M73 hI hW hF (by omega) (by omega) (by omega) (by omega) (by omega)
                          · refine z_iincN F dX12_seats_189 (q := 7) rfl (by decide) (fun v83 ev83 => ?_)
                            refine z_eq (ls' := [(8, ii v83), (0, .ref (ad 131)), (1, ii x0), (2, ii x1), (3, ii x2), (5, ii y44), (6, ii y45), (7, ii v49)]) rfl rfl rfl ?_
                            refine z_goto (tgt := 140) F dX12_seats_192 (by decide +kernel) ?_
                            refine z_loc [1, 2, 3, 4, 5, 6, 7, 0] (ls' := [(0, .ref (ad 131)), (1, ii x0), (2, ii x1), (3, ii x2), (5, ii y44), (6, ii y45), (7, ii v49), (8, ii v83)]) rfl ?_
                            exact ih140 v83 M73 hI hW hF (by omega) (by omega) (by omega) (by omega)
            · refine z_aload_n F dX12_seats_97 rfl (q := 0) rfl ?_
              refine rf_X12_54 F gs_131 rfl dX12_seats_98 ?_
              refine z_iload F dX12_seats_101 (q := 4) rfl ?_
              refine z_iconst F dX12_seats_103 ?_
              refine z_iast F hI gs_145 (by omega) (by omega) (by decide) bd_145 dX12_seats_104 (by omega) (by omega) (fun M85 hI sf84 f84 => ?_)
              have hF := hF.wr f84 (by decide) (by decide)
              have hW : WFk M85 := hW.site f84 (by decide)
              refine z_iincN F dX12_seats_105 (q := 4) rfl (by decide) (fun v86 ev86 => ?_)
              refine z_eq (ls' := [(5, ii v86), (0, .ref (ad 131)), (1, ii x0), (2, ii x1), (3, ii x2)]) rfl rfl rfl ?_
              refine z_goto (tgt := 90) F dX12_seats_108 (by decide +kernel) ?_
              refine z_loc [1, 2, 3, 4, 0] (ls' := [(0, .ref (ad 131)), (1, ii x0), (2, ii x1), (3, ii x2), (5, ii v86)]) rfl ?_
              exact ih90 v86 M85 hI hW hF (by omega) (by omega) (by omega)
        · refine z_iload_n F dX12_seats_40 rfl (q := 3) rfl ?_
          refine z_i2l F dX12_seats_41 (by omega) ?_
          refine z_ldc2 (x := 10) F dX12_seats_42 (gin lm_161 rfl) (by decide +kernel) ?_
          refine z_ldc2 (x := 19) F dX12_seats_45 (gin lm_271 rfl) (by decide +kernel) ?_
          refine zs_i (rest := []) F (k_X12_within l M5 ⟨hI, hW⟩ x2 (by omega) (by omega) 10 (by omega) (by omega) 19 (by omega) (by omega)) cs_X12_137 (by decide) (by decide) rfl rfl rfl (Nat.le_of_ble_eq_true rfl) dX12_seats_48 (fun v87 M88 rv87 hI p89 => ?_)
          obtain ⟨hI, hW⟩ := hI
          obtain ⟨⟨av87, bv87⟩, rfl, xp89⟩ := p89
          refine z_if_eq (tgt := 58) F dX12_seats_51 (by decide +kernel) (by omega) (fun c90 => ?_) (fun c90 => ?_)
          · refine z_iconst F dX12_seats_58 ?_
            refine z_istore F dX12_seats_59 (by decide) (ls' := [(4, ii 0), (0, .ref (ad 131)), (1, ii x0), (2, ii x1), (3, ii x2)]) rfl ?_
            refine z_aload_n F dX12_seats_61 rfl (q := 1) rfl ?_
            refine gf_X12_73 F hI gs_131 rfl bd_131_4 dX12_seats_62 (fun v91 ev91 av91 bv91 => ?_)
            have zv91 : v1 = v91 := sf4.symm.trans ev91.symm
            subst zv91
            refine z_if_ne (tgt := 78) F dX12_seats_65 (by decide +kernel) (by omega) (fun c92 => by exfalso; omega) (fun c92 => ?_)
            refine z_iload F dX12_seats_68 (q := 0) rfl ?_
            refine z_if_ne (tgt := 78) F dX12_seats_70 (by decide +kernel) (by omega) (fun c93 => by exfalso; omega) (fun c93 => ?_)
            refine z_aload_n F dX12_seats_73 rfl (q := 1) rfl ?_
            refine z_iconst F dX12_seats_74 ?_
            refine pf_X12_73 F hI gs_131 rfl bd_131_4 rfl rfl dX12_seats_75 (by omega) (by omega) (fun M95 hI sf94 f94 => ?_)
            have hF := hF.wrf f94 (by decide) (by decide)
            have hW : WFk M95 := hW.site f94 (by decide)
            refine z_aload_n F dX12_seats_78 rfl (q := 1) rfl ?_
            refine gf_X12_73 F hI gs_131 rfl bd_131_4 dX12_seats_79 (fun v96 ev96 av96 bv96 => ?_)
            have zv96 : 3 = v96 := sf94.symm.trans ev96.symm
            subst zv96
            refine z_if_le (tgt := 87) F dX12_seats_82 (by decide +kernel) (by omega) (fun c97 => by exfalso; omega) (fun c97 => ?_)
            refine z_iconst F dX12_seats_85 ?_
            exact hret _ _ 86 _ (by omega) ⟨hI, hW⟩ ⟨⟨by omega, by omega⟩, hF⟩ dX12_seats_86
          · refine z_iconst F dX12_seats_54 ?_
            refine z_goto (tgt := 59) F dX12_seats_55 (by decide +kernel) ?_
            refine z_istore F dX12_seats_59 (by decide) (ls' := [(4, ii 1), (0, .ref (ad 131)), (1, ii x0), (2, ii x1), (3, ii x2)]) rfl ?_
            refine z_aload_n F dX12_seats_61 rfl (q := 1) rfl ?_
            refine gf_X12_73 F hI gs_131 rfl bd_131_4 dX12_seats_62 (fun v98 ev98 av98 bv98 => ?_)
            have zv98 : v1 = v98 := sf4.symm.trans ev98.symm
            subst zv98
            refine z_if_ne (tgt := 78) F dX12_seats_65 (by decide +kernel) (by omega) (fun c99 => by exfalso; omega) (fun c99 => ?_)
            refine z_iload F dX12_seats_68 (q := 0) rfl ?_
            refine z_if_ne (tgt := 78) F dX12_seats_70 (by decide +kernel) (by omega) (fun c100 => ?_) (fun c100 => by exfalso; omega)
            refine z_aload_n F dX12_seats_78 rfl (q := 1) rfl ?_
            refine gf_X12_73 F hI gs_131 rfl bd_131_4 dX12_seats_79 (fun v101 ev101 av101 bv101 => ?_)
            have zv101 : v1 = v101 := sf4.symm.trans ev101.symm
            subst zv101
            refine z_if_le (tgt := 87) F dX12_seats_82 (by decide +kernel) (by omega) (fun c102 => ?_) (fun c102 => by exfalso; omega)
            refine z_iconst F dX12_seats_87 ?_
            refine z_istore F dX12_seats_88 (by decide) (ls' := [(5, ii 0), (4, ii 1), (0, .ref (ad 131)), (1, ii x0), (2, ii x1), (3, ii x2)]) rfl ?_
            refine z_loc [2, 3, 4, 5, 0] (ls' := [(0, .ref (ad 131)), (1, ii x0), (2, ii x1), (3, ii x2), (5, ii 0)]) rfl ?_
            suffices key90 : ∀ (n : Nat) (y104 : Int) (M103 : Mem), Inv M103 → WFk M103 → Fr [131, 137, 145] M M103 → 0 ≤ y104 → y104 ≤ 10 → 10 - y104 < (n : Int) → Z D cy ad p l e (RMh 6) s m args below meth c A 9 0 0 Q 90 [(0, .ref (ad 131)), (1, ii x0), (2, ii x1), (3, ii x2), (5, ii y104)] [] M103 from key90 11 0 M5 hI hW hF (by omega) (by omega) (by omega)
            intro n90
            induction n90 with
            | zero => intro y104 M103 hI hW hF ay104 by104 hn90; exfalso; omega
            | succ n90 ih90 =>
              intro y104 M103 hI hW hF ay104 by104 hn90
              refine z_iload F dX12_seats_90 (q := 4) rfl ?_
              refine z_bipush F dX12_seats_92 (by decide +kernel) ?_
              refine z_icmp_ge (tgt := 111) F dX12_seats_94 (by decide +kernel) (by omega) (by omega) (fun c105 => ?_) (fun c105 => ?_)
              · refine z_iconst F dX12_seats_111 ?_
                refine z_istore F dX12_seats_112 (by decide) (ls' := [(5, ii 0), (0, .ref (ad 131)), (1, ii x0), (2, ii x1), (3, ii x2)]) rfl ?_
                refine z_iconst F dX12_seats_114 ?_
                refine z_istore F dX12_seats_115 (by decide) (ls' := [(6, ii 0), (5, ii 0), (0, .ref (ad 131)), (1, ii x0), (2, ii x1), (3, ii x2)]) rfl ?_
                refine z_loc [2, 3, 4, 5, 1, 0] (ls' := [(0, .ref (ad 131)), (1, ii x0), (2, ii x1), (3, ii x2), (5, ii 0), (6, ii 0)]) rfl ?_
                suffices key117 : ∀ (n : Nat) (y107 : Int) (y108 : Int) (M106 : Mem), Inv M106 → WFk M106 → Fr [131, 137, 145] M M106 → (-2147483648) ≤ y107 → y107 ≤ 2147483647 → 0 ≤ y108 → y108 ≤ 30 → 30 - y108 < (n : Int) → Z D cy ad p l e (RMh 6) s m args below meth c A 9 0 0 Q 117 [(0, .ref (ad 131)), (1, ii x0), (2, ii x1), (3, ii x2), (5, ii y107), (6, ii y108)] [] M106 from key117 31 0 0 M103 hI hW hF (by omega) (by omega) (by omega) (by omega) (by omega)
                intro n117
                induction n117 with
                | zero => intro y107 y108 M106 hI hW hF ay107 by107 ay108 by108 hn117; exfalso; omega
                | succ n117 ih117 =>
                  intro y107 y108 M106 hI hW hF ay107 by107 ay108 by108 hn117
                  refine z_iload F dX12_seats_117 (q := 5) rfl ?_
                  refine z_aload_n F dX12_seats_119 rfl (q := 0) rfl ?_
                  refine rf_X12_66 F gs_131 rfl dX12_seats_120 ?_
                  refine z_iload_n F dX12_seats_123 rfl (q := 1) rfl ?_
                  refine z_iald F hI gs_149 (by omega) (by omega) (by decide) bd_149 dX12_seats_124 (fun v109 (ev109 : v109 = M106 149 _) av109 bv109 => ?_)
                  have frv109 : M106 149 (x0).toNat = M 149 (x0).toNat := hF.at (by decide)
                  refine z_icmp_ge (tgt := 222) F dX12_seats_125 (by decide +kernel) (by omega) (by omega) (fun c110 => ?_) (fun c110 => ?_)
                  · refine z_iload_n F dX12_seats_222 rfl (q := 3) rfl ?_
                    refine z_if_ne (tgt := 231) F dX12_seats_223 (by decide +kernel) (by omega) (fun c111 => ?_) (fun c111 => by exfalso; omega)
                    refine z_aload_n F dX12_seats_231 rfl (q := 0) rfl ?_
                    refine rf_X12_54 F gs_131 rfl dX12_seats_232 ?_
                    refine z_iload_n F dX12_seats_235 rfl (q := 3) rfl ?_
                    refine z_bipush F dX12_seats_236 (by decide +kernel) ?_
                    refine z_isub F dX12_seats_238 ?_
                    refine z_iald F hI gs_145 (by omega) (by omega) (by decide) bd_145 dX12_seats_239 (fun v112 (ev112 : v112 = M106 145 _) av112 bv112 => ?_)
                    exact hret _ _ 240 _ (by omega) ⟨hI, hW⟩ ⟨⟨by omega, by omega⟩, hF⟩ dX12_seats_240
                  · refine z_aload_n F dX12_seats_128 rfl (q := 0) rfl ?_
                    refine z_iload_n F dX12_seats_129 rfl (q := 1) rfl ?_
                    refine z_iload F dX12_seats_130 (q := 5) rfl ?_
                    refine zv_i (rest := []) F (k_X12_toldThing l M106 ⟨hI, hW⟩ x0 (by omega) (by omega) y108 (by omega) (by omega)) cs_X12_495 (T := TX12) (N := 44) (ci := 12) rfl gs_131 (by decide) (by decide) rfl rfl rfl (Nat.le_of_ble_eq_true rfl) dX12_seats_132 (fun v113 M114 rv113 hI p115 => ?_)
                    obtain ⟨hI, hW⟩ := hI
                    obtain ⟨⟨av113, bv113⟩, rfl, xp115⟩ := p115
                    have hav113 := hF.at (a := 150) (b := (30 * x0 + y108).toNat) (by decide)
                    have hmv113 := hF.at (a := 149) (b := x0.toNat) (by decide)
                    have huv113 := (hun (by omega)).2.2 (y108) (by omega) (by omega)
                    have hvv113 : 0 ≤ v113 ∧ v113 ≤ 7 := by omega
                    refine z_istore F dX12_seats_135 (by decide) (ls' := [(7, ii v113), (0, .ref (ad 131)), (1, ii x0), (2, ii x1), (3, ii x2), (5, ii y107), (6, ii y108)]) rfl ?_
                    refine z_iconst F dX12_seats_137 ?_
                    refine z_istore F dX12_seats_138 (by decide) (ls' := [(8, ii 0), (7, ii v113), (0, .ref (ad 131)), (1, ii x0), (2, ii x1), (3, ii x2), (5, ii y107), (6, ii y108)]) rfl ?_
                    refine z_loc [2, 3, 4, 5, 6, 7, 1, 0] (ls' := [(0, .ref (ad 131)), (1, ii x0), (2, ii x1), (3, ii x2), (5, ii y107), (6, ii y108), (7, ii v113), (8, ii 0)]) rfl ?_
                    suffices key140 : ∀ (n : Nat) (y117 : Int) (M116 : Mem), Inv M116 → WFk M116 → Fr [131, 137, 145] M M116 → 0 ≤ y117 → y117 ≤ 10 → (y117 ≤ x1) → 10 - y117 < (n : Int) → Z D cy ad p l e (RMh 6) s m args below meth c A 9 0 0 Q 140 [(0, .ref (ad 131)), (1, ii x0), (2, ii x1), (3, ii x2), (5, ii y107), (6, ii y108), (7, ii v113), (8, ii y117)] [] M116 from key140 11 0 M106 hI hW hF (by omega) (by omega) (by omega) (by omega)
                    intro n140
                    induction n140 with
                    | zero => intro y117 M116 hI hW hF ay117 by117 i140_0 hn140; exfalso; omega
                    | succ n140 ih140 =>
                      intro y117 M116 hI hW hF ay117 by117 i140_0 hn140
                      refine z_iload F dX12_seats_140 (q := 7) rfl ?_
                      refine z_iload_n F dX12_seats_142 rfl (q := 2) rfl ?_
                      refine z_icmp_ge (tgt := 195) F dX12_seats_143 (by decide +kernel) (by omega) (by omega) (fun c118 => ?_) (fun c118 => ?_)
                      · refine z_iload F dX12_seats_195 (q := 7) rfl ?_
                        refine z_iload_n F dX12_seats_197 rfl (q := 2) rfl ?_
                        refine z_icmp_ne (tgt := 204) F dX12_seats_198 (by decide +kernel) (by omega) (by omega) (fun c119 => ?_) (fun c119 => ?_)
                        · refine z_aload_n F dX12_seats_204 rfl (q := 0) rfl ?_
                          refine rf_X12_54 F gs_131 rfl dX12_seats_205 ?_
                          refine z_iload F dX12_seats_208 (q := 7) rfl ?_
                          refine z_iload F dX12_seats_210 (q := 6) rfl ?_
                          have k120 : 0 ≤ y117 ∧ y117 ≤ 9 := by omega
                          refine z_iast F hI gs_145 (by omega) (by omega) (by decide) bd_145 dX12_seats_212 (by omega) (by omega) (fun M122 hI sf121 f121 => ?_)
                          have hF := hF.wr f121 (by decide) (by decide)
                          have hW : WFk M122 := hW.site f121 (by decide)
                          refine z_iincW F dX12_seats_213 (q := 4) rfl (by decide) (fun v123 rv123 wv123 => ?_)
                          refine z_eq (ls' := [(5, ii v123), (0, .ref (ad 131)), (1, ii x0), (2, ii x1), (3, ii x2), (6, ii y108), (7, ii v113), (8, ii y117)]) rfl rfl rfl ?_
                          refine z_iincN F dX12_seats_216 (q := 5) rfl (by decide) (fun v124 ev124 => ?_)
                          refine z_eq (ls' := [(6, ii v124), (5, ii v123), (0, .ref (ad 131)), (1, ii x0), (2, ii x1), (3, ii x2), (7, ii v113), (8, ii y117)]) rfl rfl rfl ?_
                          refine z_goto (tgt := 117) F dX12_seats_219 (by decide +kernel) ?_
                          refine z_loc [2, 3, 4, 5, 1, 0] (ls' := [(0, .ref (ad 131)), (1, ii x0), (2, ii x1), (3, ii x2), (5, ii v123), (6, ii v124)]) rfl ?_
                          exact ih117 v123 v124 M122 hI hW hF (by omega) (by omega) (by omega) (by omega) (by omega)
                        · refine z_goto (tgt := 216) F dX12_seats_201 (by decide +kernel) ?_
                          refine z_iincN F dX12_seats_216 (q := 5) rfl (by decide) (fun v125 ev125 => ?_)
                          refine z_eq (ls' := [(6, ii v125), (0, .ref (ad 131)), (1, ii x0), (2, ii x1), (3, ii x2), (5, ii y107), (7, ii v113), (8, ii y117)]) rfl rfl rfl ?_
                          refine z_goto (tgt := 117) F dX12_seats_219 (by decide +kernel) ?_
                          refine z_loc [1, 2, 3, 4, 5, 0] (ls' := [(0, .ref (ad 131)), (1, ii x0), (2, ii x1), (3, ii x2), (5, ii y107), (6, ii v125)]) rfl ?_
                          exact ih117 y107 v125 M116 hI hW hF (by omega) (by omega) (by omega) (by omega) (by omega)
                      · refine z_aload_n F dX12_seats_146 rfl (q := 0) rfl ?_
                        refine rf_X12_54 F gs_131 rfl dX12_seats_147 ?_
                        refine z_iload F dX12_seats_150 (q := 7) rfl ?_
                        refine z_iald F hI gs_145 (by omega) (by omega) (by decide) bd_145 dX12_seats_152 (fun v126 (ev126 : v126 = M116 145 _) av126 bv126 => ?_)
                        refine z_iconst F dX12_seats_153 ?_
                        refine z_icmp_ne (tgt := 189) F dX12_seats_154 (by decide +kernel) (by omega) (by omega) (fun c127 => ?_) (fun c127 => ?_)
                        · refine z_iincN F dX12_seats_189 (q := 7) rfl (by decide) (fun v128 ev128 => ?_)
                          refine z_eq (ls' := [(8, ii v128), (0, .ref (ad 131)), (1, ii x0), (2, ii x1), (3, ii x2), (5, ii y107), (6, ii y108), (7, ii v113)]) rfl rfl rfl ?_
                          refine z_goto (tgt := 140) F dX12_seats_192 (by decide +kernel) ?_
                          refine z_loc [1, 2, 3, 4, 5, 6, 7, 0] (ls' := [(0, .ref (ad 131)), (1, ii x0), (2, ii x1), (3, ii x2), (5, ii y107), (6, ii y108), (7, ii v113), (8, ii v128)]) rfl ?_
                          exact ih140 v128 M116 hI hW hF (by omega) (by omega) (by omega) (by omega)
                        · refine z_aload_n F dX12_seats_157 rfl (q := 0) rfl ?_
                          refine z_iload F dX12_seats_158 (q := 6) rfl ?_
                          refine z_iload F dX12_seats_160 (q := 7) rfl ?_
                          refine z_iconst F dX12_seats_162 ?_
                          refine z_iadd F dX12_seats_163 ?_
                          refine z_iload_n F dX12_seats_164 rfl (q := 2) rfl ?_
                          refine z_irem_v F dX12_seats_165 (by omega) (by omega) (by omega) (by omega) (fun v129 av129 bv129 => ?_)
                          refine zv_i (rest := []) F (k_X12_mayClash l M116 ⟨hI, hW⟩ v113 (by omega) (by omega) v129 (by omega) (by omega)) cs_X12_512 (T := TX12) (N := 44) (ci := 12) rfl gs_131 (by decide) (by decide) rfl rfl rfl (Nat.le_of_ble_eq_true rfl) dX12_seats_166 (fun v130 M131 rv130 hI p132 => ?_)
                          obtain ⟨hI, hW⟩ := hI
                          obtain ⟨⟨av130, bv130⟩, fp132⟩ := p132
                          have hF := hF.call fp132 (by decide)
                          refine z_if_ne (tgt := 189) F dX12_seats_169 (by decide +kernel) (by omega) (fun c133 => ?_) (fun c133 => ?_)
                          · refine z_iincN F dX12_seats_189 (q := 7) rfl (by decide) (fun v134 ev134 => ?_)
                            refine z_eq (ls' := [(8, ii v134), (0, .ref (ad 131)), (1, ii x0), (2, ii x1), (3, ii x2), (5, ii y107), (6, ii y108), (7, ii v113)]) rfl rfl rfl ?_
                            refine z_goto (tgt := 140) F dX12_seats_192 (by decide +kernel) ?_
                            refine z_loc [1, 2, 3, 4, 5, 6, 7, 0] (ls' := [(0, .ref (ad 131)), (1, ii x0), (2, ii x1), (3, ii x2), (5, ii y107), (6, ii y108), (7, ii v113), (8, ii v134)]) rfl ?_
                            exact ih140 v134 M131 hI hW hF (by omega) (by omega) (by omega) (by omega)
                          · refine z_aload_n F dX12_seats_172 rfl (q := 0) rfl ?_
                            refine z_iload F dX12_seats_173 (q := 6) rfl ?_
                            refine z_iload F dX12_seats_175 (q := 7) rfl ?_
                            refine z_iload_n F dX12_seats_177 rfl (q := 2) rfl ?_
                            refine z_iadd F dX12_seats_178 ?_
                            refine z_iconst F dX12_seats_179 ?_
                            refine z_isub F dX12_seats_180 ?_
                            refine z_iload_n F dX12_seats_181 rfl (q := 2) rfl ?_
                            refine z_irem_v F dX12_seats_182 (by omega) (by omega) (by omega) (by omega) (fun v135 av135 bv135 => ?_)
                            refine zv_i (rest := []) F (k_X12_mayClash l M131 ⟨hI, hW⟩ v113 (by omega) (by omega) v135 (by omega) (by omega)) cs_X12_512 (T := TX12) (N := 44) (ci := 12) rfl gs_131 (by decide) (by decide) rfl rfl rfl (Nat.le_of_ble_eq_true rfl) dX12_seats_183 (fun v136 M137 rv136 hI p138 => ?_)
                            obtain ⟨hI, hW⟩ := hI
                            obtain ⟨⟨av136, bv136⟩, fp138⟩ := p138
                            have hF := hF.call fp138 (by decide)
                            refine z_if_eq (tgt := 195) F dX12_seats_186 (by decide +kernel) (by omega) (fun c139 => ?_) (fun c139 => ?_)
                            · refine z_iload F dX12_seats_195 (q := 7) rfl ?_
                              refine z_iload_n F dX12_seats_197 rfl (q := 2) rfl ?_
                              refine z_icmp_ne (tgt := 204) F dX12_seats_198 (by decide +kernel) (by omega) (by omega) (fun c140 => ?_) (fun c140 => ?_)
                              · refine z_aload_n F dX12_seats_204 rfl (q := 0) rfl ?_
                                refine rf_X12_54 F gs_131 rfl dX12_seats_205 ?_
                                refine z_iload F dX12_seats_208 (q := 7) rfl ?_
                                refine z_iload F dX12_seats_210 (q := 6) rfl ?_
                                have k141 : 0 ≤ y117 ∧ y117 ≤ 9 := by omega
                                refine z_iast F hI gs_145 (by omega) (by omega) (by decide) bd_145 dX12_seats_212 (by omega) (by omega) (fun M143 hI sf142 f142 => ?_)
                                have hF := hF.wr f142 (by decide) (by decide)
                                have hW : WFk M143 := hW.site f142 (by decide)
                                refine z_iincW F dX12_seats_213 (q := 4) rfl (by decide) (fun v144 rv144 wv144 => ?_)
                                refine z_eq (ls' := [(5, ii v144), (0, .ref (ad 131)), (1, ii x0), (2, ii x1), (3, ii x2), (6, ii y108), (7, ii v113), (8, ii y117)]) rfl rfl rfl ?_
                                refine z_iincN F dX12_seats_216 (q := 5) rfl (by decide) (fun v145 ev145 => ?_)
                                refine z_eq (ls' := [(6, ii v145), (5, ii v144), (0, .ref (ad 131)), (1, ii x0), (2, ii x1), (3, ii x2), (7, ii v113), (8, ii y117)]) rfl rfl rfl ?_
                                refine z_goto (tgt := 117) F dX12_seats_219 (by decide +kernel) ?_
                                refine z_loc [2, 3, 4, 5, 1, 0] (ls' := [(0, .ref (ad 131)), (1, ii x0), (2, ii x1), (3, ii x2), (5, ii v144), (6, ii v145)]) rfl ?_
                                exact ih117 v144 v145 M143 hI hW hF (by omega) (by omega) (by omega) (by omega) (by omega)
                              · refine z_goto (tgt := 216) F dX12_seats_201 (by decide +kernel) ?_
                                refine z_iincN F dX12_seats_216 (q := 5) rfl (by decide) (fun v146 ev146 => ?_)
                                refine z_eq (ls' := [(6, ii v146), (0, .ref (ad 131)), (1, ii x0), (2, ii x1), (3, ii x2), (5, ii y107), (7, ii v113), (8, ii y117)]) rfl rfl rfl ?_
                                refine z_goto (tgt := 117) F dX12_seats_219 (by decide +kernel) ?_
                                refine z_loc [1, 2, 3, 4, 5, 0] (ls' := [(0, .ref (ad 131)), (1, ii x0), (2, ii x1), (3, ii x2), (5, ii y107), (6, ii v146)]) rfl ?_
                                exact ih117 y107 v146 M137 hI hW hF (by omega) (by omega) (by omega) (by omega) (by omega)
                            · refine z_iincN F dX12_seats_189 (q := 7) rfl (by decide) (fun v147 ev147 => ?_)
                              refine z_eq (ls' := [(8, ii v147), (0, .ref (ad 131)), (1, ii x0), (2, ii x1), (3, ii x2), (5, ii y107), (6, ii y108), (7, ii v113)]) rfl rfl rfl ?_
                              refine z_goto (tgt := 140) F dX12_seats_192 (by decide +kernel) ?_
                              refine z_loc [1, 2, 3, 4, 5, 6, 7, 0] (ls' := [(0, .ref (ad 131)), (1, ii x0), (2, ii x1), (3, ii x2), (5, ii y107), (6, ii y108), (7, ii v113), (8, ii v147)]) rfl ?_
                              exact ih140 v147 M137 hI hW hF (by omega) (by omega) (by omega) (by omega)
              · refine z_aload_n F dX12_seats_97 rfl (q := 0) rfl ?_
                refine rf_X12_54 F gs_131 rfl dX12_seats_98 ?_
                refine z_iload F dX12_seats_101 (q := 4) rfl ?_
                refine z_iconst F dX12_seats_103 ?_
                refine z_iast F hI gs_145 (by omega) (by omega) (by decide) bd_145 dX12_seats_104 (by omega) (by omega) (fun M149 hI sf148 f148 => ?_)
                have hF := hF.wr f148 (by decide) (by decide)
                have hW : WFk M149 := hW.site f148 (by decide)
                refine z_iincN F dX12_seats_105 (q := 4) rfl (by decide) (fun v150 ev150 => ?_)
                refine z_eq (ls' := [(5, ii v150), (0, .ref (ad 131)), (1, ii x0), (2, ii x1), (3, ii x2)]) rfl rfl rfl ?_
                refine z_goto (tgt := 90) F dX12_seats_108 (by decide +kernel) ?_
                refine z_loc [1, 2, 3, 4, 0] (ls' := [(0, .ref (ad 131)), (1, ii x0), (2, ii x1), (3, ii x2), (5, ii v150)]) rfl ?_
                exact ih90 v150 M149 hI hW hF (by omega) (by omega) (by omega)
set_option maxRecDepth 4000 in
theorem k_X12_pleasureOf (l : Launch) (M : Mem) (hJ : Iw M) (x0 : Int) (hx0a : 0 ≤ x0) (hx0b : x0 ≤ 7) (x1 : Int) (hx1a : 0 ≤ x1) (hx1b : x1 ≤ 9) : CI l yX12_pleasureOf cX12_pleasureOf 5 (some .int) 7 (fun ad => [.ref (ad 131), ii x0, ii x1]) M (fun z M' => ((-2147483648) ≤ z ∧ z ≤ 2147483647) ∧ Fr [137] M M') := by
  obtain ⟨hI, hW⟩ := hJ
  have hF : Fr [137] M M := Fr.rf
  refine en_i (by decide +kernel) (fun ad => by exact Nat.le_of_ble_eq_true rfl) (fun D cy ad A p e s m args below meth c Q F hret => ?_)
  refine z_eq (ls' := [(0, .ref (ad 131)), (1, ii x0), (2, ii x1)]) rfl rfl rfl ?_
  refine z_iconst F dX12_pleasureOf_0 ?_
  refine z_istore_n F dX12_pleasureOf_1 rfl (by decide) (ls' := [(3, ii 0), (0, .ref (ad 131)), (1, ii x0), (2, ii x1)]) rfl ?_
  refine z_iconst F dX12_pleasureOf_2 ?_
  refine z_istore F dX12_pleasureOf_3 (by decide) (ls' := [(4, ii 0), (3, ii 0), (0, .ref (ad 131)), (1, ii x0), (2, ii x1)]) rfl ?_
  refine z_loc [2, 3, 4, 1, 0] (ls' := [(0, .ref (ad 131)), (1, ii x0), (2, ii x1), (3, ii 0), (4, ii 0)]) rfl ?_
  suffices key5 : ∀ (n : Nat) (y2 : Int) (y3 : Int), (-2147483648) ≤ y2 → y2 ≤ 2147483647 → 0 ≤ y3 → y3 ≤ 8 → 8 - y3 < (n : Int) → Z D cy ad p l e (RMh 7) s m args below meth c A 5 0 0 Q 5 [(0, .ref (ad 131)), (1, ii x0), (2, ii x1), (3, ii y2), (4, ii y3)] [] M from key5 9 0 0 (by omega) (by omega) (by omega) (by omega) (by omega)
  intro n5
  induction n5 with
  | zero => intro y2 y3 ay2 by2 ay3 by3 hn5; exfalso; omega
  | succ n5 ih5 =>
    intro y2 y3 ay2 by2 ay3 by3 hn5
    refine z_iload F dX12_pleasureOf_5 (q := 4) rfl ?_
    refine z_aload_n F dX12_pleasureOf_7 rfl (q := 0) rfl ?_
    refine zv_i (rest := [ii y3]) F (k_X12_things l M ⟨hI, hW⟩) cs_X12_275 (T := TX12) (N := 44) (ci := 12) rfl gs_131 (by decide) (by decide) rfl rfl rfl (Nat.le_of_ble_eq_true rfl) dX12_pleasureOf_8 (fun v4 M5 rv4 hI p6 => ?_)
    obtain ⟨hI, hW⟩ := hI
    obtain ⟨⟨av4, bv4⟩, rfl, xp6⟩ := p6
    refine z_icmp_ge (tgt := 48) F dX12_pleasureOf_11 (by decide +kernel) (by omega) (by omega) (fun c7 => ?_) (fun c7 => ?_)
    · refine z_iload_n F dX12_pleasureOf_48 rfl (q := 3) rfl ?_
      refine z_iconst F dX12_pleasureOf_49 ?_
      refine z_aload_n F dX12_pleasureOf_50 rfl (q := 0) rfl ?_
      refine z_iload_n F dX12_pleasureOf_51 rfl (q := 1) rfl ?_
      refine z_iload_n F dX12_pleasureOf_52 rfl (q := 2) rfl ?_
      refine zv_i (rest := [ii 5, ii y2]) F (k_X12_clashesOf l M ⟨hI, hW⟩ x0 (by omega) (by omega) x1 (by omega) (by omega)) cs_X12_329 (T := TX12) (N := 44) (ci := 12) rfl gs_131 (by decide) (by decide) rfl rfl rfl (Nat.le_of_ble_eq_true rfl) dX12_pleasureOf_53 (fun v8 M9 rv8 hI p10 => ?_)
      obtain ⟨hI, hW⟩ := hI
      obtain ⟨⟨av8, bv8⟩, fp10⟩ := p10
      have hF := hF.call fp10 (by decide)
      refine zs_i (rest := [ii 5, ii y2]) F (k_X12_size l M9 ⟨hI, hW⟩ v8 (by omega) (by omega)) cs_X12_332 (by decide) (by decide) rfl rfl rfl (Nat.le_of_ble_eq_true rfl) dX12_pleasureOf_56 (fun v11 M12 rv11 hI p13 => ?_)
      obtain ⟨hI, hW⟩ := hI
      obtain ⟨⟨av11, bv11⟩, rfl, xp13, yp13⟩ := p13
      refine z_imul F dX12_pleasureOf_59 ?_
      refine z_wrap (fun v14 rv14 wv14 => ?_)
      refine z_isub F dX12_pleasureOf_60 ?_
      refine z_wrap (fun v15 rv15 wv15 => ?_)
      exact hret _ _ 61 _ (by omega) ⟨hI, hW⟩ ⟨⟨by omega, by omega⟩, hF⟩ dX12_pleasureOf_61
    · refine z_iload_n F dX12_pleasureOf_14 rfl (q := 3) rfl ?_
      refine z_iload F dX12_pleasureOf_15 (q := 4) rfl ?_
      refine z_iload_n F dX12_pleasureOf_17 rfl (q := 1) rfl ?_
      refine z_icmp_eq (tgt := 39) F dX12_pleasureOf_18 (by decide +kernel) (by omega) (by omega) (fun c16 => ?_) (fun c16 => ?_)
      · refine z_iconst F dX12_pleasureOf_39 ?_
        refine z_iadd F dX12_pleasureOf_40 ?_
        refine z_nm (fun v17 ev17 => ?_)
        refine z_istore_n F dX12_pleasureOf_41 rfl (by decide) (ls' := [(3, ii v17), (0, .ref (ad 131)), (1, ii x0), (2, ii x1), (4, ii y3)]) rfl ?_
        refine z_iincN F dX12_pleasureOf_42 (q := 4) rfl (by decide) (fun v18 ev18 => ?_)
        refine z_eq (ls' := [(4, ii v18), (3, ii v17), (0, .ref (ad 131)), (1, ii x0), (2, ii x1)]) rfl rfl rfl ?_
        refine z_goto (tgt := 5) F dX12_pleasureOf_45 (by decide +kernel) ?_
        refine z_loc [2, 3, 4, 1, 0] (ls' := [(0, .ref (ad 131)), (1, ii x0), (2, ii x1), (3, ii v17), (4, ii v18)]) rfl ?_
        exact ih5 v17 v18 (by omega) (by omega) (by omega) (by omega) (by omega)
      · refine z_aload_n F dX12_pleasureOf_21 rfl (q := 0) rfl ?_
        refine z_iload_n F dX12_pleasureOf_22 rfl (q := 2) rfl ?_
        refine z_aload_n F dX12_pleasureOf_23 rfl (q := 0) rfl ?_
        refine z_iload F dX12_pleasureOf_24 (q := 4) rfl ?_
        refine zv_i (rest := [ii x1, .ref (ad 131), ii y2]) F (k_X12_lies l M ⟨hI, hW⟩ y3 (by omega) (by omega)) cs_X12_317 (T := TX12) (N := 44) (ci := 12) rfl gs_131 (by decide) (by decide) rfl rfl rfl (Nat.le_of_ble_eq_true rfl) dX12_pleasureOf_26 (fun v19 M20 rv19 hI p21 => ?_)
        obtain ⟨hI, hW⟩ := hI
        obtain ⟨⟨av19, bv19⟩, rfl⟩ := p21
        refine zv_i (rest := [ii y2]) F (k_X12_touch l M ⟨hI, hW⟩ x1 (by omega) (by omega) v19 (by omega) (by omega)) cs_X12_320 (T := TX12) (N := 44) (ci := 12) rfl gs_131 (by decide) (by decide) rfl rfl rfl (Nat.le_of_ble_eq_true rfl) dX12_pleasureOf_29 (fun v22 M23 rv22 hI p24 => ?_)
        obtain ⟨hI, hW⟩ := hI
        obtain ⟨⟨av22, bv22⟩, rfl, yp24⟩ := p24
        refine z_if_eq (tgt := 39) F dX12_pleasureOf_32 (by decide +kernel) (by omega) (fun c25 => ?_) (fun c25 => ?_)
        · refine z_iconst F dX12_pleasureOf_39 ?_
          refine z_iadd F dX12_pleasureOf_40 ?_
          refine z_nm (fun v26 ev26 => ?_)
          refine z_istore_n F dX12_pleasureOf_41 rfl (by decide) (ls' := [(3, ii v26), (0, .ref (ad 131)), (1, ii x0), (2, ii x1), (4, ii y3)]) rfl ?_
          refine z_iincN F dX12_pleasureOf_42 (q := 4) rfl (by decide) (fun v27 ev27 => ?_)
          refine z_eq (ls' := [(4, ii v27), (3, ii v26), (0, .ref (ad 131)), (1, ii x0), (2, ii x1)]) rfl rfl rfl ?_
          refine z_goto (tgt := 5) F dX12_pleasureOf_45 (by decide +kernel) ?_
          refine z_loc [2, 3, 4, 1, 0] (ls' := [(0, .ref (ad 131)), (1, ii x0), (2, ii x1), (3, ii v26), (4, ii v27)]) rfl ?_
          exact ih5 v26 v27 (by omega) (by omega) (by omega) (by omega) (by omega)
        · refine z_iconst F dX12_pleasureOf_35 ?_
          refine z_goto (tgt := 40) F dX12_pleasureOf_36 (by decide +kernel) ?_
          refine z_iadd F dX12_pleasureOf_40 ?_
          refine z_wrap (fun v28 rv28 wv28 => ?_)
          refine z_istore_n F dX12_pleasureOf_41 rfl (by decide) (ls' := [(3, ii v28), (0, .ref (ad 131)), (1, ii x0), (2, ii x1), (4, ii y3)]) rfl ?_
          refine z_iincN F dX12_pleasureOf_42 (q := 4) rfl (by decide) (fun v29 ev29 => ?_)
          refine z_eq (ls' := [(4, ii v29), (3, ii v28), (0, .ref (ad 131)), (1, ii x0), (2, ii x1)]) rfl rfl rfl ?_
          refine z_goto (tgt := 5) F dX12_pleasureOf_45 (by decide +kernel) ?_
          refine z_loc [2, 3, 4, 1, 0] (ls' := [(0, .ref (ad 131)), (1, ii x0), (2, ii x1), (3, ii v28), (4, ii v29)]) rfl ?_
          exact ih5 v28 v29 (by omega) (by omega) (by omega) (by omega) (by omega)
set_option maxRecDepth 4000 in
theorem k_X12_pleasure (l : Launch) (M : Mem) (hJ : Iw M) (x0 : Int) (hx0a : (-2147483648) ≤ x0) (hx0b : x0 ≤ 2147483647) (x1 : Int) (hx1a : (-2147483648) ≤ x1) (hx1b : x1 ≤ 2147483647) : CI l yX12_pleasure cX12_pleasure 3 (some .int) 8 (fun ad => [.ref (ad 131), ii x0, ii x1]) M (fun z M' => ((-2147483648) ≤ z ∧ z ≤ 2147483647) ∧ Fr [131, 137] M M') := by
  obtain ⟨hI, hW⟩ := hJ
  have hF : Fr [131, 137] M M := Fr.rf
  refine en_i (by decide +kernel) (fun ad => by exact Nat.le_of_ble_eq_true rfl) (fun D cy ad A p e s m args below meth c Q F hret => ?_)
  refine z_eq (ls' := [(0, .ref (ad 131)), (1, ii x0), (2, ii x1)]) rfl rfl rfl ?_
  refine z_aload_n F dX12_pleasure_0 rfl (q := 0) rfl ?_
  refine z_aload_n F dX12_pleasure_1 rfl (q := 0) rfl ?_
  refine z_iload_n F dX12_pleasure_2 rfl (q := 1) rfl ?_
  refine z_i2l F dX12_pleasure_3 (by omega) ?_
  refine zv_i (rest := [.ref (ad 131)]) F (k_X12_isThing l M ⟨hI, hW⟩ x0 (by omega) (by omega)) cs_X12_335 (T := TX12) (N := 44) (ci := 12) rfl gs_131 (by decide) (by decide) rfl rfl rfl (Nat.le_of_ble_eq_true rfl) dX12_pleasure_4 (fun v1 M2 rv1 hI p3 => ?_)
  obtain ⟨hI, hW⟩ := hI
  obtain ⟨⟨av1, bv1⟩, rfl, xp3⟩ := p3
  refine z_if_eq (tgt := 19) F dX12_pleasure_7 (by decide +kernel) (by omega) (fun c4 => ?_) (fun c4 => ?_)
  · refine z_iconst F dX12_pleasure_19 ?_
    refine z_goto (tgt := 49) F dX12_pleasure_20 (by decide +kernel) ?_
    refine pf_X12_73 F hI gs_131 rfl bd_131_4 rfl rfl dX12_pleasure_49 (by omega) (by omega) (fun M6 hI sf5 f5 => ?_)
    have hF := hF.wrf f5 (by decide) (by decide)
    have hW : WFk M6 := hW.site f5 (by decide)
    refine z_aload_n F dX12_pleasure_52 rfl (q := 0) rfl ?_
    refine gf_X12_73 F hI gs_131 rfl bd_131_4 dX12_pleasure_53 (fun v7 ev7 av7 bv7 => ?_)
    have zv7 : 1 = v7 := sf5.symm.trans ev7.symm
    subst zv7
    refine z_if_le (tgt := 63) F dX12_pleasure_56 (by decide +kernel) (by omega) (fun c8 => by exfalso; omega) (fun c8 => ?_)
    refine z_iconst F dX12_pleasure_59 ?_
    refine z_goto (tgt := 69) F dX12_pleasure_60 (by decide +kernel) ?_
    exact hret _ _ 69 _ (by omega) ⟨hI, hW⟩ ⟨⟨by omega, by omega⟩, hF⟩ dX12_pleasure_69
  · refine z_aload_n F dX12_pleasure_10 rfl (q := 0) rfl ?_
    refine z_iload_n F dX12_pleasure_11 rfl (q := 2) rfl ?_
    refine z_i2l F dX12_pleasure_12 (by omega) ?_
    refine zv_i (rest := [.ref (ad 131)]) F (k_X12_isPlace l M ⟨hI, hW⟩ x1 (by omega) (by omega)) cs_X12_341 (T := TX12) (N := 44) (ci := 12) rfl gs_131 (by decide) (by decide) rfl rfl rfl (Nat.le_of_ble_eq_true rfl) dX12_pleasure_13 (fun v9 M10 rv9 hI p11 => ?_)
    obtain ⟨hI, hW⟩ := hI
    obtain ⟨⟨av9, bv9⟩, rfl, xp11⟩ := p11
    refine z_if_ne (tgt := 23) F dX12_pleasure_16 (by decide +kernel) (by omega) (fun c12 => ?_) (fun c12 => ?_)
    · refine z_aload_n F dX12_pleasure_23 rfl (q := 0) rfl ?_
      refine rf_X12_9 F gs_131 rfl dX12_pleasure_24 ?_
      refine z_iload_n F dX12_pleasure_27 rfl (q := 2) rfl ?_
      refine zs_i (rest := [.ref (ad 131)]) F (k_X12_thingAt_132 l M ⟨hI, hW⟩ x1 (by omega) (by omega)) cs_X12_209 (by decide) (by decide) rfl rfl rfl (Nat.le_of_ble_eq_true rfl) dX12_pleasure_28 (fun v13 M14 rv13 hI p15 => ?_)
      obtain ⟨hI, hW⟩ := hI
      obtain ⟨⟨av13, bv13⟩, rfl⟩ := p15
      refine z_iconst F dX12_pleasure_31 ?_
      refine z_icmp_eq (tgt := 48) F dX12_pleasure_32 (by decide +kernel) (by omega) (by omega) (fun c16 => ?_) (fun c16 => ?_)
      · refine z_iconst F dX12_pleasure_48 ?_
        refine pf_X12_73 F hI gs_131 rfl bd_131_4 rfl rfl dX12_pleasure_49 (by omega) (by omega) (fun M18 hI sf17 f17 => ?_)
        have hF := hF.wrf f17 (by decide) (by decide)
        have hW : WFk M18 := hW.site f17 (by decide)
        refine z_aload_n F dX12_pleasure_52 rfl (q := 0) rfl ?_
        refine gf_X12_73 F hI gs_131 rfl bd_131_4 dX12_pleasure_53 (fun v19 ev19 av19 bv19 => ?_)
        have zv19 : 0 = v19 := sf17.symm.trans ev19.symm
        subst zv19
        refine z_if_le (tgt := 63) F dX12_pleasure_56 (by decide +kernel) (by omega) (fun c20 => ?_) (fun c20 => by exfalso; omega)
        refine z_aload_n F dX12_pleasure_63 rfl (q := 0) rfl ?_
        refine z_iload_n F dX12_pleasure_64 rfl (q := 1) rfl ?_
        refine z_iload_n F dX12_pleasure_65 rfl (q := 2) rfl ?_
        refine zv_i (rest := []) F (k_X12_pleasureOf l M18 ⟨hI, hW⟩ x0 (by omega) (by omega) x1 (by omega) (by omega)) cs_X12_515 (T := TX12) (N := 44) (ci := 12) rfl gs_131 (by decide) (by decide) rfl rfl rfl (Nat.le_of_ble_eq_true rfl) dX12_pleasure_66 (fun v21 M22 rv21 hI p23 => ?_)
        obtain ⟨hI, hW⟩ := hI
        obtain ⟨⟨av21, bv21⟩, fp23⟩ := p23
        have hF := hF.call fp23 (by decide)
        exact hret _ _ 69 _ (by omega) ⟨hI, hW⟩ ⟨⟨by omega, by omega⟩, hF⟩ dX12_pleasure_69
      · refine z_aload_n F dX12_pleasure_35 rfl (q := 0) rfl ?_
        refine z_iload_n F dX12_pleasure_36 rfl (q := 1) rfl ?_
        refine zv_i (rest := [.ref (ad 131)]) F (k_X12_lies l M ⟨hI, hW⟩ x0 (by omega) (by omega)) cs_X12_317 (T := TX12) (N := 44) (ci := 12) rfl gs_131 (by decide) (by decide) rfl rfl rfl (Nat.le_of_ble_eq_true rfl) dX12_pleasure_37 (fun v24 M25 rv24 hI p26 => ?_)
        obtain ⟨hI, hW⟩ := hI
        obtain ⟨⟨av24, bv24⟩, rfl⟩ := p26
        refine z_iload_n F dX12_pleasure_40 rfl (q := 2) rfl ?_
        refine z_icmp_eq (tgt := 48) F dX12_pleasure_41 (by decide +kernel) (by omega) (by omega) (fun c27 => ?_) (fun c27 => ?_)
        · refine z_iconst F dX12_pleasure_48 ?_
          refine pf_X12_73 F hI gs_131 rfl bd_131_4 rfl rfl dX12_pleasure_49 (by omega) (by omega) (fun M29 hI sf28 f28 => ?_)
          have hF := hF.wrf f28 (by decide) (by decide)
          have hW : WFk M29 := hW.site f28 (by decide)
          refine z_aload_n F dX12_pleasure_52 rfl (q := 0) rfl ?_
          refine gf_X12_73 F hI gs_131 rfl bd_131_4 dX12_pleasure_53 (fun v30 ev30 av30 bv30 => ?_)
          have zv30 : 0 = v30 := sf28.symm.trans ev30.symm
          subst zv30
          refine z_if_le (tgt := 63) F dX12_pleasure_56 (by decide +kernel) (by omega) (fun c31 => ?_) (fun c31 => by exfalso; omega)
          refine z_aload_n F dX12_pleasure_63 rfl (q := 0) rfl ?_
          refine z_iload_n F dX12_pleasure_64 rfl (q := 1) rfl ?_
          refine z_iload_n F dX12_pleasure_65 rfl (q := 2) rfl ?_
          refine zv_i (rest := []) F (k_X12_pleasureOf l M29 ⟨hI, hW⟩ x0 (by omega) (by omega) x1 (by omega) (by omega)) cs_X12_515 (T := TX12) (N := 44) (ci := 12) rfl gs_131 (by decide) (by decide) rfl rfl rfl (Nat.le_of_ble_eq_true rfl) dX12_pleasure_66 (fun v32 M33 rv32 hI p34 => ?_)
          obtain ⟨hI, hW⟩ := hI
          obtain ⟨⟨av32, bv32⟩, fp34⟩ := p34
          have hF := hF.call fp34 (by decide)
          exact hret _ _ 69 _ (by omega) ⟨hI, hW⟩ ⟨⟨by omega, by omega⟩, hF⟩ dX12_pleasure_69
        · refine z_iconst F dX12_pleasure_44 ?_
          refine z_goto (tgt := 49) F dX12_pleasure_45 (by decide +kernel) ?_
          refine pf_X12_73 F hI gs_131 rfl bd_131_4 rfl rfl dX12_pleasure_49 (by omega) (by omega) (fun M36 hI sf35 f35 => ?_)
          have hF := hF.wrf f35 (by decide) (by decide)
          have hW : WFk M36 := hW.site f35 (by decide)
          refine z_aload_n F dX12_pleasure_52 rfl (q := 0) rfl ?_
          refine gf_X12_73 F hI gs_131 rfl bd_131_4 dX12_pleasure_53 (fun v37 ev37 av37 bv37 => ?_)
          have zv37 : 2 = v37 := sf35.symm.trans ev37.symm
          subst zv37
          refine z_if_le (tgt := 63) F dX12_pleasure_56 (by decide +kernel) (by omega) (fun c38 => by exfalso; omega) (fun c38 => ?_)
          refine z_iconst F dX12_pleasure_59 ?_
          refine z_goto (tgt := 69) F dX12_pleasure_60 (by decide +kernel) ?_
          exact hret _ _ 69 _ (by omega) ⟨hI, hW⟩ ⟨⟨by omega, by omega⟩, hF⟩ dX12_pleasure_69
    · refine z_iconst F dX12_pleasure_19 ?_
      refine z_goto (tgt := 49) F dX12_pleasure_20 (by decide +kernel) ?_
      refine pf_X12_73 F hI gs_131 rfl bd_131_4 rfl rfl dX12_pleasure_49 (by omega) (by omega) (fun M40 hI sf39 f39 => ?_)
      have hF := hF.wrf f39 (by decide) (by decide)
      have hW : WFk M40 := hW.site f39 (by decide)
      refine z_aload_n F dX12_pleasure_52 rfl (q := 0) rfl ?_
      refine gf_X12_73 F hI gs_131 rfl bd_131_4 dX12_pleasure_53 (fun v41 ev41 av41 bv41 => ?_)
      have zv41 : 1 = v41 := sf39.symm.trans ev41.symm
      subst zv41
      refine z_if_le (tgt := 63) F dX12_pleasure_56 (by decide +kernel) (by omega) (fun c42 => by exfalso; omega) (fun c42 => ?_)
      refine z_iconst F dX12_pleasure_59 ?_
      refine z_goto (tgt := 69) F dX12_pleasure_60 (by decide +kernel) ?_
      exact hret _ _ 69 _ (by omega) ⟨hI, hW⟩ ⟨⟨by omega, by omega⟩, hF⟩ dX12_pleasure_69
set_option maxRecDepth 4000 in
theorem k_X12_rather (l : Launch) (M : Mem) (hJ : Iw M) (x0 : Int) (hx0a : 0 ≤ x0) (hx0b : x0 ≤ 7) : CI l yX12_rather cX12_rather 5 (some .int) 8 (fun ad => [.ref (ad 131), ii x0]) M (fun z M' => ((-1) ≤ z ∧ z ≤ 9) ∧ Fr [137] M M') := by
  obtain ⟨hI, hW⟩ := hJ
  have hF : Fr [137] M M := Fr.rf
  refine en_i (by decide +kernel) (fun ad => by exact Nat.le_of_ble_eq_true rfl) (fun D cy ad A p e s m args below meth c Q F hret => ?_)
  refine z_eq (ls' := [(0, .ref (ad 131)), (1, ii x0)]) rfl rfl rfl ?_
  refine z_iconst F dX12_rather_0 ?_
  refine z_istore_n F dX12_rather_1 rfl (by decide) (ls' := [(2, ii (-1)), (0, .ref (ad 131)), (1, ii x0)]) rfl ?_
  refine z_aload_n F dX12_rather_2 rfl (q := 1) rfl ?_
  refine z_iload_n F dX12_rather_3 rfl (q := 2) rfl ?_
  refine z_aload_n F dX12_rather_4 rfl (q := 1) rfl ?_
  refine z_iload_n F dX12_rather_5 rfl (q := 2) rfl ?_
  refine zv_i (rest := [ii x0, .ref (ad 131)]) F (k_X12_lies l M ⟨hI, hW⟩ x0 (by omega) (by omega)) cs_X12_317 (T := TX12) (N := 44) (ci := 12) rfl gs_131 (by decide) (by decide) rfl rfl rfl (Nat.le_of_ble_eq_true rfl) dX12_rather_6 (fun v1 M2 rv1 hI p3 => ?_)
  obtain ⟨hI, hW⟩ := hI
  obtain ⟨⟨av1, bv1⟩, rfl⟩ := p3
  refine zv_i (rest := []) F (k_X12_pleasureOf l M ⟨hI, hW⟩ x0 (by omega) (by omega) v1 (by omega) (by omega)) cs_X12_515 (T := TX12) (N := 44) (ci := 12) rfl gs_131 (by decide) (by decide) rfl rfl rfl (Nat.le_of_ble_eq_true rfl) dX12_rather_9 (fun v4 M5 rv4 hI p6 => ?_)
  obtain ⟨hI, hW⟩ := hI
  obtain ⟨⟨av4, bv4⟩, fp6⟩ := p6
  have hF := hF.call fp6 (by decide)
  refine z_istore_n F dX12_rather_12 rfl (by decide) (ls' := [(3, ii v4), (2, ii (-1)), (0, .ref (ad 131)), (1, ii x0)]) rfl ?_
  refine z_iconst F dX12_rather_13 ?_
  refine z_istore F dX12_rather_14 (by decide) (ls' := [(4, ii 0), (3, ii v4), (2, ii (-1)), (0, .ref (ad 131)), (1, ii x0)]) rfl ?_
  refine z_loc [3, 4, 2, 1, 0] (ls' := [(0, .ref (ad 131)), (1, ii x0), (2, ii (-1)), (3, ii v4), (4, ii 0)]) rfl ?_
  suffices key16 : ∀ (n : Nat) (y8 : Int) (y9 : Int) (y10 : Int) (M7 : Mem), Inv M7 → WFk M7 → Fr [137] M M7 → (-1) ≤ y8 → y8 ≤ 9 → (-2147483648) ≤ y9 → y9 ≤ 2147483647 → 0 ≤ y10 → y10 ≤ 10 → 10 - y10 < (n : Int) → Z D cy ad p l e (RMh 8) s m args below meth c A 5 0 0 Q 16 [(0, .ref (ad 131)), (1, ii x0), (2, ii y8), (3, ii y9), (4, ii y10)] [] M7 from key16 11 (-1) v4 0 M5 hI hW hF (by omega) (by omega) (by omega) (by omega) (by omega) (by omega) (by omega)
  intro n16
  induction n16 with
  | zero => intro y8 y9 y10 M7 hI hW hF ay8 by8 ay9 by9 ay10 by10 hn16; exfalso; omega
  | succ n16 ih16 =>
    intro y8 y9 y10 M7 hI hW hF ay8 by8 ay9 by9 ay10 by10 hn16
    refine z_iload F dX12_rather_16 (q := 4) rfl ?_
    refine z_aload_n F dX12_rather_18 rfl (q := 0) rfl ?_
    refine zv_i (rest := [ii y10]) F (k_X12_places l M7 ⟨hI, hW⟩) cs_X12_273 (T := TX12) (N := 44) (ci := 12) rfl gs_131 (by decide) (by decide) rfl rfl rfl (Nat.le_of_ble_eq_true rfl) dX12_rather_19 (fun v11 M12 rv11 hI p13 => ?_)
    obtain ⟨hI, hW⟩ := hI
    obtain ⟨⟨av11, bv11⟩, rfl, xp13⟩ := p13
    refine z_icmp_ge (tgt := 68) F dX12_rather_22 (by decide +kernel) (by omega) (by omega) (fun c14 => ?_) (fun c14 => ?_)
    · refine z_iload_n F dX12_rather_68 rfl (q := 2) rfl ?_
      exact hret _ _ 69 _ (by omega) ⟨hI, hW⟩ ⟨⟨by omega, by omega⟩, hF⟩ dX12_rather_69
    · refine z_aload_n F dX12_rather_25 rfl (q := 0) rfl ?_
      refine z_iload_n F dX12_rather_26 rfl (q := 1) rfl ?_
      refine z_i2l F dX12_rather_27 (by omega) ?_
      refine z_iload F dX12_rather_28 (q := 4) rfl ?_
      refine z_i2l F dX12_rather_30 (by omega) ?_
      refine zv_i (rest := []) F (k_X12_whyNot l M7 ⟨hI, hW⟩ x0 (by omega) (by omega) y10 (by omega) (by omega)) cs_X12_378 (T := TX12) (N := 44) (ci := 12) rfl gs_131 (by decide) (by decide) rfl rfl rfl (Nat.le_of_ble_eq_true rfl) dX12_rather_31 (fun v15 M16 rv15 hI p17 => ?_)
      obtain ⟨hI, hW⟩ := hI
      obtain ⟨⟨av15, bv15⟩, rfl, xp17⟩ := p17
      refine z_if_ne (tgt := 62) F dX12_rather_34 (by decide +kernel) (by omega) (fun c18 => ?_) (fun c18 => ?_)
      · refine z_iincN F dX12_rather_62 (q := 4) rfl (by decide) (fun v19 ev19 => ?_)
        refine z_eq (ls' := [(4, ii v19), (0, .ref (ad 131)), (1, ii x0), (2, ii y8), (3, ii y9)]) rfl rfl rfl ?_
        refine z_goto (tgt := 16) F dX12_rather_65 (by decide +kernel) ?_
        refine z_loc [1, 2, 3, 4, 0] (ls' := [(0, .ref (ad 131)), (1, ii x0), (2, ii y8), (3, ii y9), (4, ii v19)]) rfl ?_
        exact ih16 y8 y9 v19 M7 hI hW hF (by omega) (by omega) (by omega) (by omega) (by omega) (by omega) (by omega)
      · refine z_aload_n F dX12_rather_37 rfl (q := 0) rfl ?_
        refine z_iload_n F dX12_rather_38 rfl (q := 1) rfl ?_
        refine z_iload F dX12_rather_39 (q := 4) rfl ?_
        refine zv_i (rest := []) F (k_X12_pleasureOf l M7 ⟨hI, hW⟩ x0 (by omega) (by omega) y10 (by omega) (by omega)) cs_X12_515 (T := TX12) (N := 44) (ci := 12) rfl gs_131 (by decide) (by decide) rfl rfl rfl (Nat.le_of_ble_eq_true rfl) dX12_rather_41 (fun v20 M21 rv20 hI p22 => ?_)
        obtain ⟨hI, hW⟩ := hI
        obtain ⟨⟨av20, bv20⟩, fp22⟩ := p22
        have hF := hF.call fp22 (by decide)
        refine z_iload_n F dX12_rather_44 rfl (q := 3) rfl ?_
        refine z_icmp_gt (tgt := 51) F dX12_rather_45 (by decide +kernel) (by omega) (by omega) (fun c23 => ?_) (fun c23 => ?_)
        · refine z_iload F dX12_rather_51 (q := 4) rfl ?_
          refine z_istore_n F dX12_rather_53 rfl (by decide) (ls' := [(2, ii y10), (0, .ref (ad 131)), (1, ii x0), (3, ii y9), (4, ii y10)]) rfl ?_
          refine z_aload_n F dX12_rather_54 rfl (q := 1) rfl ?_
          refine z_iload_n F dX12_rather_55 rfl (q := 2) rfl ?_
          refine z_iload F dX12_rather_56 (q := 4) rfl ?_
          refine zv_i (rest := []) F (k_X12_pleasureOf l M21 ⟨hI, hW⟩ x0 (by omega) (by omega) y10 (by omega) (by omega)) cs_X12_515 (T := TX12) (N := 44) (ci := 12) rfl gs_131 (by decide) (by decide) rfl rfl rfl (Nat.le_of_ble_eq_true rfl) dX12_rather_58 (fun v24 M25 rv24 hI p26 => ?_)
          obtain ⟨hI, hW⟩ := hI
          obtain ⟨⟨av24, bv24⟩, fp26⟩ := p26
          have hF := hF.call fp26 (by decide)
          refine z_istore_n F dX12_rather_61 rfl (by decide) (ls' := [(3, ii v24), (2, ii y10), (0, .ref (ad 131)), (1, ii x0), (4, ii y10)]) rfl ?_
          refine z_iincN F dX12_rather_62 (q := 4) rfl (by decide) (fun v27 ev27 => ?_)
          refine z_eq (ls' := [(4, ii v27), (3, ii v24), (2, ii y10), (0, .ref (ad 131)), (1, ii x0)]) rfl rfl rfl ?_
          refine z_goto (tgt := 16) F dX12_rather_65 (by decide +kernel) ?_
          refine z_loc [3, 4, 2, 1, 0] (ls' := [(0, .ref (ad 131)), (1, ii x0), (2, ii y10), (3, ii v24), (4, ii v27)]) rfl ?_
          exact ih16 y10 v24 v27 M25 hI hW hF (by omega) (by omega) (by omega) (by omega) (by omega) (by omega) (by omega)
        · refine z_goto (tgt := 62) F dX12_rather_48 (by decide +kernel) ?_
          refine z_iincN F dX12_rather_62 (q := 4) rfl (by decide) (fun v28 ev28 => ?_)
          refine z_eq (ls' := [(4, ii v28), (0, .ref (ad 131)), (1, ii x0), (2, ii y8), (3, ii y9)]) rfl rfl rfl ?_
          refine z_goto (tgt := 16) F dX12_rather_65 (by decide +kernel) ?_
          refine z_loc [1, 2, 3, 4, 0] (ls' := [(0, .ref (ad 131)), (1, ii x0), (2, ii y8), (3, ii y9), (4, ii v28)]) rfl ?_
          exact ih16 y8 y9 v28 M21 hI hW hF (by omega) (by omega) (by omega) (by omega) (by omega) (by omega) (by omega)
set_option maxRecDepth 4000 in
theorem k_X12_atRest (l : Launch) (M : Mem) (hJ : Iw M) : CI l yX12_atRest cX12_atRest 2 (some .boolean) 9 (fun ad => [.ref (ad 131)]) M (fun z M' => (0 ≤ z ∧ z ≤ 1) ∧ Fr [131, 137] M M') := by
  obtain ⟨hI, hW⟩ := hJ
  have hF : Fr [131, 137] M M := Fr.rf
  refine en_z (by decide +kernel) (fun ad => by exact Nat.le_of_ble_eq_true rfl) (fun D cy ad A p e s m args below meth c Q F hret => ?_)
  refine z_eq (ls' := [(0, .ref (ad 131))]) rfl rfl rfl ?_
  refine z_aload_n F dX12_atRest_0 rfl (q := 0) rfl ?_
  refine z_iconst F dX12_atRest_1 ?_
  refine pf_X12_73 F hI gs_131 rfl bd_131_4 rfl rfl dX12_atRest_2 (by omega) (by omega) (fun M2 hI sf1 f1 => ?_)
  have hF := hF.wrf f1 (by decide) (by decide)
  have hW : WFk M2 := hW.site f1 (by decide)
  refine z_iconst F dX12_atRest_5 ?_
  refine z_istore_n F dX12_atRest_6 rfl (by decide) (ls' := [(1, ii 0), (0, .ref (ad 131))]) rfl ?_
  refine z_loc [1, 0] (ls' := [(0, .ref (ad 131)), (1, ii 0)]) rfl ?_
  suffices key7 : ∀ (n : Nat) (y4 : Int) (M3 : Mem), Inv M3 → WFk M3 → Fr [131, 137] M M3 → 0 ≤ y4 → y4 ≤ 8 → 8 - y4 < (n : Int) → Z D cy ad p l e (RMh 9) s m args below meth c A 2 0 0 Q 7 [(0, .ref (ad 131)), (1, ii y4)] [] M3 from key7 9 0 M2 hI hW hF (by omega) (by omega) (by omega)
  intro n7
  induction n7 with
  | zero => intro y4 M3 hI hW hF ay4 by4 hn7; exfalso; omega
  | succ n7 ih7 =>
    intro y4 M3 hI hW hF ay4 by4 hn7
    refine z_iload_n F dX12_atRest_7 rfl (q := 1) rfl ?_
    refine z_aload_n F dX12_atRest_8 rfl (q := 0) rfl ?_
    refine zv_i (rest := [ii y4]) F (k_X12_things l M3 ⟨hI, hW⟩) cs_X12_275 (T := TX12) (N := 44) (ci := 12) rfl gs_131 (by decide) (by decide) rfl rfl rfl (Nat.le_of_ble_eq_true rfl) dX12_atRest_9 (fun v5 M6 rv5 hI p7 => ?_)
    obtain ⟨hI, hW⟩ := hI
    obtain ⟨⟨av5, bv5⟩, rfl, xp7⟩ := p7
    refine z_icmp_ge (tgt := 32) F dX12_atRest_12 (by decide +kernel) (by omega) (by omega) (fun c8 => ?_) (fun c8 => ?_)
    · refine z_iconst F dX12_atRest_32 ?_
      exact hret _ _ 33 _ ⟨by omega, by omega⟩ ⟨hI, hW⟩ ⟨⟨by omega, by omega⟩, hF⟩ dX12_atRest_33
    · refine z_aload_n F dX12_atRest_15 rfl (q := 0) rfl ?_
      refine z_iload_n F dX12_atRest_16 rfl (q := 1) rfl ?_
      refine zv_i (rest := []) F (k_X12_rather l M3 ⟨hI, hW⟩ y4 (by omega) (by omega)) cs_X12_518 (T := TX12) (N := 44) (ci := 12) rfl gs_131 (by decide) (by decide) rfl rfl rfl (Nat.le_of_ble_eq_true rfl) dX12_atRest_17 (fun v9 M10 rv9 hI p11 => ?_)
      obtain ⟨hI, hW⟩ := hI
      obtain ⟨⟨av9, bv9⟩, fp11⟩ := p11
      have hF := hF.call fp11 (by decide)
      refine z_iconst F dX12_atRest_20 ?_
      refine z_icmp_eq (tgt := 26) F dX12_atRest_21 (by decide +kernel) (by omega) (by omega) (fun c12 => ?_) (fun c12 => ?_)
      · refine z_iincN F dX12_atRest_26 (q := 1) rfl (by decide) (fun v13 ev13 => ?_)
        refine z_eq (ls' := [(1, ii v13), (0, .ref (ad 131))]) rfl rfl rfl ?_
        refine z_goto (tgt := 7) F dX12_atRest_29 (by decide +kernel) ?_
        refine z_loc [1, 0] (ls' := [(0, .ref (ad 131)), (1, ii v13)]) rfl ?_
        exact ih7 v13 M10 hI hW hF (by omega) (by omega) (by omega)
      · refine z_iconst F dX12_atRest_24 ?_
        exact hret _ _ 25 _ ⟨by omega, by omega⟩ ⟨hI, hW⟩ ⟨⟨by omega, by omega⟩, hF⟩ dX12_atRest_25
set_option maxRecDepth 4000 in
theorem k_X12_drift (l : Launch) (M : Mem) (hJ : Iw M) : CI l yX12_drift cX12_drift 6 (some .int) 9 (fun ad => [.ref (ad 131)]) M (fun z M' => ((-2147483648) ≤ z ∧ z ≤ 2147483647) ∧ Fr [131, 132, 137] M M') := by
  obtain ⟨hI, hW⟩ := hJ
  have hF : Fr [131, 132, 137] M M := Fr.rf
  refine en_i (by decide +kernel) (fun ad => by exact Nat.le_of_ble_eq_true rfl) (fun D cy ad A p e s m args below meth c Q F hret => ?_)
  refine z_eq (ls' := [(0, .ref (ad 131))]) rfl rfl rfl ?_
  refine z_aload_n F dX12_drift_0 rfl (q := 0) rfl ?_
  refine z_iconst F dX12_drift_1 ?_
  refine pf_X12_73 F hI gs_131 rfl bd_131_4 rfl rfl dX12_drift_2 (by omega) (by omega) (fun M2 hI sf1 f1 => ?_)
  have hF := hF.wrf f1 (by decide) (by decide)
  have hW : WFk M2 := hW.site f1 (by decide)
  refine z_aload_n F dX12_drift_5 rfl (q := 0) rfl ?_
  refine zv_v (rest := []) F (k_X12_keeps l M2 ⟨hI, hW⟩) cs_X12_375 (T := TX12) (N := 44) (ci := 12) rfl gs_131 (by decide) (by decide) rfl rfl rfl (Nat.le_of_ble_eq_true rfl) dX12_drift_6 (fun M3 hI p4 => ?_)
  obtain ⟨hI, hW⟩ := hI
  have fp4 := p4
  have hF := hF.call fp4 (by decide)
  refine z_iconst F dX12_drift_9 ?_
  refine z_istore_n F dX12_drift_10 rfl (by decide) (ls' := [(1, ii 0), (0, .ref (ad 131))]) rfl ?_
  refine z_iconst F dX12_drift_11 ?_
  refine z_istore_n F dX12_drift_12 rfl (by decide) (ls' := [(2, ii 1), (1, ii 0), (0, .ref (ad 131))]) rfl ?_
  refine z_iconst F dX12_drift_13 ?_
  refine z_istore_n F dX12_drift_14 rfl (by decide) (ls' := [(3, ii 0), (2, ii 1), (1, ii 0), (0, .ref (ad 131))]) rfl ?_
  refine z_loc [3, 2, 1, 0] (ls' := [(0, .ref (ad 131)), (1, ii 0), (2, ii 1), (3, ii 0)]) rfl ?_
  suffices key15 : ∀ (n : Nat) (y6 : Int) (y7 : Int) (y8 : Int) (M5 : Mem), Inv M5 → WFk M5 → Fr [131, 132, 137] M M5 → (-2147483648) ≤ y6 → y6 ≤ 2147483647 → 0 ≤ y7 → y7 ≤ 1 → 0 ≤ y8 → y8 ≤ 20 → 20 - y8 < (n : Int) → Z D cy ad p l e (RMh 9) s m args below meth c A 6 0 0 Q 15 [(0, .ref (ad 131)), (1, ii y6), (2, ii y7), (3, ii y8)] [] M5 from key15 21 0 1 0 M3 hI hW hF (by omega) (by omega) (by omega) (by omega) (by omega) (by omega) (by omega)
  intro n15
  induction n15 with
  | zero => intro y6 y7 y8 M5 hI hW hF ay6 by6 ay7 by7 ay8 by8 hn15; exfalso; omega
  | succ n15 ih15 =>
    intro y6 y7 y8 M5 hI hW hF ay6 by6 ay7 by7 ay8 by8 hn15
    refine z_iload_n F dX12_drift_15 rfl (q := 3) rfl ?_
    refine z_bipush F dX12_drift_16 (by decide +kernel) ?_
    refine z_icmp_ge (tgt := 85) F dX12_drift_18 (by decide +kernel) (by omega) (by omega) (fun c9 => ?_) (fun c9 => ?_)
    · refine z_iload_n F dX12_drift_85 rfl (q := 1) rfl ?_
      exact hret _ _ 86 _ (by omega) ⟨hI, hW⟩ ⟨⟨by omega, by omega⟩, hF⟩ dX12_drift_86
    · refine z_iload_n F dX12_drift_21 rfl (q := 2) rfl ?_
      refine z_if_eq (tgt := 85) F dX12_drift_22 (by decide +kernel) (by omega) (fun c10 => ?_) (fun c10 => ?_)
      · refine z_iload_n F dX12_drift_85 rfl (q := 1) rfl ?_
        exact hret _ _ 86 _ (by omega) ⟨hI, hW⟩ ⟨⟨by omega, by omega⟩, hF⟩ dX12_drift_86
      · refine z_iconst F dX12_drift_25 ?_
        refine z_istore_n F dX12_drift_26 rfl (by decide) (ls' := [(2, ii 0), (0, .ref (ad 131)), (1, ii y6), (3, ii y8)]) rfl ?_
        refine z_iconst F dX12_drift_27 ?_
        refine z_istore F dX12_drift_28 (by decide) (ls' := [(4, ii 0), (2, ii 0), (0, .ref (ad 131)), (1, ii y6), (3, ii y8)]) rfl ?_
        refine z_loc [2, 3, 1, 4, 0] (ls' := [(0, .ref (ad 131)), (1, ii y6), (2, ii 0), (3, ii y8), (4, ii 0)]) rfl ?_
        suffices key30 : ∀ (n : Nat) (y12 : Int) (y13 : Int) (y14 : Int) (M11 : Mem), Inv M11 → WFk M11 → Fr [131, 132, 137] M M11 → (-2147483648) ≤ y12 → y12 ≤ 2147483647 → 0 ≤ y13 → y13 ≤ 1 → 0 ≤ y14 → y14 ≤ 8 → 8 - y14 < (n : Int) → Z D cy ad p l e (RMh 9) s m args below meth c A 6 0 0 Q 30 [(0, .ref (ad 131)), (1, ii y12), (2, ii y13), (3, ii y8), (4, ii y14)] [] M11 from key30 9 y6 0 0 M5 hI hW hF (by omega) (by omega) (by omega) (by omega) (by omega) (by omega) (by omega)
        intro n30
        induction n30 with
        | zero => intro y12 y13 y14 M11 hI hW hF ay12 by12 ay13 by13 ay14 by14 hn30; exfalso; omega
        | succ n30 ih30 =>
          intro y12 y13 y14 M11 hI hW hF ay12 by12 ay13 by13 ay14 by14 hn30
          refine z_iload F dX12_drift_30 (q := 4) rfl ?_
          refine z_aload_n F dX12_drift_32 rfl (q := 0) rfl ?_
          refine zv_i (rest := [ii y14]) F (k_X12_things l M11 ⟨hI, hW⟩) cs_X12_275 (T := TX12) (N := 44) (ci := 12) rfl gs_131 (by decide) (by decide) rfl rfl rfl (Nat.le_of_ble_eq_true rfl) dX12_drift_33 (fun v15 M16 rv15 hI p17 => ?_)
          obtain ⟨hI, hW⟩ := hI
          obtain ⟨⟨av15, bv15⟩, rfl, xp17⟩ := p17
          refine z_icmp_ge (tgt := 79) F dX12_drift_36 (by decide +kernel) (by omega) (by omega) (fun c18 => ?_) (fun c18 => ?_)
          · refine z_iincN F dX12_drift_79 (q := 3) rfl (by decide) (fun v19 ev19 => ?_)
            refine z_eq (ls' := [(3, ii v19), (0, .ref (ad 131)), (1, ii y12), (2, ii y13), (4, ii y14)]) rfl rfl rfl ?_
            refine z_goto (tgt := 15) F dX12_drift_82 (by decide +kernel) ?_
            refine z_loc [1, 2, 3, 0] (ls' := [(0, .ref (ad 131)), (1, ii y12), (2, ii y13), (3, ii v19)]) rfl ?_
            exact ih15 y12 y13 v19 M11 hI hW hF (by omega) (by omega) (by omega) (by omega) (by omega) (by omega) (by omega)
          · refine z_aload_n F dX12_drift_39 rfl (q := 0) rfl ?_
            refine z_iload F dX12_drift_40 (q := 4) rfl ?_
            refine zv_i (rest := []) F (k_X12_rather l M11 ⟨hI, hW⟩ y14 (by omega) (by omega)) cs_X12_518 (T := TX12) (N := 44) (ci := 12) rfl gs_131 (by decide) (by decide) rfl rfl rfl (Nat.le_of_ble_eq_true rfl) dX12_drift_42 (fun v20 M21 rv20 hI p22 => ?_)
            obtain ⟨hI, hW⟩ := hI
            obtain ⟨⟨av20, bv20⟩, fp22⟩ := p22
            have hF := hF.call fp22 (by decide)
            refine z_istore F dX12_drift_45 (by decide) (ls' := [(5, ii v20), (0, .ref (ad 131)), (1, ii y12), (2, ii y13), (3, ii y8), (4, ii y14)]) rfl ?_
            refine z_iload F dX12_drift_47 (q := 0) rfl ?_
            refine z_iconst F dX12_drift_49 ?_
            refine z_icmp_ne (tgt := 56) F dX12_drift_50 (by decide +kernel) (by omega) (by omega) (fun c23 => ?_) (fun c23 => ?_)
            · refine z_aload_n F dX12_drift_56 rfl (q := 1) rfl ?_
              refine rf_X12_9 F gs_131 rfl dX12_drift_57 ?_
              refine z_bipush F dX12_drift_60 (by decide +kernel) ?_
              refine z_iload F dX12_drift_62 (q := 5) rfl ?_
              refine z_iadd F dX12_drift_64 ?_
              refine z_iload F dX12_drift_65 (q := 0) rfl ?_
              refine z_iast F hI gs_132 (by omega) (by omega) (by decide) (bd_132.trans (kn_at (by omega) (by omega))) dX12_drift_67 (by omega) (by omega) (fun M25 hI sf24 f24 => ?_)
              have hF := hF.wrk f24 (by decide) (by omega)
              have hW : WFk M25 := hW.known f24 (by omega)
              refine z_iconst F dX12_drift_68 ?_
              refine z_istore_n F dX12_drift_69 rfl (by decide) (ls' := [(2, ii 1), (5, ii v20), (0, .ref (ad 131)), (1, ii y12), (3, ii y8), (4, ii y14)]) rfl ?_
              refine z_iincW F dX12_drift_70 (q := 3) rfl (by decide) (fun v26 rv26 wv26 => ?_)
              refine z_eq (ls' := [(1, ii v26), (2, ii 1), (5, ii v20), (0, .ref (ad 131)), (3, ii y8), (4, ii y14)]) rfl rfl rfl ?_
              refine z_iincN F dX12_drift_73 (q := 5) rfl (by decide) (fun v27 ev27 => ?_)
              refine z_eq (ls' := [(4, ii v27), (1, ii v26), (2, ii 1), (5, ii v20), (0, .ref (ad 131)), (3, ii y8)]) rfl rfl rfl ?_
              refine z_goto (tgt := 30) F dX12_drift_76 (by decide +kernel) ?_
              refine z_loc [4, 1, 2, 5, 0] (ls' := [(0, .ref (ad 131)), (1, ii v26), (2, ii 1), (3, ii y8), (4, ii v27)]) rfl ?_
              exact ih30 v26 1 v27 M25 hI hW hF (by omega) (by omega) (by omega) (by omega) (by omega) (by omega) (by omega)
            · refine z_goto (tgt := 73) F dX12_drift_53 (by decide +kernel) ?_
              refine z_iincN F dX12_drift_73 (q := 5) rfl (by decide) (fun v28 ev28 => ?_)
              refine z_eq (ls' := [(4, ii v28), (5, ii v20), (0, .ref (ad 131)), (1, ii y12), (2, ii y13), (3, ii y8)]) rfl rfl rfl ?_
              refine z_goto (tgt := 30) F dX12_drift_76 (by decide +kernel) ?_
              refine z_loc [2, 3, 4, 5, 0] (ls' := [(0, .ref (ad 131)), (1, ii y12), (2, ii y13), (3, ii y8), (4, ii v28)]) rfl ?_
              exact ih30 y12 y13 v28 M21 hI hW hF (by omega) (by omega) (by omega) (by omega) (by omega) (by omega) (by omega)
set_option maxRecDepth 4000 in
theorem k_X12_goesSeen (l : Launch) : ∀ (nr : Nat) (M : Mem) (hJ : Iw M) (x0 : Int) (hx0a : 0 ≤ x0) (hx0b : x0 ≤ 3) (x1 : Int) (hx1a : 0 ≤ x1) (hx1b : x1 ≤ 4) (hp0 : M 149 x0.toNat ≤ 4) (hp1 : x1 ≤ M 149 x0.toNat) (hmu : 4 - x1 < (nr : Int)), CV l yX12_goesSeen cX12_goesSeen 7 none (8 + nr) (fun ad => [.ref (ad 131), ii x0, ii x1]) M (fun M' => Fr [131, 132, 137, 146, 147] M M') := by
  intro nr
  induction nr with
  | zero => intro M hJ x0 hx0a hx0b x1 hx1a hx1b hp0 hp1 hmu; exfalso; omega
  | succ nr ih =>
  intro M hJ x0 hx0a hx0b x1 hx1a hx1b hp0 hp1 hmu
  obtain ⟨hI, hW⟩ := hJ
  have hF : Fr [131, 132, 137, 146, 147] M M := Fr.rf
  have hI0 := hI
  have hW0 := hW
  refine en_v (by decide +kernel) (fun ad => by exact Nat.le_of_ble_eq_true rfl) (fun D cy ad A p e s m args below meth c Q F hret => ?_)
  refine z_eq (ls' := [(0, .ref (ad 131)), (1, ii x0), (2, ii x1)]) rfl rfl rfl ?_
  refine z_iload_n F dX12_goesSeen_0 rfl (q := 2) rfl ?_
  refine z_aload_n F dX12_goesSeen_1 rfl (q := 0) rfl ?_
  refine rf_X12_66 F gs_131 rfl dX12_goesSeen_2 ?_
  refine z_iload_n F dX12_goesSeen_5 rfl (q := 1) rfl ?_
  refine z_iald F hI gs_149 (by omega) (by omega) (by decide) bd_149 dX12_goesSeen_6 (fun v1 (ev1 : v1 = M 149 _) av1 bv1 => ?_)
  refine z_icmp_ne (tgt := 51) F dX12_goesSeen_7 (by decide +kernel) (by omega) (by omega) (fun c2 => ?_) (fun c2 => ?_)
  · have k3 : 0 ≤ x1 ∧ x1 ≤ 3 := by omega
    refine z_iconst F dX12_goesSeen_51 ?_
    refine z_istore_n F dX12_goesSeen_52 rfl (by decide) (ls' := [(3, ii 0), (0, .ref (ad 131)), (1, ii x0), (2, ii x1)]) rfl ?_
    refine z_loc [1, 2, 3, 0] (ls' := [(0, .ref (ad 131)), (1, ii x0), (2, ii x1), (3, ii 0)]) rfl ?_
    suffices key53 : ∀ (n : Nat) (y5 : Int) (M4 : Mem), Inv M4 → WFk M4 → Fr [131, 132, 137, 146, 147] M M4 → 0 ≤ y5 → y5 ≤ 9 → 9 - y5 < (n : Int) → Z D cy ad p l e (RMh (8 + (nr + 1))) s m args below meth c A 7 0 0 Q 53 [(0, .ref (ad 131)), (1, ii x0), (2, ii x1), (3, ii y5)] [] M4 from key53 10 0 M hI hW hF (by omega) (by omega) (by omega)
    intro n53
    induction n53 with
    | zero => intro y5 M4 hI hW hF ay5 by5 hn53; exfalso; omega
    | succ n53 ih53 =>
      intro y5 M4 hI hW hF ay5 by5 hn53
      refine z_iload_n F dX12_goesSeen_53 rfl (q := 3) rfl ?_
      refine z_aload_n F dX12_goesSeen_54 rfl (q := 0) rfl ?_
      refine zv_i (rest := [ii y5]) F (k_X12_things l M4 ⟨hI, hW⟩) cs_X12_275 (T := TX12) (N := 44) (ci := 12) rfl gs_131 (by omega) (by decide) rfl rfl rfl (Nat.le_of_ble_eq_true rfl) dX12_goesSeen_55 (fun v6 M7 rv6 hI p8 => ?_)
      obtain ⟨hI, hW⟩ := hI
      obtain ⟨⟨av6, bv6⟩, rfl, xp8⟩ := p8
      refine z_icmp_gt (tgt := 170) F dX12_goesSeen_58 (by decide +kernel) (by omega) (by omega) (fun c9 => ?_) (fun c9 => ?_)
      · exact hret _ 170 _ ⟨hI, hW⟩ hF dX12_goesSeen_170
      · refine z_iload_n F dX12_goesSeen_61 rfl (q := 3) rfl ?_
        refine z_aload_n F dX12_goesSeen_62 rfl (q := 0) rfl ?_
        refine zv_i (rest := [ii y5]) F (k_X12_things l M4 ⟨hI, hW⟩) cs_X12_275 (T := TX12) (N := 44) (ci := 12) rfl gs_131 (by omega) (by decide) rfl rfl rfl (Nat.le_of_ble_eq_true rfl) dX12_goesSeen_63 (fun v10 M11 rv10 hI p12 => ?_)
        obtain ⟨hI, hW⟩ := hI
        obtain ⟨⟨av10, bv10⟩, rfl, xp12⟩ := p12
        have zv10 : v6 = v10 := xp8.trans xp12.symm
        subst zv10
        refine z_icmp_ge (tgt := 81) F dX12_goesSeen_66 (by decide +kernel) (by omega) (by omega) (fun c13 => ?_) (fun c13 => ?_)
        · refine z_iconst F dX12_goesSeen_81 ?_
          refine z_istore F dX12_goesSeen_82 (by decide) (ls' := [(4, ii 0), (0, .ref (ad 131)), (1, ii x0), (2, ii x1), (3, ii y5)]) rfl ?_
          refine z_iload_n F dX12_goesSeen_84 rfl (q := 4) rfl ?_
          refine z_aload_n F dX12_goesSeen_85 rfl (q := 1) rfl ?_
          refine zv_i (rest := [ii y5]) F (k_X12_things l M4 ⟨hI, hW⟩) cs_X12_275 (T := TX12) (N := 44) (ci := 12) rfl gs_131 (by omega) (by decide) rfl rfl rfl (Nat.le_of_ble_eq_true rfl) dX12_goesSeen_86 (fun v14 M15 rv14 hI p16 => ?_)
          obtain ⟨hI, hW⟩ := hI
          obtain ⟨⟨av14, bv14⟩, rfl, xp16⟩ := p16
          have zv14 : v6 = v14 := xp8.trans xp16.symm
          subst zv14
          refine z_icmp_ge (tgt := 97) F dX12_goesSeen_89 (by decide +kernel) (by omega) (by omega) (fun c17 => ?_) (fun c17 => ?_)
          · refine z_aload_n F dX12_goesSeen_97 rfl (q := 1) rfl ?_
            refine rf_X12_57 F gs_131 rfl dX12_goesSeen_98 ?_
            refine z_iload_n F dX12_goesSeen_101 rfl (q := 3) rfl ?_
            refine z_iload_n F dX12_goesSeen_102 rfl (q := 4) rfl ?_
            refine z_iast F hI gs_146 (by omega) (by omega) (by decide) bd_146 dX12_goesSeen_103 (by omega) (by omega) (fun M19 hI sf18 f18 => ?_)
            have hF := hF.wr f18 (by decide) (by decide)
            have hW : WFk M19 := hW.site f18 (by decide)
            refine z_aload_n F dX12_goesSeen_104 rfl (q := 1) rfl ?_
            refine rf_X12_69 F gs_131 rfl dX12_goesSeen_105 ?_
            refine z_bipush F dX12_goesSeen_108 (by decide +kernel) ?_
            refine z_iload_n F dX12_goesSeen_110 rfl (q := 2) rfl ?_
            refine z_imul F dX12_goesSeen_111 ?_
            refine z_iload_n F dX12_goesSeen_112 rfl (q := 3) rfl ?_
            refine z_iadd F dX12_goesSeen_113 ?_
            refine z_lald F hI gs_150 (by omega) (by omega) (by decide) bd_150 dX12_goesSeen_114 (fun v20 (ev20 : v20 = M19 150 _) av20 bv20 => ?_)
            refine z_lstore F dX12_goesSeen_115 (by decide) (ls' := [(5, ll v20), (4, ii 0), (0, .ref (ad 131)), (1, ii x0), (2, ii x1), (3, ii y5)]) rfl ?_
            refine z_lload F dX12_goesSeen_117 (q := 0) rfl ?_
            refine z_ldc2 (x := (-1)) F dX12_goesSeen_119 (gin lm_158 rfl) (by decide +kernel) ?_
            refine z_lcmp F dX12_goesSeen_122 (by omega) (by omega) (fun v21 ev21 => ?_)
            refine z_if_eq (tgt := 137) F dX12_goesSeen_123 (by decide +kernel) (by omega) (fun c22 => ?_) (fun c22 => ?_)
            · refine z_aload_n F dX12_goesSeen_137 rfl (q := 2) rfl ?_
              refine z_iload_n F dX12_goesSeen_138 rfl (q := 3) rfl ?_
              refine z_iload_n F dX12_goesSeen_139 rfl (q := 4) rfl ?_
              refine z_iconst F dX12_goesSeen_140 ?_
              refine z_iadd F dX12_goesSeen_141 ?_
              refine zv_v (rest := []) F (ih M19 ⟨hI, hW⟩ x0 (by omega) (by omega) (x1 + 1) (by omega) (by omega) (by have := hF.at (a := 149) (b := x0.toNat) (by decide); omega) (by have := hF.at (a := 149) (b := x0.toNat) (by decide); omega) (by omega)) cs_X12_524 (T := TX12) (N := 44) (ci := 12) rfl gs_131 (by omega) (by decide) rfl rfl rfl (Nat.le_of_ble_eq_true rfl) dX12_goesSeen_142 (fun M23 hI p24 => ?_)
              obtain ⟨hI, hW⟩ := hI
              have fp24 := p24
              have hF := hF.call fp24 (by decide)
              refine z_iload_n F dX12_goesSeen_145 rfl (q := 5) rfl ?_
              refine z_aload_n F dX12_goesSeen_146 rfl (q := 2) rfl ?_
              refine zv_i (rest := [ii y5]) F (k_X12_things l M23 ⟨hI, hW⟩) cs_X12_275 (T := TX12) (N := 44) (ci := 12) rfl gs_131 (by omega) (by decide) rfl rfl rfl (Nat.le_of_ble_eq_true rfl) dX12_goesSeen_147 (fun v25 M26 rv25 hI p27 => ?_)
              obtain ⟨hI, hW⟩ := hI
              obtain ⟨⟨av25, bv25⟩, rfl, xp27⟩ := p27
              have q28 : v6 = M19 132 2 := xp8.trans (f18 132 2 (fun q => absurd q.1 (by decide))).symm
              have q29 : v6 = M23 132 2 := q28.trans ((fp24.st (by decide) (by unfold stat; omega)) : M23 132 2 = _).symm
              have zv25 : v6 = v25 := q29.trans xp27.symm
              subst zv25
              refine z_icmp_ge (tgt := 164) F dX12_goesSeen_150 (by decide +kernel) (by omega) (by omega) (fun c30 => ?_) (fun c30 => ?_)
              · refine z_iincN F dX12_goesSeen_164 (q := 5) rfl (by decide) (fun v31 ev31 => ?_)
                refine z_eq (ls' := [(3, ii v31), (5, ll v20), (4, ii 0), (0, .ref (ad 131)), (1, ii x0), (2, ii x1)]) rfl rfl rfl ?_
                refine z_goto (tgt := 53) F dX12_goesSeen_167 (by decide +kernel) ?_
                refine z_loc [3, 4, 5, 0] (ls' := [(0, .ref (ad 131)), (1, ii x0), (2, ii x1), (3, ii v31)]) rfl ?_
                exact ih53 v31 M23 hI hW hF (by omega) (by omega) (by omega)
              · refine z_aload_n F dX12_goesSeen_153 rfl (q := 2) rfl ?_
                refine rf_X12_9 F gs_131 rfl dX12_goesSeen_154 ?_
                refine z_bipush F dX12_goesSeen_157 (by decide +kernel) ?_
                refine z_iload_n F dX12_goesSeen_159 rfl (q := 5) rfl ?_
                refine z_iadd F dX12_goesSeen_160 ?_
                refine z_iload F dX12_goesSeen_161 (q := 1) rfl ?_
                refine z_iast F hI gs_132 (by omega) (by omega) (by decide) (bd_132.trans (kn_any (by omega) (by omega))) dX12_goesSeen_163 (by omega) (by omega) (fun M33 hI sf32 f32 => ?_)
                have hF := hF.wrk f32 (by decide) (by omega)
                have hW : WFk M33 := hW.known f32 (by omega)
                refine z_iincN F dX12_goesSeen_164 (q := 5) rfl (by decide) (fun v34 ev34 => ?_)
                refine z_eq (ls' := [(3, ii v34), (5, ll v20), (4, ii 0), (0, .ref (ad 131)), (1, ii x0), (2, ii x1)]) rfl rfl rfl ?_
                refine z_goto (tgt := 53) F dX12_goesSeen_167 (by decide +kernel) ?_
                refine z_loc [3, 4, 5, 0] (ls' := [(0, .ref (ad 131)), (1, ii x0), (2, ii x1), (3, ii v34)]) rfl ?_
                exact ih53 v34 M33 hI hW hF (by omega) (by omega) (by omega)
            · refine z_lload F dX12_goesSeen_126 (q := 0) rfl ?_
              refine z_aload_n F dX12_goesSeen_128 rfl (q := 2) rfl ?_
              refine zv_i (rest := [ll v20]) F (k_X12_allClashes l M19 ⟨hI, hW⟩) cs_X12_352 (T := TX12) (N := 44) (ci := 12) rfl gs_131 (by omega) (by decide) rfl rfl rfl (Nat.le_of_ble_eq_true rfl) dX12_goesSeen_129 (fun v35 M36 rv35 hI p37 => ?_)
              obtain ⟨hI, hW⟩ := hI
              obtain ⟨⟨av35, bv35⟩, fp37⟩ := p37
              have hF := hF.call fp37 (by decide)
              refine z_i2l F dX12_goesSeen_132 (by omega) ?_
              refine z_lcmp F dX12_goesSeen_133 (by omega) (by omega) (fun v38 ev38 => ?_)
              refine z_if_ne (tgt := 145) F dX12_goesSeen_134 (by decide +kernel) (by omega) (fun c39 => ?_) (fun c39 => ?_)
              · refine z_iload_n F dX12_goesSeen_145 rfl (q := 5) rfl ?_
                refine z_aload_n F dX12_goesSeen_146 rfl (q := 2) rfl ?_
                refine zv_i (rest := [ii y5]) F (k_X12_things l M36 ⟨hI, hW⟩) cs_X12_275 (T := TX12) (N := 44) (ci := 12) rfl gs_131 (by omega) (by decide) rfl rfl rfl (Nat.le_of_ble_eq_true rfl) dX12_goesSeen_147 (fun v40 M41 rv40 hI p42 => ?_)
                obtain ⟨hI, hW⟩ := hI
                obtain ⟨⟨av40, bv40⟩, rfl, xp42⟩ := p42
                have q43 : v6 = M19 132 2 := xp8.trans (f18 132 2 (fun q => absurd q.1 (by decide))).symm
                have q44 : v6 = M36 132 2 := q43.trans ((fp37.at (by decide)) : M36 132 2 = _).symm
                have zv40 : v6 = v40 := q44.trans xp42.symm
                subst zv40
                refine z_icmp_ge (tgt := 164) F dX12_goesSeen_150 (by decide +kernel) (by omega) (by omega) (fun c45 => ?_) (fun c45 => ?_)
                · refine z_iincN F dX12_goesSeen_164 (q := 5) rfl (by decide) (fun v46 ev46 => ?_)
                  refine z_eq (ls' := [(3, ii v46), (5, ll v20), (4, ii 0), (0, .ref (ad 131)), (1, ii x0), (2, ii x1)]) rfl rfl rfl ?_
                  refine z_goto (tgt := 53) F dX12_goesSeen_167 (by decide +kernel) ?_
                  refine z_loc [3, 4, 5, 0] (ls' := [(0, .ref (ad 131)), (1, ii x0), (2, ii x1), (3, ii v46)]) rfl ?_
                  exact ih53 v46 M36 hI hW hF (by omega) (by omega) (by omega)
                · refine z_aload_n F dX12_goesSeen_153 rfl (q := 2) rfl ?_
                  refine rf_X12_9 F gs_131 rfl dX12_goesSeen_154 ?_
                  refine z_bipush F dX12_goesSeen_157 (by decide +kernel) ?_
                  refine z_iload_n F dX12_goesSeen_159 rfl (q := 5) rfl ?_
                  refine z_iadd F dX12_goesSeen_160 ?_
                  refine z_iload F dX12_goesSeen_161 (q := 1) rfl ?_
                  refine z_iast F hI gs_132 (by omega) (by omega) (by decide) (bd_132.trans (kn_any (by omega) (by omega))) dX12_goesSeen_163 (by omega) (by omega) (fun M48 hI sf47 f47 => ?_)
                  have hF := hF.wrk f47 (by decide) (by omega)
                  have hW : WFk M48 := hW.known f47 (by omega)
                  refine z_iincN F dX12_goesSeen_164 (q := 5) rfl (by decide) (fun v49 ev49 => ?_)
                  refine z_eq (ls' := [(3, ii v49), (5, ll v20), (4, ii 0), (0, .ref (ad 131)), (1, ii x0), (2, ii x1)]) rfl rfl rfl ?_
                  refine z_goto (tgt := 53) F dX12_goesSeen_167 (by decide +kernel) ?_
                  refine z_loc [3, 4, 5, 0] (ls' := [(0, .ref (ad 131)), (1, ii x0), (2, ii x1), (3, ii v49)]) rfl ?_
                  exact ih53 v49 M48 hI hW hF (by omega) (by omega) (by omega)
              · refine z_aload_n F dX12_goesSeen_137 rfl (q := 2) rfl ?_
                refine z_iload_n F dX12_goesSeen_138 rfl (q := 3) rfl ?_
                refine z_iload_n F dX12_goesSeen_139 rfl (q := 4) rfl ?_
                refine z_iconst F dX12_goesSeen_140 ?_
                refine z_iadd F dX12_goesSeen_141 ?_
                refine zv_v (rest := []) F (ih M36 ⟨hI, hW⟩ x0 (by omega) (by omega) (x1 + 1) (by omega) (by omega) (by have := hF.at (a := 149) (b := x0.toNat) (by decide); omega) (by have := hF.at (a := 149) (b := x0.toNat) (by decide); omega) (by omega)) cs_X12_524 (T := TX12) (N := 44) (ci := 12) rfl gs_131 (by omega) (by decide) rfl rfl rfl (Nat.le_of_ble_eq_true rfl) dX12_goesSeen_142 (fun M50 hI p51 => ?_)
                obtain ⟨hI, hW⟩ := hI
                have fp51 := p51
                have hF := hF.call fp51 (by decide)
                refine z_iload_n F dX12_goesSeen_145 rfl (q := 5) rfl ?_
                refine z_aload_n F dX12_goesSeen_146 rfl (q := 2) rfl ?_
                refine zv_i (rest := [ii y5]) F (k_X12_things l M50 ⟨hI, hW⟩) cs_X12_275 (T := TX12) (N := 44) (ci := 12) rfl gs_131 (by omega) (by decide) rfl rfl rfl (Nat.le_of_ble_eq_true rfl) dX12_goesSeen_147 (fun v52 M53 rv52 hI p54 => ?_)
                obtain ⟨hI, hW⟩ := hI
                obtain ⟨⟨av52, bv52⟩, rfl, xp54⟩ := p54
                have q55 : v6 = M19 132 2 := xp8.trans (f18 132 2 (fun q => absurd q.1 (by decide))).symm
                have q56 : v6 = M36 132 2 := q55.trans ((fp37.at (by decide)) : M36 132 2 = _).symm
                have q57 : v6 = M50 132 2 := q56.trans ((fp51.st (by decide) (by unfold stat; omega)) : M50 132 2 = _).symm
                have zv52 : v6 = v52 := q57.trans xp54.symm
                subst zv52
                refine z_icmp_ge (tgt := 164) F dX12_goesSeen_150 (by decide +kernel) (by omega) (by omega) (fun c58 => ?_) (fun c58 => ?_)
                · refine z_iincN F dX12_goesSeen_164 (q := 5) rfl (by decide) (fun v59 ev59 => ?_)
                  refine z_eq (ls' := [(3, ii v59), (5, ll v20), (4, ii 0), (0, .ref (ad 131)), (1, ii x0), (2, ii x1)]) rfl rfl rfl ?_
                  refine z_goto (tgt := 53) F dX12_goesSeen_167 (by decide +kernel) ?_
                  refine z_loc [3, 4, 5, 0] (ls' := [(0, .ref (ad 131)), (1, ii x0), (2, ii x1), (3, ii v59)]) rfl ?_
                  exact ih53 v59 M50 hI hW hF (by omega) (by omega) (by omega)
                · refine z_aload_n F dX12_goesSeen_153 rfl (q := 2) rfl ?_
                  refine rf_X12_9 F gs_131 rfl dX12_goesSeen_154 ?_
                  refine z_bipush F dX12_goesSeen_157 (by decide +kernel) ?_
                  refine z_iload_n F dX12_goesSeen_159 rfl (q := 5) rfl ?_
                  refine z_iadd F dX12_goesSeen_160 ?_
                  refine z_iload F dX12_goesSeen_161 (q := 1) rfl ?_
                  refine z_iast F hI gs_132 (by omega) (by omega) (by decide) (bd_132.trans (kn_any (by omega) (by omega))) dX12_goesSeen_163 (by omega) (by omega) (fun M61 hI sf60 f60 => ?_)
                  have hF := hF.wrk f60 (by decide) (by omega)
                  have hW : WFk M61 := hW.known f60 (by omega)
                  refine z_iincN F dX12_goesSeen_164 (q := 5) rfl (by decide) (fun v62 ev62 => ?_)
                  refine z_eq (ls' := [(3, ii v62), (5, ll v20), (4, ii 0), (0, .ref (ad 131)), (1, ii x0), (2, ii x1)]) rfl rfl rfl ?_
                  refine z_goto (tgt := 53) F dX12_goesSeen_167 (by decide +kernel) ?_
                  refine z_loc [3, 4, 5, 0] (ls' := [(0, .ref (ad 131)), (1, ii x0), (2, ii x1), (3, ii v62)]) rfl ?_
                  exact ih53 v62 M61 hI hW hF (by omega) (by omega) (by omega)
          · refine z_aload_n F dX12_goesSeen_92 rfl (q := 1) rfl ?_
            refine z_iload_n F dX12_goesSeen_93 rfl (q := 4) rfl ?_
            refine zv_v (rest := []) F (k_X12_flip l M4 ⟨hI, hW⟩ y5 (by omega) (by omega)) cs_X12_460 (T := TX12) (N := 44) (ci := 12) rfl gs_131 (by omega) (by decide) rfl rfl rfl (Nat.le_of_ble_eq_true rfl) dX12_goesSeen_94 (fun M63 hI p64 => ?_)
            obtain ⟨hI, hW⟩ := hI
            have fp64 := p64
            have hF := hF.call fp64 (by decide)
            refine z_aload_n F dX12_goesSeen_97 rfl (q := 1) rfl ?_
            refine rf_X12_57 F gs_131 rfl dX12_goesSeen_98 ?_
            refine z_iload_n F dX12_goesSeen_101 rfl (q := 3) rfl ?_
            refine z_iload_n F dX12_goesSeen_102 rfl (q := 4) rfl ?_
            refine z_iast F hI gs_146 (by omega) (by omega) (by decide) bd_146 dX12_goesSeen_103 (by omega) (by omega) (fun M66 hI sf65 f65 => ?_)
            have hF := hF.wr f65 (by decide) (by decide)
            have hW : WFk M66 := hW.site f65 (by decide)
            refine z_aload_n F dX12_goesSeen_104 rfl (q := 1) rfl ?_
            refine rf_X12_69 F gs_131 rfl dX12_goesSeen_105 ?_
            refine z_bipush F dX12_goesSeen_108 (by decide +kernel) ?_
            refine z_iload_n F dX12_goesSeen_110 rfl (q := 2) rfl ?_
            refine z_imul F dX12_goesSeen_111 ?_
            refine z_iload_n F dX12_goesSeen_112 rfl (q := 3) rfl ?_
            refine z_iadd F dX12_goesSeen_113 ?_
            refine z_lald F hI gs_150 (by omega) (by omega) (by decide) bd_150 dX12_goesSeen_114 (fun v67 (ev67 : v67 = M66 150 _) av67 bv67 => ?_)
            refine z_lstore F dX12_goesSeen_115 (by decide) (ls' := [(5, ll v67), (4, ii 0), (0, .ref (ad 131)), (1, ii x0), (2, ii x1), (3, ii y5)]) rfl ?_
            refine z_lload F dX12_goesSeen_117 (q := 0) rfl ?_
            refine z_ldc2 (x := (-1)) F dX12_goesSeen_119 (gin lm_158 rfl) (by decide +kernel) ?_
            refine z_lcmp F dX12_goesSeen_122 (by omega) (by omega) (fun v68 ev68 => ?_)
            refine z_if_eq (tgt := 137) F dX12_goesSeen_123 (by decide +kernel) (by omega) (fun c69 => ?_) (fun c69 => ?_)
            · refine z_aload_n F dX12_goesSeen_137 rfl (q := 2) rfl ?_
              refine z_iload_n F dX12_goesSeen_138 rfl (q := 3) rfl ?_
              refine z_iload_n F dX12_goesSeen_139 rfl (q := 4) rfl ?_
              refine z_iconst F dX12_goesSeen_140 ?_
              refine z_iadd F dX12_goesSeen_141 ?_
              refine zv_v (rest := []) F (ih M66 ⟨hI, hW⟩ x0 (by omega) (by omega) (x1 + 1) (by omega) (by omega) (by have := hF.at (a := 149) (b := x0.toNat) (by decide); omega) (by have := hF.at (a := 149) (b := x0.toNat) (by decide); omega) (by omega)) cs_X12_524 (T := TX12) (N := 44) (ci := 12) rfl gs_131 (by omega) (by decide) rfl rfl rfl (Nat.le_of_ble_eq_true rfl) dX12_goesSeen_142 (fun M70 hI p71 => ?_)
              obtain ⟨hI, hW⟩ := hI
              have fp71 := p71
              have hF := hF.call fp71 (by decide)
              refine z_iload_n F dX12_goesSeen_145 rfl (q := 5) rfl ?_
              refine z_aload_n F dX12_goesSeen_146 rfl (q := 2) rfl ?_
              refine zv_i (rest := [ii y5]) F (k_X12_things l M70 ⟨hI, hW⟩) cs_X12_275 (T := TX12) (N := 44) (ci := 12) rfl gs_131 (by omega) (by decide) rfl rfl rfl (Nat.le_of_ble_eq_true rfl) dX12_goesSeen_147 (fun v72 M73 rv72 hI p74 => ?_)
              obtain ⟨hI, hW⟩ := hI
              obtain ⟨⟨av72, bv72⟩, rfl, xp74⟩ := p74
              have q75 : v6 = M63 132 2 := xp8.trans ((fp64.st (by decide) (by unfold stat; omega)) : M63 132 2 = _).symm
              have q76 : v6 = M66 132 2 := q75.trans (f65 132 2 (fun q => absurd q.1 (by decide))).symm
              have q77 : v6 = M70 132 2 := q76.trans ((fp71.st (by decide) (by unfold stat; omega)) : M70 132 2 = _).symm
              have zv72 : v6 = v72 := q77.trans xp74.symm
              subst zv72
              refine z_icmp_ge (tgt := 164) F dX12_goesSeen_150 (by decide +kernel) (by omega) (by omega) (fun c78 => ?_) (fun c78 => ?_)
              · refine z_iincN F dX12_goesSeen_164 (q := 5) rfl (by decide) (fun v79 ev79 => ?_)
                refine z_eq (ls' := [(3, ii v79), (5, ll v67), (4, ii 0), (0, .ref (ad 131)), (1, ii x0), (2, ii x1)]) rfl rfl rfl ?_
                refine z_goto (tgt := 53) F dX12_goesSeen_167 (by decide +kernel) ?_
                refine z_loc [3, 4, 5, 0] (ls' := [(0, .ref (ad 131)), (1, ii x0), (2, ii x1), (3, ii v79)]) rfl ?_
                exact ih53 v79 M70 hI hW hF (by omega) (by omega) (by omega)
              · refine z_aload_n F dX12_goesSeen_153 rfl (q := 2) rfl ?_
                refine rf_X12_9 F gs_131 rfl dX12_goesSeen_154 ?_
                refine z_bipush F dX12_goesSeen_157 (by decide +kernel) ?_
                refine z_iload_n F dX12_goesSeen_159 rfl (q := 5) rfl ?_
                refine z_iadd F dX12_goesSeen_160 ?_
                refine z_iload F dX12_goesSeen_161 (q := 1) rfl ?_
                refine z_iast F hI gs_132 (by omega) (by omega) (by decide) (bd_132.trans (kn_any (by omega) (by omega))) dX12_goesSeen_163 (by omega) (by omega) (fun M81 hI sf80 f80 => ?_)
                have hF := hF.wrk f80 (by decide) (by omega)
                have hW : WFk M81 := hW.known f80 (by omega)
                refine z_iincN F dX12_goesSeen_164 (q := 5) rfl (by decide) (fun v82 ev82 => ?_)
                refine z_eq (ls' := [(3, ii v82), (5, ll v67), (4, ii 0), (0, .ref (ad 131)), (1, ii x0), (2, ii x1)]) rfl rfl rfl ?_
                refine z_goto (tgt := 53) F dX12_goesSeen_167 (by decide +kernel) ?_
                refine z_loc [3, 4, 5, 0] (ls' := [(0, .ref (ad 131)), (1, ii x0), (2, ii x1), (3, ii v82)]) rfl ?_
                exact ih53 v82 M81 hI hW hF (by omega) (by omega) (by omega)
            · refine z_lload F dX12_goesSeen_126 (q := 0) rfl ?_
              refine z_aload_n F dX12_goesSeen_128 rfl (q := 2) rfl ?_
              refine zv_i (rest := [ll v67]) F (k_X12_allClashes l M66 ⟨hI, hW⟩) cs_X12_352 (T := TX12) (N := 44) (ci := 12) rfl gs_131 (by omega) (by decide) rfl rfl rfl (Nat.le_of_ble_eq_true rfl) dX12_goesSeen_129 (fun v83 M84 rv83 hI p85 => ?_)
              obtain ⟨hI, hW⟩ := hI
              obtain ⟨⟨av83, bv83⟩, fp85⟩ := p85
              have hF := hF.call fp85 (by decide)
              refine z_i2l F dX12_goesSeen_132 (by omega) ?_
              refine z_lcmp F dX12_goesSeen_133 (by omega) (by omega) (fun v86 ev86 => ?_)
              refine z_if_ne (tgt := 145) F dX12_goesSeen_134 (by decide +kernel) (by omega) (fun c87 => ?_) (fun c87 => ?_)
              · refine z_iload_n F dX12_goesSeen_145 rfl (q := 5) rfl ?_
                refine z_aload_n F dX12_goesSeen_146 rfl (q := 2) rfl ?_
                refine zv_i (rest := [ii y5]) F (k_X12_things l M84 ⟨hI, hW⟩) cs_X12_275 (T := TX12) (N := 44) (ci := 12) rfl gs_131 (by omega) (by decide) rfl rfl rfl (Nat.le_of_ble_eq_true rfl) dX12_goesSeen_147 (fun v88 M89 rv88 hI p90 => ?_)
                obtain ⟨hI, hW⟩ := hI
                obtain ⟨⟨av88, bv88⟩, rfl, xp90⟩ := p90
                have q91 : v6 = M63 132 2 := xp8.trans ((fp64.st (by decide) (by unfold stat; omega)) : M63 132 2 = _).symm
                have q92 : v6 = M66 132 2 := q91.trans (f65 132 2 (fun q => absurd q.1 (by decide))).symm
                have q93 : v6 = M84 132 2 := q92.trans ((fp85.at (by decide)) : M84 132 2 = _).symm
                have zv88 : v6 = v88 := q93.trans xp90.symm
                subst zv88
                refine z_icmp_ge (tgt := 164) F dX12_goesSeen_150 (by decide +kernel) (by omega) (by omega) (fun c94 => ?_) (fun c94 => ?_)
                · refine z_iincN F dX12_goesSeen_164 (q := 5) rfl (by decide) (fun v95 ev95 => ?_)
                  refine z_eq (ls' := [(3, ii v95), (5, ll v67), (4, ii 0), (0, .ref (ad 131)), (1, ii x0), (2, ii x1)]) rfl rfl rfl ?_
                  refine z_goto (tgt := 53) F dX12_goesSeen_167 (by decide +kernel) ?_
                  refine z_loc [3, 4, 5, 0] (ls' := [(0, .ref (ad 131)), (1, ii x0), (2, ii x1), (3, ii v95)]) rfl ?_
                  exact ih53 v95 M84 hI hW hF (by omega) (by omega) (by omega)
                · refine z_aload_n F dX12_goesSeen_153 rfl (q := 2) rfl ?_
                  refine rf_X12_9 F gs_131 rfl dX12_goesSeen_154 ?_
                  refine z_bipush F dX12_goesSeen_157 (by decide +kernel) ?_
                  refine z_iload_n F dX12_goesSeen_159 rfl (q := 5) rfl ?_
                  refine z_iadd F dX12_goesSeen_160 ?_
                  refine z_iload F dX12_goesSeen_161 (q := 1) rfl ?_
                  refine z_iast F hI gs_132 (by omega) (by omega) (by decide) (bd_132.trans (kn_any (by omega) (by omega))) dX12_goesSeen_163 (by omega) (by omega) (fun M97 hI sf96 f96 => ?_)
                  have hF := hF.wrk f96 (by decide) (by omega)
                  have hW : WFk M97 := hW.known f96 (by omega)
                  refine z_iincN F dX12_goesSeen_164 (q := 5) rfl (by decide) (fun v98 ev98 => ?_)
                  refine z_eq (ls' := [(3, ii v98), (5, ll v67), (4, ii 0), (0, .ref (ad 131)), (1, ii x0), (2, ii x1)]) rfl rfl rfl ?_
                  refine z_goto (tgt := 53) F dX12_goesSeen_167 (by decide +kernel) ?_
                  refine z_loc [3, 4, 5, 0] (ls' := [(0, .ref (ad 131)), (1, ii x0), (2, ii x1), (3, ii v98)]) rfl ?_
                  exact ih53 v98 M97 hI hW hF (by omega) (by omega) (by omega)
              · refine z_aload_n F dX12_goesSeen_137 rfl (q := 2) rfl ?_
                refine z_iload_n F dX12_goesSeen_138 rfl (q := 3) rfl ?_
                refine z_iload_n F dX12_goesSeen_139 rfl (q := 4) rfl ?_
                refine z_iconst F dX12_goesSeen_140 ?_
                refine z_iadd F dX12_goesSeen_141 ?_
                refine zv_v (rest := []) F (ih M84 ⟨hI, hW⟩ x0 (by omega) (by omega) (x1 + 1) (by omega) (by omega) (by have := hF.at (a := 149) (b := x0.toNat) (by decide); omega) (by have := hF.at (a := 149) (b := x0.toNat) (by decide); omega) (by omega)) cs_X12_524 (T := TX12) (N := 44) (ci := 12) rfl gs_131 (by omega) (by decide) rfl rfl rfl (Nat.le_of_ble_eq_true rfl) dX12_goesSeen_142 (fun M99 hI p100 => ?_)
                obtain ⟨hI, hW⟩ := hI
                have fp100 := p100
                have hF := hF.call fp100 (by decide)
                refine z_iload_n F dX12_goesSeen_145 rfl (q := 5) rfl ?_
                refine z_aload_n F dX12_goesSeen_146 rfl (q := 2) rfl ?_
                refine zv_i (rest := [ii y5]) F (k_X12_things l M99 ⟨hI, hW⟩) cs_X12_275 (T := TX12) (N := 44) (ci := 12) rfl gs_131 (by omega) (by decide) rfl rfl rfl (Nat.le_of_ble_eq_true rfl) dX12_goesSeen_147 (fun v101 M102 rv101 hI p103 => ?_)
                obtain ⟨hI, hW⟩ := hI
                obtain ⟨⟨av101, bv101⟩, rfl, xp103⟩ := p103
                have q104 : v6 = M63 132 2 := xp8.trans ((fp64.st (by decide) (by unfold stat; omega)) : M63 132 2 = _).symm
                have q105 : v6 = M66 132 2 := q104.trans (f65 132 2 (fun q => absurd q.1 (by decide))).symm
                have q106 : v6 = M84 132 2 := q105.trans ((fp85.at (by decide)) : M84 132 2 = _).symm
                have q107 : v6 = M99 132 2 := q106.trans ((fp100.st (by decide) (by unfold stat; omega)) : M99 132 2 = _).symm
                have zv101 : v6 = v101 := q107.trans xp103.symm
                subst zv101
                refine z_icmp_ge (tgt := 164) F dX12_goesSeen_150 (by decide +kernel) (by omega) (by omega) (fun c108 => ?_) (fun c108 => ?_)
                · refine z_iincN F dX12_goesSeen_164 (q := 5) rfl (by decide) (fun v109 ev109 => ?_)
                  refine z_eq (ls' := [(3, ii v109), (5, ll v67), (4, ii 0), (0, .ref (ad 131)), (1, ii x0), (2, ii x1)]) rfl rfl rfl ?_
                  refine z_goto (tgt := 53) F dX12_goesSeen_167 (by decide +kernel) ?_
                  refine z_loc [3, 4, 5, 0] (ls' := [(0, .ref (ad 131)), (1, ii x0), (2, ii x1), (3, ii v109)]) rfl ?_
                  exact ih53 v109 M99 hI hW hF (by omega) (by omega) (by omega)
                · refine z_aload_n F dX12_goesSeen_153 rfl (q := 2) rfl ?_
                  refine rf_X12_9 F gs_131 rfl dX12_goesSeen_154 ?_
                  refine z_bipush F dX12_goesSeen_157 (by decide +kernel) ?_
                  refine z_iload_n F dX12_goesSeen_159 rfl (q := 5) rfl ?_
                  refine z_iadd F dX12_goesSeen_160 ?_
                  refine z_iload F dX12_goesSeen_161 (q := 1) rfl ?_
                  refine z_iast F hI gs_132 (by omega) (by omega) (by decide) (bd_132.trans (kn_any (by omega) (by omega))) dX12_goesSeen_163 (by omega) (by omega) (fun M111 hI sf110 f110 => ?_)
                  have hF := hF.wrk f110 (by decide) (by omega)
                  have hW : WFk M111 := hW.known f110 (by omega)
                  refine z_iincN F dX12_goesSeen_164 (q := 5) rfl (by decide) (fun v112 ev112 => ?_)
                  refine z_eq (ls' := [(3, ii v112), (5, ll v67), (4, ii 0), (0, .ref (ad 131)), (1, ii x0), (2, ii x1)]) rfl rfl rfl ?_
                  refine z_goto (tgt := 53) F dX12_goesSeen_167 (by decide +kernel) ?_
                  refine z_loc [3, 4, 5, 0] (ls' := [(0, .ref (ad 131)), (1, ii x0), (2, ii x1), (3, ii v112)]) rfl ?_
                  exact ih53 v112 M111 hI hW hF (by omega) (by omega) (by omega)
        · refine z_aload_n F dX12_goesSeen_69 rfl (q := 0) rfl ?_
          refine rf_X12_9 F gs_131 rfl dX12_goesSeen_70 ?_
          refine z_bipush F dX12_goesSeen_73 (by decide +kernel) ?_
          refine z_iload_n F dX12_goesSeen_75 rfl (q := 3) rfl ?_
          refine z_iadd F dX12_goesSeen_76 ?_
          refine z_iald F hI gs_132 (by omega) (by omega) (by decide) (bd_132.trans (kn_any (by omega) (by omega))) dX12_goesSeen_77 (fun v113 (ev113 : v113 = M4 132 _) av113 bv113 => ?_)
          refine z_goto (tgt := 82) F dX12_goesSeen_78 (by decide +kernel) ?_
          refine z_istore F dX12_goesSeen_82 (by decide) (ls' := [(4, ii v113), (0, .ref (ad 131)), (1, ii x0), (2, ii x1), (3, ii y5)]) rfl ?_
          refine z_iload_n F dX12_goesSeen_84 rfl (q := 4) rfl ?_
          refine z_aload_n F dX12_goesSeen_85 rfl (q := 1) rfl ?_
          refine zv_i (rest := [ii y5]) F (k_X12_things l M4 ⟨hI, hW⟩) cs_X12_275 (T := TX12) (N := 44) (ci := 12) rfl gs_131 (by omega) (by decide) rfl rfl rfl (Nat.le_of_ble_eq_true rfl) dX12_goesSeen_86 (fun v114 M115 rv114 hI p116 => ?_)
          obtain ⟨hI, hW⟩ := hI
          obtain ⟨⟨av114, bv114⟩, rfl, xp116⟩ := p116
          have zv114 : v6 = v114 := xp8.trans xp116.symm
          subst zv114
          refine z_icmp_ge (tgt := 97) F dX12_goesSeen_89 (by decide +kernel) (by omega) (by omega) (fun c117 => ?_) (fun c117 => ?_)
          · refine z_aload_n F dX12_goesSeen_97 rfl (q := 1) rfl ?_
            refine rf_X12_57 F gs_131 rfl dX12_goesSeen_98 ?_
            refine z_iload_n F dX12_goesSeen_101 rfl (q := 3) rfl ?_
            refine z_iload_n F dX12_goesSeen_102 rfl (q := 4) rfl ?_
            refine z_iast F hI gs_146 (by omega) (by omega) (by decide) bd_146 dX12_goesSeen_103 (by omega) (by omega) (fun M119 hI sf118 f118 => ?_)
            have hF := hF.wr f118 (by decide) (by decide)
            have hW : WFk M119 := hW.site f118 (by decide)
            refine z_aload_n F dX12_goesSeen_104 rfl (q := 1) rfl ?_
            refine rf_X12_69 F gs_131 rfl dX12_goesSeen_105 ?_
            refine z_bipush F dX12_goesSeen_108 (by decide +kernel) ?_
            refine z_iload_n F dX12_goesSeen_110 rfl (q := 2) rfl ?_
            refine z_imul F dX12_goesSeen_111 ?_
            refine z_iload_n F dX12_goesSeen_112 rfl (q := 3) rfl ?_
            refine z_iadd F dX12_goesSeen_113 ?_
            refine z_lald F hI gs_150 (by omega) (by omega) (by decide) bd_150 dX12_goesSeen_114 (fun v120 (ev120 : v120 = M119 150 _) av120 bv120 => ?_)
            refine z_lstore F dX12_goesSeen_115 (by decide) (ls' := [(5, ll v120), (4, ii v113), (0, .ref (ad 131)), (1, ii x0), (2, ii x1), (3, ii y5)]) rfl ?_
            refine z_lload F dX12_goesSeen_117 (q := 0) rfl ?_
            refine z_ldc2 (x := (-1)) F dX12_goesSeen_119 (gin lm_158 rfl) (by decide +kernel) ?_
            refine z_lcmp F dX12_goesSeen_122 (by omega) (by omega) (fun v121 ev121 => ?_)
            refine z_if_eq (tgt := 137) F dX12_goesSeen_123 (by decide +kernel) (by omega) (fun c122 => ?_) (fun c122 => ?_)
            · refine z_aload_n F dX12_goesSeen_137 rfl (q := 2) rfl ?_
              refine z_iload_n F dX12_goesSeen_138 rfl (q := 3) rfl ?_
              refine z_iload_n F dX12_goesSeen_139 rfl (q := 4) rfl ?_
              refine z_iconst F dX12_goesSeen_140 ?_
              refine z_iadd F dX12_goesSeen_141 ?_
              refine zv_v (rest := []) F (ih M119 ⟨hI, hW⟩ x0 (by omega) (by omega) (x1 + 1) (by omega) (by omega) (by have := hF.at (a := 149) (b := x0.toNat) (by decide); omega) (by have := hF.at (a := 149) (b := x0.toNat) (by decide); omega) (by omega)) cs_X12_524 (T := TX12) (N := 44) (ci := 12) rfl gs_131 (by omega) (by decide) rfl rfl rfl (Nat.le_of_ble_eq_true rfl) dX12_goesSeen_142 (fun M123 hI p124 => ?_)
              obtain ⟨hI, hW⟩ := hI
              have fp124 := p124
              have hF := hF.call fp124 (by decide)
              refine z_iload_n F dX12_goesSeen_145 rfl (q := 5) rfl ?_
              refine z_aload_n F dX12_goesSeen_146 rfl (q := 2) rfl ?_
              refine zv_i (rest := [ii y5]) F (k_X12_things l M123 ⟨hI, hW⟩) cs_X12_275 (T := TX12) (N := 44) (ci := 12) rfl gs_131 (by omega) (by decide) rfl rfl rfl (Nat.le_of_ble_eq_true rfl) dX12_goesSeen_147 (fun v125 M126 rv125 hI p127 => ?_)
              obtain ⟨hI, hW⟩ := hI
              obtain ⟨⟨av125, bv125⟩, rfl, xp127⟩ := p127
              have q128 : v6 = M119 132 2 := xp8.trans (f118 132 2 (fun q => absurd q.1 (by decide))).symm
              have q129 : v6 = M123 132 2 := q128.trans ((fp124.st (by decide) (by unfold stat; omega)) : M123 132 2 = _).symm
              have zv125 : v6 = v125 := q129.trans xp127.symm
              subst zv125
              refine z_icmp_ge (tgt := 164) F dX12_goesSeen_150 (by decide +kernel) (by omega) (by omega) (fun c130 => ?_) (fun c130 => ?_)
              · refine z_iincN F dX12_goesSeen_164 (q := 5) rfl (by decide) (fun v131 ev131 => ?_)
                refine z_eq (ls' := [(3, ii v131), (5, ll v120), (4, ii v113), (0, .ref (ad 131)), (1, ii x0), (2, ii x1)]) rfl rfl rfl ?_
                refine z_goto (tgt := 53) F dX12_goesSeen_167 (by decide +kernel) ?_
                refine z_loc [3, 4, 5, 0] (ls' := [(0, .ref (ad 131)), (1, ii x0), (2, ii x1), (3, ii v131)]) rfl ?_
                exact ih53 v131 M123 hI hW hF (by omega) (by omega) (by omega)
              · refine z_aload_n F dX12_goesSeen_153 rfl (q := 2) rfl ?_
                refine rf_X12_9 F gs_131 rfl dX12_goesSeen_154 ?_
                refine z_bipush F dX12_goesSeen_157 (by decide +kernel) ?_
                refine z_iload_n F dX12_goesSeen_159 rfl (q := 5) rfl ?_
                refine z_iadd F dX12_goesSeen_160 ?_
                refine z_iload F dX12_goesSeen_161 (q := 1) rfl ?_
                refine z_iast F hI gs_132 (by omega) (by omega) (by decide) (bd_132.trans (kn_any (by omega) (by omega))) dX12_goesSeen_163 (by omega) (by omega) (fun M133 hI sf132 f132 => ?_)
                have hF := hF.wrk f132 (by decide) (by omega)
                have hW : WFk M133 := hW.known f132 (by omega)
                refine z_iincN F dX12_goesSeen_164 (q := 5) rfl (by decide) (fun v134 ev134 => ?_)
                refine z_eq (ls' := [(3, ii v134), (5, ll v120), (4, ii v113), (0, .ref (ad 131)), (1, ii x0), (2, ii x1)]) rfl rfl rfl ?_
                refine z_goto (tgt := 53) F dX12_goesSeen_167 (by decide +kernel) ?_
                refine z_loc [3, 4, 5, 0] (ls' := [(0, .ref (ad 131)), (1, ii x0), (2, ii x1), (3, ii v134)]) rfl ?_
                exact ih53 v134 M133 hI hW hF (by omega) (by omega) (by omega)
            · refine z_lload F dX12_goesSeen_126 (q := 0) rfl ?_
              refine z_aload_n F dX12_goesSeen_128 rfl (q := 2) rfl ?_
              refine zv_i (rest := [ll v120]) F (k_X12_allClashes l M119 ⟨hI, hW⟩) cs_X12_352 (T := TX12) (N := 44) (ci := 12) rfl gs_131 (by omega) (by decide) rfl rfl rfl (Nat.le_of_ble_eq_true rfl) dX12_goesSeen_129 (fun v135 M136 rv135 hI p137 => ?_)
              obtain ⟨hI, hW⟩ := hI
              obtain ⟨⟨av135, bv135⟩, fp137⟩ := p137
              have hF := hF.call fp137 (by decide)
              refine z_i2l F dX12_goesSeen_132 (by omega) ?_
              refine z_lcmp F dX12_goesSeen_133 (by omega) (by omega) (fun v138 ev138 => ?_)
              refine z_if_ne (tgt := 145) F dX12_goesSeen_134 (by decide +kernel) (by omega) (fun c139 => ?_) (fun c139 => ?_)
              · refine z_iload_n F dX12_goesSeen_145 rfl (q := 5) rfl ?_
                refine z_aload_n F dX12_goesSeen_146 rfl (q := 2) rfl ?_
                refine zv_i (rest := [ii y5]) F (k_X12_things l M136 ⟨hI, hW⟩) cs_X12_275 (T := TX12) (N := 44) (ci := 12) rfl gs_131 (by omega) (by decide) rfl rfl rfl (Nat.le_of_ble_eq_true rfl) dX12_goesSeen_147 (fun v140 M141 rv140 hI p142 => ?_)
                obtain ⟨hI, hW⟩ := hI
                obtain ⟨⟨av140, bv140⟩, rfl, xp142⟩ := p142
                have q143 : v6 = M119 132 2 := xp8.trans (f118 132 2 (fun q => absurd q.1 (by decide))).symm
                have q144 : v6 = M136 132 2 := q143.trans ((fp137.at (by decide)) : M136 132 2 = _).symm
                have zv140 : v6 = v140 := q144.trans xp142.symm
                subst zv140
                refine z_icmp_ge (tgt := 164) F dX12_goesSeen_150 (by decide +kernel) (by omega) (by omega) (fun c145 => ?_) (fun c145 => ?_)
                · refine z_iincN F dX12_goesSeen_164 (q := 5) rfl (by decide) (fun v146 ev146 => ?_)
                  refine z_eq (ls' := [(3, ii v146), (5, ll v120), (4, ii v113), (0, .ref (ad 131)), (1, ii x0), (2, ii x1)]) rfl rfl rfl ?_
                  refine z_goto (tgt := 53) F dX12_goesSeen_167 (by decide +kernel) ?_
                  refine z_loc [3, 4, 5, 0] (ls' := [(0, .ref (ad 131)), (1, ii x0), (2, ii x1), (3, ii v146)]) rfl ?_
                  exact ih53 v146 M136 hI hW hF (by omega) (by omega) (by omega)
                · refine z_aload_n F dX12_goesSeen_153 rfl (q := 2) rfl ?_
                  refine rf_X12_9 F gs_131 rfl dX12_goesSeen_154 ?_
                  refine z_bipush F dX12_goesSeen_157 (by decide +kernel) ?_
                  refine z_iload_n F dX12_goesSeen_159 rfl (q := 5) rfl ?_
                  refine z_iadd F dX12_goesSeen_160 ?_
                  refine z_iload F dX12_goesSeen_161 (q := 1) rfl ?_
                  refine z_iast F hI gs_132 (by omega) (by omega) (by decide) (bd_132.trans (kn_any (by omega) (by omega))) dX12_goesSeen_163 (by omega) (by omega) (fun M148 hI sf147 f147 => ?_)
                  have hF := hF.wrk f147 (by decide) (by omega)
                  have hW : WFk M148 := hW.known f147 (by omega)
                  refine z_iincN F dX12_goesSeen_164 (q := 5) rfl (by decide) (fun v149 ev149 => ?_)
                  refine z_eq (ls' := [(3, ii v149), (5, ll v120), (4, ii v113), (0, .ref (ad 131)), (1, ii x0), (2, ii x1)]) rfl rfl rfl ?_
                  refine z_goto (tgt := 53) F dX12_goesSeen_167 (by decide +kernel) ?_
                  refine z_loc [3, 4, 5, 0] (ls' := [(0, .ref (ad 131)), (1, ii x0), (2, ii x1), (3, ii v149)]) rfl ?_
                  exact ih53 v149 M148 hI hW hF (by omega) (by omega) (by omega)
              · refine z_aload_n F dX12_goesSeen_137 rfl (q := 2) rfl ?_
                refine z_iload_n F dX12_goesSeen_138 rfl (q := 3) rfl ?_
                refine z_iload_n F dX12_goesSeen_139 rfl (q := 4) rfl ?_
                refine z_iconst F dX12_goesSeen_140 ?_
                refine z_iadd F dX12_goesSeen_141 ?_
                refine zv_v (rest := []) F (ih M136 ⟨hI, hW⟩ x0 (by omega) (by omega) (x1 + 1) (by omega) (by omega) (by have := hF.at (a := 149) (b := x0.toNat) (by decide); omega) (by have := hF.at (a := 149) (b := x0.toNat) (by decide); omega) (by omega)) cs_X12_524 (T := TX12) (N := 44) (ci := 12) rfl gs_131 (by omega) (by decide) rfl rfl rfl (Nat.le_of_ble_eq_true rfl) dX12_goesSeen_142 (fun M150 hI p151 => ?_)
                obtain ⟨hI, hW⟩ := hI
                have fp151 := p151
                have hF := hF.call fp151 (by decide)
                refine z_iload_n F dX12_goesSeen_145 rfl (q := 5) rfl ?_
                refine z_aload_n F dX12_goesSeen_146 rfl (q := 2) rfl ?_
                refine zv_i (rest := [ii y5]) F (k_X12_things l M150 ⟨hI, hW⟩) cs_X12_275 (T := TX12) (N := 44) (ci := 12) rfl gs_131 (by omega) (by decide) rfl rfl rfl (Nat.le_of_ble_eq_true rfl) dX12_goesSeen_147 (fun v152 M153 rv152 hI p154 => ?_)
                obtain ⟨hI, hW⟩ := hI
                obtain ⟨⟨av152, bv152⟩, rfl, xp154⟩ := p154
                have q155 : v6 = M119 132 2 := xp8.trans (f118 132 2 (fun q => absurd q.1 (by decide))).symm
                have q156 : v6 = M136 132 2 := q155.trans ((fp137.at (by decide)) : M136 132 2 = _).symm
                have q157 : v6 = M150 132 2 := q156.trans ((fp151.st (by decide) (by unfold stat; omega)) : M150 132 2 = _).symm
                have zv152 : v6 = v152 := q157.trans xp154.symm
                subst zv152
                refine z_icmp_ge (tgt := 164) F dX12_goesSeen_150 (by decide +kernel) (by omega) (by omega) (fun c158 => ?_) (fun c158 => ?_)
                · refine z_iincN F dX12_goesSeen_164 (q := 5) rfl (by decide) (fun v159 ev159 => ?_)
                  refine z_eq (ls' := [(3, ii v159), (5, ll v120), (4, ii v113), (0, .ref (ad 131)), (1, ii x0), (2, ii x1)]) rfl rfl rfl ?_
                  refine z_goto (tgt := 53) F dX12_goesSeen_167 (by decide +kernel) ?_
                  refine z_loc [3, 4, 5, 0] (ls' := [(0, .ref (ad 131)), (1, ii x0), (2, ii x1), (3, ii v159)]) rfl ?_
                  exact ih53 v159 M150 hI hW hF (by omega) (by omega) (by omega)
                · refine z_aload_n F dX12_goesSeen_153 rfl (q := 2) rfl ?_
                  refine rf_X12_9 F gs_131 rfl dX12_goesSeen_154 ?_
                  refine z_bipush F dX12_goesSeen_157 (by decide +kernel) ?_
                  refine z_iload_n F dX12_goesSeen_159 rfl (q := 5) rfl ?_
                  refine z_iadd F dX12_goesSeen_160 ?_
                  refine z_iload F dX12_goesSeen_161 (q := 1) rfl ?_
                  refine z_iast F hI gs_132 (by omega) (by omega) (by decide) (bd_132.trans (kn_any (by omega) (by omega))) dX12_goesSeen_163 (by omega) (by omega) (fun M161 hI sf160 f160 => ?_)
                  have hF := hF.wrk f160 (by decide) (by omega)
                  have hW : WFk M161 := hW.known f160 (by omega)
                  refine z_iincN F dX12_goesSeen_164 (q := 5) rfl (by decide) (fun v162 ev162 => ?_)
                  refine z_eq (ls' := [(3, ii v162), (5, ll v120), (4, ii v113), (0, .ref (ad 131)), (1, ii x0), (2, ii x1)]) rfl rfl rfl ?_
                  refine z_goto (tgt := 53) F dX12_goesSeen_167 (by decide +kernel) ?_
                  refine z_loc [3, 4, 5, 0] (ls' := [(0, .ref (ad 131)), (1, ii x0), (2, ii x1), (3, ii v162)]) rfl ?_
                  exact ih53 v162 M161 hI hW hF (by omega) (by omega) (by omega)
          · refine z_aload_n F dX12_goesSeen_92 rfl (q := 1) rfl ?_
            refine z_iload_n F dX12_goesSeen_93 rfl (q := 4) rfl ?_
            refine zv_v (rest := []) F (k_X12_flip l M4 ⟨hI, hW⟩ y5 (by omega) (by omega)) cs_X12_460 (T := TX12) (N := 44) (ci := 12) rfl gs_131 (by omega) (by decide) rfl rfl rfl (Nat.le_of_ble_eq_true rfl) dX12_goesSeen_94 (fun M163 hI p164 => ?_)
            obtain ⟨hI, hW⟩ := hI
            have fp164 := p164
            have hF := hF.call fp164 (by decide)
            refine z_aload_n F dX12_goesSeen_97 rfl (q := 1) rfl ?_
            refine rf_X12_57 F gs_131 rfl dX12_goesSeen_98 ?_
            refine z_iload_n F dX12_goesSeen_101 rfl (q := 3) rfl ?_
            refine z_iload_n F dX12_goesSeen_102 rfl (q := 4) rfl ?_
            refine z_iast F hI gs_146 (by omega) (by omega) (by decide) bd_146 dX12_goesSeen_103 (by omega) (by omega) (fun M166 hI sf165 f165 => ?_)
            have hF := hF.wr f165 (by decide) (by decide)
            have hW : WFk M166 := hW.site f165 (by decide)
            refine z_aload_n F dX12_goesSeen_104 rfl (q := 1) rfl ?_
            refine rf_X12_69 F gs_131 rfl dX12_goesSeen_105 ?_
            refine z_bipush F dX12_goesSeen_108 (by decide +kernel) ?_
            refine z_iload_n F dX12_goesSeen_110 rfl (q := 2) rfl ?_
            refine z_imul F dX12_goesSeen_111 ?_
            refine z_iload_n F dX12_goesSeen_112 rfl (q := 3) rfl ?_
            refine z_iadd F dX12_goesSeen_113 ?_
            refine z_lald F hI gs_150 (by omega) (by omega) (by decide) bd_150 dX12_goesSeen_114 (fun v167 (ev167 : v167 = M166 150 _) av167 bv167 => ?_)
            refine z_lstore F dX12_goesSeen_115 (by decide) (ls' := [(5, ll v167), (4, ii v113), (0, .ref (ad 131)), (1, ii x0), (2, ii x1), (3, ii y5)]) rfl ?_
            refine z_lload F dX12_goesSeen_117 (q := 0) rfl ?_
            refine z_ldc2 (x := (-1)) F dX12_goesSeen_119 (gin lm_158 rfl) (by decide +kernel) ?_
            refine z_lcmp F dX12_goesSeen_122 (by omega) (by omega) (fun v168 ev168 => ?_)
            refine z_if_eq (tgt := 137) F dX12_goesSeen_123 (by decide +kernel) (by omega) (fun c169 => ?_) (fun c169 => ?_)
            · refine z_aload_n F dX12_goesSeen_137 rfl (q := 2) rfl ?_
              refine z_iload_n F dX12_goesSeen_138 rfl (q := 3) rfl ?_
              refine z_iload_n F dX12_goesSeen_139 rfl (q := 4) rfl ?_
              refine z_iconst F dX12_goesSeen_140 ?_
              refine z_iadd F dX12_goesSeen_141 ?_
              refine zv_v (rest := []) F (ih M166 ⟨hI, hW⟩ x0 (by omega) (by omega) (x1 + 1) (by omega) (by omega) (by have := hF.at (a := 149) (b := x0.toNat) (by decide); omega) (by have := hF.at (a := 149) (b := x0.toNat) (by decide); omega) (by omega)) cs_X12_524 (T := TX12) (N := 44) (ci := 12) rfl gs_131 (by omega) (by decide) rfl rfl rfl (Nat.le_of_ble_eq_true rfl) dX12_goesSeen_142 (fun M170 hI p171 => ?_)
              obtain ⟨hI, hW⟩ := hI
              have fp171 := p171
              have hF := hF.call fp171 (by decide)
              refine z_iload_n F dX12_goesSeen_145 rfl (q := 5) rfl ?_
              refine z_aload_n F dX12_goesSeen_146 rfl (q := 2) rfl ?_
              refine zv_i (rest := [ii y5]) F (k_X12_things l M170 ⟨hI, hW⟩) cs_X12_275 (T := TX12) (N := 44) (ci := 12) rfl gs_131 (by omega) (by decide) rfl rfl rfl (Nat.le_of_ble_eq_true rfl) dX12_goesSeen_147 (fun v172 M173 rv172 hI p174 => ?_)
              obtain ⟨hI, hW⟩ := hI
              obtain ⟨⟨av172, bv172⟩, rfl, xp174⟩ := p174
              have q175 : v6 = M163 132 2 := xp8.trans ((fp164.st (by decide) (by unfold stat; omega)) : M163 132 2 = _).symm
              have q176 : v6 = M166 132 2 := q175.trans (f165 132 2 (fun q => absurd q.1 (by decide))).symm
              have q177 : v6 = M170 132 2 := q176.trans ((fp171.st (by decide) (by unfold stat; omega)) : M170 132 2 = _).symm
              have zv172 : v6 = v172 := q177.trans xp174.symm
              subst zv172
              refine z_icmp_ge (tgt := 164) F dX12_goesSeen_150 (by decide +kernel) (by omega) (by omega) (fun c178 => ?_) (fun c178 => ?_)
              · refine z_iincN F dX12_goesSeen_164 (q := 5) rfl (by decide) (fun v179 ev179 => ?_)
                refine z_eq (ls' := [(3, ii v179), (5, ll v167), (4, ii v113), (0, .ref (ad 131)), (1, ii x0), (2, ii x1)]) rfl rfl rfl ?_
                refine z_goto (tgt := 53) F dX12_goesSeen_167 (by decide +kernel) ?_
                refine z_loc [3, 4, 5, 0] (ls' := [(0, .ref (ad 131)), (1, ii x0), (2, ii x1), (3, ii v179)]) rfl ?_
                exact ih53 v179 M170 hI hW hF (by omega) (by omega) (by omega)
              · refine z_aload_n F dX12_goesSeen_153 rfl (q := 2) rfl ?_
                refine rf_X12_9 F gs_131 rfl dX12_goesSeen_154 ?_
                refine z_bipush F dX12_goesSeen_157 (by decide +kernel) ?_
                refine z_iload_n F dX12_goesSeen_159 rfl (q := 5) rfl ?_
                refine z_iadd F dX12_goesSeen_160 ?_
                refine z_iload F dX12_goesSeen_161 (q := 1) rfl ?_
                refine z_iast F hI gs_132 (by omega) (by omega) (by decide) (bd_132.trans (kn_any (by omega) (by omega))) dX12_goesSeen_163 (by omega) (by omega) (fun M181 hI sf180 f180 => ?_)
                have hF := hF.wrk f180 (by decide) (by omega)
                have hW : WFk M181 := hW.known f180 (by omega)
                refine z_iincN F dX12_goesSeen_164 (q := 5) rfl (by decide) (fun v182 ev182 => ?_)
                refine z_eq (ls' := [(3, ii v182), (5, ll v167), (4, ii v113), (0, .ref (ad 131)), (1, ii x0), (2, ii x1)]) rfl rfl rfl ?_
                refine z_goto (tgt := 53) F dX12_goesSeen_167 (by decide +kernel) ?_
                refine z_loc [3, 4, 5, 0] (ls' := [(0, .ref (ad 131)), (1, ii x0), (2, ii x1), (3, ii v182)]) rfl ?_
                exact ih53 v182 M181 hI hW hF (by omega) (by omega) (by omega)
            · refine z_lload F dX12_goesSeen_126 (q := 0) rfl ?_
              refine z_aload_n F dX12_goesSeen_128 rfl (q := 2) rfl ?_
              refine zv_i (rest := [ll v167]) F (k_X12_allClashes l M166 ⟨hI, hW⟩) cs_X12_352 (T := TX12) (N := 44) (ci := 12) rfl gs_131 (by omega) (by decide) rfl rfl rfl (Nat.le_of_ble_eq_true rfl) dX12_goesSeen_129 (fun v183 M184 rv183 hI p185 => ?_)
              obtain ⟨hI, hW⟩ := hI
              obtain ⟨⟨av183, bv183⟩, fp185⟩ := p185
              have hF := hF.call fp185 (by decide)
              refine z_i2l F dX12_goesSeen_132 (by omega) ?_
              refine z_lcmp F dX12_goesSeen_133 (by omega) (by omega) (fun v186 ev186 => ?_)
              refine z_if_ne (tgt := 145) F dX12_goesSeen_134 (by decide +kernel) (by omega) (fun c187 => ?_) (fun c187 => ?_)
              · refine z_iload_n F dX12_goesSeen_145 rfl (q := 5) rfl ?_
                refine z_aload_n F dX12_goesSeen_146 rfl (q := 2) rfl ?_
                refine zv_i (rest := [ii y5]) F (k_X12_things l M184 ⟨hI, hW⟩) cs_X12_275 (T := TX12) (N := 44) (ci := 12) rfl gs_131 (by omega) (by decide) rfl rfl rfl (Nat.le_of_ble_eq_true rfl) dX12_goesSeen_147 (fun v188 M189 rv188 hI p190 => ?_)
                obtain ⟨hI, hW⟩ := hI
                obtain ⟨⟨av188, bv188⟩, rfl, xp190⟩ := p190
                have q191 : v6 = M163 132 2 := xp8.trans ((fp164.st (by decide) (by unfold stat; omega)) : M163 132 2 = _).symm
                have q192 : v6 = M166 132 2 := q191.trans (f165 132 2 (fun q => absurd q.1 (by decide))).symm
                have q193 : v6 = M184 132 2 := q192.trans ((fp185.at (by decide)) : M184 132 2 = _).symm
                have zv188 : v6 = v188 := q193.trans xp190.symm
                subst zv188
                refine z_icmp_ge (tgt := 164) F dX12_goesSeen_150 (by decide +kernel) (by omega) (by omega) (fun c194 => ?_) (fun c194 => ?_)
                · refine z_iincN F dX12_goesSeen_164 (q := 5) rfl (by decide) (fun v195 ev195 => ?_)
                  refine z_eq (ls' := [(3, ii v195), (5, ll v167), (4, ii v113), (0, .ref (ad 131)), (1, ii x0), (2, ii x1)]) rfl rfl rfl ?_
                  refine z_goto (tgt := 53) F dX12_goesSeen_167 (by decide +kernel) ?_
                  refine z_loc [3, 4, 5, 0] (ls' := [(0, .ref (ad 131)), (1, ii x0), (2, ii x1), (3, ii v195)]) rfl ?_
                  exact ih53 v195 M184 hI hW hF (by omega) (by omega) (by omega)
                · refine z_aload_n F dX12_goesSeen_153 rfl (q := 2) rfl ?_
                  refine rf_X12_9 F gs_131 rfl dX12_goesSeen_154 ?_
                  refine z_bipush F dX12_goesSeen_157 (by decide +kernel) ?_
                  refine z_iload_n F dX12_goesSeen_159 rfl (q := 5) rfl ?_
                  refine z_iadd F dX12_goesSeen_160 ?_
                  refine z_iload F dX12_goesSeen_161 (q := 1) rfl ?_
                  refine z_iast F hI gs_132 (by omega) (by omega) (by decide) (bd_132.trans (kn_any (by omega) (by omega))) dX12_goesSeen_163 (by omega) (by omega) (fun M197 hI sf196 f196 => ?_)
                  have hF := hF.wrk f196 (by decide) (by omega)
                  have hW : WFk M197 := hW.known f196 (by omega)
                  refine z_iincN F dX12_goesSeen_164 (q := 5) rfl (by decide) (fun v198 ev198 => ?_)
                  refine z_eq (ls' := [(3, ii v198), (5, ll v167), (4, ii v113), (0, .ref (ad 131)), (1, ii x0), (2, ii x1)]) rfl rfl rfl ?_
                  refine z_goto (tgt := 53) F dX12_goesSeen_167 (by decide +kernel) ?_
                  refine z_loc [3, 4, 5, 0] (ls' := [(0, .ref (ad 131)), (1, ii x0), (2, ii x1), (3, ii v198)]) rfl ?_
                  exact ih53 v198 M197 hI hW hF (by omega) (by omega) (by omega)
              · refine z_aload_n F dX12_goesSeen_137 rfl (q := 2) rfl ?_
                refine z_iload_n F dX12_goesSeen_138 rfl (q := 3) rfl ?_
                refine z_iload_n F dX12_goesSeen_139 rfl (q := 4) rfl ?_
                refine z_iconst F dX12_goesSeen_140 ?_
                refine z_iadd F dX12_goesSeen_141 ?_
                refine zv_v (rest := []) F (ih M184 ⟨hI, hW⟩ x0 (by omega) (by omega) (x1 + 1) (by omega) (by omega) (by have := hF.at (a := 149) (b := x0.toNat) (by decide); omega) (by have := hF.at (a := 149) (b := x0.toNat) (by decide); omega) (by omega)) cs_X12_524 (T := TX12) (N := 44) (ci := 12) rfl gs_131 (by omega) (by decide) rfl rfl rfl (Nat.le_of_ble_eq_true rfl) dX12_goesSeen_142 (fun M199 hI p200 => ?_)
                obtain ⟨hI, hW⟩ := hI
                have fp200 := p200
                have hF := hF.call fp200 (by decide)
                refine z_iload_n F dX12_goesSeen_145 rfl (q := 5) rfl ?_
                refine z_aload_n F dX12_goesSeen_146 rfl (q := 2) rfl ?_
                refine zv_i (rest := [ii y5]) F (k_X12_things l M199 ⟨hI, hW⟩) cs_X12_275 (T := TX12) (N := 44) (ci := 12) rfl gs_131 (by omega) (by decide) rfl rfl rfl (Nat.le_of_ble_eq_true rfl) dX12_goesSeen_147 (fun v201 M202 rv201 hI p203 => ?_)
                obtain ⟨hI, hW⟩ := hI
                obtain ⟨⟨av201, bv201⟩, rfl, xp203⟩ := p203
                have q204 : v6 = M163 132 2 := xp8.trans ((fp164.st (by decide) (by unfold stat; omega)) : M163 132 2 = _).symm
                have q205 : v6 = M166 132 2 := q204.trans (f165 132 2 (fun q => absurd q.1 (by decide))).symm
                have q206 : v6 = M184 132 2 := q205.trans ((fp185.at (by decide)) : M184 132 2 = _).symm
                have q207 : v6 = M199 132 2 := q206.trans ((fp200.st (by decide) (by unfold stat; omega)) : M199 132 2 = _).symm
                have zv201 : v6 = v201 := q207.trans xp203.symm
                subst zv201
                refine z_icmp_ge (tgt := 164) F dX12_goesSeen_150 (by decide +kernel) (by omega) (by omega) (fun c208 => ?_) (fun c208 => ?_)
                · refine z_iincN F dX12_goesSeen_164 (q := 5) rfl (by decide) (fun v209 ev209 => ?_)
                  refine z_eq (ls' := [(3, ii v209), (5, ll v167), (4, ii v113), (0, .ref (ad 131)), (1, ii x0), (2, ii x1)]) rfl rfl rfl ?_
                  refine z_goto (tgt := 53) F dX12_goesSeen_167 (by decide +kernel) ?_
                  refine z_loc [3, 4, 5, 0] (ls' := [(0, .ref (ad 131)), (1, ii x0), (2, ii x1), (3, ii v209)]) rfl ?_
                  exact ih53 v209 M199 hI hW hF (by omega) (by omega) (by omega)
                · refine z_aload_n F dX12_goesSeen_153 rfl (q := 2) rfl ?_
                  refine rf_X12_9 F gs_131 rfl dX12_goesSeen_154 ?_
                  refine z_bipush F dX12_goesSeen_157 (by decide +kernel) ?_
                  refine z_iload_n F dX12_goesSeen_159 rfl (q := 5) rfl ?_
                  refine z_iadd F dX12_goesSeen_160 ?_
                  refine z_iload F dX12_goesSeen_161 (q := 1) rfl ?_
                  refine z_iast F hI gs_132 (by omega) (by omega) (by decide) (bd_132.trans (kn_any (by omega) (by omega))) dX12_goesSeen_163 (by omega) (by omega) (fun M211 hI sf210 f210 => ?_)
                  have hF := hF.wrk f210 (by decide) (by omega)
                  have hW : WFk M211 := hW.known f210 (by omega)
                  refine z_iincN F dX12_goesSeen_164 (q := 5) rfl (by decide) (fun v212 ev212 => ?_)
                  refine z_eq (ls' := [(3, ii v212), (5, ll v167), (4, ii v113), (0, .ref (ad 131)), (1, ii x0), (2, ii x1)]) rfl rfl rfl ?_
                  refine z_goto (tgt := 53) F dX12_goesSeen_167 (by decide +kernel) ?_
                  refine z_loc [3, 4, 5, 0] (ls' := [(0, .ref (ad 131)), (1, ii x0), (2, ii x1), (3, ii v212)]) rfl ?_
                  exact ih53 v212 M211 hI hW hF (by omega) (by omega) (by omega)
  · refine z_iconst F dX12_goesSeen_10 ?_
    refine z_istore_n F dX12_goesSeen_11 rfl (by decide) (ls' := [(3, ii 0), (0, .ref (ad 131)), (1, ii x0), (2, ii x1)]) rfl ?_
    refine z_loc [1, 3, 0] (ls' := [(0, .ref (ad 131)), (2, ii x1), (3, ii 0)]) rfl ?_
    suffices key12 : ∀ (n : Nat) (y214 : Int) (M213 : Mem), Inv M213 → WFk M213 → Fr [131, 132, 137, 146, 147] M M213 → 0 ≤ y214 → y214 ≤ 4 → 4 - y214 < (n : Int) → Z D cy ad p l e (RMh (8 + (nr + 1))) s m args below meth c A 7 0 0 Q 12 [(0, .ref (ad 131)), (2, ii x1), (3, ii y214)] [] M213 from key12 5 0 M hI hW hF (by omega) (by omega) (by omega)
    intro n12
    induction n12 with
    | zero => intro y214 M213 hI hW hF ay214 by214 hn12; exfalso; omega
    | succ n12 ih12 =>
      intro y214 M213 hI hW hF ay214 by214 hn12
      refine z_iload_n F dX12_goesSeen_12 rfl (q := 2) rfl ?_
      refine z_iload_n F dX12_goesSeen_13 rfl (q := 1) rfl ?_
      refine z_icmp_ge (tgt := 40) F dX12_goesSeen_14 (by decide +kernel) (by omega) (by omega) (fun c215 => ?_) (fun c215 => ?_)
      · refine z_aload_n F dX12_goesSeen_40 rfl (q := 0) rfl ?_
        refine z_dup F dX12_goesSeen_41 rfl ?_
        refine gf_X12_521 F hI gs_131 rfl bd_131_40 dX12_goesSeen_42 (fun v216 ev216 av216 bv216 => ?_)
        refine z_iconst F dX12_goesSeen_45 ?_
        refine z_iadd F dX12_goesSeen_46 ?_
        refine z_wrap (fun v217 rv217 wv217 => ?_)
        refine pf_X12_521 F hI gs_131 rfl bd_131_40 rfl rfl dX12_goesSeen_47 (by omega) (by omega) (fun M219 hI sf218 f218 => ?_)
        have hF := hF.wrf f218 (by decide) (by decide)
        have hW : WFk M219 := hW.site f218 (by decide)
        exact hret _ 50 _ ⟨hI, hW⟩ hF dX12_goesSeen_50
      · refine z_aload_n F dX12_goesSeen_17 rfl (q := 0) rfl ?_
        refine rf_X12_60 F gs_131 rfl dX12_goesSeen_18 ?_
        refine z_iload_n F dX12_goesSeen_21 rfl (q := 2) rfl ?_
        refine z_dup2 F dX12_goesSeen_22 rfl rfl ?_
        refine z_iald F hI gs_147 (by omega) (by omega) (by decide) bd_147 dX12_goesSeen_23 (fun v220 (ev220 : v220 = M213 147 _) av220 bv220 => ?_)
        refine z_iconst F dX12_goesSeen_24 ?_
        refine z_aload_n F dX12_goesSeen_25 rfl (q := 0) rfl ?_
        refine rf_X12_57 F gs_131 rfl dX12_goesSeen_26 ?_
        refine z_iload_n F dX12_goesSeen_29 rfl (q := 2) rfl ?_
        refine z_iald F hI gs_146 (by omega) (by omega) (by decide) bd_146 dX12_goesSeen_30 (fun v221 (ev221 : v221 = M213 146 _) av221 bv221 => ?_)
        refine z_shl1 (k := 8) F dX12_goesSeen_31 (by decide) (by omega) (by omega) (fun v222 ev222 av222 bv222 => ?_)
        refine z_ior_k (k := 9) F dX12_goesSeen_32 (by decide) (by omega) (by omega) (by omega) (by omega) (fun v223 av223 bv223 => ?_)
        refine z_iast F hI gs_147 (by omega) (by omega) (by decide) bd_147 dX12_goesSeen_33 (by omega) (by omega) (fun M225 hI sf224 f224 => ?_)
        have hF := hF.wr f224 (by decide) (by decide)
        have hW : WFk M225 := hW.site f224 (by decide)
        refine z_iincN F dX12_goesSeen_34 (q := 2) rfl (by decide) (fun v226 ev226 => ?_)
        refine z_eq (ls' := [(3, ii v226), (0, .ref (ad 131)), (2, ii x1)]) rfl rfl rfl ?_
        refine z_goto (tgt := 12) F dX12_goesSeen_37 (by decide +kernel) ?_
        refine z_loc [1, 2, 0] (ls' := [(0, .ref (ad 131)), (2, ii x1), (3, ii v226)]) rfl ?_
        exact ih12 v226 M225 hI hW hF (by omega) (by omega) (by omega)
