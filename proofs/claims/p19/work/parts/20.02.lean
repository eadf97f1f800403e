theorem dX12_change_0 : decode cX12_change 0 = .ok (.aload_n 0, 1) := by decide +kernel
theorem dX12_change_1 : decode cX12_change 1 = .ok (.aload_n 0, 1) := by decide +kernel
theorem dX12_change_10 : decode cX12_change 10 = .ok (.iconst 1, 1) := by decide +kernel
theorem dX12_change_11 : decode cX12_change 11 = .ok (.goto 22, 3) := by decide +kernel
theorem dX12_change_14 : decode cX12_change 14 = .ok (.iload_n 2, 1) := by decide +kernel
theorem dX12_change_15 : decode cX12_change 15 = .ok (.i2l, 1) := by decide +kernel
theorem dX12_change_16 : decode cX12_change 16 = .ok (.ldc2_w 371, 3) := by decide +kernel
theorem dX12_change_19 : decode cX12_change 19 = .ok (.ldc2_w 373, 3) := by decide +kernel
theorem dX12_change_2 : decode cX12_change 2 = .ok (.iload_n 1, 1) := by decide +kernel
theorem dX12_change_22 : decode cX12_change 22 = .ok (.invokestatic 137, 3) := by decide +kernel
theorem dX12_change_25 : decode cX12_change 25 = .ok (.ifCond .eq 7, 3) := by decide +kernel
theorem dX12_change_28 : decode cX12_change 28 = .ok (.iconst 0, 1) := by decide +kernel
theorem dX12_change_29 : decode cX12_change 29 = .ok (.goto 4, 3) := by decide +kernel
theorem dX12_change_3 : decode cX12_change 3 = .ok (.i2l, 1) := by decide +kernel
theorem dX12_change_32 : decode cX12_change 32 = .ok (.iconst 2, 1) := by decide +kernel
theorem dX12_change_33 : decode cX12_change 33 = .ok (.putfield 73, 3) := by decide +kernel
theorem dX12_change_36 : decode cX12_change 36 = .ok (.aload_n 0, 1) := by decide +kernel
theorem dX12_change_37 : decode cX12_change 37 = .ok (.getfield 73, 3) := by decide +kernel
theorem dX12_change_4 : decode cX12_change 4 = .ok (.invokevirtual 335, 3) := by decide +kernel
theorem dX12_change_40 : decode cX12_change 40 = .ok (.ifCond .le 5, 3) := by decide +kernel
theorem dX12_change_43 : decode cX12_change 43 = .ok (.iconst 0, 1) := by decide +kernel
theorem dX12_change_44 : decode cX12_change 44 = .ok (.ireturn, 1) := by decide +kernel
theorem dX12_change_45 : decode cX12_change 45 = .ok (.aload_n 0, 1) := by decide +kernel
theorem dX12_change_46 : decode cX12_change 46 = .ok (.invokevirtual 375, 3) := by decide +kernel
theorem dX12_change_49 : decode cX12_change 49 = .ok (.aload_n 0, 1) := by decide +kernel
theorem dX12_change_50 : decode cX12_change 50 = .ok (.iload_n 1, 1) := by decide +kernel
theorem dX12_change_51 : decode cX12_change 51 = .ok (.iload_n 2, 1) := by decide +kernel
theorem dX12_change_52 : decode cX12_change 52 = .ok (.invokevirtual 367, 3) := by decide +kernel
theorem dX12_change_55 : decode cX12_change 55 = .ok (.aload_n 0, 1) := by decide +kernel
theorem dX12_change_56 : decode cX12_change 56 = .ok (.getfield 9, 3) := by decide +kernel
theorem dX12_change_59 : decode cX12_change 59 = .ok (.bipush 16, 2) := by decide +kernel
theorem dX12_change_61 : decode cX12_change 61 = .ok (.iload_n 1, 1) := by decide +kernel
theorem dX12_change_62 : decode cX12_change 62 = .ok (.iadd, 1) := by decide +kernel
theorem dX12_change_63 : decode cX12_change 63 = .ok (.iaload, 1) := by decide +kernel
theorem dX12_change_64 : decode cX12_change 64 = .ok (.ireturn, 1) := by decide +kernel
theorem dX12_change_7 : decode cX12_change 7 = .ok (.ifCond .ne 7, 3) := by decide +kernel
theorem dX12_days_0 : decode cX12_days 0 = .ok (.aload_n 0, 1) := by decide +kernel
theorem dX12_days_1 : decode cX12_days 1 = .ok (.iconst 0, 1) := by decide +kernel
theorem dX12_days_11 : decode cX12_days 11 = .ok (.invokestatic 137, 3) := by decide +kernel
theorem dX12_days_14 : decode cX12_days 14 = .ok (.ifCond .ne 9, 3) := by decide +kernel
theorem dX12_days_17 : decode cX12_days 17 = .ok (.aload_n 0, 1) := by decide +kernel
theorem dX12_days_18 : decode cX12_days 18 = .ok (.iconst 1, 1) := by decide +kernel
theorem dX12_days_19 : decode cX12_days 19 = .ok (.invokevirtual 262, 3) := by decide +kernel
theorem dX12_days_2 : decode cX12_days 2 = .ok (.putfield 73, 3) := by decide +kernel
theorem dX12_days_22 : decode cX12_days 22 = .ok (.ireturn, 1) := by decide +kernel
theorem dX12_days_23 : decode cX12_days 23 = .ok (.aload_n 0, 1) := by decide +kernel
theorem dX12_days_24 : decode cX12_days 24 = .ok (.invokevirtual 375, 3) := by decide +kernel
theorem dX12_days_27 : decode cX12_days 27 = .ok (.aload_n 0, 1) := by decide +kernel
theorem dX12_days_28 : decode cX12_days 28 = .ok (.getfield 9, 3) := by decide +kernel
theorem dX12_days_31 : decode cX12_days 31 = .ok (.bipush 25, 2) := by decide +kernel
theorem dX12_days_33 : decode cX12_days 33 = .ok (.iaload, 1) := by decide +kernel
theorem dX12_days_34 : decode cX12_days 34 = .ok (.istore_n 2, 1) := by decide +kernel
theorem dX12_days_35 : decode cX12_days 35 = .ok (.iconst 0, 1) := by decide +kernel
theorem dX12_days_36 : decode cX12_days 36 = .ok (.istore_n 3, 1) := by decide +kernel
theorem dX12_days_37 : decode cX12_days 37 = .ok (.iload_n 3, 1) := by decide +kernel
theorem dX12_days_38 : decode cX12_days 38 = .ok (.iload_n 1, 1) := by decide +kernel
theorem dX12_days_39 : decode cX12_days 39 = .ok (.if_icmp .ge 13, 3) := by decide +kernel
theorem dX12_days_42 : decode cX12_days 42 = .ok (.aload_n 0, 1) := by decide +kernel
theorem dX12_days_43 : decode cX12_days 43 = .ok (.invokevirtual 385, 3) := by decide +kernel
theorem dX12_days_46 : decode cX12_days 46 = .ok (.iinc 3 1, 3) := by decide +kernel
theorem dX12_days_49 : decode cX12_days 49 = .ok (.goto (-12), 3) := by decide +kernel
theorem dX12_days_5 : decode cX12_days 5 = .ok (.iload_n 1, 1) := by decide +kernel
theorem dX12_days_52 : decode cX12_days 52 = .ok (.aload_n 0, 1) := by decide +kernel
theorem dX12_days_53 : decode cX12_days 53 = .ok (.getfield 9, 3) := by decide +kernel
theorem dX12_days_56 : decode cX12_days 56 = .ok (.bipush 25, 2) := by decide +kernel
theorem dX12_days_58 : decode cX12_days 58 = .ok (.iaload, 1) := by decide +kernel
theorem dX12_days_59 : decode cX12_days 59 = .ok (.iload_n 2, 1) := by decide +kernel
theorem dX12_days_6 : decode cX12_days 6 = .ok (.i2l, 1) := by decide +kernel
theorem dX12_days_60 : decode cX12_days 60 = .ok (.isub, 1) := by decide +kernel
theorem dX12_days_61 : decode cX12_days 61 = .ok (.ireturn, 1) := by decide +kernel
theorem dX12_days_7 : decode cX12_days 7 = .ok (.lconst 1, 1) := by decide +kernel
theorem dX12_days_8 : decode cX12_days 8 = .ok (.ldc2_w 207, 3) := by decide +kernel
theorem dX12_does_0 : decode cX12_does 0 = .ok (.iload_n 1, 1) := by decide +kernel
theorem dX12_does_1 : decode cX12_does 1 = .ok (.iconst (-1), 1) := by decide +kernel
theorem dX12_does_12 : decode cX12_does 12 = .ok (.iload_n 1, 1) := by decide +kernel
theorem dX12_does_13 : decode cX12_does 13 = .ok (.bipush 100, 2) := by decide +kernel
theorem dX12_does_15 : decode cX12_does 15 = .ok (.if_icmp .ge 19, 3) := by decide +kernel
theorem dX12_does_18 : decode cX12_does 18 = .ok (.aload_n 0, 1) := by decide +kernel
theorem dX12_does_19 : decode cX12_does 19 = .ok (.iload_n 1, 1) := by decide +kernel
theorem dX12_does_2 : decode cX12_does 2 = .ok (.if_icmp .ne 10, 3) := by decide +kernel
theorem dX12_does_20 : decode cX12_does 20 = .ok (.bipush 10, 2) := by decide +kernel
theorem dX12_does_22 : decode cX12_does 22 = .ok (.idiv, 1) := by decide +kernel
theorem dX12_does_23 : decode cX12_does 23 = .ok (.iload_n 1, 1) := by decide +kernel
theorem dX12_does_24 : decode cX12_does 24 = .ok (.bipush 10, 2) := by decide +kernel
theorem dX12_does_26 : decode cX12_does 26 = .ok (.irem, 1) := by decide +kernel
theorem dX12_does_27 : decode cX12_does 27 = .ok (.invokevirtual 382, 3) := by decide +kernel
theorem dX12_does_30 : decode cX12_does 30 = .ok (.pop, 1) := by decide +kernel
theorem dX12_does_31 : decode cX12_does 31 = .ok (.goto 33, 3) := by decide +kernel
theorem dX12_does_34 : decode cX12_does 34 = .ok (.aload_n 0, 1) := by decide +kernel
theorem dX12_does_35 : decode cX12_does 35 = .ok (.iload_n 1, 1) := by decide +kernel
theorem dX12_does_36 : decode cX12_does 36 = .ok (.bipush 100, 2) := by decide +kernel
theorem dX12_does_38 : decode cX12_does 38 = .ok (.irem, 1) := by decide +kernel
theorem dX12_does_39 : decode cX12_does 39 = .ok (.bipush 10, 2) := by decide +kernel
theorem dX12_does_41 : decode cX12_does 41 = .ok (.idiv, 1) := by decide +kernel
theorem dX12_does_42 : decode cX12_does 42 = .ok (.iload_n 1, 1) := by decide +kernel
theorem dX12_does_43 : decode cX12_does 43 = .ok (.sipush 200, 3) := by decide +kernel
theorem dX12_does_46 : decode cX12_does 46 = .ok (.if_icmp .ge 10, 3) := by decide +kernel
theorem dX12_does_49 : decode cX12_does 49 = .ok (.iload_n 1, 1) := by decide +kernel
theorem dX12_does_5 : decode cX12_does 5 = .ok (.aload_n 0, 1) := by decide +kernel
theorem dX12_does_50 : decode cX12_does 50 = .ok (.bipush 10, 2) := by decide +kernel
theorem dX12_does_52 : decode cX12_does 52 = .ok (.irem, 1) := by decide +kernel
theorem dX12_does_53 : decode cX12_does 53 = .ok (.goto 8, 3) := by decide +kernel
theorem dX12_does_56 : decode cX12_does 56 = .ok (.iload_n 1, 1) := by decide +kernel
theorem dX12_does_57 : decode cX12_does 57 = .ok (.bipush 10, 2) := by decide +kernel
theorem dX12_does_59 : decode cX12_does 59 = .ok (.irem, 1) := by decide +kernel
theorem dX12_does_6 : decode cX12_does 6 = .ok (.invokevirtual 385, 3) := by decide +kernel
theorem dX12_does_60 : decode cX12_does 60 = .ok (.ineg, 1) := by decide +kernel
theorem dX12_does_61 : decode cX12_does 61 = .ok (.invokevirtual 367, 3) := by decide +kernel
theorem dX12_does_64 : decode cX12_does 64 = .ok (.return_, 1) := by decide +kernel
theorem dX12_does_9 : decode cX12_does 9 = .ok (.goto 55, 3) := by decide +kernel
theorem dX12_draw_0 : decode cX12_draw 0 = .ok (.aload_n 0, 1) := by decide +kernel
theorem dX12_draw_1 : decode cX12_draw 1 = .ok (.ldc_w 418, 3) := by decide +kernel
theorem dX12_draw_12 : decode cX12_draw 12 = .ok (.iadd, 1) := by decide +kernel
theorem dX12_draw_13 : decode cX12_draw 13 = .ok (.putfield 419, 3) := by decide +kernel
theorem dX12_draw_16 : decode cX12_draw 16 = .ok (.aload_n 0, 1) := by decide +kernel
theorem dX12_draw_17 : decode cX12_draw 17 = .ok (.getfield 419, 3) := by decide +kernel
theorem dX12_draw_20 : decode cX12_draw 20 = .ok (.bipush 16, 2) := by decide +kernel
theorem dX12_draw_22 : decode cX12_draw 22 = .ok (.iushr, 1) := by decide +kernel
theorem dX12_draw_23 : decode cX12_draw 23 = .ok (.iload_n 1, 1) := by decide +kernel
theorem dX12_draw_24 : decode cX12_draw 24 = .ok (.irem, 1) := by decide +kernel
theorem dX12_draw_25 : decode cX12_draw 25 = .ok (.ireturn, 1) := by decide +kernel
theorem dX12_draw_4 : decode cX12_draw 4 = .ok (.aload_n 0, 1) := by decide +kernel
theorem dX12_draw_5 : decode cX12_draw 5 = .ok (.getfield 419, 3) := by decide +kernel
theorem dX12_draw_8 : decode cX12_draw 8 = .ok (.imul, 1) := by decide +kernel
theorem dX12_draw_9 : decode cX12_draw 9 = .ok (.sipush 12345, 3) := by decide +kernel
theorem dX12_fits_0 : decode cX12_fits 0 = .ok (.aload_n 0, 1) := by decide +kernel
theorem dX12_fits_1 : decode cX12_fits 1 = .ok (.getfield 9, 3) := by decide +kernel
theorem dX12_fits_10 : decode cX12_fits 10 = .ok (.if_icmp .ne 17, 3) := by decide +kernel
theorem dX12_fits_13 : decode cX12_fits 13 = .ok (.iload_n 2, 1) := by decide +kernel
theorem dX12_fits_14 : decode cX12_fits 14 = .ok (.aload_n 0, 1) := by decide +kernel
theorem dX12_fits_15 : decode cX12_fits 15 = .ok (.getfield 33, 3) := by decide +kernel
theorem dX12_fits_18 : decode cX12_fits 18 = .ok (.iconst 0, 1) := by decide +kernel
theorem dX12_fits_19 : decode cX12_fits 19 = .ok (.iload_n 1, 1) := by decide +kernel
theorem dX12_fits_20 : decode cX12_fits 20 = .ok (.iadd, 1) := by decide +kernel
theorem dX12_fits_21 : decode cX12_fits 21 = .ok (.iaload, 1) := by decide +kernel
theorem dX12_fits_22 : decode cX12_fits 22 = .ok (.if_icmp .eq 5, 3) := by decide +kernel
theorem dX12_fits_25 : decode cX12_fits 25 = .ok (.iconst 0, 1) := by decide +kernel
theorem dX12_fits_26 : decode cX12_fits 26 = .ok (.ireturn, 1) := by decide +kernel
theorem dX12_fits_27 : decode cX12_fits 27 = .ok (.iconst 0, 1) := by decide +kernel
theorem dX12_fits_28 : decode cX12_fits 28 = .ok (.istore_n 3, 1) := by decide +kernel
theorem dX12_fits_29 : decode cX12_fits 29 = .ok (.iload_n 3, 1) := by decide +kernel
theorem dX12_fits_30 : decode cX12_fits 30 = .ok (.iload_n 1, 1) := by decide +kernel
theorem dX12_fits_31 : decode cX12_fits 31 = .ok (.if_icmp .ge 61, 3) := by decide +kernel
theorem dX12_fits_34 : decode cX12_fits 34 = .ok (.aload_n 0, 1) := by decide +kernel
theorem dX12_fits_35 : decode cX12_fits 35 = .ok (.getfield 36, 3) := by decide +kernel
theorem dX12_fits_38 : decode cX12_fits 38 = .ok (.iload_n 3, 1) := by decide +kernel
theorem dX12_fits_39 : decode cX12_fits 39 = .ok (.iaload, 1) := by decide +kernel
theorem dX12_fits_4 : decode cX12_fits 4 = .ok (.bipush 42, 2) := by decide +kernel
theorem dX12_fits_40 : decode cX12_fits 40 = .ok (.iload_n 2, 1) := by decide +kernel
theorem dX12_fits_41 : decode cX12_fits 41 = .ok (.if_icmp .ne 5, 3) := by decide +kernel
theorem dX12_fits_44 : decode cX12_fits 44 = .ok (.iconst 0, 1) := by decide +kernel
theorem dX12_fits_45 : decode cX12_fits 45 = .ok (.ireturn, 1) := by decide +kernel
theorem dX12_fits_46 : decode cX12_fits 46 = .ok (.aload_n 0, 1) := by decide +kernel
theorem dX12_fits_47 : decode cX12_fits 47 = .ok (.iload_n 2, 1) := by decide +kernel
theorem dX12_fits_48 : decode cX12_fits 48 = .ok (.aload_n 0, 1) := by decide +kernel
theorem dX12_fits_49 : decode cX12_fits 49 = .ok (.getfield 36, 3) := by decide +kernel
theorem dX12_fits_52 : decode cX12_fits 52 = .ok (.iload_n 3, 1) := by decide +kernel
theorem dX12_fits_53 : decode cX12_fits 53 = .ok (.iaload, 1) := by decide +kernel
theorem dX12_fits_54 : decode cX12_fits 54 = .ok (.invokevirtual 320, 3) := by decide +kernel
theorem dX12_fits_57 : decode cX12_fits 57 = .ok (.istore 4, 2) := by decide +kernel
theorem dX12_fits_59 : decode cX12_fits 59 = .ok (.iload 4, 2) := by decide +kernel
theorem dX12_fits_6 : decode cX12_fits 6 = .ok (.iload_n 1, 1) := by decide +kernel
theorem dX12_fits_61 : decode cX12_fits 61 = .ok (.ifCond .eq 25, 3) := by decide +kernel
theorem dX12_fits_64 : decode cX12_fits 64 = .ok (.aload_n 0, 1) := by decide +kernel
theorem dX12_fits_65 : decode cX12_fits 65 = .ok (.iload_n 1, 1) := by decide +kernel
theorem dX12_fits_66 : decode cX12_fits 66 = .ok (.iload_n 3, 1) := by decide +kernel
theorem dX12_fits_67 : decode cX12_fits 67 = .ok (.iload 4, 2) := by decide +kernel
theorem dX12_fits_69 : decode cX12_fits 69 = .ok (.iconst 2, 1) := by decide +kernel
theorem dX12_fits_7 : decode cX12_fits 7 = .ok (.iadd, 1) := by decide +kernel
theorem dX12_fits_70 : decode cX12_fits 70 = .ok (.if_icmp .ne 7, 3) := by decide +kernel
theorem dX12_fits_73 : decode cX12_fits 73 = .ok (.iconst 1, 1) := by decide +kernel
theorem dX12_fits_74 : decode cX12_fits 74 = .ok (.goto 4, 3) := by decide +kernel
theorem dX12_fits_77 : decode cX12_fits 77 = .ok (.iconst 0, 1) := by decide +kernel
theorem dX12_fits_78 : decode cX12_fits 78 = .ok (.invokevirtual 322, 3) := by decide +kernel
theorem dX12_fits_8 : decode cX12_fits 8 = .ok (.iaload, 1) := by decide +kernel
theorem dX12_fits_81 : decode cX12_fits 81 = .ok (.ifCond .eq 5, 3) := by decide +kernel
theorem dX12_fits_84 : decode cX12_fits 84 = .ok (.iconst 0, 1) := by decide +kernel
theorem dX12_fits_85 : decode cX12_fits 85 = .ok (.ireturn, 1) := by decide +kernel
theorem dX12_fits_86 : decode cX12_fits 86 = .ok (.iinc 3 1, 3) := by decide +kernel
theorem dX12_fits_89 : decode cX12_fits 89 = .ok (.goto (-60), 3) := by decide +kernel
theorem dX12_fits_9 : decode cX12_fits 9 = .ok (.iconst 1, 1) := by decide +kernel
theorem dX12_fits_92 : decode cX12_fits 92 = .ok (.iconst 1, 1) := by decide +kernel
theorem dX12_fits_93 : decode cX12_fits 93 = .ok (.ireturn, 1) := by decide +kernel
theorem dX12_goesPlacings_0 : decode cX12_goesPlacings 0 = .ok (.aload_n 0, 1) := by decide +kernel
theorem dX12_goesPlacings_1 : decode cX12_goesPlacings 1 = .ok (.getfield 433, 3) := by decide +kernel
theorem dX12_goesPlacings_100 : decode cX12_goesPlacings 100 = .ok (.iload_n 3, 1) := by decide +kernel
theorem dX12_goesPlacings_101 : decode cX12_goesPlacings 101 = .ok (.putfield 443, 3) := by decide +kernel
theorem dX12_goesPlacings_104 : decode cX12_goesPlacings 104 = .ok (.aload_n 0, 1) := by decide +kernel
theorem dX12_goesPlacings_105 : decode cX12_goesPlacings 105 = .ok (.dup, 1) := by decide +kernel
theorem dX12_goesPlacings_106 : decode cX12_goesPlacings 106 = .ok (.getfield 437, 3) := by decide +kernel
theorem dX12_goesPlacings_109 : decode cX12_goesPlacings 109 = .ok (.iconst 1, 1) := by decide +kernel
theorem dX12_goesPlacings_11 : decode cX12_goesPlacings 11 = .ok (.ifCond .le 28, 3) := by decide +kernel
theorem dX12_goesPlacings_110 : decode cX12_goesPlacings 110 = .ok (.iadd, 1) := by decide +kernel
theorem dX12_goesPlacings_111 : decode cX12_goesPlacings 111 = .ok (.putfield 437, 3) := by decide +kernel
theorem dX12_goesPlacings_114 : decode cX12_goesPlacings 114 = .ok (.return_, 1) := by decide +kernel
theorem dX12_goesPlacings_115 : decode cX12_goesPlacings 115 = .ok (.iconst 0, 1) := by decide +kernel
theorem dX12_goesPlacings_116 : decode cX12_goesPlacings 116 = .ok (.istore 4, 2) := by decide +kernel
theorem dX12_goesPlacings_118 : decode cX12_goesPlacings 118 = .ok (.iload 4, 2) := by decide +kernel
theorem dX12_goesPlacings_120 : decode cX12_goesPlacings 120 = .ok (.aload_n 0, 1) := by decide +kernel
theorem dX12_goesPlacings_121 : decode cX12_goesPlacings 121 = .ok (.invokevirtual 273, 3) := by decide +kernel
theorem dX12_goesPlacings_124 : decode cX12_goesPlacings 124 = .ok (.if_icmp .ge 121, 3) := by decide +kernel
theorem dX12_goesPlacings_127 : decode cX12_goesPlacings 127 = .ok (.aload_n 0, 1) := by decide +kernel
theorem dX12_goesPlacings_128 : decode cX12_goesPlacings 128 = .ok (.iload_n 1, 1) := by decide +kernel
theorem dX12_goesPlacings_129 : decode cX12_goesPlacings 129 = .ok (.iload 4, 2) := by decide +kernel
theorem dX12_goesPlacings_131 : decode cX12_goesPlacings 131 = .ok (.invokevirtual 449, 3) := by decide +kernel
theorem dX12_goesPlacings_134 : decode cX12_goesPlacings 134 = .ok (.ifCond .ne 6, 3) := by decide +kernel
theorem dX12_goesPlacings_137 : decode cX12_goesPlacings 137 = .ok (.goto 102, 3) := by decide +kernel
theorem dX12_goesPlacings_14 : decode cX12_goesPlacings 14 = .ok (.iload_n 2, 1) := by decide +kernel
theorem dX12_goesPlacings_140 : decode cX12_goesPlacings 140 = .ok (.iload 4, 2) := by decide +kernel
theorem dX12_goesPlacings_142 : decode cX12_goesPlacings 142 = .ok (.aload_n 0, 1) := by decide +kernel
theorem dX12_goesPlacings_143 : decode cX12_goesPlacings 143 = .ok (.iload_n 1, 1) := by decide +kernel
theorem dX12_goesPlacings_144 : decode cX12_goesPlacings 144 = .ok (.invokevirtual 317, 3) := by decide +kernel
theorem dX12_goesPlacings_147 : decode cX12_goesPlacings 147 = .ok (.if_icmp .eq 7, 3) := by decide +kernel
theorem dX12_goesPlacings_15 : decode cX12_goesPlacings 15 = .ok (.aload_n 0, 1) := by decide +kernel
theorem dX12_goesPlacings_150 : decode cX12_goesPlacings 150 = .ok (.iconst 1, 1) := by decide +kernel
theorem dX12_goesPlacings_151 : decode cX12_goesPlacings 151 = .ok (.goto 4, 3) := by decide +kernel
theorem dX12_goesPlacings_154 : decode cX12_goesPlacings 154 = .ok (.iconst 0, 1) := by decide +kernel
theorem dX12_goesPlacings_155 : decode cX12_goesPlacings 155 = .ok (.istore 5, 2) := by decide +kernel
theorem dX12_goesPlacings_157 : decode cX12_goesPlacings 157 = .ok (.aload_n 0, 1) := by decide +kernel
theorem dX12_goesPlacings_158 : decode cX12_goesPlacings 158 = .ok (.getfield 433, 3) := by decide +kernel
theorem dX12_goesPlacings_16 : decode cX12_goesPlacings 16 = .ok (.getfield 440, 3) := by decide +kernel
theorem dX12_goesPlacings_161 : decode cX12_goesPlacings 161 = .ok (.ifCond .eq 26, 3) := by decide +kernel
theorem dX12_goesPlacings_164 : decode cX12_goesPlacings 164 = .ok (.iload 5, 2) := by decide +kernel
theorem dX12_goesPlacings_166 : decode cX12_goesPlacings 166 = .ok (.ifCond .eq 21, 3) := by decide +kernel
theorem dX12_goesPlacings_169 : decode cX12_goesPlacings 169 = .ok (.aload_n 0, 1) := by decide +kernel
theorem dX12_goesPlacings_170 : decode cX12_goesPlacings 170 = .ok (.aload_n 0, 1) := by decide +kernel
theorem dX12_goesPlacings_171 : decode cX12_goesPlacings 171 = .ok (.iload_n 1, 1) := by decide +kernel
theorem dX12_goesPlacings_172 : decode cX12_goesPlacings 172 = .ok (.invokevirtual 317, 3) := by decide +kernel
theorem dX12_goesPlacings_175 : decode cX12_goesPlacings 175 = .ok (.iload 4, 2) := by decide +kernel
theorem dX12_goesPlacings_177 : decode cX12_goesPlacings 177 = .ok (.invokevirtual 349, 3) := by decide +kernel
theorem dX12_goesPlacings_180 : decode cX12_goesPlacings 180 = .ok (.iconst (-1), 1) := by decide +kernel
theorem dX12_goesPlacings_181 : decode cX12_goesPlacings 181 = .ok (.if_icmp .ne 6, 3) := by decide +kernel
theorem dX12_goesPlacings_184 : decode cX12_goesPlacings 184 = .ok (.goto 55, 3) := by decide +kernel
theorem dX12_goesPlacings_187 : decode cX12_goesPlacings 187 = .ok (.aload_n 0, 1) := by decide +kernel
theorem dX12_goesPlacings_188 : decode cX12_goesPlacings 188 = .ok (.getfield 36, 3) := by decide +kernel
theorem dX12_goesPlacings_19 : decode cX12_goesPlacings 19 = .ok (.if_icmp .gt 19, 3) := by decide +kernel
theorem dX12_goesPlacings_191 : decode cX12_goesPlacings 191 = .ok (.iload_n 1, 1) := by decide +kernel
theorem dX12_goesPlacings_192 : decode cX12_goesPlacings 192 = .ok (.iload 4, 2) := by decide +kernel
theorem dX12_goesPlacings_194 : decode cX12_goesPlacings 194 = .ok (.iastore, 1) := by decide +kernel
theorem dX12_goesPlacings_195 : decode cX12_goesPlacings 195 = .ok (.aload_n 0, 1) := by decide +kernel
theorem dX12_goesPlacings_196 : decode cX12_goesPlacings 196 = .ok (.iload_n 1, 1) := by decide +kernel
theorem dX12_goesPlacings_197 : decode cX12_goesPlacings 197 = .ok (.iconst 1, 1) := by decide +kernel
theorem dX12_goesPlacings_198 : decode cX12_goesPlacings 198 = .ok (.iadd, 1) := by decide +kernel
theorem dX12_goesPlacings_199 : decode cX12_goesPlacings 199 = .ok (.iload_n 2, 1) := by decide +kernel
theorem dX12_goesPlacings_200 : decode cX12_goesPlacings 200 = .ok (.iload 5, 2) := by decide +kernel
theorem dX12_goesPlacings_202 : decode cX12_goesPlacings 202 = .ok (.ifCond .eq 7, 3) := by decide +kernel
theorem dX12_goesPlacings_205 : decode cX12_goesPlacings 205 = .ok (.iconst 1, 1) := by decide +kernel
theorem dX12_goesPlacings_206 : decode cX12_goesPlacings 206 = .ok (.goto 4, 3) := by decide +kernel
theorem dX12_goesPlacings_209 : decode cX12_goesPlacings 209 = .ok (.iconst 0, 1) := by decide +kernel
theorem dX12_goesPlacings_210 : decode cX12_goesPlacings 210 = .ok (.iadd, 1) := by decide +kernel
theorem dX12_goesPlacings_211 : decode cX12_goesPlacings 211 = .ok (.aload_n 0, 1) := by decide +kernel
theorem dX12_goesPlacings_212 : decode cX12_goesPlacings 212 = .ok (.getfield 433, 3) := by decide +kernel
theorem dX12_goesPlacings_215 : decode cX12_goesPlacings 215 = .ok (.ifCond .eq 20, 3) := by decide +kernel
theorem dX12_goesPlacings_218 : decode cX12_goesPlacings 218 = .ok (.iload 5, 2) := by decide +kernel
theorem dX12_goesPlacings_22 : decode cX12_goesPlacings 22 = .ok (.iload_n 2, 1) := by decide +kernel
theorem dX12_goesPlacings_220 : decode cX12_goesPlacings 220 = .ok (.ifCond .eq 15, 3) := by decide +kernel
theorem dX12_goesPlacings_223 : decode cX12_goesPlacings 223 = .ok (.iload_n 3, 1) := by decide +kernel
theorem dX12_goesPlacings_224 : decode cX12_goesPlacings 224 = .ok (.aload_n 0, 1) := by decide +kernel
theorem dX12_goesPlacings_225 : decode cX12_goesPlacings 225 = .ok (.iload_n 1, 1) := by decide +kernel
theorem dX12_goesPlacings_226 : decode cX12_goesPlacings 226 = .ok (.iload 4, 2) := by decide +kernel
theorem dX12_goesPlacings_228 : decode cX12_goesPlacings 228 = .ok (.invokevirtual 358, 3) := by decide +kernel
theorem dX12_goesPlacings_23 : decode cX12_goesPlacings 23 = .ok (.aload_n 0, 1) := by decide +kernel
theorem dX12_goesPlacings_231 : decode cX12_goesPlacings 231 = .ok (.iadd, 1) := by decide +kernel
theorem dX12_goesPlacings_232 : decode cX12_goesPlacings 232 = .ok (.goto 4, 3) := by decide +kernel
theorem dX12_goesPlacings_235 : decode cX12_goesPlacings 235 = .ok (.iload_n 3, 1) := by decide +kernel
theorem dX12_goesPlacings_236 : decode cX12_goesPlacings 236 = .ok (.invokevirtual 452, 3) := by decide +kernel
theorem dX12_goesPlacings_239 : decode cX12_goesPlacings 239 = .ok (.iinc 4 1, 3) := by decide +kernel
theorem dX12_goesPlacings_24 : decode cX12_goesPlacings 24 = .ok (.getfield 440, 3) := by decide +kernel
theorem dX12_goesPlacings_242 : decode cX12_goesPlacings 242 = .ok (.goto (-124), 3) := by decide +kernel
theorem dX12_goesPlacings_245 : decode cX12_goesPlacings 245 = .ok (.return_, 1) := by decide +kernel
theorem dX12_goesPlacings_27 : decode cX12_goesPlacings 27 = .ok (.if_icmp .ne 12, 3) := by decide +kernel
theorem dX12_goesPlacings_30 : decode cX12_goesPlacings 30 = .ok (.iload_n 3, 1) := by decide +kernel
theorem dX12_goesPlacings_31 : decode cX12_goesPlacings 31 = .ok (.aload_n 0, 1) := by decide +kernel
theorem dX12_goesPlacings_32 : decode cX12_goesPlacings 32 = .ok (.getfield 443, 3) := by decide +kernel
theorem dX12_goesPlacings_35 : decode cX12_goesPlacings 35 = .ok (.if_icmp .lt 4, 3) := by decide +kernel
theorem dX12_goesPlacings_38 : decode cX12_goesPlacings 38 = .ok (.return_, 1) := by decide +kernel
theorem dX12_goesPlacings_39 : decode cX12_goesPlacings 39 = .ok (.iload_n 1, 1) := by decide +kernel
theorem dX12_goesPlacings_4 : decode cX12_goesPlacings 4 = .ok (.ifCond .eq 35, 3) := by decide +kernel
theorem dX12_goesPlacings_40 : decode cX12_goesPlacings 40 = .ok (.aload_n 0, 1) := by decide +kernel
theorem dX12_goesPlacings_41 : decode cX12_goesPlacings 41 = .ok (.invokevirtual 275, 3) := by decide +kernel
theorem dX12_goesPlacings_44 : decode cX12_goesPlacings 44 = .ok (.if_icmp .ne 71, 3) := by decide +kernel
theorem dX12_goesPlacings_47 : decode cX12_goesPlacings 47 = .ok (.aload_n 0, 1) := by decide +kernel
theorem dX12_goesPlacings_48 : decode cX12_goesPlacings 48 = .ok (.getfield 433, 3) := by decide +kernel
theorem dX12_goesPlacings_51 : decode cX12_goesPlacings 51 = .ok (.ifCond .ne 14, 3) := by decide +kernel
theorem dX12_goesPlacings_54 : decode cX12_goesPlacings 54 = .ok (.aload_n 0, 1) := by decide +kernel
theorem dX12_goesPlacings_55 : decode cX12_goesPlacings 55 = .ok (.getfield 437, 3) := by decide +kernel
theorem dX12_goesPlacings_58 : decode cX12_goesPlacings 58 = .ok (.aload_n 0, 1) := by decide +kernel
theorem dX12_goesPlacings_59 : decode cX12_goesPlacings 59 = .ok (.getfield 446, 3) := by decide +kernel
theorem dX12_goesPlacings_62 : decode cX12_goesPlacings 62 = .ok (.if_icmp .ne 32, 3) := by decide +kernel
theorem dX12_goesPlacings_65 : decode cX12_goesPlacings 65 = .ok (.iconst 0, 1) := by decide +kernel
theorem dX12_goesPlacings_66 : decode cX12_goesPlacings 66 = .ok (.istore 4, 2) := by decide +kernel
theorem dX12_goesPlacings_68 : decode cX12_goesPlacings 68 = .ok (.iload 4, 2) := by decide +kernel
theorem dX12_goesPlacings_7 : decode cX12_goesPlacings 7 = .ok (.aload_n 0, 1) := by decide +kernel
theorem dX12_goesPlacings_70 : decode cX12_goesPlacings 70 = .ok (.iload_n 1, 1) := by decide +kernel
theorem dX12_goesPlacings_71 : decode cX12_goesPlacings 71 = .ok (.if_icmp .ge 23, 3) := by decide +kernel
theorem dX12_goesPlacings_74 : decode cX12_goesPlacings 74 = .ok (.aload_n 0, 1) := by decide +kernel
theorem dX12_goesPlacings_75 : decode cX12_goesPlacings 75 = .ok (.getfield 39, 3) := by decide +kernel
theorem dX12_goesPlacings_78 : decode cX12_goesPlacings 78 = .ok (.iload 4, 2) := by decide +kernel
theorem dX12_goesPlacings_8 : decode cX12_goesPlacings 8 = .ok (.getfield 437, 3) := by decide +kernel
theorem dX12_goesPlacings_80 : decode cX12_goesPlacings 80 = .ok (.aload_n 0, 1) := by decide +kernel
theorem dX12_goesPlacings_81 : decode cX12_goesPlacings 81 = .ok (.getfield 36, 3) := by decide +kernel
theorem dX12_goesPlacings_84 : decode cX12_goesPlacings 84 = .ok (.iload 4, 2) := by decide +kernel
theorem dX12_goesPlacings_86 : decode cX12_goesPlacings 86 = .ok (.iaload, 1) := by decide +kernel
theorem dX12_goesPlacings_87 : decode cX12_goesPlacings 87 = .ok (.iastore, 1) := by decide +kernel
theorem dX12_goesPlacings_88 : decode cX12_goesPlacings 88 = .ok (.iinc 4 1, 3) := by decide +kernel
theorem dX12_goesPlacings_91 : decode cX12_goesPlacings 91 = .ok (.goto (-23), 3) := by decide +kernel
theorem dX12_goesPlacings_94 : decode cX12_goesPlacings 94 = .ok (.aload_n 0, 1) := by decide +kernel
theorem dX12_goesPlacings_95 : decode cX12_goesPlacings 95 = .ok (.iload_n 2, 1) := by decide +kernel
theorem dX12_goesPlacings_96 : decode cX12_goesPlacings 96 = .ok (.putfield 440, 3) := by decide +kernel
theorem dX12_goesPlacings_99 : decode cX12_goesPlacings 99 = .ok (.aload_n 0, 1) := by decide +kernel
theorem dX12_goesRound_0 : decode cX12_goesRound 0 = .ok (.iload_n 3, 1) := by decide +kernel
theorem dX12_goesRound_1 : decode cX12_goesRound 1 = .ok (.ifCond .ne 18, 3) := by decide +kernel
theorem dX12_goesRound_10 : decode cX12_goesRound 10 = .ok (.ifCond .eq 7, 3) := by decide +kernel
theorem dX12_goesRound_13 : decode cX12_goesRound 13 = .ok (.iconst 1, 1) := by decide +kernel
theorem dX12_goesRound_14 : decode cX12_goesRound 14 = .ok (.goto 4, 3) := by decide +kernel
theorem dX12_goesRound_17 : decode cX12_goesRound 17 = .ok (.iconst 0, 1) := by decide +kernel
theorem dX12_goesRound_18 : decode cX12_goesRound 18 = .ok (.ireturn, 1) := by decide +kernel
theorem dX12_goesRound_19 : decode cX12_goesRound 19 = .ok (.iconst 0, 1) := by decide +kernel
theorem dX12_goesRound_20 : decode cX12_goesRound 20 = .ok (.istore 4, 2) := by decide +kernel
theorem dX12_goesRound_22 : decode cX12_goesRound 22 = .ok (.iload 4, 2) := by decide +kernel
theorem dX12_goesRound_24 : decode cX12_goesRound 24 = .ok (.aload_n 0, 1) := by decide +kernel
theorem dX12_goesRound_25 : decode cX12_goesRound 25 = .ok (.invokevirtual 273, 3) := by decide +kernel
theorem dX12_goesRound_28 : decode cX12_goesRound 28 = .ok (.if_icmp .ge 48, 3) := by decide +kernel
theorem dX12_goesRound_31 : decode cX12_goesRound 31 = .ok (.iload_n 3, 1) := by decide +kernel
theorem dX12_goesRound_32 : decode cX12_goesRound 32 = .ok (.iload 4, 2) := by decide +kernel
theorem dX12_goesRound_34 : decode cX12_goesRound 34 = .ok (.invokestatic 346, 3) := by decide +kernel
theorem dX12_goesRound_37 : decode cX12_goesRound 37 = .ok (.ifCond .eq 33, 3) := by decide +kernel
theorem dX12_goesRound_4 : decode cX12_goesRound 4 = .ok (.aload_n 0, 1) := by decide +kernel
theorem dX12_goesRound_40 : decode cX12_goesRound 40 = .ok (.aload_n 0, 1) := by decide +kernel
theorem dX12_goesRound_41 : decode cX12_goesRound 41 = .ok (.iload_n 1, 1) := by decide +kernel
theorem dX12_goesRound_42 : decode cX12_goesRound 42 = .ok (.iload 4, 2) := by decide +kernel
theorem dX12_goesRound_44 : decode cX12_goesRound 44 = .ok (.invokevirtual 320, 3) := by decide +kernel
theorem dX12_goesRound_47 : decode cX12_goesRound 47 = .ok (.ifCond .eq 23, 3) := by decide +kernel
theorem dX12_goesRound_5 : decode cX12_goesRound 5 = .ok (.iload_n 1, 1) := by decide +kernel
theorem dX12_goesRound_50 : decode cX12_goesRound 50 = .ok (.aload_n 0, 1) := by decide +kernel
theorem dX12_goesRound_51 : decode cX12_goesRound 51 = .ok (.iload 4, 2) := by decide +kernel
theorem dX12_goesRound_53 : decode cX12_goesRound 53 = .ok (.iload_n 2, 1) := by decide +kernel
theorem dX12_goesRound_54 : decode cX12_goesRound 54 = .ok (.iload_n 3, 1) := by decide +kernel
theorem dX12_goesRound_55 : decode cX12_goesRound 55 = .ok (.iconst 1, 1) := by decide +kernel
theorem dX12_goesRound_56 : decode cX12_goesRound 56 = .ok (.iload 4, 2) := by decide +kernel
theorem dX12_goesRound_58 : decode cX12_goesRound 58 = .ok (.ishl, 1) := by decide +kernel
theorem dX12_goesRound_59 : decode cX12_goesRound 59 = .ok (.iconst (-1), 1) := by decide +kernel
theorem dX12_goesRound_6 : decode cX12_goesRound 6 = .ok (.iload_n 2, 1) := by decide +kernel
theorem dX12_goesRound_60 : decode cX12_goesRound 60 = .ok (.ixor, 1) := by decide +kernel
theorem dX12_goesRound_61 : decode cX12_goesRound 61 = .ok (.iand, 1) := by decide +kernel
theorem dX12_goesRound_62 : decode cX12_goesRound 62 = .ok (.invokevirtual 427, 3) := by decide +kernel
theorem dX12_goesRound_65 : decode cX12_goesRound 65 = .ok (.ifCond .eq 5, 3) := by decide +kernel
theorem dX12_goesRound_68 : decode cX12_goesRound 68 = .ok (.iconst 1, 1) := by decide +kernel
theorem dX12_goesRound_69 : decode cX12_goesRound 69 = .ok (.ireturn, 1) := by decide +kernel
theorem dX12_goesRound_7 : decode cX12_goesRound 7 = .ok (.invokevirtual 320, 3) := by decide +kernel
theorem dX12_goesRound_70 : decode cX12_goesRound 70 = .ok (.iinc 4 1, 3) := by decide +kernel
theorem dX12_goesRound_73 : decode cX12_goesRound 73 = .ok (.goto (-51), 3) := by decide +kernel
theorem dX12_goesRound_76 : decode cX12_goesRound 76 = .ok (.iconst 0, 1) := by decide +kernel
theorem dX12_goesRound_77 : decode cX12_goesRound 77 = .ok (.ireturn, 1) := by decide +kernel
theorem dX12_isTray_0 : decode cX12_isTray 0 = .ok (.iload_n 0, 1) := by decide +kernel
theorem dX12_isTray_1 : decode cX12_isTray 1 = .ok (.i2l, 1) := by decide +kernel
theorem dX12_isTray_2 : decode cX12_isTray 2 = .ok (.lconst 0, 1) := by decide +kernel
theorem dX12_isTray_3 : decode cX12_isTray 3 = .ok (.ldc2_w 404, 3) := by decide +kernel
theorem dX12_isTray_6 : decode cX12_isTray 6 = .ok (.invokestatic 137, 3) := by decide +kernel
theorem dX12_isTray_9 : decode cX12_isTray 9 = .ok (.ireturn, 1) := by decide +kernel
theorem dX12_judge_0 : decode cX12_judge 0 = .ok (.aload_n 0, 1) := by decide +kernel
theorem dX12_judge_1 : decode cX12_judge 1 = .ok (.aload_n 0, 1) := by decide +kernel
theorem dX12_judge_10 : decode cX12_judge 10 = .ok (.getfield 73, 3) := by decide +kernel
theorem dX12_judge_100 : decode cX12_judge 100 = .ok (.iload_n 1, 1) := by decide +kernel
theorem dX12_judge_101 : decode cX12_judge 101 = .ok (.imul, 1) := by decide +kernel
theorem dX12_judge_102 : decode cX12_judge 102 = .ok (.iload 5, 2) := by decide +kernel
theorem dX12_judge_104 : decode cX12_judge 104 = .ok (.iadd, 1) := by decide +kernel
theorem dX12_judge_105 : decode cX12_judge 105 = .ok (.laload, 1) := by decide +kernel
theorem dX12_judge_106 : decode cX12_judge 106 = .ok (.l2i, 1) := by decide +kernel
theorem dX12_judge_107 : decode cX12_judge 107 = .ok (.invokevirtual 412, 3) := by decide +kernel
theorem dX12_judge_110 : decode cX12_judge 110 = .ok (.goto 6, 3) := by decide +kernel
theorem dX12_judge_113 : decode cX12_judge 113 = .ok (.iload 5, 2) := by decide +kernel
theorem dX12_judge_115 : decode cX12_judge 115 = .ok (.istore_n 3, 1) := by decide +kernel
theorem dX12_judge_116 : decode cX12_judge 116 = .ok (.iinc 5 1, 3) := by decide +kernel
theorem dX12_judge_119 : decode cX12_judge 119 = .ok (.goto (-65), 3) := by decide +kernel
theorem dX12_judge_122 : decode cX12_judge 122 = .ok (.aload_n 0, 1) := by decide +kernel
theorem dX12_judge_123 : decode cX12_judge 123 = .ok (.getfield 9, 3) := by decide +kernel
theorem dX12_judge_126 : decode cX12_judge 126 = .ok (.bipush 24, 2) := by decide +kernel
theorem dX12_judge_128 : decode cX12_judge 128 = .ok (.iaload, 1) := by decide +kernel
theorem dX12_judge_129 : decode cX12_judge 129 = .ok (.istore 5, 2) := by decide +kernel
theorem dX12_judge_13 : decode cX12_judge 13 = .ok (.ifCond .ne 20, 3) := by decide +kernel
theorem dX12_judge_131 : decode cX12_judge 131 = .ok (.aload_n 0, 1) := by decide +kernel
theorem dX12_judge_132 : decode cX12_judge 132 = .ok (.invokevirtual 352, 3) := by decide +kernel
theorem dX12_judge_135 : decode cX12_judge 135 = .ok (.istore 6, 2) := by decide +kernel
theorem dX12_judge_137 : decode cX12_judge 137 = .ok (.aload_n 0, 1) := by decide +kernel
theorem dX12_judge_138 : decode cX12_judge 138 = .ok (.invokevirtual 415, 3) := by decide +kernel
theorem dX12_judge_141 : decode cX12_judge 141 = .ok (.iload_n 2, 1) := by decide +kernel
theorem dX12_judge_142 : decode cX12_judge 142 = .ok (.ifCond .ne 7, 3) := by decide +kernel
theorem dX12_judge_145 : decode cX12_judge 145 = .ok (.iload_n 3, 1) := by decide +kernel
theorem dX12_judge_146 : decode cX12_judge 146 = .ok (.goto 33, 3) := by decide +kernel
theorem dX12_judge_149 : decode cX12_judge 149 = .ok (.iload_n 2, 1) := by decide +kernel
theorem dX12_judge_150 : decode cX12_judge 150 = .ok (.iconst 1, 1) := by decide +kernel
theorem dX12_judge_151 : decode cX12_judge 151 = .ok (.if_icmp .ne 8, 3) := by decide +kernel
theorem dX12_judge_154 : decode cX12_judge 154 = .ok (.iload 4, 2) := by decide +kernel
theorem dX12_judge_156 : decode cX12_judge 156 = .ok (.goto 23, 3) := by decide +kernel
theorem dX12_judge_159 : decode cX12_judge 159 = .ok (.iload_n 2, 1) := by decide +kernel
theorem dX12_judge_16 : decode cX12_judge 16 = .ok (.iload_n 2, 1) := by decide +kernel
theorem dX12_judge_160 : decode cX12_judge 160 = .ok (.iconst 2, 1) := by decide +kernel
theorem dX12_judge_161 : decode cX12_judge 161 = .ok (.if_icmp .ne 16, 3) := by decide +kernel
theorem dX12_judge_164 : decode cX12_judge 164 = .ok (.iload 5, 2) := by decide +kernel
theorem dX12_judge_166 : decode cX12_judge 166 = .ok (.aload_n 0, 1) := by decide +kernel
theorem dX12_judge_167 : decode cX12_judge 167 = .ok (.getfield 9, 3) := by decide +kernel
theorem dX12_judge_17 : decode cX12_judge 17 = .ok (.i2l, 1) := by decide +kernel
theorem dX12_judge_170 : decode cX12_judge 170 = .ok (.bipush 24, 2) := by decide +kernel
theorem dX12_judge_172 : decode cX12_judge 172 = .ok (.iaload, 1) := by decide +kernel
theorem dX12_judge_173 : decode cX12_judge 173 = .ok (.isub, 1) := by decide +kernel
theorem dX12_judge_174 : decode cX12_judge 174 = .ok (.goto 5, 3) := by decide +kernel
theorem dX12_judge_177 : decode cX12_judge 177 = .ok (.iload 6, 2) := by decide +kernel
theorem dX12_judge_179 : decode cX12_judge 179 = .ok (.ireturn, 1) := by decide +kernel
theorem dX12_judge_18 : decode cX12_judge 18 = .ok (.lconst 0, 1) := by decide +kernel
theorem dX12_judge_19 : decode cX12_judge 19 = .ok (.ldc2_w 404, 3) := by decide +kernel
theorem dX12_judge_2 : decode cX12_judge 2 = .ok (.iload_n 1, 1) := by decide +kernel
theorem dX12_judge_22 : decode cX12_judge 22 = .ok (.invokestatic 137, 3) := by decide +kernel
theorem dX12_judge_25 : decode cX12_judge 25 = .ok (.ifCond .ne 8, 3) := by decide +kernel
theorem dX12_judge_28 : decode cX12_judge 28 = .ok (.aload_n 0, 1) := by decide +kernel
theorem dX12_judge_29 : decode cX12_judge 29 = .ok (.iconst 3, 1) := by decide +kernel
theorem dX12_judge_3 : decode cX12_judge 3 = .ok (.invokevirtual 401, 3) := by decide +kernel
theorem dX12_judge_30 : decode cX12_judge 30 = .ok (.putfield 73, 3) := by decide +kernel
theorem dX12_judge_33 : decode cX12_judge 33 = .ok (.aload_n 0, 1) := by decide +kernel
theorem dX12_judge_34 : decode cX12_judge 34 = .ok (.getfield 73, 3) := by decide +kernel
theorem dX12_judge_37 : decode cX12_judge 37 = .ok (.ifCond .le 5, 3) := by decide +kernel
theorem dX12_judge_40 : decode cX12_judge 40 = .ok (.iconst 0, 1) := by decide +kernel
theorem dX12_judge_41 : decode cX12_judge 41 = .ok (.ireturn, 1) := by decide +kernel
theorem dX12_judge_42 : decode cX12_judge 42 = .ok (.aload_n 0, 1) := by decide +kernel
theorem dX12_judge_43 : decode cX12_judge 43 = .ok (.invokevirtual 406, 3) := by decide +kernel
theorem dX12_judge_46 : decode cX12_judge 46 = .ok (.iconst (-1), 1) := by decide +kernel
theorem dX12_judge_47 : decode cX12_judge 47 = .ok (.istore_n 3, 1) := by decide +kernel
theorem dX12_judge_48 : decode cX12_judge 48 = .ok (.iconst 0, 1) := by decide +kernel
theorem dX12_judge_49 : decode cX12_judge 49 = .ok (.istore 4, 2) := by decide +kernel
theorem dX12_judge_51 : decode cX12_judge 51 = .ok (.iconst 0, 1) := by decide +kernel
theorem dX12_judge_52 : decode cX12_judge 52 = .ok (.istore 5, 2) := by decide +kernel
theorem dX12_judge_54 : decode cX12_judge 54 = .ok (.iload 5, 2) := by decide +kernel
theorem dX12_judge_56 : decode cX12_judge 56 = .ok (.aload_n 0, 1) := by decide +kernel
theorem dX12_judge_57 : decode cX12_judge 57 = .ok (.getfield 66, 3) := by decide +kernel
theorem dX12_judge_6 : decode cX12_judge 6 = .ok (.putfield 73, 3) := by decide +kernel
theorem dX12_judge_60 : decode cX12_judge 60 = .ok (.iload_n 1, 1) := by decide +kernel
theorem dX12_judge_61 : decode cX12_judge 61 = .ok (.iaload, 1) := by decide +kernel
theorem dX12_judge_62 : decode cX12_judge 62 = .ok (.if_icmp .ge 60, 3) := by decide +kernel
theorem dX12_judge_65 : decode cX12_judge 65 = .ok (.iload_n 3, 1) := by decide +kernel
theorem dX12_judge_66 : decode cX12_judge 66 = .ok (.iconst (-1), 1) := by decide +kernel
theorem dX12_judge_67 : decode cX12_judge 67 = .ok (.if_icmp .ne 55, 3) := by decide +kernel
theorem dX12_judge_70 : decode cX12_judge 70 = .ok (.aload_n 0, 1) := by decide +kernel
theorem dX12_judge_71 : decode cX12_judge 71 = .ok (.aload_n 0, 1) := by decide +kernel
theorem dX12_judge_72 : decode cX12_judge 72 = .ok (.getfield 69, 3) := by decide +kernel
theorem dX12_judge_75 : decode cX12_judge 75 = .ok (.bipush 30, 2) := by decide +kernel
theorem dX12_judge_77 : decode cX12_judge 77 = .ok (.iload_n 1, 1) := by decide +kernel
theorem dX12_judge_78 : decode cX12_judge 78 = .ok (.imul, 1) := by decide +kernel
theorem dX12_judge_79 : decode cX12_judge 79 = .ok (.iload 5, 2) := by decide +kernel
theorem dX12_judge_81 : decode cX12_judge 81 = .ok (.iadd, 1) := by decide +kernel
theorem dX12_judge_82 : decode cX12_judge 82 = .ok (.laload, 1) := by decide +kernel
theorem dX12_judge_83 : decode cX12_judge 83 = .ok (.invokevirtual 409, 3) := by decide +kernel
theorem dX12_judge_86 : decode cX12_judge 86 = .ok (.istore 4, 2) := by decide +kernel
theorem dX12_judge_88 : decode cX12_judge 88 = .ok (.iload 4, 2) := by decide +kernel
theorem dX12_judge_9 : decode cX12_judge 9 = .ok (.aload_n 0, 1) := by decide +kernel
theorem dX12_judge_90 : decode cX12_judge 90 = .ok (.ifCond .ne 23, 3) := by decide +kernel
theorem dX12_judge_93 : decode cX12_judge 93 = .ok (.aload_n 0, 1) := by decide +kernel
theorem dX12_judge_94 : decode cX12_judge 94 = .ok (.aload_n 0, 1) := by decide +kernel
theorem dX12_judge_95 : decode cX12_judge 95 = .ok (.getfield 69, 3) := by decide +kernel
theorem dX12_judge_98 : decode cX12_judge 98 = .ok (.bipush 30, 2) := by decide +kernel
theorem dX12_laysPlacings_0 : decode cX12_laysPlacings 0 = .ok (.aload_n 0, 1) := by decide +kernel
theorem dX12_laysPlacings_1 : decode cX12_laysPlacings 1 = .ok (.invokevirtual 406, 3) := by decide +kernel
theorem dX12_laysPlacings_10 : decode cX12_laysPlacings 10 = .ok (.iload_n 1, 1) := by decide +kernel
theorem dX12_laysPlacings_11 : decode cX12_laysPlacings 11 = .ok (.putfield 446, 3) := by decide +kernel
theorem dX12_laysPlacings_14 : decode cX12_laysPlacings 14 = .ok (.aload_n 0, 1) := by decide +kernel
theorem dX12_laysPlacings_15 : decode cX12_laysPlacings 15 = .ok (.iload_n 2, 1) := by decide +kernel
theorem dX12_laysPlacings_16 : decode cX12_laysPlacings 16 = .ok (.putfield 433, 3) := by decide +kernel
theorem dX12_laysPlacings_19 : decode cX12_laysPlacings 19 = .ok (.aload_n 0, 1) := by decide +kernel
theorem dX12_laysPlacings_20 : decode cX12_laysPlacings 20 = .ok (.iconst 0, 1) := by decide +kernel
theorem dX12_laysPlacings_21 : decode cX12_laysPlacings 21 = .ok (.iconst 0, 1) := by decide +kernel
theorem dX12_laysPlacings_22 : decode cX12_laysPlacings 22 = .ok (.iconst 0, 1) := by decide +kernel
theorem dX12_laysPlacings_23 : decode cX12_laysPlacings 23 = .ok (.invokevirtual 452, 3) := by decide +kernel
theorem dX12_laysPlacings_26 : decode cX12_laysPlacings 26 = .ok (.aload_n 0, 1) := by decide +kernel
theorem dX12_laysPlacings_27 : decode cX12_laysPlacings 27 = .ok (.getfield 437, 3) := by decide +kernel
theorem dX12_laysPlacings_30 : decode cX12_laysPlacings 30 = .ok (.ireturn, 1) := by decide +kernel
theorem dX12_laysPlacings_4 : decode cX12_laysPlacings 4 = .ok (.aload_n 0, 1) := by decide +kernel
theorem dX12_laysPlacings_5 : decode cX12_laysPlacings 5 = .ok (.iconst 0, 1) := by decide +kernel
theorem dX12_laysPlacings_6 : decode cX12_laysPlacings 6 = .ok (.putfield 437, 3) := by decide +kernel
theorem dX12_laysPlacings_9 : decode cX12_laysPlacings 9 = .ok (.aload_n 0, 1) := by decide +kernel
theorem dX12_mend_0 : decode cX12_mend 0 = .ok (.aload_n 0, 1) := by decide +kernel
theorem dX12_mend_1 : decode cX12_mend 1 = .ok (.iconst 0, 1) := by decide +kernel
theorem dX12_mend_11 : decode cX12_mend 11 = .ok (.ifCond .ne 9, 3) := by decide +kernel
theorem dX12_mend_14 : decode cX12_mend 14 = .ok (.aload_n 0, 1) := by decide +kernel
theorem dX12_mend_15 : decode cX12_mend 15 = .ok (.iconst 1, 1) := by decide +kernel
theorem dX12_mend_16 : decode cX12_mend 16 = .ok (.invokevirtual 262, 3) := by decide +kernel
theorem dX12_mend_19 : decode cX12_mend 19 = .ok (.ireturn, 1) := by decide +kernel
theorem dX12_mend_2 : decode cX12_mend 2 = .ok (.putfield 73, 3) := by decide +kernel
theorem dX12_mend_20 : decode cX12_mend 20 = .ok (.aload_n 0, 1) := by decide +kernel
theorem dX12_mend_21 : decode cX12_mend 21 = .ok (.invokevirtual 375, 3) := by decide +kernel
theorem dX12_mend_24 : decode cX12_mend 24 = .ok (.iconst 0, 1) := by decide +kernel
theorem dX12_mend_25 : decode cX12_mend 25 = .ok (.istore_n 1, 1) := by decide +kernel
theorem dX12_mend_26 : decode cX12_mend 26 = .ok (.iload_n 1, 1) := by decide +kernel
theorem dX12_mend_27 : decode cX12_mend 27 = .ok (.aload_n 0, 1) := by decide +kernel
theorem dX12_mend_28 : decode cX12_mend 28 = .ok (.invokevirtual 275, 3) := by decide +kernel
theorem dX12_mend_31 : decode cX12_mend 31 = .ok (.if_icmp .ge 24, 3) := by decide +kernel
theorem dX12_mend_34 : decode cX12_mend 34 = .ok (.aload_n 0, 1) := by decide +kernel
theorem dX12_mend_35 : decode cX12_mend 35 = .ok (.getfield 9, 3) := by decide +kernel
theorem dX12_mend_38 : decode cX12_mend 38 = .ok (.bipush 8, 2) := by decide +kernel
theorem dX12_mend_40 : decode cX12_mend 40 = .ok (.iload_n 1, 1) := by decide +kernel
theorem dX12_mend_41 : decode cX12_mend 41 = .ok (.iadd, 1) := by decide +kernel
theorem dX12_mend_42 : decode cX12_mend 42 = .ok (.aload_n 0, 1) := by decide +kernel
theorem dX12_mend_43 : decode cX12_mend 43 = .ok (.getfield 39, 3) := by decide +kernel
theorem dX12_mend_46 : decode cX12_mend 46 = .ok (.iload_n 1, 1) := by decide +kernel
theorem dX12_mend_47 : decode cX12_mend 47 = .ok (.iaload, 1) := by decide +kernel
theorem dX12_mend_48 : decode cX12_mend 48 = .ok (.iastore, 1) := by decide +kernel
theorem dX12_mend_49 : decode cX12_mend 49 = .ok (.iinc 1 1, 3) := by decide +kernel
theorem dX12_mend_5 : decode cX12_mend 5 = .ok (.aload_n 0, 1) := by decide +kernel
theorem dX12_mend_52 : decode cX12_mend 52 = .ok (.goto (-26), 3) := by decide +kernel
theorem dX12_mend_55 : decode cX12_mend 55 = .ok (.aload_n 0, 1) := by decide +kernel
theorem dX12_mend_56 : decode cX12_mend 56 = .ok (.getfield 440, 3) := by decide +kernel
theorem dX12_mend_59 : decode cX12_mend 59 = .ok (.ireturn, 1) := by decide +kernel
theorem dX12_mend_6 : decode cX12_mend 6 = .ok (.iconst (-1), 1) := by decide +kernel
theorem dX12_mend_7 : decode cX12_mend 7 = .ok (.iconst 1, 1) := by decide +kernel
theorem dX12_mend_8 : decode cX12_mend 8 = .ok (.invokevirtual 456, 3) := by decide +kernel
theorem dX12_mending_0 : decode cX12_mending 0 = .ok (.aload_n 0, 1) := by decide +kernel
theorem dX12_mending_1 : decode cX12_mending 1 = .ok (.iconst 0, 1) := by decide +kernel
theorem dX12_mending_12 : decode cX12_mending 12 = .ok (.ifCond .ne 28, 3) := by decide +kernel
theorem dX12_mending_15 : decode cX12_mending 15 = .ok (.iload_n 1, 1) := by decide +kernel
theorem dX12_mending_16 : decode cX12_mending 16 = .ok (.i2l, 1) := by decide +kernel
theorem dX12_mending_17 : decode cX12_mending 17 = .ok (.ldc2_w 395, 3) := by decide +kernel
theorem dX12_mending_2 : decode cX12_mending 2 = .ok (.putfield 73, 3) := by decide +kernel
theorem dX12_mending_20 : decode cX12_mending 20 = .ok (.bipush 9, 2) := by decide +kernel
theorem dX12_mending_22 : decode cX12_mending 22 = .ok (.aload_n 0, 1) := by decide +kernel
theorem dX12_mending_23 : decode cX12_mending 23 = .ok (.invokevirtual 275, 3) := by decide +kernel
theorem dX12_mending_26 : decode cX12_mending 26 = .ok (.iadd, 1) := by decide +kernel
theorem dX12_mending_27 : decode cX12_mending 27 = .ok (.i2l, 1) := by decide +kernel
theorem dX12_mending_28 : decode cX12_mending 28 = .ok (.invokestatic 137, 3) := by decide +kernel
theorem dX12_mending_31 : decode cX12_mending 31 = .ok (.ifCond .ne 9, 3) := by decide +kernel
theorem dX12_mending_34 : decode cX12_mending 34 = .ok (.aload_n 0, 1) := by decide +kernel
theorem dX12_mending_35 : decode cX12_mending 35 = .ok (.iconst 1, 1) := by decide +kernel
theorem dX12_mending_36 : decode cX12_mending 36 = .ok (.invokevirtual 262, 3) := by decide +kernel
theorem dX12_mending_39 : decode cX12_mending 39 = .ok (.ireturn, 1) := by decide +kernel
theorem dX12_mending_40 : decode cX12_mending 40 = .ok (.aload_n 0, 1) := by decide +kernel
theorem dX12_mending_41 : decode cX12_mending 41 = .ok (.iconst (-1), 1) := by decide +kernel
theorem dX12_mending_42 : decode cX12_mending 42 = .ok (.iconst 1, 1) := by decide +kernel
theorem dX12_mending_43 : decode cX12_mending 43 = .ok (.invokevirtual 456, 3) := by decide +kernel
theorem dX12_mending_46 : decode cX12_mending 46 = .ok (.ifCond .ne 5, 3) := by decide +kernel
theorem dX12_mending_49 : decode cX12_mending 49 = .ok (.iconst (-1), 1) := by decide +kernel
theorem dX12_mending_5 : decode cX12_mending 5 = .ok (.iload_n 1, 1) := by decide +kernel
theorem dX12_mending_50 : decode cX12_mending 50 = .ok (.ireturn, 1) := by decide +kernel
theorem dX12_mending_51 : decode cX12_mending 51 = .ok (.iload_n 1, 1) := by decide +kernel
theorem dX12_mending_52 : decode cX12_mending 52 = .ok (.ifCond .ne 10, 3) := by decide +kernel
theorem dX12_mending_55 : decode cX12_mending 55 = .ok (.aload_n 0, 1) := by decide +kernel
theorem dX12_mending_56 : decode cX12_mending 56 = .ok (.getfield 440, 3) := by decide +kernel
theorem dX12_mending_59 : decode cX12_mending 59 = .ok (.goto 24, 3) := by decide +kernel
theorem dX12_mending_6 : decode cX12_mending 6 = .ok (.i2l, 1) := by decide +kernel
theorem dX12_mending_62 : decode cX12_mending 62 = .ok (.iload_n 1, 1) := by decide +kernel
theorem dX12_mending_63 : decode cX12_mending 63 = .ok (.iconst 1, 1) := by decide +kernel
theorem dX12_mending_64 : decode cX12_mending 64 = .ok (.if_icmp .ne 10, 3) := by decide +kernel
theorem dX12_mending_67 : decode cX12_mending 67 = .ok (.aload_n 0, 1) := by decide +kernel
theorem dX12_mending_68 : decode cX12_mending 68 = .ok (.getfield 443, 3) := by decide +kernel
theorem dX12_mending_7 : decode cX12_mending 7 = .ok (.lconst 0, 1) := by decide +kernel
theorem dX12_mending_71 : decode cX12_mending 71 = .ok (.goto 12, 3) := by decide +kernel
theorem dX12_mending_74 : decode cX12_mending 74 = .ok (.aload_n 0, 1) := by decide +kernel
theorem dX12_mending_75 : decode cX12_mending 75 = .ok (.getfield 39, 3) := by decide +kernel
theorem dX12_mending_78 : decode cX12_mending 78 = .ok (.iload_n 1, 1) := by decide +kernel
theorem dX12_mending_79 : decode cX12_mending 79 = .ok (.bipush 10, 2) := by decide +kernel
theorem dX12_mending_8 : decode cX12_mending 8 = .ok (.lconst 1, 1) := by decide +kernel
theorem dX12_mending_81 : decode cX12_mending 81 = .ok (.isub, 1) := by decide +kernel
theorem dX12_mending_82 : decode cX12_mending 82 = .ok (.iaload, 1) := by decide +kernel
theorem dX12_mending_83 : decode cX12_mending 83 = .ok (.ireturn, 1) := by decide +kernel
theorem dX12_mending_9 : decode cX12_mending 9 = .ok (.invokestatic 137, 3) := by decide +kernel
theorem dX12_move_0 : decode cX12_move 0 = .ok (.aload_n 0, 1) := by decide +kernel
theorem dX12_move_1 : decode cX12_move 1 = .ok (.iconst 0, 1) := by decide +kernel
theorem dX12_move_10 : decode cX12_move 10 = .ok (.invokevirtual 378, 3) := by decide +kernel
theorem dX12_move_13 : decode cX12_move 13 = .ok (.istore_n 3, 1) := by decide +kernel
theorem dX12_move_14 : decode cX12_move 14 = .ok (.iload_n 3, 1) := by decide +kernel
theorem dX12_move_15 : decode cX12_move 15 = .ok (.ifCond .eq 6, 3) := by decide +kernel
theorem dX12_move_18 : decode cX12_move 18 = .ok (.iload_n 3, 1) := by decide +kernel
theorem dX12_move_19 : decode cX12_move 19 = .ok (.ineg, 1) := by decide +kernel
theorem dX12_move_2 : decode cX12_move 2 = .ok (.putfield 73, 3) := by decide +kernel
theorem dX12_move_20 : decode cX12_move 20 = .ok (.ireturn, 1) := by decide +kernel
theorem dX12_move_21 : decode cX12_move 21 = .ok (.aload_n 0, 1) := by decide +kernel
theorem dX12_move_22 : decode cX12_move 22 = .ok (.invokevirtual 375, 3) := by decide +kernel
theorem dX12_move_25 : decode cX12_move 25 = .ok (.aload_n 0, 1) := by decide +kernel
theorem dX12_move_26 : decode cX12_move 26 = .ok (.iload_n 1, 1) := by decide +kernel
theorem dX12_move_27 : decode cX12_move 27 = .ok (.iload_n 2, 1) := by decide +kernel
theorem dX12_move_28 : decode cX12_move 28 = .ok (.invokevirtual 382, 3) := by decide +kernel
theorem dX12_move_31 : decode cX12_move 31 = .ok (.ireturn, 1) := by decide +kernel
theorem dX12_move_5 : decode cX12_move 5 = .ok (.aload_n 0, 1) := by decide +kernel
theorem dX12_move_6 : decode cX12_move 6 = .ok (.iload_n 1, 1) := by decide +kernel
theorem dX12_move_7 : decode cX12_move 7 = .ok (.i2l, 1) := by decide +kernel
theorem dX12_move_8 : decode cX12_move 8 = .ok (.iload_n 2, 1) := by decide +kernel
theorem dX12_move_9 : decode cX12_move 9 = .ok (.i2l, 1) := by decide +kernel
theorem dX12_oddRingOf_0 : decode cX12_oddRingOf 0 = .ok (.iconst 3, 1) := by decide +kernel
theorem dX12_oddRingOf_1 : decode cX12_oddRingOf 1 = .ok (.istore_n 1, 1) := by decide +kernel
theorem dX12_oddRingOf_10 : decode cX12_oddRingOf 10 = .ok (.iconst 0, 1) := by decide +kernel
theorem dX12_oddRingOf_11 : decode cX12_oddRingOf 11 = .ok (.istore_n 2, 1) := by decide +kernel
theorem dX12_oddRingOf_12 : decode cX12_oddRingOf 12 = .ok (.iload_n 2, 1) := by decide +kernel
theorem dX12_oddRingOf_13 : decode cX12_oddRingOf 13 = .ok (.iconst 1, 1) := by decide +kernel
theorem dX12_oddRingOf_14 : decode cX12_oddRingOf 14 = .ok (.aload_n 0, 1) := by decide +kernel
theorem dX12_oddRingOf_15 : decode cX12_oddRingOf 15 = .ok (.invokevirtual 273, 3) := by decide +kernel
theorem dX12_oddRingOf_18 : decode cX12_oddRingOf 18 = .ok (.ishl, 1) := by decide +kernel
theorem dX12_oddRingOf_19 : decode cX12_oddRingOf 19 = .ok (.if_icmp .ge 54, 3) := by decide +kernel
theorem dX12_oddRingOf_2 : decode cX12_oddRingOf 2 = .ok (.iload_n 1, 1) := by decide +kernel
theorem dX12_oddRingOf_22 : decode cX12_oddRingOf 22 = .ok (.iload_n 2, 1) := by decide +kernel
theorem dX12_oddRingOf_23 : decode cX12_oddRingOf 23 = .ok (.invokestatic 332, 3) := by decide +kernel
theorem dX12_oddRingOf_26 : decode cX12_oddRingOf 26 = .ok (.iload_n 1, 1) := by decide +kernel
theorem dX12_oddRingOf_27 : decode cX12_oddRingOf 27 = .ok (.if_icmp .eq 6, 3) := by decide +kernel
theorem dX12_oddRingOf_3 : decode cX12_oddRingOf 3 = .ok (.aload_n 0, 1) := by decide +kernel
theorem dX12_oddRingOf_30 : decode cX12_oddRingOf 30 = .ok (.goto 37, 3) := by decide +kernel
theorem dX12_oddRingOf_33 : decode cX12_oddRingOf 33 = .ok (.iconst 0, 1) := by decide +kernel
theorem dX12_oddRingOf_34 : decode cX12_oddRingOf 34 = .ok (.istore_n 3, 1) := by decide +kernel
theorem dX12_oddRingOf_35 : decode cX12_oddRingOf 35 = .ok (.iload_n 2, 1) := by decide +kernel
theorem dX12_oddRingOf_36 : decode cX12_oddRingOf 36 = .ok (.iload_n 3, 1) := by decide +kernel
theorem dX12_oddRingOf_37 : decode cX12_oddRingOf 37 = .ok (.invokestatic 346, 3) := by decide +kernel
theorem dX12_oddRingOf_4 : decode cX12_oddRingOf 4 = .ok (.invokevirtual 273, 3) := by decide +kernel
theorem dX12_oddRingOf_40 : decode cX12_oddRingOf 40 = .ok (.ifCond .ne 9, 3) := by decide +kernel
theorem dX12_oddRingOf_43 : decode cX12_oddRingOf 43 = .ok (.iinc 3 1, 3) := by decide +kernel
theorem dX12_oddRingOf_46 : decode cX12_oddRingOf 46 = .ok (.goto (-11), 3) := by decide +kernel
theorem dX12_oddRingOf_49 : decode cX12_oddRingOf 49 = .ok (.aload_n 0, 1) := by decide +kernel
theorem dX12_oddRingOf_50 : decode cX12_oddRingOf 50 = .ok (.iload_n 3, 1) := by decide +kernel
theorem dX12_oddRingOf_51 : decode cX12_oddRingOf 51 = .ok (.iload_n 3, 1) := by decide +kernel
theorem dX12_oddRingOf_52 : decode cX12_oddRingOf 52 = .ok (.iload_n 2, 1) := by decide +kernel
theorem dX12_oddRingOf_53 : decode cX12_oddRingOf 53 = .ok (.iconst 1, 1) := by decide +kernel
theorem dX12_oddRingOf_54 : decode cX12_oddRingOf 54 = .ok (.iload_n 3, 1) := by decide +kernel
theorem dX12_oddRingOf_55 : decode cX12_oddRingOf 55 = .ok (.ishl, 1) := by decide +kernel
theorem dX12_oddRingOf_56 : decode cX12_oddRingOf 56 = .ok (.iconst (-1), 1) := by decide +kernel
theorem dX12_oddRingOf_57 : decode cX12_oddRingOf 57 = .ok (.ixor, 1) := by decide +kernel
theorem dX12_oddRingOf_58 : decode cX12_oddRingOf 58 = .ok (.iand, 1) := by decide +kernel
theorem dX12_oddRingOf_59 : decode cX12_oddRingOf 59 = .ok (.invokevirtual 427, 3) := by decide +kernel
theorem dX12_oddRingOf_62 : decode cX12_oddRingOf 62 = .ok (.ifCond .eq 5, 3) := by decide +kernel
theorem dX12_oddRingOf_65 : decode cX12_oddRingOf 65 = .ok (.iload_n 2, 1) := by decide +kernel
theorem dX12_oddRingOf_66 : decode cX12_oddRingOf 66 = .ok (.ireturn, 1) := by decide +kernel
theorem dX12_oddRingOf_67 : decode cX12_oddRingOf 67 = .ok (.iinc 2 1, 3) := by decide +kernel
theorem dX12_oddRingOf_7 : decode cX12_oddRingOf 7 = .ok (.if_icmp .gt 72, 3) := by decide +kernel
theorem dX12_oddRingOf_70 : decode cX12_oddRingOf 70 = .ok (.goto (-58), 3) := by decide +kernel
theorem dX12_oddRingOf_73 : decode cX12_oddRingOf 73 = .ok (.iinc 1 2, 3) := by decide +kernel
theorem dX12_oddRingOf_76 : decode cX12_oddRingOf 76 = .ok (.goto (-74), 3) := by decide +kernel
theorem dX12_oddRingOf_79 : decode cX12_oddRingOf 79 = .ok (.iconst (-1), 1) := by decide +kernel
theorem dX12_oddRingOf_80 : decode cX12_oddRingOf 80 = .ok (.ireturn, 1) := by decide +kernel
theorem dX12_oddRing_0 : decode cX12_oddRing 0 = .ok (.aload_n 0, 1) := by decide +kernel
theorem dX12_oddRing_1 : decode cX12_oddRing 1 = .ok (.iconst 0, 1) := by decide +kernel
theorem dX12_oddRing_12 : decode cX12_oddRing 12 = .ok (.ifCond .ne 9, 3) := by decide +kernel
theorem dX12_oddRing_15 : decode cX12_oddRing 15 = .ok (.aload_n 0, 1) := by decide +kernel
theorem dX12_oddRing_16 : decode cX12_oddRing 16 = .ok (.iconst 1, 1) := by decide +kernel
theorem dX12_oddRing_17 : decode cX12_oddRing 17 = .ok (.invokevirtual 262, 3) := by decide +kernel
theorem dX12_oddRing_2 : decode cX12_oddRing 2 = .ok (.putfield 73, 3) := by decide +kernel
theorem dX12_oddRing_20 : decode cX12_oddRing 20 = .ok (.ireturn, 1) := by decide +kernel
theorem dX12_oddRing_21 : decode cX12_oddRing 21 = .ok (.aload_n 0, 1) := by decide +kernel
theorem dX12_oddRing_22 : decode cX12_oddRing 22 = .ok (.invokevirtual 430, 3) := by decide +kernel
theorem dX12_oddRing_25 : decode cX12_oddRing 25 = .ok (.istore_n 2, 1) := by decide +kernel
theorem dX12_oddRing_26 : decode cX12_oddRing 26 = .ok (.iload_n 2, 1) := by decide +kernel
theorem dX12_oddRing_27 : decode cX12_oddRing 27 = .ok (.iconst (-1), 1) := by decide +kernel
theorem dX12_oddRing_28 : decode cX12_oddRing 28 = .ok (.if_icmp .eq 8, 3) := by decide +kernel
theorem dX12_oddRing_31 : decode cX12_oddRing 31 = .ok (.iload_n 1, 1) := by decide +kernel
theorem dX12_oddRing_32 : decode cX12_oddRing 32 = .ok (.iconst 1, 1) := by decide +kernel
theorem dX12_oddRing_33 : decode cX12_oddRing 33 = .ok (.if_icmp .ne 7, 3) := by decide +kernel
theorem dX12_oddRing_36 : decode cX12_oddRing 36 = .ok (.iload_n 2, 1) := by decide +kernel
theorem dX12_oddRing_37 : decode cX12_oddRing 37 = .ok (.goto 7, 3) := by decide +kernel
theorem dX12_oddRing_40 : decode cX12_oddRing 40 = .ok (.iload_n 2, 1) := by decide +kernel
theorem dX12_oddRing_41 : decode cX12_oddRing 41 = .ok (.invokestatic 332, 3) := by decide +kernel
theorem dX12_oddRing_44 : decode cX12_oddRing 44 = .ok (.ireturn, 1) := by decide +kernel
theorem dX12_oddRing_5 : decode cX12_oddRing 5 = .ok (.iload_n 1, 1) := by decide +kernel
theorem dX12_oddRing_6 : decode cX12_oddRing 6 = .ok (.i2l, 1) := by decide +kernel
theorem dX12_oddRing_7 : decode cX12_oddRing 7 = .ok (.lconst 0, 1) := by decide +kernel
theorem dX12_oddRing_8 : decode cX12_oddRing 8 = .ok (.lconst 1, 1) := by decide +kernel
theorem dX12_oddRing_9 : decode cX12_oddRing 9 = .ok (.invokestatic 137, 3) := by decide +kernel
theorem dX12_perform_0 : decode cX12_perform 0 = .ok (.aload_n 0, 1) := by decide +kernel
theorem dX12_perform_1 : decode cX12_perform 1 = .ok (.aload_n 0, 1) := by decide +kernel
theorem dX12_perform_10 : decode cX12_perform 10 = .ok (.getfield 73, 3) := by decide +kernel
theorem dX12_perform_13 : decode cX12_perform 13 = .ok (.ifCond .le 5, 3) := by decide +kernel
theorem dX12_perform_16 : decode cX12_perform 16 = .ok (.iconst 0, 1) := by decide +kernel
theorem dX12_perform_17 : decode cX12_perform 17 = .ok (.ireturn, 1) := by decide +kernel
theorem dX12_perform_18 : decode cX12_perform 18 = .ok (.iconst 0, 1) := by decide +kernel
theorem dX12_perform_19 : decode cX12_perform 19 = .ok (.istore_n 2, 1) := by decide +kernel
theorem dX12_perform_2 : decode cX12_perform 2 = .ok (.iload_n 1, 1) := by decide +kernel
theorem dX12_perform_20 : decode cX12_perform 20 = .ok (.iload_n 2, 1) := by decide +kernel
theorem dX12_perform_21 : decode cX12_perform 21 = .ok (.aload_n 0, 1) := by decide +kernel
theorem dX12_perform_22 : decode cX12_perform 22 = .ok (.getfield 66, 3) := by decide +kernel
theorem dX12_perform_25 : decode cX12_perform 25 = .ok (.iload_n 1, 1) := by decide +kernel
theorem dX12_perform_26 : decode cX12_perform 26 = .ok (.iaload, 1) := by decide +kernel
theorem dX12_perform_27 : decode cX12_perform 27 = .ok (.if_icmp .ge 47, 3) := by decide +kernel
theorem dX12_perform_3 : decode cX12_perform 3 = .ok (.invokevirtual 401, 3) := by decide +kernel
theorem dX12_perform_30 : decode cX12_perform 30 = .ok (.aload_n 0, 1) := by decide +kernel
theorem dX12_perform_31 : decode cX12_perform 31 = .ok (.aload_n 0, 1) := by decide +kernel
theorem dX12_perform_32 : decode cX12_perform 32 = .ok (.getfield 69, 3) := by decide +kernel
theorem dX12_perform_35 : decode cX12_perform 35 = .ok (.bipush 30, 2) := by decide +kernel
theorem dX12_perform_37 : decode cX12_perform 37 = .ok (.iload_n 1, 1) := by decide +kernel
theorem dX12_perform_38 : decode cX12_perform 38 = .ok (.imul, 1) := by decide +kernel
theorem dX12_perform_39 : decode cX12_perform 39 = .ok (.iload_n 2, 1) := by decide +kernel
theorem dX12_perform_40 : decode cX12_perform 40 = .ok (.iadd, 1) := by decide +kernel
theorem dX12_perform_41 : decode cX12_perform 41 = .ok (.laload, 1) := by decide +kernel
theorem dX12_perform_42 : decode cX12_perform 42 = .ok (.invokevirtual 409, 3) := by decide +kernel
theorem dX12_perform_45 : decode cX12_perform 45 = .ok (.ifCond .ne 29, 3) := by decide +kernel
theorem dX12_perform_48 : decode cX12_perform 48 = .ok (.aload_n 0, 1) := by decide +kernel
theorem dX12_perform_49 : decode cX12_perform 49 = .ok (.invokevirtual 375, 3) := by decide +kernel
theorem dX12_perform_52 : decode cX12_perform 52 = .ok (.aload_n 0, 1) := by decide +kernel
theorem dX12_perform_53 : decode cX12_perform 53 = .ok (.aload_n 0, 1) := by decide +kernel
theorem dX12_perform_54 : decode cX12_perform 54 = .ok (.getfield 69, 3) := by decide +kernel
theorem dX12_perform_57 : decode cX12_perform 57 = .ok (.bipush 30, 2) := by decide +kernel
theorem dX12_perform_59 : decode cX12_perform 59 = .ok (.iload_n 1, 1) := by decide +kernel
theorem dX12_perform_6 : decode cX12_perform 6 = .ok (.putfield 73, 3) := by decide +kernel
theorem dX12_perform_60 : decode cX12_perform 60 = .ok (.imul, 1) := by decide +kernel
theorem dX12_perform_61 : decode cX12_perform 61 = .ok (.iload_n 2, 1) := by decide +kernel
theorem dX12_perform_62 : decode cX12_perform 62 = .ok (.iadd, 1) := by decide +kernel
theorem dX12_perform_63 : decode cX12_perform 63 = .ok (.laload, 1) := by decide +kernel
theorem dX12_perform_64 : decode cX12_perform 64 = .ok (.l2i, 1) := by decide +kernel
theorem dX12_perform_65 : decode cX12_perform 65 = .ok (.invokevirtual 412, 3) := by decide +kernel
theorem dX12_perform_68 : decode cX12_perform 68 = .ok (.iinc 2 1, 3) := by decide +kernel
theorem dX12_perform_71 : decode cX12_perform 71 = .ok (.goto (-51), 3) := by decide +kernel
theorem dX12_perform_74 : decode cX12_perform 74 = .ok (.iload_n 2, 1) := by decide +kernel
theorem dX12_perform_75 : decode cX12_perform 75 = .ok (.ireturn, 1) := by decide +kernel
theorem dX12_perform_9 : decode cX12_perform 9 = .ok (.aload_n 0, 1) := by decide +kernel
theorem dX12_placing_0 : decode cX12_placing 0 = .ok (.aload_n 0, 1) := by decide +kernel
theorem dX12_placing_1 : decode cX12_placing 1 = .ok (.aload_n 0, 1) := by decide +kernel
theorem dX12_placing_10 : decode cX12_placing 10 = .ok (.iconst 1, 1) := by decide +kernel
theorem dX12_placing_11 : decode cX12_placing 11 = .ok (.goto 12, 3) := by decide +kernel
theorem dX12_placing_14 : decode cX12_placing 14 = .ok (.iload_n 1, 1) := by decide +kernel
theorem dX12_placing_15 : decode cX12_placing 15 = .ok (.ifCond .ge 7, 3) := by decide +kernel
theorem dX12_placing_18 : decode cX12_placing 18 = .ok (.iconst 2, 1) := by decide +kernel
theorem dX12_placing_19 : decode cX12_placing 19 = .ok (.goto 4, 3) := by decide +kernel
theorem dX12_placing_2 : decode cX12_placing 2 = .ok (.iload_n 2, 1) := by decide +kernel
theorem dX12_placing_22 : decode cX12_placing 22 = .ok (.iconst 0, 1) := by decide +kernel
theorem dX12_placing_23 : decode cX12_placing 23 = .ok (.putfield 73, 3) := by decide +kernel
theorem dX12_placing_26 : decode cX12_placing 26 = .ok (.aload_n 0, 1) := by decide +kernel
theorem dX12_placing_27 : decode cX12_placing 27 = .ok (.getfield 73, 3) := by decide +kernel
theorem dX12_placing_3 : decode cX12_placing 3 = .ok (.i2l, 1) := by decide +kernel
theorem dX12_placing_30 : decode cX12_placing 30 = .ok (.ifCond .le 5, 3) := by decide +kernel
theorem dX12_placing_33 : decode cX12_placing 33 = .ok (.iconst 0, 1) := by decide +kernel
theorem dX12_placing_34 : decode cX12_placing 34 = .ok (.ireturn, 1) := by decide +kernel
theorem dX12_placing_35 : decode cX12_placing 35 = .ok (.aload_n 0, 1) := by decide +kernel
theorem dX12_placing_36 : decode cX12_placing 36 = .ok (.iload_n 1, 1) := by decide +kernel
theorem dX12_placing_37 : decode cX12_placing 37 = .ok (.iconst 0, 1) := by decide +kernel
theorem dX12_placing_38 : decode cX12_placing 38 = .ok (.invokevirtual 456, 3) := by decide +kernel
theorem dX12_placing_4 : decode cX12_placing 4 = .ok (.invokevirtual 335, 3) := by decide +kernel
theorem dX12_placing_41 : decode cX12_placing 41 = .ok (.iload_n 1, 1) := by decide +kernel
theorem dX12_placing_42 : decode cX12_placing 42 = .ok (.if_icmp .le 12, 3) := by decide +kernel
theorem dX12_placing_45 : decode cX12_placing 45 = .ok (.aload_n 0, 1) := by decide +kernel
theorem dX12_placing_46 : decode cX12_placing 46 = .ok (.getfield 39, 3) := by decide +kernel
theorem dX12_placing_49 : decode cX12_placing 49 = .ok (.iload_n 2, 1) := by decide +kernel
theorem dX12_placing_50 : decode cX12_placing 50 = .ok (.iaload, 1) := by decide +kernel
theorem dX12_placing_51 : decode cX12_placing 51 = .ok (.goto 4, 3) := by decide +kernel
theorem dX12_placing_54 : decode cX12_placing 54 = .ok (.iconst (-1), 1) := by decide +kernel
theorem dX12_placing_55 : decode cX12_placing 55 = .ok (.ireturn, 1) := by decide +kernel
theorem dX12_placing_7 : decode cX12_placing 7 = .ok (.ifCond .ne 7, 3) := by decide +kernel
theorem dX12_placings_0 : decode cX12_placings 0 = .ok (.aload_n 0, 1) := by decide +kernel
theorem dX12_placings_1 : decode cX12_placings 1 = .ok (.iconst 0, 1) := by decide +kernel
theorem dX12_placings_11 : decode cX12_placings 11 = .ok (.ireturn, 1) := by decide +kernel
theorem dX12_placings_2 : decode cX12_placings 2 = .ok (.putfield 73, 3) := by decide +kernel
theorem dX12_placings_5 : decode cX12_placings 5 = .ok (.aload_n 0, 1) := by decide +kernel
theorem dX12_placings_6 : decode cX12_placings 6 = .ok (.iconst (-1), 1) := by decide +kernel
theorem dX12_placings_7 : decode cX12_placings 7 = .ok (.iconst 0, 1) := by decide +kernel
theorem dX12_placings_8 : decode cX12_placings 8 = .ok (.invokevirtual 456, 3) := by decide +kernel
theorem dX12_season_0 : decode cX12_season 0 = .ok (.aload_n 0, 1) := by decide +kernel
theorem dX12_season_1 : decode cX12_season 1 = .ok (.iload_n 2, 1) := by decide +kernel
theorem dX12_season_10 : decode cX12_season 10 = .ok (.ifCond .ne 7, 3) := by decide +kernel
theorem dX12_season_101 : decode cX12_season 101 = .ok (.invokevirtual 424, 3) := by decide +kernel
theorem dX12_season_104 : decode cX12_season 104 = .ok (.iadd, 1) := by decide +kernel
theorem dX12_season_105 : decode cX12_season 105 = .ok (.goto 17, 3) := by decide +kernel
theorem dX12_season_108 : decode cX12_season 108 = .ok (.bipush 10, 2) := by decide +kernel
theorem dX12_season_110 : decode cX12_season 110 = .ok (.iload 7, 2) := by decide +kernel
theorem dX12_season_112 : decode cX12_season 112 = .ok (.imul, 1) := by decide +kernel
theorem dX12_season_113 : decode cX12_season 113 = .ok (.aload_n 0, 1) := by decide +kernel
theorem dX12_season_114 : decode cX12_season 114 = .ok (.aload_n 0, 1) := by decide +kernel
theorem dX12_season_115 : decode cX12_season 115 = .ok (.invokevirtual 273, 3) := by decide +kernel
theorem dX12_season_118 : decode cX12_season 118 = .ok (.invokevirtual 424, 3) := by decide +kernel
theorem dX12_season_121 : decode cX12_season 121 = .ok (.iadd, 1) := by decide +kernel
theorem dX12_season_122 : decode cX12_season 122 = .ok (.istore 6, 2) := by decide +kernel
theorem dX12_season_124 : decode cX12_season 124 = .ok (.aload_n 0, 1) := by decide +kernel
theorem dX12_season_125 : decode cX12_season 125 = .ok (.iload 6, 2) := by decide +kernel
theorem dX12_season_127 : decode cX12_season 127 = .ok (.i2l, 1) := by decide +kernel
theorem dX12_season_128 : decode cX12_season 128 = .ok (.invokevirtual 409, 3) := by decide +kernel
theorem dX12_season_13 : decode cX12_season 13 = .ok (.iconst 1, 1) := by decide +kernel
theorem dX12_season_131 : decode cX12_season 131 = .ok (.ifCond .eq 6, 3) := by decide +kernel
theorem dX12_season_134 : decode cX12_season 134 = .ok (.goto 16, 3) := by decide +kernel
theorem dX12_season_137 : decode cX12_season 137 = .ok (.aload_n 0, 1) := by decide +kernel
theorem dX12_season_138 : decode cX12_season 138 = .ok (.invokevirtual 375, 3) := by decide +kernel
theorem dX12_season_14 : decode cX12_season 14 = .ok (.goto 15, 3) := by decide +kernel
theorem dX12_season_141 : decode cX12_season 141 = .ok (.aload_n 0, 1) := by decide +kernel
theorem dX12_season_142 : decode cX12_season 142 = .ok (.iload 6, 2) := by decide +kernel
theorem dX12_season_144 : decode cX12_season 144 = .ok (.invokevirtual 412, 3) := by decide +kernel
theorem dX12_season_147 : decode cX12_season 147 = .ok (.iinc 3 1, 3) := by decide +kernel
theorem dX12_season_150 : decode cX12_season 150 = .ok (.iinc 4 1, 3) := by decide +kernel
theorem dX12_season_153 : decode cX12_season 153 = .ok (.goto (-102), 3) := by decide +kernel
theorem dX12_season_156 : decode cX12_season 156 = .ok (.iload_n 3, 1) := by decide +kernel
theorem dX12_season_157 : decode cX12_season 157 = .ok (.ireturn, 1) := by decide +kernel
theorem dX12_season_17 : decode cX12_season 17 = .ok (.aload_n 0, 1) := by decide +kernel
theorem dX12_season_18 : decode cX12_season 18 = .ok (.invokevirtual 275, 3) := by decide +kernel
theorem dX12_season_2 : decode cX12_season 2 = .ok (.i2l, 1) := by decide +kernel
theorem dX12_season_21 : decode cX12_season 21 = .ok (.ifCond .ne 7, 3) := by decide +kernel
theorem dX12_season_24 : decode cX12_season 24 = .ok (.iconst 2, 1) := by decide +kernel
theorem dX12_season_25 : decode cX12_season 25 = .ok (.goto 4, 3) := by decide +kernel
theorem dX12_season_28 : decode cX12_season 28 = .ok (.iconst 0, 1) := by decide +kernel
theorem dX12_season_29 : decode cX12_season 29 = .ok (.putfield 73, 3) := by decide +kernel
theorem dX12_season_3 : decode cX12_season 3 = .ok (.lconst 1, 1) := by decide +kernel
theorem dX12_season_32 : decode cX12_season 32 = .ok (.aload_n 0, 1) := by decide +kernel
theorem dX12_season_33 : decode cX12_season 33 = .ok (.getfield 73, 3) := by decide +kernel
theorem dX12_season_36 : decode cX12_season 36 = .ok (.ifCond .le 5, 3) := by decide +kernel
theorem dX12_season_39 : decode cX12_season 39 = .ok (.iconst 0, 1) := by decide +kernel
theorem dX12_season_4 : decode cX12_season 4 = .ok (.ldc2_w 422, 3) := by decide +kernel
theorem dX12_season_40 : decode cX12_season 40 = .ok (.ireturn, 1) := by decide +kernel
theorem dX12_season_41 : decode cX12_season 41 = .ok (.aload_n 0, 1) := by decide +kernel
theorem dX12_season_42 : decode cX12_season 42 = .ok (.iload_n 1, 1) := by decide +kernel
theorem dX12_season_43 : decode cX12_season 43 = .ok (.putfield 419, 3) := by decide +kernel
theorem dX12_season_46 : decode cX12_season 46 = .ok (.iconst 0, 1) := by decide +kernel
theorem dX12_season_47 : decode cX12_season 47 = .ok (.istore_n 3, 1) := by decide +kernel
theorem dX12_season_48 : decode cX12_season 48 = .ok (.iconst 0, 1) := by decide +kernel
theorem dX12_season_49 : decode cX12_season 49 = .ok (.istore 4, 2) := by decide +kernel
theorem dX12_season_51 : decode cX12_season 51 = .ok (.iload 4, 2) := by decide +kernel
theorem dX12_season_53 : decode cX12_season 53 = .ok (.iload_n 2, 1) := by decide +kernel
theorem dX12_season_54 : decode cX12_season 54 = .ok (.if_icmp .ge 102, 3) := by decide +kernel
theorem dX12_season_57 : decode cX12_season 57 = .ok (.aload_n 0, 1) := by decide +kernel
theorem dX12_season_58 : decode cX12_season 58 = .ok (.iconst 3, 1) := by decide +kernel
theorem dX12_season_59 : decode cX12_season 59 = .ok (.invokevirtual 424, 3) := by decide +kernel
theorem dX12_season_62 : decode cX12_season 62 = .ok (.istore 5, 2) := by decide +kernel
theorem dX12_season_64 : decode cX12_season 64 = .ok (.iconst (-1), 1) := by decide +kernel
theorem dX12_season_65 : decode cX12_season 65 = .ok (.istore 6, 2) := by decide +kernel
theorem dX12_season_67 : decode cX12_season 67 = .ok (.iload 5, 2) := by decide +kernel
theorem dX12_season_69 : decode cX12_season 69 = .ok (.ifCond .le 55, 3) := by decide +kernel
theorem dX12_season_7 : decode cX12_season 7 = .ok (.invokestatic 137, 3) := by decide +kernel
theorem dX12_season_72 : decode cX12_season 72 = .ok (.aload_n 0, 1) := by decide +kernel
theorem dX12_season_73 : decode cX12_season 73 = .ok (.aload_n 0, 1) := by decide +kernel
theorem dX12_season_74 : decode cX12_season 74 = .ok (.invokevirtual 275, 3) := by decide +kernel
theorem dX12_season_77 : decode cX12_season 77 = .ok (.invokevirtual 424, 3) := by decide +kernel
theorem dX12_season_80 : decode cX12_season 80 = .ok (.istore 7, 2) := by decide +kernel
theorem dX12_season_82 : decode cX12_season 82 = .ok (.iload 5, 2) := by decide +kernel
theorem dX12_season_84 : decode cX12_season 84 = .ok (.iconst 1, 1) := by decide +kernel
theorem dX12_season_85 : decode cX12_season 85 = .ok (.if_icmp .ne 23, 3) := by decide +kernel
theorem dX12_season_88 : decode cX12_season 88 = .ok (.bipush 100, 2) := by decide +kernel
theorem dX12_season_90 : decode cX12_season 90 = .ok (.bipush 10, 2) := by decide +kernel
theorem dX12_season_92 : decode cX12_season 92 = .ok (.iload 7, 2) := by decide +kernel
theorem dX12_season_94 : decode cX12_season 94 = .ok (.imul, 1) := by decide +kernel
theorem dX12_season_95 : decode cX12_season 95 = .ok (.iadd, 1) := by decide +kernel
theorem dX12_season_96 : decode cX12_season 96 = .ok (.iconst 1, 1) := by decide +kernel
theorem dX12_season_97 : decode cX12_season 97 = .ok (.iadd, 1) := by decide +kernel
theorem dX12_season_98 : decode cX12_season 98 = .ok (.aload_n 0, 1) := by decide +kernel
theorem dX12_season_99 : decode cX12_season 99 = .ok (.bipush 9, 2) := by decide +kernel
theorem dX12_sides_0 : decode cX12_sides 0 = .ok (.aload_n 0, 1) := by decide +kernel
theorem dX12_sides_1 : decode cX12_sides 1 = .ok (.iconst 0, 1) := by decide +kernel
theorem dX12_sides_10 : decode cX12_sides 10 = .ok (.istore_n 3, 1) := by decide +kernel
theorem dX12_sides_101 : decode cX12_sides 101 = .ok (.ishl, 1) := by decide +kernel
theorem dX12_sides_102 : decode cX12_sides 102 = .ok (.goto 4, 3) := by decide +kernel
theorem dX12_sides_105 : decode cX12_sides 105 = .ok (.iconst 0, 1) := by decide +kernel
theorem dX12_sides_106 : decode cX12_sides 106 = .ok (.ior, 1) := by decide +kernel
theorem dX12_sides_107 : decode cX12_sides 107 = .ok (.istore_n 2, 1) := by decide +kernel
theorem dX12_sides_108 : decode cX12_sides 108 = .ok (.iload_n 1, 1) := by decide +kernel
theorem dX12_sides_109 : decode cX12_sides 109 = .ok (.iload_n 2, 1) := by decide +kernel
theorem dX12_sides_11 : decode cX12_sides 11 = .ok (.iload_n 3, 1) := by decide +kernel
theorem dX12_sides_110 : decode cX12_sides 110 = .ok (.iload 5, 2) := by decide +kernel
theorem dX12_sides_112 : decode cX12_sides 112 = .ok (.invokestatic 346, 3) := by decide +kernel
theorem dX12_sides_115 : decode cX12_sides 115 = .ok (.ifCond .eq 10, 3) := by decide +kernel
theorem dX12_sides_118 : decode cX12_sides 118 = .ok (.iconst 1, 1) := by decide +kernel
theorem dX12_sides_119 : decode cX12_sides 119 = .ok (.iload 6, 2) := by decide +kernel
theorem dX12_sides_12 : decode cX12_sides 12 = .ok (.aload_n 0, 1) := by decide +kernel
theorem dX12_sides_121 : decode cX12_sides 121 = .ok (.ishl, 1) := by decide +kernel
theorem dX12_sides_122 : decode cX12_sides 122 = .ok (.goto 4, 3) := by decide +kernel
theorem dX12_sides_125 : decode cX12_sides 125 = .ok (.iconst 0, 1) := by decide +kernel
theorem dX12_sides_126 : decode cX12_sides 126 = .ok (.ior, 1) := by decide +kernel
theorem dX12_sides_127 : decode cX12_sides 127 = .ok (.istore_n 1, 1) := by decide +kernel
theorem dX12_sides_128 : decode cX12_sides 128 = .ok (.iinc 6 1, 3) := by decide +kernel
theorem dX12_sides_13 : decode cX12_sides 13 = .ok (.invokevirtual 273, 3) := by decide +kernel
theorem dX12_sides_131 : decode cX12_sides 131 = .ok (.goto (-66), 3) := by decide +kernel
theorem dX12_sides_134 : decode cX12_sides 134 = .ok (.iinc 5 1, 3) := by decide +kernel
theorem dX12_sides_137 : decode cX12_sides 137 = .ok (.goto (-84), 3) := by decide +kernel
theorem dX12_sides_140 : decode cX12_sides 140 = .ok (.iinc 4 1, 3) := by decide +kernel
theorem dX12_sides_143 : decode cX12_sides 143 = .ok (.goto (-102), 3) := by decide +kernel
theorem dX12_sides_146 : decode cX12_sides 146 = .ok (.iinc 3 1, 3) := by decide +kernel
theorem dX12_sides_149 : decode cX12_sides 149 = .ok (.goto (-138), 3) := by decide +kernel
theorem dX12_sides_152 : decode cX12_sides 152 = .ok (.iload_n 1, 1) := by decide +kernel
theorem dX12_sides_153 : decode cX12_sides 153 = .ok (.iload_n 2, 1) := by decide +kernel
theorem dX12_sides_154 : decode cX12_sides 154 = .ok (.iand, 1) := by decide +kernel
theorem dX12_sides_155 : decode cX12_sides 155 = .ok (.ifCond .eq 7, 3) := by decide +kernel
theorem dX12_sides_158 : decode cX12_sides 158 = .ok (.iconst (-1), 1) := by decide +kernel
theorem dX12_sides_159 : decode cX12_sides 159 = .ok (.goto 4, 3) := by decide +kernel
theorem dX12_sides_16 : decode cX12_sides 16 = .ok (.if_icmp .ge 136, 3) := by decide +kernel
theorem dX12_sides_162 : decode cX12_sides 162 = .ok (.iload_n 1, 1) := by decide +kernel
theorem dX12_sides_163 : decode cX12_sides 163 = .ok (.ireturn, 1) := by decide +kernel
theorem dX12_sides_19 : decode cX12_sides 19 = .ok (.iload_n 1, 1) := by decide +kernel
theorem dX12_sides_2 : decode cX12_sides 2 = .ok (.putfield 73, 3) := by decide +kernel
theorem dX12_sides_20 : decode cX12_sides 20 = .ok (.iload_n 2, 1) := by decide +kernel
theorem dX12_sides_21 : decode cX12_sides 21 = .ok (.ior, 1) := by decide +kernel
theorem dX12_sides_22 : decode cX12_sides 22 = .ok (.iload_n 3, 1) := by decide +kernel
theorem dX12_sides_23 : decode cX12_sides 23 = .ok (.invokestatic 346, 3) := by decide +kernel
theorem dX12_sides_26 : decode cX12_sides 26 = .ok (.ifCond .eq 6, 3) := by decide +kernel
theorem dX12_sides_29 : decode cX12_sides 29 = .ok (.goto 117, 3) := by decide +kernel
theorem dX12_sides_32 : decode cX12_sides 32 = .ok (.iload_n 1, 1) := by decide +kernel
theorem dX12_sides_33 : decode cX12_sides 33 = .ok (.iconst 1, 1) := by decide +kernel
theorem dX12_sides_34 : decode cX12_sides 34 = .ok (.iload_n 3, 1) := by decide +kernel
theorem dX12_sides_35 : decode cX12_sides 35 = .ok (.ishl, 1) := by decide +kernel
theorem dX12_sides_36 : decode cX12_sides 36 = .ok (.ior, 1) := by decide +kernel
theorem dX12_sides_37 : decode cX12_sides 37 = .ok (.istore_n 1, 1) := by decide +kernel
theorem dX12_sides_38 : decode cX12_sides 38 = .ok (.iconst 0, 1) := by decide +kernel
theorem dX12_sides_39 : decode cX12_sides 39 = .ok (.istore 4, 2) := by decide +kernel
theorem dX12_sides_41 : decode cX12_sides 41 = .ok (.iload 4, 2) := by decide +kernel
theorem dX12_sides_43 : decode cX12_sides 43 = .ok (.aload_n 0, 1) := by decide +kernel
theorem dX12_sides_44 : decode cX12_sides 44 = .ok (.invokevirtual 273, 3) := by decide +kernel
theorem dX12_sides_47 : decode cX12_sides 47 = .ok (.if_icmp .ge 99, 3) := by decide +kernel
theorem dX12_sides_5 : decode cX12_sides 5 = .ok (.iconst 0, 1) := by decide +kernel
theorem dX12_sides_50 : decode cX12_sides 50 = .ok (.iconst 0, 1) := by decide +kernel
theorem dX12_sides_51 : decode cX12_sides 51 = .ok (.istore 5, 2) := by decide +kernel
theorem dX12_sides_53 : decode cX12_sides 53 = .ok (.iload 5, 2) := by decide +kernel
theorem dX12_sides_55 : decode cX12_sides 55 = .ok (.aload_n 0, 1) := by decide +kernel
theorem dX12_sides_56 : decode cX12_sides 56 = .ok (.invokevirtual 273, 3) := by decide +kernel
theorem dX12_sides_59 : decode cX12_sides 59 = .ok (.if_icmp .ge 81, 3) := by decide +kernel
theorem dX12_sides_6 : decode cX12_sides 6 = .ok (.istore_n 1, 1) := by decide +kernel
theorem dX12_sides_62 : decode cX12_sides 62 = .ok (.iconst 0, 1) := by decide +kernel
theorem dX12_sides_63 : decode cX12_sides 63 = .ok (.istore 6, 2) := by decide +kernel
theorem dX12_sides_65 : decode cX12_sides 65 = .ok (.iload 6, 2) := by decide +kernel
theorem dX12_sides_67 : decode cX12_sides 67 = .ok (.aload_n 0, 1) := by decide +kernel
theorem dX12_sides_68 : decode cX12_sides 68 = .ok (.invokevirtual 273, 3) := by decide +kernel
theorem dX12_sides_7 : decode cX12_sides 7 = .ok (.iconst 0, 1) := by decide +kernel
theorem dX12_sides_71 : decode cX12_sides 71 = .ok (.if_icmp .ge 63, 3) := by decide +kernel
theorem dX12_sides_74 : decode cX12_sides 74 = .ok (.aload_n 0, 1) := by decide +kernel
theorem dX12_sides_75 : decode cX12_sides 75 = .ok (.iload 5, 2) := by decide +kernel
theorem dX12_sides_77 : decode cX12_sides 77 = .ok (.iload 6, 2) := by decide +kernel
theorem dX12_sides_79 : decode cX12_sides 79 = .ok (.invokevirtual 320, 3) := by decide +kernel
theorem dX12_sides_8 : decode cX12_sides 8 = .ok (.istore_n 2, 1) := by decide +kernel
theorem dX12_sides_82 : decode cX12_sides 82 = .ok (.ifCond .ne 6, 3) := by decide +kernel
theorem dX12_sides_85 : decode cX12_sides 85 = .ok (.goto 43, 3) := by decide +kernel
theorem dX12_sides_88 : decode cX12_sides 88 = .ok (.iload_n 2, 1) := by decide +kernel
theorem dX12_sides_89 : decode cX12_sides 89 = .ok (.iload_n 1, 1) := by decide +kernel
theorem dX12_sides_9 : decode cX12_sides 9 = .ok (.iconst 0, 1) := by decide +kernel
theorem dX12_sides_90 : decode cX12_sides 90 = .ok (.iload 5, 2) := by decide +kernel
theorem dX12_sides_92 : decode cX12_sides 92 = .ok (.invokestatic 346, 3) := by decide +kernel
theorem dX12_sides_95 : decode cX12_sides 95 = .ok (.ifCond .eq 10, 3) := by decide +kernel
theorem dX12_sides_98 : decode cX12_sides 98 = .ok (.iconst 1, 1) := by decide +kernel
theorem dX12_sides_99 : decode cX12_sides 99 = .ok (.iload 6, 2) := by decide +kernel
theorem dX12_trayFault_0 : decode cX12_trayFault 0 = .ok (.iload_n 1, 1) := by decide +kernel
theorem dX12_trayFault_1 : decode cX12_trayFault 1 = .ok (.invokestatic 390, 3) := by decide +kernel
theorem dX12_trayFault_11 : decode cX12_trayFault 11 = .ok (.aload_n 0, 1) := by decide +kernel
theorem dX12_trayFault_12 : decode cX12_trayFault 12 = .ok (.getfield 63, 3) := by decide +kernel
theorem dX12_trayFault_15 : decode cX12_trayFault 15 = .ok (.iload_n 1, 1) := by decide +kernel
theorem dX12_trayFault_16 : decode cX12_trayFault 16 = .ok (.iaload, 1) := by decide +kernel
theorem dX12_trayFault_17 : decode cX12_trayFault 17 = .ok (.iconst (-1), 1) := by decide +kernel
theorem dX12_trayFault_18 : decode cX12_trayFault 18 = .ok (.if_icmp .ne 7, 3) := by decide +kernel
theorem dX12_trayFault_21 : decode cX12_trayFault 21 = .ok (.iconst 2, 1) := by decide +kernel
theorem dX12_trayFault_22 : decode cX12_trayFault 22 = .ok (.goto 4, 3) := by decide +kernel
theorem dX12_trayFault_25 : decode cX12_trayFault 25 = .ok (.iconst 0, 1) := by decide +kernel
theorem dX12_trayFault_26 : decode cX12_trayFault 26 = .ok (.ireturn, 1) := by decide +kernel
theorem dX12_trayFault_4 : decode cX12_trayFault 4 = .ok (.ifCond .ne 7, 3) := by decide +kernel
theorem dX12_trayFault_7 : decode cX12_trayFault 7 = .ok (.iconst 1, 1) := by decide +kernel
theorem dX12_trayFault_8 : decode cX12_trayFault 8 = .ok (.goto 18, 3) := by decide +kernel
theorem dX12_undo_0 : decode cX12_undo 0 = .ok (.aload_n 0, 1) := by decide +kernel
theorem dX12_undo_1 : decode cX12_undo 1 = .ok (.iconst 0, 1) := by decide +kernel
theorem dX12_undo_11 : decode cX12_undo 11 = .ok (.invokestatic 137, 3) := by decide +kernel
theorem dX12_undo_14 : decode cX12_undo 14 = .ok (.ifCond .eq 14, 3) := by decide +kernel
theorem dX12_undo_17 : decode cX12_undo 17 = .ok (.iload_n 1, 1) := by decide +kernel
theorem dX12_undo_18 : decode cX12_undo 18 = .ok (.aload_n 0, 1) := by decide +kernel
theorem dX12_undo_19 : decode cX12_undo 19 = .ok (.getfield 9, 3) := by decide +kernel
theorem dX12_undo_2 : decode cX12_undo 2 = .ok (.putfield 73, 3) := by decide +kernel
theorem dX12_undo_22 : decode cX12_undo 22 = .ok (.bipush 7, 2) := by decide +kernel
theorem dX12_undo_24 : decode cX12_undo 24 = .ok (.iaload, 1) := by decide +kernel
theorem dX12_undo_25 : decode cX12_undo 25 = .ok (.if_icmp .le 9, 3) := by decide +kernel
theorem dX12_undo_28 : decode cX12_undo 28 = .ok (.aload_n 0, 1) := by decide +kernel
theorem dX12_undo_29 : decode cX12_undo 29 = .ok (.iconst 1, 1) := by decide +kernel
theorem dX12_undo_30 : decode cX12_undo 30 = .ok (.invokevirtual 262, 3) := by decide +kernel
theorem dX12_undo_33 : decode cX12_undo 33 = .ok (.ireturn, 1) := by decide +kernel
theorem dX12_undo_34 : decode cX12_undo 34 = .ok (.aload_n 0, 1) := by decide +kernel
theorem dX12_undo_35 : decode cX12_undo 35 = .ok (.getfield 9, 3) := by decide +kernel
theorem dX12_undo_38 : decode cX12_undo 38 = .ok (.bipush 7, 2) := by decide +kernel
theorem dX12_undo_40 : decode cX12_undo 40 = .ok (.dup2, 1) := by decide +kernel
theorem dX12_undo_41 : decode cX12_undo 41 = .ok (.iaload, 1) := by decide +kernel
theorem dX12_undo_42 : decode cX12_undo 42 = .ok (.iload_n 1, 1) := by decide +kernel
theorem dX12_undo_43 : decode cX12_undo 43 = .ok (.isub, 1) := by decide +kernel
theorem dX12_undo_44 : decode cX12_undo 44 = .ok (.iastore, 1) := by decide +kernel
theorem dX12_undo_45 : decode cX12_undo 45 = .ok (.iconst 0, 1) := by decide +kernel
theorem dX12_undo_46 : decode cX12_undo 46 = .ok (.istore_n 2, 1) := by decide +kernel
theorem dX12_undo_47 : decode cX12_undo 47 = .ok (.iload_n 2, 1) := by decide +kernel
theorem dX12_undo_48 : decode cX12_undo 48 = .ok (.bipush 18, 2) := by decide +kernel
theorem dX12_undo_5 : decode cX12_undo 5 = .ok (.iload_n 1, 1) := by decide +kernel
theorem dX12_undo_50 : decode cX12_undo 50 = .ok (.if_icmp .ge 39, 3) := by decide +kernel
theorem dX12_undo_53 : decode cX12_undo 53 = .ok (.aload_n 0, 1) := by decide +kernel
theorem dX12_undo_54 : decode cX12_undo 54 = .ok (.getfield 9, 3) := by decide +kernel
theorem dX12_undo_57 : decode cX12_undo 57 = .ok (.bipush 8, 2) := by decide +kernel
theorem dX12_undo_59 : decode cX12_undo 59 = .ok (.iload_n 2, 1) := by decide +kernel
theorem dX12_undo_6 : decode cX12_undo 6 = .ok (.i2l, 1) := by decide +kernel
theorem dX12_undo_60 : decode cX12_undo 60 = .ok (.iadd, 1) := by decide +kernel
theorem dX12_undo_61 : decode cX12_undo 61 = .ok (.aload_n 0, 1) := by decide +kernel
theorem dX12_undo_62 : decode cX12_undo 62 = .ok (.getfield 9, 3) := by decide +kernel
theorem dX12_undo_65 : decode cX12_undo 65 = .ok (.sipush 168, 3) := by decide +kernel
theorem dX12_undo_68 : decode cX12_undo 68 = .ok (.bipush 18, 2) := by decide +kernel
theorem dX12_undo_7 : decode cX12_undo 7 = .ok (.lconst 1, 1) := by decide +kernel
theorem dX12_undo_70 : decode cX12_undo 70 = .ok (.aload_n 0, 1) := by decide +kernel
theorem dX12_undo_71 : decode cX12_undo 71 = .ok (.getfield 9, 3) := by decide +kernel
theorem dX12_undo_74 : decode cX12_undo 74 = .ok (.bipush 7, 2) := by decide +kernel
theorem dX12_undo_76 : decode cX12_undo 76 = .ok (.iaload, 1) := by decide +kernel
theorem dX12_undo_77 : decode cX12_undo 77 = .ok (.imul, 1) := by decide +kernel
theorem dX12_undo_78 : decode cX12_undo 78 = .ok (.iadd, 1) := by decide +kernel
theorem dX12_undo_79 : decode cX12_undo 79 = .ok (.iload_n 2, 1) := by decide +kernel
theorem dX12_undo_8 : decode cX12_undo 8 = .ok (.ldc2_w 388, 3) := by decide +kernel
theorem dX12_undo_80 : decode cX12_undo 80 = .ok (.iadd, 1) := by decide +kernel
theorem dX12_undo_81 : decode cX12_undo 81 = .ok (.iaload, 1) := by decide +kernel
theorem dX12_undo_82 : decode cX12_undo 82 = .ok (.iastore, 1) := by decide +kernel
theorem dX12_undo_83 : decode cX12_undo 83 = .ok (.iinc 2 1, 3) := by decide +kernel
theorem dX12_undo_86 : decode cX12_undo 86 = .ok (.goto (-39), 3) := by decide +kernel
theorem dX12_undo_89 : decode cX12_undo 89 = .ok (.aload_n 0, 1) := by decide +kernel
theorem dX12_undo_90 : decode cX12_undo 90 = .ok (.getfield 9, 3) := by decide +kernel
theorem dX12_undo_93 : decode cX12_undo 93 = .ok (.bipush 7, 2) := by decide +kernel
theorem dX12_undo_95 : decode cX12_undo 95 = .ok (.iaload, 1) := by decide +kernel
theorem dX12_undo_96 : decode cX12_undo 96 = .ok (.ireturn, 1) := by decide +kernel
theorem dX12_whyTold_0 : decode cX12_whyTold 0 = .ok (.lload_n 1, 1) := by decide +kernel
theorem dX12_whyTold_1 : decode cX12_whyTold 1 = .ok (.ldc2_w 393, 3) := by decide +kernel
theorem dX12_whyTold_10 : decode cX12_whyTold 10 = .ok (.lload_n 1, 1) := by decide +kernel
theorem dX12_whyTold_11 : decode cX12_whyTold 11 = .ok (.lconst 0, 1) := by decide +kernel
theorem dX12_whyTold_12 : decode cX12_whyTold 12 = .ok (.ldc2_w 373, 3) := by decide +kernel
theorem dX12_whyTold_15 : decode cX12_whyTold 15 = .ok (.invokestatic 137, 3) := by decide +kernel
theorem dX12_whyTold_18 : decode cX12_whyTold 18 = .ok (.ifCond .eq 18, 3) := by decide +kernel
theorem dX12_whyTold_21 : decode cX12_whyTold 21 = .ok (.aload_n 0, 1) := by decide +kernel
theorem dX12_whyTold_22 : decode cX12_whyTold 22 = .ok (.lload_n 1, 1) := by decide +kernel
theorem dX12_whyTold_23 : decode cX12_whyTold 23 = .ok (.ldc2_w 395, 3) := by decide +kernel
theorem dX12_whyTold_26 : decode cX12_whyTold 26 = .ok (.ldiv, 1) := by decide +kernel
theorem dX12_whyTold_27 : decode cX12_whyTold 27 = .ok (.lload_n 1, 1) := by decide +kernel
theorem dX12_whyTold_28 : decode cX12_whyTold 28 = .ok (.ldc2_w 395, 3) := by decide +kernel
theorem dX12_whyTold_31 : decode cX12_whyTold 31 = .ok (.lrem, 1) := by decide +kernel
theorem dX12_whyTold_32 : decode cX12_whyTold 32 = .ok (.invokevirtual 378, 3) := by decide +kernel
theorem dX12_whyTold_35 : decode cX12_whyTold 35 = .ok (.ireturn, 1) := by decide +kernel
theorem dX12_whyTold_36 : decode cX12_whyTold 36 = .ok (.lload_n 1, 1) := by decide +kernel
theorem dX12_whyTold_37 : decode cX12_whyTold 37 = .ok (.ldc2_w 397, 3) := by decide +kernel
theorem dX12_whyTold_4 : decode cX12_whyTold 4 = .ok (.lcmp, 1) := by decide +kernel
theorem dX12_whyTold_40 : decode cX12_whyTold 40 = .ok (.ldc2_w 399, 3) := by decide +kernel
theorem dX12_whyTold_43 : decode cX12_whyTold 43 = .ok (.invokestatic 137, 3) := by decide +kernel
theorem dX12_whyTold_46 : decode cX12_whyTold 46 = .ok (.ifCond .eq 33, 3) := by decide +kernel
theorem dX12_whyTold_49 : decode cX12_whyTold 49 = .ok (.aload_n 0, 1) := by decide +kernel
theorem dX12_whyTold_5 : decode cX12_whyTold 5 = .ok (.ifCond .ne 5, 3) := by decide +kernel
theorem dX12_whyTold_50 : decode cX12_whyTold 50 = .ok (.lload_n 1, 1) := by decide +kernel
theorem dX12_whyTold_51 : decode cX12_whyTold 51 = .ok (.ldc2_w 397, 3) := by decide +kernel
theorem dX12_whyTold_54 : decode cX12_whyTold 54 = .ok (.lrem, 1) := by decide +kernel
theorem dX12_whyTold_55 : decode cX12_whyTold 55 = .ok (.ldc2_w 395, 3) := by decide +kernel
theorem dX12_whyTold_58 : decode cX12_whyTold 58 = .ok (.ldiv, 1) := by decide +kernel
theorem dX12_whyTold_59 : decode cX12_whyTold 59 = .ok (.invokevirtual 335, 3) := by decide +kernel
theorem dX12_whyTold_62 : decode cX12_whyTold 62 = .ok (.ifCond .eq 17, 3) := by decide +kernel
theorem dX12_whyTold_65 : decode cX12_whyTold 65 = .ok (.lload_n 1, 1) := by decide +kernel
theorem dX12_whyTold_66 : decode cX12_whyTold 66 = .ok (.ldc2_w 395, 3) := by decide +kernel
theorem dX12_whyTold_69 : decode cX12_whyTold 69 = .ok (.lrem, 1) := by decide +kernel
theorem dX12_whyTold_70 : decode cX12_whyTold 70 = .ok (.lconst 0, 1) := by decide +kernel
theorem dX12_whyTold_71 : decode cX12_whyTold 71 = .ok (.lcmp, 1) := by decide +kernel
theorem dX12_whyTold_72 : decode cX12_whyTold 72 = .ok (.ifCond .le 7, 3) := by decide +kernel
theorem dX12_whyTold_75 : decode cX12_whyTold 75 = .ok (.iconst 0, 1) := by decide +kernel
theorem dX12_whyTold_76 : decode cX12_whyTold 76 = .ok (.goto 4, 3) := by decide +kernel
theorem dX12_whyTold_79 : decode cX12_whyTold 79 = .ok (.iconst 1, 1) := by decide +kernel
theorem dX12_whyTold_8 : decode cX12_whyTold 8 = .ok (.iconst 0, 1) := by decide +kernel
theorem dX12_whyTold_80 : decode cX12_whyTold 80 = .ok (.ireturn, 1) := by decide +kernel
theorem dX12_whyTold_9 : decode cX12_whyTold 9 = .ok (.ireturn, 1) := by decide +kernel
theorem dX12_why_0 : decode cX12_why 0 = .ok (.aload_n 0, 1) := by decide +kernel
theorem dX12_why_1 : decode cX12_why 1 = .ok (.iconst 0, 1) := by decide +kernel
theorem dX12_why_10 : decode cX12_why 10 = .ok (.invokevirtual 378, 3) := by decide +kernel
theorem dX12_why_13 : decode cX12_why 13 = .ok (.ireturn, 1) := by decide +kernel
theorem dX12_why_2 : decode cX12_why 2 = .ok (.putfield 73, 3) := by decide +kernel
theorem dX12_why_5 : decode cX12_why 5 = .ok (.aload_n 0, 1) := by decide +kernel
theorem dX12_why_6 : decode cX12_why 6 = .ok (.iload_n 1, 1) := by decide +kernel
theorem dX12_why_7 : decode cX12_why 7 = .ok (.i2l, 1) := by decide +kernel
theorem dX12_why_8 : decode cX12_why 8 = .ok (.iload_n 2, 1) := by decide +kernel
theorem dX12_why_9 : decode cX12_why 9 = .ok (.i2l, 1) := by decide +kernel
set_option maxRecDepth 4000 in
theorem k_X12_change (l : Launch) (M : Mem) (hJ : Iw M) (x0 : Int) (hx0a : (-2147483648) ≤ x0) (hx0b : x0 ≤ 2147483647) (x1 : Int) (hx1a : (-2147483648) ≤ x1) (hx1b : x1 ≤ 2147483647) : CI l yX12_change cX12_change 3 (some .int) 3 (fun ad => [.ref (ad 131), ii x0, ii x1]) M (fun z M' => ((-2147483648) ≤ z ∧ z ≤ 2147483647) ∧ Fr [131, 132] M M') := by
  obtain ⟨hI, hW⟩ := hJ
  have hF : Fr [131, 132] M M := Fr.rf
  refine en_i (by decide +kernel) (fun ad => by exact Nat.le_of_ble_eq_true rfl) (fun D cy ad A p e s m args below meth c Q F hret => ?_)
  refine z_eq (ls' := [(0, .ref (ad 131)), (1, ii x0), (2, ii x1)]) rfl rfl rfl ?_
  refine z_aload_n F dX12_change_0 rfl (q := 0) rfl ?_
  refine z_aload_n F dX12_change_1 rfl (q := 0) rfl ?_
  refine z_iload_n F dX12_change_2 rfl (q := 1) rfl ?_
  refine z_i2l F dX12_change_3 (by omega) ?_
  refine zv_i (rest := [.ref (ad 131)]) F (k_X12_isThing l M ⟨hI, hW⟩ x0 (by omega) (by omega)) cs_X12_335 (T := TX12) (N := 44) (ci := 12) rfl gs_131 (by decide) (by decide) rfl rfl rfl (Nat.le_of_ble_eq_true rfl) dX12_change_4 (fun v1 M2 rv1 hI p3 => ?_)
  obtain ⟨hI, hW⟩ := hI
  obtain ⟨⟨av1, bv1⟩, rfl, xp3⟩ := p3
  refine z_if_ne (tgt := 14) F dX12_change_7 (by decide +kernel) (by omega) (fun c4 => ?_) (fun c4 => ?_)
  · refine z_iload_n F dX12_change_14 rfl (q := 2) rfl ?_
    refine z_i2l F dX12_change_15 (by omega) ?_
    refine z_ldc2 (x := (-99)) F dX12_change_16 (gin lm_133 rfl) (by decide +kernel) ?_
    refine z_ldc2 (x := 99) F dX12_change_19 (gin lm_134 rfl) (by decide +kernel) ?_
    refine zs_i (rest := [.ref (ad 131)]) F (k_X12_within l M ⟨hI, hW⟩ x1 (by omega) (by omega) (-99) (by omega) (by omega) 99 (by omega) (by omega)) cs_X12_137 (by decide) (by decide) rfl rfl rfl (Nat.le_of_ble_eq_true rfl) dX12_change_22 (fun v5 M6 rv5 hI p7 => ?_)
    obtain ⟨hI, hW⟩ := hI
    obtain ⟨⟨av5, bv5⟩, rfl, xp7⟩ := p7
    refine z_if_eq (tgt := 32) F dX12_change_25 (by decide +kernel) (by omega) (fun c8 => ?_) (fun c8 => ?_)
    · refine z_iconst F dX12_change_32 ?_
      refine pf_X12_73 F hI gs_131 rfl bd_131_4 rfl rfl dX12_change_33 (by omega) (by omega) (fun M10 hI sf9 f9 => ?_)
      have hF := hF.wrf f9 (by decide) (by decide)
      have hW : WFk M10 := hW.site f9 (by decide)
      refine z_aload_n F dX12_change_36 rfl (q := 0) rfl ?_
      refine gf_X12_73 F hI gs_131 rfl bd_131_4 dX12_change_37 (fun v11 ev11 av11 bv11 => ?_)
      have zv11 : 2 = v11 := sf9.symm.trans ev11.symm
      subst zv11
      refine z_if_le (tgt := 45) F dX12_change_40 (by decide +kernel) (by omega) (fun c12 => by exfalso; omega) (fun c12 => ?_)
      refine z_iconst F dX12_change_43 ?_
      exact hret _ _ 44 _ (by omega) ⟨hI, hW⟩ ⟨⟨by omega, by omega⟩, hF⟩ dX12_change_44
    · refine z_iconst F dX12_change_28 ?_
      refine z_goto (tgt := 33) F dX12_change_29 (by decide +kernel) ?_
      refine pf_X12_73 F hI gs_131 rfl bd_131_4 rfl rfl dX12_change_33 (by omega) (by omega) (fun M14 hI sf13 f13 => ?_)
      have hF := hF.wrf f13 (by decide) (by decide)
      have hW : WFk M14 := hW.site f13 (by decide)
      refine z_aload_n F dX12_change_36 rfl (q := 0) rfl ?_
      refine gf_X12_73 F hI gs_131 rfl bd_131_4 dX12_change_37 (fun v15 ev15 av15 bv15 => ?_)
      have zv15 : 0 = v15 := sf13.symm.trans ev15.symm
      subst zv15
      refine z_if_le (tgt := 45) F dX12_change_40 (by decide +kernel) (by omega) (fun c16 => ?_) (fun c16 => by exfalso; omega)
      refine z_aload_n F dX12_change_45 rfl (q := 0) rfl ?_
      refine zv_v (rest := []) F (k_X12_keeps l M14 ⟨hI, hW⟩) cs_X12_375 (T := TX12) (N := 44) (ci := 12) rfl gs_131 (by decide) (by decide) rfl rfl rfl (Nat.le_of_ble_eq_true rfl) dX12_change_46 (fun M17 hI p18 => ?_)
      obtain ⟨hI, hW⟩ := hI
      have fp18 := p18
      have hF := hF.call fp18 (by decide)
      refine z_aload_n F dX12_change_49 rfl (q := 0) rfl ?_
      refine z_iload_n F dX12_change_50 rfl (q := 1) rfl ?_
      refine z_iload_n F dX12_change_51 rfl (q := 2) rfl ?_
      refine zv_v (rest := []) F (k_X12_adds l M17 ⟨hI, hW⟩ x0 (by omega) (by omega) x1 (by omega) (by omega)) cs_X12_367 (T := TX12) (N := 44) (ci := 12) rfl gs_131 (by decide) (by decide) rfl rfl rfl (Nat.le_of_ble_eq_true rfl) dX12_change_52 (fun M19 hI p20 => ?_)
      obtain ⟨hI, hW⟩ := hI
      have fp20 := p20
      have hF := hF.call fp20 (by decide)
      refine z_aload_n F dX12_change_55 rfl (q := 0) rfl ?_
      refine rf_X12_9 F gs_131 rfl dX12_change_56 ?_
      refine z_bipush F dX12_change_59 (by decide +kernel) ?_
      refine z_iload_n F dX12_change_61 rfl (q := 1) rfl ?_
      refine z_iadd F dX12_change_62 ?_
      refine z_iald F hI gs_132 (by omega) (by omega) (by decide) (bd_132.trans (kn_any (by omega) (by omega))) dX12_change_63 (fun v21 (ev21 : v21 = M19 132 _) av21 bv21 => ?_)
      exact hret _ _ 64 _ (by omega) ⟨hI, hW⟩ ⟨⟨by omega, by omega⟩, hF⟩ dX12_change_64
  · refine z_iconst F dX12_change_10 ?_
    refine z_goto (tgt := 33) F dX12_change_11 (by decide +kernel) ?_
    refine pf_X12_73 F hI gs_131 rfl bd_131_4 rfl rfl dX12_change_33 (by omega) (by omega) (fun M23 hI sf22 f22 => ?_)
    have hF := hF.wrf f22 (by decide) (by decide)
    have hW : WFk M23 := hW.site f22 (by decide)
    refine z_aload_n F dX12_change_36 rfl (q := 0) rfl ?_
    refine gf_X12_73 F hI gs_131 rfl bd_131_4 dX12_change_37 (fun v24 ev24 av24 bv24 => ?_)
    have zv24 : 1 = v24 := sf22.symm.trans ev24.symm
    subst zv24
    refine z_if_le (tgt := 45) F dX12_change_40 (by decide +kernel) (by omega) (fun c25 => by exfalso; omega) (fun c25 => ?_)
    refine z_iconst F dX12_change_43 ?_
    exact hret _ _ 44 _ (by omega) ⟨hI, hW⟩ ⟨⟨by omega, by omega⟩, hF⟩ dX12_change_44
set_option maxRecDepth 4000 in
theorem k_X12_why (l : Launch) (M : Mem) (hJ : Iw M) (x0 : Int) (hx0a : (-2147483648) ≤ x0) (hx0b : x0 ≤ 2147483647) (x1 : Int) (hx1a : (-2147483648) ≤ x1) (hx1b : x1 ≤ 2147483647) : CI l yX12_why cX12_why 3 (some .int) 4 (fun ad => [.ref (ad 131), ii x0, ii x1]) M (fun z M' => (0 ≤ z ∧ z ≤ 4) ∧ Fr [131] M M') := by
  obtain ⟨hI, hW⟩ := hJ
  have hF : Fr [131] M M := Fr.rf
  refine en_i (by decide +kernel) (fun ad => by exact Nat.le_of_ble_eq_true rfl) (fun D cy ad A p e s m args below meth c Q F hret => ?_)
  refine z_eq (ls' := [(0, .ref (ad 131)), (1, ii x0), (2, ii x1)]) rfl rfl rfl ?_
  refine z_aload_n F dX12_why_0 rfl (q := 0) rfl ?_
  refine z_iconst F dX12_why_1 ?_
  refine pf_X12_73 F hI gs_131 rfl bd_131_4 rfl rfl dX12_why_2 (by omega) (by omega) (fun M2 hI sf1 f1 => ?_)
  have hF := hF.wrf f1 (by decide) (by decide)
  have hW : WFk M2 := hW.site f1 (by decide)
  refine z_aload_n F dX12_why_5 rfl (q := 0) rfl ?_
  refine z_iload_n F dX12_why_6 rfl (q := 1) rfl ?_
  refine z_i2l F dX12_why_7 (by omega) ?_
  refine z_iload_n F dX12_why_8 rfl (q := 2) rfl ?_
  refine z_i2l F dX12_why_9 (by omega) ?_
  refine zv_i (rest := []) F (k_X12_whyNot l M2 ⟨hI, hW⟩ x0 (by omega) (by omega) x1 (by omega) (by omega)) cs_X12_378 (T := TX12) (N := 44) (ci := 12) rfl gs_131 (by decide) (by decide) rfl rfl rfl (Nat.le_of_ble_eq_true rfl) dX12_why_10 (fun v3 M4 rv3 hI p5 => ?_)
  obtain ⟨hI, hW⟩ := hI
  obtain ⟨⟨av3, bv3⟩, rfl, xp5⟩ := p5
  exact hret _ _ 13 _ (by omega) ⟨hI, hW⟩ ⟨⟨by omega, by omega⟩, hF⟩ dX12_why_13
set_option maxRecDepth 4000 in
theorem k_X12_move (l : Launch) (M : Mem) (hJ : Iw M) (x0 : Int) (hx0a : (-2147483648) ≤ x0) (hx0b : x0 ≤ 2147483647) (x1 : Int) (hx1a : (-2147483648) ≤ x1) (hx1b : x1 ≤ 2147483647) : CI l yX12_move cX12_move 4 (some .int) 10 (fun ad => [.ref (ad 131), ii x0, ii x1]) M (fun z M' => ((-2147483648) ≤ z ∧ z ≤ 2147483647) ∧ Fr [131, 132, 137] M M') := by
  obtain ⟨hI, hW⟩ := hJ
  have hF : Fr [131, 132, 137] M M := Fr.rf
  refine en_i (by decide +kernel) (fun ad => by exact Nat.le_of_ble_eq_true rfl) (fun D cy ad A p e s m args below meth c Q F hret => ?_)
  refine z_eq (ls' := [(0, .ref (ad 131)), (1, ii x0), (2, ii x1)]) rfl rfl rfl ?_
  refine z_aload_n F dX12_move_0 rfl (q := 0) rfl ?_
  refine z_iconst F dX12_move_1 ?_
  refine pf_X12_73 F hI gs_131 rfl bd_131_4 rfl rfl dX12_move_2 (by omega) (by omega) (fun M2 hI sf1 f1 => ?_)
  have hF := hF.wrf f1 (by decide) (by decide)
  have hW : WFk M2 := hW.site f1 (by decide)
  refine z_aload_n F dX12_move_5 rfl (q := 0) rfl ?_
  refine z_iload_n F dX12_move_6 rfl (q := 1) rfl ?_
  refine z_i2l F dX12_move_7 (by omega) ?_
  refine z_iload_n F dX12_move_8 rfl (q := 2) rfl ?_
  refine z_i2l F dX12_move_9 (by omega) ?_
  refine zv_i (rest := []) F (k_X12_whyNot l M2 ⟨hI, hW⟩ x0 (by omega) (by omega) x1 (by omega) (by omega)) cs_X12_378 (T := TX12) (N := 44) (ci := 12) rfl gs_131 (by decide) (by decide) rfl rfl rfl (Nat.le_of_ble_eq_true rfl) dX12_move_10 (fun v3 M4 rv3 hI p5 => ?_)
  obtain ⟨hI, hW⟩ := hI
  obtain ⟨⟨av3, bv3⟩, rfl, xp5⟩ := p5
  refine z_istore_n F dX12_move_13 rfl (by decide) (ls' := [(3, ii v3), (0, .ref (ad 131)), (1, ii x0), (2, ii x1)]) rfl ?_
  refine z_iload_n F dX12_move_14 rfl (q := 0) rfl ?_
  refine z_if_eq (tgt := 21) F dX12_move_15 (by decide +kernel) (by omega) (fun c6 => ?_) (fun c6 => ?_)
  · refine z_aload_n F dX12_move_21 rfl (q := 1) rfl ?_
    refine zv_v (rest := []) F (k_X12_keeps l M2 ⟨hI, hW⟩) cs_X12_375 (T := TX12) (N := 44) (ci := 12) rfl gs_131 (by decide) (by decide) rfl rfl rfl (Nat.le_of_ble_eq_true rfl) dX12_move_22 (fun M7 hI p8 => ?_)
    obtain ⟨hI, hW⟩ := hI
    have fp8 := p8
    have hF := hF.call fp8 (by decide)
    refine z_aload_n F dX12_move_25 rfl (q := 1) rfl ?_
    refine z_iload_n F dX12_move_26 rfl (q := 2) rfl ?_
    refine z_iload_n F dX12_move_27 rfl (q := 3) rfl ?_
    refine zv_i (rest := []) F (k_X12_moves l M7 ⟨hI, hW⟩ x0 (by omega) (by omega) x1 (by omega) (by omega)) cs_X12_382 (T := TX12) (N := 44) (ci := 12) rfl gs_131 (by decide) (by decide) rfl rfl rfl (Nat.le_of_ble_eq_true rfl) dX12_move_28 (fun v9 M10 rv9 hI p11 => ?_)
    obtain ⟨hI, hW⟩ := hI
    obtain ⟨⟨av9, bv9⟩, fp11⟩ := p11
    have hF := hF.call fp11 (by decide)
    exact hret _ _ 31 _ (by omega) ⟨hI, hW⟩ ⟨⟨by omega, by omega⟩, hF⟩ dX12_move_31
  · refine z_iload_n F dX12_move_18 rfl (q := 0) rfl ?_
    refine z_ineg F dX12_move_19 ?_
    exact hret _ _ 20 _ (by omega) ⟨hI, hW⟩ ⟨⟨by omega, by omega⟩, hF⟩ dX12_move_20
set_option maxRecDepth 4000 in
theorem k_X12_days (l : Launch) (M : Mem) (hJ : Iw M) (x0 : Int) (hx0a : (-2147483648) ≤ x0) (hx0b : x0 ≤ 2147483647) : CI l yX12_days cX12_days 4 (some .int) 10 (fun ad => [.ref (ad 131), ii x0]) M (fun z M' => ((-2147483648) ≤ z ∧ z ≤ 2147483647) ∧ Fr [131, 132, 137] M M') := by
  obtain ⟨hI, hW⟩ := hJ
  have hF : Fr [131, 132, 137] M M := Fr.rf
  refine en_i (by decide +kernel) (fun ad => by exact Nat.le_of_ble_eq_true rfl) (fun D cy ad A p e s m args below meth c Q F hret => ?_)
  refine z_eq (ls' := [(0, .ref (ad 131)), (1, ii x0)]) rfl rfl rfl ?_
  refine z_aload_n F dX12_days_0 rfl (q := 0) rfl ?_
  refine z_iconst F dX12_days_1 ?_
  refine pf_X12_73 F hI gs_131 rfl bd_131_4 rfl rfl dX12_days_2 (by omega) (by omega) (fun M2 hI sf1 f1 => ?_)
  have hF := hF.wrf f1 (by decide) (by decide)
  have hW : WFk M2 := hW.site f1 (by decide)
  refine z_iload_n F dX12_days_5 rfl (q := 1) rfl ?_
  refine z_i2l F dX12_days_6 (by omega) ?_
  refine z_lconst (x := 1) F dX12_days_7 (by decide +kernel) ?_
  refine z_ldc2 (x := 9) F dX12_days_8 (gin lm_147 rfl) (by decide +kernel) ?_
  refine zs_i (rest := []) F (k_X12_within l M2 ⟨hI, hW⟩ x0 (by omega) (by omega) 1 (by omega) (by omega) 9 (by omega) (by omega)) cs_X12_137 (by decide) (by decide) rfl rfl rfl (Nat.le_of_ble_eq_true rfl) dX12_days_11 (fun v3 M4 rv3 hI p5 => ?_)
  obtain ⟨hI, hW⟩ := hI
  obtain ⟨⟨av3, bv3⟩, rfl, xp5⟩ := p5
  refine z_if_ne (tgt := 23) F dX12_days_14 (by decide +kernel) (by omega) (fun c6 => ?_) (fun c6 => ?_)
  · refine z_aload_n F dX12_days_23 rfl (q := 0) rfl ?_
    refine zv_v (rest := []) F (k_X12_keeps l M2 ⟨hI, hW⟩) cs_X12_375 (T := TX12) (N := 44) (ci := 12) rfl gs_131 (by decide) (by decide) rfl rfl rfl (Nat.le_of_ble_eq_true rfl) dX12_days_24 (fun M7 hI p8 => ?_)
    obtain ⟨hI, hW⟩ := hI
    have fp8 := p8
    have hF := hF.call fp8 (by decide)
    refine z_aload_n F dX12_days_27 rfl (q := 0) rfl ?_
    refine rf_X12_9 F gs_131 rfl dX12_days_28 ?_
    refine z_bipush F dX12_days_31 (by decide +kernel) ?_
    refine z_iald F hI gs_132 (by omega) (by omega) (by decide) (show Bd 132 25 = (-2147483648, 2147483647) from rfl) dX12_days_33 (fun v9 (ev9 : v9 = M7 132 25) av9 bv9 => ?_)
    refine z_istore_n F dX12_days_34 rfl (by decide) (ls' := [(2, ii v9), (0, .ref (ad 131)), (1, ii x0)]) rfl ?_
    refine z_iconst F dX12_days_35 ?_
    refine z_istore_n F dX12_days_36 rfl (by decide) (ls' := [(3, ii 0), (2, ii v9), (0, .ref (ad 131)), (1, ii x0)]) rfl ?_
    refine z_loc [2, 3, 1, 0] (ls' := [(0, .ref (ad 131)), (1, ii x0), (2, ii v9), (3, ii 0)]) rfl ?_
    suffices key37 : ∀ (n : Nat) (y11 : Int) (M10 : Mem), Inv M10 → WFk M10 → Fr [131, 132, 137] M M10 → 0 ≤ y11 → y11 ≤ 9 → 9 - y11 < (n : Int) → Z D cy ad p l e (RMh 10) s m args below meth c A 4 0 0 Q 37 [(0, .ref (ad 131)), (1, ii x0), (2, ii v9), (3, ii y11)] [] M10 from key37 10 0 M7 hI hW hF (by omega) (by omega) (by omega)
    intro n37
    induction n37 with
    | zero => intro y11 M10 hI hW hF ay11 by11 hn37; exfalso; omega
    | succ n37 ih37 =>
      intro y11 M10 hI hW hF ay11 by11 hn37
      refine z_iload_n F dX12_days_37 rfl (q := 3) rfl ?_
      refine z_iload_n F dX12_days_38 rfl (q := 1) rfl ?_
      refine z_icmp_ge (tgt := 52) F dX12_days_39 (by decide +kernel) (by omega) (by omega) (fun c12 => ?_) (fun c12 => ?_)
      · refine z_aload_n F dX12_days_52 rfl (q := 0) rfl ?_
        refine rf_X12_9 F gs_131 rfl dX12_days_53 ?_
        refine z_bipush F dX12_days_56 (by decide +kernel) ?_
        refine z_iald F hI gs_132 (by omega) (by omega) (by decide) (show Bd 132 25 = (-2147483648, 2147483647) from rfl) dX12_days_58 (fun v13 (ev13 : v13 = M10 132 25) av13 bv13 => ?_)
        refine z_iload_n F dX12_days_59 rfl (q := 2) rfl ?_
        refine z_isub F dX12_days_60 ?_
        refine z_wrap (fun v14 rv14 wv14 => ?_)
        exact hret _ _ 61 _ (by omega) ⟨hI, hW⟩ ⟨⟨by omega, by omega⟩, hF⟩ dX12_days_61
      · refine z_aload_n F dX12_days_42 rfl (q := 0) rfl ?_
        refine zv_v (rest := []) F (k_X12_goesDay l M10 ⟨hI, hW⟩) cs_X12_385 (T := TX12) (N := 44) (ci := 12) rfl gs_131 (by decide) (by decide) rfl rfl rfl (Nat.le_of_ble_eq_true rfl) dX12_days_43 (fun M15 hI p16 => ?_)
        obtain ⟨hI, hW⟩ := hI
        have fp16 := p16
        have hF := hF.call fp16 (by decide)
        refine z_iincN F dX12_days_46 (q := 3) rfl (by decide) (fun v17 ev17 => ?_)
        refine z_eq (ls' := [(3, ii v17), (0, .ref (ad 131)), (1, ii x0), (2, ii v9)]) rfl rfl rfl ?_
        refine z_goto (tgt := 37) F dX12_days_49 (by decide +kernel) ?_
        refine z_loc [1, 2, 3, 0] (ls' := [(0, .ref (ad 131)), (1, ii x0), (2, ii v9), (3, ii v17)]) rfl ?_
        exact ih37 v17 M15 hI hW hF (by omega) (by omega) (by omega)
  · refine z_aload_n F dX12_days_17 rfl (q := 0) rfl ?_
    refine z_iconst F dX12_days_18 ?_
    refine zv_i (rest := []) F (k_X12_fails l M2 ⟨hI, hW⟩ 1 (by omega) (by omega)) cs_X12_262 (T := TX12) (N := 44) (ci := 12) rfl gs_131 (by decide) (by decide) rfl rfl rfl (Nat.le_of_ble_eq_true rfl) dX12_days_19 (fun v18 M19 rv18 hI p20 => ?_)
    obtain ⟨hI, hW⟩ := hI
    obtain ⟨⟨av18, bv18⟩, fp20, xp20⟩ := p20
    have hF := hF.call fp20 (by decide)
    exact hret _ _ 22 _ (by omega) ⟨hI, hW⟩ ⟨⟨by omega, by omega⟩, hF⟩ dX12_days_22
set_option maxRecDepth 4000 in
theorem k_X12_undo (l : Launch) (M : Mem) (hJ : Iw M) (x0 : Int) (hx0a : (-2147483648) ≤ x0) (hx0b : x0 ≤ 2147483647) : CI l yX12_undo cX12_undo 3 (some .int) 2 (fun ad => [.ref (ad 131), ii x0]) M (fun z M' => (0 ≤ z ∧ z ≤ 11) ∧ Fr [131, 132] M M') := by
  obtain ⟨hI, hW⟩ := hJ
  have hF : Fr [131, 132] M M := Fr.rf
  refine en_i (by decide +kernel) (fun ad => by exact Nat.le_of_ble_eq_true rfl) (fun D cy ad A p e s m args below meth c Q F hret => ?_)
  refine z_eq (ls' := [(0, .ref (ad 131)), (1, ii x0)]) rfl rfl rfl ?_
  refine z_aload_n F dX12_undo_0 rfl (q := 0) rfl ?_
  refine z_iconst F dX12_undo_1 ?_
  refine pf_X12_73 F hI gs_131 rfl bd_131_4 rfl rfl dX12_undo_2 (by omega) (by omega) (fun M2 hI sf1 f1 => ?_)
  have hF := hF.wrf f1 (by decide) (by decide)
  have hW : WFk M2 := hW.site f1 (by decide)
  refine z_iload_n F dX12_undo_5 rfl (q := 1) rfl ?_
  refine z_i2l F dX12_undo_6 (by omega) ?_
  refine z_lconst (x := 1) F dX12_undo_7 (by decide +kernel) ?_
  refine z_ldc2 (x := 12) F dX12_undo_8 (gin lm_152 rfl) (by decide +kernel) ?_
  refine zs_i (rest := []) F (k_X12_within l M2 ⟨hI, hW⟩ x0 (by omega) (by omega) 1 (by omega) (by omega) 12 (by omega) (by omega)) cs_X12_137 (by decide) (by decide) rfl rfl rfl (Nat.le_of_ble_eq_true rfl) dX12_undo_11 (fun v3 M4 rv3 hI p5 => ?_)
  obtain ⟨hI, hW⟩ := hI
  obtain ⟨⟨av3, bv3⟩, rfl, xp5⟩ := p5
  refine z_if_eq (tgt := 28) F dX12_undo_14 (by decide +kernel) (by omega) (fun c6 => ?_) (fun c6 => ?_)
  · refine z_aload_n F dX12_undo_28 rfl (q := 0) rfl ?_
    refine z_iconst F dX12_undo_29 ?_
    refine zv_i (rest := []) F (k_X12_fails l M2 ⟨hI, hW⟩ 1 (by omega) (by omega)) cs_X12_262 (T := TX12) (N := 44) (ci := 12) rfl gs_131 (by decide) (by decide) rfl rfl rfl (Nat.le_of_ble_eq_true rfl) dX12_undo_30 (fun v7 M8 rv7 hI p9 => ?_)
    obtain ⟨hI, hW⟩ := hI
    obtain ⟨⟨av7, bv7⟩, fp9, xp9⟩ := p9
    have hF := hF.call fp9 (by decide)
    exact hret _ _ 33 _ (by omega) ⟨hI, hW⟩ ⟨⟨by omega, by omega⟩, hF⟩ dX12_undo_33
  · refine z_iload_n F dX12_undo_17 rfl (q := 1) rfl ?_
    refine z_aload_n F dX12_undo_18 rfl (q := 0) rfl ?_
    refine rf_X12_9 F gs_131 rfl dX12_undo_19 ?_
    refine z_bipush F dX12_undo_22 (by decide +kernel) ?_
    refine z_iald F hI gs_132 (by omega) (by omega) (by decide) (show Bd 132 7 = (0, 12) from rfl) dX12_undo_24 (fun v10 (ev10 : v10 = M2 132 7) av10 bv10 => ?_)
    refine z_icmp_le (tgt := 34) F dX12_undo_25 (by decide +kernel) (by omega) (by omega) (fun c11 => ?_) (fun c11 => ?_)
    · refine z_aload_n F dX12_undo_34 rfl (q := 0) rfl ?_
      refine rf_X12_9 F gs_131 rfl dX12_undo_35 ?_
      refine z_bipush F dX12_undo_38 (by decide +kernel) ?_
      refine z_dup2 F dX12_undo_40 rfl rfl ?_
      refine z_iald F hI gs_132 (by omega) (by omega) (by decide) (show Bd 132 7 = (0, 12) from rfl) dX12_undo_41 (fun v12 (ev12 : v12 = M2 132 7) av12 bv12 => ?_)
      have zv12 : v10 = v12 := ev10.trans ev12.symm
      subst zv12
      refine z_iload_n F dX12_undo_42 rfl (q := 1) rfl ?_
      refine z_isub F dX12_undo_43 ?_
      refine z_nm (fun v14 ev14 => ?_)
      refine z_iast F hI gs_132 (by omega) (by omega) (by decide) (show Bd 132 7 = (0, 12) from rfl) dX12_undo_44 (by omega) (by omega) (fun M15 hI sf13 f13 => ?_)
      have hF := hF.wrk f13 (by decide) (by omega)
      have hW : WFk M15 := hW.known f13 (by omega)
      have sf13 : M15 132 7 = v14 := sf13
      refine z_iconst F dX12_undo_45 ?_
      refine z_istore_n F dX12_undo_46 rfl (by decide) (ls' := [(2, ii 0), (0, .ref (ad 131)), (1, ii x0)]) rfl ?_
      refine z_loc [1, 0] (ls' := [(0, .ref (ad 131)), (2, ii 0)]) rfl ?_
      suffices key47 : ∀ (n : Nat) (y17 : Int) (M16 : Mem), Inv M16 → WFk M16 → Fr [131, 132] M M16 → 0 ≤ y17 → y17 ≤ 18 → (M16 132 7 ≤ 11) → 18 - y17 < (n : Int) → Z D cy ad p l e (RMh 2) s m args below meth c A 3 0 0 Q 47 [(0, .ref (ad 131)), (2, ii y17)] [] M16 from key47 19 0 M15 hI hW hF (by omega) (by omega) (by omega) (by omega)
      intro n47
      induction n47 with
      | zero => intro y17 M16 hI hW hF ay17 by17 i47_0 hn47; exfalso; omega
      | succ n47 ih47 =>
        intro y17 M16 hI hW hF ay17 by17 i47_0 hn47
        obtain ⟨u18, eu18⟩ : ∃ v : Int, v = M16 132 7 := ⟨_, rfl⟩
        have ku18 : 0 ≤ u18 ∧ u18 ≤ 11 := by have := hI.at (show Bd 132 7 = (0, 12) from rfl); omega
        refine z_iload_n F dX12_undo_47 rfl (q := 1) rfl ?_
        refine z_bipush F dX12_undo_48 (by decide +kernel) ?_
        refine z_icmp_ge (tgt := 89) F dX12_undo_50 (by decide +kernel) (by omega) (by omega) (fun c19 => ?_) (fun c19 => ?_)
        · refine z_aload_n F dX12_undo_89 rfl (q := 0) rfl ?_
          refine rf_X12_9 F gs_131 rfl dX12_undo_90 ?_
          refine z_bipush F dX12_undo_93 (by decide +kernel) ?_
          refine z_iald F hI gs_132 (by omega) (by omega) (by decide) (show Bd 132 7 = (0, 12) from rfl) dX12_undo_95 (fun v20 (ev20 : v20 = M16 132 7) av20 bv20 => ?_)
          have zv20 : u18 = v20 := eu18.trans ev20.symm
          subst zv20
          exact hret _ _ 96 _ (by omega) ⟨hI, hW⟩ ⟨⟨by omega, by omega⟩, hF⟩ dX12_undo_96
        · refine z_aload_n F dX12_undo_53 rfl (q := 0) rfl ?_
          refine rf_X12_9 F gs_131 rfl dX12_undo_54 ?_
          refine z_bipush F dX12_undo_57 (by decide +kernel) ?_
          refine z_iload_n F dX12_undo_59 rfl (q := 1) rfl ?_
          refine z_iadd F dX12_undo_60 ?_
          refine z_aload_n F dX12_undo_61 rfl (q := 0) rfl ?_
          refine rf_X12_9 F gs_131 rfl dX12_undo_62 ?_
          refine z_sipush F dX12_undo_65 (by decide +kernel) ?_
          refine z_bipush F dX12_undo_68 (by decide +kernel) ?_
          refine z_aload_n F dX12_undo_70 rfl (q := 0) rfl ?_
          refine rf_X12_9 F gs_131 rfl dX12_undo_71 ?_
          refine z_bipush F dX12_undo_74 (by decide +kernel) ?_
          refine z_iald F hI gs_132 (by omega) (by omega) (by decide) (show Bd 132 7 = (0, 12) from rfl) dX12_undo_76 (fun v21 (ev21 : v21 = M16 132 7) av21 bv21 => ?_)
          have zv21 : u18 = v21 := eu18.trans ev21.symm
          subst zv21
          refine z_imul F dX12_undo_77 ?_
          refine z_iadd F dX12_undo_78 ?_
          refine z_iload_n F dX12_undo_79 rfl (q := 1) rfl ?_
          refine z_iadd F dX12_undo_80 ?_
          refine z_ialdB F hI gs_132 (by omega) (by omega) (by decide) kn_w dX12_undo_81 (fun v22 ev22 av22 bv22 rv22 => ?_)
          refine z_iastB F hI gs_132 (by omega) (by omega) (by decide) dX12_undo_82 (bq_in (Eq.trans (bq_as (y := y17) (by omega) (by omega) (by omega)) (Eq.symm (bq_un (y := y17) u18 (by omega) (by omega) (by omega) (by omega) (by omega)))) av22 bv22) (fun M24 hI sf23 f23 => ?_)
          have hF := hF.wrk f23 (by decide) (by omega)
          have hW : WFk M24 := hW.known f23 (by omega)
          refine z_iincN F dX12_undo_83 (q := 1) rfl (by decide) (fun v25 ev25 => ?_)
          refine z_eq (ls' := [(2, ii v25), (0, .ref (ad 131))]) rfl rfl rfl ?_
          refine z_goto (tgt := 47) F dX12_undo_86 (by decide +kernel) ?_
          refine z_loc [1, 0] (ls' := [(0, .ref (ad 131)), (2, ii v25)]) rfl ?_
          have q26 : u18 = M24 132 7 := eu18.trans (f23 132 7 (fun q => by omega)).symm
          exact ih47 v25 M24 hI hW hF (by omega) (by omega) (by omega) (by omega)
    · refine z_aload_n F dX12_undo_28 rfl (q := 0) rfl ?_
      refine z_iconst F dX12_undo_29 ?_
      refine zv_i (rest := []) F (k_X12_fails l M2 ⟨hI, hW⟩ 1 (by omega) (by omega)) cs_X12_262 (T := TX12) (N := 44) (ci := 12) rfl gs_131 (by decide) (by decide) rfl rfl rfl (Nat.le_of_ble_eq_true rfl) dX12_undo_30 (fun v27 M28 rv27 hI p29 => ?_)
      obtain ⟨hI, hW⟩ := hI
      obtain ⟨⟨av27, bv27⟩, fp29, xp29⟩ := p29
      have hF := hF.call fp29 (by decide)
      exact hret _ _ 33 _ (by omega) ⟨hI, hW⟩ ⟨⟨by omega, by omega⟩, hF⟩ dX12_undo_33
set_option maxRecDepth 4000 in
theorem k_X12_isTray (l : Launch) (M : Mem) (hJ : Iw M) (x0 : Int) (hx0a : (-2147483648) ≤ x0) (hx0b : x0 ≤ 2147483647) : CI l yX12_isTray cX12_isTray 1 (some .boolean) 2 (fun ad => [ii x0]) M (fun z M' => (0 ≤ z ∧ z ≤ 1) ∧ M = M' ∧ (z = 1 ∧ 0 ≤ x0 ∧ x0 ≤ 3 ∨ z = 0 ∧ (x0 < 0 ∨ 3 < x0))) := by
  obtain ⟨hI, hW⟩ := hJ
  refine en_z (by decide +kernel) (fun ad => by exact Nat.le_of_ble_eq_true rfl) (fun D cy ad A p e s m args below meth c Q F hret => ?_)
  refine z_eq (ls' := [(0, ii x0)]) rfl rfl rfl ?_
  refine z_iload_n F dX12_isTray_0 rfl (q := 0) rfl ?_
  refine z_i2l F dX12_isTray_1 (by omega) ?_
  refine z_lconst (x := 0) F dX12_isTray_2 (by decide +kernel) ?_
  refine z_ldc2 (x := 3) F dX12_isTray_3 (gin lm_153 rfl) (by decide +kernel) ?_
  refine zs_i (rest := []) F (k_X12_within l M ⟨hI, hW⟩ x0 (by omega) (by omega) 0 (by omega) (by omega) 3 (by omega) (by omega)) cs_X12_137 (by decide) (by decide) rfl rfl rfl (Nat.le_of_ble_eq_true rfl) dX12_isTray_6 (fun v1 M2 rv1 hI p3 => ?_)
  obtain ⟨hI, hW⟩ := hI
  obtain ⟨⟨av1, bv1⟩, rfl, xp3⟩ := p3
  exact hret _ _ 9 _ ⟨by omega, by omega⟩ ⟨hI, hW⟩ ⟨⟨by omega, by omega⟩, rfl, (by omega)⟩ dX12_isTray_9
set_option maxRecDepth 4000 in
theorem k_X12_trayFault (l : Launch) (M : Mem) (hJ : Iw M) (x0 : Int) (hx0a : (-2147483648) ≤ x0) (hx0b : x0 ≤ 2147483647) : CI l yX12_trayFault cX12_trayFault 2 (some .int) 3 (fun ad => [.ref (ad 131), ii x0]) M (fun z M' => (0 ≤ z ∧ z ≤ 2) ∧ M = M' ∧ (z = 0 → 0 ≤ x0 ∧ x0 ≤ 3)) := by
  obtain ⟨hI, hW⟩ := hJ
  refine en_i (by decide +kernel) (fun ad => by exact Nat.le_of_ble_eq_true rfl) (fun D cy ad A p e s m args below meth c Q F hret => ?_)
  refine z_eq (ls' := [(0, .ref (ad 131)), (1, ii x0)]) rfl rfl rfl ?_
  refine z_iload_n F dX12_trayFault_0 rfl (q := 1) rfl ?_
  refine zs_i (rest := []) F (k_X12_isTray l M ⟨hI, hW⟩ x0 (by omega) (by omega)) cs_X12_390 (by decide) (by decide) rfl rfl rfl (Nat.le_of_ble_eq_true rfl) dX12_trayFault_1 (fun v1 M2 rv1 hI p3 => ?_)
  obtain ⟨hI, hW⟩ := hI
  obtain ⟨⟨av1, bv1⟩, rfl, xp3⟩ := p3
  refine z_if_ne (tgt := 11) F dX12_trayFault_4 (by decide +kernel) (by omega) (fun c4 => ?_) (fun c4 => ?_)
  · refine z_aload_n F dX12_trayFault_11 rfl (q := 0) rfl ?_
    refine rf_X12_63 F gs_131 rfl dX12_trayFault_12 ?_
    refine z_iload_n F dX12_trayFault_15 rfl (q := 1) rfl ?_
    refine z_iald F hI gs_148 (by omega) (by omega) (by decide) bd_148 dX12_trayFault_16 (fun v5 (ev5 : v5 = M 148 _) av5 bv5 => ?_)
    refine z_iconst F dX12_trayFault_17 ?_
    refine z_icmp_ne (tgt := 25) F dX12_trayFault_18 (by decide +kernel) (by omega) (by omega) (fun c6 => ?_) (fun c6 => ?_)
    · refine z_iconst F dX12_trayFault_25 ?_
      exact hret _ _ 26 _ (by omega) ⟨hI, hW⟩ ⟨⟨by omega, by omega⟩, rfl, (by omega)⟩ dX12_trayFault_26
    · refine z_iconst F dX12_trayFault_21 ?_
      refine z_goto (tgt := 26) F dX12_trayFault_22 (by decide +kernel) ?_
      exact hret _ _ 26 _ (by omega) ⟨hI, hW⟩ ⟨⟨by omega, by omega⟩, rfl, (by omega)⟩ dX12_trayFault_26
  · refine z_iconst F dX12_trayFault_7 ?_
    refine z_goto (tgt := 26) F dX12_trayFault_8 (by decide +kernel) ?_
    exact hret _ _ 26 _ (by omega) ⟨hI, hW⟩ ⟨⟨by omega, by omega⟩, rfl, (by omega)⟩ dX12_trayFault_26
set_option maxRecDepth 4000 in
theorem k_X12_whyTold (l : Launch) (M : Mem) (hJ : Iw M) (x0 : Int) (hx0a : (-9223372036854775808) ≤ x0) (hx0b : x0 ≤ 9223372036854775807) : CI l yX12_whyTold cX12_whyTold 3 (some .int) 4 (fun ad => [.ref (ad 131), ll x0]) M (fun z M' => (0 ≤ z ∧ z ≤ 4) ∧ M = M' ∧ (z = 0 → (x0 = -1 ∨ 0 ≤ x0 ∧ x0 < 100 ∧ x0 / 10 ≤ 7 ∨ 100 ≤ x0 ∧ x0 ≤ 299 ∧ x0 % 100 / 10 ≤ 7))) := by
  obtain ⟨hI, hW⟩ := hJ
  refine en_i (by decide +kernel) (fun ad => by exact Nat.le_of_ble_eq_true rfl) (fun D cy ad A p e s m args below meth c Q F hret => ?_)
  refine z_eq (ls' := [(0, .ref (ad 131)), (1, ll x0)]) rfl rfl rfl ?_
  refine z_lload_n F dX12_whyTold_0 rfl (q := 1) rfl ?_
  refine z_ldc2 (x := (-1)) F dX12_whyTold_1 (gin lm_158 rfl) (by decide +kernel) ?_
  refine z_lcmp F dX12_whyTold_4 (by omega) (by omega) (fun v1 ev1 => ?_)
  refine z_if_ne (tgt := 10) F dX12_whyTold_5 (by decide +kernel) (by omega) (fun c2 => ?_) (fun c2 => ?_)
  · refine z_lload_n F dX12_whyTold_10 rfl (q := 1) rfl ?_
    refine z_lconst (x := 0) F dX12_whyTold_11 (by decide +kernel) ?_
    refine z_ldc2 (x := 99) F dX12_whyTold_12 (gin lm_134 rfl) (by decide +kernel) ?_
    refine zs_i (rest := []) F (k_X12_within l M ⟨hI, hW⟩ x0 (by omega) (by omega) 0 (by omega) (by omega) 99 (by omega) (by omega)) cs_X12_137 (by decide) (by decide) rfl rfl rfl (Nat.le_of_ble_eq_true rfl) dX12_whyTold_15 (fun v3 M4 rv3 hI p5 => ?_)
    obtain ⟨hI, hW⟩ := hI
    obtain ⟨⟨av3, bv3⟩, rfl, xp5⟩ := p5
    refine z_if_eq (tgt := 36) F dX12_whyTold_18 (by decide +kernel) (by omega) (fun c6 => ?_) (fun c6 => ?_)
    · refine z_lload_n F dX12_whyTold_36 rfl (q := 1) rfl ?_
      refine z_ldc2 (x := 100) F dX12_whyTold_37 (gin lm_159 rfl) (by decide +kernel) ?_
      refine z_ldc2 (x := 299) F dX12_whyTold_40 (gin lm_160 rfl) (by decide +kernel) ?_
      refine zs_i (rest := []) F (k_X12_within l M ⟨hI, hW⟩ x0 (by omega) (by omega) 100 (by omega) (by omega) 299 (by omega) (by omega)) cs_X12_137 (by decide) (by decide) rfl rfl rfl (Nat.le_of_ble_eq_true rfl) dX12_whyTold_43 (fun v7 M8 rv7 hI p9 => ?_)
      obtain ⟨hI, hW⟩ := hI
      obtain ⟨⟨av7, bv7⟩, rfl, xp9⟩ := p9
      refine z_if_eq (tgt := 79) F dX12_whyTold_46 (by decide +kernel) (by omega) (fun c10 => ?_) (fun c10 => ?_)
      · refine z_iconst F dX12_whyTold_79 ?_
        exact hret _ _ 80 _ (by omega) ⟨hI, hW⟩ ⟨⟨by omega, by omega⟩, rfl, (by omega)⟩ dX12_whyTold_80
      · refine z_aload_n F dX12_whyTold_49 rfl (q := 0) rfl ?_
        refine z_lload_n F dX12_whyTold_50 rfl (q := 1) rfl ?_
        refine z_ldc2 (x := 100) F dX12_whyTold_51 (gin lm_159 rfl) (by decide +kernel) ?_
        refine z_lrem_p F dX12_whyTold_54 (by omega) (by omega) (by omega) (by omega) (fun v11 ev11 => ?_)
        refine z_ldc2 (x := 10) F dX12_whyTold_55 (gin lm_161 rfl) (by decide +kernel) ?_
        refine z_ldiv_p F dX12_whyTold_58 (by omega) (by omega) (by omega) (by omega) (fun v12 ev12 => ?_)
        refine zv_i (rest := []) F (k_X12_isThing l M ⟨hI, hW⟩ v12 (by omega) (by omega)) cs_X12_335 (T := TX12) (N := 44) (ci := 12) rfl gs_131 (by decide) (by decide) rfl rfl rfl (Nat.le_of_ble_eq_true rfl) dX12_whyTold_59 (fun v13 M14 rv13 hI p15 => ?_)
        obtain ⟨hI, hW⟩ := hI
        obtain ⟨⟨av13, bv13⟩, rfl, xp15⟩ := p15
        refine z_if_eq (tgt := 79) F dX12_whyTold_62 (by decide +kernel) (by omega) (fun c16 => ?_) (fun c16 => ?_)
        · refine z_iconst F dX12_whyTold_79 ?_
          exact hret _ _ 80 _ (by omega) ⟨hI, hW⟩ ⟨⟨by omega, by omega⟩, rfl, (by omega)⟩ dX12_whyTold_80
        · refine z_lload_n F dX12_whyTold_65 rfl (q := 1) rfl ?_
          refine z_ldc2 (x := 10) F dX12_whyTold_66 (gin lm_161 rfl) (by decide +kernel) ?_
          refine z_lrem_p F dX12_whyTold_69 (by omega) (by omega) (by omega) (by omega) (fun v17 ev17 => ?_)
          refine z_lconst (x := 0) F dX12_whyTold_70 (by decide +kernel) ?_
          refine z_lcmp F dX12_whyTold_71 (by omega) (by omega) (fun v18 ev18 => ?_)
          refine z_if_le (tgt := 79) F dX12_whyTold_72 (by decide +kernel) (by omega) (fun c19 => ?_) (fun c19 => ?_)
          · refine z_iconst F dX12_whyTold_79 ?_
            exact hret _ _ 80 _ (by omega) ⟨hI, hW⟩ ⟨⟨by omega, by omega⟩, rfl, (by omega)⟩ dX12_whyTold_80
          · refine z_iconst F dX12_whyTold_75 ?_
            refine z_goto (tgt := 80) F dX12_whyTold_76 (by decide +kernel) ?_
            exact hret _ _ 80 _ (by omega) ⟨hI, hW⟩ ⟨⟨by omega, by omega⟩, rfl, (by omega)⟩ dX12_whyTold_80
    · refine z_aload_n F dX12_whyTold_21 rfl (q := 0) rfl ?_
      refine z_lload_n F dX12_whyTold_22 rfl (q := 1) rfl ?_
      refine z_ldc2 (x := 10) F dX12_whyTold_23 (gin lm_161 rfl) (by decide +kernel) ?_
      refine z_ldiv_p F dX12_whyTold_26 (by omega) (by omega) (by omega) (by omega) (fun v20 ev20 => ?_)
      refine z_lload_n F dX12_whyTold_27 rfl (q := 1) rfl ?_
      refine z_ldc2 (x := 10) F dX12_whyTold_28 (gin lm_161 rfl) (by decide +kernel) ?_
      refine z_lrem_p F dX12_whyTold_31 (by omega) (by omega) (by omega) (by omega) (fun v21 ev21 => ?_)
      refine zv_i (rest := []) F (k_X12_whyNot l M ⟨hI, hW⟩ v20 (by omega) (by omega) v21 (by omega) (by omega)) cs_X12_378 (T := TX12) (N := 44) (ci := 12) rfl gs_131 (by decide) (by decide) rfl rfl rfl (Nat.le_of_ble_eq_true rfl) dX12_whyTold_32 (fun v22 M23 rv22 hI p24 => ?_)
      obtain ⟨hI, hW⟩ := hI
      obtain ⟨⟨av22, bv22⟩, rfl, xp24⟩ := p24
      exact hret _ _ 35 _ (by omega) ⟨hI, hW⟩ ⟨⟨by omega, by omega⟩, rfl, (by omega)⟩ dX12_whyTold_35
  · refine z_iconst F dX12_whyTold_8 ?_
    exact hret _ _ 9 _ (by omega) ⟨hI, hW⟩ ⟨⟨by omega, by omega⟩, rfl, (by omega)⟩ dX12_whyTold_9
set_option maxRecDepth 4000 in
theorem k_X12_does (l : Launch) (M : Mem) (hJ : Iw M) (x0 : Int) (hx0a : (-1) ≤ x0) (hx0b : x0 ≤ 299) (hp0 : (x0 = -1 ∨ 0 ≤ x0 ∧ x0 < 100 ∧ x0 / 10 ≤ 7 ∨ 100 ≤ x0 ∧ x0 ≤ 299 ∧ x0 % 100 / 10 ≤ 7)) : CV l yX12_does cX12_does 2 none 10 (fun ad => [.ref (ad 131), ii x0]) M (fun M' => Fr [132, 137] M M') := by
  obtain ⟨hI, hW⟩ := hJ
  have hF : Fr [132, 137] M M := Fr.rf
  refine en_v (by decide +kernel) (fun ad => by exact Nat.le_of_ble_eq_true rfl) (fun D cy ad A p e s m args below meth c Q F hret => ?_)
  refine z_eq (ls' := [(0, .ref (ad 131)), (1, ii x0)]) rfl rfl rfl ?_
  refine z_iload_n F dX12_does_0 rfl (q := 1) rfl ?_
  refine z_iconst F dX12_does_1 ?_
  refine z_icmp_ne (tgt := 12) F dX12_does_2 (by decide +kernel) (by omega) (by omega) (fun c1 => ?_) (fun c1 => ?_)
  · refine z_iload_n F dX12_does_12 rfl (q := 1) rfl ?_
    refine z_bipush F dX12_does_13 (by decide +kernel) ?_
    refine z_icmp_ge (tgt := 34) F dX12_does_15 (by decide +kernel) (by omega) (by omega) (fun c2 => ?_) (fun c2 => ?_)
    · refine z_aload_n F dX12_does_34 rfl (q := 0) rfl ?_
      refine z_iload_n F dX12_does_35 rfl (q := 1) rfl ?_
      refine z_bipush F dX12_does_36 (by decide +kernel) ?_
      refine z_irem_p F dX12_does_38 (by omega) (by omega) (by omega) (by omega) (fun v3 ev3 => ?_)
      refine z_bipush F dX12_does_39 (by decide +kernel) ?_
      refine z_idiv_p F dX12_does_41 (by omega) (by omega) (by omega) (by omega) (fun v4 ev4 => ?_)
      refine z_iload_n F dX12_does_42 rfl (q := 1) rfl ?_
      refine z_sipush F dX12_does_43 (by decide +kernel) ?_
      refine z_icmp_ge (tgt := 56) F dX12_does_46 (by decide +kernel) (by omega) (by omega) (fun c5 => ?_) (fun c5 => ?_)
      · refine z_iload_n F dX12_does_56 rfl (q := 1) rfl ?_
        refine z_bipush F dX12_does_57 (by decide +kernel) ?_
        refine z_irem_p F dX12_does_59 (by omega) (by omega) (by omega) (by omega) (fun v6 ev6 => ?_)
        refine z_ineg F dX12_does_60 ?_
        have k7 : 0 ≤ v4 ∧ v4 ≤ 7 := by omega
        refine zv_v (rest := []) F (k_X12_adds l M ⟨hI, hW⟩ v4 (by omega) (by omega) (-v6) (by omega) (by omega)) cs_X12_367 (T := TX12) (N := 44) (ci := 12) rfl gs_131 (by decide) (by decide) rfl rfl rfl (Nat.le_of_ble_eq_true rfl) dX12_does_61 (fun M8 hI p9 => ?_)
        obtain ⟨hI, hW⟩ := hI
        have fp9 := p9
        have hF := hF.call fp9 (by decide)
        exact hret _ 64 _ ⟨hI, hW⟩ hF dX12_does_64
      · refine z_iload_n F dX12_does_49 rfl (q := 1) rfl ?_
        refine z_bipush F dX12_does_50 (by decide +kernel) ?_
        refine z_irem_p F dX12_does_52 (by omega) (by omega) (by omega) (by omega) (fun v10 ev10 => ?_)
        refine z_goto (tgt := 61) F dX12_does_53 (by decide +kernel) ?_
        have k11 : 0 ≤ v4 ∧ v4 ≤ 7 := by omega
        refine zv_v (rest := []) F (k_X12_adds l M ⟨hI, hW⟩ v4 (by omega) (by omega) v10 (by omega) (by omega)) cs_X12_367 (T := TX12) (N := 44) (ci := 12) rfl gs_131 (by decide) (by decide) rfl rfl rfl (Nat.le_of_ble_eq_true rfl) dX12_does_61 (fun M12 hI p13 => ?_)
        obtain ⟨hI, hW⟩ := hI
        have fp13 := p13
        have hF := hF.call fp13 (by decide)
        exact hret _ 64 _ ⟨hI, hW⟩ hF dX12_does_64
    · refine z_aload_n F dX12_does_18 rfl (q := 0) rfl ?_
      refine z_iload_n F dX12_does_19 rfl (q := 1) rfl ?_
      refine z_bipush F dX12_does_20 (by decide +kernel) ?_
      refine z_idiv_p F dX12_does_22 (by omega) (by omega) (by omega) (by omega) (fun v14 ev14 => ?_)
      refine z_iload_n F dX12_does_23 rfl (q := 1) rfl ?_
      refine z_bipush F dX12_does_24 (by decide +kernel) ?_
      refine z_irem_p F dX12_does_26 (by omega) (by omega) (by omega) (by omega) (fun v15 ev15 => ?_)
      have k16 : 0 ≤ v14 ∧ v14 ≤ 7 := by omega
      refine zv_i (rest := []) F (k_X12_moves l M ⟨hI, hW⟩ v14 (by omega) (by omega) v15 (by omega) (by omega)) cs_X12_382 (T := TX12) (N := 44) (ci := 12) rfl gs_131 (by decide) (by decide) rfl rfl rfl (Nat.le_of_ble_eq_true rfl) dX12_does_27 (fun v17 M18 rv17 hI p19 => ?_)
      obtain ⟨hI, hW⟩ := hI
      obtain ⟨⟨av17, bv17⟩, fp19⟩ := p19
      have hF := hF.call fp19 (by decide)
      refine z_pop F dX12_does_30 rfl ?_
      refine z_goto (tgt := 64) F dX12_does_31 (by decide +kernel) ?_
      exact hret _ 64 _ ⟨hI, hW⟩ hF dX12_does_64
  · refine z_aload_n F dX12_does_5 rfl (q := 0) rfl ?_
    refine zv_v (rest := []) F (k_X12_goesDay l M ⟨hI, hW⟩) cs_X12_385 (T := TX12) (N := 44) (ci := 12) rfl gs_131 (by decide) (by decide) rfl rfl rfl (Nat.le_of_ble_eq_true rfl) dX12_does_6 (fun M20 hI p21 => ?_)
    obtain ⟨hI, hW⟩ := hI
    have fp21 := p21
    have hF := hF.call fp21 (by decide)
    refine z_goto (tgt := 64) F dX12_does_9 (by decide +kernel) ?_
    exact hret _ 64 _ ⟨hI, hW⟩ hF dX12_does_64
set_option maxRecDepth 4000 in
theorem k_X12_judge (l : Launch) (M : Mem) (hJ : Iw M) (x0 : Int) (hx0a : (-2147483648) ≤ x0) (hx0b : x0 ≤ 2147483647) (x1 : Int) (hx1a : (-2147483648) ≤ x1) (hx1b : x1 ≤ 2147483647) : CI l yX12_judge cX12_judge 7 (some .int) 11 (fun ad => [.ref (ad 131), ii x0, ii x1]) M (fun z M' => ((-2147483648) ≤ z ∧ z ≤ 2147483647) ∧ Fr [131, 132, 137, 138] M M') := by
  obtain ⟨hI, hW⟩ := hJ
  have hF : Fr [131, 132, 137, 138] M M := Fr.rf
  refine en_i (by decide +kernel) (fun ad => by exact Nat.le_of_ble_eq_true rfl) (fun D cy ad A p e s m args below meth c Q F hret => ?_)
  refine z_eq (ls' := [(0, .ref (ad 131)), (1, ii x0), (2, ii x1)]) rfl rfl rfl ?_
  refine z_aload_n F dX12_judge_0 rfl (q := 0) rfl ?_
  refine z_aload_n F dX12_judge_1 rfl (q := 0) rfl ?_
  refine z_iload_n F dX12_judge_2 rfl (q := 1) rfl ?_
  refine zv_i (rest := [.ref (ad 131)]) F (k_X12_trayFault l M ⟨hI, hW⟩ x0 (by omega) (by omega)) cs_X12_401 (T := TX12) (N := 44) (ci := 12) rfl gs_131 (by decide) (by decide) rfl rfl rfl (Nat.le_of_ble_eq_true rfl) dX12_judge_3 (fun v1 M2 rv1 hI p3 => ?_)
  obtain ⟨hI, hW⟩ := hI
  obtain ⟨⟨av1, bv1⟩, rfl, xp3⟩ := p3
  refine pf_X12_73 F hI gs_131 rfl bd_131_4 rfl rfl dX12_judge_6 (by omega) (by omega) (fun M5 hI sf4 f4 => ?_)
  have hF := hF.wrf f4 (by decide) (by decide)
  have hW : WFk M5 := hW.site f4 (by decide)
  refine z_aload_n F dX12_judge_9 rfl (q := 0) rfl ?_
  refine gf_X12_73 F hI gs_131 rfl bd_131_4 dX12_judge_10 (fun v6 ev6 av6 bv6 => ?_)
  have zv6 : v1 = v6 := sf4.symm.trans ev6.symm
  subst zv6
  refine z_if_ne (tgt := 33) F dX12_judge_13 (by decide +kernel) (by omega) (fun c7 => ?_) (fun c7 => ?_)
  · refine z_aload_n F dX12_judge_33 rfl (q := 0) rfl ?_
    refine gf_X12_73 F hI gs_131 rfl bd_131_4 dX12_judge_34 (fun v8 ev8 av8 bv8 => ?_)
    have zv8 : v1 = v8 := sf4.symm.trans ev8.symm
    subst zv8
    refine z_if_le (tgt := 42) F dX12_judge_37 (by decide +kernel) (by omega) (fun c9 => by exfalso; omega) (fun c9 => ?_)
    refine z_iconst F dX12_judge_40 ?_
    exact hret _ _ 41 _ (by omega) ⟨hI, hW⟩ ⟨⟨by omega, by omega⟩, hF⟩ dX12_judge_41
  · refine z_iload_n F dX12_judge_16 rfl (q := 2) rfl ?_
    refine z_i2l F dX12_judge_17 (by omega) ?_
    refine z_lconst (x := 0) F dX12_judge_18 (by decide +kernel) ?_
    refine z_ldc2 (x := 3) F dX12_judge_19 (gin lm_153 rfl) (by decide +kernel) ?_
    refine zs_i (rest := []) F (k_X12_within l M5 ⟨hI, hW⟩ x1 (by omega) (by omega) 0 (by omega) (by omega) 3 (by omega) (by omega)) cs_X12_137 (by decide) (by decide) rfl rfl rfl (Nat.le_of_ble_eq_true rfl) dX12_judge_22 (fun v10 M11 rv10 hI p12 => ?_)
    obtain ⟨hI, hW⟩ := hI
    obtain ⟨⟨av10, bv10⟩, rfl, xp12⟩ := p12
    refine z_if_ne (tgt := 33) F dX12_judge_25 (by decide +kernel) (by omega) (fun c13 => ?_) (fun c13 => ?_)
    · refine z_aload_n F dX12_judge_33 rfl (q := 0) rfl ?_
      refine gf_X12_73 F hI gs_131 rfl bd_131_4 dX12_judge_34 (fun v14 ev14 av14 bv14 => ?_)
      have zv14 : v1 = v14 := sf4.symm.trans ev14.symm
      subst zv14
      refine z_if_le (tgt := 42) F dX12_judge_37 (by decide +kernel) (by omega) (fun c15 => ?_) (fun c15 => by exfalso; omega)
      refine z_aload_n F dX12_judge_42 rfl (q := 0) rfl ?_
      refine zv_v (rest := []) F (k_X12_putsAside l M5 ⟨hI, hW⟩) cs_X12_406 (T := TX12) (N := 44) (ci := 12) rfl gs_131 (by decide) (by decide) rfl rfl rfl (Nat.le_of_ble_eq_true rfl) dX12_judge_43 (fun M16 hI p17 => ?_)
      obtain ⟨hI, hW⟩ := hI
      have fp17 := p17
      have hF := hF.call fp17 (by decide)
      refine z_iconst F dX12_judge_46 ?_
      refine z_istore_n F dX12_judge_47 rfl (by decide) (ls' := [(3, ii (-1)), (0, .ref (ad 131)), (1, ii x0), (2, ii x1)]) rfl ?_
      refine z_iconst F dX12_judge_48 ?_
      refine z_istore F dX12_judge_49 (by decide) (ls' := [(4, ii 0), (3, ii (-1)), (0, .ref (ad 131)), (1, ii x0), (2, ii x1)]) rfl ?_
      refine z_iconst F dX12_judge_51 ?_
      refine z_istore F dX12_judge_52 (by decide) (ls' := [(5, ii 0), (4, ii 0), (3, ii (-1)), (0, .ref (ad 131)), (1, ii x0), (2, ii x1)]) rfl ?_
      refine z_loc [3, 4, 5, 2, 1, 0] (ls' := [(0, .ref (ad 131)), (1, ii x0), (2, ii x1), (3, ii (-1)), (4, ii 0), (5, ii 0)]) rfl ?_
      suffices key54 : ∀ (n : Nat) (y19 : Int) (y20 : Int) (y21 : Int) (M18 : Mem), Inv M18 → WFk M18 → Fr [131, 132, 137, 138] M M18 → (-1) ≤ y19 → y19 ≤ 29 → 0 ≤ y20 → y20 ≤ 4 → 0 ≤ y21 → y21 ≤ 30 → 30 - y21 < (n : Int) → Z D cy ad p l e (RMh 11) s m args below meth c A 7 0 0 Q 54 [(0, .ref (ad 131)), (1, ii x0), (2, ii x1), (3, ii y19), (4, ii y20), (5, ii y21)] [] M18 from key54 31 (-1) 0 0 M16 hI hW hF (by omega) (by omega) (by omega) (by omega) (by omega) (by omega) (by omega)
      intro n54
      induction n54 with
      | zero => intro y19 y20 y21 M18 hI hW hF ay19 by19 ay20 by20 ay21 by21 hn54; exfalso; omega
      | succ n54 ih54 =>
        intro y19 y20 y21 M18 hI hW hF ay19 by19 ay20 by20 ay21 by21 hn54
        refine z_iload F dX12_judge_54 (q := 5) rfl ?_
        refine z_aload_n F dX12_judge_56 rfl (q := 0) rfl ?_
        refine rf_X12_66 F gs_131 rfl dX12_judge_57 ?_
        refine z_iload_n F dX12_judge_60 rfl (q := 1) rfl ?_
        refine z_iald F hI gs_149 (by omega) (by omega) (by decide) bd_149 dX12_judge_61 (fun v22 (ev22 : v22 = M18 149 _) av22 bv22 => ?_)
        refine z_icmp_ge (tgt := 122) F dX12_judge_62 (by decide +kernel) (by omega) (by omega) (fun c23 => ?_) (fun c23 => ?_)
        · refine z_aload_n F dX12_judge_122 rfl (q := 0) rfl ?_
          refine rf_X12_9 F gs_131 rfl dX12_judge_123 ?_
          refine z_bipush F dX12_judge_126 (by decide +kernel) ?_
          refine z_iald F hI gs_132 (by omega) (by omega) (by decide) (show Bd 132 24 = (-2147483648, 2147483647) from rfl) dX12_judge_128 (fun v24 (ev24 : v24 = M18 132 24) av24 bv24 => ?_)
          refine z_istore F dX12_judge_129 (by decide) (ls' := [(5, ii v24), (0, .ref (ad 131)), (1, ii x0), (2, ii x1), (3, ii y19), (4, ii y20)]) rfl ?_
          refine z_aload_n F dX12_judge_131 rfl (q := 1) rfl ?_
          refine zv_i (rest := []) F (k_X12_allClashes l M18 ⟨hI, hW⟩) cs_X12_352 (T := TX12) (N := 44) (ci := 12) rfl gs_131 (by decide) (by decide) rfl rfl rfl (Nat.le_of_ble_eq_true rfl) dX12_judge_132 (fun v25 M26 rv25 hI p27 => ?_)
          obtain ⟨hI, hW⟩ := hI
          obtain ⟨⟨av25, bv25⟩, fp27⟩ := p27
          have hF := hF.call fp27 (by decide)
          refine z_istore F dX12_judge_135 (by decide) (ls' := [(6, ii v25), (5, ii v24), (0, .ref (ad 131)), (1, ii x0), (2, ii x1), (3, ii y19), (4, ii y20)]) rfl ?_
          refine z_aload_n F dX12_judge_137 rfl (q := 2) rfl ?_
          refine zv_v (rest := []) F (k_X12_putsBack l M26 ⟨hI, hW⟩) cs_X12_415 (T := TX12) (N := 44) (ci := 12) rfl gs_131 (by decide) (by decide) rfl rfl rfl (Nat.le_of_ble_eq_true rfl) dX12_judge_138 (fun M28 hI p29 => ?_)
          obtain ⟨hI, hW⟩ := hI
          have fp29 := p29
          have hF := hF.call fp29 (by decide)
          refine z_iload_n F dX12_judge_141 rfl (q := 4) rfl ?_
          refine z_if_ne (tgt := 149) F dX12_judge_142 (by decide +kernel) (by omega) (fun c30 => ?_) (fun c30 => ?_)
          · refine z_iload_n F dX12_judge_149 rfl (q := 4) rfl ?_
            refine z_iconst F dX12_judge_150 ?_
            refine z_icmp_ne (tgt := 159) F dX12_judge_151 (by decide +kernel) (by omega) (by omega) (fun c31 => ?_) (fun c31 => ?_)
            · refine z_iload_n F dX12_judge_159 rfl (q := 4) rfl ?_
              refine z_iconst F dX12_judge_160 ?_
              refine z_icmp_ne (tgt := 177) F dX12_judge_161 (by decide +kernel) (by omega) (by omega) (fun c32 => ?_) (fun c32 => ?_)
              · refine z_iload F dX12_judge_177 (q := 0) rfl ?_
                exact hret _ _ 179 _ (by omega) ⟨hI, hW⟩ ⟨⟨by omega, by omega⟩, hF⟩ dX12_judge_179
              · refine z_iload F dX12_judge_164 (q := 1) rfl ?_
                refine z_aload_n F dX12_judge_166 rfl (q := 2) rfl ?_
                refine rf_X12_9 F gs_131 rfl dX12_judge_167 ?_
                refine z_bipush F dX12_judge_170 (by decide +kernel) ?_
                refine z_iald F hI gs_132 (by omega) (by omega) (by decide) (show Bd 132 24 = (-2147483648, 2147483647) from rfl) dX12_judge_172 (fun v33 (ev33 : v33 = M28 132 24) av33 bv33 => ?_)
                have q34 : v24 = M26 132 24 := ev24.trans ((fp27.at (by decide)) : M26 132 24 = _).symm
                refine z_isub F dX12_judge_173 ?_
                refine z_wrap (fun v35 rv35 wv35 => ?_)
                refine z_goto (tgt := 179) F dX12_judge_174 (by decide +kernel) ?_
                exact hret _ _ 179 _ (by omega) ⟨hI, hW⟩ ⟨⟨by omega, by omega⟩, hF⟩ dX12_judge_179
            · refine z_iload F dX12_judge_154 (q := 6) rfl ?_
              refine z_goto (tgt := 179) F dX12_judge_156 (by decide +kernel) ?_
              exact hret _ _ 179 _ (by omega) ⟨hI, hW⟩ ⟨⟨by omega, by omega⟩, hF⟩ dX12_judge_179
          · refine z_iload_n F dX12_judge_145 rfl (q := 5) rfl ?_
            refine z_goto (tgt := 179) F dX12_judge_146 (by decide +kernel) ?_
            exact hret _ _ 179 _ (by omega) ⟨hI, hW⟩ ⟨⟨by omega, by omega⟩, hF⟩ dX12_judge_179
        · refine z_iload_n F dX12_judge_65 rfl (q := 3) rfl ?_
          refine z_iconst F dX12_judge_66 ?_
          refine z_icmp_ne (tgt := 122) F dX12_judge_67 (by decide +kernel) (by omega) (by omega) (fun c36 => ?_) (fun c36 => ?_)
          · refine z_aload_n F dX12_judge_122 rfl (q := 0) rfl ?_
            refine rf_X12_9 F gs_131 rfl dX12_judge_123 ?_
            refine z_bipush F dX12_judge_126 (by decide +kernel) ?_
            refine z_iald F hI gs_132 (by omega) (by omega) (by decide) (show Bd 132 24 = (-2147483648, 2147483647) from rfl) dX12_judge_128 (fun v37 (ev37 : v37 = M18 132 24) av37 bv37 => ?_)
            refine z_istore F dX12_judge_129 (by decide) (ls' := [(5, ii v37), (0, .ref (ad 131)), (1, ii x0), (2, ii x1), (3, ii y19), (4, ii y20)]) rfl ?_
            refine z_aload_n F dX12_judge_131 rfl (q := 1) rfl ?_
            refine zv_i (rest := []) F (k_X12_allClashes l M18 ⟨hI, hW⟩) cs_X12_352 (T := TX12) (N := 44) (ci := 12) rfl gs_131 (by decide) (by decide) rfl rfl rfl (Nat.le_of_ble_eq_true rfl) dX12_judge_132 (fun v38 M39 rv38 hI p40 => ?_)
            obtain ⟨hI, hW⟩ := hI
            obtain ⟨⟨av38, bv38⟩, fp40⟩ := p40
            have hF := hF.call fp40 (by decide)
            refine z_istore F dX12_judge_135 (by decide) (ls' := [(6, ii v38), (5, ii v37), (0, .ref (ad 131)), (1, ii x0), (2, ii x1), (3, ii y19), (4, ii y20)]) rfl ?_
            refine z_aload_n F dX12_judge_137 rfl (q := 2) rfl ?_
            refine zv_v (rest := []) F (k_X12_putsBack l M39 ⟨hI, hW⟩) cs_X12_415 (T := TX12) (N := 44) (ci := 12) rfl gs_131 (by decide) (by decide) rfl rfl rfl (Nat.le_of_ble_eq_true rfl) dX12_judge_138 (fun M41 hI p42 => ?_)
            obtain ⟨hI, hW⟩ := hI
            have fp42 := p42
            have hF := hF.call fp42 (by decide)
            refine z_iload_n F dX12_judge_141 rfl (q := 4) rfl ?_
            refine z_if_ne (tgt := 149) F dX12_judge_142 (by decide +kernel) (by omega) (fun c43 => ?_) (fun c43 => ?_)
            · refine z_iload_n F dX12_judge_149 rfl (q := 4) rfl ?_
              refine z_iconst F dX12_judge_150 ?_
              refine z_icmp_ne (tgt := 159) F dX12_judge_151 (by decide +kernel) (by omega) (by omega) (fun c44 => ?_) (fun c44 => ?_)
              · refine z_iload_n F dX12_judge_159 rfl (q := 4) rfl ?_
                refine z_iconst F dX12_judge_160 ?_
                refine z_icmp_ne (tgt := 177) F dX12_judge_161 (by decide +kernel) (by omega) (by omega) (fun c45 => ?_) (fun c45 => ?_)
                · refine z_iload F dX12_judge_177 (q := 0) rfl ?_
                  exact hret _ _ 179 _ (by omega) ⟨hI, hW⟩ ⟨⟨by omega, by omega⟩, hF⟩ dX12_judge_179
                · refine z_iload F dX12_judge_164 (q := 1) rfl ?_
                  refine z_aload_n F dX12_judge_166 rfl (q := 2) rfl ?_
                  refine rf_X12_9 F gs_131 rfl dX12_judge_167 ?_
                  refine z_bipush F dX12_judge_170 (by decide +kernel) ?_
                  refine z_iald F hI gs_132 (by omega) (by omega) (by decide) (show Bd 132 24 = (-2147483648, 2147483647) from rfl) dX12_judge_172 (fun v46 (ev46 : v46 = M41 132 24) av46 bv46 => ?_)
                  have q47 : v37 = M39 132 24 := ev37.trans ((fp40.at (by decide)) : M39 132 24 = _).symm
                  refine z_isub F dX12_judge_173 ?_
                  refine z_wrap (fun v48 rv48 wv48 => ?_)
                  refine z_goto (tgt := 179) F dX12_judge_174 (by decide +kernel) ?_
                  exact hret _ _ 179 _ (by omega) ⟨hI, hW⟩ ⟨⟨by omega, by omega⟩, hF⟩ dX12_judge_179
              · refine z_iload F dX12_judge_154 (q := 6) rfl ?_
                refine z_goto (tgt := 179) F dX12_judge_156 (by decide +kernel) ?_
                exact hret _ _ 179 _ (by omega) ⟨hI, hW⟩ ⟨⟨by omega, by omega⟩, hF⟩ dX12_judge_179
            · refine z_iload_n F dX12_judge_145 rfl (q := 5) rfl ?_
              refine z_goto (tgt := 179) F dX12_judge_146 (by decide +kernel) ?_
              exact hret _ _ 179 _ (by omega) ⟨hI, hW⟩ ⟨⟨by omega, by omega⟩, hF⟩ dX12_judge_179
          · refine z_aload_n F dX12_judge_70 rfl (q := 0) rfl ?_
            refine z_aload_n F dX12_judge_71 rfl (q := 0) rfl ?_
            refine rf_X12_69 F gs_131 rfl dX12_judge_72 ?_
            refine z_bipush F dX12_judge_75 (by decide +kernel) ?_
            refine z_iload_n F dX12_judge_77 rfl (q := 1) rfl ?_
            refine z_imul F dX12_judge_78 ?_
            refine z_iload F dX12_judge_79 (q := 5) rfl ?_
            refine z_iadd F dX12_judge_81 ?_
            refine z_lald F hI gs_150 (by omega) (by omega) (by decide) bd_150 dX12_judge_82 (fun v49 (ev49 : v49 = M18 150 _) av49 bv49 => ?_)
            refine zv_i (rest := []) F (k_X12_whyTold l M18 ⟨hI, hW⟩ v49 (by omega) (by omega)) cs_X12_409 (T := TX12) (N := 44) (ci := 12) rfl gs_131 (by decide) (by decide) rfl rfl rfl (Nat.le_of_ble_eq_true rfl) dX12_judge_83 (fun v50 M51 rv50 hI p52 => ?_)
            obtain ⟨hI, hW⟩ := hI
            obtain ⟨⟨av50, bv50⟩, rfl, xp52⟩ := p52
            refine z_istore F dX12_judge_86 (by decide) (ls' := [(4, ii v50), (0, .ref (ad 131)), (1, ii x0), (2, ii x1), (3, ii y19), (5, ii y21)]) rfl ?_
            refine z_iload F dX12_judge_88 (q := 0) rfl ?_
            refine z_if_ne (tgt := 113) F dX12_judge_90 (by decide +kernel) (by omega) (fun c53 => ?_) (fun c53 => ?_)
            · refine z_iload F dX12_judge_113 (q := 5) rfl ?_
              refine z_istore_n F dX12_judge_115 rfl (by decide) (ls' := [(3, ii y21), (4, ii v50), (0, .ref (ad 131)), (1, ii x0), (2, ii x1), (5, ii y21)]) rfl ?_
              refine z_iincN F dX12_judge_116 (q := 5) rfl (by decide) (fun v54 ev54 => ?_)
              refine z_eq (ls' := [(5, ii v54), (3, ii y21), (4, ii v50), (0, .ref (ad 131)), (1, ii x0), (2, ii x1)]) rfl rfl rfl ?_
              refine z_goto (tgt := 54) F dX12_judge_119 (by decide +kernel) ?_
              refine z_loc [3, 4, 5, 1, 2, 0] (ls' := [(0, .ref (ad 131)), (1, ii x0), (2, ii x1), (3, ii y21), (4, ii v50), (5, ii v54)]) rfl ?_
              exact ih54 y21 v50 v54 M18 hI hW hF (by omega) (by omega) (by omega) (by omega) (by omega) (by omega) (by omega)
            · refine z_aload_n F dX12_judge_93 rfl (q := 1) rfl ?_
              refine z_aload_n F dX12_judge_94 rfl (q := 1) rfl ?_
              refine rf_X12_69 F gs_131 rfl dX12_judge_95 ?_
              refine z_bipush F dX12_judge_98 (by decide +kernel) ?_
              refine z_iload_n F dX12_judge_100 rfl (q := 2) rfl ?_
              refine z_imul F dX12_judge_101 ?_
              refine z_iload F dX12_judge_102 (q := 5) rfl ?_
              refine z_iadd F dX12_judge_104 ?_
              refine z_lald F hI gs_150 (by omega) (by omega) (by decide) bd_150 dX12_judge_105 (fun v55 (ev55 : v55 = M18 150 _) av55 bv55 => ?_)
              have zv55 : v49 = v55 := ev49.trans ev55.symm
              subst zv55
              refine z_l2i F dX12_judge_106 (by omega) ?_
              refine zv_v (rest := []) F (k_X12_does l M18 ⟨hI, hW⟩ v49 (by omega) (by omega) (by omega)) cs_X12_412 (T := TX12) (N := 44) (ci := 12) rfl gs_131 (by decide) (by decide) rfl rfl rfl (Nat.le_of_ble_eq_true rfl) dX12_judge_107 (fun M56 hI p57 => ?_)
              obtain ⟨hI, hW⟩ := hI
              have fp57 := p57
              have hF := hF.call fp57 (by decide)
              refine z_goto (tgt := 116) F dX12_judge_110 (by decide +kernel) ?_
              refine z_iincN F dX12_judge_116 (q := 5) rfl (by decide) (fun v58 ev58 => ?_)
              refine z_eq (ls' := [(5, ii v58), (4, ii v50), (0, .ref (ad 131)), (1, ii x0), (2, ii x1), (3, ii y19)]) rfl rfl rfl ?_
              refine z_goto (tgt := 54) F dX12_judge_119 (by decide +kernel) ?_
              refine z_loc [2, 3, 4, 5, 1, 0] (ls' := [(0, .ref (ad 131)), (1, ii x0), (2, ii x1), (3, ii y19), (4, ii v50), (5, ii v58)]) rfl ?_
              exact ih54 y19 v50 v58 M56 hI hW hF (by omega) (by omega) (by omega) (by omega) (by omega) (by omega) (by omega)
    · refine z_aload_n F dX12_judge_28 rfl (q := 0) rfl ?_
      refine z_iconst F dX12_judge_29 ?_
      refine pf_X12_73 F hI gs_131 rfl bd_131_4 rfl rfl dX12_judge_30 (by omega) (by omega) (fun M60 hI sf59 f59 => ?_)
      have hF := hF.wrf f59 (by decide) (by decide)
      have hW : WFk M60 := hW.site f59 (by decide)
      refine z_aload_n F dX12_judge_33 rfl (q := 0) rfl ?_
      refine gf_X12_73 F hI gs_131 rfl bd_131_4 dX12_judge_34 (fun v61 ev61 av61 bv61 => ?_)
      have zv61 : 3 = v61 := sf59.symm.trans ev61.symm
      subst zv61
      refine z_if_le (tgt := 42) F dX12_judge_37 (by decide +kernel) (by omega) (fun c62 => by exfalso; omega) (fun c62 => ?_)
      refine z_iconst F dX12_judge_40 ?_
      exact hret _ _ 41 _ (by omega) ⟨hI, hW⟩ ⟨⟨by omega, by omega⟩, hF⟩ dX12_judge_41
set_option maxRecDepth 4000 in
theorem k_X12_perform (l : Launch) (M : Mem) (hJ : Iw M) (x0 : Int) (hx0a : (-2147483648) ≤ x0) (hx0b : x0 ≤ 2147483647) : CI l yX12_perform cX12_perform 3 (some .int) 11 (fun ad => [.ref (ad 131), ii x0]) M (fun z M' => (0 ≤ z ∧ z ≤ 30) ∧ Fr [131, 132, 137] M M') := by
  obtain ⟨hI, hW⟩ := hJ
  have hF : Fr [131, 132, 137] M M := Fr.rf
  refine en_i (by decide +kernel) (fun ad => by exact Nat.le_of_ble_eq_true rfl) (fun D cy ad A p e s m args below meth c Q F hret => ?_)
  refine z_eq (ls' := [(0, .ref (ad 131)), (1, ii x0)]) rfl rfl rfl ?_
  refine z_aload_n F dX12_perform_0 rfl (q := 0) rfl ?_
  refine z_aload_n F dX12_perform_1 rfl (q := 0) rfl ?_
  refine z_iload_n F dX12_perform_2 rfl (q := 1) rfl ?_
  refine zv_i (rest := [.ref (ad 131)]) F (k_X12_trayFault l M ⟨hI, hW⟩ x0 (by omega) (by omega)) cs_X12_401 (T := TX12) (N := 44) (ci := 12) rfl gs_131 (by decide) (by decide) rfl rfl rfl (Nat.le_of_ble_eq_true rfl) dX12_perform_3 (fun v1 M2 rv1 hI p3 => ?_)
  obtain ⟨hI, hW⟩ := hI
  obtain ⟨⟨av1, bv1⟩, rfl, xp3⟩ := p3
  refine pf_X12_73 F hI gs_131 rfl bd_131_4 rfl rfl dX12_perform_6 (by omega) (by omega) (fun M5 hI sf4 f4 => ?_)
  have hF := hF.wrf f4 (by decide) (by decide)
  have hW : WFk M5 := hW.site f4 (by decide)
  refine z_aload_n F dX12_perform_9 rfl (q := 0) rfl ?_
  refine gf_X12_73 F hI gs_131 rfl bd_131_4 dX12_perform_10 (fun v6 ev6 av6 bv6 => ?_)
  have zv6 : v1 = v6 := sf4.symm.trans ev6.symm
  subst zv6
  refine z_if_le (tgt := 18) F dX12_perform_13 (by decide +kernel) (by omega) (fun c7 => ?_) (fun c7 => ?_)
  · refine z_iconst F dX12_perform_18 ?_
    refine z_istore_n F dX12_perform_19 rfl (by decide) (ls' := [(2, ii 0), (0, .ref (ad 131)), (1, ii x0)]) rfl ?_
    refine z_loc [1, 2, 0] (ls' := [(0, .ref (ad 131)), (1, ii x0), (2, ii 0)]) rfl ?_
    suffices key20 : ∀ (n : Nat) (y9 : Int) (M8 : Mem), Inv M8 → WFk M8 → Fr [131, 132, 137] M M8 → 0 ≤ y9 → y9 ≤ 30 → 30 - y9 < (n : Int) → Z D cy ad p l e (RMh 11) s m args below meth c A 3 0 0 Q 20 [(0, .ref (ad 131)), (1, ii x0), (2, ii y9)] [] M8 from key20 31 0 M5 hI hW hF (by omega) (by omega) (by omega)
    intro n20
    induction n20 with
    | zero => intro y9 M8 hI hW hF ay9 by9 hn20; exfalso; omega
    | succ n20 ih20 =>
      intro y9 M8 hI hW hF ay9 by9 hn20
      refine z_iload_n F dX12_perform_20 rfl (q := 2) rfl ?_
      refine z_aload_n F dX12_perform_21 rfl (q := 0) rfl ?_
      refine rf_X12_66 F gs_131 rfl dX12_perform_22 ?_
      refine z_iload_n F dX12_perform_25 rfl (q := 1) rfl ?_
      refine z_iald F hI gs_149 (by omega) (by omega) (by decide) bd_149 dX12_perform_26 (fun v10 (ev10 : v10 = M8 149 _) av10 bv10 => ?_)
      refine z_icmp_ge (tgt := 74) F dX12_perform_27 (by decide +kernel) (by omega) (by omega) (fun c11 => ?_) (fun c11 => ?_)
      · refine z_iload_n F dX12_perform_74 rfl (q := 2) rfl ?_
        exact hret _ _ 75 _ (by omega) ⟨hI, hW⟩ ⟨⟨by omega, by omega⟩, hF⟩ dX12_perform_75
      · refine z_aload_n F dX12_perform_30 rfl (q := 0) rfl ?_
        refine z_aload_n F dX12_perform_31 rfl (q := 0) rfl ?_
        refine rf_X12_69 F gs_131 rfl dX12_perform_32 ?_
        refine z_bipush F dX12_perform_35 (by decide +kernel) ?_
        refine z_iload_n F dX12_perform_37 rfl (q := 1) rfl ?_
        refine z_imul F dX12_perform_38 ?_
        refine z_iload_n F dX12_perform_39 rfl (q := 2) rfl ?_
        refine z_iadd F dX12_perform_40 ?_
        refine z_lald F hI gs_150 (by omega) (by omega) (by decide) bd_150 dX12_perform_41 (fun v12 (ev12 : v12 = M8 150 _) av12 bv12 => ?_)
        refine zv_i (rest := []) F (k_X12_whyTold l M8 ⟨hI, hW⟩ v12 (by omega) (by omega)) cs_X12_409 (T := TX12) (N := 44) (ci := 12) rfl gs_131 (by decide) (by decide) rfl rfl rfl (Nat.le_of_ble_eq_true rfl) dX12_perform_42 (fun v13 M14 rv13 hI p15 => ?_)
        obtain ⟨hI, hW⟩ := hI
        obtain ⟨⟨av13, bv13⟩, rfl, xp15⟩ := p15
        refine z_if_ne (tgt := 74) F dX12_perform_45 (by decide +kernel) (by omega) (fun c16 => ?_) (fun c16 => ?_)
        · refine z_iload_n F dX12_perform_74 rfl (q := 2) rfl ?_
          exact hret _ _ 75 _ (by omega) ⟨hI, hW⟩ ⟨⟨by omega, by omega⟩, hF⟩ dX12_perform_75
        · refine z_aload_n F dX12_perform_48 rfl (q := 0) rfl ?_
          refine zv_v (rest := []) F (k_X12_keeps l M8 ⟨hI, hW⟩) cs_X12_375 (T := TX12) (N := 44) (ci := 12) rfl gs_131 (by decide) (by decide) rfl rfl rfl (Nat.le_of_ble_eq_true rfl) dX12_perform_49 (fun M17 hI p18 => ?_)
          obtain ⟨hI, hW⟩ := hI
          have fp18 := p18
          have hF := hF.call fp18 (by decide)
          refine z_aload_n F dX12_perform_52 rfl (q := 0) rfl ?_
          refine z_aload_n F dX12_perform_53 rfl (q := 0) rfl ?_
          refine rf_X12_69 F gs_131 rfl dX12_perform_54 ?_
          refine z_bipush F dX12_perform_57 (by decide +kernel) ?_
          refine z_iload_n F dX12_perform_59 rfl (q := 1) rfl ?_
          refine z_imul F dX12_perform_60 ?_
          refine z_iload_n F dX12_perform_61 rfl (q := 2) rfl ?_
          refine z_iadd F dX12_perform_62 ?_
          refine z_lald F hI gs_150 (by omega) (by omega) (by decide) bd_150 dX12_perform_63 (fun v19 (ev19 : v19 = M17 150 _) av19 bv19 => ?_)
          have q20 : v12 = M17 150 (((30 * x0) + y9)).toNat := ev12.trans ((fp18.at (by decide)) : M17 150 (((30 * x0) + y9)).toNat = _).symm
          have zv19 : v12 = v19 := q20.trans ev19.symm
          subst zv19
          refine z_l2i F dX12_perform_64 (by omega) ?_
          refine zv_v (rest := []) F (k_X12_does l M17 ⟨hI, hW⟩ v12 (by omega) (by omega) (by omega)) cs_X12_412 (T := TX12) (N := 44) (ci := 12) rfl gs_131 (by decide) (by decide) rfl rfl rfl (Nat.le_of_ble_eq_true rfl) dX12_perform_65 (fun M21 hI p22 => ?_)
          obtain ⟨hI, hW⟩ := hI
          have fp22 := p22
          have hF := hF.call fp22 (by decide)
          refine z_iincN F dX12_perform_68 (q := 2) rfl (by decide) (fun v23 ev23 => ?_)
          refine z_eq (ls' := [(2, ii v23), (0, .ref (ad 131)), (1, ii x0)]) rfl rfl rfl ?_
          refine z_goto (tgt := 20) F dX12_perform_71 (by decide +kernel) ?_
          refine z_loc [1, 2, 0] (ls' := [(0, .ref (ad 131)), (1, ii x0), (2, ii v23)]) rfl ?_
          exact ih20 v23 M21 hI hW hF (by omega) (by omega) (by omega)
  · refine z_iconst F dX12_perform_16 ?_
    exact hret _ _ 17 _ (by omega) ⟨hI, hW⟩ ⟨⟨by omega, by omega⟩, hF⟩ dX12_perform_17
set_option maxRecDepth 4000 in
theorem k_X12_draw (l : Launch) (M : Mem) (hJ : Iw M) (x0 : Int) (hx0a : 1 ≤ x0) (hx0b : x0 ≤ 10) : CI l yX12_draw cX12_draw 2 (some .int) 1 (fun ad => [.ref (ad 131), ii x0]) M (fun z M' => (0 ≤ z ∧ z ≤ 9) ∧ Fr [131] M M') := by
  obtain ⟨hI, hW⟩ := hJ
  have hF : Fr [131] M M := Fr.rf
  refine en_i (by decide +kernel) (fun ad => by exact Nat.le_of_ble_eq_true rfl) (fun D cy ad A p e s m args below meth c Q F hret => ?_)
  refine z_eq (ls' := [(0, .ref (ad 131)), (1, ii x0)]) rfl rfl rfl ?_
  refine z_aload_n F dX12_draw_0 rfl (q := 0) rfl ?_
  refine z_ldcw (x := 1103515245) F dX12_draw_1 (gin lm_184 rfl) (by decide +kernel) ?_
  refine z_aload_n F dX12_draw_4 rfl (q := 0) rfl ?_
  refine gf_X12_419 F hI gs_131 rfl bd_131_19 dX12_draw_5 (fun v1 ev1 av1 bv1 => ?_)
  refine z_imul F dX12_draw_8 ?_
  refine z_wrap (fun v2 rv2 wv2 => ?_)
  refine z_sipush F dX12_draw_9 (by decide +kernel) ?_
  refine z_iadd F dX12_draw_12 ?_
  refine z_wrap (fun v3 rv3 wv3 => ?_)
  refine pf_X12_419 F hI gs_131 rfl bd_131_19 rfl rfl dX12_draw_13 (by omega) (by omega) (fun M5 hI sf4 f4 => ?_)
  have hF := hF.wrf f4 (by decide) (by decide)
  have hW : WFk M5 := hW.site f4 (by decide)
  refine z_aload_n F dX12_draw_16 rfl (q := 0) rfl ?_
  refine gf_X12_419 F hI gs_131 rfl bd_131_19 dX12_draw_17 (fun v6 ev6 av6 bv6 => ?_)
  have zv6 : v3 = v6 := sf4.symm.trans ev6.symm
  subst zv6
  refine z_bipush F dX12_draw_20 (by decide +kernel) ?_
  refine z_iushr_k (k := 16) F dX12_draw_22 (by decide) (by decide +kernel) (fun v7 av7 bv7 => ?_)
  refine z_iload_n F dX12_draw_23 rfl (q := 1) rfl ?_
  refine z_irem_v F dX12_draw_24 (by omega) (by omega) (by omega) (by omega) (fun v8 av8 bv8 => ?_)
  exact hret _ _ 25 _ (by omega) ⟨hI, hW⟩ ⟨⟨by omega, by omega⟩, hF⟩ dX12_draw_25
set_option maxRecDepth 4000 in
theorem k_X12_season (l : Launch) (M : Mem) (hJ : Iw M) (x0 : Int) (hx0a : (-2147483648) ≤ x0) (hx0b : x0 ≤ 2147483647) (x1 : Int) (hx1a : (-2147483648) ≤ x1) (hx1b : x1 ≤ 2147483647) : CI l yX12_season cX12_season 8 (some .int) 11 (fun ad => [.ref (ad 131), ii x0, ii x1]) M (fun z M' => ((-2147483648) ≤ z ∧ z ≤ 2147483647) ∧ Fr [131, 132, 137] M M') := by
  obtain ⟨hI, hW⟩ := hJ
  have hF : Fr [131, 132, 137] M M := Fr.rf
  refine en_i (by decide +kernel) (fun ad => by exact Nat.le_of_ble_eq_true rfl) (fun D cy ad A p e s m args below meth c Q F hret => ?_)
  refine z_eq (ls' := [(0, .ref (ad 131)), (1, ii x0), (2, ii x1)]) rfl rfl rfl ?_
  refine z_aload_n F dX12_season_0 rfl (q := 0) rfl ?_
  refine z_iload_n F dX12_season_1 rfl (q := 2) rfl ?_
  refine z_i2l F dX12_season_2 (by omega) ?_
  refine z_lconst (x := 1) F dX12_season_3 (by decide +kernel) ?_
  refine z_ldc2 (x := 30) F dX12_season_4 (gin lm_186 rfl) (by decide +kernel) ?_
  refine zs_i (rest := [.ref (ad 131)]) F (k_X12_within l M ⟨hI, hW⟩ x1 (by omega) (by omega) 1 (by omega) (by omega) 30 (by omega) (by omega)) cs_X12_137 (by decide) (by decide) rfl rfl rfl (Nat.le_of_ble_eq_true rfl) dX12_season_7 (fun v1 M2 rv1 hI p3 => ?_)
  obtain ⟨hI, hW⟩ := hI
  obtain ⟨⟨av1, bv1⟩, rfl, xp3⟩ := p3
  refine z_if_ne (tgt := 17) F dX12_season_10 (by decide +kernel) (by omega) (fun c4 => ?_) (fun c4 => ?_)
  · refine z_aload_n F dX12_season_17 rfl (q := 0) rfl ?_
    refine zv_i (rest := [.ref (ad 131)]) F (k_X12_things l M ⟨hI, hW⟩) cs_X12_275 (T := TX12) (N := 44) (ci := 12) rfl gs_131 (by decide) (by decide) rfl rfl rfl (Nat.le_of_ble_eq_true rfl) dX12_season_18 (fun v5 M6 rv5 hI p7 => ?_)
    obtain ⟨hI, hW⟩ := hI
    obtain ⟨⟨av5, bv5⟩, rfl, xp7⟩ := p7
    refine z_if_ne (tgt := 28) F dX12_season_21 (by decide +kernel) (by omega) (fun c8 => ?_) (fun c8 => ?_)
    · refine z_iconst F dX12_season_28 ?_
      refine pf_X12_73 F hI gs_131 rfl bd_131_4 rfl rfl dX12_season_29 (by omega) (by omega) (fun M10 hI sf9 f9 => ?_)
      have hF := hF.wrf f9 (by decide) (by decide)
      have hW : WFk M10 := hW.site f9 (by decide)
      refine z_aload_n F dX12_season_32 rfl (q := 0) rfl ?_
      refine gf_X12_73 F hI gs_131 rfl bd_131_4 dX12_season_33 (fun v11 ev11 av11 bv11 => ?_)
      have zv11 : 0 = v11 := sf9.symm.trans ev11.symm
      subst zv11
      refine z_if_le (tgt := 41) F dX12_season_36 (by decide +kernel) (by omega) (fun c12 => ?_) (fun c12 => by exfalso; omega)
      refine z_aload_n F dX12_season_41 rfl (q := 0) rfl ?_
      refine z_iload_n F dX12_season_42 rfl (q := 1) rfl ?_
      refine pf_X12_419 F hI gs_131 rfl bd_131_19 rfl rfl dX12_season_43 (by omega) (by omega) (fun M14 hI sf13 f13 => ?_)
      have hF := hF.wrf f13 (by decide) (by decide)
      have hW : WFk M14 := hW.site f13 (by decide)
      refine z_iconst F dX12_season_46 ?_
      refine z_istore_n F dX12_season_47 rfl (by decide) (ls' := [(3, ii 0), (0, .ref (ad 131)), (1, ii x0), (2, ii x1)]) rfl ?_
      refine z_iconst F dX12_season_48 ?_
      refine z_istore F dX12_season_49 (by decide) (ls' := [(4, ii 0), (3, ii 0), (0, .ref (ad 131)), (1, ii x0), (2, ii x1)]) rfl ?_
      refine z_loc [2, 4, 1, 0] (ls' := [(0, .ref (ad 131)), (2, ii x1), (3, ii 0), (4, ii 0)]) rfl ?_
      have q18 : v5 = M10 132 2 := xp7.trans (f9 132 2 (fun q => absurd q.1 (by decide))).symm
      have q19 : v5 = M14 132 2 := q18.trans (f13 132 2 (fun q => absurd q.1 (by decide))).symm
      have hk : 0 < M14 132 2 → 1 ≤ M14 132 1 := hW.1.2
      suffices key51 : ∀ (n : Nat) (y16 : Int) (y17 : Int) (M15 : Mem), Inv M15 → WFk M15 → Fr [131, 132, 137] M M15 → (-2147483648) ≤ y16 → y16 ≤ 2147483647 → 0 ≤ y17 → y17 ≤ 30 → (1 ≤ M15 132 1) → (1 ≤ M15 132 2) → 30 - y17 < (n : Int) → Z D cy ad p l e (RMh 11) s m args below meth c A 8 0 0 Q 51 [(0, .ref (ad 131)), (2, ii x1), (3, ii y16), (4, ii y17)] [] M15 from key51 31 0 0 M14 hI hW hF (by omega) (by omega) (by omega) (by omega) (by omega) (by omega) (by omega)
      intro n51
      induction n51 with
      | zero => intro y16 y17 M15 hI hW hF ay16 by16 ay17 by17 i51_0 i51_1 hn51; exfalso; omega
      | succ n51 ih51 =>
        intro y16 y17 M15 hI hW hF ay16 by16 ay17 by17 i51_0 i51_1 hn51
        obtain ⟨u20, eu20⟩ : ∃ v : Int, v = M15 132 1 := ⟨_, rfl⟩
        have ku20 : 1 ≤ u20 ∧ u20 ≤ 10 := by have := hI.at (show Bd 132 1 = (0, 10) from rfl); omega
        obtain ⟨u21, eu21⟩ : ∃ v : Int, v = M15 132 2 := ⟨_, rfl⟩
        have ku21 : 1 ≤ u21 ∧ u21 ≤ 8 := by have := hI.at (show Bd 132 2 = (0, 8) from rfl); omega
        refine z_iload F dX12_season_51 (q := 3) rfl ?_
        refine z_iload_n F dX12_season_53 rfl (q := 1) rfl ?_
        refine z_icmp_ge (tgt := 156) F dX12_season_54 (by decide +kernel) (by omega) (by omega) (fun c22 => ?_) (fun c22 => ?_)
        · refine z_iload_n F dX12_season_156 rfl (q := 2) rfl ?_
          exact hret _ _ 157 _ (by omega) ⟨hI, hW⟩ ⟨⟨by omega, by omega⟩, hF⟩ dX12_season_157
        · refine z_aload_n F dX12_season_57 rfl (q := 0) rfl ?_
          refine z_iconst F dX12_season_58 ?_
          refine zv_i (rest := []) F (k_X12_draw l M15 ⟨hI, hW⟩ 3 (by omega) (by omega)) cs_X12_424 (T := TX12) (N := 44) (ci := 12) rfl gs_131 (by decide) (by decide) rfl rfl rfl (Nat.le_of_ble_eq_true rfl) dX12_season_59 (fun v23 M24 rv23 hI p25 => ?_)
          obtain ⟨hI, hW⟩ := hI
          obtain ⟨⟨av23, bv23⟩, fp25⟩ := p25
          have hF := hF.call fp25 (by decide)
          refine z_istore F dX12_season_62 (by decide) (ls' := [(5, ii v23), (0, .ref (ad 131)), (2, ii x1), (3, ii y16), (4, ii y17)]) rfl ?_
          refine z_iconst F dX12_season_64 ?_
          refine z_istore F dX12_season_65 (by decide) (ls' := [(6, ii (-1)), (5, ii v23), (0, .ref (ad 131)), (2, ii x1), (3, ii y16), (4, ii y17)]) rfl ?_
          refine z_iload F dX12_season_67 (q := 1) rfl ?_
          refine z_if_le (tgt := 124) F dX12_season_69 (by decide +kernel) (by omega) (fun c26 => ?_) (fun c26 => ?_)
          · refine z_aload_n F dX12_season_124 rfl (q := 2) rfl ?_
            refine z_iload F dX12_season_125 (q := 0) rfl ?_
            refine z_i2l F dX12_season_127 (by omega) ?_
            refine zv_i (rest := []) F (k_X12_whyTold l M24 ⟨hI, hW⟩ (-1) (by omega) (by omega)) cs_X12_409 (T := TX12) (N := 44) (ci := 12) rfl gs_131 (by decide) (by decide) rfl rfl rfl (Nat.le_of_ble_eq_true rfl) dX12_season_128 (fun v27 M28 rv27 hI p29 => ?_)
            obtain ⟨hI, hW⟩ := hI
            obtain ⟨⟨av27, bv27⟩, rfl, xp29⟩ := p29
            refine z_if_eq (tgt := 137) F dX12_season_131 (by decide +kernel) (by omega) (fun c30 => ?_) (fun c30 => ?_)
            · refine z_aload_n F dX12_season_137 rfl (q := 2) rfl ?_
              refine zv_v (rest := []) F (k_X12_keeps l M24 ⟨hI, hW⟩) cs_X12_375 (T := TX12) (N := 44) (ci := 12) rfl gs_131 (by decide) (by decide) rfl rfl rfl (Nat.le_of_ble_eq_true rfl) dX12_season_138 (fun M31 hI p32 => ?_)
              obtain ⟨hI, hW⟩ := hI
              have fp32 := p32
              have hF := hF.call fp32 (by decide)
              refine z_aload_n F dX12_season_141 rfl (q := 2) rfl ?_
              refine z_iload F dX12_season_142 (q := 0) rfl ?_
              refine zv_v (rest := []) F (k_X12_does l M31 ⟨hI, hW⟩ (-1) (by omega) (by omega) (by omega)) cs_X12_412 (T := TX12) (N := 44) (ci := 12) rfl gs_131 (by decide) (by decide) rfl rfl rfl (Nat.le_of_ble_eq_true rfl) dX12_season_144 (fun M33 hI p34 => ?_)
              obtain ⟨hI, hW⟩ := hI
              have fp34 := p34
              have hF := hF.call fp34 (by decide)
              refine z_iincW F dX12_season_147 (q := 4) rfl (by decide) (fun v35 rv35 wv35 => ?_)
              refine z_eq (ls' := [(3, ii v35), (6, ii (-1)), (5, ii v23), (0, .ref (ad 131)), (2, ii x1), (4, ii y17)]) rfl rfl rfl ?_
              refine z_iincN F dX12_season_150 (q := 5) rfl (by decide) (fun v36 ev36 => ?_)
              refine z_eq (ls' := [(4, ii v36), (3, ii v35), (6, ii (-1)), (5, ii v23), (0, .ref (ad 131)), (2, ii x1)]) rfl rfl rfl ?_
              refine z_goto (tgt := 51) F dX12_season_153 (by decide +kernel) ?_
              refine z_loc [4, 5, 1, 0] (ls' := [(0, .ref (ad 131)), (2, ii x1), (3, ii v35), (4, ii v36)]) rfl ?_
              have q37 : u20 = M24 132 1 := eu20.trans ((fp25.at (by decide)) : M24 132 1 = _).symm
              have q38 : u20 = M31 132 1 := q37.trans ((fp32.st (by decide) (by unfold stat; omega)) : M31 132 1 = _).symm
              have q39 : u20 = M33 132 1 := q38.trans ((fp34.st (by decide) (by unfold stat; omega)) : M33 132 1 = _).symm
              have q40 : u21 = M24 132 2 := eu21.trans ((fp25.at (by decide)) : M24 132 2 = _).symm
              have q41 : u21 = M31 132 2 := q40.trans ((fp32.st (by decide) (by unfold stat; omega)) : M31 132 2 = _).symm
              have q42 : u21 = M33 132 2 := q41.trans ((fp34.st (by decide) (by unfold stat; omega)) : M33 132 2 = _).symm
              exact ih51 v35 v36 M33 hI hW hF (by omega) (by omega) (by omega) (by omega) (by omega) (by omega) (by omega)
            · refine z_goto (tgt := 150) F dX12_season_134 (by decide +kernel) ?_
              refine z_iincN F dX12_season_150 (q := 5) rfl (by decide) (fun v43 ev43 => ?_)
              refine z_eq (ls' := [(4, ii v43), (6, ii (-1)), (5, ii v23), (0, .ref (ad 131)), (2, ii x1), (3, ii y16)]) rfl rfl rfl ?_
              refine z_goto (tgt := 51) F dX12_season_153 (by decide +kernel) ?_
              refine z_loc [3, 4, 5, 0] (ls' := [(0, .ref (ad 131)), (2, ii x1), (3, ii y16), (4, ii v43)]) rfl ?_
              have q44 : u20 = M24 132 1 := eu20.trans ((fp25.at (by decide)) : M24 132 1 = _).symm
              have q45 : u21 = M24 132 2 := eu21.trans ((fp25.at (by decide)) : M24 132 2 = _).symm
              exact ih51 y16 v43 M24 hI hW hF (by omega) (by omega) (by omega) (by omega) (by omega) (by omega) (by omega)
          · refine z_aload_n F dX12_season_72 rfl (q := 2) rfl ?_
            refine z_aload_n F dX12_season_73 rfl (q := 2) rfl ?_
            refine zv_i (rest := [.ref (ad 131)]) F (k_X12_things l M24 ⟨hI, hW⟩) cs_X12_275 (T := TX12) (N := 44) (ci := 12) rfl gs_131 (by decide) (by decide) rfl rfl rfl (Nat.le_of_ble_eq_true rfl) dX12_season_74 (fun v46 M47 rv46 hI p48 => ?_)
            obtain ⟨hI, hW⟩ := hI
            obtain ⟨⟨av46, bv46⟩, rfl, xp48⟩ := p48
            have q49 : u21 = M24 132 2 := eu21.trans ((fp25.at (by decide)) : M24 132 2 = _).symm
            have zv46 : u21 = v46 := q49.trans xp48.symm
            subst zv46
            refine zv_i (rest := []) F (k_X12_draw l M24 ⟨hI, hW⟩ u21 (by omega) (by omega)) cs_X12_424 (T := TX12) (N := 44) (ci := 12) rfl gs_131 (by decide) (by decide) rfl rfl rfl (Nat.le_of_ble_eq_true rfl) dX12_season_77 (fun v50 M51 rv50 hI p52 => ?_)
            obtain ⟨hI, hW⟩ := hI
            obtain ⟨⟨av50, bv50⟩, fp52⟩ := p52
            have hF := hF.call fp52 (by decide)
            refine z_istore F dX12_season_80 (by decide) (ls' := [(7, ii v50), (6, ii (-1)), (5, ii v23), (0, .ref (ad 131)), (2, ii x1), (3, ii y16), (4, ii y17)]) rfl ?_
            refine z_iload F dX12_season_82 (q := 2) rfl ?_
            refine z_iconst F dX12_season_84 ?_
            refine z_icmp_ne (tgt := 108) F dX12_season_85 (by decide +kernel) (by omega) (by omega) (fun c53 => ?_) (fun c53 => ?_)
            · refine z_bipush F dX12_season_108 (by decide +kernel) ?_
              refine z_iload F dX12_season_110 (q := 0) rfl ?_
              refine z_imul F dX12_season_112 ?_
              refine z_aload_n F dX12_season_113 rfl (q := 3) rfl ?_
              refine z_aload_n F dX12_season_114 rfl (q := 3) rfl ?_
              refine zv_i (rest := [.ref (ad 131), ii (10 * v50)]) F (k_X12_places l M51 ⟨hI, hW⟩) cs_X12_273 (T := TX12) (N := 44) (ci := 12) rfl gs_131 (by decide) (by decide) rfl rfl rfl (Nat.le_of_ble_eq_true rfl) dX12_season_115 (fun v54 M55 rv54 hI p56 => ?_)
              obtain ⟨hI, hW⟩ := hI
              obtain ⟨⟨av54, bv54⟩, rfl, xp56⟩ := p56
              have q57 : u20 = M24 132 1 := eu20.trans ((fp25.at (by decide)) : M24 132 1 = _).symm
              have q58 : u20 = M51 132 1 := q57.trans ((fp52.at (by decide)) : M51 132 1 = _).symm
              have zv54 : u20 = v54 := q58.trans xp56.symm
              subst zv54
              refine zv_i (rest := [ii (10 * v50)]) F (k_X12_draw l M51 ⟨hI, hW⟩ u20 (by omega) (by omega)) cs_X12_424 (T := TX12) (N := 44) (ci := 12) rfl gs_131 (by decide) (by decide) rfl rfl rfl (Nat.le_of_ble_eq_true rfl) dX12_season_118 (fun v59 M60 rv59 hI p61 => ?_)
              obtain ⟨hI, hW⟩ := hI
              obtain ⟨⟨av59, bv59⟩, fp61⟩ := p61
              have hF := hF.call fp61 (by decide)
              refine z_iadd F dX12_season_121 ?_
              refine z_nm (fun v62 ev62 => ?_)
              refine z_istore F dX12_season_122 (by decide) (ls' := [(6, ii v62), (7, ii v50), (5, ii v23), (0, .ref (ad 131)), (2, ii x1), (3, ii y16), (4, ii y17)]) rfl ?_
              refine z_aload_n F dX12_season_124 rfl (q := 3) rfl ?_
              refine z_iload F dX12_season_125 (q := 0) rfl ?_
              refine z_i2l F dX12_season_127 (by omega) ?_
              refine zv_i (rest := []) F (k_X12_whyTold l M60 ⟨hI, hW⟩ v62 (by omega) (by omega)) cs_X12_409 (T := TX12) (N := 44) (ci := 12) rfl gs_131 (by decide) (by decide) rfl rfl rfl (Nat.le_of_ble_eq_true rfl) dX12_season_128 (fun v63 M64 rv63 hI p65 => ?_)
              obtain ⟨hI, hW⟩ := hI
              obtain ⟨⟨av63, bv63⟩, rfl, xp65⟩ := p65
              refine z_if_eq (tgt := 137) F dX12_season_131 (by decide +kernel) (by omega) (fun c66 => ?_) (fun c66 => ?_)
              · refine z_aload_n F dX12_season_137 rfl (q := 3) rfl ?_
                refine zv_v (rest := []) F (k_X12_keeps l M60 ⟨hI, hW⟩) cs_X12_375 (T := TX12) (N := 44) (ci := 12) rfl gs_131 (by decide) (by decide) rfl rfl rfl (Nat.le_of_ble_eq_true rfl) dX12_season_138 (fun M67 hI p68 => ?_)
                obtain ⟨hI, hW⟩ := hI
                have fp68 := p68
                have hF := hF.call fp68 (by decide)
                refine z_aload_n F dX12_season_141 rfl (q := 3) rfl ?_
                refine z_iload F dX12_season_142 (q := 0) rfl ?_
                refine zv_v (rest := []) F (k_X12_does l M67 ⟨hI, hW⟩ v62 (by omega) (by omega) (by omega)) cs_X12_412 (T := TX12) (N := 44) (ci := 12) rfl gs_131 (by decide) (by decide) rfl rfl rfl (Nat.le_of_ble_eq_true rfl) dX12_season_144 (fun M69 hI p70 => ?_)
                obtain ⟨hI, hW⟩ := hI
                have fp70 := p70
                have hF := hF.call fp70 (by decide)
                refine z_iincW F dX12_season_147 (q := 5) rfl (by decide) (fun v71 rv71 wv71 => ?_)
                refine z_eq (ls' := [(3, ii v71), (6, ii v62), (7, ii v50), (5, ii v23), (0, .ref (ad 131)), (2, ii x1), (4, ii y17)]) rfl rfl rfl ?_
                refine z_iincN F dX12_season_150 (q := 6) rfl (by decide) (fun v72 ev72 => ?_)
                refine z_eq (ls' := [(4, ii v72), (3, ii v71), (6, ii v62), (7, ii v50), (5, ii v23), (0, .ref (ad 131)), (2, ii x1)]) rfl rfl rfl ?_
                refine z_goto (tgt := 51) F dX12_season_153 (by decide +kernel) ?_
                refine z_loc [5, 6, 1, 0] (ls' := [(0, .ref (ad 131)), (2, ii x1), (3, ii v71), (4, ii v72)]) rfl ?_
                have q73 : u20 = M60 132 1 := q58.trans ((fp61.at (by decide)) : M60 132 1 = _).symm
                have q74 : u20 = M67 132 1 := q73.trans ((fp68.st (by decide) (by unfold stat; omega)) : M67 132 1 = _).symm
                have q75 : u20 = M69 132 1 := q74.trans ((fp70.st (by decide) (by unfold stat; omega)) : M69 132 1 = _).symm
                have q76 : u21 = M51 132 2 := q49.trans ((fp52.at (by decide)) : M51 132 2 = _).symm
                have q77 : u21 = M60 132 2 := q76.trans ((fp61.at (by decide)) : M60 132 2 = _).symm
                have q78 : u21 = M67 132 2 := q77.trans ((fp68.st (by decide) (by unfold stat; omega)) : M67 132 2 = _).symm
                have q79 : u21 = M69 132 2 := q78.trans ((fp70.st (by decide) (by unfold stat; omega)) : M69 132 2 = _).symm
                exact ih51 v71 v72 M69 hI hW hF (by omega) (by omega) (by omega) (by omega) (by omega) (by omega) (by omega)
              · refine z_goto (tgt := 150) F dX12_season_134 (by decide +kernel) ?_
                refine z_iincN F dX12_season_150 (q := 6) rfl (by decide) (fun v80 ev80 => ?_)
                refine z_eq (ls' := [(4, ii v80), (6, ii v62), (7, ii v50), (5, ii v23), (0, .ref (ad 131)), (2, ii x1), (3, ii y16)]) rfl rfl rfl ?_
                refine z_goto (tgt := 51) F dX12_season_153 (by decide +kernel) ?_
                refine z_loc [4, 5, 6, 0] (ls' := [(0, .ref (ad 131)), (2, ii x1), (3, ii y16), (4, ii v80)]) rfl ?_
                have q81 : u20 = M60 132 1 := q58.trans ((fp61.at (by decide)) : M60 132 1 = _).symm
                have q82 : u21 = M51 132 2 := q49.trans ((fp52.at (by decide)) : M51 132 2 = _).symm
                have q83 : u21 = M60 132 2 := q82.trans ((fp61.at (by decide)) : M60 132 2 = _).symm
                exact ih51 y16 v80 M60 hI hW hF (by omega) (by omega) (by omega) (by omega) (by omega) (by omega) (by omega)
            · refine z_bipush F dX12_season_88 (by decide +kernel) ?_
              refine z_bipush F dX12_season_90 (by decide +kernel) ?_
              refine z_iload F dX12_season_92 (q := 0) rfl ?_
              refine z_imul F dX12_season_94 ?_
              refine z_iadd F dX12_season_95 ?_
              refine z_iconst F dX12_season_96 ?_
              refine z_iadd F dX12_season_97 ?_
              refine z_aload_n F dX12_season_98 rfl (q := 3) rfl ?_
              refine z_bipush F dX12_season_99 (by decide +kernel) ?_
              refine zv_i (rest := [ii ((100 + (10 * v50)) + 1)]) F (k_X12_draw l M51 ⟨hI, hW⟩ 9 (by omega) (by omega)) cs_X12_424 (T := TX12) (N := 44) (ci := 12) rfl gs_131 (by decide) (by decide) rfl rfl rfl (Nat.le_of_ble_eq_true rfl) dX12_season_101 (fun v84 M85 rv84 hI p86 => ?_)
              obtain ⟨hI, hW⟩ := hI
              obtain ⟨⟨av84, bv84⟩, fp86⟩ := p86
              have hF := hF.call fp86 (by decide)
              refine z_iadd F dX12_season_104 ?_
              refine z_goto (tgt := 122) F dX12_season_105 (by decide +kernel) ?_
              refine z_nm (fun v87 ev87 => ?_)
              refine z_istore F dX12_season_122 (by decide) (ls' := [(6, ii v87), (7, ii v50), (5, ii v23), (0, .ref (ad 131)), (2, ii x1), (3, ii y16), (4, ii y17)]) rfl ?_
              refine z_aload_n F dX12_season_124 rfl (q := 3) rfl ?_
              refine z_iload F dX12_season_125 (q := 0) rfl ?_
              refine z_i2l F dX12_season_127 (by omega) ?_
              refine zv_i (rest := []) F (k_X12_whyTold l M85 ⟨hI, hW⟩ v87 (by omega) (by omega)) cs_X12_409 (T := TX12) (N := 44) (ci := 12) rfl gs_131 (by decide) (by decide) rfl rfl rfl (Nat.le_of_ble_eq_true rfl) dX12_season_128 (fun v88 M89 rv88 hI p90 => ?_)
              obtain ⟨hI, hW⟩ := hI
              obtain ⟨⟨av88, bv88⟩, rfl, xp90⟩ := p90
              refine z_if_eq (tgt := 137) F dX12_season_131 (by decide +kernel) (by omega) (fun c91 => ?_) (fun c91 => ?_)
              · refine z_aload_n F dX12_season_137 rfl (q := 3) rfl ?_
                refine zv_v (rest := []) F (k_X12_keeps l M85 ⟨hI, hW⟩) cs_X12_375 (T := TX12) (N := 44) (ci := 12) rfl gs_131 (by decide) (by decide) rfl rfl rfl (Nat.le_of_ble_eq_true rfl) dX12_season_138 (fun M92 hI p93 => ?_)
                obtain ⟨hI, hW⟩ := hI
                have fp93 := p93
                have hF := hF.call fp93 (by decide)
                refine z_aload_n F dX12_season_141 rfl (q := 3) rfl ?_
                refine z_iload F dX12_season_142 (q := 0) rfl ?_
                refine zv_v (rest := []) F (k_X12_does l M92 ⟨hI, hW⟩ v87 (by omega) (by omega) (by omega)) cs_X12_412 (T := TX12) (N := 44) (ci := 12) rfl gs_131 (by decide) (by decide) rfl rfl rfl (Nat.le_of_ble_eq_true rfl) dX12_season_144 (fun M94 hI p95 => ?_)
                obtain ⟨hI, hW⟩ := hI
                have fp95 := p95
                have hF := hF.call fp95 (by decide)
                refine z_iincW F dX12_season_147 (q := 5) rfl (by decide) (fun v96 rv96 wv96 => ?_)
                refine z_eq (ls' := [(3, ii v96), (6, ii v87), (7, ii v50), (5, ii v23), (0, .ref (ad 131)), (2, ii x1), (4, ii y17)]) rfl rfl rfl ?_
                refine z_iincN F dX12_season_150 (q := 6) rfl (by decide) (fun v97 ev97 => ?_)
                refine z_eq (ls' := [(4, ii v97), (3, ii v96), (6, ii v87), (7, ii v50), (5, ii v23), (0, .ref (ad 131)), (2, ii x1)]) rfl rfl rfl ?_
                refine z_goto (tgt := 51) F dX12_season_153 (by decide +kernel) ?_
                refine z_loc [5, 6, 1, 0] (ls' := [(0, .ref (ad 131)), (2, ii x1), (3, ii v96), (4, ii v97)]) rfl ?_
                have q98 : u20 = M24 132 1 := eu20.trans ((fp25.at (by decide)) : M24 132 1 = _).symm
                have q99 : u20 = M51 132 1 := q98.trans ((fp52.at (by decide)) : M51 132 1 = _).symm
                have q100 : u20 = M85 132 1 := q99.trans ((fp86.at (by decide)) : M85 132 1 = _).symm
                have q101 : u20 = M92 132 1 := q100.trans ((fp93.st (by decide) (by unfold stat; omega)) : M92 132 1 = _).symm
                have q102 : u20 = M94 132 1 := q101.trans ((fp95.st (by decide) (by unfold stat; omega)) : M94 132 1 = _).symm
                have q103 : u21 = M51 132 2 := q49.trans ((fp52.at (by decide)) : M51 132 2 = _).symm
                have q104 : u21 = M85 132 2 := q103.trans ((fp86.at (by decide)) : M85 132 2 = _).symm
                have q105 : u21 = M92 132 2 := q104.trans ((fp93.st (by decide) (by unfold stat; omega)) : M92 132 2 = _).symm
                have q106 : u21 = M94 132 2 := q105.trans ((fp95.st (by decide) (by unfold stat; omega)) : M94 132 2 = _).symm
                exact ih51 v96 v97 M94 hI hW hF (by omega) (by omega) (by omega) (by omega) (by omega) (by omega) (by omega)
              · refine z_goto (tgt := 150) F dX12_season_134 (by decide +kernel) ?_
                refine z_iincN F dX12_season_150 (q := 6) rfl (by decide) (fun v107 ev107 => ?_)
                refine z_eq (ls' := [(4, ii v107), (6, ii v87), (7, ii v50), (5, ii v23), (0, .ref (ad 131)), (2, ii x1), (3, ii y16)]) rfl rfl rfl ?_
                refine z_goto (tgt := 51) F dX12_season_153 (by decide +kernel) ?_
                refine z_loc [4, 5, 6, 0] (ls' := [(0, .ref (ad 131)), (2, ii x1), (3, ii y16), (4, ii v107)]) rfl ?_
                have q108 : u20 = M24 132 1 := eu20.trans ((fp25.at (by decide)) : M24 132 1 = _).symm
                have q109 : u20 = M51 132 1 := q108.trans ((fp52.at (by decide)) : M51 132 1 = _).symm
                have q110 : u20 = M85 132 1 := q109.trans ((fp86.at (by decide)) : M85 132 1 = _).symm
                have q111 : u21 = M51 132 2 := q49.trans ((fp52.at (by decide)) : M51 132 2 = _).symm
                have q112 : u21 = M85 132 2 := q111.trans ((fp86.at (by decide)) : M85 132 2 = _).symm
                exact ih51 y16 v107 M85 hI hW hF (by omega) (by omega) (by omega) (by omega) (by omega) (by omega) (by omega)
    · refine z_iconst F dX12_season_24 ?_
      refine z_goto (tgt := 29) F dX12_season_25 (by decide +kernel) ?_
      refine pf_X12_73 F hI gs_131 rfl bd_131_4 rfl rfl dX12_season_29 (by omega) (by omega) (fun M114 hI sf113 f113 => ?_)
      have hF := hF.wrf f113 (by decide) (by decide)
      have hW : WFk M114 := hW.site f113 (by decide)
      refine z_aload_n F dX12_season_32 rfl (q := 0) rfl ?_
      refine gf_X12_73 F hI gs_131 rfl bd_131_4 dX12_season_33 (fun v115 ev115 av115 bv115 => ?_)
      have zv115 : 2 = v115 := sf113.symm.trans ev115.symm
      subst zv115
      refine z_if_le (tgt := 41) F dX12_season_36 (by decide +kernel) (by omega) (fun c116 => by exfalso; omega) (fun c116 => ?_)
      refine z_iconst F dX12_season_39 ?_
      exact hret _ _ 40 _ (by omega) ⟨hI, hW⟩ ⟨⟨by omega, by omega⟩, hF⟩ dX12_season_40
  · refine z_iconst F dX12_season_13 ?_
    refine z_goto (tgt := 29) F dX12_season_14 (by decide +kernel) ?_
    refine pf_X12_73 F hI gs_131 rfl bd_131_4 rfl rfl dX12_season_29 (by omega) (by omega) (fun M118 hI sf117 f117 => ?_)
    have hF := hF.wrf f117 (by decide) (by decide)
    have hW : WFk M118 := hW.site f117 (by decide)
    refine z_aload_n F dX12_season_32 rfl (q := 0) rfl ?_
    refine gf_X12_73 F hI gs_131 rfl bd_131_4 dX12_season_33 (fun v119 ev119 av119 bv119 => ?_)
    have zv119 : 1 = v119 := sf117.symm.trans ev119.symm
    subst zv119
    refine z_if_le (tgt := 41) F dX12_season_36 (by decide +kernel) (by omega) (fun c120 => by exfalso; omega) (fun c120 => ?_)
    refine z_iconst F dX12_season_39 ?_
    exact hret _ _ 40 _ (by omega) ⟨hI, hW⟩ ⟨⟨by omega, by omega⟩, hF⟩ dX12_season_40
set_option maxRecDepth 4000 in
theorem k_X12_goesRound (l : Launch) : ∀ (nr : Nat) (M : Mem) (hJ : Iw M) (x0 : Int) (hx0a : 0 ≤ x0) (hx0b : x0 ≤ 9) (x1 : Int) (hx1a : 0 ≤ x1) (hx1b : x1 ≤ 9) (x2 : Int) (hx2a : 0 ≤ x2) (hx2b : x2 ≤ 1023) (hp0 : x0 < M 132 1) (hp1 : x1 < M 132 1) (hmu : x2 < (nr : Int)), CI l yX12_goesRound cX12_goesRound 5 (some .boolean) (2 + nr) (fun ad => [.ref (ad 131), ii x0, ii x1, ii x2]) M (fun z M' => (0 ≤ z ∧ z ≤ 1) ∧ M = M' ∧ (GrZ (aRx 132 0 M) x0.toNat x1.toNat x2 z)) := by
  intro nr
  induction nr with
  | zero => intro M hJ x0 hx0a hx0b x1 hx1a hx1b x2 hx2a hx2b hp0 hp1 hmu; exfalso; omega
  | succ nr ih =>
  intro M hJ x0 hx0a hx0b x1 hx1a hx1b x2 hx2a hx2b hp0 hp1 hmu
  obtain ⟨hI, hW⟩ := hJ
  refine en_z (by decide +kernel) (fun ad => by exact Nat.le_of_ble_eq_true rfl) (fun D cy ad A p e s m args below meth c Q F hret => ?_)
  refine z_eq (ls' := [(0, .ref (ad 131)), (1, ii x0), (2, ii x1), (3, ii x2)]) rfl rfl rfl ?_
  obtain ⟨u1, eu1⟩ : ∃ v : Int, v = M 132 1 := ⟨_, rfl⟩
  have ku1 : 0 ≤ u1 ∧ u1 ≤ 10 := by have := hI.at (show Bd 132 1 = (0, 10) from rfl); omega
  have hAR : ∀ a b : Nat, aRx 132 0 M a b = true → (a : Int) < M 132 1 ∧ (b : Int) < M 132 1 := fun a b h => aR_lt a b h
  refine z_iload_n F dX12_goesRound_0 rfl (q := 3) rfl ?_
  refine z_if_ne (tgt := 19) F dX12_goesRound_1 (by decide +kernel) (by omega) (fun c2 => ?_) (fun c2 => ?_)
  · refine z_iconst F dX12_goesRound_19 ?_
    refine z_istore F dX12_goesRound_20 (by decide) (ls' := [(4, ii 0), (0, .ref (ad 131)), (1, ii x0), (2, ii x1), (3, ii x2)]) rfl ?_
    refine z_loc [1, 2, 3, 4, 0] (ls' := [(0, .ref (ad 131)), (1, ii x0), (2, ii x1), (3, ii x2), (4, ii 0)]) rfl ?_
    suffices key22 : ∀ (n : Nat) (y4 : Int), 0 ≤ y4 → y4 ≤ 10 → (GrI (aRx 132 0 M) x0.toNat x1.toNat x2 y4) → 10 - y4 < (n : Int) → Z D cy ad p l e (RMh (2 + (nr + 1))) s m args below meth c A 5 0 0 Q 22 [(0, .ref (ad 131)), (1, ii x0), (2, ii x1), (3, ii x2), (4, ii y4)] [] M from key22 11 0 (by omega) (by omega) gi_0 (by omega)
    intro n22
    induction n22 with
    | zero => intro y4 ay4 by4 i22_0 hn22; exfalso; omega
    | succ n22 ih22 =>
      intro y4 ay4 by4 i22_0 hn22
      refine z_iload F dX12_goesRound_22 (q := 4) rfl ?_
      refine z_aload_n F dX12_goesRound_24 rfl (q := 0) rfl ?_
      refine zv_i (rest := [ii y4]) F (k_X12_places l M ⟨hI, hW⟩) cs_X12_273 (T := TX12) (N := 44) (ci := 12) rfl gs_131 (by omega) (by decide) rfl rfl rfl (Nat.le_of_ble_eq_true rfl) dX12_goesRound_25 (fun v5 M6 rv5 hI p7 => ?_)
      obtain ⟨hI, hW⟩ := hI
      obtain ⟨⟨av5, bv5⟩, rfl, xp7⟩ := p7
      have zv5 : u1 = v5 := eu1.trans xp7.symm
      subst zv5
      refine z_icmp_ge (tgt := 76) F dX12_goesRound_28 (by decide +kernel) (by omega) (by omega) (fun c8 => ?_) (fun c8 => ?_)
      · refine z_iconst F dX12_goesRound_76 ?_
        exact hret _ _ 77 _ ⟨by omega, by omega⟩ ⟨hI, hW⟩ ⟨⟨by omega, by omega⟩, rfl, (gz_n (P := M 132 1) i22_0 (by omega) hAR (by omega) (by omega) (by omega))⟩ dX12_goesRound_77
      · refine z_iload_n F dX12_goesRound_31 rfl (q := 3) rfl ?_
        refine z_iload F dX12_goesRound_32 (q := 4) rfl ?_
        refine zs_i (rest := []) F (k_X12_has l M ⟨hI, hW⟩ x2 (by omega) (by omega) y4 (by omega) (by omega)) cs_X12_346 (by omega) (by decide) rfl rfl rfl (Nat.le_of_ble_eq_true rfl) dX12_goesRound_34 (fun v9 M10 rv9 hI p11 => ?_)
        obtain ⟨hI, hW⟩ := hI
        obtain ⟨⟨av9, bv9⟩, rfl, xp11⟩ := p11
        have hbqy4 := xp11
        refine z_if_eq (tgt := 70) F dX12_goesRound_37 (by decide +kernel) (by omega) (fun c12 => ?_) (fun c12 => ?_)
        · refine z_iincN F dX12_goesRound_70 (q := 4) rfl (by decide) (fun v13 ev13 => ?_)
          refine z_eq (ls' := [(4, ii v13), (0, .ref (ad 131)), (1, ii x0), (2, ii x1), (3, ii x2)]) rfl rfl rfl ?_
          refine z_goto (tgt := 22) F dX12_goesRound_73 (by decide +kernel) ?_
          refine z_loc [1, 2, 3, 4, 0] (ls' := [(0, .ref (ad 131)), (1, ii x0), (2, ii x1), (3, ii x2), (4, ii v13)]) rfl ?_
          exact ih22 v13 (by omega) (by omega) (by rw [show v13 = y4 + 1 from by omega]; exact gi_s i22_0 (by omega) (fun _ x9 => (fun h => by have h9 := xp11.mpr ((lb_bt (by omega) (by omega)).mpr h); omega) (gx_b x9))) (by omega)
        · refine z_aload_n F dX12_goesRound_40 rfl (q := 0) rfl ?_
          refine z_iload_n F dX12_goesRound_41 rfl (q := 1) rfl ?_
          refine z_iload F dX12_goesRound_42 (q := 4) rfl ?_
          refine zv_i (rest := []) F (k_X12_touch l M ⟨hI, hW⟩ x0 (by omega) (by omega) y4 (by omega) (by omega)) cs_X12_320 (T := TX12) (N := 44) (ci := 12) rfl gs_131 (by omega) (by decide) rfl rfl rfl (Nat.le_of_ble_eq_true rfl) dX12_goesRound_44 (fun v14 M15 rv14 hI p16 => ?_)
          obtain ⟨hI, hW⟩ := hI
          obtain ⟨⟨av14, bv14⟩, rfl, yp16⟩ := p16
          refine z_if_eq (tgt := 70) F dX12_goesRound_47 (by decide +kernel) (by omega) (fun c17 => ?_) (fun c17 => ?_)
          · refine z_iincN F dX12_goesRound_70 (q := 4) rfl (by decide) (fun v18 ev18 => ?_)
            refine z_eq (ls' := [(4, ii v18), (0, .ref (ad 131)), (1, ii x0), (2, ii x1), (3, ii x2)]) rfl rfl rfl ?_
            refine z_goto (tgt := 22) F dX12_goesRound_73 (by decide +kernel) ?_
            refine z_loc [1, 2, 3, 4, 0] (ls' := [(0, .ref (ad 131)), (1, ii x0), (2, ii x1), (3, ii x2), (4, ii v18)]) rfl ?_
            exact ih22 v18 (by omega) (by omega) (by rw [show v18 = y4 + 1 from by omega]; exact gi_s i22_0 (by omega) (fun a9 _ => ar_n (by omega) (by omega) yp16 (by omega) a9)) (by omega)
          · refine z_aload_n F dX12_goesRound_50 rfl (q := 0) rfl ?_
            refine z_iload F dX12_goesRound_51 (q := 4) rfl ?_
            refine z_iload_n F dX12_goesRound_53 rfl (q := 2) rfl ?_
            refine z_iload_n F dX12_goesRound_54 rfl (q := 3) rfl ?_
            refine z_iconst F dX12_goesRound_55 ?_
            refine z_iload F dX12_goesRound_56 (q := 4) rfl ?_
            refine z_shl1 (k := 9) F dX12_goesRound_58 (by decide) (by omega) (by omega) (fun v19 ev19 av19 bv19 => ?_)
            refine z_iconst F dX12_goesRound_59 ?_
            refine z_ixor0 F dX12_goesRound_60 (fun v20 ev20 rv20 => ?_)
            refine z_iand_l F dX12_goesRound_61 (by omega) (by omega) (fun v21 ev21 av21 bv21 => ?_)
            have hdr := drop10 (s := x2) (q := y4) (by omega) (by omega) (by omega) (by omega) (hbqy4.mp (by omega)) ev21 (by assumption) (by assumption)
            refine zv_i (rest := []) F (ih M ⟨hI, hW⟩ y4 (by omega) (by omega) x1 (by omega) (by omega) v21 (by omega) (by omega) (by omega) (by omega) (by omega)) cs_X12_427 (T := TX12) (N := 44) (ci := 12) rfl gs_131 (by omega) (by decide) rfl rfl rfl (Nat.le_of_ble_eq_true rfl) dX12_goesRound_62 (fun v22 M23 rv22 hI p24 => ?_)
            obtain ⟨hI, hW⟩ := hI
            obtain ⟨⟨av22, bv22⟩, rfl, yp24⟩ := p24
            refine z_if_eq (tgt := 70) F dX12_goesRound_65 (by decide +kernel) (by omega) (fun c25 => ?_) (fun c25 => ?_)
            · refine z_iincN F dX12_goesRound_70 (q := 4) rfl (by decide) (fun v26 ev26 => ?_)
              refine z_eq (ls' := [(4, ii v26), (0, .ref (ad 131)), (1, ii x0), (2, ii x1), (3, ii x2)]) rfl rfl rfl ?_
              refine z_goto (tgt := 22) F dX12_goesRound_73 (by decide +kernel) ?_
              refine z_loc [1, 2, 3, 4, 0] (ls' := [(0, .ref (ad 131)), (1, ii x0), (2, ii x1), (3, ii x2), (4, ii v26)]) rfl ?_
              exact ih22 v26 (by omega) (by omega) (by rw [show v26 = y4 + 1 from by omega]; exact gi_s i22_0 (by omega) (fun _ x9 => gz_f yp24 (by omega) ((gr_d (by omega) (by omega) ((lb_bt (by omega) (by omega)).mp (xp11.mp (by omega))) ev19 ev20 ev21).mpr x9))) (by omega)
            · refine z_iconst F dX12_goesRound_68 ?_
              exact hret _ _ 69 _ ⟨by omega, by omega⟩ ⟨hI, hW⟩ ⟨⟨by omega, by omega⟩, rfl, (gz_y (ar_y (by omega) (by omega) (by omega) (by omega) yp16 (by omega)) ((gr_d (by omega) (by omega) ((lb_bt (by omega) (by omega)).mp (xp11.mp (by omega))) ev19 ev20 ev21).mp (gz_t yp24 (by omega))))⟩ dX12_goesRound_69
  · refine z_aload_n F dX12_goesRound_4 rfl (q := 0) rfl ?_
    refine z_iload_n F dX12_goesRound_5 rfl (q := 1) rfl ?_
    refine z_iload_n F dX12_goesRound_6 rfl (q := 2) rfl ?_
    refine zv_i (rest := []) F (k_X12_touch l M ⟨hI, hW⟩ x0 (by omega) (by omega) x1 (by omega) (by omega)) cs_X12_320 (T := TX12) (N := 44) (ci := 12) rfl gs_131 (by omega) (by decide) rfl rfl rfl (Nat.le_of_ble_eq_true rfl) dX12_goesRound_7 (fun v27 M28 rv27 hI p29 => ?_)
    obtain ⟨hI, hW⟩ := hI
    obtain ⟨⟨av27, bv27⟩, rfl, yp29⟩ := p29
    refine z_if_eq (tgt := 17) F dX12_goesRound_10 (by decide +kernel) (by omega) (fun c30 => ?_) (fun c30 => ?_)
    · refine z_iconst F dX12_goesRound_17 ?_
      exact hret _ _ 18 _ ⟨by omega, by omega⟩ ⟨hI, hW⟩ ⟨⟨by omega, by omega⟩, rfl, (gz_0 (by omega) (Or.inr ⟨rfl, fun a9 => ar_n (by omega) (by omega) yp29 (by omega) a9⟩))⟩ dX12_goesRound_18
    · refine z_iconst F dX12_goesRound_13 ?_
      refine z_goto (tgt := 18) F dX12_goesRound_14 (by decide +kernel) ?_
      exact hret _ _ 18 _ ⟨by omega, by omega⟩ ⟨hI, hW⟩ ⟨⟨by omega, by omega⟩, rfl, (gz_0 (by omega) (Or.inl ⟨rfl, ar_y (by omega) (by omega) (by omega) (by omega) yp29 (by omega)⟩))⟩ dX12_goesRound_18
set_option maxRecDepth 4000 in
theorem k_X12_oddRingOf (l : Launch) (M : Mem) (hJ : Iw M) : CI l yX12_oddRingOf cX12_oddRingOf 4 (some .int) 1027 (fun ad => [.ref (ad 131)]) M (fun z M' => ((-1) ≤ z ∧ z ≤ 1023) ∧ M = M' ∧ (Im (IrA (aRx 132 0 M)) (OdS (M 132 1).toNat (HamS (aRx 132 0 M)) z))) := by
  obtain ⟨hI, hW⟩ := hJ
  refine en_i (by decide +kernel) (fun ad => by exact Nat.le_of_ble_eq_true rfl) (fun D cy ad A p e s m args below meth c Q F hret => ?_)
  refine z_eq (ls' := [(0, .ref (ad 131))]) rfl rfl rfl ?_
  obtain ⟨u1, eu1⟩ : ∃ v : Int, v = M 132 1 := ⟨_, rfl⟩
  have ku1 : 0 ≤ u1 ∧ u1 ≤ 10 := by have := hI.at (show Bd 132 1 = (0, 10) from rfl); omega
  have hP10 := hI.at (show Bd 132 1 = (0, 10) from rfl)
  refine z_iconst F dX12_oddRingOf_0 ?_
  refine z_istore_n F dX12_oddRingOf_1 rfl (by decide) (ls' := [(1, ii 3), (0, .ref (ad 131))]) rfl ?_
  refine z_loc [1, 0] (ls' := [(0, .ref (ad 131)), (1, ii 3)]) rfl ?_
  suffices key2 : ∀ (n : Nat) (y3 : Int), 3 ≤ y3 → y3 ≤ 12 → (O2I M y3) → 12 - y3 < (n : Int) → Z D cy ad p l e (RMh 1027) s m args below meth c A 4 0 0 Q 2 [(0, .ref (ad 131)), (1, ii y3)] [] M from key2 10 3 (by omega) (by omega) o2_0 (by omega)
  intro n2
  induction n2 with
  | zero => intro y3 ay3 by3 i2_0 hn2; exfalso; omega
  | succ n2 ih2 =>
    intro y3 ay3 by3 i2_0 hn2
    refine z_iload_n F dX12_oddRingOf_2 rfl (q := 1) rfl ?_
    refine z_aload_n F dX12_oddRingOf_3 rfl (q := 0) rfl ?_
    refine zv_i (rest := [ii y3]) F (k_X12_places l M ⟨hI, hW⟩) cs_X12_273 (T := TX12) (N := 44) (ci := 12) rfl gs_131 (by decide) (by decide) rfl rfl rfl (Nat.le_of_ble_eq_true rfl) dX12_oddRingOf_4 (fun v4 M5 rv4 hI p6 => ?_)
    obtain ⟨hI, hW⟩ := hI
    obtain ⟨⟨av4, bv4⟩, rfl, xp6⟩ := p6
    have zv4 : u1 = v4 := eu1.trans xp6.symm
    subst zv4
    refine z_icmp_gt (tgt := 79) F dX12_oddRingOf_7 (by decide +kernel) (by omega) (by omega) (fun c7 => ?_) (fun c7 => ?_)
    · refine z_iconst F dX12_oddRingOf_79 ?_
      exact hret _ _ 80 _ (by omega) ⟨hI, hW⟩ ⟨⟨by omega, by omega⟩, rfl, (o2_e (by omega) (by omega) i2_0 (by omega))⟩ dX12_oddRingOf_80
    · refine z_iconst F dX12_oddRingOf_10 ?_
      refine z_istore_n F dX12_oddRingOf_11 rfl (by decide) (ls' := [(2, ii 0), (0, .ref (ad 131)), (1, ii y3)]) rfl ?_
      refine z_loc [1, 2, 0] (ls' := [(0, .ref (ad 131)), (1, ii y3), (2, ii 0)]) rfl ?_
      suffices key12 : ∀ (n : Nat) (y9 : Int), 0 ≤ y9 → y9 ≤ 1024 → (O3I M y3 y9) → 1024 - y9 < (n : Int) → Z D cy ad p l e (RMh 1027) s m args below meth c A 4 0 0 Q 12 [(0, .ref (ad 131)), (1, ii y3), (2, ii y9)] [] M from key12 1025 0 (by omega) (by omega) o3_0 (by omega)
      intro n12
      induction n12 with
      | zero => intro y9 ay9 by9 i12_0 hn12; exfalso; omega
      | succ n12 ih12 =>
        intro y9 ay9 by9 i12_0 hn12
        refine z_iload_n F dX12_oddRingOf_12 rfl (q := 2) rfl ?_
        refine z_iconst F dX12_oddRingOf_13 ?_
        refine z_aload_n F dX12_oddRingOf_14 rfl (q := 0) rfl ?_
        refine zv_i (rest := [ii 1, ii y9]) F (k_X12_places l M ⟨hI, hW⟩) cs_X12_273 (T := TX12) (N := 44) (ci := 12) rfl gs_131 (by decide) (by decide) rfl rfl rfl (Nat.le_of_ble_eq_true rfl) dX12_oddRingOf_15 (fun v10 M11 rv10 hI p12 => ?_)
        obtain ⟨hI, hW⟩ := hI
        obtain ⟨⟨av10, bv10⟩, rfl, xp12⟩ := p12
        have zv10 : u1 = v10 := eu1.trans xp12.symm
        subst zv10
        refine z_shl1 (k := 10) F dX12_oddRingOf_18 (by decide) (by omega) (by omega) (fun v13 ev13 av13 bv13 => ?_)
        refine z_icmp_ge (tgt := 73) F dX12_oddRingOf_19 (by decide +kernel) (by omega) (by omega) (fun c14 => ?_) (fun c14 => ?_)
        · refine z_iincN F dX12_oddRingOf_73 (q := 1) rfl (by decide) (fun v15 ev15 => ?_)
          refine z_eq (ls' := [(1, ii v15), (0, .ref (ad 131)), (2, ii y9)]) rfl rfl rfl ?_
          refine z_goto (tgt := 2) F dX12_oddRingOf_76 (by decide +kernel) ?_
          refine z_loc [1, 0] (ls' := [(0, .ref (ad 131)), (1, ii v15)]) rfl ?_
          exact ih2 v15 (by omega) (by omega) (by rw [show v15 = y3 + 2 from by omega]; exact o2_s i2_0 i12_0 (show v13 = 2 ^ (M 132 1).toNat from by rw [ev13, show u1 = M 132 1 from by omega]) (by omega)) (by omega)
        · refine z_iload_n F dX12_oddRingOf_22 rfl (q := 2) rfl ?_
          refine zs_i (rest := []) F (k_X12_size l M ⟨hI, hW⟩ y9 (by omega) (by omega)) cs_X12_332 (by decide) (by decide) rfl rfl rfl (Nat.le_of_ble_eq_true rfl) dX12_oddRingOf_23 (fun v16 M17 rv16 hI p18 => ?_)
          obtain ⟨hI, hW⟩ := hI
          obtain ⟨⟨av16, bv16⟩, rfl, xp18, yp18⟩ := p18
          refine z_iload_n F dX12_oddRingOf_26 rfl (q := 1) rfl ?_
          refine z_icmp_eq (tgt := 33) F dX12_oddRingOf_27 (by decide +kernel) (by omega) (by omega) (fun c19 => ?_) (fun c19 => ?_)
          · have k20 : 1 ≤ y9 ∧ y9 ≤ 1023 := by omega
            refine z_iconst F dX12_oddRingOf_33 ?_
            refine z_istore_n F dX12_oddRingOf_34 rfl (by decide) (ls' := [(3, ii 0), (0, .ref (ad 131)), (1, ii y3), (2, ii y9)]) rfl ?_
            refine z_loc [1, 2, 3, 0] (ls' := [(0, .ref (ad 131)), (1, ii y3), (2, ii y9), (3, ii 0)]) rfl ?_
            suffices key35 : ∀ (n : Nat) (y22 : Int), 0 ≤ y22 → y22 ≤ 9 → (∀ j : Int, 0 ≤ j → j < y22 → ¬ Bt y9 j) → 9 - y22 < (n : Int) → Z D cy ad p l e (RMh 1027) s m args below meth c A 4 0 0 Q 35 [(0, .ref (ad 131)), (1, ii y3), (2, ii y9), (3, ii y22)] [] M from key35 10 0 (by omega) (by omega) (fun j a b => by omega) (by omega)
            intro n35
            induction n35 with
            | zero => intro y22 ay22 by22 i35_0 hn35; exfalso; omega
            | succ n35 ih35 =>
              intro y22 ay22 by22 i35_0 hn35
              refine z_iload_n F dX12_oddRingOf_35 rfl (q := 2) rfl ?_
              refine z_iload_n F dX12_oddRingOf_36 rfl (q := 3) rfl ?_
              refine zs_i (rest := []) F (k_X12_has l M ⟨hI, hW⟩ y9 (by omega) (by omega) y22 (by omega) (by omega)) cs_X12_346 (by decide) (by decide) rfl rfl rfl (Nat.le_of_ble_eq_true rfl) dX12_oddRingOf_37 (fun v23 M24 rv23 hI p25 => ?_)
              obtain ⟨hI, hW⟩ := hI
              obtain ⟨⟨av23, bv23⟩, rfl, xp25⟩ := p25
              have hbqy22 := xp25
              refine z_if_ne (tgt := 49) F dX12_oddRingOf_40 (by decide +kernel) (by omega) (fun c26 => ?_) (fun c26 => ?_)
              · refine z_aload_n F dX12_oddRingOf_49 rfl (q := 0) rfl ?_
                refine z_iload_n F dX12_oddRingOf_50 rfl (q := 3) rfl ?_
                refine z_iload_n F dX12_oddRingOf_51 rfl (q := 3) rfl ?_
                refine z_iload_n F dX12_oddRingOf_52 rfl (q := 2) rfl ?_
                refine z_iconst F dX12_oddRingOf_53 ?_
                refine z_iload_n F dX12_oddRingOf_54 rfl (q := 3) rfl ?_
                refine z_shl1 (k := 9) F dX12_oddRingOf_55 (by decide) (by omega) (by omega) (fun v27 ev27 av27 bv27 => ?_)
                refine z_iconst F dX12_oddRingOf_56 ?_
                refine z_ixor0 F dX12_oddRingOf_57 (fun v28 ev28 rv28 => ?_)
                refine z_iand_l F dX12_oddRingOf_58 (by omega) (by omega) (fun v29 ev29 av29 bv29 => ?_)
                have hdr := drop10 (s := y9) (q := y22) (by omega) (by omega) (by omega) (by omega) (hbqy22.mp (by omega)) ev29 (by assumption) (by assumption)
                have hlo9 : y22 < M 132 1 := by have h9 := pow_lt (P := (M 132 1).toNat) (by omega) (show 0 ≤ y9 by omega) (pw_lt (P := M 132 1) (show v13 = 2 ^ (M 132 1).toNat from by rw [ev13, show u1 = M 132 1 from by omega]) (by omega)) ((lb_bt (by omega) (by omega)).mp (xp25.mp (by omega))); omega
                refine zv_i (rest := []) F (k_X12_goesRound l 1024 M ⟨hI, hW⟩ y22 (by omega) (by omega) y22 (by omega) (by omega) v29 (by omega) (by omega) (by omega) (by omega) (by omega)) cs_X12_427 (T := TX12) (N := 44) (ci := 12) rfl gs_131 (by decide) (by decide) rfl rfl rfl (Nat.le_of_ble_eq_true rfl) dX12_oddRingOf_59 (fun v30 M31 rv30 hI p32 => ?_)
                obtain ⟨hI, hW⟩ := hI
                obtain ⟨⟨av30, bv30⟩, rfl, yp32⟩ := p32
                refine z_if_eq (tgt := 67) F dX12_oddRingOf_62 (by decide +kernel) (by omega) (fun c33 => ?_) (fun c33 => ?_)
                · refine z_iincN F dX12_oddRingOf_67 (q := 2) rfl (by decide) (fun v34 ev34 => ?_)
                  refine z_eq (ls' := [(2, ii v34), (0, .ref (ad 131)), (1, ii y3), (3, ii y22)]) rfl rfl rfl ?_
                  refine z_goto (tgt := 12) F dX12_oddRingOf_70 (by decide +kernel) ?_
                  refine z_loc [1, 2, 0] (ls' := [(0, .ref (ad 131)), (1, ii y3), (2, ii v34)]) rfl ?_
                  exact ih12 v34 (by omega) (by omega) (by rw [show v34 = y9 + 1 from by omega]; exact o3_s i12_0 (fun _ x9 => gz_f yp32 (by omega) ((gr_d (by omega) (by omega) ((lb_bt (by omega) (by omega)).mp (xp25.mp (by omega))) ev27 ev28 ev29).mpr ((gx_h ((lb_bt (by omega) (by omega)).mp (xp25.mp (by omega)))).mpr x9)))) (by omega)
                · refine z_iload_n F dX12_oddRingOf_65 rfl (q := 2) rfl ?_
                  exact hret _ _ 66 _ (by omega) ⟨hI, hW⟩ ⟨⟨by omega, by omega⟩, rfl, (o2_y i2_0 i12_0 (by omega) (show v13 = 2 ^ (M 132 1).toNat from by rw [ev13, show u1 = M 132 1 from by omega]) (by omega) (by have h9 := yp18 (by omega) (by omega); have h8 := pci (x := y9) (by omega) (by omega); omega) ((gx_h ((lb_bt (by omega) (by omega)).mp (xp25.mp (by omega)))).mp ((gr_d (by omega) (by omega) ((lb_bt (by omega) (by omega)).mp (xp25.mp (by omega))) ev27 ev28 ev29).mp (gz_t yp32 (by omega)))))⟩ dX12_oddRingOf_66
              · have hnb : ¬ Bt y9 y22 := fun q => by have := hbqy22.mpr q; omega
                have hlt := bt_lt (s := y9) (h := y22) (by omega) (by omega) (by omega) (by omega) i35_0 hnb
                have k35 : 0 ≤ y22 ∧ y22 ≤ 8 := by omega
                refine z_iincN F dX12_oddRingOf_43 (q := 3) rfl (by decide) (fun v36 ev36 => ?_)
                refine z_eq (ls' := [(3, ii v36), (0, .ref (ad 131)), (1, ii y3), (2, ii y9)]) rfl rfl rfl ?_
                refine z_goto (tgt := 35) F dX12_oddRingOf_46 (by decide +kernel) ?_
                refine z_loc [1, 2, 3, 0] (ls' := [(0, .ref (ad 131)), (1, ii y3), (2, ii y9), (3, ii v36)]) rfl ?_
                exact ih35 v36 (by omega) (by omega) (fun j a b => if hq : j = y22 then (by rw [hq]; exact hnb) else i35_0 j a (by omega)) (by omega)
          · refine z_goto (tgt := 67) F dX12_oddRingOf_30 (by decide +kernel) ?_
            refine z_iincN F dX12_oddRingOf_67 (q := 2) rfl (by decide) (fun v37 ev37 => ?_)
            refine z_eq (ls' := [(2, ii v37), (0, .ref (ad 131)), (1, ii y3)]) rfl rfl rfl ?_
            refine z_goto (tgt := 12) F dX12_oddRingOf_70 (by decide +kernel) ?_
            refine z_loc [1, 2, 0] (ls' := [(0, .ref (ad 131)), (1, ii y3), (2, ii v37)]) rfl ?_
            exact ih12 v37 (by omega) (by omega) (by rw [show v37 = y9 + 1 from by omega]; exact o3_s i12_0 (fun c9 _ => by have h9 := yp18 (by omega) (by omega); have h8 := pci (x := y9) (by omega) (by omega); omega)) (by omega)
set_option maxRecDepth 4000 in
theorem k_X12_oddRing (l : Launch) (M : Mem) (hJ : Iw M) (x0 : Int) (hx0a : (-2147483648) ≤ x0) (hx0b : x0 ≤ 2147483647) : CI l yX12_oddRing cX12_oddRing 3 (some .int) 1028 (fun ad => [.ref (ad 131), ii x0]) M (fun z M' => ((-2147483648) ≤ z ∧ z ≤ 2147483647) ∧ Fr [131] M M' ∧ (M' 131 4 = 0 ∧ 0 ≤ x0 ∧ x0 ≤ 1 ∨ M' 131 4 = 1 ∧ (x0 < 0 ∨ 1 < x0)) ∧ (Im (M' 131 4 = 0) (Im (IrA (aRx 132 0 M)) (OdZ (M 132 1).toNat (HamS (aRx 132 0 M)) x0 z)))) := by
  obtain ⟨hI, hW⟩ := hJ
  have hF : Fr [131] M M := Fr.rf
  refine en_i (by decide +kernel) (fun ad => by exact Nat.le_of_ble_eq_true rfl) (fun D cy ad A p e s m args below meth c Q F hret => ?_)
  refine z_eq (ls' := [(0, .ref (ad 131)), (1, ii x0)]) rfl rfl rfl ?_
  obtain ⟨u1, eu1⟩ : ∃ v : Int, v = M 132 1 := ⟨_, rfl⟩
  have ku1 : 0 ≤ u1 ∧ u1 ≤ 10 := by have := hI.at (show Bd 132 1 = (0, 10) from rfl); omega
  have hP10 := hI.at (show Bd 132 1 = (0, 10) from rfl)
  refine z_aload_n F dX12_oddRing_0 rfl (q := 0) rfl ?_
  refine z_iconst F dX12_oddRing_1 ?_
  refine pf_X12_73 F hI gs_131 rfl bd_131_4 rfl rfl dX12_oddRing_2 (by omega) (by omega) (fun M3 hI sf2 f2 => ?_)
  have tM3_132_1 : M3 132 1 = M 132 1 := f2 132 1 (fun q => absurd q.1 (by decide))
  have hF := hF.wrf f2 (by decide) (by decide)
  have hW : WFk M3 := hW.site f2 (by decide)
  refine z_iload_n F dX12_oddRing_5 rfl (q := 1) rfl ?_
  refine z_i2l F dX12_oddRing_6 (by omega) ?_
  refine z_lconst (x := 0) F dX12_oddRing_7 (by decide +kernel) ?_
  refine z_lconst (x := 1) F dX12_oddRing_8 (by decide +kernel) ?_
  refine zs_i (rest := []) F (k_X12_within l M3 ⟨hI, hW⟩ x0 (by omega) (by omega) 0 (by omega) (by omega) 1 (by omega) (by omega)) cs_X12_137 (by decide) (by decide) rfl rfl rfl (Nat.le_of_ble_eq_true rfl) dX12_oddRing_9 (fun v4 M5 rv4 hI p6 => ?_)
  obtain ⟨hI, hW⟩ := hI
  obtain ⟨⟨av4, bv4⟩, rfl, xp6⟩ := p6
  refine z_if_ne (tgt := 21) F dX12_oddRing_12 (by decide +kernel) (by omega) (fun c7 => ?_) (fun c7 => ?_)
  · refine z_aload_n F dX12_oddRing_21 rfl (q := 0) rfl ?_
    refine zv_i (rest := []) F (k_X12_oddRingOf l M3 ⟨hI, hW⟩) cs_X12_430 (T := TX12) (N := 44) (ci := 12) rfl gs_131 (by decide) (by decide) rfl rfl rfl (Nat.le_of_ble_eq_true rfl) dX12_oddRing_22 (fun v8 M9 rv8 hI p10 => ?_)
    obtain ⟨hI, hW⟩ := hI
    obtain ⟨⟨av8, bv8⟩, rfl, yp10⟩ := p10
    refine z_istore_n F dX12_oddRing_25 rfl (by decide) (ls' := [(2, ii v8), (0, .ref (ad 131)), (1, ii x0)]) rfl ?_
    refine z_iload_n F dX12_oddRing_26 rfl (q := 0) rfl ?_
    refine z_iconst F dX12_oddRing_27 ?_
    refine z_icmp_eq (tgt := 36) F dX12_oddRing_28 (by decide +kernel) (by omega) (by omega) (fun c11 => ?_) (fun c11 => ?_)
    · refine z_iload_n F dX12_oddRing_36 rfl (q := 0) rfl ?_
      refine z_goto (tgt := 44) F dX12_oddRing_37 (by decide +kernel) ?_
      exact hret _ _ 44 _ (by omega) ⟨hI, hW⟩ ⟨⟨by omega, by omega⟩, hF, (by omega), (fun _ hi => by have h9 := yp10 (by rw [show aRx 132 0 M3 = aRx 132 0 M from aRx_f (fun b => (f2 132 b (fun q => absurd q.1 (by decide))))]; exact hi); rw [show aRx 132 0 M3 = aRx 132 0 M from aRx_f (fun b => (f2 132 b (fun q => absurd q.1 (by decide)))), show M3 132 1 = M 132 1 from (f2 132 1 (fun q => absurd q.1 (by decide)))] at h9; exact ⟨v8, h9, Or.inl ⟨by omega, by omega⟩⟩)⟩ dX12_oddRing_44
    · refine z_iload_n F dX12_oddRing_31 rfl (q := 2) rfl ?_
      refine z_iconst F dX12_oddRing_32 ?_
      refine z_icmp_ne (tgt := 40) F dX12_oddRing_33 (by decide +kernel) (by omega) (by omega) (fun c12 => ?_) (fun c12 => ?_)
      · refine z_iload_n F dX12_oddRing_40 rfl (q := 0) rfl ?_
        refine zs_i (rest := []) F (k_X12_size l M3 ⟨hI, hW⟩ v8 (by omega) (by omega)) cs_X12_332 (by decide) (by decide) rfl rfl rfl (Nat.le_of_ble_eq_true rfl) dX12_oddRing_41 (fun v13 M14 rv13 hI p15 => ?_)
        obtain ⟨hI, hW⟩ := hI
        obtain ⟨⟨av13, bv13⟩, rfl, xp15, yp15⟩ := p15
        exact hret _ _ 44 _ (by omega) ⟨hI, hW⟩ ⟨⟨by omega, by omega⟩, hF, (by omega), (fun _ hi => by have h9 := yp10 (by rw [show aRx 132 0 M3 = aRx 132 0 M from aRx_f (fun b => (f2 132 b (fun q => absurd q.1 (by decide))))]; exact hi); rw [show aRx 132 0 M3 = aRx 132 0 M from aRx_f (fun b => (f2 132 b (fun q => absurd q.1 (by decide)))), show M3 132 1 = M 132 1 from (f2 132 1 (fun q => absurd q.1 (by decide)))] at h9; exact ⟨v8, h9, Or.inr (Or.inr ⟨by omega, by omega, (yp15 (by have h8 := od_rng (by omega) h9 (by omega); omega) (by have h8 := od_rng (by omega) h9 (by omega); omega)).trans (pci (by have h8 := od_rng (by omega) h9 (by omega); omega) (by have h8 := od_rng (by omega) h9 (by omega); omega))⟩)⟩)⟩ dX12_oddRing_44
      · refine z_iload_n F dX12_oddRing_36 rfl (q := 0) rfl ?_
        refine z_goto (tgt := 44) F dX12_oddRing_37 (by decide +kernel) ?_
        exact hret _ _ 44 _ (by omega) ⟨hI, hW⟩ ⟨⟨by omega, by omega⟩, hF, (by omega), (fun _ hi => by have h9 := yp10 (by rw [show aRx 132 0 M3 = aRx 132 0 M from aRx_f (fun b => (f2 132 b (fun q => absurd q.1 (by decide))))]; exact hi); rw [show aRx 132 0 M3 = aRx 132 0 M from aRx_f (fun b => (f2 132 b (fun q => absurd q.1 (by decide)))), show M3 132 1 = M 132 1 from (f2 132 1 (fun q => absurd q.1 (by decide)))] at h9; exact ⟨v8, h9, Or.inr (Or.inl ⟨by omega, by omega, by omega⟩)⟩)⟩ dX12_oddRing_44
  · refine z_aload_n F dX12_oddRing_15 rfl (q := 0) rfl ?_
    refine z_iconst F dX12_oddRing_16 ?_
    refine zv_i (rest := []) F (k_X12_fails l M3 ⟨hI, hW⟩ 1 (by omega) (by omega)) cs_X12_262 (T := TX12) (N := 44) (ci := 12) rfl gs_131 (by decide) (by decide) rfl rfl rfl (Nat.le_of_ble_eq_true rfl) dX12_oddRing_17 (fun v16 M17 rv16 hI p18 => ?_)
    obtain ⟨hI, hW⟩ := hI
    obtain ⟨⟨av16, bv16⟩, fp18, xp18⟩ := p18
    have hF := hF.call fp18 (by decide)
    have tM17_132_1 : M17 132 1 = M3 132 1 := fp18.at (by decide)
    exact hret _ _ 20 _ (by omega) ⟨hI, hW⟩ ⟨⟨by omega, by omega⟩, hF, (by omega), (fun q => by exfalso; omega)⟩ dX12_oddRing_20
set_option maxRecDepth 4000 in
theorem k_X12_sides (l : Launch) (M : Mem) (hJ : Iw M) : CI l yX12_sides cX12_sides 7 (some .int) 2 (fun ad => [.ref (ad 131)]) M (fun z M' => ((-1) ≤ z ∧ z ≤ 1023) ∧ Fr [131] M M') := by
  obtain ⟨hI, hW⟩ := hJ
  have hF : Fr [131] M M := Fr.rf
  refine en_i (by decide +kernel) (fun ad => by exact Nat.le_of_ble_eq_true rfl) (fun D cy ad A p e s m args below meth c Q F hret => ?_)
  refine z_eq (ls' := [(0, .ref (ad 131))]) rfl rfl rfl ?_
  refine z_aload_n F dX12_sides_0 rfl (q := 0) rfl ?_
  refine z_iconst F dX12_sides_1 ?_
  refine pf_X12_73 F hI gs_131 rfl bd_131_4 rfl rfl dX12_sides_2 (by omega) (by omega) (fun M2 hI sf1 f1 => ?_)
  have hF := hF.wrf f1 (by decide) (by decide)
  have hW : WFk M2 := hW.site f1 (by decide)
  refine z_iconst F dX12_sides_5 ?_
  refine z_istore_n F dX12_sides_6 rfl (by decide) (ls' := [(1, ii 0), (0, .ref (ad 131))]) rfl ?_
  refine z_iconst F dX12_sides_7 ?_
  refine z_istore_n F dX12_sides_8 rfl (by decide) (ls' := [(2, ii 0), (1, ii 0), (0, .ref (ad 131))]) rfl ?_
  refine z_iconst F dX12_sides_9 ?_
  refine z_istore_n F dX12_sides_10 rfl (by decide) (ls' := [(3, ii 0), (2, ii 0), (1, ii 0), (0, .ref (ad 131))]) rfl ?_
  refine z_loc [3, 2, 1, 0] (ls' := [(0, .ref (ad 131)), (1, ii 0), (2, ii 0), (3, ii 0)]) rfl ?_
  suffices key11 : ∀ (n : Nat) (y4 : Int) (y5 : Int) (y6 : Int), 0 ≤ y4 → y4 ≤ 1023 → 0 ≤ y5 → y5 ≤ 1023 → 0 ≤ y6 → y6 ≤ 10 → 10 - y6 < (n : Int) → Z D cy ad p l e (RMh 2) s m args below meth c A 7 0 0 Q 11 [(0, .ref (ad 131)), (1, ii y4), (2, ii y5), (3, ii y6)] [] M2 from key11 11 0 0 0 (by omega) (by omega) (by omega) (by omega) (by omega) (by omega) (by omega)
  intro n11
  induction n11 with
  | zero => intro y4 y5 y6 ay4 by4 ay5 by5 ay6 by6 hn11; exfalso; omega
  | succ n11 ih11 =>
    intro y4 y5 y6 ay4 by4 ay5 by5 ay6 by6 hn11
    refine z_iload_n F dX12_sides_11 rfl (q := 3) rfl ?_
    refine z_aload_n F dX12_sides_12 rfl (q := 0) rfl ?_
    refine zv_i (rest := [ii y6]) F (k_X12_places l M2 ⟨hI, hW⟩) cs_X12_273 (T := TX12) (N := 44) (ci := 12) rfl gs_131 (by decide) (by decide) rfl rfl rfl (Nat.le_of_ble_eq_true rfl) dX12_sides_13 (fun v7 M8 rv7 hI p9 => ?_)
    obtain ⟨hI, hW⟩ := hI
    obtain ⟨⟨av7, bv7⟩, rfl, xp9⟩ := p9
    refine z_icmp_ge (tgt := 152) F dX12_sides_16 (by decide +kernel) (by omega) (by omega) (fun c10 => ?_) (fun c10 => ?_)
    · refine z_iload_n F dX12_sides_152 rfl (q := 1) rfl ?_
      refine z_iload_n F dX12_sides_153 rfl (q := 2) rfl ?_
      refine z_iand_r F dX12_sides_154 (by omega) (by omega) (fun v11 ev11 av11 bv11 => ?_)
      refine z_if_eq (tgt := 162) F dX12_sides_155 (by decide +kernel) (by omega) (fun c12 => ?_) (fun c12 => ?_)
      · refine z_iload_n F dX12_sides_162 rfl (q := 1) rfl ?_
        exact hret _ _ 163 _ (by omega) ⟨hI, hW⟩ ⟨⟨by omega, by omega⟩, hF⟩ dX12_sides_163
      · refine z_iconst F dX12_sides_158 ?_
        refine z_goto (tgt := 163) F dX12_sides_159 (by decide +kernel) ?_
        exact hret _ _ 163 _ (by omega) ⟨hI, hW⟩ ⟨⟨by omega, by omega⟩, hF⟩ dX12_sides_163
    · refine z_iload_n F dX12_sides_19 rfl (q := 1) rfl ?_
      refine z_iload_n F dX12_sides_20 rfl (q := 2) rfl ?_
      refine z_ior_k (k := 10) F dX12_sides_21 (by decide) (by omega) (by omega) (by omega) (by omega) (fun v13 av13 bv13 => ?_)
      refine z_iload_n F dX12_sides_22 rfl (q := 3) rfl ?_
      refine zs_i (rest := []) F (k_X12_has l M2 ⟨hI, hW⟩ v13 (by omega) (by omega) y6 (by omega) (by omega)) cs_X12_346 (by decide) (by decide) rfl rfl rfl (Nat.le_of_ble_eq_true rfl) dX12_sides_23 (fun v14 M15 rv14 hI p16 => ?_)
      obtain ⟨hI, hW⟩ := hI
      obtain ⟨⟨av14, bv14⟩, rfl, xp16⟩ := p16
      have hbqy6 := xp16
      refine z_if_eq (tgt := 32) F dX12_sides_26 (by decide +kernel) (by omega) (fun c17 => ?_) (fun c17 => ?_)
      · refine z_iload_n F dX12_sides_32 rfl (q := 1) rfl ?_
        refine z_iconst F dX12_sides_33 ?_
        refine z_iload_n F dX12_sides_34 rfl (q := 3) rfl ?_
        refine z_shl1 (k := 9) F dX12_sides_35 (by decide) (by omega) (by omega) (fun v18 ev18 av18 bv18 => ?_)
        refine z_ior_k (k := 10) F dX12_sides_36 (by decide) (by omega) (by omega) (by omega) (by omega) (fun v19 av19 bv19 => ?_)
        refine z_istore_n F dX12_sides_37 rfl (by decide) (ls' := [(1, ii v19), (0, .ref (ad 131)), (2, ii y5), (3, ii y6)]) rfl ?_
        refine z_iconst F dX12_sides_38 ?_
        refine z_istore F dX12_sides_39 (by decide) (ls' := [(4, ii 0), (1, ii v19), (0, .ref (ad 131)), (2, ii y5), (3, ii y6)]) rfl ?_
        refine z_loc [2, 1, 3, 4, 0] (ls' := [(0, .ref (ad 131)), (1, ii v19), (2, ii y5), (3, ii y6), (4, ii 0)]) rfl ?_
        suffices key41 : ∀ (n : Nat) (y21 : Int) (y22 : Int) (y23 : Int), 0 ≤ y21 → y21 ≤ 1023 → 0 ≤ y22 → y22 ≤ 1023 → 0 ≤ y23 → y23 ≤ 10 → 10 - y23 < (n : Int) → Z D cy ad p l e (RMh 2) s m args below meth c A 7 0 0 Q 41 [(0, .ref (ad 131)), (1, ii y21), (2, ii y22), (3, ii y6), (4, ii y23)] [] M2 from key41 11 v19 y5 0 (by omega) (by omega) (by omega) (by omega) (by omega) (by omega) (by omega)
        intro n41
        induction n41 with
        | zero => intro y21 y22 y23 ay21 by21 ay22 by22 ay23 by23 hn41; exfalso; omega
        | succ n41 ih41 =>
          intro y21 y22 y23 ay21 by21 ay22 by22 ay23 by23 hn41
          refine z_iload F dX12_sides_41 (q := 4) rfl ?_
          refine z_aload_n F dX12_sides_43 rfl (q := 0) rfl ?_
          refine zv_i (rest := [ii y23]) F (k_X12_places l M2 ⟨hI, hW⟩) cs_X12_273 (T := TX12) (N := 44) (ci := 12) rfl gs_131 (by decide) (by decide) rfl rfl rfl (Nat.le_of_ble_eq_true rfl) dX12_sides_44 (fun v24 M25 rv24 hI p26 => ?_)
          obtain ⟨hI, hW⟩ := hI
          obtain ⟨⟨av24, bv24⟩, rfl, xp26⟩ := p26
          have zv24 : v7 = v24 := xp9.trans xp26.symm
          subst zv24
          refine z_icmp_ge (tgt := 146) F dX12_sides_47 (by decide +kernel) (by omega) (by omega) (fun c27 => ?_) (fun c27 => ?_)
          · refine z_iincN F dX12_sides_146 (q := 3) rfl (by decide) (fun v28 ev28 => ?_)
            refine z_eq (ls' := [(3, ii v28), (0, .ref (ad 131)), (1, ii y21), (2, ii y22), (4, ii y23)]) rfl rfl rfl ?_
            refine z_goto (tgt := 11) F dX12_sides_149 (by decide +kernel) ?_
            refine z_loc [1, 2, 3, 0] (ls' := [(0, .ref (ad 131)), (1, ii y21), (2, ii y22), (3, ii v28)]) rfl ?_
            exact ih11 y21 y22 v28 (by omega) (by omega) (by omega) (by omega) (by omega) (by omega) (by omega)
          · refine z_iconst F dX12_sides_50 ?_
            refine z_istore F dX12_sides_51 (by decide) (ls' := [(5, ii 0), (0, .ref (ad 131)), (1, ii y21), (2, ii y22), (3, ii y6), (4, ii y23)]) rfl ?_
            refine z_loc [1, 2, 3, 4, 5, 0] (ls' := [(0, .ref (ad 131)), (1, ii y21), (2, ii y22), (3, ii y6), (4, ii y23), (5, ii 0)]) rfl ?_
            suffices key53 : ∀ (n : Nat) (y30 : Int) (y31 : Int) (y32 : Int), 0 ≤ y30 → y30 ≤ 1023 → 0 ≤ y31 → y31 ≤ 1023 → 0 ≤ y32 → y32 ≤ 10 → 10 - y32 < (n : Int) → Z D cy ad p l e (RMh 2) s m args below meth c A 7 0 0 Q 53 [(0, .ref (ad 131)), (1, ii y30), (2, ii y31), (3, ii y6), (4, ii y23), (5, ii y32)] [] M2 from key53 11 y21 y22 0 (by omega) (by omega) (by omega) (by omega) (by omega) (by omega) (by omega)
            intro n53
            induction n53 with
            | zero => intro y30 y31 y32 ay30 by30 ay31 by31 ay32 by32 hn53; exfalso; omega
            | succ n53 ih53 =>
              intro y30 y31 y32 ay30 by30 ay31 by31 ay32 by32 hn53
              refine z_iload F dX12_sides_53 (q := 5) rfl ?_
              refine z_aload_n F dX12_sides_55 rfl (q := 0) rfl ?_
              refine zv_i (rest := [ii y32]) F (k_X12_places l M2 ⟨hI, hW⟩) cs_X12_273 (T := TX12) (N := 44) (ci := 12) rfl gs_131 (by decide) (by decide) rfl rfl rfl (Nat.le_of_ble_eq_true rfl) dX12_sides_56 (fun v33 M34 rv33 hI p35 => ?_)
              obtain ⟨hI, hW⟩ := hI
              obtain ⟨⟨av33, bv33⟩, rfl, xp35⟩ := p35
              have zv33 : v7 = v33 := xp9.trans xp35.symm
              subst zv33
              refine z_icmp_ge (tgt := 140) F dX12_sides_59 (by decide +kernel) (by omega) (by omega) (fun c36 => ?_) (fun c36 => ?_)
              · refine z_iincN F dX12_sides_140 (q := 4) rfl (by decide) (fun v37 ev37 => ?_)
                refine z_eq (ls' := [(4, ii v37), (0, .ref (ad 131)), (1, ii y30), (2, ii y31), (3, ii y6), (5, ii y32)]) rfl rfl rfl ?_
                refine z_goto (tgt := 41) F dX12_sides_143 (by decide +kernel) ?_
                refine z_loc [1, 2, 3, 4, 0] (ls' := [(0, .ref (ad 131)), (1, ii y30), (2, ii y31), (3, ii y6), (4, ii v37)]) rfl ?_
                exact ih41 y30 y31 v37 (by omega) (by omega) (by omega) (by omega) (by omega) (by omega) (by omega)
              · refine z_iconst F dX12_sides_62 ?_
                refine z_istore F dX12_sides_63 (by decide) (ls' := [(6, ii 0), (0, .ref (ad 131)), (1, ii y30), (2, ii y31), (3, ii y6), (4, ii y23), (5, ii y32)]) rfl ?_
                refine z_loc [1, 2, 3, 4, 5, 6, 0] (ls' := [(0, .ref (ad 131)), (1, ii y30), (2, ii y31), (3, ii y6), (4, ii y23), (5, ii y32), (6, ii 0)]) rfl ?_
                suffices key65 : ∀ (n : Nat) (y39 : Int) (y40 : Int) (y41 : Int), 0 ≤ y39 → y39 ≤ 1023 → 0 ≤ y40 → y40 ≤ 1023 → 0 ≤ y41 → y41 ≤ 10 → 10 - y41 < (n : Int) → Z D cy ad p l e (RMh 2) s m args below meth c A 7 0 0 Q 65 [(0, .ref (ad 131)), (1, ii y39), (2, ii y40), (3, ii y6), (4, ii y23), (5, ii y32), (6, ii y41)] [] M2 from key65 11 y30 y31 0 (by omega) (by omega) (by omega) (by omega) (by omega) (by omega) (by omega)
                intro n65
                induction n65 with
                | zero => intro y39 y40 y41 ay39 by39 ay40 by40 ay41 by41 hn65; exfalso; omega
                | succ n65 ih65 =>
                  intro y39 y40 y41 ay39 by39 ay40 by40 ay41 by41 hn65
                  refine z_iload F dX12_sides_65 (q := 6) rfl ?_
                  refine z_aload_n F dX12_sides_67 rfl (q := 0) rfl ?_
                  refine zv_i (rest := [ii y41]) F (k_X12_places l M2 ⟨hI, hW⟩) cs_X12_273 (T := TX12) (N := 44) (ci := 12) rfl gs_131 (by decide) (by decide) rfl rfl rfl (Nat.le_of_ble_eq_true rfl) dX12_sides_68 (fun v42 M43 rv42 hI p44 => ?_)
                  obtain ⟨hI, hW⟩ := hI
                  obtain ⟨⟨av42, bv42⟩, rfl, xp44⟩ := p44
                  have zv42 : v7 = v42 := xp9.trans xp44.symm
                  subst zv42
                  refine z_icmp_ge (tgt := 134) F dX12_sides_71 (by decide +kernel) (by omega) (by omega) (fun c45 => ?_) (fun c45 => ?_)
                  · refine z_iincN F dX12_sides_134 (q := 5) rfl (by decide) (fun v46 ev46 => ?_)
                    refine z_eq (ls' := [(5, ii v46), (0, .ref (ad 131)), (1, ii y39), (2, ii y40), (3, ii y6), (4, ii y23), (6, ii y41)]) rfl rfl rfl ?_
                    refine z_goto (tgt := 53) F dX12_sides_137 (by decide +kernel) ?_
                    refine z_loc [1, 2, 3, 4, 5, 0] (ls' := [(0, .ref (ad 131)), (1, ii y39), (2, ii y40), (3, ii y6), (4, ii y23), (5, ii v46)]) rfl ?_
                    exact ih53 y39 y40 v46 (by omega) (by omega) (by omega) (by omega) (by omega) (by omega) (by omega)
                  · refine z_aload_n F dX12_sides_74 rfl (q := 0) rfl ?_
                    refine z_iload F dX12_sides_75 (q := 5) rfl ?_
                    refine z_iload F dX12_sides_77 (q := 6) rfl ?_
                    refine zv_i (rest := []) F (k_X12_touch l M2 ⟨hI, hW⟩ y32 (by omega) (by omega) y41 (by omega) (by omega)) cs_X12_320 (T := TX12) (N := 44) (ci := 12) rfl gs_131 (by decide) (by decide) rfl rfl rfl (Nat.le_of_ble_eq_true rfl) dX12_sides_79 (fun v47 M48 rv47 hI p49 => ?_)
                    obtain ⟨hI, hW⟩ := hI
                    obtain ⟨⟨av47, bv47⟩, rfl, yp49⟩ := p49
                    refine z_if_ne (tgt := 88) F dX12_sides_82 (by decide +kernel) (by omega) (fun c50 => ?_) (fun c50 => ?_)
                    · refine z_iload_n F dX12_sides_88 rfl (q := 2) rfl ?_
                      refine z_iload_n F dX12_sides_89 rfl (q := 1) rfl ?_
                      refine z_iload F dX12_sides_90 (q := 5) rfl ?_
                      refine zs_i (rest := [ii y40]) F (k_X12_has l M2 ⟨hI, hW⟩ y39 (by omega) (by omega) y32 (by omega) (by omega)) cs_X12_346 (by decide) (by decide) rfl rfl rfl (Nat.le_of_ble_eq_true rfl) dX12_sides_92 (fun v51 M52 rv51 hI p53 => ?_)
                      obtain ⟨hI, hW⟩ := hI
                      obtain ⟨⟨av51, bv51⟩, rfl, xp53⟩ := p53
                      have hbqy32 := xp53
                      refine z_if_eq (tgt := 105) F dX12_sides_95 (by decide +kernel) (by omega) (fun c54 => ?_) (fun c54 => ?_)
                      · refine z_iconst F dX12_sides_105 ?_
                        refine z_ior_k (k := 10) F dX12_sides_106 (by decide) (by omega) (by omega) (by omega) (by omega) (fun v55 av55 bv55 => ?_)
                        refine z_istore_n F dX12_sides_107 rfl (by decide) (ls' := [(2, ii v55), (0, .ref (ad 131)), (1, ii y39), (3, ii y6), (4, ii y23), (5, ii y32), (6, ii y41)]) rfl ?_
                        refine z_iload_n F dX12_sides_108 rfl (q := 2) rfl ?_
                        refine z_iload_n F dX12_sides_109 rfl (q := 0) rfl ?_
                        refine z_iload F dX12_sides_110 (q := 5) rfl ?_
                        refine zs_i (rest := [ii y39]) F (k_X12_has l M2 ⟨hI, hW⟩ v55 (by omega) (by omega) y32 (by omega) (by omega)) cs_X12_346 (by decide) (by decide) rfl rfl rfl (Nat.le_of_ble_eq_true rfl) dX12_sides_112 (fun v56 M57 rv56 hI p58 => ?_)
                        obtain ⟨hI, hW⟩ := hI
                        obtain ⟨⟨av56, bv56⟩, rfl, xp58⟩ := p58
                        have hbqy32 := xp58
                        refine z_if_eq (tgt := 125) F dX12_sides_115 (by decide +kernel) (by omega) (fun c59 => ?_) (fun c59 => ?_)
                        · refine z_iconst F dX12_sides_125 ?_
                          refine z_ior_k (k := 10) F dX12_sides_126 (by decide) (by omega) (by omega) (by omega) (by omega) (fun v60 av60 bv60 => ?_)
                          refine z_istore_n F dX12_sides_127 rfl (by decide) (ls' := [(1, ii v60), (2, ii v55), (0, .ref (ad 131)), (3, ii y6), (4, ii y23), (5, ii y32), (6, ii y41)]) rfl ?_
                          refine z_iincN F dX12_sides_128 (q := 6) rfl (by decide) (fun v61 ev61 => ?_)
                          refine z_eq (ls' := [(6, ii v61), (1, ii v60), (2, ii v55), (0, .ref (ad 131)), (3, ii y6), (4, ii y23), (5, ii y32)]) rfl rfl rfl ?_
                          refine z_goto (tgt := 65) F dX12_sides_131 (by decide +kernel) ?_
                          refine z_loc [3, 1, 2, 4, 5, 6, 0] (ls' := [(0, .ref (ad 131)), (1, ii v60), (2, ii v55), (3, ii y6), (4, ii y23), (5, ii y32), (6, ii v61)]) rfl ?_
                          exact ih65 v60 v55 v61 (by omega) (by omega) (by omega) (by omega) (by omega) (by omega) (by omega)
                        · refine z_iconst F dX12_sides_118 ?_
                          refine z_iload F dX12_sides_119 (q := 6) rfl ?_
                          refine z_shl1 (k := 9) F dX12_sides_121 (by decide) (by omega) (by omega) (fun v62 ev62 av62 bv62 => ?_)
                          refine z_goto (tgt := 126) F dX12_sides_122 (by decide +kernel) ?_
                          refine z_ior_k (k := 10) F dX12_sides_126 (by decide) (by omega) (by omega) (by omega) (by omega) (fun v63 av63 bv63 => ?_)
                          refine z_istore_n F dX12_sides_127 rfl (by decide) (ls' := [(1, ii v63), (2, ii v55), (0, .ref (ad 131)), (3, ii y6), (4, ii y23), (5, ii y32), (6, ii y41)]) rfl ?_
                          refine z_iincN F dX12_sides_128 (q := 6) rfl (by decide) (fun v64 ev64 => ?_)
                          refine z_eq (ls' := [(6, ii v64), (1, ii v63), (2, ii v55), (0, .ref (ad 131)), (3, ii y6), (4, ii y23), (5, ii y32)]) rfl rfl rfl ?_
                          refine z_goto (tgt := 65) F dX12_sides_131 (by decide +kernel) ?_
                          refine z_loc [3, 1, 2, 4, 5, 6, 0] (ls' := [(0, .ref (ad 131)), (1, ii v63), (2, ii v55), (3, ii y6), (4, ii y23), (5, ii y32), (6, ii v64)]) rfl ?_
                          exact ih65 v63 v55 v64 (by omega) (by omega) (by omega) (by omega) (by omega) (by omega) (by omega)
                      · refine z_iconst F dX12_sides_98 ?_
                        refine z_iload F dX12_sides_99 (q := 6) rfl ?_
                        refine z_shl1 (k := 9) F dX12_sides_101 (by decide) (by omega) (by omega) (fun v65 ev65 av65 bv65 => ?_)
                        refine z_goto (tgt := 106) F dX12_sides_102 (by decide +kernel) ?_
                        refine z_ior_k (k := 10) F dX12_sides_106 (by decide) (by omega) (by omega) (by omega) (by omega) (fun v66 av66 bv66 => ?_)
                        refine z_istore_n F dX12_sides_107 rfl (by decide) (ls' := [(2, ii v66), (0, .ref (ad 131)), (1, ii y39), (3, ii y6), (4, ii y23), (5, ii y32), (6, ii y41)]) rfl ?_
                        refine z_iload_n F dX12_sides_108 rfl (q := 2) rfl ?_
                        refine z_iload_n F dX12_sides_109 rfl (q := 0) rfl ?_
                        refine z_iload F dX12_sides_110 (q := 5) rfl ?_
                        refine zs_i (rest := [ii y39]) F (k_X12_has l M2 ⟨hI, hW⟩ v66 (by omega) (by omega) y32 (by omega) (by omega)) cs_X12_346 (by decide) (by decide) rfl rfl rfl (Nat.le_of_ble_eq_true rfl) dX12_sides_112 (fun v67 M68 rv67 hI p69 => ?_)
                        obtain ⟨hI, hW⟩ := hI
                        obtain ⟨⟨av67, bv67⟩, rfl, xp69⟩ := p69
                        have hbqy32 := xp69
                        refine z_if_eq (tgt := 125) F dX12_sides_115 (by decide +kernel) (by omega) (fun c70 => ?_) (fun c70 => ?_)
                        · refine z_iconst F dX12_sides_125 ?_
                          refine z_ior_k (k := 10) F dX12_sides_126 (by decide) (by omega) (by omega) (by omega) (by omega) (fun v71 av71 bv71 => ?_)
                          refine z_istore_n F dX12_sides_127 rfl (by decide) (ls' := [(1, ii v71), (2, ii v66), (0, .ref (ad 131)), (3, ii y6), (4, ii y23), (5, ii y32), (6, ii y41)]) rfl ?_
                          refine z_iincN F dX12_sides_128 (q := 6) rfl (by decide) (fun v72 ev72 => ?_)
                          refine z_eq (ls' := [(6, ii v72), (1, ii v71), (2, ii v66), (0, .ref (ad 131)), (3, ii y6), (4, ii y23), (5, ii y32)]) rfl rfl rfl ?_
                          refine z_goto (tgt := 65) F dX12_sides_131 (by decide +kernel) ?_
                          refine z_loc [3, 1, 2, 4, 5, 6, 0] (ls' := [(0, .ref (ad 131)), (1, ii v71), (2, ii v66), (3, ii y6), (4, ii y23), (5, ii y32), (6, ii v72)]) rfl ?_
                          exact ih65 v71 v66 v72 (by omega) (by omega) (by omega) (by omega) (by omega) (by omega) (by omega)
                        · refine z_iconst F dX12_sides_118 ?_
                          refine z_iload F dX12_sides_119 (q := 6) rfl ?_
                          refine z_shl1 (k := 9) F dX12_sides_121 (by decide) (by omega) (by omega) (fun v73 ev73 av73 bv73 => ?_)
                          refine z_goto (tgt := 126) F dX12_sides_122 (by decide +kernel) ?_
                          refine z_ior_k (k := 10) F dX12_sides_126 (by decide) (by omega) (by omega) (by omega) (by omega) (fun v74 av74 bv74 => ?_)
                          refine z_istore_n F dX12_sides_127 rfl (by decide) (ls' := [(1, ii v74), (2, ii v66), (0, .ref (ad 131)), (3, ii y6), (4, ii y23), (5, ii y32), (6, ii y41)]) rfl ?_
                          refine z_iincN F dX12_sides_128 (q := 6) rfl (by decide) (fun v75 ev75 => ?_)
                          refine z_eq (ls' := [(6, ii v75), (1, ii v74), (2, ii v66), (0, .ref (ad 131)), (3, ii y6), (4, ii y23), (5, ii y32)]) rfl rfl rfl ?_
                          refine z_goto (tgt := 65) F dX12_sides_131 (by decide +kernel) ?_
                          refine z_loc [3, 1, 2, 4, 5, 6, 0] (ls' := [(0, .ref (ad 131)), (1, ii v74), (2, ii v66), (3, ii y6), (4, ii y23), (5, ii y32), (6, ii v75)]) rfl ?_
                          exact ih65 v74 v66 v75 (by omega) (by omega) (by omega) (by omega) (by omega) (by omega) (by omega)
                    · refine z_goto (tgt := 128) F dX12_sides_85 (by decide +kernel) ?_
                      refine z_iincN F dX12_sides_128 (q := 6) rfl (by decide) (fun v76 ev76 => ?_)
                      refine z_eq (ls' := [(6, ii v76), (0, .ref (ad 131)), (1, ii y39), (2, ii y40), (3, ii y6), (4, ii y23), (5, ii y32)]) rfl rfl rfl ?_
                      refine z_goto (tgt := 65) F dX12_sides_131 (by decide +kernel) ?_
                      refine z_loc [1, 2, 3, 4, 5, 6, 0] (ls' := [(0, .ref (ad 131)), (1, ii y39), (2, ii y40), (3, ii y6), (4, ii y23), (5, ii y32), (6, ii v76)]) rfl ?_
                      exact ih65 y39 y40 v76 (by omega) (by omega) (by omega) (by omega) (by omega) (by omega) (by omega)
      · refine z_goto (tgt := 146) F dX12_sides_29 (by decide +kernel) ?_
        refine z_iincN F dX12_sides_146 (q := 3) rfl (by decide) (fun v77 ev77 => ?_)
        refine z_eq (ls' := [(3, ii v77), (0, .ref (ad 131)), (1, ii y4), (2, ii y5)]) rfl rfl rfl ?_
        refine z_goto (tgt := 11) F dX12_sides_149 (by decide +kernel) ?_
        refine z_loc [1, 2, 3, 0] (ls' := [(0, .ref (ad 131)), (1, ii y4), (2, ii y5), (3, ii v77)]) rfl ?_
        exact ih11 y4 y5 v77 (by omega) (by omega) (by omega) (by omega) (by omega) (by omega) (by omega)
set_option maxRecDepth 4000 in
theorem k_X12_fits (l : Launch) (M : Mem) (hJ : Iw M) (x0 : Int) (hx0a : 0 ≤ x0) (hx0b : x0 ≤ 7) (x1 : Int) (hx1a : 0 ≤ x1) (hx1b : x1 ≤ 9) : CI l yX12_fits cX12_fits 5 (some .boolean) 5 (fun ad => [.ref (ad 131), ii x0, ii x1]) M (fun z M' => (0 ≤ z ∧ z ≤ 1) ∧ Fr [137] M M') := by
  obtain ⟨hI, hW⟩ := hJ
  have hF : Fr [137] M M := Fr.rf
  refine en_z (by decide +kernel) (fun ad => by exact Nat.le_of_ble_eq_true rfl) (fun D cy ad A p e s m args below meth c Q F hret => ?_)
  refine z_eq (ls' := [(0, .ref (ad 131)), (1, ii x0), (2, ii x1)]) rfl rfl rfl ?_
  refine z_aload_n F dX12_fits_0 rfl (q := 0) rfl ?_
  refine rf_X12_9 F gs_131 rfl dX12_fits_1 ?_
  refine z_bipush F dX12_fits_4 (by decide +kernel) ?_
  refine z_iload_n F dX12_fits_6 rfl (q := 1) rfl ?_
  refine z_iadd F dX12_fits_7 ?_
  refine z_iald F hI gs_132 (by omega) (by omega) (by decide) (bd_132.trans (kn_any (by omega) (by omega))) dX12_fits_8 (fun v1 (ev1 : v1 = M 132 _) av1 bv1 => ?_)
  refine z_iconst F dX12_fits_9 ?_
  refine z_icmp_ne (tgt := 27) F dX12_fits_10 (by decide +kernel) (by omega) (by omega) (fun c2 => ?_) (fun c2 => ?_)
  · refine z_iconst F dX12_fits_27 ?_
    refine z_istore_n F dX12_fits_28 rfl (by decide) (ls' := [(3, ii 0), (0, .ref (ad 131)), (1, ii x0), (2, ii x1)]) rfl ?_
    refine z_loc [1, 2, 3, 0] (ls' := [(0, .ref (ad 131)), (1, ii x0), (2, ii x1), (3, ii 0)]) rfl ?_
    suffices key29 : ∀ (n : Nat) (y4 : Int) (M3 : Mem), Inv M3 → WFk M3 → Fr [137] M M3 → 0 ≤ y4 → y4 ≤ 7 → 7 - y4 < (n : Int) → Z D cy ad p l e (RMh 5) s m args below meth c A 5 0 0 Q 29 [(0, .ref (ad 131)), (1, ii x0), (2, ii x1), (3, ii y4)] [] M3 from key29 8 0 M hI hW hF (by omega) (by omega) (by omega)
    intro n29
    induction n29 with
    | zero => intro y4 M3 hI hW hF ay4 by4 hn29; exfalso; omega
    | succ n29 ih29 =>
      intro y4 M3 hI hW hF ay4 by4 hn29
      refine z_iload_n F dX12_fits_29 rfl (q := 3) rfl ?_
      refine z_iload_n F dX12_fits_30 rfl (q := 1) rfl ?_
      refine z_icmp_ge (tgt := 92) F dX12_fits_31 (by decide +kernel) (by omega) (by omega) (fun c5 => ?_) (fun c5 => ?_)
      · refine z_iconst F dX12_fits_92 ?_
        exact hret _ _ 93 _ ⟨by omega, by omega⟩ ⟨hI, hW⟩ ⟨⟨by omega, by omega⟩, hF⟩ dX12_fits_93
      · refine z_aload_n F dX12_fits_34 rfl (q := 0) rfl ?_
        refine rf_X12_36 F gs_131 rfl dX12_fits_35 ?_
        refine z_iload_n F dX12_fits_38 rfl (q := 3) rfl ?_
        refine z_iald F hI gs_139 (by omega) (by omega) (by decide) bd_139 dX12_fits_39 (fun v6 (ev6 : v6 = M3 139 _) av6 bv6 => ?_)
        refine z_iload_n F dX12_fits_40 rfl (q := 2) rfl ?_
        refine z_icmp_ne (tgt := 46) F dX12_fits_41 (by decide +kernel) (by omega) (by omega) (fun c7 => ?_) (fun c7 => ?_)
        · refine z_aload_n F dX12_fits_46 rfl (q := 0) rfl ?_
          refine z_iload_n F dX12_fits_47 rfl (q := 2) rfl ?_
          refine z_aload_n F dX12_fits_48 rfl (q := 0) rfl ?_
          refine rf_X12_36 F gs_131 rfl dX12_fits_49 ?_
          refine z_iload_n F dX12_fits_52 rfl (q := 3) rfl ?_
          refine z_iald F hI gs_139 (by omega) (by omega) (by decide) bd_139 dX12_fits_53 (fun v8 (ev8 : v8 = M3 139 _) av8 bv8 => ?_)
          have zv8 : v6 = v8 := ev6.trans ev8.symm
          subst zv8
          refine zv_i (rest := []) F (k_X12_touch l M3 ⟨hI, hW⟩ x1 (by omega) (by omega) v6 (by omega) (by omega)) cs_X12_320 (T := TX12) (N := 44) (ci := 12) rfl gs_131 (by decide) (by decide) rfl rfl rfl (Nat.le_of_ble_eq_true rfl) dX12_fits_54 (fun v9 M10 rv9 hI p11 => ?_)
          obtain ⟨hI, hW⟩ := hI
          obtain ⟨⟨av9, bv9⟩, rfl, yp11⟩ := p11
          refine z_istore F dX12_fits_57 (by decide) (ls' := [(4, ii v9), (0, .ref (ad 131)), (1, ii x0), (2, ii x1), (3, ii y4)]) rfl ?_
          refine z_iload F dX12_fits_59 (q := 0) rfl ?_
          refine z_if_eq (tgt := 86) F dX12_fits_61 (by decide +kernel) (by omega) (fun c12 => ?_) (fun c12 => ?_)
          · refine z_iincN F dX12_fits_86 (q := 4) rfl (by decide) (fun v13 ev13 => ?_)
            refine z_eq (ls' := [(3, ii v13), (4, ii v9), (0, .ref (ad 131)), (1, ii x0), (2, ii x1)]) rfl rfl rfl ?_
            refine z_goto (tgt := 29) F dX12_fits_89 (by decide +kernel) ?_
            refine z_loc [2, 3, 4, 0] (ls' := [(0, .ref (ad 131)), (1, ii x0), (2, ii x1), (3, ii v13)]) rfl ?_
            exact ih29 v13 M3 hI hW hF (by omega) (by omega) (by omega)
          · refine z_aload_n F dX12_fits_64 rfl (q := 1) rfl ?_
            refine z_iload_n F dX12_fits_65 rfl (q := 2) rfl ?_
            refine z_iload_n F dX12_fits_66 rfl (q := 4) rfl ?_
            refine z_iload F dX12_fits_67 (q := 0) rfl ?_
            refine z_iconst F dX12_fits_69 ?_
            refine z_icmp_ne (tgt := 77) F dX12_fits_70 (by decide +kernel) (by omega) (by omega) (fun c14 => ?_) (fun c14 => ?_)
            · refine z_iconst F dX12_fits_77 ?_
              refine zv_i (rest := []) F (k_X12_wouldClash l M3 ⟨hI, hW⟩ x0 (by omega) (by omega) y4 (by omega) (by omega) 0 (by omega) (by omega)) cs_X12_322 (T := TX12) (N := 44) (ci := 12) rfl gs_131 (by decide) (by decide) rfl rfl rfl (Nat.le_of_ble_eq_true rfl) dX12_fits_78 (fun v15 M16 rv15 hI p17 => ?_)
              obtain ⟨hI, hW⟩ := hI
              obtain ⟨⟨av15, bv15⟩, fp17⟩ := p17
              have hF := hF.call fp17 (by decide)
              refine z_if_eq (tgt := 86) F dX12_fits_81 (by decide +kernel) (by omega) (fun c18 => ?_) (fun c18 => ?_)
              · refine z_iincN F dX12_fits_86 (q := 4) rfl (by decide) (fun v19 ev19 => ?_)
                refine z_eq (ls' := [(3, ii v19), (4, ii v9), (0, .ref (ad 131)), (1, ii x0), (2, ii x1)]) rfl rfl rfl ?_
                refine z_goto (tgt := 29) F dX12_fits_89 (by decide +kernel) ?_
                refine z_loc [2, 3, 4, 0] (ls' := [(0, .ref (ad 131)), (1, ii x0), (2, ii x1), (3, ii v19)]) rfl ?_
                exact ih29 v19 M16 hI hW hF (by omega) (by omega) (by omega)
              · refine z_iconst F dX12_fits_84 ?_
                exact hret _ _ 85 _ ⟨by omega, by omega⟩ ⟨hI, hW⟩ ⟨⟨by omega, by omega⟩, hF⟩ dX12_fits_85
            · refine z_iconst F dX12_fits_73 ?_
              refine z_goto (tgt := 78) F dX12_fits_74 (by decide +kernel) ?_
              refine zv_i (rest := []) F (k_X12_wouldClash l M3 ⟨hI, hW⟩ x0 (by omega) (by omega) y4 (by omega) (by omega) 1 (by omega) (by omega)) cs_X12_322 (T := TX12) (N := 44) (ci := 12) rfl gs_131 (by decide) (by decide) rfl rfl rfl (Nat.le_of_ble_eq_true rfl) dX12_fits_78 (fun v20 M21 rv20 hI p22 => ?_)
              obtain ⟨hI, hW⟩ := hI
              obtain ⟨⟨av20, bv20⟩, fp22⟩ := p22
              have hF := hF.call fp22 (by decide)
              refine z_if_eq (tgt := 86) F dX12_fits_81 (by decide +kernel) (by omega) (fun c23 => ?_) (fun c23 => ?_)
              · refine z_iincN F dX12_fits_86 (q := 4) rfl (by decide) (fun v24 ev24 => ?_)
                refine z_eq (ls' := [(3, ii v24), (4, ii v9), (0, .ref (ad 131)), (1, ii x0), (2, ii x1)]) rfl rfl rfl ?_
                refine z_goto (tgt := 29) F dX12_fits_89 (by decide +kernel) ?_
                refine z_loc [2, 3, 4, 0] (ls' := [(0, .ref (ad 131)), (1, ii x0), (2, ii x1), (3, ii v24)]) rfl ?_
                exact ih29 v24 M21 hI hW hF (by omega) (by omega) (by omega)
              · refine z_iconst F dX12_fits_84 ?_
                exact hret _ _ 85 _ ⟨by omega, by omega⟩ ⟨hI, hW⟩ ⟨⟨by omega, by omega⟩, hF⟩ dX12_fits_85
        · refine z_iconst F dX12_fits_44 ?_
          exact hret _ _ 45 _ ⟨by omega, by omega⟩ ⟨hI, hW⟩ ⟨⟨by omega, by omega⟩, hF⟩ dX12_fits_45
  · refine z_iload_n F dX12_fits_13 rfl (q := 2) rfl ?_
    refine z_aload_n F dX12_fits_14 rfl (q := 0) rfl ?_
    refine rf_X12_33 F gs_131 rfl dX12_fits_15 ?_
    refine z_iconst F dX12_fits_18 ?_
    refine z_iload_n F dX12_fits_19 rfl (q := 1) rfl ?_
    refine z_iadd F dX12_fits_20 ?_
    refine z_iald F hI gs_138 (by omega) (by omega) (by decide) (bd_138.trans (as_p (by omega))) dX12_fits_21 (fun v25 (ev25 : v25 = M 138 _) av25 bv25 => ?_)
    refine z_icmp_eq (tgt := 27) F dX12_fits_22 (by decide +kernel) (by omega) (by omega) (fun c26 => ?_) (fun c26 => ?_)
    · refine z_iconst F dX12_fits_27 ?_
      refine z_istore_n F dX12_fits_28 rfl (by decide) (ls' := [(3, ii 0), (0, .ref (ad 131)), (1, ii x0), (2, ii x1)]) rfl ?_
      refine z_loc [1, 2, 3, 0] (ls' := [(0, .ref (ad 131)), (1, ii x0), (2, ii x1), (3, ii 0)]) rfl ?_
      suffices key29 : ∀ (n : Nat) (y28 : Int) (M27 : Mem), Inv M27 → WFk M27 → Fr [137] M M27 → 0 ≤ y28 → y28 ≤ 7 → 7 - y28 < (n : Int) → Z D cy ad p l e (RMh 5) s m args below meth c A 5 0 0 Q 29 [(0, .ref (ad 131)), (1, ii x0), (2, ii x1), (3, ii y28)] [] M27 from key29 8 0 M hI hW hF (by omega) (by omega) (by omega)
      intro n29
      induction n29 with
      | zero => intro y28 M27 hI hW hF ay28 by28 hn29; exfalso; omega
      | succ n29 ih29 =>
        intro y28 M27 hI hW hF ay28 by28 hn29
        refine z_iload_n F dX12_fits_29 rfl (q := 3) rfl ?_
        refine z_iload_n F dX12_fits_30 rfl (q := 1) rfl ?_
        refine z_icmp_ge (tgt := 92) F dX12_fits_31 (by decide +kernel) (by omega) (by omega) (fun c29 => ?_) (fun c29 => ?_)
        · refine z_iconst F dX12_fits_92 ?_
          exact hret _ _ 93 _ ⟨by omega, by omega⟩ ⟨hI, hW⟩ ⟨⟨by omega, by omega⟩, hF⟩ dX12_fits_93
        · refine z_aload_n F dX12_fits_34 rfl (q := 0) rfl ?_
          refine rf_X12_36 F gs_131 rfl dX12_fits_35 ?_
          refine z_iload_n F dX12_fits_38 rfl (q := 3) rfl ?_
          refine z_iald F hI gs_139 (by omega) (by omega) (by decide) bd_139 dX12_fits_39 (fun v30 (ev30 : v30 = M27 139 _) av30 bv30 => ?_)
          refine z_iload_n F dX12_fits_40 rfl (q := 2) rfl ?_
          refine z_icmp_ne (tgt := 46) F dX12_fits_41 (by decide +kernel) (by omega) (by omega) (fun c31 => ?_) (fun c31 => ?_)
          · refine z_aload_n F dX12_fits_46 rfl (q := 0) rfl ?_
            refine z_iload_n F dX12_fits_47 rfl (q := 2) rfl ?_
            refine z_aload_n F dX12_fits_48 rfl (q := 0) rfl ?_
            refine rf_X12_36 F gs_131 rfl dX12_fits_49 ?_
            refine z_iload_n F dX12_fits_52 rfl (q := 3) rfl ?_
            refine z_iald F hI gs_139 (by omega) (by omega) (by decide) bd_139 dX12_fits_53 (fun v32 (ev32 : v32 = M27 139 _) av32 bv32 => ?_)
            have zv32 : v30 = v32 := ev30.trans ev32.symm
            subst zv32
            refine zv_i (rest := []) F (k_X12_touch l M27 ⟨hI, hW⟩ x1 (by omega) (by omega) v30 (by omega) (by omega)) cs_X12_320 (T := TX12) (N := 44) (ci := 12) rfl gs_131 (by decide) (by decide) rfl rfl rfl (Nat.le_of_ble_eq_true rfl) dX12_fits_54 (fun v33 M34 rv33 hI p35 => ?_)
            obtain ⟨hI, hW⟩ := hI
            obtain ⟨⟨av33, bv33⟩, rfl, yp35⟩ := p35
            refine z_istore F dX12_fits_57 (by decide) (ls' := [(4, ii v33), (0, .ref (ad 131)), (1, ii x0), (2, ii x1), (3, ii y28)]) rfl ?_
            refine z_iload F dX12_fits_59 (q := 0) rfl ?_
            refine z_if_eq (tgt := 86) F dX12_fits_61 (by decide +kernel) (by omega) (fun c36 => ?_) (fun c36 => ?_)
            · refine z_iincN F dX12_fits_86 (q := 4) rfl (by decide) (fun v37 ev37 => ?_)
              refine z_eq (ls' := [(3, ii v37), (4, ii v33), (0, .ref (ad 131)), (1, ii x0), (2, ii x1)]) rfl rfl rfl ?_
              refine z_goto (tgt := 29) F dX12_fits_89 (by decide +kernel) ?_
              refine z_loc [2, 3, 4, 0] (ls' := [(0, .ref (ad 131)), (1, ii x0), (2, ii x1), (3, ii v37)]) rfl ?_
              exact ih29 v37 M27 hI hW hF (by omega) (by omega) (by omega)
            · refine z_aload_n F dX12_fits_64 rfl (q := 1) rfl ?_
              refine z_iload_n F dX12_fits_65 rfl (q := 2) rfl ?_
              refine z_iload_n F dX12_fits_66 rfl (q := 4) rfl ?_
              refine z_iload F dX12_fits_67 (q := 0) rfl ?_
              refine z_iconst F dX12_fits_69 ?_
              refine z_icmp_ne (tgt := 77) F dX12_fits_70 (by decide +kernel) (by omega) (by omega) (fun c38 => ?_) (fun c38 => ?_)
              · refine z_iconst F dX12_fits_77 ?_
                refine zv_i (rest := []) F (k_X12_wouldClash l M27 ⟨hI, hW⟩ x0 (by omega) (by omega) y28 (by omega) (by omega) 0 (by omega) (by omega)) cs_X12_322 (T := TX12) (N := 44) (ci := 12) rfl gs_131 (by decide) (by decide) rfl rfl rfl (Nat.le_of_ble_eq_true rfl) dX12_fits_78 (fun v39 M40 rv39 hI p41 => ?_)
                obtain ⟨hI, hW⟩ := hI
                obtain ⟨⟨av39, bv39⟩, fp41⟩ := p41
                have hF := hF.call fp41 (by decide)
                refine z_if_eq (tgt := 86) F dX12_fits_81 (by decide +kernel) (by omega) (fun c42 => ?_) (fun c42 => ?_)
                · refine z_iincN F dX12_fits_86 (q := 4) rfl (by decide) (fun v43 ev43 => ?_)
                  refine z_eq (ls' := [(3, ii v43), (4, ii v33), (0, .ref (ad 131)), (1, ii x0), (2, ii x1)]) rfl rfl rfl ?_
                  refine z_goto (tgt := 29) F dX12_fits_89 (by decide +kernel) ?_
                  refine z_loc [2, 3, 4, 0] (ls' := [(0, .ref (ad 131)), (1, ii x0), (2, ii x1), (3, ii v43)]) rfl ?_
                  exact ih29 v43 M40 hI hW hF (by omega) (by omega) (by omega)
                · refine z_iconst F dX12_fits_84 ?_
                  exact hret _ _ 85 _ ⟨by omega, by omega⟩ ⟨hI, hW⟩ ⟨⟨by omega, by omega⟩, hF⟩ dX12_fits_85
              · refine z_iconst F dX12_fits_73 ?_
                refine z_goto (tgt := 78) F dX12_fits_74 (by decide +kernel) ?_
                refine zv_i (rest := []) F (k_X12_wouldClash l M27 ⟨hI, hW⟩ x0 (by omega) (by omega) y28 (by omega) (by omega) 1 (by omega) (by omega)) cs_X12_322 (T := TX12) (N := 44) (ci := 12) rfl gs_131 (by decide) (by decide) rfl rfl rfl (Nat.le_of_ble_eq_true rfl) dX12_fits_78 (fun v44 M45 rv44 hI p46 => ?_)
                obtain ⟨hI, hW⟩ := hI
                obtain ⟨⟨av44, bv44⟩, fp46⟩ := p46
                have hF := hF.call fp46 (by decide)
                refine z_if_eq (tgt := 86) F dX12_fits_81 (by decide +kernel) (by omega) (fun c47 => ?_) (fun c47 => ?_)
                · refine z_iincN F dX12_fits_86 (q := 4) rfl (by decide) (fun v48 ev48 => ?_)
                  refine z_eq (ls' := [(3, ii v48), (4, ii v33), (0, .ref (ad 131)), (1, ii x0), (2, ii x1)]) rfl rfl rfl ?_
                  refine z_goto (tgt := 29) F dX12_fits_89 (by decide +kernel) ?_
                  refine z_loc [2, 3, 4, 0] (ls' := [(0, .ref (ad 131)), (1, ii x0), (2, ii x1), (3, ii v48)]) rfl ?_
                  exact ih29 v48 M45 hI hW hF (by omega) (by omega) (by omega)
                · refine z_iconst F dX12_fits_84 ?_
                  exact hret _ _ 85 _ ⟨by omega, by omega⟩ ⟨hI, hW⟩ ⟨⟨by omega, by omega⟩, hF⟩ dX12_fits_85
          · refine z_iconst F dX12_fits_44 ?_
            exact hret _ _ 45 _ ⟨by omega, by omega⟩ ⟨hI, hW⟩ ⟨⟨by omega, by omega⟩, hF⟩ dX12_fits_45
    · refine z_iconst F dX12_fits_25 ?_
      exact hret _ _ 26 _ ⟨by omega, by omega⟩ ⟨hI, hW⟩ ⟨⟨by omega, by omega⟩, hF⟩ dX12_fits_26
set_option maxRecDepth 4000 in
theorem k_X12_goesPlacings (l : Launch) : ∀ (nr : Nat) (M : Mem) (hJ : Iw M) (x0 : Int) (hx0a : 0 ≤ x0) (hx0b : x0 ≤ 8) (x1 : Int) (hx1a : (-2147483648) ≤ x1) (hx1b : x1 ≤ 2147483647) (x2 : Int) (hx2a : (-2147483648) ≤ x2) (hx2b : x2 ≤ 2147483647) (hp0 : x0 ≤ M 132 2) (hmu : 8 - x0 < (nr : Int)), CV l yX12_goesPlacings cX12_goesPlacings 6 none (6 + nr) (fun ad => [.ref (ad 131), ii x0, ii x1, ii x2]) M (fun M' => Fr [131, 137, 139, 140] M M') := by
  intro nr
  induction nr with
  | zero => intro M hJ x0 hx0a hx0b x1 hx1a hx1b x2 hx2a hx2b hp0 hmu; exfalso; omega
  | succ nr ih =>
  intro M hJ x0 hx0a hx0b x1 hx1a hx1b x2 hx2a hx2b hp0 hmu
  obtain ⟨hI, hW⟩ := hJ
  have hF : Fr [131, 137, 139, 140] M M := Fr.rf
  have hI0 := hI
  have hW0 := hW
  refine en_v (by decide +kernel) (fun ad => by exact Nat.le_of_ble_eq_true rfl) (fun D cy ad A p e s m args below meth c Q F hret => ?_)
  refine z_eq (ls' := [(0, .ref (ad 131)), (1, ii x0), (2, ii x1), (3, ii x2)]) rfl rfl rfl ?_
  refine z_aload_n F dX12_goesPlacings_0 rfl (q := 0) rfl ?_
  refine gf_X12_433 F hI gs_131 rfl bd_131_26 dX12_goesPlacings_1 (fun v1 ev1 av1 bv1 => ?_)
  refine z_if_eq (tgt := 39) F dX12_goesPlacings_4 (by decide +kernel) (by omega) (fun c2 => ?_) (fun c2 => ?_)
  · refine z_iload_n F dX12_goesPlacings_39 rfl (q := 1) rfl ?_
    refine z_aload_n F dX12_goesPlacings_40 rfl (q := 0) rfl ?_
    refine zv_i (rest := [ii x0]) F (k_X12_things l M ⟨hI, hW⟩) cs_X12_275 (T := TX12) (N := 44) (ci := 12) rfl gs_131 (by omega) (by decide) rfl rfl rfl (Nat.le_of_ble_eq_true rfl) dX12_goesPlacings_41 (fun v3 M4 rv3 hI p5 => ?_)
    obtain ⟨hI, hW⟩ := hI
    obtain ⟨⟨av3, bv3⟩, rfl, xp5⟩ := p5
    refine z_icmp_ne (tgt := 115) F dX12_goesPlacings_44 (by decide +kernel) (by omega) (by omega) (fun c6 => ?_) (fun c6 => ?_)
    · have k7 : 0 ≤ x0 ∧ x0 ≤ 7 := by omega
      refine z_iconst F dX12_goesPlacings_115 ?_
      refine z_istore F dX12_goesPlacings_116 (by decide) (ls' := [(4, ii 0), (0, .ref (ad 131)), (1, ii x0), (2, ii x1), (3, ii x2)]) rfl ?_
      refine z_loc [1, 2, 3, 4, 0] (ls' := [(0, .ref (ad 131)), (1, ii x0), (2, ii x1), (3, ii x2), (4, ii 0)]) rfl ?_
      suffices key118 : ∀ (n : Nat) (y9 : Int) (M8 : Mem), Inv M8 → WFk M8 → Fr [131, 137, 139, 140] M M8 → 0 ≤ y9 → y9 ≤ 10 → 10 - y9 < (n : Int) → Z D cy ad p l e (RMh (6 + (nr + 1))) s m args below meth c A 6 0 0 Q 118 [(0, .ref (ad 131)), (1, ii x0), (2, ii x1), (3, ii x2), (4, ii y9)] [] M8 from key118 11 0 M hI hW hF (by omega) (by omega) (by omega)
      intro n118
      induction n118 with
      | zero => intro y9 M8 hI hW hF ay9 by9 hn118; exfalso; omega
      | succ n118 ih118 =>
        intro y9 M8 hI hW hF ay9 by9 hn118
        refine z_iload F dX12_goesPlacings_118 (q := 4) rfl ?_
        refine z_aload_n F dX12_goesPlacings_120 rfl (q := 0) rfl ?_
        refine zv_i (rest := [ii y9]) F (k_X12_places l M8 ⟨hI, hW⟩) cs_X12_273 (T := TX12) (N := 44) (ci := 12) rfl gs_131 (by omega) (by decide) rfl rfl rfl (Nat.le_of_ble_eq_true rfl) dX12_goesPlacings_121 (fun v10 M11 rv10 hI p12 => ?_)
        obtain ⟨hI, hW⟩ := hI
        obtain ⟨⟨av10, bv10⟩, rfl, xp12⟩ := p12
        refine z_icmp_ge (tgt := 245) F dX12_goesPlacings_124 (by decide +kernel) (by omega) (by omega) (fun c13 => ?_) (fun c13 => ?_)
        · exact hret _ 245 _ ⟨hI, hW⟩ hF dX12_goesPlacings_245
        · refine z_aload_n F dX12_goesPlacings_127 rfl (q := 0) rfl ?_
          refine z_iload_n F dX12_goesPlacings_128 rfl (q := 1) rfl ?_
          refine z_iload F dX12_goesPlacings_129 (q := 4) rfl ?_
          refine zv_i (rest := []) F (k_X12_fits l M8 ⟨hI, hW⟩ x0 (by omega) (by omega) y9 (by omega) (by omega)) cs_X12_449 (T := TX12) (N := 44) (ci := 12) rfl gs_131 (by omega) (by decide) rfl rfl rfl (Nat.le_of_ble_eq_true rfl) dX12_goesPlacings_131 (fun v14 M15 rv14 hI p16 => ?_)
          obtain ⟨hI, hW⟩ := hI
          obtain ⟨⟨av14, bv14⟩, fp16⟩ := p16
          have hF := hF.call fp16 (by decide)
          refine z_if_ne (tgt := 140) F dX12_goesPlacings_134 (by decide +kernel) (by omega) (fun c17 => ?_) (fun c17 => ?_)
          · refine z_iload F dX12_goesPlacings_140 (q := 4) rfl ?_
            refine z_aload_n F dX12_goesPlacings_142 rfl (q := 0) rfl ?_
            refine z_iload_n F dX12_goesPlacings_143 rfl (q := 1) rfl ?_
            refine zv_i (rest := [ii y9]) F (k_X12_lies l M15 ⟨hI, hW⟩ x0 (by omega) (by omega)) cs_X12_317 (T := TX12) (N := 44) (ci := 12) rfl gs_131 (by omega) (by decide) rfl rfl rfl (Nat.le_of_ble_eq_true rfl) dX12_goesPlacings_144 (fun v18 M19 rv18 hI p20 => ?_)
            obtain ⟨hI, hW⟩ := hI
            obtain ⟨⟨av18, bv18⟩, rfl⟩ := p20
            refine z_icmp_eq (tgt := 154) F dX12_goesPlacings_147 (by decide +kernel) (by omega) (by omega) (fun c21 => ?_) (fun c21 => ?_)
            · refine z_iconst F dX12_goesPlacings_154 ?_
              refine z_istore F dX12_goesPlacings_155 (by decide) (ls' := [(5, ii 0), (0, .ref (ad 131)), (1, ii x0), (2, ii x1), (3, ii x2), (4, ii y9)]) rfl ?_
              refine z_aload_n F dX12_goesPlacings_157 rfl (q := 1) rfl ?_
              refine gf_X12_433 F hI gs_131 rfl bd_131_26 dX12_goesPlacings_158 (fun v22 ev22 av22 bv22 => ?_)
              refine z_if_eq (tgt := 187) F dX12_goesPlacings_161 (by decide +kernel) (by omega) (fun c23 => ?_) (fun c23 => ?_)
              · refine z_aload_n F dX12_goesPlacings_187 rfl (q := 1) rfl ?_
                refine rf_X12_36 F gs_131 rfl dX12_goesPlacings_188 ?_
                refine z_iload_n F dX12_goesPlacings_191 rfl (q := 2) rfl ?_
                refine z_iload F dX12_goesPlacings_192 (q := 5) rfl ?_
                refine z_iast F hI gs_139 (by omega) (by omega) (by decide) bd_139 dX12_goesPlacings_194 (by omega) (by omega) (fun M25 hI sf24 f24 => ?_)
                have hF := hF.wr f24 (by decide) (by decide)
                have hW : WFk M25 := hW.site f24 (by decide)
                refine z_aload_n F dX12_goesPlacings_195 rfl (q := 1) rfl ?_
                refine z_iload_n F dX12_goesPlacings_196 rfl (q := 2) rfl ?_
                refine z_iconst F dX12_goesPlacings_197 ?_
                refine z_iadd F dX12_goesPlacings_198 ?_
                refine z_iload_n F dX12_goesPlacings_199 rfl (q := 3) rfl ?_
                refine z_iload F dX12_goesPlacings_200 (q := 0) rfl ?_
                refine z_if_eq (tgt := 209) F dX12_goesPlacings_202 (by decide +kernel) (by omega) (fun c26 => ?_) (fun c26 => by exfalso; omega)
                refine z_iconst F dX12_goesPlacings_209 ?_
                refine z_iadd F dX12_goesPlacings_210 ?_
                refine z_aload_n F dX12_goesPlacings_211 rfl (q := 1) rfl ?_
                refine gf_X12_433 F hI gs_131 rfl bd_131_26 dX12_goesPlacings_212 (fun v27 ev27 av27 bv27 => ?_)
                have q28 : v22 = M25 131 26 := ev22.trans (f24 131 26 (fun q => absurd q.1 (by decide))).symm
                have zv27 : v22 = v27 := q28.trans ev27.symm
                subst zv27
                refine z_if_eq (tgt := 235) F dX12_goesPlacings_215 (by decide +kernel) (by omega) (fun c29 => ?_) (fun c29 => by exfalso; omega)
                refine z_iload_n F dX12_goesPlacings_235 rfl (q := 4) rfl ?_
                refine zv_v (rest := []) F (ih M25 ⟨hI, hW⟩ (x0 + 1) (by omega) (by omega) (x1 + 0) (by omega) (by omega) x2 (by omega) (by omega) (by have := hF.at (a := 132) (b := 2) (by decide); omega) (by omega)) cs_X12_452 (T := TX12) (N := 44) (ci := 12) rfl gs_131 (by omega) (by decide) rfl rfl rfl (Nat.le_of_ble_eq_true rfl) dX12_goesPlacings_236 (fun M30 hI p31 => ?_)
                obtain ⟨hI, hW⟩ := hI
                have fp31 := p31
                have hF := hF.call fp31 (by decide)
                refine z_iincN F dX12_goesPlacings_239 (q := 5) rfl (by decide) (fun v32 ev32 => ?_)
                refine z_eq (ls' := [(4, ii v32), (5, ii 0), (0, .ref (ad 131)), (1, ii x0), (2, ii x1), (3, ii x2)]) rfl rfl rfl ?_
                refine z_goto (tgt := 118) F dX12_goesPlacings_242 (by decide +kernel) ?_
                refine z_loc [2, 3, 4, 5, 0] (ls' := [(0, .ref (ad 131)), (1, ii x0), (2, ii x1), (3, ii x2), (4, ii v32)]) rfl ?_
                exact ih118 v32 M30 hI hW hF (by omega) (by omega) (by omega)
              · refine z_iload F dX12_goesPlacings_164 (q := 0) rfl ?_
                refine z_if_eq (tgt := 187) F dX12_goesPlacings_166 (by decide +kernel) (by omega) (fun c33 => ?_) (fun c33 => by exfalso; omega)
                refine z_aload_n F dX12_goesPlacings_187 rfl (q := 1) rfl ?_
                refine rf_X12_36 F gs_131 rfl dX12_goesPlacings_188 ?_
                refine z_iload_n F dX12_goesPlacings_191 rfl (q := 2) rfl ?_
                refine z_iload F dX12_goesPlacings_192 (q := 5) rfl ?_
                refine z_iast F hI gs_139 (by omega) (by omega) (by decide) bd_139 dX12_goesPlacings_194 (by omega) (by omega) (fun M35 hI sf34 f34 => ?_)
                have hF := hF.wr f34 (by decide) (by decide)
                have hW : WFk M35 := hW.site f34 (by decide)
                refine z_aload_n F dX12_goesPlacings_195 rfl (q := 1) rfl ?_
                refine z_iload_n F dX12_goesPlacings_196 rfl (q := 2) rfl ?_
                refine z_iconst F dX12_goesPlacings_197 ?_
                refine z_iadd F dX12_goesPlacings_198 ?_
                refine z_iload_n F dX12_goesPlacings_199 rfl (q := 3) rfl ?_
                refine z_iload F dX12_goesPlacings_200 (q := 0) rfl ?_
                refine z_if_eq (tgt := 209) F dX12_goesPlacings_202 (by decide +kernel) (by omega) (fun c36 => ?_) (fun c36 => by exfalso; omega)
                refine z_iconst F dX12_goesPlacings_209 ?_
                refine z_iadd F dX12_goesPlacings_210 ?_
                refine z_aload_n F dX12_goesPlacings_211 rfl (q := 1) rfl ?_
                refine gf_X12_433 F hI gs_131 rfl bd_131_26 dX12_goesPlacings_212 (fun v37 ev37 av37 bv37 => ?_)
                have q38 : v22 = M35 131 26 := ev22.trans (f34 131 26 (fun q => absurd q.1 (by decide))).symm
                have zv37 : v22 = v37 := q38.trans ev37.symm
                subst zv37
                refine z_if_eq (tgt := 235) F dX12_goesPlacings_215 (by decide +kernel) (by omega) (fun c39 => by exfalso; omega) (fun c39 => ?_)
                refine z_iload F dX12_goesPlacings_218 (q := 0) rfl ?_
                refine z_if_eq (tgt := 235) F dX12_goesPlacings_220 (by decide +kernel) (by omega) (fun c40 => ?_) (fun c40 => by exfalso; omega)
                refine z_iload_n F dX12_goesPlacings_235 rfl (q := 4) rfl ?_
                refine zv_v (rest := []) F (ih M35 ⟨hI, hW⟩ (x0 + 1) (by omega) (by omega) (x1 + 0) (by omega) (by omega) x2 (by omega) (by omega) (by have := hF.at (a := 132) (b := 2) (by decide); omega) (by omega)) cs_X12_452 (T := TX12) (N := 44) (ci := 12) rfl gs_131 (by omega) (by decide) rfl rfl rfl (Nat.le_of_ble_eq_true rfl) dX12_goesPlacings_236 (fun M41 hI p42 => ?_)
                obtain ⟨hI, hW⟩ := hI
                have fp42 := p42
                have hF := hF.call fp42 (by decide)
                refine z_iincN F dX12_goesPlacings_239 (q := 5) rfl (by decide) (fun v43 ev43 => ?_)
                refine z_eq (ls' := [(4, ii v43), (5, ii 0), (0, .ref (ad 131)), (1, ii x0), (2, ii x1), (3, ii x2)]) rfl rfl rfl ?_
                refine z_goto (tgt := 118) F dX12_goesPlacings_242 (by decide +kernel) ?_
                refine z_loc [2, 3, 4, 5, 0] (ls' := [(0, .ref (ad 131)), (1, ii x0), (2, ii x1), (3, ii x2), (4, ii v43)]) rfl ?_
                exact ih118 v43 M41 hI hW hF (by omega) (by omega) (by omega)
            · refine z_iconst F dX12_goesPlacings_150 ?_
              refine z_goto (tgt := 155) F dX12_goesPlacings_151 (by decide +kernel) ?_
              refine z_istore F dX12_goesPlacings_155 (by decide) (ls' := [(5, ii 1), (0, .ref (ad 131)), (1, ii x0), (2, ii x1), (3, ii x2), (4, ii y9)]) rfl ?_
              refine z_aload_n F dX12_goesPlacings_157 rfl (q := 1) rfl ?_
              refine gf_X12_433 F hI gs_131 rfl bd_131_26 dX12_goesPlacings_158 (fun v44 ev44 av44 bv44 => ?_)
              refine z_if_eq (tgt := 187) F dX12_goesPlacings_161 (by decide +kernel) (by omega) (fun c45 => ?_) (fun c45 => ?_)
              · refine z_aload_n F dX12_goesPlacings_187 rfl (q := 1) rfl ?_
                refine rf_X12_36 F gs_131 rfl dX12_goesPlacings_188 ?_
                refine z_iload_n F dX12_goesPlacings_191 rfl (q := 2) rfl ?_
                refine z_iload F dX12_goesPlacings_192 (q := 5) rfl ?_
                refine z_iast F hI gs_139 (by omega) (by omega) (by decide) bd_139 dX12_goesPlacings_194 (by omega) (by omega) (fun M47 hI sf46 f46 => ?_)
                have hF := hF.wr f46 (by decide) (by decide)
                have hW : WFk M47 := hW.site f46 (by decide)
                refine z_aload_n F dX12_goesPlacings_195 rfl (q := 1) rfl ?_
                refine z_iload_n F dX12_goesPlacings_196 rfl (q := 2) rfl ?_
                refine z_iconst F dX12_goesPlacings_197 ?_
                refine z_iadd F dX12_goesPlacings_198 ?_
                refine z_iload_n F dX12_goesPlacings_199 rfl (q := 3) rfl ?_
                refine z_iload F dX12_goesPlacings_200 (q := 0) rfl ?_
                refine z_if_eq (tgt := 209) F dX12_goesPlacings_202 (by decide +kernel) (by omega) (fun c48 => by exfalso; omega) (fun c48 => ?_)
                refine z_iconst F dX12_goesPlacings_205 ?_
                refine z_goto (tgt := 210) F dX12_goesPlacings_206 (by decide +kernel) ?_
                refine z_iadd F dX12_goesPlacings_210 ?_
                refine z_wrap (fun v49 rv49 wv49 => ?_)
                refine z_aload_n F dX12_goesPlacings_211 rfl (q := 1) rfl ?_
                refine gf_X12_433 F hI gs_131 rfl bd_131_26 dX12_goesPlacings_212 (fun v50 ev50 av50 bv50 => ?_)
                have q51 : v44 = M47 131 26 := ev44.trans (f46 131 26 (fun q => absurd q.1 (by decide))).symm
                have zv50 : v44 = v50 := q51.trans ev50.symm
                subst zv50
                refine z_if_eq (tgt := 235) F dX12_goesPlacings_215 (by decide +kernel) (by omega) (fun c52 => ?_) (fun c52 => by exfalso; omega)
                refine z_iload_n F dX12_goesPlacings_235 rfl (q := 4) rfl ?_
                refine zv_v (rest := []) F (ih M47 ⟨hI, hW⟩ (x0 + 1) (by omega) (by omega) v49 (by omega) (by omega) x2 (by omega) (by omega) (by have := hF.at (a := 132) (b := 2) (by decide); omega) (by omega)) cs_X12_452 (T := TX12) (N := 44) (ci := 12) rfl gs_131 (by omega) (by decide) rfl rfl rfl (Nat.le_of_ble_eq_true rfl) dX12_goesPlacings_236 (fun M53 hI p54 => ?_)
                obtain ⟨hI, hW⟩ := hI
                have fp54 := p54
                have hF := hF.call fp54 (by decide)
                refine z_iincN F dX12_goesPlacings_239 (q := 5) rfl (by decide) (fun v55 ev55 => ?_)
                refine z_eq (ls' := [(4, ii v55), (5, ii 1), (0, .ref (ad 131)), (1, ii x0), (2, ii x1), (3, ii x2)]) rfl rfl rfl ?_
                refine z_goto (tgt := 118) F dX12_goesPlacings_242 (by decide +kernel) ?_
                refine z_loc [2, 3, 4, 5, 0] (ls' := [(0, .ref (ad 131)), (1, ii x0), (2, ii x1), (3, ii x2), (4, ii v55)]) rfl ?_
                exact ih118 v55 M53 hI hW hF (by omega) (by omega) (by omega)
              · refine z_iload F dX12_goesPlacings_164 (q := 0) rfl ?_
                refine z_if_eq (tgt := 187) F dX12_goesPlacings_166 (by decide +kernel) (by omega) (fun c56 => by exfalso; omega) (fun c56 => ?_)
                refine z_aload_n F dX12_goesPlacings_169 rfl (q := 1) rfl ?_
                refine z_aload_n F dX12_goesPlacings_170 rfl (q := 1) rfl ?_
                refine z_iload_n F dX12_goesPlacings_171 rfl (q := 2) rfl ?_
                refine zv_i (rest := [.ref (ad 131)]) F (k_X12_lies l M15 ⟨hI, hW⟩ x0 (by omega) (by omega)) cs_X12_317 (T := TX12) (N := 44) (ci := 12) rfl gs_131 (by omega) (by decide) rfl rfl rfl (Nat.le_of_ble_eq_true rfl) dX12_goesPlacings_172 (fun v57 M58 rv57 hI p59 => ?_)
                obtain ⟨hI, hW⟩ := hI
                obtain ⟨⟨av57, bv57⟩, rfl⟩ := p59
                refine z_iload F dX12_goesPlacings_175 (q := 5) rfl ?_
                refine zv_i (rest := []) F (k_X12_stepsOf l M15 ⟨hI, hW⟩ v57 (by omega) (by omega) y9 (by omega) (by omega)) cs_X12_349 (T := TX12) (N := 44) (ci := 12) rfl gs_131 (by omega) (by decide) rfl rfl rfl (Nat.le_of_ble_eq_true rfl) dX12_goesPlacings_177 (fun v60 M61 rv60 hI p62 => ?_)
                obtain ⟨hI, hW⟩ := hI
                obtain ⟨⟨av60, bv60⟩, rfl⟩ := p62
                refine z_iconst F dX12_goesPlacings_180 ?_
                refine z_icmp_ne (tgt := 187) F dX12_goesPlacings_181 (by decide +kernel) (by omega) (by omega) (fun c63 => ?_) (fun c63 => ?_)
                · refine z_aload_n F dX12_goesPlacings_187 rfl (q := 1) rfl ?_
                  refine rf_X12_36 F gs_131 rfl dX12_goesPlacings_188 ?_
                  refine z_iload_n F dX12_goesPlacings_191 rfl (q := 2) rfl ?_
                  refine z_iload F dX12_goesPlacings_192 (q := 5) rfl ?_
                  refine z_iast F hI gs_139 (by omega) (by omega) (by decide) bd_139 dX12_goesPlacings_194 (by omega) (by omega) (fun M65 hI sf64 f64 => ?_)
                  have hF := hF.wr f64 (by decide) (by decide)
                  have hW : WFk M65 := hW.site f64 (by decide)
                  refine z_aload_n F dX12_goesPlacings_195 rfl (q := 1) rfl ?_
                  refine z_iload_n F dX12_goesPlacings_196 rfl (q := 2) rfl ?_
                  refine z_iconst F dX12_goesPlacings_197 ?_
                  refine z_iadd F dX12_goesPlacings_198 ?_
                  refine z_iload_n F dX12_goesPlacings_199 rfl (q := 3) rfl ?_
                  refine z_iload F dX12_goesPlacings_200 (q := 0) rfl ?_
                  refine z_if_eq (tgt := 209) F dX12_goesPlacings_202 (by decide +kernel) (by omega) (fun c66 => by exfalso; omega) (fun c66 => ?_)
                  refine z_iconst F dX12_goesPlacings_205 ?_
                  refine z_goto (tgt := 210) F dX12_goesPlacings_206 (by decide +kernel) ?_
                  refine z_iadd F dX12_goesPlacings_210 ?_
                  refine z_wrap (fun v67 rv67 wv67 => ?_)
                  refine z_aload_n F dX12_goesPlacings_211 rfl (q := 1) rfl ?_
                  refine gf_X12_433 F hI gs_131 rfl bd_131_26 dX12_goesPlacings_212 (fun v68 ev68 av68 bv68 => ?_)
                  have q69 : v44 = M65 131 26 := ev44.trans (f64 131 26 (fun q => absurd q.1 (by decide))).symm
                  have zv68 : v44 = v68 := q69.trans ev68.symm
                  subst zv68
                  refine z_if_eq (tgt := 235) F dX12_goesPlacings_215 (by decide +kernel) (by omega) (fun c70 => by exfalso; omega) (fun c70 => ?_)
                  refine z_iload F dX12_goesPlacings_218 (q := 0) rfl ?_
                  refine z_if_eq (tgt := 235) F dX12_goesPlacings_220 (by decide +kernel) (by omega) (fun c71 => by exfalso; omega) (fun c71 => ?_)
                  refine z_iload_n F dX12_goesPlacings_223 rfl (q := 4) rfl ?_
                  refine z_aload_n F dX12_goesPlacings_224 rfl (q := 1) rfl ?_
                  refine z_iload_n F dX12_goesPlacings_225 rfl (q := 2) rfl ?_
                  refine z_iload F dX12_goesPlacings_226 (q := 5) rfl ?_
                  refine zv_i (rest := [ii x2, ii v67, ii (x0 + 1), .ref (ad 131)]) F (k_X12_minutesOf l M65 ⟨hI, hW⟩ x0 (by omega) (by omega) y9 (by omega) (by omega)) cs_X12_358 (T := TX12) (N := 44) (ci := 12) rfl gs_131 (by omega) (by decide) rfl rfl rfl (Nat.le_of_ble_eq_true rfl) dX12_goesPlacings_228 (fun v72 M73 rv72 hI p74 => ?_)
                  obtain ⟨hI, hW⟩ := hI
                  obtain ⟨⟨av72, bv72⟩, rfl⟩ := p74
                  refine z_iadd F dX12_goesPlacings_231 ?_
                  refine z_wrap (fun v75 rv75 wv75 => ?_)
                  refine z_goto (tgt := 236) F dX12_goesPlacings_232 (by decide +kernel) ?_
                  refine zv_v (rest := []) F (ih M65 ⟨hI, hW⟩ (x0 + 1) (by omega) (by omega) v67 (by omega) (by omega) v75 (by omega) (by omega) (by have := hF.at (a := 132) (b := 2) (by decide); omega) (by omega)) cs_X12_452 (T := TX12) (N := 44) (ci := 12) rfl gs_131 (by omega) (by decide) rfl rfl rfl (Nat.le_of_ble_eq_true rfl) dX12_goesPlacings_236 (fun M76 hI p77 => ?_)
                  obtain ⟨hI, hW⟩ := hI
                  have fp77 := p77
                  have hF := hF.call fp77 (by decide)
                  refine z_iincN F dX12_goesPlacings_239 (q := 5) rfl (by decide) (fun v78 ev78 => ?_)
                  refine z_eq (ls' := [(4, ii v78), (5, ii 1), (0, .ref (ad 131)), (1, ii x0), (2, ii x1), (3, ii x2)]) rfl rfl rfl ?_
                  refine z_goto (tgt := 118) F dX12_goesPlacings_242 (by decide +kernel) ?_
                  refine z_loc [2, 3, 4, 5, 0] (ls' := [(0, .ref (ad 131)), (1, ii x0), (2, ii x1), (3, ii x2), (4, ii v78)]) rfl ?_
                  exact ih118 v78 M76 hI hW hF (by omega) (by omega) (by omega)
                · refine z_goto (tgt := 239) F dX12_goesPlacings_184 (by decide +kernel) ?_
                  refine z_iincN F dX12_goesPlacings_239 (q := 5) rfl (by decide) (fun v79 ev79 => ?_)
                  refine z_eq (ls' := [(4, ii v79), (5, ii 1), (0, .ref (ad 131)), (1, ii x0), (2, ii x1), (3, ii x2)]) rfl rfl rfl ?_
                  refine z_goto (tgt := 118) F dX12_goesPlacings_242 (by decide +kernel) ?_
                  refine z_loc [2, 3, 4, 5, 0] (ls' := [(0, .ref (ad 131)), (1, ii x0), (2, ii x1), (3, ii x2), (4, ii v79)]) rfl ?_
                  exact ih118 v79 M15 hI hW hF (by omega) (by omega) (by omega)
          · refine z_goto (tgt := 239) F dX12_goesPlacings_137 (by decide +kernel) ?_
            refine z_iincN F dX12_goesPlacings_239 (q := 4) rfl (by decide) (fun v80 ev80 => ?_)
            refine z_eq (ls' := [(4, ii v80), (0, .ref (ad 131)), (1, ii x0), (2, ii x1), (3, ii x2)]) rfl rfl rfl ?_
            refine z_goto (tgt := 118) F dX12_goesPlacings_242 (by decide +kernel) ?_
            refine z_loc [1, 2, 3, 4, 0] (ls' := [(0, .ref (ad 131)), (1, ii x0), (2, ii x1), (3, ii x2), (4, ii v80)]) rfl ?_
            exact ih118 v80 M15 hI hW hF (by omega) (by omega) (by omega)
    · refine z_aload_n F dX12_goesPlacings_47 rfl (q := 0) rfl ?_
      refine gf_X12_433 F hI gs_131 rfl bd_131_26 dX12_goesPlacings_48 (fun v81 ev81 av81 bv81 => ?_)
      have zv81 : v1 = v81 := ev1.trans ev81.symm
      subst zv81
      refine z_if_ne (tgt := 65) F dX12_goesPlacings_51 (by decide +kernel) (by omega) (fun c82 => by exfalso; omega) (fun c82 => ?_)
      refine z_aload_n F dX12_goesPlacings_54 rfl (q := 0) rfl ?_
      refine gf_X12_437 F hI gs_131 rfl bd_131_22 dX12_goesPlacings_55 (fun v83 ev83 av83 bv83 => ?_)
      refine z_aload_n F dX12_goesPlacings_58 rfl (q := 0) rfl ?_
      refine gf_X12_446 F hI gs_131 rfl bd_131_23 dX12_goesPlacings_59 (fun v84 ev84 av84 bv84 => ?_)
      refine z_icmp_ne (tgt := 94) F dX12_goesPlacings_62 (by decide +kernel) (by omega) (by omega) (fun c85 => ?_) (fun c85 => ?_)
      · refine z_aload_n F dX12_goesPlacings_94 rfl (q := 0) rfl ?_
        refine z_iload_n F dX12_goesPlacings_95 rfl (q := 2) rfl ?_
        refine pf_X12_440 F hI gs_131 rfl bd_131_24 rfl rfl dX12_goesPlacings_96 (by omega) (by omega) (fun M87 hI sf86 f86 => ?_)
        have hF := hF.wrf f86 (by decide) (by decide)
        have hW : WFk M87 := hW.site f86 (by decide)
        refine z_aload_n F dX12_goesPlacings_99 rfl (q := 0) rfl ?_
        refine z_iload_n F dX12_goesPlacings_100 rfl (q := 3) rfl ?_
        refine pf_X12_443 F hI gs_131 rfl bd_131_25 rfl rfl dX12_goesPlacings_101 (by omega) (by omega) (fun M89 hI sf88 f88 => ?_)
        have hF := hF.wrf f88 (by decide) (by decide)
        have hW : WFk M89 := hW.site f88 (by decide)
        refine z_aload_n F dX12_goesPlacings_104 rfl (q := 0) rfl ?_
        refine z_dup F dX12_goesPlacings_105 rfl ?_
        refine gf_X12_437 F hI gs_131 rfl bd_131_22 dX12_goesPlacings_106 (fun v90 ev90 av90 bv90 => ?_)
        have q91 : v83 = M87 131 22 := ev83.trans (f86 131 22 (fun q => absurd q.2 (by decide))).symm
        have q92 : v83 = M89 131 22 := q91.trans (f88 131 22 (fun q => absurd q.2 (by decide))).symm
        have zv90 : v83 = v90 := q92.trans ev90.symm
        subst zv90
        refine z_iconst F dX12_goesPlacings_109 ?_
        refine z_iadd F dX12_goesPlacings_110 ?_
        refine z_wrap (fun v93 rv93 wv93 => ?_)
        refine pf_X12_437 F hI gs_131 rfl bd_131_22 rfl rfl dX12_goesPlacings_111 (by omega) (by omega) (fun M95 hI sf94 f94 => ?_)
        have hF := hF.wrf f94 (by decide) (by decide)
        have hW : WFk M95 := hW.site f94 (by decide)
        exact hret _ 114 _ ⟨hI, hW⟩ hF dX12_goesPlacings_114
      · refine z_iconst F dX12_goesPlacings_65 ?_
        refine z_istore F dX12_goesPlacings_66 (by decide) (ls' := [(4, ii 0), (0, .ref (ad 131)), (1, ii x0), (2, ii x1), (3, ii x2)]) rfl ?_
        refine z_loc [1, 2, 3, 4, 0] (ls' := [(0, .ref (ad 131)), (1, ii x0), (2, ii x1), (3, ii x2), (4, ii 0)]) rfl ?_
        suffices key68 : ∀ (n : Nat) (y97 : Int) (M96 : Mem), Inv M96 → WFk M96 → Fr [131, 137, 139, 140] M M96 → 0 ≤ y97 → y97 ≤ 8 → 8 - y97 < (n : Int) → Z D cy ad p l e (RMh (6 + (nr + 1))) s m args below meth c A 6 0 0 Q 68 [(0, .ref (ad 131)), (1, ii x0), (2, ii x1), (3, ii x2), (4, ii y97)] [] M96 from key68 9 0 M hI hW hF (by omega) (by omega) (by omega)
        intro n68
        induction n68 with
        | zero => intro y97 M96 hI hW hF ay97 by97 hn68; exfalso; omega
        | succ n68 ih68 =>
          intro y97 M96 hI hW hF ay97 by97 hn68
          refine z_iload F dX12_goesPlacings_68 (q := 4) rfl ?_
          refine z_iload_n F dX12_goesPlacings_70 rfl (q := 1) rfl ?_
          refine z_icmp_ge (tgt := 94) F dX12_goesPlacings_71 (by decide +kernel) (by omega) (by omega) (fun c98 => ?_) (fun c98 => ?_)
          · refine z_aload_n F dX12_goesPlacings_94 rfl (q := 0) rfl ?_
            refine z_iload_n F dX12_goesPlacings_95 rfl (q := 2) rfl ?_
            refine pf_X12_440 F hI gs_131 rfl bd_131_24 rfl rfl dX12_goesPlacings_96 (by omega) (by omega) (fun M100 hI sf99 f99 => ?_)
            have hF := hF.wrf f99 (by decide) (by decide)
            have hW : WFk M100 := hW.site f99 (by decide)
            refine z_aload_n F dX12_goesPlacings_99 rfl (q := 0) rfl ?_
            refine z_iload_n F dX12_goesPlacings_100 rfl (q := 3) rfl ?_
            refine pf_X12_443 F hI gs_131 rfl bd_131_25 rfl rfl dX12_goesPlacings_101 (by omega) (by omega) (fun M102 hI sf101 f101 => ?_)
            have hF := hF.wrf f101 (by decide) (by decide)
            have hW : WFk M102 := hW.site f101 (by decide)
            refine z_aload_n F dX12_goesPlacings_104 rfl (q := 0) rfl ?_
            refine z_dup F dX12_goesPlacings_105 rfl ?_
            refine gf_X12_437 F hI gs_131 rfl bd_131_22 dX12_goesPlacings_106 (fun v103 ev103 av103 bv103 => ?_)
            refine z_iconst F dX12_goesPlacings_109 ?_
            refine z_iadd F dX12_goesPlacings_110 ?_
            refine z_wrap (fun v104 rv104 wv104 => ?_)
            refine pf_X12_437 F hI gs_131 rfl bd_131_22 rfl rfl dX12_goesPlacings_111 (by omega) (by omega) (fun M106 hI sf105 f105 => ?_)
            have hF := hF.wrf f105 (by decide) (by decide)
            have hW : WFk M106 := hW.site f105 (by decide)
            exact hret _ 114 _ ⟨hI, hW⟩ hF dX12_goesPlacings_114
          · refine z_aload_n F dX12_goesPlacings_74 rfl (q := 0) rfl ?_
            refine rf_X12_39 F gs_131 rfl dX12_goesPlacings_75 ?_
            refine z_iload F dX12_goesPlacings_78 (q := 4) rfl ?_
            refine z_aload_n F dX12_goesPlacings_80 rfl (q := 0) rfl ?_
            refine rf_X12_36 F gs_131 rfl dX12_goesPlacings_81 ?_
            refine z_iload F dX12_goesPlacings_84 (q := 4) rfl ?_
            refine z_iald F hI gs_139 (by omega) (by omega) (by decide) bd_139 dX12_goesPlacings_86 (fun v107 (ev107 : v107 = M96 139 _) av107 bv107 => ?_)
            refine z_iast F hI gs_140 (by omega) (by omega) (by decide) bd_140 dX12_goesPlacings_87 (by omega) (by omega) (fun M109 hI sf108 f108 => ?_)
            have hF := hF.wr f108 (by decide) (by decide)
            have hW : WFk M109 := hW.site f108 (by decide)
            refine z_iincN F dX12_goesPlacings_88 (q := 4) rfl (by decide) (fun v110 ev110 => ?_)
            refine z_eq (ls' := [(4, ii v110), (0, .ref (ad 131)), (1, ii x0), (2, ii x1), (3, ii x2)]) rfl rfl rfl ?_
            refine z_goto (tgt := 68) F dX12_goesPlacings_91 (by decide +kernel) ?_
            refine z_loc [1, 2, 3, 4, 0] (ls' := [(0, .ref (ad 131)), (1, ii x0), (2, ii x1), (3, ii x2), (4, ii v110)]) rfl ?_
            exact ih68 v110 M109 hI hW hF (by omega) (by omega) (by omega)
  · refine z_aload_n F dX12_goesPlacings_7 rfl (q := 0) rfl ?_
    refine gf_X12_437 F hI gs_131 rfl bd_131_22 dX12_goesPlacings_8 (fun v111 ev111 av111 bv111 => ?_)
    refine z_if_le (tgt := 39) F dX12_goesPlacings_11 (by decide +kernel) (by omega) (fun c112 => ?_) (fun c112 => ?_)
    · refine z_iload_n F dX12_goesPlacings_39 rfl (q := 1) rfl ?_
      refine z_aload_n F dX12_goesPlacings_40 rfl (q := 0) rfl ?_
      refine zv_i (rest := [ii x0]) F (k_X12_things l M ⟨hI, hW⟩) cs_X12_275 (T := TX12) (N := 44) (ci := 12) rfl gs_131 (by omega) (by decide) rfl rfl rfl (Nat.le_of_ble_eq_true rfl) dX12_goesPlacings_41 (fun v113 M114 rv113 hI p115 => ?_)
      obtain ⟨hI, hW⟩ := hI
      obtain ⟨⟨av113, bv113⟩, rfl, xp115⟩ := p115
      refine z_icmp_ne (tgt := 115) F dX12_goesPlacings_44 (by decide +kernel) (by omega) (by omega) (fun c116 => ?_) (fun c116 => ?_)
      · have k117 : 0 ≤ x0 ∧ x0 ≤ 7 := by omega
        refine z_iconst F dX12_goesPlacings_115 ?_
        refine z_istore F dX12_goesPlacings_116 (by decide) (ls' := [(4, ii 0), (0, .ref (ad 131)), (1, ii x0), (2, ii x1), (3, ii x2)]) rfl ?_
        refine z_loc [1, 2, 3, 4, 0] (ls' := [(0, .ref (ad 131)), (1, ii x0), (2, ii x1), (3, ii x2), (4, ii 0)]) rfl ?_
        suffices key118 : ∀ (n : Nat) (y119 : Int) (M118 : Mem), Inv M118 → WFk M118 → Fr [131, 137, 139, 140] M M118 → 0 ≤ y119 → y119 ≤ 10 → 10 - y119 < (n : Int) → Z D cy ad p l e (RMh (6 + (nr + 1))) s m args below meth c A 6 0 0 Q 118 [(0, .ref (ad 131)), (1, ii x0), (2, ii x1), (3, ii x2), (4, ii y119)] [] M118 from key118 11 0 M hI hW hF (by omega) (by omega) (by omega)
        intro n118
        induction n118 with
        | zero => intro y119 M118 hI hW hF ay119 by119 hn118; exfalso; omega
        | succ n118 ih118 =>
          intro y119 M118 hI hW hF ay119 by119 hn118
          refine z_iload F dX12_goesPlacings_118 (q := 4) rfl ?_
          refine z_aload_n F dX12_goesPlacings_120 rfl (q := 0) rfl ?_
          refine zv_i (rest := [ii y119]) F (k_X12_places l M118 ⟨hI, hW⟩) cs_X12_273 (T := TX12) (N := 44) (ci := 12) rfl gs_131 (by omega) (by decide) rfl rfl rfl (Nat.le_of_ble_eq_true rfl) dX12_goesPlacings_121 (fun v120 M121 rv120 hI p122 => ?_)
          obtain ⟨hI, hW⟩ := hI
          obtain ⟨⟨av120, bv120⟩, rfl, xp122⟩ := p122
          refine z_icmp_ge (tgt := 245) F dX12_goesPlacings_124 (by decide +kernel) (by omega) (by omega) (fun c123 => ?_) (fun c123 => ?_)
          · exact hret _ 245 _ ⟨hI, hW⟩ hF dX12_goesPlacings_245
          · refine z_aload_n F dX12_goesPlacings_127 rfl (q := 0) rfl ?_
            refine z_iload_n F dX12_goesPlacings_128 rfl (q := 1) rfl ?_
            refine z_iload F dX12_goesPlacings_129 (q := 4) rfl ?_
            refine zv_i (rest := []) F (k_X12_fits l M118 ⟨hI, hW⟩ x0 (by omega) (by omega) y119 (by omega) (by omega)) cs_X12_449 (T := TX12) (N := 44) (ci := 12) rfl gs_131 (by omega) (by decide) rfl rfl rfl (Nat.le_of_ble_eq_true rfl) dX12_goesPlacings_131 (fun v124 M125 rv124 hI p126 => ?_)
            obtain ⟨hI, hW⟩ := hI
            obtain ⟨⟨av124, bv124⟩, fp126⟩ := p126
            have hF := hF.call fp126 (by decide)
            refine z_if_ne (tgt := 140) F dX12_goesPlacings_134 (by decide +kernel) (by omega) (fun c127 => ?_) (fun c127 => ?_)
            · refine z_iload F dX12_goesPlacings_140 (q := 4) rfl ?_
              refine z_aload_n F dX12_goesPlacings_142 rfl (q := 0) rfl ?_
              refine z_iload_n F dX12_goesPlacings_143 rfl (q := 1) rfl ?_
              refine zv_i (rest := [ii y119]) F (k_X12_lies l M125 ⟨hI, hW⟩ x0 (by omega) (by omega)) cs_X12_317 (T := TX12) (N := 44) (ci := 12) rfl gs_131 (by omega) (by decide) rfl rfl rfl (Nat.le_of_ble_eq_true rfl) dX12_goesPlacings_144 (fun v128 M129 rv128 hI p130 => ?_)
              obtain ⟨hI, hW⟩ := hI
              obtain ⟨⟨av128, bv128⟩, rfl⟩ := p130
              refine z_icmp_eq (tgt := 154) F dX12_goesPlacings_147 (by decide +kernel) (by omega) (by omega) (fun c131 => ?_) (fun c131 => ?_)
              · refine z_iconst F dX12_goesPlacings_154 ?_
                refine z_istore F dX12_goesPlacings_155 (by decide) (ls' := [(5, ii 0), (0, .ref (ad 131)), (1, ii x0), (2, ii x1), (3, ii x2), (4, ii y119)]) rfl ?_
                refine z_aload_n F dX12_goesPlacings_157 rfl (q := 1) rfl ?_
                refine gf_X12_433 F hI gs_131 rfl bd_131_26 dX12_goesPlacings_158 (fun v132 ev132 av132 bv132 => ?_)
                refine z_if_eq (tgt := 187) F dX12_goesPlacings_161 (by decide +kernel) (by omega) (fun c133 => ?_) (fun c133 => ?_)
                · refine z_aload_n F dX12_goesPlacings_187 rfl (q := 1) rfl ?_
                  refine rf_X12_36 F gs_131 rfl dX12_goesPlacings_188 ?_
                  refine z_iload_n F dX12_goesPlacings_191 rfl (q := 2) rfl ?_
                  refine z_iload F dX12_goesPlacings_192 (q := 5) rfl ?_
                  refine z_iast F hI gs_139 (by omega) (by omega) (by decide) bd_139 dX12_goesPlacings_194 (by omega) (by omega) (fun M135 hI sf134 f134 => ?_)
                  have hF := hF.wr f134 (by decide) (by decide)
                  have hW : WFk M135 := hW.site f134 (by decide)
                  refine z_aload_n F dX12_goesPlacings_195 rfl (q := 1) rfl ?_
                  refine z_iload_n F dX12_goesPlacings_196 rfl (q := 2) rfl ?_
                  refine z_iconst F dX12_goesPlacings_197 ?_
                  refine z_iadd F dX12_goesPlacings_198 ?_
                  refine z_iload_n F dX12_goesPlacings_199 rfl (q := 3) rfl ?_
                  refine z_iload F dX12_goesPlacings_200 (q := 0) rfl ?_
                  refine z_if_eq (tgt := 209) F dX12_goesPlacings_202 (by decide +kernel) (by omega) (fun c136 => ?_) (fun c136 => by exfalso; omega)
                  refine z_iconst F dX12_goesPlacings_209 ?_
                  refine z_iadd F dX12_goesPlacings_210 ?_
                  refine z_aload_n F dX12_goesPlacings_211 rfl (q := 1) rfl ?_
                  refine gf_X12_433 F hI gs_131 rfl bd_131_26 dX12_goesPlacings_212 (fun v137 ev137 av137 bv137 => ?_)
                  have q138 : v132 = M135 131 26 := ev132.trans (f134 131 26 (fun q => absurd q.1 (by decide))).symm
                  have zv137 : v132 = v137 := q138.trans ev137.symm
                  subst zv137
                  refine z_if_eq (tgt := 235) F dX12_goesPlacings_215 (by decide +kernel) (by omega) (fun c139 => ?_) (fun c139 => by exfalso; omega)
                  refine z_iload_n F dX12_goesPlacings_235 rfl (q := 4) rfl ?_
                  refine zv_v (rest := []) F (ih M135 ⟨hI, hW⟩ (x0 + 1) (by omega) (by omega) (x1 + 0) (by omega) (by omega) x2 (by omega) (by omega) (by have := hF.at (a := 132) (b := 2) (by decide); omega) (by omega)) cs_X12_452 (T := TX12) (N := 44) (ci := 12) rfl gs_131 (by omega) (by decide) rfl rfl rfl (Nat.le_of_ble_eq_true rfl) dX12_goesPlacings_236 (fun M140 hI p141 => ?_)
                  obtain ⟨hI, hW⟩ := hI
                  have fp141 := p141
                  have hF := hF.call fp141 (by decide)
                  refine z_iincN F dX12_goesPlacings_239 (q := 5) rfl (by decide) (fun v142 ev142 => ?_)
                  refine z_eq (ls' := [(4, ii v142), (5, ii 0), (0, .ref (ad 131)), (1, ii x0), (2, ii x1), (3, ii x2)]) rfl rfl rfl ?_
                  refine z_goto (tgt := 118) F dX12_goesPlacings_242 (by decide +kernel) ?_
                  refine z_loc [2, 3, 4, 5, 0] (ls' := [(0, .ref (ad 131)), (1, ii x0), (2, ii x1), (3, ii x2), (4, ii v142)]) rfl ?_
                  exact ih118 v142 M140 hI hW hF (by omega) (by omega) (by omega)
                · refine z_iload F dX12_goesPlacings_164 (q := 0) rfl ?_
                  refine z_if_eq (tgt := 187) F dX12_goesPlacings_166 (by decide +kernel) (by omega) (fun c143 => ?_) (fun c143 => by exfalso; omega)
                  refine z_aload_n F dX12_goesPlacings_187 rfl (q := 1) rfl ?_
                  refine rf_X12_36 F gs_131 rfl dX12_goesPlacings_188 ?_
                  refine z_iload_n F dX12_goesPlacings_191 rfl (q := 2) rfl ?_
                  refine z_iload F dX12_goesPlacings_192 (q := 5) rfl ?_
                  refine z_iast F hI gs_139 (by omega) (by omega) (by decide) bd_139 dX12_goesPlacings_194 (by omega) (by omega) (fun M145 hI sf144 f144 => ?_)
                  have hF := hF.wr f144 (by decide) (by decide)
                  have hW : WFk M145 := hW.site f144 (by decide)
                  refine z_aload_n F dX12_goesPlacings_195 rfl (q := 1) rfl ?_
                  refine z_iload_n F dX12_goesPlacings_196 rfl (q := 2) rfl ?_
                  refine z_iconst F dX12_goesPlacings_197 ?_
                  refine z_iadd F dX12_goesPlacings_198 ?_
                  refine z_iload_n F dX12_goesPlacings_199 rfl (q := 3) rfl ?_
                  refine z_iload F dX12_goesPlacings_200 (q := 0) rfl ?_
                  refine z_if_eq (tgt := 209) F dX12_goesPlacings_202 (by decide +kernel) (by omega) (fun c146 => ?_) (fun c146 => by exfalso; omega)
                  refine z_iconst F dX12_goesPlacings_209 ?_
                  refine z_iadd F dX12_goesPlacings_210 ?_
                  refine z_aload_n F dX12_goesPlacings_211 rfl (q := 1) rfl ?_
                  refine gf_X12_433 F hI gs_131 rfl bd_131_26 dX12_goesPlacings_212 (fun v147 ev147 av147 bv147 => ?_)
                  have q148 : v132 = M145 131 26 := ev132.trans (f144 131 26 (fun q => absurd q.1 (by decide))).symm
                  have zv147 : v132 = v147 := q148.trans ev147.symm
                  subst zv147
                  refine z_if_eq (tgt := 235) F dX12_goesPlacings_215 (by decide +kernel) (by omega) (fun c149 => by exfalso; omega) (fun c149 => ?_)
                  refine z_iload F dX12_goesPlacings_218 (q := 0) rfl ?_
                  refine z_if_eq (tgt := 235) F dX12_goesPlacings_220 (by decide +kernel) (by omega) (fun c150 => ?_) (fun c150 => by exfalso; omega)
                  refine z_iload_n F dX12_goesPlacings_235 rfl (q := 4) rfl ?_
                  refine zv_v (rest := []) F (ih M145 ⟨hI, hW⟩ (x0 + 1) (by omega) (by omega) (x1 + 0) (by omega) (by omega) x2 (by omega) (by omega) (by have := hF.at (a := 132) (b := 2) (by decide); omega) (by omega)) cs_X12_452 (T := TX12) (N := 44) (ci := 12) rfl gs_131 (by omega) (by decide) rfl rfl rfl (Nat.le_of_ble_eq_true rfl) dX12_goesPlacings_236 (fun M151 hI p152 => ?_)
                  obtain ⟨hI, hW⟩ := hI
                  have fp152 := p152
                  have hF := hF.call fp152 (by decide)
                  refine z_iincN F dX12_goesPlacings_239 (q := 5) rfl (by decide) (fun v153 ev153 => ?_)
                  refine z_eq (ls' := [(4, ii v153), (5, ii 0), (0, .ref (ad 131)), (1, ii x0), (2, ii x1), (3, ii x2)]) rfl rfl rfl ?_
                  refine z_goto (tgt := 118) F dX12_goesPlacings_242 (by decide +kernel) ?_
                  refine z_loc [2, 3, 4, 5, 0] (ls' := [(0, .ref (ad 131)), (1, ii x0), (2, ii x1), (3, ii x2), (4, ii v153)]) rfl ?_
                  exact ih118 v153 M151 hI hW hF (by omega) (by omega) (by omega)
              · refine z_iconst F dX12_goesPlacings_150 ?_
                refine z_goto (tgt := 155) F dX12_goesPlacings_151 (by decide +kernel) ?_
                refine z_istore F dX12_goesPlacings_155 (by decide) (ls' := [(5, ii 1), (0, .ref (ad 131)), (1, ii x0), (2, ii x1), (3, ii x2), (4, ii y119)]) rfl ?_
                refine z_aload_n F dX12_goesPlacings_157 rfl (q := 1) rfl ?_
                refine gf_X12_433 F hI gs_131 rfl bd_131_26 dX12_goesPlacings_158 (fun v154 ev154 av154 bv154 => ?_)
                refine z_if_eq (tgt := 187) F dX12_goesPlacings_161 (by decide +kernel) (by omega) (fun c155 => ?_) (fun c155 => ?_)
                · refine z_aload_n F dX12_goesPlacings_187 rfl (q := 1) rfl ?_
                  refine rf_X12_36 F gs_131 rfl dX12_goesPlacings_188 ?_
                  refine z_iload_n F dX12_goesPlacings_191 rfl (q := 2) rfl ?_
                  refine z_iload F dX12_goesPlacings_192 (q := 5) rfl ?_
                  refine z_iast F hI gs_139 (by omega) (by omega) (by decide) bd_139 dX12_goesPlacings_194 (by omega) (by omega) (fun M157 hI sf156 f156 => ?_)
                  have hF := hF.wr f156 (by decide) (by decide)
                  have hW : WFk M157 := hW.site f156 (by decide)
                  refine z_aload_n F dX12_goesPlacings_195 rfl (q := 1) rfl ?_
                  refine z_iload_n F dX12_goesPlacings_196 rfl (q := 2) rfl ?_
                  refine z_iconst F dX12_goesPlacings_197 ?_
                  refine z_iadd F dX12_goesPlacings_198 ?_
                  refine z_iload_n F dX12_goesPlacings_199 rfl (q := 3) rfl ?_
                  refine z_iload F dX12_goesPlacings_200 (q := 0) rfl ?_
                  refine z_if_eq (tgt := 209) F dX12_goesPlacings_202 (by decide +kernel) (by omega) (fun c158 => by exfalso; omega) (fun c158 => ?_)
                  refine z_iconst F dX12_goesPlacings_205 ?_
                  refine z_goto (tgt := 210) F dX12_goesPlacings_206 (by decide +kernel) ?_
                  refine z_iadd F dX12_goesPlacings_210 ?_
                  refine z_wrap (fun v159 rv159 wv159 => ?_)
                  refine z_aload_n F dX12_goesPlacings_211 rfl (q := 1) rfl ?_
                  refine gf_X12_433 F hI gs_131 rfl bd_131_26 dX12_goesPlacings_212 (fun v160 ev160 av160 bv160 => ?_)
                  have q161 : v154 = M157 131 26 := ev154.trans (f156 131 26 (fun q => absurd q.1 (by decide))).symm
                  have zv160 : v154 = v160 := q161.trans ev160.symm
                  subst zv160
                  refine z_if_eq (tgt := 235) F dX12_goesPlacings_215 (by decide +kernel) (by omega) (fun c162 => ?_) (fun c162 => by exfalso; omega)
                  refine z_iload_n F dX12_goesPlacings_235 rfl (q := 4) rfl ?_
                  refine zv_v (rest := []) F (ih M157 ⟨hI, hW⟩ (x0 + 1) (by omega) (by omega) v159 (by omega) (by omega) x2 (by omega) (by omega) (by have := hF.at (a := 132) (b := 2) (by decide); omega) (by omega)) cs_X12_452 (T := TX12) (N := 44) (ci := 12) rfl gs_131 (by omega) (by decide) rfl rfl rfl (Nat.le_of_ble_eq_true rfl) dX12_goesPlacings_236 (fun M163 hI p164 => ?_)
                  obtain ⟨hI, hW⟩ := hI
                  have fp164 := p164
                  have hF := hF.call fp164 (by decide)
                  refine z_iincN F dX12_goesPlacings_239 (q := 5) rfl (by decide) (fun v165 ev165 => ?_)
                  refine z_eq (ls' := [(4, ii v165), (5, ii 1), (0, .ref (ad 131)), (1, ii x0), (2, ii x1), (3, ii x2)]) rfl rfl rfl ?_
                  refine z_goto (tgt := 118) F dX12_goesPlacings_242 (by decide +kernel) ?_
                  refine z_loc [2, 3, 4, 5, 0] (ls' := [(0, .ref (ad 131)), (1, ii x0), (2, ii x1), (3, ii x2), (4, ii v165)]) rfl ?_
                  exact ih118 v165 M163 hI hW hF (by omega) (by omega) (by omega)
                · refine z_iload F dX12_goesPlacings_164 (q := 0) rfl ?_
                  refine z_if_eq (tgt := 187) F dX12_goesPlacings_166 (by decide +kernel) (by omega) (fun c166 => by exfalso; omega) (fun c166 => ?_)
                  refine z_aload_n F dX12_goesPlacings_169 rfl (q := 1) rfl ?_
                  refine z_aload_n F dX12_goesPlacings_170 rfl (q := 1) rfl ?_
                  refine z_iload_n F dX12_goesPlacings_171 rfl (q := 2) rfl ?_
                  refine zv_i (rest := [.ref (ad 131)]) F (k_X12_lies l M125 ⟨hI, hW⟩ x0 (by omega) (by omega)) cs_X12_317 (T := TX12) (N := 44) (ci := 12) rfl gs_131 (by omega) (by decide) rfl rfl rfl (Nat.le_of_ble_eq_true rfl) dX12_goesPlacings_172 (fun v167 M168 rv167 hI p169 => ?_)
                  obtain ⟨hI, hW⟩ := hI
                  obtain ⟨⟨av167, bv167⟩, rfl⟩ := p169
                  refine z_iload F dX12_goesPlacings_175 (q := 5) rfl ?_
                  refine zv_i (rest := []) F (k_X12_stepsOf l M125 ⟨hI, hW⟩ v167 (by omega) (by omega) y119 (by omega) (by omega)) cs_X12_349 (T := TX12) (N := 44) (ci := 12) rfl gs_131 (by omega) (by decide) rfl rfl rfl (Nat.le_of_ble_eq_true rfl) dX12_goesPlacings_177 (fun v170 M171 rv170 hI p172 => ?_)
                  obtain ⟨hI, hW⟩ := hI
                  obtain ⟨⟨av170, bv170⟩, rfl⟩ := p172
                  refine z_iconst F dX12_goesPlacings_180 ?_
                  refine z_icmp_ne (tgt := 187) F dX12_goesPlacings_181 (by decide +kernel) (by omega) (by omega) (fun c173 => ?_) (fun c173 => ?_)
                  · refine z_aload_n F dX12_goesPlacings_187 rfl (q := 1) rfl ?_
                    refine rf_X12_36 F gs_131 rfl dX12_goesPlacings_188 ?_
                    refine z_iload_n F dX12_goesPlacings_191 rfl (q := 2) rfl ?_
                    refine z_iload F dX12_goesPlacings_192 (q := 5) rfl ?_
                    refine z_iast F hI gs_139 (by omega) (by omega) (by decide) bd_139 dX12_goesPlacings_194 (by omega) (by omega) (fun M175 hI sf174 f174 => ?_)
                    have hF := hF.wr f174 (by decide) (by decide)
                    have hW : WFk M175 := hW.site f174 (by decide)
                    refine z_aload_n F dX12_goesPlacings_195 rfl (q := 1) rfl ?_
                    refine z_iload_n F dX12_goesPlacings_196 rfl (q := 2) rfl ?_
                    refine z_iconst F dX12_goesPlacings_197 ?_
                    refine z_iadd F dX12_goesPlacings_198 ?_
                    refine z_iload_n F dX12_goesPlacings_199 rfl (q := 3) rfl ?_
                    refine z_iload F dX12_goesPlacings_200 (q := 0) rfl ?_
                    refine z_if_eq (tgt := 209) F dX12_goesPlacings_202 (by decide +kernel) (by omega) (fun c176 => by exfalso; omega) (fun c176 => ?_)
                    refine z_iconst F dX12_goesPlacings_205 ?_
                    refine z_goto (tgt := 210) F dX12_goesPlacings_206 (by decide +kernel) ?_
                    refine z_iadd F dX12_goesPlacings_210 ?_
                    refine z_wrap (fun v177 rv177 wv177 => ?_)
                    refine z_aload_n F dX12_goesPlacings_211 rfl (q := 1) rfl ?_
                    refine gf_X12_433 F hI gs_131 rfl bd_131_26 dX12_goesPlacings_212 (fun v178 ev178 av178 bv178 => ?_)
                    have q179 : v154 = M175 131 26 := ev154.trans (f174 131 26 (fun q => absurd q.1 (by decide))).symm
                    have zv178 : v154 = v178 := q179.trans ev178.symm
                    subst zv178
                    refine z_if_eq (tgt := 235) F dX12_goesPlacings_215 (by decide +kernel) (by omega) (fun c180 => by exfalso; omega) (fun c180 => ?_)
                    refine z_iload F dX12_goesPlacings_218 (q := 0) rfl ?_
                    refine z_if_eq (tgt := 235) F dX12_goesPlacings_220 (by decide +kernel) (by omega) (fun c181 => by exfalso; omega) (fun c181 => ?_)
                    refine z_iload_n F dX12_goesPlacings_223 rfl (q := 4) rfl ?_
                    refine z_aload_n F dX12_goesPlacings_224 rfl (q := 1) rfl ?_
                    refine z_iload_n F dX12_goesPlacings_225 rfl (q := 2) rfl ?_
                    refine z_iload F dX12_goesPlacings_226 (q := 5) rfl ?_
                    refine zv_i (rest := [ii x2, ii v177, ii (x0 + 1), .ref (ad 131)]) F (k_X12_minutesOf l M175 ⟨hI, hW⟩ x0 (by omega) (by omega) y119 (by omega) (by omega)) cs_X12_358 (T := TX12) (N := 44) (ci := 12) rfl gs_131 (by omega) (by decide) rfl rfl rfl (Nat.le_of_ble_eq_true rfl) dX12_goesPlacings_228 (fun v182 M183 rv182 hI p184 => ?_)
                    obtain ⟨hI, hW⟩ := hI
                    obtain ⟨⟨av182, bv182⟩, rfl⟩ := p184
                    refine z_iadd F dX12_goesPlacings_231 ?_
                    refine z_wrap (fun v185 rv185 wv185 => ?_)
                    refine z_goto (tgt := 236) F dX12_goesPlacings_232 (by decide +kernel) ?_
                    refine zv_v (rest := []) F (ih M175 ⟨hI, hW⟩ (x0 + 1) (by omega) (by omega) v177 (by omega) (by omega) v185 (by omega) (by omega) (by have := hF.at (a := 132) (b := 2) (by decide); omega) (by omega)) cs_X12_452 (T := TX12) (N := 44) (ci := 12) rfl gs_131 (by omega) (by decide) rfl rfl rfl (Nat.le_of_ble_eq_true rfl) dX12_goesPlacings_236 (fun M186 hI p187 => ?_)
                    obtain ⟨hI, hW⟩ := hI
                    have fp187 := p187
                    have hF := hF.call fp187 (by decide)
                    refine z_iincN F dX12_goesPlacings_239 (q := 5) rfl (by decide) (fun v188 ev188 => ?_)
                    refine z_eq (ls' := [(4, ii v188), (5, ii 1), (0, .ref (ad 131)), (1, ii x0), (2, ii x1), (3, ii x2)]) rfl rfl rfl ?_
                    refine z_goto (tgt := 118) F dX12_goesPlacings_242 (by decide +kernel) ?_
                    refine z_loc [2, 3, 4, 5, 0] (ls' := [(0, .ref (ad 131)), (1, ii x0), (2, ii x1), (3, ii x2), (4, ii v188)]) rfl ?_
                    exact ih118 v188 M186 hI hW hF (by omega) (by omega) (by omega)
                  · refine z_goto (tgt := 239) F dX12_goesPlacings_184 (by decide +kernel) ?_
                    refine z_iincN F dX12_goesPlacings_239 (q := 5) rfl (by decide) (fun v189 ev189 => ?_)
                    refine z_eq (ls' := [(4, ii v189), (5, ii 1), (0, .ref (ad 131)), (1, ii x0), (2, ii x1), (3, ii x2)]) rfl rfl rfl ?_
                    refine z_goto (tgt := 118) F dX12_goesPlacings_242 (by decide +kernel) ?_
                    refine z_loc [2, 3, 4, 5, 0] (ls' := [(0, .ref (ad 131)), (1, ii x0), (2, ii x1), (3, ii x2), (4, ii v189)]) rfl ?_
                    exact ih118 v189 M125 hI hW hF (by omega) (by omega) (by omega)
            · refine z_goto (tgt := 239) F dX12_goesPlacings_137 (by decide +kernel) ?_
              refine z_iincN F dX12_goesPlacings_239 (q := 4) rfl (by decide) (fun v190 ev190 => ?_)
              refine z_eq (ls' := [(4, ii v190), (0, .ref (ad 131)), (1, ii x0), (2, ii x1), (3, ii x2)]) rfl rfl rfl ?_
              refine z_goto (tgt := 118) F dX12_goesPlacings_242 (by decide +kernel) ?_
              refine z_loc [1, 2, 3, 4, 0] (ls' := [(0, .ref (ad 131)), (1, ii x0), (2, ii x1), (3, ii x2), (4, ii v190)]) rfl ?_
              exact ih118 v190 M125 hI hW hF (by omega) (by omega) (by omega)
      · refine z_aload_n F dX12_goesPlacings_47 rfl (q := 0) rfl ?_
        refine gf_X12_433 F hI gs_131 rfl bd_131_26 dX12_goesPlacings_48 (fun v191 ev191 av191 bv191 => ?_)
        have zv191 : v1 = v191 := ev1.trans ev191.symm
        subst zv191
        refine z_if_ne (tgt := 65) F dX12_goesPlacings_51 (by decide +kernel) (by omega) (fun c192 => ?_) (fun c192 => by exfalso; omega)
        refine z_iconst F dX12_goesPlacings_65 ?_
        refine z_istore F dX12_goesPlacings_66 (by decide) (ls' := [(4, ii 0), (0, .ref (ad 131)), (1, ii x0), (2, ii x1), (3, ii x2)]) rfl ?_
        refine z_loc [1, 2, 3, 4, 0] (ls' := [(0, .ref (ad 131)), (1, ii x0), (2, ii x1), (3, ii x2), (4, ii 0)]) rfl ?_
        suffices key68 : ∀ (n : Nat) (y194 : Int) (M193 : Mem), Inv M193 → WFk M193 → Fr [131, 137, 139, 140] M M193 → 0 ≤ y194 → y194 ≤ 8 → 8 - y194 < (n : Int) → Z D cy ad p l e (RMh (6 + (nr + 1))) s m args below meth c A 6 0 0 Q 68 [(0, .ref (ad 131)), (1, ii x0), (2, ii x1), (3, ii x2), (4, ii y194)] [] M193 from key68 9 0 M hI hW hF (by omega) (by omega) (by omega)
        intro n68
        induction n68 with
        | zero => intro y194 M193 hI hW hF ay194 by194 hn68; exfalso; omega
        | succ n68 ih68 =>
          intro y194 M193 hI hW hF ay194 by194 hn68
          refine z_iload F dX12_goesPlacings_68 (q := 4) rfl ?_
          refine z_iload_n F dX12_goesPlacings_70 rfl (q := 1) rfl ?_
          refine z_icmp_ge (tgt := 94) F dX12_goesPlacings_71 (by decide +kernel) (by omega) (by omega) (fun c195 => ?_) (fun c195 => ?_)
          · refine z_aload_n F dX12_goesPlacings_94 rfl (q := 0) rfl ?_
            refine z_iload_n F dX12_goesPlacings_95 rfl (q := 2) rfl ?_
            refine pf_X12_440 F hI gs_131 rfl bd_131_24 rfl rfl dX12_goesPlacings_96 (by omega) (by omega) (fun M197 hI sf196 f196 => ?_)
            have hF := hF.wrf f196 (by decide) (by decide)
            have hW : WFk M197 := hW.site f196 (by decide)
            refine z_aload_n F dX12_goesPlacings_99 rfl (q := 0) rfl ?_
            refine z_iload_n F dX12_goesPlacings_100 rfl (q := 3) rfl ?_
            refine pf_X12_443 F hI gs_131 rfl bd_131_25 rfl rfl dX12_goesPlacings_101 (by omega) (by omega) (fun M199 hI sf198 f198 => ?_)
            have hF := hF.wrf f198 (by decide) (by decide)
            have hW : WFk M199 := hW.site f198 (by decide)
            refine z_aload_n F dX12_goesPlacings_104 rfl (q := 0) rfl ?_
            refine z_dup F dX12_goesPlacings_105 rfl ?_
            refine gf_X12_437 F hI gs_131 rfl bd_131_22 dX12_goesPlacings_106 (fun v200 ev200 av200 bv200 => ?_)
            refine z_iconst F dX12_goesPlacings_109 ?_
            refine z_iadd F dX12_goesPlacings_110 ?_
            refine z_wrap (fun v201 rv201 wv201 => ?_)
            refine pf_X12_437 F hI gs_131 rfl bd_131_22 rfl rfl dX12_goesPlacings_111 (by omega) (by omega) (fun M203 hI sf202 f202 => ?_)
            have hF := hF.wrf f202 (by decide) (by decide)
            have hW : WFk M203 := hW.site f202 (by decide)
            exact hret _ 114 _ ⟨hI, hW⟩ hF dX12_goesPlacings_114
          · refine z_aload_n F dX12_goesPlacings_74 rfl (q := 0) rfl ?_
            refine rf_X12_39 F gs_131 rfl dX12_goesPlacings_75 ?_
            refine z_iload F dX12_goesPlacings_78 (q := 4) rfl ?_
            refine z_aload_n F dX12_goesPlacings_80 rfl (q := 0) rfl ?_
            refine rf_X12_36 F gs_131 rfl dX12_goesPlacings_81 ?_
            refine z_iload F dX12_goesPlacings_84 (q := 4) rfl ?_
            refine z_iald F hI gs_139 (by omega) (by omega) (by decide) bd_139 dX12_goesPlacings_86 (fun v204 (ev204 : v204 = M193 139 _) av204 bv204 => ?_)
            refine z_iast F hI gs_140 (by omega) (by omega) (by decide) bd_140 dX12_goesPlacings_87 (by omega) (by omega) (fun M206 hI sf205 f205 => ?_)
            have hF := hF.wr f205 (by decide) (by decide)
            have hW : WFk M206 := hW.site f205 (by decide)
            refine z_iincN F dX12_goesPlacings_88 (q := 4) rfl (by decide) (fun v207 ev207 => ?_)
            refine z_eq (ls' := [(4, ii v207), (0, .ref (ad 131)), (1, ii x0), (2, ii x1), (3, ii x2)]) rfl rfl rfl ?_
            refine z_goto (tgt := 68) F dX12_goesPlacings_91 (by decide +kernel) ?_
            refine z_loc [1, 2, 3, 4, 0] (ls' := [(0, .ref (ad 131)), (1, ii x0), (2, ii x1), (3, ii x2), (4, ii v207)]) rfl ?_
            exact ih68 v207 M206 hI hW hF (by omega) (by omega) (by omega)
    · refine z_iload_n F dX12_goesPlacings_14 rfl (q := 2) rfl ?_
      refine z_aload_n F dX12_goesPlacings_15 rfl (q := 0) rfl ?_
      refine gf_X12_440 F hI gs_131 rfl bd_131_24 dX12_goesPlacings_16 (fun v208 ev208 av208 bv208 => ?_)
      refine z_icmp_gt (tgt := 38) F dX12_goesPlacings_19 (by decide +kernel) (by omega) (by omega) (fun c209 => ?_) (fun c209 => ?_)
      · exact hret _ 38 _ ⟨hI, hW⟩ hF dX12_goesPlacings_38
      · refine z_iload_n F dX12_goesPlacings_22 rfl (q := 2) rfl ?_
        refine z_aload_n F dX12_goesPlacings_23 rfl (q := 0) rfl ?_
        refine gf_X12_440 F hI gs_131 rfl bd_131_24 dX12_goesPlacings_24 (fun v210 ev210 av210 bv210 => ?_)
        have zv210 : v208 = v210 := ev208.trans ev210.symm
        subst zv210
        refine z_icmp_ne (tgt := 39) F dX12_goesPlacings_27 (by decide +kernel) (by omega) (by omega) (fun c211 => ?_) (fun c211 => ?_)
        · refine z_iload_n F dX12_goesPlacings_39 rfl (q := 1) rfl ?_
          refine z_aload_n F dX12_goesPlacings_40 rfl (q := 0) rfl ?_
          refine zv_i (rest := [ii x0]) F (k_X12_things l M ⟨hI, hW⟩) cs_X12_275 (T := TX12) (N := 44) (ci := 12) rfl gs_131 (by omega) (by decide) rfl rfl rfl (Nat.le_of_ble_eq_true rfl) dX12_goesPlacings_41 (fun v212 M213 rv212 hI p214 => ?_)
          obtain ⟨hI, hW⟩ := hI
          obtain ⟨⟨av212, bv212⟩, rfl, xp214⟩ := p214
          refine z_icmp_ne (tgt := 115) F dX12_goesPlacings_44 (by decide +kernel) (by omega) (by omega) (fun c215 => ?_) (fun c215 => ?_)
          · have k216 : 0 ≤ x0 ∧ x0 ≤ 7 := by omega
            refine z_iconst F dX12_goesPlacings_115 ?_
            refine z_istore F dX12_goesPlacings_116 (by decide) (ls' := [(4, ii 0), (0, .ref (ad 131)), (1, ii x0), (2, ii x1), (3, ii x2)]) rfl ?_
            refine z_loc [1, 2, 3, 4, 0] (ls' := [(0, .ref (ad 131)), (1, ii x0), (2, ii x1), (3, ii x2), (4, ii 0)]) rfl ?_
            suffices key118 : ∀ (n : Nat) (y218 : Int) (M217 : Mem), Inv M217 → WFk M217 → Fr [131, 137, 139, 140] M M217 → 0 ≤ y218 → y218 ≤ 10 → 10 - y218 < (n : Int) → Z D cy ad p l e (RMh (6 + (nr + 1))) s m args below meth c A 6 0 0 Q 118 [(0, .ref (ad 131)), (1, ii x0), (2, ii x1), (3, ii x2), (4, ii y218)] [] M217 from key118 11 0 M hI hW hF (by omega) (by omega) (by omega)
            intro n118
            induction n118 with
            | zero => intro y218 M217 hI hW hF ay218 by218 hn118; exfalso; omega
            | succ n118 ih118 =>
              intro y218 M217 hI hW hF ay218 by218 hn118
              refine z_iload F dX12_goesPlacings_118 (q := 4) rfl ?_
              refine z_aload_n F dX12_goesPlacings_120 rfl (q := 0) rfl ?_
              refine zv_i (rest := [ii y218]) F (k_X12_places l M217 ⟨hI, hW⟩) cs_X12_273 (T := TX12) (N := 44) (ci := 12) rfl gs_131 (by omega) (by decide) rfl rfl rfl (Nat.le_of_ble_eq_true rfl) dX12_goesPlacings_121 (fun v219 M220 rv219 hI p221 => ?_)
              obtain ⟨hI, hW⟩ := hI
              obtain ⟨⟨av219, bv219⟩, rfl, xp221⟩ := p221
              refine z_icmp_ge (tgt := 245) F dX12_goesPlacings_124 (by decide +kernel) (by omega) (by omega) (fun c222 => ?_) (fun c222 => ?_)
              · exact hret _ 245 _ ⟨hI, hW⟩ hF dX12_goesPlacings_245
              · refine z_aload_n F dX12_goesPlacings_127 rfl (q := 0) rfl ?_
                refine z_iload_n F dX12_goesPlacings_128 rfl (q := 1) rfl ?_
                refine z_iload F dX12_goesPlacings_129 (q := 4) rfl ?_
                refine zv_i (rest := []) F (k_X12_fits l M217 ⟨hI, hW⟩ x0 (by omega) (by omega) y218 (by omega) (by omega)) cs_X12_449 (T := TX12) (N := 44) (ci := 12) rfl gs_131 (by omega) (by decide) rfl rfl rfl (Nat.le_of_ble_eq_true rfl) dX12_goesPlacings_131 (fun v223 M224 rv223 hI p225 => ?_)
                obtain ⟨hI, hW⟩ := hI
                obtain ⟨⟨av223, bv223⟩, fp225⟩ := p225
                have hF := hF.call fp225 (by decide)
                refine z_if_ne (tgt := 140) F dX12_goesPlacings_134 (by decide +kernel) (by omega) (fun c226 => ?_) (fun c226 => ?_)
                · refine z_iload F dX12_goesPlacings_140 (q := 4) rfl ?_
                  refine z_aload_n F dX12_goesPlacings_142 rfl (q := 0) rfl ?_
                  refine z_iload_n F dX12_goesPlacings_143 rfl (q := 1) rfl ?_
                  refine zv_i (rest := [ii y218]) F (k_X12_lies l M224 ⟨hI, hW⟩ x0 (by omega) (by omega)) cs_X12_317 (T := TX12) (N := 44) (ci := 12) rfl gs_131 (by omega) (by decide) rfl rfl rfl (Nat.le_of_ble_eq_true rfl) dX12_goesPlacings_144 (fun v227 M228 rv227 hI p229 => ?_)
                  obtain ⟨hI, hW⟩ := hI
                  obtain ⟨⟨av227, bv227⟩, rfl⟩ := p229
                  refine z_icmp_eq (tgt := 154) F dX12_goesPlacings_147 (by decide +kernel) (by omega) (by omega) (fun c230 => ?_) (fun c230 => ?_)
                  · refine z_iconst F dX12_goesPlacings_154 ?_
                    refine z_istore F dX12_goesPlacings_155 (by decide) (ls' := [(5, ii 0), (0, .ref (ad 131)), (1, ii x0), (2, ii x1), (3, ii x2), (4, ii y218)]) rfl ?_
                    refine z_aload_n F dX12_goesPlacings_157 rfl (q := 1) rfl ?_
                    refine gf_X12_433 F hI gs_131 rfl bd_131_26 dX12_goesPlacings_158 (fun v231 ev231 av231 bv231 => ?_)
                    refine z_if_eq (tgt := 187) F dX12_goesPlacings_161 (by decide +kernel) (by omega) (fun c232 => ?_) (fun c232 => ?_)
                    · refine z_aload_n F dX12_goesPlacings_187 rfl (q := 1) rfl ?_
                      refine rf_X12_36 F gs_131 rfl dX12_goesPlacings_188 ?_
                      refine z_iload_n F dX12_goesPlacings_191 rfl (q := 2) rfl ?_
                      refine z_iload F dX12_goesPlacings_192 (q := 5) rfl ?_
                      refine z_iast F hI gs_139 (by omega) (by omega) (by decide) bd_139 dX12_goesPlacings_194 (by omega) (by omega) (fun M234 hI sf233 f233 => ?_)
                      have hF := hF.wr f233 (by decide) (by decide)
                      have hW : WFk M234 := hW.site f233 (by decide)
                      refine z_aload_n F dX12_goesPlacings_195 rfl (q := 1) rfl ?_
                      refine z_iload_n F dX12_goesPlacings_196 rfl (q := 2) rfl ?_
                      refine z_iconst F dX12_goesPlacings_197 ?_
                      refine z_iadd F dX12_goesPlacings_198 ?_
                      refine z_iload_n F dX12_goesPlacings_199 rfl (q := 3) rfl ?_
                      refine z_iload F dX12_goesPlacings_200 (q := 0) rfl ?_
                      refine z_if_eq (tgt := 209) F dX12_goesPlacings_202 (by decide +kernel) (by omega) (fun c235 => ?_) (fun c235 => by exfalso; omega)
                      refine z_iconst F dX12_goesPlacings_209 ?_
                      refine z_iadd F dX12_goesPlacings_210 ?_
                      refine z_aload_n F dX12_goesPlacings_211 rfl (q := 1) rfl ?_
                      refine gf_X12_433 F hI gs_131 rfl bd_131_26 dX12_goesPlacings_212 (fun v236 ev236 av236 bv236 => ?_)
                      have q237 : v231 = M234 131 26 := ev231.trans (f233 131 26 (fun q => absurd q.1 (by decide))).symm
                      have zv236 : v231 = v236 := q237.trans ev236.symm
                      subst zv236
                      refine z_if_eq (tgt := 235) F dX12_goesPlacings_215 (by decide +kernel) (by omega) (fun c238 => ?_) (fun c238 => by exfalso; omega)
                      refine z_iload_n F dX12_goesPlacings_235 rfl (q := 4) rfl ?_
                      refine zv_v (rest := []) F (ih M234 ⟨hI, hW⟩ (x0 + 1) (by omega) (by omega) (x1 + 0) (by omega) (by omega) x2 (by omega) (by omega) (by have := hF.at (a := 132) (b := 2) (by decide); omega) (by omega)) cs_X12_452 (T := TX12) (N := 44) (ci := 12) rfl gs_131 (by omega) (by decide) rfl rfl rfl (Nat.le_of_ble_eq_true rfl) dX12_goesPlacings_236 (fun M239 hI p240 => ?_)
                      obtain ⟨hI, hW⟩ := hI
                      have fp240 := p240
                      have hF := hF.call fp240 (by decide)
                      refine z_iincN F dX12_goesPlacings_239 (q := 5) rfl (by decide) (fun v241 ev241 => ?_)
                      refine z_eq (ls' := [(4, ii v241), (5, ii 0), (0, .ref (ad 131)), (1, ii x0), (2, ii x1), (3, ii x2)]) rfl rfl rfl ?_
                      refine z_goto (tgt := 118) F dX12_goesPlacings_242 (by decide +kernel) ?_
                      refine z_loc [2, 3, 4, 5, 0] (ls' := [(0, .ref (ad 131)), (1, ii x0), (2, ii x1), (3, ii x2), (4, ii v241)]) rfl ?_
                      exact ih118 v241 M239 hI hW hF (by omega) (by omega) (by omega)
                    · refine z_iload F dX12_goesPlacings_164 (q := 0) rfl ?_
                      refine z_if_eq (tgt := 187) F dX12_goesPlacings_166 (by decide +kernel) (by omega) (fun c242 => ?_) (fun c242 => by exfalso; omega)
                      refine z_aload_n F dX12_goesPlacings_187 rfl (q := 1) rfl ?_
                      refine rf_X12_36 F gs_131 rfl dX12_goesPlacings_188 ?_
                      refine z_iload_n F dX12_goesPlacings_191 rfl (q := 2) rfl ?_
                      refine z_iload F dX12_goesPlacings_192 (q := 5) rfl ?_
                      refine z_iast F hI gs_139 (by omega) (by omega) (by decide) bd_139 dX12_goesPlacings_194 (by omega) (by omega) (fun M244 hI sf243 f243 => ?_)
                      have hF := hF.wr f243 (by decide) (by decide)
                      have hW : WFk M244 := hW.site f243 (by decide)
                      refine z_aload_n F dX12_goesPlacings_195 rfl (q := 1) rfl ?_
                      refine z_iload_n F dX12_goesPlacings_196 rfl (q := 2) rfl ?_
                      refine z_iconst F dX12_goesPlacings_197 ?_
                      refine z_iadd F dX12_goesPlacings_198 ?_
                      refine z_iload_n F dX12_goesPlacings_199 rfl (q := 3) rfl ?_
                      refine z_iload F dX12_goesPlacings_200 (q := 0) rfl ?_
                      refine z_if_eq (tgt := 209) F dX12_goesPlacings_202 (by decide +kernel) (by omega) (fun c245 => ?_) (fun c245 => by exfalso; omega)
                      refine z_iconst F dX12_goesPlacings_209 ?_
                      refine z_iadd F dX12_goesPlacings_210 ?_
                      refine z_aload_n F dX12_goesPlacings_211 rfl (q := 1) rfl ?_
                      refine gf_X12_433 F hI gs_131 rfl bd_131_26 dX12_goesPlacings_212 (fun v246 ev246 av246 bv246 => ?_)
                      have q247 : v231 = M244 131 26 := ev231.trans (f243 131 26 (fun q => absurd q.1 (by decide))).symm
                      have zv246 : v231 = v246 := q247.trans ev246.symm
                      subst zv246
                      refine z_if_eq (tgt := 235) F dX12_goesPlacings_215 (by decide +kernel) (by omega) (fun c248 => by exfalso; omega) (fun c248 => ?_)
                      refine z_iload F dX12_goesPlacings_218 (q := 0) rfl ?_
                      refine z_if_eq (tgt := 235) F dX12_goesPlacings_220 (by decide +kernel) (by omega) (fun c249 => ?_) (fun c249 => by exfalso; omega)
                      refine z_iload_n F dX12_goesPlacings_235 rfl (q := 4) rfl ?_
                      refine zv_v (rest := []) F (ih M244 ⟨hI, hW⟩ (x0 + 1) (by omega) (by omega) (x1 + 0) (by omega) (by omega) x2 (by omega) (by omega) (by have := hF.at (a := 132) (b := 2) (by decide); omega) (by omega)) cs_X12_452 (T := TX12) (N := 44) (ci := 12) rfl gs_131 (by omega) (by decide) rfl rfl rfl (Nat.le_of_ble_eq_true rfl) dX12_goesPlacings_236 (fun M250 hI p251 => ?_)
                      obtain ⟨hI, hW⟩ := hI
                      have fp251 := p251
                      have hF := hF.call fp251 (by decide)
                      refine z_iincN F dX12_goesPlacings_239 (q := 5) rfl (by decide) (fun v252 ev252 => ?_)
                      refine z_eq (ls' := [(4, ii v252), (5, ii 0), (0, .ref (ad 131)), (1, ii x0), (2, ii x1), (3, ii x2)]) rfl rfl rfl ?_
                      refine z_goto (tgt := 118) F dX12_goesPlacings_242 (by decide +kernel) ?_
                      refine z_loc [2, 3, 4, 5, 0] (ls' := [(0, .ref (ad 131)), (1, ii x0), (2, ii x1), (3, ii x2), (4, ii v252)]) rfl ?_
                      exact ih118 v252 M250 hI hW hF (by omega) (by omega) (by omega)
                  · refine z_iconst F dX12_goesPlacings_150 ?_
                    refine z_goto (tgt := 155) F dX12_goesPlacings_151 (by decide +kernel) ?_
                    refine z_istore F dX12_goesPlacings_155 (by decide) (ls' := [(5, ii 1), (0, .ref (ad 131)), (1, ii x0), (2, ii x1), (3, ii x2), (4, ii y218)]) rfl ?_
                    refine z_aload_n F dX12_goesPlacings_157 rfl (q := 1) rfl ?_
                    refine gf_X12_433 F hI gs_131 rfl bd_131_26 dX12_goesPlacings_158 (fun v253 ev253 av253 bv253 => ?_)
                    refine z_if_eq (tgt := 187) F dX12_goesPlacings_161 (by decide +kernel) (by omega) (fun c254 => ?_) (fun c254 => ?_)
                    · refine z_aload_n F dX12_goesPlacings_187 rfl (q := 1) rfl ?_
                      refine rf_X12_36 F gs_131 rfl dX12_goesPlacings_188 ?_
                      refine z_iload_n F dX12_goesPlacings_191 rfl (q := 2) rfl ?_
                      refine z_iload F dX12_goesPlacings_192 (q := 5) rfl ?_
                      refine z_iast F hI gs_139 (by omega) (by omega) (by decide) bd_139 dX12_goesPlacings_194 (by omega) (by omega) (fun M256 hI sf255 f255 => ?_)
                      have hF := hF.wr f255 (by decide) (by decide)
                      have hW : WFk M256 := hW.site f255 (by decide)
                      refine z_aload_n F dX12_goesPlacings_195 rfl (q := 1) rfl ?_
                      refine z_iload_n F dX12_goesPlacings_196 rfl (q := 2) rfl ?_
                      refine z_iconst F dX12_goesPlacings_197 ?_
                      refine z_iadd F dX12_goesPlacings_198 ?_
                      refine z_iload_n F dX12_goesPlacings_199 rfl (q := 3) rfl ?_
                      refine z_iload F dX12_goesPlacings_200 (q := 0) rfl ?_
                      refine z_if_eq (tgt := 209) F dX12_goesPlacings_202 (by decide +kernel) (by omega) (fun c257 => by exfalso; omega) (fun c257 => ?_)
                      refine z_iconst F dX12_goesPlacings_205 ?_
                      refine z_goto (tgt := 210) F dX12_goesPlacings_206 (by decide +kernel) ?_
                      refine z_iadd F dX12_goesPlacings_210 ?_
                      refine z_wrap (fun v258 rv258 wv258 => ?_)
                      refine z_aload_n F dX12_goesPlacings_211 rfl (q := 1) rfl ?_
                      refine gf_X12_433 F hI gs_131 rfl bd_131_26 dX12_goesPlacings_212 (fun v259 ev259 av259 bv259 => ?_)
                      have q260 : v253 = M256 131 26 := ev253.trans (f255 131 26 (fun q => absurd q.1 (by decide))).symm
                      have zv259 : v253 = v259 := q260.trans ev259.symm
                      subst zv259
                      refine z_if_eq (tgt := 235) F dX12_goesPlacings_215 (by decide +kernel) (by omega) (fun c261 => ?_) (fun c261 => by exfalso; omega)
                      refine z_iload_n F dX12_goesPlacings_235 rfl (q := 4) rfl ?_
                      refine zv_v (rest := []) F (ih M256 ⟨hI, hW⟩ (x0 + 1) (by omega) (by omega) v258 (by omega) (by omega) x2 (by omega) (by omega) (by have := hF.at (a := 132) (b := 2) (by decide); omega) (by omega)) cs_X12_452 (T := TX12) (N := 44) (ci := 12) rfl gs_131 (by omega) (by decide) rfl rfl rfl (Nat.le_of_ble_eq_true rfl) dX12_goesPlacings_236 (fun M262 hI p263 => ?_)
                      obtain ⟨hI, hW⟩ := hI
                      have fp263 := p263
                      have hF := hF.call fp263 (by decide)
                      refine z_iincN F dX12_goesPlacings_239 (q := 5) rfl (by decide) (fun v264 ev264 => ?_)
                      refine z_eq (ls' := [(4, ii v264), (5, ii 1), (0, .ref (ad 131)), (1, ii x0), (2, ii x1), (3, ii x2)]) rfl rfl rfl ?_
                      refine z_goto (tgt := 118) F dX12_goesPlacings_242 (by decide +kernel) ?_
                      refine z_loc [2, 3, 4, 5, 0] (ls' := [(0, .ref (ad 131)), (1, ii x0), (2, ii x1), (3, ii x2), (4, ii v264)]) rfl ?_
                      exact ih118 v264 M262 hI hW hF (by omega) (by omega) (by omega)
                    · refine z_iload F dX12_goesPlacings_164 (q := 0) rfl ?_
                      refine z_if_eq (tgt := 187) F dX12_goesPlacings_166 (by decide +kernel) (by omega) (fun c265 => by exfalso; omega) (fun c265 => ?_)
                      refine z_aload_n F dX12_goesPlacings_169 rfl (q := 1) rfl ?_
                      refine z_aload_n F dX12_goesPlacings_170 rfl (q := 1) rfl ?_
                      refine z_iload_n F dX12_goesPlacings_171 rfl (q := 2) rfl ?_
                      refine zv_i (rest := [.ref (ad 131)]) F (k_X12_lies l M224 ⟨hI, hW⟩ x0 (by omega) (by omega)) cs_X12_317 (T := TX12) (N := 44) (ci := 12) rfl gs_131 (by omega) (by decide) rfl rfl rfl (Nat.le_of_ble_eq_true rfl) dX12_goesPlacings_172 (fun v266 M267 rv266 hI p268 => ?_)
                      obtain ⟨hI, hW⟩ := hI
                      obtain ⟨⟨av266, bv266⟩, rfl⟩ := p268
                      refine z_iload F dX12_goesPlacings_175 (q := 5) rfl ?_
                      refine zv_i (rest := []) F (k_X12_stepsOf l M224 ⟨hI, hW⟩ v266 (by omega) (by omega) y218 (by omega) (by omega)) cs_X12_349 (T := TX12) (N := 44) (ci := 12) rfl gs_131 (by omega) (by decide) rfl rfl rfl (Nat.le_of_ble_eq_true rfl) dX12_goesPlacings_177 (fun v269 M270 rv269 hI p271 => ?_)
                      obtain ⟨hI, hW⟩ := hI
                      obtain ⟨⟨av269, bv269⟩, rfl⟩ := p271
                      refine z_iconst F dX12_goesPlacings_180 ?_
                      refine z_icmp_ne (tgt := 187) F dX12_goesPlacings_181 (by decide +kernel) (by omega) (by omega) (fun c272 => ?_) (fun c272 => ?_)
                      · refine z_aload_n F dX12_goesPlacings_187 rfl (q := 1) rfl ?_
                        refine rf_X12_36 F gs_131 rfl dX12_goesPlacings_188 ?_
                        refine z_iload_n F dX12_goesPlacings_191 rfl (q := 2) rfl ?_
                        refine z_iload F dX12_goesPlacings_192 (q := 5) rfl ?_
                        refine z_iast F hI gs_139 (by omega) (by omega) (by decide) bd_139 dX12_goesPlacings_194 (by omega) (by omega) (fun M274 hI sf273 f273 => ?_)
                        have hF := hF.wr f273 (by decide) (by decide)
                        have hW : WFk M274 := hW.site f273 (by decide)
                        refine z_aload_n F dX12_goesPlacings_195 rfl (q := 1) rfl ?_
                        refine z_iload_n F dX12_goesPlacings_196 rfl (q := 2) rfl ?_
                        refine z_iconst F dX12_goesPlacings_197 ?_
                        refine z_iadd F dX12_goesPlacings_198 ?_
                        refine z_iload_n F dX12_goesPlacings_199 rfl (q := 3) rfl ?_
                        refine z_iload F dX12_goesPlacings_200 (q := 0) rfl ?_
                        refine z_if_eq (tgt := 209) F dX12_goesPlacings_202 (by decide +kernel) (by omega) (fun c275 => by exfalso; omega) (fun c275 => ?_)
                        refine z_iconst F dX12_goesPlacings_205 ?_
                        refine z_goto (tgt := 210) F dX12_goesPlacings_206 (by decide +kernel) ?_
                        refine z_iadd F dX12_goesPlacings_210 ?_
                        refine z_wrap (fun v276 rv276 wv276 => ?_)
                        refine z_aload_n F dX12_goesPlacings_211 rfl (q := 1) rfl ?_
                        refine gf_X12_433 F hI gs_131 rfl bd_131_26 dX12_goesPlacings_212 (fun v277 ev277 av277 bv277 => ?_)
                        have q278 : v253 = M274 131 26 := ev253.trans (f273 131 26 (fun q => absurd q.1 (by decide))).symm
                        have zv277 : v253 = v277 := q278.trans ev277.symm
                        subst zv277
                        refine z_if_eq (tgt := 235) F dX12_goesPlacings_215 (by decide +kernel) (by omega) (fun c279 => by exfalso; omega) (fun c279 => ?_)
                        refine z_iload F dX12_goesPlacings_218 (q := 0) rfl ?_
                        refine z_if_eq (tgt := 235) F dX12_goesPlacings_220 (by decide +kernel) (by omega) (fun c280 => by exfalso; omega) (fun c280 => ?_)
                        refine z_iload_n F dX12_goesPlacings_223 rfl (q := 4) rfl ?_
                        refine z_aload_n F dX12_goesPlacings_224 rfl (q := 1) rfl ?_
                        refine z_iload_n F dX12_goesPlacings_225 rfl (q := 2) rfl ?_
                        refine z_iload F dX12_goesPlacings_226 (q := 5) rfl ?_
                        refine zv_i (rest := [ii x2, ii v276, ii (x0 + 1), .ref (ad 131)]) F (k_X12_minutesOf l M274 ⟨hI, hW⟩ x0 (by omega) (by omega) y218 (by omega) (by omega)) cs_X12_358 (T := TX12) (N := 44) (ci := 12) rfl gs_131 (by omega) (by decide) rfl rfl rfl (Nat.le_of_ble_eq_true rfl) dX12_goesPlacings_228 (fun v281 M282 rv281 hI p283 => ?_)
                        obtain ⟨hI, hW⟩ := hI
                        obtain ⟨⟨av281, bv281⟩, rfl⟩ := p283
                        refine z_iadd F dX12_goesPlacings_231 ?_
                        refine z_wrap (fun v284 rv284 wv284 => ?_)
                        refine z_goto (tgt := 236) F dX12_goesPlacings_232 (by decide +kernel) ?_
                        refine zv_v (rest := []) F (ih M274 ⟨hI, hW⟩ (x0 + 1) (by omega) (by omega) v276 (by omega) (by omega) v284 (by omega) (by omega) (by have := hF.at (a := 132) (b := 2) (by decide); omega) (by omega)) cs_X12_452 (T := TX12) (N := 44) (ci := 12) rfl gs_131 (by omega) (by decide) rfl rfl rfl (Nat.le_of_ble_eq_true rfl) dX12_goesPlacings_236 (fun M285 hI p286 => ?_)
                        obtain ⟨hI, hW⟩ := hI
                        have fp286 := p286
                        have hF := hF.call fp286 (by decide)
                        refine z_iincN F dX12_goesPlacings_239 (q := 5) rfl (by decide) (fun v287 ev287 => ?_)
                        refine z_eq (ls' := [(4, ii v287), (5, ii 1), (0, .ref (ad 131)), (1, ii x0), (2, ii x1), (3, ii x2)]) rfl rfl rfl ?_
                        refine z_goto (tgt := 118) F dX12_goesPlacings_242 (by decide +kernel) ?_
                        refine z_loc [2, 3, 4, 5, 0] (ls' := [(0, .ref (ad 131)), (1, ii x0), (2, ii x1), (3, ii x2), (4, ii v287)]) rfl ?_
                        exact ih118 v287 M285 hI hW hF (by omega) (by omega) (by omega)
                      · refine z_goto (tgt := 239) F dX12_goesPlacings_184 (by decide +kernel) ?_
                        refine z_iincN F dX12_goesPlacings_239 (q := 5) rfl (by decide) (fun v288 ev288 => ?_)
                        refine z_eq (ls' := [(4, ii v288), (5, ii 1), (0, .ref (ad 131)), (1, ii x0), (2, ii x1), (3, ii x2)]) rfl rfl rfl ?_
                        refine z_goto (tgt := 118) F dX12_goesPlacings_242 (by decide +kernel) ?_
                        refine z_loc [2, 3, 4, 5, 0] (ls' := [(0, .ref (ad 131)), (1, ii x0), (2, ii x1), (3, ii x2), (4, ii v288)]) rfl ?_
                        exact ih118 v288 M224 hI hW hF (by omega) (by omega) (by omega)
                · refine z_goto (tgt := 239) F dX12_goesPlacings_137 (by decide +kernel) ?_
                  refine z_iincN F dX12_goesPlacings_239 (q := 4) rfl (by decide) (fun v289 ev289 => ?_)
                  refine z_eq (ls' := [(4, ii v289), (0, .ref (ad 131)), (1, ii x0), (2, ii x1), (3, ii x2)]) rfl rfl rfl ?_
                  refine z_goto (tgt := 118) F dX12_goesPlacings_242 (by decide +kernel) ?_
                  refine z_loc [1, 2, 3, 4, 0] (ls' := [(0, .ref (ad 131)), (1, ii x0), (2, ii x1), (3, ii x2), (4, ii v289)]) rfl ?_
                  exact ih118 v289 M224 hI hW hF (by omega) (by omega) (by omega)
          · refine z_aload_n F dX12_goesPlacings_47 rfl (q := 0) rfl ?_
            refine gf_X12_433 F hI gs_131 rfl bd_131_26 dX12_goesPlacings_48 (fun v290 ev290 av290 bv290 => ?_)
            have zv290 : v1 = v290 := ev1.trans ev290.symm
            subst zv290
            refine z_if_ne (tgt := 65) F dX12_goesPlacings_51 (by decide +kernel) (by omega) (fun c291 => ?_) (fun c291 => by exfalso; omega)
            refine z_iconst F dX12_goesPlacings_65 ?_
            refine z_istore F dX12_goesPlacings_66 (by decide) (ls' := [(4, ii 0), (0, .ref (ad 131)), (1, ii x0), (2, ii x1), (3, ii x2)]) rfl ?_
            refine z_loc [1, 2, 3, 4, 0] (ls' := [(0, .ref (ad 131)), (1, ii x0), (2, ii x1), (3, ii x2), (4, ii 0)]) rfl ?_
            suffices key68 : ∀ (n : Nat) (y293 : Int) (M292 : Mem), Inv M292 → WFk M292 → Fr [131, 137, 139, 140] M M292 → 0 ≤ y293 → y293 ≤ 8 → 8 - y293 < (n : Int) → Z D cy ad p l e (RMh (6 + (nr + 1))) s m args below meth c A 6 0 0 Q 68 [(0, .ref (ad 131)), (1, ii x0), (2, ii x1), (3, ii x2), (4, ii y293)] [] M292 from key68 9 0 M hI hW hF (by omega) (by omega) (by omega)
            intro n68
            induction n68 with
            | zero => intro y293 M292 hI hW hF ay293 by293 hn68; exfalso; omega
            | succ n68 ih68 =>
              intro y293 M292 hI hW hF ay293 by293 hn68
              refine z_iload F dX12_goesPlacings_68 (q := 4) rfl ?_
              refine z_iload_n F dX12_goesPlacings_70 rfl (q := 1) rfl ?_
              refine z_icmp_ge (tgt := 94) F dX12_goesPlacings_71 (by decide +kernel) (by omega) (by omega) (fun c294 => ?_) (fun c294 => ?_)
              · refine z_aload_n F dX12_goesPlacings_94 rfl (q := 0) rfl ?_
                refine z_iload_n F dX12_goesPlacings_95 rfl (q := 2) rfl ?_
                refine pf_X12_440 F hI gs_131 rfl bd_131_24 rfl rfl dX12_goesPlacings_96 (by omega) (by omega) (fun M296 hI sf295 f295 => ?_)
                have hF := hF.wrf f295 (by decide) (by decide)
                have hW : WFk M296 := hW.site f295 (by decide)
                refine z_aload_n F dX12_goesPlacings_99 rfl (q := 0) rfl ?_
                refine z_iload_n F dX12_goesPlacings_100 rfl (q := 3) rfl ?_
                refine pf_X12_443 F hI gs_131 rfl bd_131_25 rfl rfl dX12_goesPlacings_101 (by omega) (by omega) (fun M298 hI sf297 f297 => ?_)
                have hF := hF.wrf f297 (by decide) (by decide)
                have hW : WFk M298 := hW.site f297 (by decide)
                refine z_aload_n F dX12_goesPlacings_104 rfl (q := 0) rfl ?_
                refine z_dup F dX12_goesPlacings_105 rfl ?_
                refine gf_X12_437 F hI gs_131 rfl bd_131_22 dX12_goesPlacings_106 (fun v299 ev299 av299 bv299 => ?_)
                refine z_iconst F dX12_goesPlacings_109 ?_
                refine z_iadd F dX12_goesPlacings_110 ?_
                refine z_wrap (fun v300 rv300 wv300 => ?_)
                refine pf_X12_437 F hI gs_131 rfl bd_131_22 rfl rfl dX12_goesPlacings_111 (by omega) (by omega) (fun M302 hI sf301 f301 => ?_)
                have hF := hF.wrf f301 (by decide) (by decide)
                have hW : WFk M302 := hW.site f301 (by decide)
                exact hret _ 114 _ ⟨hI, hW⟩ hF dX12_goesPlacings_114
              · refine z_aload_n F dX12_goesPlacings_74 rfl (q := 0) rfl ?_
                refine rf_X12_39 F gs_131 rfl dX12_goesPlacings_75 ?_
                refine z_iload F dX12_goesPlacings_78 (q := 4) rfl ?_
                refine z_aload_n F dX12_goesPlacings_80 rfl (q := 0) rfl ?_
                refine rf_X12_36 F gs_131 rfl dX12_goesPlacings_81 ?_
                refine z_iload F dX12_goesPlacings_84 (q := 4) rfl ?_
                refine z_iald F hI gs_139 (by omega) (by omega) (by decide) bd_139 dX12_goesPlacings_86 (fun v303 (ev303 : v303 = M292 139 _) av303 bv303 => ?_)
                refine z_iast F hI gs_140 (by omega) (by omega) (by decide) bd_140 dX12_goesPlacings_87 (by omega) (by omega) (fun M305 hI sf304 f304 => ?_)
                have hF := hF.wr f304 (by decide) (by decide)
                have hW : WFk M305 := hW.site f304 (by decide)
                refine z_iincN F dX12_goesPlacings_88 (q := 4) rfl (by decide) (fun v306 ev306 => ?_)
                refine z_eq (ls' := [(4, ii v306), (0, .ref (ad 131)), (1, ii x0), (2, ii x1), (3, ii x2)]) rfl rfl rfl ?_
                refine z_goto (tgt := 68) F dX12_goesPlacings_91 (by decide +kernel) ?_
                refine z_loc [1, 2, 3, 4, 0] (ls' := [(0, .ref (ad 131)), (1, ii x0), (2, ii x1), (3, ii x2), (4, ii v306)]) rfl ?_
                exact ih68 v306 M305 hI hW hF (by omega) (by omega) (by omega)
        · refine z_iload_n F dX12_goesPlacings_30 rfl (q := 3) rfl ?_
          refine z_aload_n F dX12_goesPlacings_31 rfl (q := 0) rfl ?_
          refine gf_X12_443 F hI gs_131 rfl bd_131_25 dX12_goesPlacings_32 (fun v307 ev307 av307 bv307 => ?_)
          refine z_icmp_lt (tgt := 39) F dX12_goesPlacings_35 (by decide +kernel) (by omega) (by omega) (fun c308 => ?_) (fun c308 => ?_)
          · refine z_iload_n F dX12_goesPlacings_39 rfl (q := 1) rfl ?_
            refine z_aload_n F dX12_goesPlacings_40 rfl (q := 0) rfl ?_
            refine zv_i (rest := [ii x0]) F (k_X12_things l M ⟨hI, hW⟩) cs_X12_275 (T := TX12) (N := 44) (ci := 12) rfl gs_131 (by omega) (by decide) rfl rfl rfl (Nat.le_of_ble_eq_true rfl) dX12_goesPlacings_41 (fun v309 M310 rv309 hI p311 => ?_)
            obtain ⟨hI, hW⟩ := hI
            obtain ⟨⟨av309, bv309⟩, rfl, xp311⟩ := p311
            refine z_icmp_ne (tgt := 115) F dX12_goesPlacings_44 (by decide +kernel) (by omega) (by omega) (fun c312 => ?_) (fun c312 => ?_)
            · have k313 : 0 ≤ x0 ∧ x0 ≤ 7 := by omega
              refine z_iconst F dX12_goesPlacings_115 ?_
              refine z_istore F dX12_goesPlacings_116 (by decide) (ls' := [(4, ii 0), (0, .ref (ad 131)), (1, ii x0), (2, ii x1), (3, ii x2)]) rfl ?_
              refine z_loc [1, 2, 3, 4, 0] (ls' := [(0, .ref (ad 131)), (1, ii x0), (2, ii x1), (3, ii x2), (4, ii 0)]) rfl ?_
              suffices key118 : ∀ (n : Nat) (y315 : Int) (M314 : Mem), Inv M314 → WFk M314 → Fr [131, 137, 139, 140] M M314 → 0 ≤ y315 → y315 ≤ 10 → 10 - y315 < (n : Int) → Z D cy ad p l e (RMh (6 + (nr + 1))) s m args below meth c A 6 0 0 Q 118 [(0, .ref (ad 131)), (1, ii x0), (2, ii x1), (3, ii x2), (4, ii y315)] [] M314 from key118 11 0 M hI hW hF (by omega) (by omega) (by omega)
              intro n118
              induction n118 with
              | zero => intro y315 M314 hI hW hF ay315 by315 hn118; exfalso; omega
              | succ n118 ih118 =>
                intro y315 M314 hI hW hF ay315 by315 hn118
                refine z_iload F dX12_goesPlacings_118 (q := 4) rfl ?_
                refine z_aload_n F dX12_goesPlacings_120 rfl (q := 0) rfl ?_
                refine zv_i (rest := [ii y315]) F (k_X12_places l M314 ⟨hI, hW⟩) cs_X12_273 (T := TX12) (N := 44) (ci := 12) rfl gs_131 (by omega) (by decide) rfl rfl rfl (Nat.le_of_ble_eq_true rfl) dX12_goesPlacings_121 (fun v316 M317 rv316 hI p318 => ?_)
                obtain ⟨hI, hW⟩ := hI
                obtain ⟨⟨av316, bv316⟩, rfl, xp318⟩ := p318
                refine z_icmp_ge (tgt := 245) F dX12_goesPlacings_124 (by decide +kernel) (by omega) (by omega) (fun c319 => ?_) (fun c319 => ?_)
                · exact hret _ 245 _ ⟨hI, hW⟩ hF dX12_goesPlacings_245
                · refine z_aload_n F dX12_goesPlacings_127 rfl (q := 0) rfl ?_
                  refine z_iload_n F dX12_goesPlacings_128 rfl (q := 1) rfl ?_
                  refine z_iload F dX12_goesPlacings_129 (q := 4) rfl ?_
                  refine zv_i (rest := []) F (k_X12_fits l M314 ⟨hI, hW⟩ x0 (by omega) (by omega) y315 (by omega) (by omega)) cs_X12_449 (T := TX12) (N := 44) (ci := 12) rfl gs_131 (by omega) (by decide) rfl rfl rfl (Nat.le_of_ble_eq_true rfl) dX12_goesPlacings_131 (fun v320 M321 rv320 hI p322 => ?_)
                  obtain ⟨hI, hW⟩ := hI
                  obtain ⟨⟨av320, bv320⟩, fp322⟩ := p322
                  have hF := hF.call fp322 (by decide)
                  refine z_if_ne (tgt := 140) F dX12_goesPlacings_134 (by decide +kernel) (by omega) (fun c323 => ?_) (fun c323 => ?_)
                  · refine z_iload F dX12_goesPlacings_140 (q := 4) rfl ?_
                    refine z_aload_n F dX12_goesPlacings_142 rfl (q := 0) rfl ?_
                    refine z_iload_n F dX12_goesPlacings_143 rfl (q := 1) rfl ?_
                    refine zv_i (rest := [ii y315]) F (k_X12_lies l M321 ⟨hI, hW⟩ x0 (by omega) (by omega)) cs_X12_317 (T := TX12) (N := 44) (ci := 12) rfl gs_131 (by omega) (by decide) rfl rfl rfl (Nat.le_of_ble_eq_true rfl) dX12_goesPlacings_144 (fun v324 M325 rv324 hI p326 => ?_)
                    obtain ⟨hI, hW⟩ := hI
                    obtain ⟨⟨av324, bv324⟩, rfl⟩ := p326
                    refine z_icmp_eq (tgt := 154) F dX12_goesPlacings_147 (by decide +kernel) (by omega) (by omega) (fun c327 => ?_) (fun c327 => ?_)
                    · refine z_iconst F dX12_goesPlacings_154 ?_
                      refine z_istore F dX12_goesPlacings_155 (by decide) (ls' := [(5, ii 0), (0, .ref (ad 131)), (1, ii x0), (2, ii x1), (3, ii x2), (4, ii y315)]) rfl ?_
                      refine z_aload_n F dX12_goesPlacings_157 rfl (q := 1) rfl ?_
                      refine gf_X12_433 F hI gs_131 rfl bd_131_26 dX12_goesPlacings_158 (fun v328 ev328 av328 bv328 => ?_)
                      refine z_if_eq (tgt := 187) F dX12_goesPlacings_161 (by decide +kernel) (by omega) (fun c329 => ?_) (fun c329 => ?_)
                      · refine z_aload_n F dX12_goesPlacings_187 rfl (q := 1) rfl ?_
                        refine rf_X12_36 F gs_131 rfl dX12_goesPlacings_188 ?_
                        refine z_iload_n F dX12_goesPlacings_191 rfl (q := 2) rfl ?_
                        refine z_iload F dX12_goesPlacings_192 (q := 5) rfl ?_
                        refine z_iast F hI gs_139 (by omega) (by omega) (by decide) bd_139 dX12_goesPlacings_194 (by omega) (by omega) (fun M331 hI sf330 f330 => ?_)
                        have hF := hF.wr f330 (by decide) (by decide)
                        have hW : WFk M331 := hW.site f330 (by decide)
                        refine z_aload_n F dX12_goesPlacings_195 rfl (q := 1) rfl ?_
                        refine z_iload_n F dX12_goesPlacings_196 rfl (q := 2) rfl ?_
                        refine z_iconst F dX12_goesPlacings_197 ?_
                        refine z_iadd F dX12_goesPlacings_198 ?_
                        refine z_iload_n F dX12_goesPlacings_199 rfl (q := 3) rfl ?_
                        refine z_iload F dX12_goesPlacings_200 (q := 0) rfl ?_
                        refine z_if_eq (tgt := 209) F dX12_goesPlacings_202 (by decide +kernel) (by omega) (fun c332 => ?_) (fun c332 => by exfalso; omega)
                        refine z_iconst F dX12_goesPlacings_209 ?_
                        refine z_iadd F dX12_goesPlacings_210 ?_
                        refine z_aload_n F dX12_goesPlacings_211 rfl (q := 1) rfl ?_
                        refine gf_X12_433 F hI gs_131 rfl bd_131_26 dX12_goesPlacings_212 (fun v333 ev333 av333 bv333 => ?_)
                        have q334 : v328 = M331 131 26 := ev328.trans (f330 131 26 (fun q => absurd q.1 (by decide))).symm
                        have zv333 : v328 = v333 := q334.trans ev333.symm
                        subst zv333
                        refine z_if_eq (tgt := 235) F dX12_goesPlacings_215 (by decide +kernel) (by omega) (fun c335 => ?_) (fun c335 => by exfalso; omega)
                        refine z_iload_n F dX12_goesPlacings_235 rfl (q := 4) rfl ?_
                        refine zv_v (rest := []) F (ih M331 ⟨hI, hW⟩ (x0 + 1) (by omega) (by omega) (x1 + 0) (by omega) (by omega) x2 (by omega) (by omega) (by have := hF.at (a := 132) (b := 2) (by decide); omega) (by omega)) cs_X12_452 (T := TX12) (N := 44) (ci := 12) rfl gs_131 (by omega) (by decide) rfl rfl rfl (Nat.le_of_ble_eq_true rfl) dX12_goesPlacings_236 (fun M336 hI p337 => ?_)
                        obtain ⟨hI, hW⟩ := hI
                        have fp337 := p337
                        have hF := hF.call fp337 (by decide)
                        refine z_iincN F dX12_goesPlacings_239 (q := 5) rfl (by decide) (fun v338 ev338 => ?_)
                        refine z_eq (ls' := [(4, ii v338), (5, ii 0), (0, .ref (ad 131)), (1, ii x0), (2, ii x1), (3, ii x2)]) rfl rfl rfl ?_
                        refine z_goto (tgt := 118) F dX12_goesPlacings_242 (by decide +kernel) ?_
                        refine z_loc [2, 3, 4, 5, 0] (ls' := [(0, .ref (ad 131)), (1, ii x0), (2, ii x1), (3, ii x2), (4, ii v338)]) rfl ?_
                        exact ih118 v338 M336 hI hW hF (by omega) (by omega) (by omega)
                      · refine z_iload F dX12_goesPlacings_164 (q := 0) rfl ?_
                        refine z_if_eq (tgt := 187) F dX12_goesPlacings_166 (by decide +kernel) (by omega) (fun c339 => ?_) (fun c339 => by exfalso; omega)
                        refine z_aload_n F dX12_goesPlacings_187 rfl (q := 1) rfl ?_
                        refine rf_X12_36 F gs_131 rfl dX12_goesPlacings_188 ?_
                        refine z_iload_n F dX12_goesPlacings_191 rfl (q := 2) rfl ?_
                        refine z_iload F dX12_goesPlacings_192 (q := 5) rfl ?_
                        refine z_iast F hI gs_139 (by omega) (by omega) (by decide) bd_139 dX12_goesPlacings_194 (by omega) (by omega) (fun M341 hI sf340 f340 => ?_)
                        have hF := hF.wr f340 (by decide) (by decide)
                        have hW : WFk M341 := hW.site f340 (by decide)
                        refine z_aload_n F dX12_goesPlacings_195 rfl (q := 1) rfl ?_
                        refine z_iload_n F dX12_goesPlacings_196 rfl (q := 2) rfl ?_
                        refine z_iconst F dX12_goesPlacings_197 ?_
                        refine z_iadd F dX12_goesPlacings_198 ?_
                        refine z_iload_n F dX12_goesPlacings_199 rfl (q := 3) rfl ?_
                        refine z_iload F dX12_goesPlacings_200 (q := 0) rfl ?_
                        refine z_if_eq (tgt := 209) F dX12_goesPlacings_202 (by decide +kernel) (by omega) (fun c342 => ?_) (fun c342 => by exfalso; omega)
                        refine z_iconst F dX12_goesPlacings_209 ?_
                        refine z_iadd F dX12_goesPlacings_210 ?_
                        refine z_aload_n F dX12_goesPlacings_211 rfl (q := 1) rfl ?_
                        refine gf_X12_433 F hI gs_131 rfl bd_131_26 dX12_goesPlacings_212 (fun v343 ev343 av343 bv343 => ?_)
                        have q344 : v328 = M341 131 26 := ev328.trans (f340 131 26 (fun q => absurd q.1 (by decide))).symm
                        have zv343 : v328 = v343 := q344.trans ev343.symm
                        subst zv343
                        refine z_if_eq (tgt := 235) F dX12_goesPlacings_215 (by decide +kernel) (by omega) (fun c345 => by exfalso; omega) (fun c345 => ?_)
                        refine z_iload F dX12_goesPlacings_218 (q := 0) rfl ?_
                        refine z_if_eq (tgt := 235) F dX12_goesPlacings_220 (by decide +kernel) (by omega) (fun c346 => ?_) (fun c346 => by exfalso; omega)
                        refine z_iload_n F dX12_goesPlacings_235 rfl (q := 4) rfl ?_
                        refine zv_v (rest := []) F (ih M341 ⟨hI, hW⟩ (x0 + 1) (by omega) (by omega) (x1 + 0) (by omega) (by omega) x2 (by omega) (by omega) (by have := hF.at (a := 132) (b := 2) (by decide); omega) (by omega)) cs_X12_452 (T := TX12) (N := 44) (ci := 12) rfl gs_131 (by omega) (by decide) rfl rfl rfl (Nat.le_of_ble_eq_true rfl) dX12_goesPlacings_236 (fun M347 hI p348 => ?_)
                        obtain ⟨hI, hW⟩ := hI
                        have fp348 := p348
                        have hF := hF.call fp348 (by decide)
                        refine z_iincN F dX12_goesPlacings_239 (q := 5) rfl (by decide) (fun v349 ev349 => ?_)
                        refine z_eq (ls' := [(4, ii v349), (5, ii 0), (0, .ref (ad 131)), (1, ii x0), (2, ii x1), (3, ii x2)]) rfl rfl rfl ?_
                        refine z_goto (tgt := 118) F dX12_goesPlacings_242 (by decide +kernel) ?_
                        refine z_loc [2, 3, 4, 5, 0] (ls' := [(0, .ref (ad 131)), (1, ii x0), (2, ii x1), (3, ii x2), (4, ii v349)]) rfl ?_
                        exact ih118 v349 M347 hI hW hF (by omega) (by omega) (by omega)
                    · refine z_iconst F dX12_goesPlacings_150 ?_
                      refine z_goto (tgt := 155) F dX12_goesPlacings_151 (by decide +kernel) ?_
                      refine z_istore F dX12_goesPlacings_155 (by decide) (ls' := [(5, ii 1), (0, .ref (ad 131)), (1, ii x0), (2, ii x1), (3, ii x2), (4, ii y315)]) rfl ?_
                      refine z_aload_n F dX12_goesPlacings_157 rfl (q := 1) rfl ?_
                      refine gf_X12_433 F hI gs_131 rfl bd_131_26 dX12_goesPlacings_158 (fun v350 ev350 av350 bv350 => ?_)
                      refine z_if_eq (tgt := 187) F dX12_goesPlacings_161 (by decide +kernel) (by omega) (fun c351 => ?_) (fun c351 => ?_)
                      · refine z_aload_n F dX12_goesPlacings_187 rfl (q := 1) rfl ?_
                        refine rf_X12_36 F gs_131 rfl dX12_goesPlacings_188 ?_
                        refine z_iload_n F dX12_goesPlacings_191 rfl (q := 2) rfl ?_
                        refine z_iload F dX12_goesPlacings_192 (q := 5) rfl ?_
                        refine z_iast F hI gs_139 (by omega) (by omega) (by decide) bd_139 dX12_goesPlacings_194 (by omega) (by omega) (fun M353 hI sf352 f352 => ?_)
                        have hF := hF.wr f352 (by decide) (by decide)
                        have hW : WFk M353 := hW.site f352 (by decide)
                        refine z_aload_n F dX12_goesPlacings_195 rfl (q := 1) rfl ?_
                        refine z_iload_n F dX12_goesPlacings_196 rfl (q := 2) rfl ?_
                        refine z_iconst F dX12_goesPlacings_197 ?_
                        refine z_iadd F dX12_goesPlacings_198 ?_
                        refine z_iload_n F dX12_goesPlacings_199 rfl (q := 3) rfl ?_
                        refine z_iload F dX12_goesPlacings_200 (q := 0) rfl ?_
                        refine z_if_eq (tgt := 209) F dX12_goesPlacings_202 (by decide +kernel) (by omega) (fun c354 => by exfalso; omega) (fun c354 => ?_)
                        refine z_iconst F dX12_goesPlacings_205 ?_
                        refine z_goto (tgt := 210) F dX12_goesPlacings_206 (by decide +kernel) ?_
                        refine z_iadd F dX12_goesPlacings_210 ?_
                        refine z_wrap (fun v355 rv355 wv355 => ?_)
                        refine z_aload_n F dX12_goesPlacings_211 rfl (q := 1) rfl ?_
                        refine gf_X12_433 F hI gs_131 rfl bd_131_26 dX12_goesPlacings_212 (fun v356 ev356 av356 bv356 => ?_)
                        have q357 : v350 = M353 131 26 := ev350.trans (f352 131 26 (fun q => absurd q.1 (by decide))).symm
                        have zv356 : v350 = v356 := q357.trans ev356.symm
                        subst zv356
                        refine z_if_eq (tgt := 235) F dX12_goesPlacings_215 (by decide +kernel) (by omega) (fun c358 => ?_) (fun c358 => by exfalso; omega)
                        refine z_iload_n F dX12_goesPlacings_235 rfl (q := 4) rfl ?_
                        refine zv_v (rest := []) F (ih M353 ⟨hI, hW⟩ (x0 + 1) (by omega) (by omega) v355 (by omega) (by omega) x2 (by omega) (by omega) (by have := hF.at (a := 132) (b := 2) (by decide); omega) (by omega)) cs_X12_452 (T := TX12) (N := 44) (ci := 12) rfl gs_131 (by omega) (by decide) rfl rfl rfl (Nat.le_of_ble_eq_true rfl) dX12_goesPlacings_236 (fun M359 hI p360 => ?_)
                        obtain ⟨hI, hW⟩ := hI
                        have fp360 := p360
                        have hF := hF.call fp360 (by decide)
                        refine z_iincN F dX12_goesPlacings_239 (q := 5) rfl (by decide) (fun v361 ev361 => ?_)
                        refine z_eq (ls' := [(4, ii v361), (5, ii 1), (0, .ref (ad 131)), (1, ii x0), (2, ii x1), (3, ii x2)]) rfl rfl rfl ?_
                        refine z_goto (tgt := 118) F dX12_goesPlacings_242 (by decide +kernel) ?_
                        refine z_loc [2, 3, 4, 5, 0] (ls' := [(0, .ref (ad 131)), (1, ii x0), (2, ii x1), (3, ii x2), (4, ii v361)]) rfl ?_
                        exact ih118 v361 M359 hI hW hF (by omega) (by omega) (by omega)
                      · refine z_iload F dX12_goesPlacings_164 (q := 0) rfl ?_
                        refine z_if_eq (tgt := 187) F dX12_goesPlacings_166 (by decide +kernel) (by omega) (fun c362 => by exfalso; omega) (fun c362 => ?_)
                        refine z_aload_n F dX12_goesPlacings_169 rfl (q := 1) rfl ?_
                        refine z_aload_n F dX12_goesPlacings_170 rfl (q := 1) rfl ?_
                        refine z_iload_n F dX12_goesPlacings_171 rfl (q := 2) rfl ?_
                        refine zv_i (rest := [.ref (ad 131)]) F (k_X12_lies l M321 ⟨hI, hW⟩ x0 (by omega) (by omega)) cs_X12_317 (T := TX12) (N := 44) (ci := 12) rfl gs_131 (by omega) (by decide) rfl rfl rfl (Nat.le_of_ble_eq_true rfl) dX12_goesPlacings_172 (fun v363 M364 rv363 hI p365 => ?_)
                        obtain ⟨hI, hW⟩ := hI
                        obtain ⟨⟨av363, bv363⟩, rfl⟩ := p365
                        refine z_iload F dX12_goesPlacings_175 (q := 5) rfl ?_
                        refine zv_i (rest := []) F (k_X12_stepsOf l M321 ⟨hI, hW⟩ v363 (by omega) (by omega) y315 (by omega) (by omega)) cs_X12_349 (T := TX12) (N := 44) (ci := 12) rfl gs_131 (by omega) (by decide) rfl rfl rfl (Nat.le_of_ble_eq_true rfl) dX12_goesPlacings_177 (fun v366 M367 rv366 hI p368 => ?_)
                        obtain ⟨hI, hW⟩ := hI
                        obtain ⟨⟨av366, bv366⟩, rfl⟩ := p368
                        refine z_iconst F dX12_goesPlacings_180 ?_
                        refine z_icmp_ne (tgt := 187) F dX12_goesPlacings_181 (by decide +kernel) (by omega) (by omega) (fun c369 => ?_) (fun c369 => ?_)
                        · refine z_aload_n F dX12_goesPlacings_187 rfl (q := 1) rfl ?_
                          refine rf_X12_36 F gs_131 rfl dX12_goesPlacings_188 ?_
                          refine z_iload_n F dX12_goesPlacings_191 rfl (q := 2) rfl ?_
                          refine z_iload F dX12_goesPlacings_192 (q := 5) rfl ?_
                          refine z_iast F hI gs_139 (by omega) (by omega) (by decide) bd_139 dX12_goesPlacings_194 (by omega) (by omega) (fun M371 hI sf370 f370 => ?_)
                          have hF := hF.wr f370 (by decide) (by decide)
                          have hW : WFk M371 := hW.site f370 (by decide)
                          refine z_aload_n F dX12_goesPlacings_195 rfl (q := 1) rfl ?_
                          refine z_iload_n F dX12_goesPlacings_196 rfl (q := 2) rfl ?_
                          refine z_iconst F dX12_goesPlacings_197 ?_
                          refine z_iadd F dX12_goesPlacings_198 ?_
                          refine z_iload_n F dX12_goesPlacings_199 rfl (q := 3) rfl ?_
                          refine z_iload F dX12_goesPlacings_200 (q := 0) rfl ?_
                          refine z_if_eq (tgt := 209) F dX12_goesPlacings_202 (by decide +kernel) (by omega) (fun c372 => by exfalso; omega) (fun c372 => ?_)
                          refine z_iconst F dX12_goesPlacings_205 ?_
                          refine z_goto (tgt := 210) F dX12_goesPlacings_206 (by decide +kernel) ?_
                          refine z_iadd F dX12_goesPlacings_210 ?_
                          refine z_wrap (fun v373 rv373 wv373 => ?_)
                          refine z_aload_n F dX12_goesPlacings_211 rfl (q := 1) rfl ?_
                          refine gf_X12_433 F hI gs_131 rfl bd_131_26 dX12_goesPlacings_212 (fun v374 ev374 av374 bv374 => ?_)
                          have q375 : v350 = M371 131 26 := ev350.trans (f370 131 26 (fun q => absurd q.1 (by decide))).symm
                          have zv374 : v350 = v374 := q375.trans ev374.symm
                          subst zv374
                          refine z_if_eq (tgt := 235) F dX12_goesPlacings_215 (by decide +kernel) (by omega) (fun c376 => by exfalso; omega) (fun c376 => ?_)
                          refine z_iload F dX12_goesPlacings_218 (q := 0) rfl ?_
                          refine z_if_eq (tgt := 235) F dX12_goesPlacings_220 (by decide +kernel) (by omega) (fun c377 => by exfalso; omega) (fun c377 => ?_)
                          refine z_iload_n F dX12_goesPlacings_223 rfl (q := 4) rfl ?_
                          refine z_aload_n F dX12_goesPlacings_224 rfl (q := 1) rfl ?_
                          refine z_iload_n F dX12_goesPlacings_225 rfl (q := 2) rfl ?_
                          refine z_iload F dX12_goesPlacings_226 (q := 5) rfl ?_
                          refine zv_i (rest := [ii x2, ii v373, ii (x0 + 1), .ref (ad 131)]) F (k_X12_minutesOf l M371 ⟨hI, hW⟩ x0 (by omega) (by omega) y315 (by omega) (by omega)) cs_X12_358 (T := TX12) (N := 44) (ci := 12) rfl gs_131 (by omega) (by decide) rfl rfl rfl (Nat.le_of_ble_eq_true rfl) dX12_goesPlacings_228 (fun v378 M379 rv378 hI p380 => ?_)
                          obtain ⟨hI, hW⟩ := hI
                          obtain ⟨⟨av378, bv378⟩, rfl⟩ := p380
                          refine z_iadd F dX12_goesPlacings_231 ?_
                          refine z_wrap (fun v381 rv381 wv381 => ?_)
                          refine z_goto (tgt := 236) F dX12_goesPlacings_232 (by decide +kernel) ?_
                          refine zv_v (rest := []) F (ih M371 ⟨hI, hW⟩ (x0 + 1) (by omega) (by omega) v373 (by omega) (by omega) v381 (by omega) (by omega) (by have := hF.at (a := 132) (b := 2) (by decide); omega) (by omega)) cs_X12_452 (T := TX12) (N := 44) (ci := 12) rfl gs_131 (by omega) (by decide) rfl rfl rfl (Nat.le_of_ble_eq_true rfl) dX12_goesPlacings_236 (fun M382 hI p383 => ?_)
                          obtain ⟨hI, hW⟩ := hI
                          have fp383 := p383
                          have hF := hF.call fp383 (by decide)
                          refine z_iincN F dX12_goesPlacings_239 (q := 5) rfl (by decide) (fun v384 ev384 => ?_)
                          refine z_eq (ls' := [(4, ii v384), (5, ii 1), (0, .ref (ad 131)), (1, ii x0), (2, ii x1), (3, ii x2)]) rfl rfl rfl ?_
                          refine z_goto (tgt := 118) F dX12_goesPlacings_242 (by decide +kernel) ?_
                          refine z_loc [2, 3, 4, 5, 0] (ls' := [(0, .ref (ad 131)), (1, ii x0), (2, ii x1), (3, ii x2), (4, ii v384)]) rfl ?_
                          exact ih118 v384 M382 hI hW hF (by omega) (by omega) (by omega)
                        · refine z_goto (tgt := 239) F dX12_goesPlacings_184 (by decide +kernel) ?_
                          refine z_iincN F dX12_goesPlacings_239 (q := 5) rfl (by decide) (fun v385 ev385 => ?_)
                          refine z_eq (ls' := [(4, ii v385), (5, ii 1), (0, .ref (ad 131)), (1, ii x0), (2, ii x1), (3, ii x2)]) rfl rfl rfl ?_
                          refine z_goto (tgt := 118) F dX12_goesPlacings_242 (by decide +kernel) ?_
                          refine z_loc [2, 3, 4, 5, 0] (ls' := [(0, .ref (ad 131)), (1, ii x0), (2, ii x1), (3, ii x2), (4, ii v385)]) rfl ?_
                          exact ih118 v385 M321 hI hW hF (by omega) (by omega) (by omega)
                  · refine z_goto (tgt := 239) F dX12_goesPlacings_137 (by decide +kernel) ?_
                    refine z_iincN F dX12_goesPlacings_239 (q := 4) rfl (by decide) (fun v386 ev386 => ?_)
                    refine z_eq (ls' := [(4, ii v386), (0, .ref (ad 131)), (1, ii x0), (2, ii x1), (3, ii x2)]) rfl rfl rfl ?_
                    refine z_goto (tgt := 118) F dX12_goesPlacings_242 (by decide +kernel) ?_
                    refine z_loc [1, 2, 3, 4, 0] (ls' := [(0, .ref (ad 131)), (1, ii x0), (2, ii x1), (3, ii x2), (4, ii v386)]) rfl ?_
                    exact ih118 v386 M321 hI hW hF (by omega) (by omega) (by omega)
            · refine z_aload_n F dX12_goesPlacings_47 rfl (q := 0) rfl ?_
              refine gf_X12_433 F hI gs_131 rfl bd_131_26 dX12_goesPlacings_48 (fun v387 ev387 av387 bv387 => ?_)
              have zv387 : v1 = v387 := ev1.trans ev387.symm
              subst zv387
              refine z_if_ne (tgt := 65) F dX12_goesPlacings_51 (by decide +kernel) (by omega) (fun c388 => ?_) (fun c388 => by exfalso; omega)
              refine z_iconst F dX12_goesPlacings_65 ?_
              refine z_istore F dX12_goesPlacings_66 (by decide) (ls' := [(4, ii 0), (0, .ref (ad 131)), (1, ii x0), (2, ii x1), (3, ii x2)]) rfl ?_
              refine z_loc [1, 2, 3, 4, 0] (ls' := [(0, .ref (ad 131)), (1, ii x0), (2, ii x1), (3, ii x2), (4, ii 0)]) rfl ?_
              suffices key68 : ∀ (n : Nat) (y390 : Int) (M389 : Mem), Inv M389 → WFk M389 → Fr [131, 137, 139, 140] M M389 → 0 ≤ y390 → y390 ≤ 8 → 8 - y390 < (n : Int) → Z D cy ad p l e (RMh (6 + (nr + 1))) s m args below meth c A 6 0 0 Q 68 [(0, .ref (ad 131)), (1, ii x0), (2, ii x1), (3, ii x2), (4, ii y390)] [] M389 from key68 9 0 M hI hW hF (by omega) (by omega) (by omega)
              intro n68
              induction n68 with
              | zero => intro y390 M389 hI hW hF ay390 by390 hn68; exfalso; omega
              | succ n68 ih68 =>
                intro y390 M389 hI hW hF ay390 by390 hn68
                refine z_iload F dX12_goesPlacings_68 (q := 4) rfl ?_
                refine z_iload_n F dX12_goesPlacings_70 rfl (q := 1) rfl ?_
                refine z_icmp_ge (tgt := 94) F dX12_goesPlacings_71 (by decide +kernel) (by omega) (by omega) (fun c391 => ?_) (fun c391 => ?_)
                · refine z_aload_n F dX12_goesPlacings_94 rfl (q := 0) rfl ?_
                  refine z_iload_n F dX12_goesPlacings_95 rfl (q := 2) rfl ?_
                  refine pf_X12_440 F hI gs_131 rfl bd_131_24 rfl rfl dX12_goesPlacings_96 (by omega) (by omega) (fun M393 hI sf392 f392 => ?_)
                  have hF := hF.wrf f392 (by decide) (by decide)
                  have hW : WFk M393 := hW.site f392 (by decide)
                  refine z_aload_n F dX12_goesPlacings_99 rfl (q := 0) rfl ?_
                  refine z_iload_n F dX12_goesPlacings_100 rfl (q := 3) rfl ?_
                  refine pf_X12_443 F hI gs_131 rfl bd_131_25 rfl rfl dX12_goesPlacings_101 (by omega) (by omega) (fun M395 hI sf394 f394 => ?_)
                  have hF := hF.wrf f394 (by decide) (by decide)
                  have hW : WFk M395 := hW.site f394 (by decide)
                  refine z_aload_n F dX12_goesPlacings_104 rfl (q := 0) rfl ?_
                  refine z_dup F dX12_goesPlacings_105 rfl ?_
                  refine gf_X12_437 F hI gs_131 rfl bd_131_22 dX12_goesPlacings_106 (fun v396 ev396 av396 bv396 => ?_)
                  refine z_iconst F dX12_goesPlacings_109 ?_
                  refine z_iadd F dX12_goesPlacings_110 ?_
                  refine z_wrap (fun v397 rv397 wv397 => ?_)
                  refine pf_X12_437 F hI gs_131 rfl bd_131_22 rfl rfl dX12_goesPlacings_111 (by omega) (by omega) (fun M399 hI sf398 f398 => ?_)
                  have hF := hF.wrf f398 (by decide) (by decide)
                  have hW : WFk M399 := hW.site f398 (by decide)
                  exact hret _ 114 _ ⟨hI, hW⟩ hF dX12_goesPlacings_114
                · refine z_aload_n F dX12_goesPlacings_74 rfl (q := 0) rfl ?_
                  refine rf_X12_39 F gs_131 rfl dX12_goesPlacings_75 ?_
                  refine z_iload F dX12_goesPlacings_78 (q := 4) rfl ?_
                  refine z_aload_n F dX12_goesPlacings_80 rfl (q := 0) rfl ?_
                  refine rf_X12_36 F gs_131 rfl dX12_goesPlacings_81 ?_
                  refine z_iload F dX12_goesPlacings_84 (q := 4) rfl ?_
                  refine z_iald F hI gs_139 (by omega) (by omega) (by decide) bd_139 dX12_goesPlacings_86 (fun v400 (ev400 : v400 = M389 139 _) av400 bv400 => ?_)
                  refine z_iast F hI gs_140 (by omega) (by omega) (by decide) bd_140 dX12_goesPlacings_87 (by omega) (by omega) (fun M402 hI sf401 f401 => ?_)
                  have hF := hF.wr f401 (by decide) (by decide)
                  have hW : WFk M402 := hW.site f401 (by decide)
                  refine z_iincN F dX12_goesPlacings_88 (q := 4) rfl (by decide) (fun v403 ev403 => ?_)
                  refine z_eq (ls' := [(4, ii v403), (0, .ref (ad 131)), (1, ii x0), (2, ii x1), (3, ii x2)]) rfl rfl rfl ?_
                  refine z_goto (tgt := 68) F dX12_goesPlacings_91 (by decide +kernel) ?_
                  refine z_loc [1, 2, 3, 4, 0] (ls' := [(0, .ref (ad 131)), (1, ii x0), (2, ii x1), (3, ii x2), (4, ii v403)]) rfl ?_
                  exact ih68 v403 M402 hI hW hF (by omega) (by omega) (by omega)
          · exact hret _ 38 _ ⟨hI, hW⟩ hF dX12_goesPlacings_38
set_option maxRecDepth 4000 in
theorem k_X12_laysPlacings (l : Launch) (M : Mem) (hJ : Iw M) (x0 : Int) (hx0a : (-2147483648) ≤ x0) (hx0b : x0 ≤ 2147483647) (x1 : Int) (hx1a : 0 ≤ x1) (hx1b : x1 ≤ 1) : CI l yX12_laysPlacings cX12_laysPlacings 3 (some .int) 16 (fun ad => [.ref (ad 131), ii x0, ii x1]) M (fun z M' => ((-2147483648) ≤ z ∧ z ≤ 2147483647) ∧ Fr [131, 137, 138, 139, 140] M M') := by
  obtain ⟨hI, hW⟩ := hJ
  have hF : Fr [131, 137, 138, 139, 140] M M := Fr.rf
  refine en_i (by decide +kernel) (fun ad => by exact Nat.le_of_ble_eq_true rfl) (fun D cy ad A p e s m args below meth c Q F hret => ?_)
  refine z_eq (ls' := [(0, .ref (ad 131)), (1, ii x0), (2, ii x1)]) rfl rfl rfl ?_
  refine z_aload_n F dX12_laysPlacings_0 rfl (q := 0) rfl ?_
  refine zv_v (rest := []) F (k_X12_putsAside l M ⟨hI, hW⟩) cs_X12_406 (T := TX12) (N := 44) (ci := 12) rfl gs_131 (by decide) (by decide) rfl rfl rfl (Nat.le_of_ble_eq_true rfl) dX12_laysPlacings_1 (fun M1 hI p2 => ?_)
  obtain ⟨hI, hW⟩ := hI
  have fp2 := p2
  have hF := hF.call fp2 (by decide)
  refine z_aload_n F dX12_laysPlacings_4 rfl (q := 0) rfl ?_
  refine z_iconst F dX12_laysPlacings_5 ?_
  refine pf_X12_437 F hI gs_131 rfl bd_131_22 rfl rfl dX12_laysPlacings_6 (by omega) (by omega) (fun M4 hI sf3 f3 => ?_)
  have hF := hF.wrf f3 (by decide) (by decide)
  have hW : WFk M4 := hW.site f3 (by decide)
  refine z_aload_n F dX12_laysPlacings_9 rfl (q := 0) rfl ?_
  refine z_iload_n F dX12_laysPlacings_10 rfl (q := 1) rfl ?_
  refine pf_X12_446 F hI gs_131 rfl bd_131_23 rfl rfl dX12_laysPlacings_11 (by omega) (by omega) (fun M6 hI sf5 f5 => ?_)
  have hF := hF.wrf f5 (by decide) (by decide)
  have hW : WFk M6 := hW.site f5 (by decide)
  refine z_aload_n F dX12_laysPlacings_14 rfl (q := 0) rfl ?_
  refine z_iload_n F dX12_laysPlacings_15 rfl (q := 2) rfl ?_
  refine pf_X12_433 F hI gs_131 rfl bd_131_26 (nar_z (by omega) (by omega)) (fit_z (by omega) (by omega)) dX12_laysPlacings_16 (by omega) (by omega) (fun M8 hI sf7 f7 => ?_)
  have hF := hF.wrf f7 (by decide) (by decide)
  have hW : WFk M8 := hW.site f7 (by decide)
  refine z_aload_n F dX12_laysPlacings_19 rfl (q := 0) rfl ?_
  refine z_iconst F dX12_laysPlacings_20 ?_
  refine z_iconst F dX12_laysPlacings_21 ?_
  refine z_iconst F dX12_laysPlacings_22 ?_
  refine zv_v (rest := []) F (k_X12_goesPlacings l 9 M8 ⟨hI, hW⟩ 0 (by omega) (by omega) 0 (by omega) (by omega) 0 (by omega) (by omega) (by have := hI.at (show Bd 132 2 = (0, 8) from rfl); omega) (by omega)) cs_X12_452 (T := TX12) (N := 44) (ci := 12) rfl gs_131 (by decide) (by decide) rfl rfl rfl (Nat.le_of_ble_eq_true rfl) dX12_laysPlacings_23 (fun M9 hI p10 => ?_)
  obtain ⟨hI, hW⟩ := hI
  have fp10 := p10
  have hF := hF.call fp10 (by decide)
  refine z_aload_n F dX12_laysPlacings_26 rfl (q := 0) rfl ?_
  refine gf_X12_437 F hI gs_131 rfl bd_131_22 dX12_laysPlacings_27 (fun v11 ev11 av11 bv11 => ?_)
  have q12 : 0 = M6 131 22 := sf3.symm.trans (f5 131 22 (fun q => absurd q.2 (by decide))).symm
  have q13 : 0 = M8 131 22 := q12.trans (f7 131 22 (fun q => absurd q.2 (by decide))).symm
  exact hret _ _ 30 _ (by omega) ⟨hI, hW⟩ ⟨⟨by omega, by omega⟩, hF⟩ dX12_laysPlacings_30
set_option maxRecDepth 4000 in
theorem k_X12_placings (l : Launch) (M : Mem) (hJ : Iw M) : CI l yX12_placings cX12_placings 1 (some .int) 17 (fun ad => [.ref (ad 131)]) M (fun z M' => ((-2147483648) ≤ z ∧ z ≤ 2147483647) ∧ Fr [131, 137, 138, 139, 140] M M') := by
  obtain ⟨hI, hW⟩ := hJ
  have hF : Fr [131, 137, 138, 139, 140] M M := Fr.rf
  refine en_i (by decide +kernel) (fun ad => by exact Nat.le_of_ble_eq_true rfl) (fun D cy ad A p e s m args below meth c Q F hret => ?_)
  refine z_eq (ls' := [(0, .ref (ad 131))]) rfl rfl rfl ?_
  refine z_aload_n F dX12_placings_0 rfl (q := 0) rfl ?_
  refine z_iconst F dX12_placings_1 ?_
  refine pf_X12_73 F hI gs_131 rfl bd_131_4 rfl rfl dX12_placings_2 (by omega) (by omega) (fun M2 hI sf1 f1 => ?_)
  have hF := hF.wrf f1 (by decide) (by decide)
  have hW : WFk M2 := hW.site f1 (by decide)
  refine z_aload_n F dX12_placings_5 rfl (q := 0) rfl ?_
  refine z_iconst F dX12_placings_6 ?_
  refine z_iconst F dX12_placings_7 ?_
  refine zv_i (rest := []) F (k_X12_laysPlacings l M2 ⟨hI, hW⟩ (-1) (by omega) (by omega) 0 (by omega) (by omega)) cs_X12_456 (T := TX12) (N := 44) (ci := 12) rfl gs_131 (by decide) (by decide) rfl rfl rfl (Nat.le_of_ble_eq_true rfl) dX12_placings_8 (fun v3 M4 rv3 hI p5 => ?_)
  obtain ⟨hI, hW⟩ := hI
  obtain ⟨⟨av3, bv3⟩, fp5⟩ := p5
  have hF := hF.call fp5 (by decide)
  exact hret _ _ 11 _ (by omega) ⟨hI, hW⟩ ⟨⟨by omega, by omega⟩, hF⟩ dX12_placings_11
set_option maxRecDepth 4000 in
theorem k_X12_placing (l : Launch) (M : Mem) (hJ : Iw M) (x0 : Int) (hx0a : (-2147483648) ≤ x0) (hx0b : x0 ≤ 2147483647) (x1 : Int) (hx1a : (-2147483648) ≤ x1) (hx1b : x1 ≤ 2147483647) : CI l yX12_placing cX12_placing 3 (some .int) 17 (fun ad => [.ref (ad 131), ii x0, ii x1]) M (fun z M' => ((-1) ≤ z ∧ z ≤ 9) ∧ Fr [131, 137, 138, 139, 140] M M') := by
  obtain ⟨hI, hW⟩ := hJ
  have hF : Fr [131, 137, 138, 139, 140] M M := Fr.rf
  refine en_i (by decide +kernel) (fun ad => by exact Nat.le_of_ble_eq_true rfl) (fun D cy ad A p e s m args below meth c Q F hret => ?_)
  refine z_eq (ls' := [(0, .ref (ad 131)), (1, ii x0), (2, ii x1)]) rfl rfl rfl ?_
  refine z_aload_n F dX12_placing_0 rfl (q := 0) rfl ?_
  refine z_aload_n F dX12_placing_1 rfl (q := 0) rfl ?_
  refine z_iload_n F dX12_placing_2 rfl (q := 2) rfl ?_
  refine z_i2l F dX12_placing_3 (by omega) ?_
  refine zv_i (rest := [.ref (ad 131)]) F (k_X12_isThing l M ⟨hI, hW⟩ x1 (by omega) (by omega)) cs_X12_335 (T := TX12) (N := 44) (ci := 12) rfl gs_131 (by decide) (by decide) rfl rfl rfl (Nat.le_of_ble_eq_true rfl) dX12_placing_4 (fun v1 M2 rv1 hI p3 => ?_)
  obtain ⟨hI, hW⟩ := hI
  obtain ⟨⟨av1, bv1⟩, rfl, xp3⟩ := p3
  refine z_if_ne (tgt := 14) F dX12_placing_7 (by decide +kernel) (by omega) (fun c4 => ?_) (fun c4 => ?_)
  · refine z_iload_n F dX12_placing_14 rfl (q := 1) rfl ?_
    refine z_if_ge (tgt := 22) F dX12_placing_15 (by decide +kernel) (by omega) (fun c5 => ?_) (fun c5 => ?_)
    · refine z_iconst F dX12_placing_22 ?_
      refine pf_X12_73 F hI gs_131 rfl bd_131_4 rfl rfl dX12_placing_23 (by omega) (by omega) (fun M7 hI sf6 f6 => ?_)
      have hF := hF.wrf f6 (by decide) (by decide)
      have hW : WFk M7 := hW.site f6 (by decide)
      refine z_aload_n F dX12_placing_26 rfl (q := 0) rfl ?_
      refine gf_X12_73 F hI gs_131 rfl bd_131_4 dX12_placing_27 (fun v8 ev8 av8 bv8 => ?_)
      have zv8 : 0 = v8 := sf6.symm.trans ev8.symm
      subst zv8
      refine z_if_le (tgt := 35) F dX12_placing_30 (by decide +kernel) (by omega) (fun c9 => ?_) (fun c9 => by exfalso; omega)
      refine z_aload_n F dX12_placing_35 rfl (q := 0) rfl ?_
      refine z_iload_n F dX12_placing_36 rfl (q := 1) rfl ?_
      refine z_iconst F dX12_placing_37 ?_
      refine zv_i (rest := []) F (k_X12_laysPlacings l M7 ⟨hI, hW⟩ x0 (by omega) (by omega) 0 (by omega) (by omega)) cs_X12_456 (T := TX12) (N := 44) (ci := 12) rfl gs_131 (by decide) (by decide) rfl rfl rfl (Nat.le_of_ble_eq_true rfl) dX12_placing_38 (fun v10 M11 rv10 hI p12 => ?_)
      obtain ⟨hI, hW⟩ := hI
      obtain ⟨⟨av10, bv10⟩, fp12⟩ := p12
      have hF := hF.call fp12 (by decide)
      refine z_iload_n F dX12_placing_41 rfl (q := 1) rfl ?_
      refine z_icmp_le (tgt := 54) F dX12_placing_42 (by decide +kernel) (by omega) (by omega) (fun c13 => ?_) (fun c13 => ?_)
      · refine z_iconst F dX12_placing_54 ?_
        exact hret _ _ 55 _ (by omega) ⟨hI, hW⟩ ⟨⟨by omega, by omega⟩, hF⟩ dX12_placing_55
      · refine z_aload_n F dX12_placing_45 rfl (q := 0) rfl ?_
        refine rf_X12_39 F gs_131 rfl dX12_placing_46 ?_
        refine z_iload_n F dX12_placing_49 rfl (q := 2) rfl ?_
        refine z_iald F hI gs_140 (by omega) (by omega) (by decide) bd_140 dX12_placing_50 (fun v14 (ev14 : v14 = M11 140 _) av14 bv14 => ?_)
        refine z_goto (tgt := 55) F dX12_placing_51 (by decide +kernel) ?_
        exact hret _ _ 55 _ (by omega) ⟨hI, hW⟩ ⟨⟨by omega, by omega⟩, hF⟩ dX12_placing_55
    · refine z_iconst F dX12_placing_18 ?_
      refine z_goto (tgt := 23) F dX12_placing_19 (by decide +kernel) ?_
      refine pf_X12_73 F hI gs_131 rfl bd_131_4 rfl rfl dX12_placing_23 (by omega) (by omega) (fun M16 hI sf15 f15 => ?_)
      have hF := hF.wrf f15 (by decide) (by decide)
      have hW : WFk M16 := hW.site f15 (by decide)
      refine z_aload_n F dX12_placing_26 rfl (q := 0) rfl ?_
      refine gf_X12_73 F hI gs_131 rfl bd_131_4 dX12_placing_27 (fun v17 ev17 av17 bv17 => ?_)
      have zv17 : 2 = v17 := sf15.symm.trans ev17.symm
      subst zv17
      refine z_if_le (tgt := 35) F dX12_placing_30 (by decide +kernel) (by omega) (fun c18 => by exfalso; omega) (fun c18 => ?_)
      refine z_iconst F dX12_placing_33 ?_
      exact hret _ _ 34 _ (by omega) ⟨hI, hW⟩ ⟨⟨by omega, by omega⟩, hF⟩ dX12_placing_34
  · refine z_iconst F dX12_placing_10 ?_
    refine z_goto (tgt := 23) F dX12_placing_11 (by decide +kernel) ?_
    refine pf_X12_73 F hI gs_131 rfl bd_131_4 rfl rfl dX12_placing_23 (by omega) (by omega) (fun M20 hI sf19 f19 => ?_)
    have hF := hF.wrf f19 (by decide) (by decide)
    have hW : WFk M20 := hW.site f19 (by decide)
    refine z_aload_n F dX12_placing_26 rfl (q := 0) rfl ?_
    refine gf_X12_73 F hI gs_131 rfl bd_131_4 dX12_placing_27 (fun v21 ev21 av21 bv21 => ?_)
    have zv21 : 1 = v21 := sf19.symm.trans ev21.symm
    subst zv21
    refine z_if_le (tgt := 35) F dX12_placing_30 (by decide +kernel) (by omega) (fun c22 => by exfalso; omega) (fun c22 => ?_)
    refine z_iconst F dX12_placing_33 ?_
    exact hret _ _ 34 _ (by omega) ⟨hI, hW⟩ ⟨⟨by omega, by omega⟩, hF⟩ dX12_placing_34
set_option maxRecDepth 4000 in
theorem k_X12_mending (l : Launch) (M : Mem) (hJ : Iw M) (x0 : Int) (hx0a : (-2147483648) ≤ x0) (hx0b : x0 ≤ 2147483647) : CI l yX12_mending cX12_mending 2 (some .int) 17 (fun ad => [.ref (ad 131), ii x0]) M (fun z M' => ((-2147483648) ≤ z ∧ z ≤ 2147483647) ∧ Fr [131, 137, 138, 139, 140] M M') := by
  obtain ⟨hI, hW⟩ := hJ
  have hF : Fr [131, 137, 138, 139, 140] M M := Fr.rf
  refine en_i (by decide +kernel) (fun ad => by exact Nat.le_of_ble_eq_true rfl) (fun D cy ad A p e s m args below meth c Q F hret => ?_)
  refine z_eq (ls' := [(0, .ref (ad 131)), (1, ii x0)]) rfl rfl rfl ?_
  refine z_aload_n F dX12_mending_0 rfl (q := 0) rfl ?_
  refine z_iconst F dX12_mending_1 ?_
  refine pf_X12_73 F hI gs_131 rfl bd_131_4 rfl rfl dX12_mending_2 (by omega) (by omega) (fun M2 hI sf1 f1 => ?_)
  have hF := hF.wrf f1 (by decide) (by decide)
  have hW : WFk M2 := hW.site f1 (by decide)
  refine z_iload_n F dX12_mending_5 rfl (q := 1) rfl ?_
  refine z_i2l F dX12_mending_6 (by omega) ?_
  refine z_lconst (x := 0) F dX12_mending_7 (by decide +kernel) ?_
  refine z_lconst (x := 1) F dX12_mending_8 (by decide +kernel) ?_
  refine zs_i (rest := []) F (k_X12_within l M2 ⟨hI, hW⟩ x0 (by omega) (by omega) 0 (by omega) (by omega) 1 (by omega) (by omega)) cs_X12_137 (by decide) (by decide) rfl rfl rfl (Nat.le_of_ble_eq_true rfl) dX12_mending_9 (fun v3 M4 rv3 hI p5 => ?_)
  obtain ⟨hI, hW⟩ := hI
  obtain ⟨⟨av3, bv3⟩, rfl, xp5⟩ := p5
  refine z_if_ne (tgt := 40) F dX12_mending_12 (by decide +kernel) (by omega) (fun c6 => ?_) (fun c6 => ?_)
  · refine z_aload_n F dX12_mending_40 rfl (q := 0) rfl ?_
    refine z_iconst F dX12_mending_41 ?_
    refine z_iconst F dX12_mending_42 ?_
    refine zv_i (rest := []) F (k_X12_laysPlacings l M2 ⟨hI, hW⟩ (-1) (by omega) (by omega) 1 (by omega) (by omega)) cs_X12_456 (T := TX12) (N := 44) (ci := 12) rfl gs_131 (by decide) (by decide) rfl rfl rfl (Nat.le_of_ble_eq_true rfl) dX12_mending_43 (fun v7 M8 rv7 hI p9 => ?_)
    obtain ⟨hI, hW⟩ := hI
    obtain ⟨⟨av7, bv7⟩, fp9⟩ := p9
    have hF := hF.call fp9 (by decide)
    refine z_if_ne (tgt := 51) F dX12_mending_46 (by decide +kernel) (by omega) (fun c10 => ?_) (fun c10 => ?_)
    · refine z_iload_n F dX12_mending_51 rfl (q := 1) rfl ?_
      refine z_if_ne (tgt := 62) F dX12_mending_52 (by decide +kernel) (by omega) (fun c11 => ?_) (fun c11 => ?_)
      · refine z_iload_n F dX12_mending_62 rfl (q := 1) rfl ?_
        refine z_iconst F dX12_mending_63 ?_
        refine z_icmp_ne (tgt := 74) F dX12_mending_64 (by decide +kernel) (by omega) (by omega) (fun c12 => by exfalso; omega) (fun c12 => ?_)
        refine z_aload_n F dX12_mending_67 rfl (q := 0) rfl ?_
        refine gf_X12_443 F hI gs_131 rfl bd_131_25 dX12_mending_68 (fun v13 ev13 av13 bv13 => ?_)
        refine z_goto (tgt := 83) F dX12_mending_71 (by decide +kernel) ?_
        exact hret _ _ 83 _ (by omega) ⟨hI, hW⟩ ⟨⟨by omega, by omega⟩, hF⟩ dX12_mending_83
      · refine z_aload_n F dX12_mending_55 rfl (q := 0) rfl ?_
        refine gf_X12_440 F hI gs_131 rfl bd_131_24 dX12_mending_56 (fun v14 ev14 av14 bv14 => ?_)
        refine z_goto (tgt := 83) F dX12_mending_59 (by decide +kernel) ?_
        exact hret _ _ 83 _ (by omega) ⟨hI, hW⟩ ⟨⟨by omega, by omega⟩, hF⟩ dX12_mending_83
    · refine z_iconst F dX12_mending_49 ?_
      exact hret _ _ 50 _ (by omega) ⟨hI, hW⟩ ⟨⟨by omega, by omega⟩, hF⟩ dX12_mending_50
  · refine z_iload_n F dX12_mending_15 rfl (q := 1) rfl ?_
    refine z_i2l F dX12_mending_16 (by omega) ?_
    refine z_ldc2 (x := 10) F dX12_mending_17 (gin lm_161 rfl) (by decide +kernel) ?_
    refine z_bipush F dX12_mending_20 (by decide +kernel) ?_
    refine z_aload_n F dX12_mending_22 rfl (q := 0) rfl ?_
    refine zv_i (rest := [ii 9, ll 10, ll x0]) F (k_X12_things l M2 ⟨hI, hW⟩) cs_X12_275 (T := TX12) (N := 44) (ci := 12) rfl gs_131 (by decide) (by decide) rfl rfl rfl (Nat.le_of_ble_eq_true rfl) dX12_mending_23 (fun v15 M16 rv15 hI p17 => ?_)
    obtain ⟨hI, hW⟩ := hI
    obtain ⟨⟨av15, bv15⟩, rfl, xp17⟩ := p17
    refine z_iadd F dX12_mending_26 ?_
    refine z_i2l F dX12_mending_27 (by omega) ?_
    refine zs_i (rest := []) F (k_X12_within l M2 ⟨hI, hW⟩ x0 (by omega) (by omega) 10 (by omega) (by omega) (9 + v15) (by omega) (by omega)) cs_X12_137 (by decide) (by decide) rfl rfl rfl (Nat.le_of_ble_eq_true rfl) dX12_mending_28 (fun v18 M19 rv18 hI p20 => ?_)
    obtain ⟨hI, hW⟩ := hI
    obtain ⟨⟨av18, bv18⟩, rfl, xp20⟩ := p20
    refine z_if_ne (tgt := 40) F dX12_mending_31 (by decide +kernel) (by omega) (fun c21 => ?_) (fun c21 => ?_)
    · refine z_aload_n F dX12_mending_40 rfl (q := 0) rfl ?_
      refine z_iconst F dX12_mending_41 ?_
      refine z_iconst F dX12_mending_42 ?_
      refine zv_i (rest := []) F (k_X12_laysPlacings l M2 ⟨hI, hW⟩ (-1) (by omega) (by omega) 1 (by omega) (by omega)) cs_X12_456 (T := TX12) (N := 44) (ci := 12) rfl gs_131 (by decide) (by decide) rfl rfl rfl (Nat.le_of_ble_eq_true rfl) dX12_mending_43 (fun v22 M23 rv22 hI p24 => ?_)
      obtain ⟨hI, hW⟩ := hI
      obtain ⟨⟨av22, bv22⟩, fp24⟩ := p24
      have hF := hF.call fp24 (by decide)
      refine z_if_ne (tgt := 51) F dX12_mending_46 (by decide +kernel) (by omega) (fun c25 => ?_) (fun c25 => ?_)
      · refine z_iload_n F dX12_mending_51 rfl (q := 1) rfl ?_
        refine z_if_ne (tgt := 62) F dX12_mending_52 (by decide +kernel) (by omega) (fun c26 => ?_) (fun c26 => by exfalso; omega)
        refine z_iload_n F dX12_mending_62 rfl (q := 1) rfl ?_
        refine z_iconst F dX12_mending_63 ?_
        refine z_icmp_ne (tgt := 74) F dX12_mending_64 (by decide +kernel) (by omega) (by omega) (fun c27 => ?_) (fun c27 => by exfalso; omega)
        refine z_aload_n F dX12_mending_74 rfl (q := 0) rfl ?_
        refine rf_X12_39 F gs_131 rfl dX12_mending_75 ?_
        refine z_iload_n F dX12_mending_78 rfl (q := 1) rfl ?_
        refine z_bipush F dX12_mending_79 (by decide +kernel) ?_
        refine z_isub F dX12_mending_81 ?_
        refine z_iald F hI gs_140 (by omega) (by omega) (by decide) bd_140 dX12_mending_82 (fun v28 (ev28 : v28 = M23 140 _) av28 bv28 => ?_)
        exact hret _ _ 83 _ (by omega) ⟨hI, hW⟩ ⟨⟨by omega, by omega⟩, hF⟩ dX12_mending_83
      · refine z_iconst F dX12_mending_49 ?_
        exact hret _ _ 50 _ (by omega) ⟨hI, hW⟩ ⟨⟨by omega, by omega⟩, hF⟩ dX12_mending_50
    · refine z_aload_n F dX12_mending_34 rfl (q := 0) rfl ?_
      refine z_iconst F dX12_mending_35 ?_
      refine zv_i (rest := []) F (k_X12_fails l M2 ⟨hI, hW⟩ 1 (by omega) (by omega)) cs_X12_262 (T := TX12) (N := 44) (ci := 12) rfl gs_131 (by decide) (by decide) rfl rfl rfl (Nat.le_of_ble_eq_true rfl) dX12_mending_36 (fun v29 M30 rv29 hI p31 => ?_)
      obtain ⟨hI, hW⟩ := hI
      obtain ⟨⟨av29, bv29⟩, fp31, xp31⟩ := p31
      have hF := hF.call fp31 (by decide)
      exact hret _ _ 39 _ (by omega) ⟨hI, hW⟩ ⟨⟨by omega, by omega⟩, hF⟩ dX12_mending_39
set_option maxRecDepth 4000 in
theorem k_X12_mend (l : Launch) (M : Mem) (hJ : Iw M) : CI l yX12_mend cX12_mend 2 (some .int) 17 (fun ad => [.ref (ad 131)]) M (fun z M' => ((-2147483648) ≤ z ∧ z ≤ 2147483647) ∧ Fr [131, 132, 137, 138, 139, 140] M M') := by
  obtain ⟨hI, hW⟩ := hJ
  have hF : Fr [131, 132, 137, 138, 139, 140] M M := Fr.rf
  refine en_i (by decide +kernel) (fun ad => by exact Nat.le_of_ble_eq_true rfl) (fun D cy ad A p e s m args below meth c Q F hret => ?_)
  refine z_eq (ls' := [(0, .ref (ad 131))]) rfl rfl rfl ?_
  refine z_aload_n F dX12_mend_0 rfl (q := 0) rfl ?_
  refine z_iconst F dX12_mend_1 ?_
  refine pf_X12_73 F hI gs_131 rfl bd_131_4 rfl rfl dX12_mend_2 (by omega) (by omega) (fun M2 hI sf1 f1 => ?_)
  have hF := hF.wrf f1 (by decide) (by decide)
  have hW : WFk M2 := hW.site f1 (by decide)
  refine z_aload_n F dX12_mend_5 rfl (q := 0) rfl ?_
  refine z_iconst F dX12_mend_6 ?_
  refine z_iconst F dX12_mend_7 ?_
  refine zv_i (rest := []) F (k_X12_laysPlacings l M2 ⟨hI, hW⟩ (-1) (by omega) (by omega) 1 (by omega) (by omega)) cs_X12_456 (T := TX12) (N := 44) (ci := 12) rfl gs_131 (by decide) (by decide) rfl rfl rfl (Nat.le_of_ble_eq_true rfl) dX12_mend_8 (fun v3 M4 rv3 hI p5 => ?_)
  obtain ⟨hI, hW⟩ := hI
  obtain ⟨⟨av3, bv3⟩, fp5⟩ := p5
  have hF := hF.call fp5 (by decide)
  refine z_if_ne (tgt := 20) F dX12_mend_11 (by decide +kernel) (by omega) (fun c6 => ?_) (fun c6 => ?_)
  · refine z_aload_n F dX12_mend_20 rfl (q := 0) rfl ?_
    refine zv_v (rest := []) F (k_X12_keeps l M4 ⟨hI, hW⟩) cs_X12_375 (T := TX12) (N := 44) (ci := 12) rfl gs_131 (by decide) (by decide) rfl rfl rfl (Nat.le_of_ble_eq_true rfl) dX12_mend_21 (fun M7 hI p8 => ?_)
    obtain ⟨hI, hW⟩ := hI
    have fp8 := p8
    have hF := hF.call fp8 (by decide)
    refine z_iconst F dX12_mend_24 ?_
    refine z_istore_n F dX12_mend_25 rfl (by decide) (ls' := [(1, ii 0), (0, .ref (ad 131))]) rfl ?_
    refine z_loc [1, 0] (ls' := [(0, .ref (ad 131)), (1, ii 0)]) rfl ?_
    suffices key26 : ∀ (n : Nat) (y10 : Int) (M9 : Mem), Inv M9 → WFk M9 → Fr [131, 132, 137, 138, 139, 140] M M9 → 0 ≤ y10 → y10 ≤ 8 → 8 - y10 < (n : Int) → Z D cy ad p l e (RMh 17) s m args below meth c A 2 0 0 Q 26 [(0, .ref (ad 131)), (1, ii y10)] [] M9 from key26 9 0 M7 hI hW hF (by omega) (by omega) (by omega)
    intro n26
    induction n26 with
    | zero => intro y10 M9 hI hW hF ay10 by10 hn26; exfalso; omega
    | succ n26 ih26 =>
      intro y10 M9 hI hW hF ay10 by10 hn26
      refine z_iload_n F dX12_mend_26 rfl (q := 1) rfl ?_
      refine z_aload_n F dX12_mend_27 rfl (q := 0) rfl ?_
      refine zv_i (rest := [ii y10]) F (k_X12_things l M9 ⟨hI, hW⟩) cs_X12_275 (T := TX12) (N := 44) (ci := 12) rfl gs_131 (by decide) (by decide) rfl rfl rfl (Nat.le_of_ble_eq_true rfl) dX12_mend_28 (fun v11 M12 rv11 hI p13 => ?_)
      obtain ⟨hI, hW⟩ := hI
      obtain ⟨⟨av11, bv11⟩, rfl, xp13⟩ := p13
      refine z_icmp_ge (tgt := 55) F dX12_mend_31 (by decide +kernel) (by omega) (by omega) (fun c14 => ?_) (fun c14 => ?_)
      · refine z_aload_n F dX12_mend_55 rfl (q := 0) rfl ?_
        refine gf_X12_440 F hI gs_131 rfl bd_131_24 dX12_mend_56 (fun v15 ev15 av15 bv15 => ?_)
        exact hret _ _ 59 _ (by omega) ⟨hI, hW⟩ ⟨⟨by omega, by omega⟩, hF⟩ dX12_mend_59
      · refine z_aload_n F dX12_mend_34 rfl (q := 0) rfl ?_
        refine rf_X12_9 F gs_131 rfl dX12_mend_35 ?_
        refine z_bipush F dX12_mend_38 (by decide +kernel) ?_
        refine z_iload_n F dX12_mend_40 rfl (q := 1) rfl ?_
        refine z_iadd F dX12_mend_41 ?_
        refine z_aload_n F dX12_mend_42 rfl (q := 0) rfl ?_
        refine rf_X12_39 F gs_131 rfl dX12_mend_43 ?_
        refine z_iload_n F dX12_mend_46 rfl (q := 1) rfl ?_
        refine z_iald F hI gs_140 (by omega) (by omega) (by decide) bd_140 dX12_mend_47 (fun v16 (ev16 : v16 = M9 140 _) av16 bv16 => ?_)
        refine z_iast F hI gs_132 (by omega) (by omega) (by decide) (bd_132.trans (kn_at (by omega) (by omega))) dX12_mend_48 (by omega) (by omega) (fun M18 hI sf17 f17 => ?_)
        have hF := hF.wrk f17 (by decide) (by omega)
        have hW : WFk M18 := hW.known f17 (by omega)
        refine z_iincN F dX12_mend_49 (q := 1) rfl (by decide) (fun v19 ev19 => ?_)
        refine z_eq (ls' := [(1, ii v19), (0, .ref (ad 131))]) rfl rfl rfl ?_
        refine z_goto (tgt := 26) F dX12_mend_52 (by decide +kernel) ?_
        refine z_loc [1, 0] (ls' := [(0, .ref (ad 131)), (1, ii v19)]) rfl ?_
        exact ih26 v19 M18 hI hW hF (by omega) (by omega) (by omega)
  · refine z_aload_n F dX12_mend_14 rfl (q := 0) rfl ?_
    refine z_iconst F dX12_mend_15 ?_
    refine zv_i (rest := []) F (k_X12_fails l M4 ⟨hI, hW⟩ 1 (by omega) (by omega)) cs_X12_262 (T := TX12) (N := 44) (ci := 12) rfl gs_131 (by decide) (by decide) rfl rfl rfl (Nat.le_of_ble_eq_true rfl) dX12_mend_16 (fun v20 M21 rv20 hI p22 => ?_)
    obtain ⟨hI, hW⟩ := hI
    obtain ⟨⟨av20, bv20⟩, fp22, xp22⟩ := p22
    have hF := hF.call fp22 (by decide)
    exact hret _ _ 19 _ (by omega) ⟨hI, hW⟩ ⟨⟨by omega, by omega⟩, hF⟩ dX12_mend_19
