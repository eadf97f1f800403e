theorem dX11_makeDrawnDeed_0 : decode cX11_makeDrawnDeed 0 = .ok (.aload_n 0, 1) := by decide +kernel
theorem dX11_makeDrawnDeed_1 : decode cX11_makeDrawnDeed 1 = .ok (.iconst 3, 1) := by decide +kernel
theorem dX11_makeDrawnDeed_10 : decode cX11_makeDrawnDeed 10 = .ok (.aload_n 0, 1) := by decide +kernel
theorem dX11_makeDrawnDeed_102 : decode cX11_makeDrawnDeed 102 = .ok (.iconst 0, 1) := by decide +kernel
theorem dX11_makeDrawnDeed_103 : decode cX11_makeDrawnDeed 103 = .ok (.ireturn, 1) := by decide +kernel
theorem dX11_makeDrawnDeed_104 : decode cX11_makeDrawnDeed 104 = .ok (.aload_n 0, 1) := by decide +kernel
theorem dX11_makeDrawnDeed_105 : decode cX11_makeDrawnDeed 105 = .ok (.getfield 41, 3) := by decide +kernel
theorem dX11_makeDrawnDeed_108 : decode cX11_makeDrawnDeed 108 = .ok (.aload_n 0, 1) := by decide +kernel
theorem dX11_makeDrawnDeed_109 : decode cX11_makeDrawnDeed 109 = .ok (.getfield 34, 3) := by decide +kernel
theorem dX11_makeDrawnDeed_11 : decode cX11_makeDrawnDeed 11 = .ok (.getfield 41, 3) := by decide +kernel
theorem dX11_makeDrawnDeed_112 : decode cX11_makeDrawnDeed 112 = .ok (.invokevirtual 217, 3) := by decide +kernel
theorem dX11_makeDrawnDeed_115 : decode cX11_makeDrawnDeed 115 = .ok (.aload_n 0, 1) := by decide +kernel
theorem dX11_makeDrawnDeed_116 : decode cX11_makeDrawnDeed 116 = .ok (.getfield 34, 3) := by decide +kernel
theorem dX11_makeDrawnDeed_119 : decode cX11_makeDrawnDeed 119 = .ok (.iload_n 2, 1) := by decide +kernel
theorem dX11_makeDrawnDeed_120 : decode cX11_makeDrawnDeed 120 = .ok (.iload_n 3, 1) := by decide +kernel
theorem dX11_makeDrawnDeed_121 : decode cX11_makeDrawnDeed 121 = .ok (.invokevirtual 228, 3) := by decide +kernel
theorem dX11_makeDrawnDeed_124 : decode cX11_makeDrawnDeed 124 = .ok (.pop, 1) := by decide +kernel
theorem dX11_makeDrawnDeed_125 : decode cX11_makeDrawnDeed 125 = .ok (.iconst 1, 1) := by decide +kernel
theorem dX11_makeDrawnDeed_126 : decode cX11_makeDrawnDeed 126 = .ok (.ireturn, 1) := by decide +kernel
theorem dX11_makeDrawnDeed_14 : decode cX11_makeDrawnDeed 14 = .ok (.aload_n 0, 1) := by decide +kernel
theorem dX11_makeDrawnDeed_15 : decode cX11_makeDrawnDeed 15 = .ok (.getfield 34, 3) := by decide +kernel
theorem dX11_makeDrawnDeed_18 : decode cX11_makeDrawnDeed 18 = .ok (.invokevirtual 217, 3) := by decide +kernel
theorem dX11_makeDrawnDeed_2 : decode cX11_makeDrawnDeed 2 = .ok (.invokevirtual 301, 3) := by decide +kernel
theorem dX11_makeDrawnDeed_21 : decode cX11_makeDrawnDeed 21 = .ok (.aload_n 0, 1) := by decide +kernel
theorem dX11_makeDrawnDeed_22 : decode cX11_makeDrawnDeed 22 = .ok (.getfield 34, 3) := by decide +kernel
theorem dX11_makeDrawnDeed_25 : decode cX11_makeDrawnDeed 25 = .ok (.invokevirtual 236, 3) := by decide +kernel
theorem dX11_makeDrawnDeed_28 : decode cX11_makeDrawnDeed 28 = .ok (.iconst 1, 1) := by decide +kernel
theorem dX11_makeDrawnDeed_29 : decode cX11_makeDrawnDeed 29 = .ok (.ireturn, 1) := by decide +kernel
theorem dX11_makeDrawnDeed_30 : decode cX11_makeDrawnDeed 30 = .ok (.aload_n 0, 1) := by decide +kernel
theorem dX11_makeDrawnDeed_31 : decode cX11_makeDrawnDeed 31 = .ok (.aload_n 0, 1) := by decide +kernel
theorem dX11_makeDrawnDeed_32 : decode cX11_makeDrawnDeed 32 = .ok (.getfield 16, 3) := by decide +kernel
theorem dX11_makeDrawnDeed_35 : decode cX11_makeDrawnDeed 35 = .ok (.getfield 286, 3) := by decide +kernel
theorem dX11_makeDrawnDeed_38 : decode cX11_makeDrawnDeed 38 = .ok (.invokevirtual 301, 3) := by decide +kernel
theorem dX11_makeDrawnDeed_41 : decode cX11_makeDrawnDeed 41 = .ok (.istore_n 2, 1) := by decide +kernel
theorem dX11_makeDrawnDeed_42 : decode cX11_makeDrawnDeed 42 = .ok (.iload_n 1, 1) := by decide +kernel
theorem dX11_makeDrawnDeed_43 : decode cX11_makeDrawnDeed 43 = .ok (.iconst 1, 1) := by decide +kernel
theorem dX11_makeDrawnDeed_44 : decode cX11_makeDrawnDeed 44 = .ok (.if_icmp .ne 34, 3) := by decide +kernel
theorem dX11_makeDrawnDeed_47 : decode cX11_makeDrawnDeed 47 = .ok (.iconst 1, 1) := by decide +kernel
theorem dX11_makeDrawnDeed_48 : decode cX11_makeDrawnDeed 48 = .ok (.aload_n 0, 1) := by decide +kernel
theorem dX11_makeDrawnDeed_49 : decode cX11_makeDrawnDeed 49 = .ok (.bipush 9, 2) := by decide +kernel
theorem dX11_makeDrawnDeed_5 : decode cX11_makeDrawnDeed 5 = .ok (.istore_n 1, 1) := by decide +kernel
theorem dX11_makeDrawnDeed_51 : decode cX11_makeDrawnDeed 51 = .ok (.invokevirtual 301, 3) := by decide +kernel
theorem dX11_makeDrawnDeed_54 : decode cX11_makeDrawnDeed 54 = .ok (.iadd, 1) := by decide +kernel
theorem dX11_makeDrawnDeed_55 : decode cX11_makeDrawnDeed 55 = .ok (.istore_n 3, 1) := by decide +kernel
theorem dX11_makeDrawnDeed_56 : decode cX11_makeDrawnDeed 56 = .ok (.aload_n 0, 1) := by decide +kernel
theorem dX11_makeDrawnDeed_57 : decode cX11_makeDrawnDeed 57 = .ok (.getfield 41, 3) := by decide +kernel
theorem dX11_makeDrawnDeed_6 : decode cX11_makeDrawnDeed 6 = .ok (.iload_n 1, 1) := by decide +kernel
theorem dX11_makeDrawnDeed_60 : decode cX11_makeDrawnDeed 60 = .ok (.aload_n 0, 1) := by decide +kernel
theorem dX11_makeDrawnDeed_61 : decode cX11_makeDrawnDeed 61 = .ok (.getfield 34, 3) := by decide +kernel
theorem dX11_makeDrawnDeed_64 : decode cX11_makeDrawnDeed 64 = .ok (.invokevirtual 217, 3) := by decide +kernel
theorem dX11_makeDrawnDeed_67 : decode cX11_makeDrawnDeed 67 = .ok (.aload_n 0, 1) := by decide +kernel
theorem dX11_makeDrawnDeed_68 : decode cX11_makeDrawnDeed 68 = .ok (.getfield 34, 3) := by decide +kernel
theorem dX11_makeDrawnDeed_7 : decode cX11_makeDrawnDeed 7 = .ok (.ifCond .ne 23, 3) := by decide +kernel
theorem dX11_makeDrawnDeed_71 : decode cX11_makeDrawnDeed 71 = .ok (.iload_n 2, 1) := by decide +kernel
theorem dX11_makeDrawnDeed_72 : decode cX11_makeDrawnDeed 72 = .ok (.iload_n 3, 1) := by decide +kernel
theorem dX11_makeDrawnDeed_73 : decode cX11_makeDrawnDeed 73 = .ok (.invokevirtual 221, 3) := by decide +kernel
theorem dX11_makeDrawnDeed_76 : decode cX11_makeDrawnDeed 76 = .ok (.iconst 1, 1) := by decide +kernel
theorem dX11_makeDrawnDeed_77 : decode cX11_makeDrawnDeed 77 = .ok (.ireturn, 1) := by decide +kernel
theorem dX11_makeDrawnDeed_78 : decode cX11_makeDrawnDeed 78 = .ok (.aload_n 0, 1) := by decide +kernel
theorem dX11_makeDrawnDeed_79 : decode cX11_makeDrawnDeed 79 = .ok (.aload_n 0, 1) := by decide +kernel
theorem dX11_makeDrawnDeed_80 : decode cX11_makeDrawnDeed 80 = .ok (.getfield 16, 3) := by decide +kernel
theorem dX11_makeDrawnDeed_83 : decode cX11_makeDrawnDeed 83 = .ok (.getfield 304, 3) := by decide +kernel
theorem dX11_makeDrawnDeed_86 : decode cX11_makeDrawnDeed 86 = .ok (.invokevirtual 301, 3) := by decide +kernel
theorem dX11_makeDrawnDeed_89 : decode cX11_makeDrawnDeed 89 = .ok (.istore_n 3, 1) := by decide +kernel
theorem dX11_makeDrawnDeed_90 : decode cX11_makeDrawnDeed 90 = .ok (.aload_n 0, 1) := by decide +kernel
theorem dX11_makeDrawnDeed_91 : decode cX11_makeDrawnDeed 91 = .ok (.getfield 34, 3) := by decide +kernel
theorem dX11_makeDrawnDeed_94 : decode cX11_makeDrawnDeed 94 = .ok (.iload_n 2, 1) := by decide +kernel
theorem dX11_makeDrawnDeed_95 : decode cX11_makeDrawnDeed 95 = .ok (.iload_n 3, 1) := by decide +kernel
theorem dX11_makeDrawnDeed_96 : decode cX11_makeDrawnDeed 96 = .ok (.invokevirtual 225, 3) := by decide +kernel
theorem dX11_makeDrawnDeed_99 : decode cX11_makeDrawnDeed 99 = .ok (.ifCond .eq 5, 3) := by decide +kernel
theorem dX11_oddRing_0 : decode cX11_oddRing 0 = .ok (.iload_n 1, 1) := by decide +kernel
theorem dX11_oddRing_1 : decode cX11_oddRing 1 = .ok (.iconst 1, 1) := by decide +kernel
theorem dX11_oddRing_12 : decode cX11_oddRing 12 = .ok (.istore_n 2, 1) := by decide +kernel
theorem dX11_oddRing_13 : decode cX11_oddRing 13 = .ok (.iload_n 2, 1) := by decide +kernel
theorem dX11_oddRing_14 : decode cX11_oddRing 14 = .ok (.iconst (-1), 1) := by decide +kernel
theorem dX11_oddRing_15 : decode cX11_oddRing 15 = .ok (.if_icmp .eq 8, 3) := by decide +kernel
theorem dX11_oddRing_18 : decode cX11_oddRing 18 = .ok (.iload_n 1, 1) := by decide +kernel
theorem dX11_oddRing_19 : decode cX11_oddRing 19 = .ok (.iconst 1, 1) := by decide +kernel
theorem dX11_oddRing_2 : decode cX11_oddRing 2 = .ok (.invokestatic 252, 3) := by decide +kernel
theorem dX11_oddRing_20 : decode cX11_oddRing 20 = .ok (.if_icmp .ne 7, 3) := by decide +kernel
theorem dX11_oddRing_23 : decode cX11_oddRing 23 = .ok (.iload_n 2, 1) := by decide +kernel
theorem dX11_oddRing_24 : decode cX11_oddRing 24 = .ok (.goto 7, 3) := by decide +kernel
theorem dX11_oddRing_27 : decode cX11_oddRing 27 = .ok (.iload_n 2, 1) := by decide +kernel
theorem dX11_oddRing_28 : decode cX11_oddRing 28 = .ok (.invokestatic 311, 3) := by decide +kernel
theorem dX11_oddRing_31 : decode cX11_oddRing 31 = .ok (.ireturn, 1) := by decide +kernel
theorem dX11_oddRing_5 : decode cX11_oddRing 5 = .ok (.aload_n 0, 1) := by decide +kernel
theorem dX11_oddRing_6 : decode cX11_oddRing 6 = .ok (.getfield 16, 3) := by decide +kernel
theorem dX11_oddRing_9 : decode cX11_oddRing 9 = .ok (.invokevirtual 308, 3) := by decide +kernel
theorem dX11_placing_0 : decode cX11_placing 0 = .ok (.aload_n 0, 1) := by decide +kernel
theorem dX11_placing_1 : decode cX11_placing 1 = .ok (.iload_n 2, 1) := by decide +kernel
theorem dX11_placing_12 : decode cX11_placing 12 = .ok (.dup, 1) := by decide +kernel
theorem dX11_placing_13 : decode cX11_placing 13 = .ok (.ldc_w 322, 3) := by decide +kernel
theorem dX11_placing_16 : decode cX11_placing 16 = .ok (.invokespecial 105, 3) := by decide +kernel
theorem dX11_placing_19 : decode cX11_placing 19 = .ok (.athrow, 1) := by decide +kernel
theorem dX11_placing_2 : decode cX11_placing 2 = .ok (.invokevirtual 132, 3) := by decide +kernel
theorem dX11_placing_20 : decode cX11_placing 20 = .ok (.aload_n 0, 1) := by decide +kernel
theorem dX11_placing_21 : decode cX11_placing 21 = .ok (.getfield 66, 3) := by decide +kernel
theorem dX11_placing_24 : decode cX11_placing 24 = .ok (.iload_n 1, 1) := by decide +kernel
theorem dX11_placing_25 : decode cX11_placing 25 = .ok (.invokevirtual 324, 3) := by decide +kernel
theorem dX11_placing_28 : decode cX11_placing 28 = .ok (.ifCond .eq 15, 3) := by decide +kernel
theorem dX11_placing_31 : decode cX11_placing 31 = .ok (.aload_n 0, 1) := by decide +kernel
theorem dX11_placing_32 : decode cX11_placing 32 = .ok (.getfield 66, 3) := by decide +kernel
theorem dX11_placing_35 : decode cX11_placing 35 = .ok (.getfield 327, 3) := by decide +kernel
theorem dX11_placing_38 : decode cX11_placing 38 = .ok (.iload_n 2, 1) := by decide +kernel
theorem dX11_placing_39 : decode cX11_placing 39 = .ok (.iaload, 1) := by decide +kernel
theorem dX11_placing_40 : decode cX11_placing 40 = .ok (.goto 4, 3) := by decide +kernel
theorem dX11_placing_43 : decode cX11_placing 43 = .ok (.iconst (-1), 1) := by decide +kernel
theorem dX11_placing_44 : decode cX11_placing 44 = .ok (.ireturn, 1) := by decide +kernel
theorem dX11_placing_5 : decode cX11_placing 5 = .ok (.iload_n 1, 1) := by decide +kernel
theorem dX11_placing_6 : decode cX11_placing 6 = .ok (.ifCond .ge 14, 3) := by decide +kernel
theorem dX11_placing_9 : decode cX11_placing 9 = .ok (.new 101, 3) := by decide +kernel
theorem dX11_placings_0 : decode cX11_placings 0 = .ok (.aload_n 0, 1) := by decide +kernel
theorem dX11_placings_1 : decode cX11_placings 1 = .ok (.getfield 66, 3) := by decide +kernel
theorem dX11_placings_4 : decode cX11_placings 4 = .ok (.invokevirtual 319, 3) := by decide +kernel
theorem dX11_placings_7 : decode cX11_placings 7 = .ok (.ireturn, 1) := by decide +kernel
theorem dX11_season_0 : decode cX11_season 0 = .ok (.iload_n 2, 1) := by decide +kernel
theorem dX11_season_1 : decode cX11_season 1 = .ok (.iconst 1, 1) := by decide +kernel
theorem dX11_season_11 : decode cX11_season 11 = .ok (.new 101, 3) := by decide +kernel
theorem dX11_season_14 : decode cX11_season 14 = .ok (.dup, 1) := by decide +kernel
theorem dX11_season_15 : decode cX11_season 15 = .ok (.ldc_w 284, 3) := by decide +kernel
theorem dX11_season_18 : decode cX11_season 18 = .ok (.invokespecial 105, 3) := by decide +kernel
theorem dX11_season_2 : decode cX11_season 2 = .ok (.if_icmp .lt 9, 3) := by decide +kernel
theorem dX11_season_21 : decode cX11_season 21 = .ok (.athrow, 1) := by decide +kernel
theorem dX11_season_22 : decode cX11_season 22 = .ok (.aload_n 0, 1) := by decide +kernel
theorem dX11_season_23 : decode cX11_season 23 = .ok (.getfield 16, 3) := by decide +kernel
theorem dX11_season_26 : decode cX11_season 26 = .ok (.getfield 286, 3) := by decide +kernel
theorem dX11_season_29 : decode cX11_season 29 = .ok (.ifCond .ne 14, 3) := by decide +kernel
theorem dX11_season_32 : decode cX11_season 32 = .ok (.new 289, 3) := by decide +kernel
theorem dX11_season_35 : decode cX11_season 35 = .ok (.dup, 1) := by decide +kernel
theorem dX11_season_36 : decode cX11_season 36 = .ok (.ldc_w 291, 3) := by decide +kernel
theorem dX11_season_39 : decode cX11_season 39 = .ok (.invokespecial 293, 3) := by decide +kernel
theorem dX11_season_42 : decode cX11_season 42 = .ok (.athrow, 1) := by decide +kernel
theorem dX11_season_43 : decode cX11_season 43 = .ok (.aload_n 0, 1) := by decide +kernel
theorem dX11_season_44 : decode cX11_season 44 = .ok (.iload_n 1, 1) := by decide +kernel
theorem dX11_season_45 : decode cX11_season 45 = .ok (.putfield 294, 3) := by decide +kernel
theorem dX11_season_48 : decode cX11_season 48 = .ok (.iconst 0, 1) := by decide +kernel
theorem dX11_season_49 : decode cX11_season 49 = .ok (.istore_n 3, 1) := by decide +kernel
theorem dX11_season_5 : decode cX11_season 5 = .ok (.iload_n 2, 1) := by decide +kernel
theorem dX11_season_50 : decode cX11_season 50 = .ok (.iconst 0, 1) := by decide +kernel
theorem dX11_season_51 : decode cX11_season 51 = .ok (.istore 4, 2) := by decide +kernel
theorem dX11_season_53 : decode cX11_season 53 = .ok (.iload 4, 2) := by decide +kernel
theorem dX11_season_55 : decode cX11_season 55 = .ok (.iload_n 2, 1) := by decide +kernel
theorem dX11_season_56 : decode cX11_season 56 = .ok (.if_icmp .ge 19, 3) := by decide +kernel
theorem dX11_season_59 : decode cX11_season 59 = .ok (.aload_n 0, 1) := by decide +kernel
theorem dX11_season_6 : decode cX11_season 6 = .ok (.bipush 30, 2) := by decide +kernel
theorem dX11_season_60 : decode cX11_season 60 = .ok (.invokevirtual 297, 3) := by decide +kernel
theorem dX11_season_63 : decode cX11_season 63 = .ok (.ifCond .eq 6, 3) := by decide +kernel
theorem dX11_season_66 : decode cX11_season 66 = .ok (.iinc 3 1, 3) := by decide +kernel
theorem dX11_season_69 : decode cX11_season 69 = .ok (.iinc 4 1, 3) := by decide +kernel
theorem dX11_season_72 : decode cX11_season 72 = .ok (.goto (-19), 3) := by decide +kernel
theorem dX11_season_75 : decode cX11_season 75 = .ok (.iload_n 3, 1) := by decide +kernel
theorem dX11_season_76 : decode cX11_season 76 = .ok (.ireturn, 1) := by decide +kernel
theorem dX11_season_8 : decode cX11_season 8 = .ok (.if_icmp .le 14, 3) := by decide +kernel
theorem dX11_sides_0 : decode cX11_sides 0 = .ok (.aload_n 0, 1) := by decide +kernel
theorem dX11_sides_1 : decode cX11_sides 1 = .ok (.getfield 16, 3) := by decide +kernel
theorem dX11_sides_4 : decode cX11_sides 4 = .ok (.invokevirtual 316, 3) := by decide +kernel
theorem dX11_sides_7 : decode cX11_sides 7 = .ok (.ireturn, 1) := by decide +kernel
theorem dX5_barredBy_0 : decode cX5_barredBy 0 = .ok (.iconst 1, 1) := by decide +kernel
theorem dX5_barredBy_1 : decode cX5_barredBy 1 = .ok (.iload_n 2, 1) := by decide +kernel
theorem dX5_barredBy_11 : decode cX5_barredBy 11 = .ok (.iload_n 1, 1) := by decide +kernel
theorem dX5_barredBy_12 : decode cX5_barredBy 12 = .ok (.iload_n 3, 1) := by decide +kernel
theorem dX5_barredBy_13 : decode cX5_barredBy 13 = .ok (.iconst 0, 1) := by decide +kernel
theorem dX5_barredBy_14 : decode cX5_barredBy 14 = .ok (.invokevirtual 102, 3) := by decide +kernel
theorem dX5_barredBy_17 : decode cX5_barredBy 17 = .ok (.ifCond .eq 27, 3) := by decide +kernel
theorem dX5_barredBy_2 : decode cX5_barredBy 2 = .ok (.ishl, 1) := by decide +kernel
theorem dX5_barredBy_20 : decode cX5_barredBy 20 = .ok (.aload_n 0, 1) := by decide +kernel
theorem dX5_barredBy_21 : decode cX5_barredBy 21 = .ok (.getfield 21, 3) := by decide +kernel
theorem dX5_barredBy_24 : decode cX5_barredBy 24 = .ok (.getfield 99, 3) := by decide +kernel
theorem dX5_barredBy_27 : decode cX5_barredBy 27 = .ok (.iload_n 2, 1) := by decide +kernel
theorem dX5_barredBy_28 : decode cX5_barredBy 28 = .ok (.iaload, 1) := by decide +kernel
theorem dX5_barredBy_29 : decode cX5_barredBy 29 = .ok (.aload_n 0, 1) := by decide +kernel
theorem dX5_barredBy_3 : decode cX5_barredBy 3 = .ok (.istore 4, 2) := by decide +kernel
theorem dX5_barredBy_30 : decode cX5_barredBy 30 = .ok (.getfield 21, 3) := by decide +kernel
theorem dX5_barredBy_33 : decode cX5_barredBy 33 = .ok (.getfield 93, 3) := by decide +kernel
theorem dX5_barredBy_36 : decode cX5_barredBy 36 = .ok (.iload_n 2, 1) := by decide +kernel
theorem dX5_barredBy_37 : decode cX5_barredBy 37 = .ok (.iaload, 1) := by decide +kernel
theorem dX5_barredBy_38 : decode cX5_barredBy 38 = .ok (.iconst (-1), 1) := by decide +kernel
theorem dX5_barredBy_39 : decode cX5_barredBy 39 = .ok (.ixor, 1) := by decide +kernel
theorem dX5_barredBy_40 : decode cX5_barredBy 40 = .ok (.iand, 1) := by decide +kernel
theorem dX5_barredBy_41 : decode cX5_barredBy 41 = .ok (.goto 4, 3) := by decide +kernel
theorem dX5_barredBy_44 : decode cX5_barredBy 44 = .ok (.iconst 0, 1) := by decide +kernel
theorem dX5_barredBy_45 : decode cX5_barredBy 45 = .ok (.ior, 1) := by decide +kernel
theorem dX5_barredBy_46 : decode cX5_barredBy 46 = .ok (.istore 4, 2) := by decide +kernel
theorem dX5_barredBy_48 : decode cX5_barredBy 48 = .ok (.iload 4, 2) := by decide +kernel
theorem dX5_barredBy_5 : decode cX5_barredBy 5 = .ok (.iload 4, 2) := by decide +kernel
theorem dX5_barredBy_50 : decode cX5_barredBy 50 = .ok (.aload_n 0, 1) := by decide +kernel
theorem dX5_barredBy_51 : decode cX5_barredBy 51 = .ok (.getfield 25, 3) := by decide +kernel
theorem dX5_barredBy_54 : decode cX5_barredBy 54 = .ok (.iload_n 1, 1) := by decide +kernel
theorem dX5_barredBy_55 : decode cX5_barredBy 55 = .ok (.iload_n 3, 1) := by decide +kernel
theorem dX5_barredBy_56 : decode cX5_barredBy 56 = .ok (.iconst 1, 1) := by decide +kernel
theorem dX5_barredBy_57 : decode cX5_barredBy 57 = .ok (.invokevirtual 102, 3) := by decide +kernel
theorem dX5_barredBy_60 : decode cX5_barredBy 60 = .ok (.ifCond .eq 15, 3) := by decide +kernel
theorem dX5_barredBy_63 : decode cX5_barredBy 63 = .ok (.aload_n 0, 1) := by decide +kernel
theorem dX5_barredBy_64 : decode cX5_barredBy 64 = .ok (.getfield 21, 3) := by decide +kernel
theorem dX5_barredBy_67 : decode cX5_barredBy 67 = .ok (.getfield 93, 3) := by decide +kernel
theorem dX5_barredBy_7 : decode cX5_barredBy 7 = .ok (.aload_n 0, 1) := by decide +kernel
theorem dX5_barredBy_70 : decode cX5_barredBy 70 = .ok (.iload_n 2, 1) := by decide +kernel
theorem dX5_barredBy_71 : decode cX5_barredBy 71 = .ok (.iaload, 1) := by decide +kernel
theorem dX5_barredBy_72 : decode cX5_barredBy 72 = .ok (.goto 4, 3) := by decide +kernel
theorem dX5_barredBy_75 : decode cX5_barredBy 75 = .ok (.iconst 0, 1) := by decide +kernel
theorem dX5_barredBy_76 : decode cX5_barredBy 76 = .ok (.ior, 1) := by decide +kernel
theorem dX5_barredBy_77 : decode cX5_barredBy 77 = .ok (.istore 4, 2) := by decide +kernel
theorem dX5_barredBy_79 : decode cX5_barredBy 79 = .ok (.iload 4, 2) := by decide +kernel
theorem dX5_barredBy_8 : decode cX5_barredBy 8 = .ok (.getfield 25, 3) := by decide +kernel
theorem dX5_barredBy_81 : decode cX5_barredBy 81 = .ok (.ireturn, 1) := by decide +kernel
theorem dX5_clearBoard_0 : decode cX5_clearBoard 0 = .ok (.aload_n 0, 1) := by decide +kernel
theorem dX5_clearBoard_1 : decode cX5_clearBoard 1 = .ok (.iconst 0, 1) := by decide +kernel
theorem dX5_clearBoard_10 : decode cX5_clearBoard 10 = .ok (.iconst 1, 1) := by decide +kernel
theorem dX5_clearBoard_100 : decode cX5_clearBoard 100 = .ok (.iload_n 3, 1) := by decide +kernel
theorem dX5_clearBoard_101 : decode cX5_clearBoard 101 = .ok (.aload_n 0, 1) := by decide +kernel
theorem dX5_clearBoard_102 : decode cX5_clearBoard 102 = .ok (.getfield 25, 3) := by decide +kernel
theorem dX5_clearBoard_105 : decode cX5_clearBoard 105 = .ok (.getfield 74, 3) := by decide +kernel
theorem dX5_clearBoard_108 : decode cX5_clearBoard 108 = .ok (.iload_n 3, 1) := by decide +kernel
theorem dX5_clearBoard_109 : decode cX5_clearBoard 109 = .ok (.iaload, 1) := by decide +kernel
theorem dX5_clearBoard_11 : decode cX5_clearBoard 11 = .ok (.istore_n 1, 1) := by decide +kernel
theorem dX5_clearBoard_110 : decode cX5_clearBoard 110 = .ok (.iload_n 2, 1) := by decide +kernel
theorem dX5_clearBoard_111 : decode cX5_clearBoard 111 = .ok (.invokevirtual 83, 3) := by decide +kernel
theorem dX5_clearBoard_114 : decode cX5_clearBoard 114 = .ok (.iconst (-1), 1) := by decide +kernel
theorem dX5_clearBoard_115 : decode cX5_clearBoard 115 = .ok (.ixor, 1) := by decide +kernel
theorem dX5_clearBoard_116 : decode cX5_clearBoard 116 = .ok (.goto 4, 3) := by decide +kernel
theorem dX5_clearBoard_119 : decode cX5_clearBoard 119 = .ok (.iconst (-1), 1) := by decide +kernel
theorem dX5_clearBoard_12 : decode cX5_clearBoard 12 = .ok (.iconst 0, 1) := by decide +kernel
theorem dX5_clearBoard_120 : decode cX5_clearBoard 120 = .ok (.iand, 1) := by decide +kernel
theorem dX5_clearBoard_121 : decode cX5_clearBoard 121 = .ok (.iastore, 1) := by decide +kernel
theorem dX5_clearBoard_122 : decode cX5_clearBoard 122 = .ok (.iinc 3 1, 3) := by decide +kernel
theorem dX5_clearBoard_125 : decode cX5_clearBoard 125 = .ok (.goto (-60), 3) := by decide +kernel
theorem dX5_clearBoard_128 : decode cX5_clearBoard 128 = .ok (.iload_n 1, 1) := by decide +kernel
theorem dX5_clearBoard_129 : decode cX5_clearBoard 129 = .ok (.aload_n 0, 1) := by decide +kernel
theorem dX5_clearBoard_13 : decode cX5_clearBoard 13 = .ok (.istore_n 2, 1) := by decide +kernel
theorem dX5_clearBoard_130 : decode cX5_clearBoard 130 = .ok (.getfield 9, 3) := by decide +kernel
theorem dX5_clearBoard_133 : decode cX5_clearBoard 133 = .ok (.iload_n 2, 1) := by decide +kernel
theorem dX5_clearBoard_134 : decode cX5_clearBoard 134 = .ok (.iaload, 1) := by decide +kernel
theorem dX5_clearBoard_135 : decode cX5_clearBoard 135 = .ok (.ifCond .eq 7, 3) := by decide +kernel
theorem dX5_clearBoard_138 : decode cX5_clearBoard 138 = .ok (.iconst 1, 1) := by decide +kernel
theorem dX5_clearBoard_139 : decode cX5_clearBoard 139 = .ok (.goto 4, 3) := by decide +kernel
theorem dX5_clearBoard_14 : decode cX5_clearBoard 14 = .ok (.iload_n 2, 1) := by decide +kernel
theorem dX5_clearBoard_142 : decode cX5_clearBoard 142 = .ok (.iconst 0, 1) := by decide +kernel
theorem dX5_clearBoard_143 : decode cX5_clearBoard 143 = .ok (.iand, 1) := by decide +kernel
theorem dX5_clearBoard_144 : decode cX5_clearBoard 144 = .ok (.istore_n 1, 1) := by decide +kernel
theorem dX5_clearBoard_145 : decode cX5_clearBoard 145 = .ok (.aload_n 0, 1) := by decide +kernel
theorem dX5_clearBoard_146 : decode cX5_clearBoard 146 = .ok (.getfield 21, 3) := by decide +kernel
theorem dX5_clearBoard_149 : decode cX5_clearBoard 149 = .ok (.iload_n 2, 1) := by decide +kernel
theorem dX5_clearBoard_15 : decode cX5_clearBoard 15 = .ok (.aload_n 0, 1) := by decide +kernel
theorem dX5_clearBoard_150 : decode cX5_clearBoard 150 = .ok (.invokevirtual 70, 3) := by decide +kernel
theorem dX5_clearBoard_153 : decode cX5_clearBoard 153 = .ok (.ifCond .ne 11, 3) := by decide +kernel
theorem dX5_clearBoard_156 : decode cX5_clearBoard 156 = .ok (.aload_n 0, 1) := by decide +kernel
theorem dX5_clearBoard_157 : decode cX5_clearBoard 157 = .ok (.iload_n 2, 1) := by decide +kernel
theorem dX5_clearBoard_158 : decode cX5_clearBoard 158 = .ok (.invokevirtual 87, 3) := by decide +kernel
theorem dX5_clearBoard_16 : decode cX5_clearBoard 16 = .ok (.getfield 21, 3) := by decide +kernel
theorem dX5_clearBoard_161 : decode cX5_clearBoard 161 = .ok (.ifCond .eq 11, 3) := by decide +kernel
theorem dX5_clearBoard_164 : decode cX5_clearBoard 164 = .ok (.aload_n 0, 1) := by decide +kernel
theorem dX5_clearBoard_165 : decode cX5_clearBoard 165 = .ok (.iload_n 2, 1) := by decide +kernel
theorem dX5_clearBoard_166 : decode cX5_clearBoard 166 = .ok (.putfield 67, 3) := by decide +kernel
theorem dX5_clearBoard_169 : decode cX5_clearBoard 169 = .ok (.goto 15, 3) := by decide +kernel
theorem dX5_clearBoard_172 : decode cX5_clearBoard 172 = .ok (.aload_n 0, 1) := by decide +kernel
theorem dX5_clearBoard_173 : decode cX5_clearBoard 173 = .ok (.dup, 1) := by decide +kernel
theorem dX5_clearBoard_174 : decode cX5_clearBoard 174 = .ok (.getfield 64, 3) := by decide +kernel
theorem dX5_clearBoard_177 : decode cX5_clearBoard 177 = .ok (.iconst 1, 1) := by decide +kernel
theorem dX5_clearBoard_178 : decode cX5_clearBoard 178 = .ok (.iload_n 2, 1) := by decide +kernel
theorem dX5_clearBoard_179 : decode cX5_clearBoard 179 = .ok (.ishl, 1) := by decide +kernel
theorem dX5_clearBoard_180 : decode cX5_clearBoard 180 = .ok (.ior, 1) := by decide +kernel
theorem dX5_clearBoard_181 : decode cX5_clearBoard 181 = .ok (.putfield 64, 3) := by decide +kernel
theorem dX5_clearBoard_184 : decode cX5_clearBoard 184 = .ok (.iinc 2 1, 3) := by decide +kernel
theorem dX5_clearBoard_187 : decode cX5_clearBoard 187 = .ok (.goto (-173), 3) := by decide +kernel
theorem dX5_clearBoard_19 : decode cX5_clearBoard 19 = .ok (.getfield 37, 3) := by decide +kernel
theorem dX5_clearBoard_190 : decode cX5_clearBoard 190 = .ok (.iload_n 1, 1) := by decide +kernel
theorem dX5_clearBoard_191 : decode cX5_clearBoard 191 = .ok (.ireturn, 1) := by decide +kernel
theorem dX5_clearBoard_2 : decode cX5_clearBoard 2 = .ok (.putfield 64, 3) := by decide +kernel
theorem dX5_clearBoard_22 : decode cX5_clearBoard 22 = .ok (.if_icmp .ge 168, 3) := by decide +kernel
theorem dX5_clearBoard_25 : decode cX5_clearBoard 25 = .ok (.aload_n 0, 1) := by decide +kernel
theorem dX5_clearBoard_26 : decode cX5_clearBoard 26 = .ok (.getfield 9, 3) := by decide +kernel
theorem dX5_clearBoard_29 : decode cX5_clearBoard 29 = .ok (.iload_n 2, 1) := by decide +kernel
theorem dX5_clearBoard_30 : decode cX5_clearBoard 30 = .ok (.aload_n 0, 1) := by decide +kernel
theorem dX5_clearBoard_31 : decode cX5_clearBoard 31 = .ok (.getfield 21, 3) := by decide +kernel
theorem dX5_clearBoard_34 : decode cX5_clearBoard 34 = .ok (.iload_n 2, 1) := by decide +kernel
theorem dX5_clearBoard_35 : decode cX5_clearBoard 35 = .ok (.invokevirtual 70, 3) := by decide +kernel
theorem dX5_clearBoard_38 : decode cX5_clearBoard 38 = .ok (.ifCond .eq 17, 3) := by decide +kernel
theorem dX5_clearBoard_41 : decode cX5_clearBoard 41 = .ok (.iconst 1, 1) := by decide +kernel
theorem dX5_clearBoard_42 : decode cX5_clearBoard 42 = .ok (.aload_n 0, 1) := by decide +kernel
theorem dX5_clearBoard_43 : decode cX5_clearBoard 43 = .ok (.getfield 25, 3) := by decide +kernel
theorem dX5_clearBoard_46 : decode cX5_clearBoard 46 = .ok (.getfield 74, 3) := by decide +kernel
theorem dX5_clearBoard_49 : decode cX5_clearBoard 49 = .ok (.iload_n 2, 1) := by decide +kernel
theorem dX5_clearBoard_5 : decode cX5_clearBoard 5 = .ok (.aload_n 0, 1) := by decide +kernel
theorem dX5_clearBoard_50 : decode cX5_clearBoard 50 = .ok (.iaload, 1) := by decide +kernel
theorem dX5_clearBoard_51 : decode cX5_clearBoard 51 = .ok (.ishl, 1) := by decide +kernel
theorem dX5_clearBoard_52 : decode cX5_clearBoard 52 = .ok (.goto 10, 3) := by decide +kernel
theorem dX5_clearBoard_55 : decode cX5_clearBoard 55 = .ok (.aload_n 0, 1) := by decide +kernel
theorem dX5_clearBoard_56 : decode cX5_clearBoard 56 = .ok (.getfield 21, 3) := by decide +kernel
theorem dX5_clearBoard_59 : decode cX5_clearBoard 59 = .ok (.invokevirtual 79, 3) := by decide +kernel
theorem dX5_clearBoard_6 : decode cX5_clearBoard 6 = .ok (.iconst (-1), 1) := by decide +kernel
theorem dX5_clearBoard_62 : decode cX5_clearBoard 62 = .ok (.iastore, 1) := by decide +kernel
theorem dX5_clearBoard_63 : decode cX5_clearBoard 63 = .ok (.iconst 0, 1) := by decide +kernel
theorem dX5_clearBoard_64 : decode cX5_clearBoard 64 = .ok (.istore_n 3, 1) := by decide +kernel
theorem dX5_clearBoard_65 : decode cX5_clearBoard 65 = .ok (.iload_n 3, 1) := by decide +kernel
theorem dX5_clearBoard_66 : decode cX5_clearBoard 66 = .ok (.aload_n 0, 1) := by decide +kernel
theorem dX5_clearBoard_67 : decode cX5_clearBoard 67 = .ok (.getfield 21, 3) := by decide +kernel
theorem dX5_clearBoard_7 : decode cX5_clearBoard 7 = .ok (.putfield 67, 3) := by decide +kernel
theorem dX5_clearBoard_70 : decode cX5_clearBoard 70 = .ok (.getfield 37, 3) := by decide +kernel
theorem dX5_clearBoard_73 : decode cX5_clearBoard 73 = .ok (.if_icmp .ge 55, 3) := by decide +kernel
theorem dX5_clearBoard_76 : decode cX5_clearBoard 76 = .ok (.aload_n 0, 1) := by decide +kernel
theorem dX5_clearBoard_77 : decode cX5_clearBoard 77 = .ok (.getfield 9, 3) := by decide +kernel
theorem dX5_clearBoard_80 : decode cX5_clearBoard 80 = .ok (.iload_n 2, 1) := by decide +kernel
theorem dX5_clearBoard_81 : decode cX5_clearBoard 81 = .ok (.dup2, 1) := by decide +kernel
theorem dX5_clearBoard_82 : decode cX5_clearBoard 82 = .ok (.iaload, 1) := by decide +kernel
theorem dX5_clearBoard_83 : decode cX5_clearBoard 83 = .ok (.iload_n 3, 1) := by decide +kernel
theorem dX5_clearBoard_84 : decode cX5_clearBoard 84 = .ok (.iload_n 2, 1) := by decide +kernel
theorem dX5_clearBoard_85 : decode cX5_clearBoard 85 = .ok (.if_icmp .eq 34, 3) := by decide +kernel
theorem dX5_clearBoard_88 : decode cX5_clearBoard 88 = .ok (.aload_n 0, 1) := by decide +kernel
theorem dX5_clearBoard_89 : decode cX5_clearBoard 89 = .ok (.getfield 21, 3) := by decide +kernel
theorem dX5_clearBoard_92 : decode cX5_clearBoard 92 = .ok (.iload_n 3, 1) := by decide +kernel
theorem dX5_clearBoard_93 : decode cX5_clearBoard 93 = .ok (.invokevirtual 70, 3) := by decide +kernel
theorem dX5_clearBoard_96 : decode cX5_clearBoard 96 = .ok (.ifCond .eq 23, 3) := by decide +kernel
theorem dX5_clearBoard_99 : decode cX5_clearBoard 99 = .ok (.aload_n 0, 1) := by decide +kernel
theorem dX5_countAll_0 : decode cX5_countAll 0 = .ok (.aload_n 0, 1) := by decide +kernel
theorem dX5_countAll_1 : decode cX5_countAll 1 = .ok (.invokevirtual 29, 3) := by decide +kernel
theorem dX5_countAll_12 : decode cX5_countAll 12 = .ok (.goto 4, 3) := by decide +kernel
theorem dX5_countAll_15 : decode cX5_countAll 15 = .ok (.iconst 0, 1) := by decide +kernel
theorem dX5_countAll_16 : decode cX5_countAll 16 = .ok (.ireturn, 1) := by decide +kernel
theorem dX5_countAll_4 : decode cX5_countAll 4 = .ok (.ifCond .eq 11, 3) := by decide +kernel
theorem dX5_countAll_7 : decode cX5_countAll 7 = .ok (.aload_n 0, 1) := by decide +kernel
theorem dX5_countAll_8 : decode cX5_countAll 8 = .ok (.iconst 0, 1) := by decide +kernel
theorem dX5_countAll_9 : decode cX5_countAll 9 = .ok (.invokevirtual 33, 3) := by decide +kernel
theorem dX5_find_0 : decode cX5_find 0 = .ok (.aload_n 0, 1) := by decide +kernel
theorem dX5_find_1 : decode cX5_find 1 = .ok (.invokevirtual 29, 3) := by decide +kernel
theorem dX5_find_10 : decode cX5_find 10 = .ok (.iload 4, 2) := by decide +kernel
theorem dX5_find_100 : decode cX5_find 100 = .ok (.istore_n 2, 1) := by decide +kernel
theorem dX5_find_101 : decode cX5_find 101 = .ok (.iload_n 3, 1) := by decide +kernel
theorem dX5_find_102 : decode cX5_find 102 = .ok (.iload_n 2, 1) := by decide +kernel
theorem dX5_find_103 : decode cX5_find 103 = .ok (.ifCond .eq 7, 3) := by decide +kernel
theorem dX5_find_106 : decode cX5_find 106 = .ok (.iconst 0, 1) := by decide +kernel
theorem dX5_find_107 : decode cX5_find 107 = .ok (.goto 5, 3) := by decide +kernel
theorem dX5_find_110 : decode cX5_find 110 = .ok (.iload 6, 2) := by decide +kernel
theorem dX5_find_112 : decode cX5_find 112 = .ok (.isub, 1) := by decide +kernel
theorem dX5_find_113 : decode cX5_find 113 = .ok (.istore_n 3, 1) := by decide +kernel
theorem dX5_find_114 : decode cX5_find 114 = .ok (.iinc 5 1, 3) := by decide +kernel
theorem dX5_find_117 : decode cX5_find 117 = .ok (.goto (-86), 3) := by decide +kernel
theorem dX5_find_12 : decode cX5_find 12 = .ok (.aload_n 0, 1) := by decide +kernel
theorem dX5_find_120 : decode cX5_find 120 = .ok (.iinc 4 1, 3) := by decide +kernel
theorem dX5_find_123 : decode cX5_find 123 = .ok (.goto (-113), 3) := by decide +kernel
theorem dX5_find_126 : decode cX5_find 126 = .ok (.iload_n 2, 1) := by decide +kernel
theorem dX5_find_127 : decode cX5_find 127 = .ok (.ireturn, 1) := by decide +kernel
theorem dX5_find_13 : decode cX5_find 13 = .ok (.getfield 21, 3) := by decide +kernel
theorem dX5_find_16 : decode cX5_find 16 = .ok (.getfield 37, 3) := by decide +kernel
theorem dX5_find_19 : decode cX5_find 19 = .ok (.if_icmp .ge 107, 3) := by decide +kernel
theorem dX5_find_22 : decode cX5_find 22 = .ok (.iload_n 2, 1) := by decide +kernel
theorem dX5_find_23 : decode cX5_find 23 = .ok (.ifCond .eq 103, 3) := by decide +kernel
theorem dX5_find_26 : decode cX5_find 26 = .ok (.iconst 0, 1) := by decide +kernel
theorem dX5_find_27 : decode cX5_find 27 = .ok (.istore_n 2, 1) := by decide +kernel
theorem dX5_find_28 : decode cX5_find 28 = .ok (.iconst 0, 1) := by decide +kernel
theorem dX5_find_29 : decode cX5_find 29 = .ok (.istore 5, 2) := by decide +kernel
theorem dX5_find_31 : decode cX5_find 31 = .ok (.iload 5, 2) := by decide +kernel
theorem dX5_find_33 : decode cX5_find 33 = .ok (.aload_n 0, 1) := by decide +kernel
theorem dX5_find_34 : decode cX5_find 34 = .ok (.getfield 21, 3) := by decide +kernel
theorem dX5_find_37 : decode cX5_find 37 = .ok (.getfield 43, 3) := by decide +kernel
theorem dX5_find_4 : decode cX5_find 4 = .ok (.istore_n 2, 1) := by decide +kernel
theorem dX5_find_40 : decode cX5_find 40 = .ok (.if_icmp .ge 80, 3) := by decide +kernel
theorem dX5_find_43 : decode cX5_find 43 = .ok (.iload_n 2, 1) := by decide +kernel
theorem dX5_find_44 : decode cX5_find 44 = .ok (.ifCond .ne 76, 3) := by decide +kernel
theorem dX5_find_47 : decode cX5_find 47 = .ok (.aload_n 0, 1) := by decide +kernel
theorem dX5_find_48 : decode cX5_find 48 = .ok (.getfield 9, 3) := by decide +kernel
theorem dX5_find_5 : decode cX5_find 5 = .ok (.iload_n 1, 1) := by decide +kernel
theorem dX5_find_51 : decode cX5_find 51 = .ok (.iload 4, 2) := by decide +kernel
theorem dX5_find_53 : decode cX5_find 53 = .ok (.bipush 8, 2) := by decide +kernel
theorem dX5_find_55 : decode cX5_find 55 = .ok (.imul, 1) := by decide +kernel
theorem dX5_find_56 : decode cX5_find 56 = .ok (.iload 4, 2) := by decide +kernel
theorem dX5_find_58 : decode cX5_find 58 = .ok (.iadd, 1) := by decide +kernel
theorem dX5_find_59 : decode cX5_find 59 = .ok (.iaload, 1) := by decide +kernel
theorem dX5_find_6 : decode cX5_find 6 = .ok (.istore_n 3, 1) := by decide +kernel
theorem dX5_find_60 : decode cX5_find 60 = .ok (.iload 5, 2) := by decide +kernel
theorem dX5_find_62 : decode cX5_find 62 = .ok (.invokestatic 46, 3) := by decide +kernel
theorem dX5_find_65 : decode cX5_find 65 = .ok (.ifCond .eq 49, 3) := by decide +kernel
theorem dX5_find_68 : decode cX5_find 68 = .ok (.aload_n 0, 1) := by decide +kernel
theorem dX5_find_69 : decode cX5_find 69 = .ok (.iload 4, 2) := by decide +kernel
theorem dX5_find_7 : decode cX5_find 7 = .ok (.iconst 0, 1) := by decide +kernel
theorem dX5_find_71 : decode cX5_find 71 = .ok (.iload 5, 2) := by decide +kernel
theorem dX5_find_73 : decode cX5_find 73 = .ok (.invokevirtual 50, 3) := by decide +kernel
theorem dX5_find_76 : decode cX5_find 76 = .ok (.ifCond .eq 38, 3) := by decide +kernel
theorem dX5_find_79 : decode cX5_find 79 = .ok (.aload_n 0, 1) := by decide +kernel
theorem dX5_find_8 : decode cX5_find 8 = .ok (.istore 4, 2) := by decide +kernel
theorem dX5_find_80 : decode cX5_find 80 = .ok (.iload 4, 2) := by decide +kernel
theorem dX5_find_82 : decode cX5_find 82 = .ok (.iconst 1, 1) := by decide +kernel
theorem dX5_find_83 : decode cX5_find 83 = .ok (.iadd, 1) := by decide +kernel
theorem dX5_find_84 : decode cX5_find 84 = .ok (.invokevirtual 33, 3) := by decide +kernel
theorem dX5_find_87 : decode cX5_find 87 = .ok (.istore 6, 2) := by decide +kernel
theorem dX5_find_89 : decode cX5_find 89 = .ok (.iload_n 3, 1) := by decide +kernel
theorem dX5_find_90 : decode cX5_find 90 = .ok (.iload 6, 2) := by decide +kernel
theorem dX5_find_92 : decode cX5_find 92 = .ok (.if_icmp .ge 7, 3) := by decide +kernel
theorem dX5_find_95 : decode cX5_find 95 = .ok (.iconst 1, 1) := by decide +kernel
theorem dX5_find_96 : decode cX5_find 96 = .ok (.goto 4, 3) := by decide +kernel
theorem dX5_find_99 : decode cX5_find 99 = .ok (.iconst 0, 1) := by decide +kernel
theorem dX5_fussyWays_0 : decode cX5_fussyWays 0 = .ok (.iload_n 1, 1) := by decide +kernel
theorem dX5_fussyWays_1 : decode cX5_fussyWays 1 = .ok (.aload_n 0, 1) := by decide +kernel
theorem dX5_fussyWays_10 : decode cX5_fussyWays 10 = .ok (.getfield 21, 3) := by decide +kernel
theorem dX5_fussyWays_100 : decode cX5_fussyWays 100 = .ok (.iload_n 1, 1) := by decide +kernel
theorem dX5_fussyWays_101 : decode cX5_fussyWays 101 = .ok (.invokevirtual 121, 3) := by decide +kernel
theorem dX5_fussyWays_104 : decode cX5_fussyWays 104 = .ok (.aload_n 0, 1) := by decide +kernel
theorem dX5_fussyWays_105 : decode cX5_fussyWays 105 = .ok (.iload_n 1, 1) := by decide +kernel
theorem dX5_fussyWays_106 : decode cX5_fussyWays 106 = .ok (.iconst 1, 1) := by decide +kernel
theorem dX5_fussyWays_107 : decode cX5_fussyWays 107 = .ok (.iadd, 1) := by decide +kernel
theorem dX5_fussyWays_108 : decode cX5_fussyWays 108 = .ok (.invokevirtual 111, 3) := by decide +kernel
theorem dX5_fussyWays_111 : decode cX5_fussyWays 111 = .ok (.ireturn, 1) := by decide +kernel
theorem dX5_fussyWays_112 : decode cX5_fussyWays 112 = .ok (.iconst 0, 1) := by decide +kernel
theorem dX5_fussyWays_113 : decode cX5_fussyWays 113 = .ok (.istore 4, 2) := by decide +kernel
theorem dX5_fussyWays_115 : decode cX5_fussyWays 115 = .ok (.iconst 0, 1) := by decide +kernel
theorem dX5_fussyWays_116 : decode cX5_fussyWays 116 = .ok (.istore 5, 2) := by decide +kernel
theorem dX5_fussyWays_118 : decode cX5_fussyWays 118 = .ok (.iload 5, 2) := by decide +kernel
theorem dX5_fussyWays_120 : decode cX5_fussyWays 120 = .ok (.aload_n 0, 1) := by decide +kernel
theorem dX5_fussyWays_121 : decode cX5_fussyWays 121 = .ok (.getfield 21, 3) := by decide +kernel
theorem dX5_fussyWays_124 : decode cX5_fussyWays 124 = .ok (.getfield 43, 3) := by decide +kernel
theorem dX5_fussyWays_127 : decode cX5_fussyWays 127 = .ok (.if_icmp .ge 40, 3) := by decide +kernel
theorem dX5_fussyWays_13 : decode cX5_fussyWays 13 = .ok (.getfield 37, 3) := by decide +kernel
theorem dX5_fussyWays_130 : decode cX5_fussyWays 130 = .ok (.iload_n 2, 1) := by decide +kernel
theorem dX5_fussyWays_131 : decode cX5_fussyWays 131 = .ok (.iload 5, 2) := by decide +kernel
theorem dX5_fussyWays_133 : decode cX5_fussyWays 133 = .ok (.invokestatic 46, 3) := by decide +kernel
theorem dX5_fussyWays_136 : decode cX5_fussyWays 136 = .ok (.ifCond .eq 25, 3) := by decide +kernel
theorem dX5_fussyWays_139 : decode cX5_fussyWays 139 = .ok (.aload_n 0, 1) := by decide +kernel
theorem dX5_fussyWays_140 : decode cX5_fussyWays 140 = .ok (.iload_n 1, 1) := by decide +kernel
theorem dX5_fussyWays_141 : decode cX5_fussyWays 141 = .ok (.iload 5, 2) := by decide +kernel
theorem dX5_fussyWays_143 : decode cX5_fussyWays 143 = .ok (.invokevirtual 50, 3) := by decide +kernel
theorem dX5_fussyWays_146 : decode cX5_fussyWays 146 = .ok (.ifCond .eq 15, 3) := by decide +kernel
theorem dX5_fussyWays_149 : decode cX5_fussyWays 149 = .ok (.iload 4, 2) := by decide +kernel
theorem dX5_fussyWays_151 : decode cX5_fussyWays 151 = .ok (.aload_n 0, 1) := by decide +kernel
theorem dX5_fussyWays_152 : decode cX5_fussyWays 152 = .ok (.iload_n 1, 1) := by decide +kernel
theorem dX5_fussyWays_153 : decode cX5_fussyWays 153 = .ok (.iconst 1, 1) := by decide +kernel
theorem dX5_fussyWays_154 : decode cX5_fussyWays 154 = .ok (.iadd, 1) := by decide +kernel
theorem dX5_fussyWays_155 : decode cX5_fussyWays 155 = .ok (.invokevirtual 111, 3) := by decide +kernel
theorem dX5_fussyWays_158 : decode cX5_fussyWays 158 = .ok (.iadd, 1) := by decide +kernel
theorem dX5_fussyWays_159 : decode cX5_fussyWays 159 = .ok (.istore 4, 2) := by decide +kernel
theorem dX5_fussyWays_16 : decode cX5_fussyWays 16 = .ok (.if_icmp .lt 5, 3) := by decide +kernel
theorem dX5_fussyWays_161 : decode cX5_fussyWays 161 = .ok (.iinc 5 1, 3) := by decide +kernel
theorem dX5_fussyWays_164 : decode cX5_fussyWays 164 = .ok (.goto (-46), 3) := by decide +kernel
theorem dX5_fussyWays_167 : decode cX5_fussyWays 167 = .ok (.iload 4, 2) := by decide +kernel
theorem dX5_fussyWays_169 : decode cX5_fussyWays 169 = .ok (.ireturn, 1) := by decide +kernel
theorem dX5_fussyWays_19 : decode cX5_fussyWays 19 = .ok (.iconst 1, 1) := by decide +kernel
theorem dX5_fussyWays_2 : decode cX5_fussyWays 2 = .ok (.getfield 67, 3) := by decide +kernel
theorem dX5_fussyWays_20 : decode cX5_fussyWays 20 = .ok (.ireturn, 1) := by decide +kernel
theorem dX5_fussyWays_21 : decode cX5_fussyWays 21 = .ok (.aload_n 0, 1) := by decide +kernel
theorem dX5_fussyWays_22 : decode cX5_fussyWays 22 = .ok (.getfield 9, 3) := by decide +kernel
theorem dX5_fussyWays_25 : decode cX5_fussyWays 25 = .ok (.iload_n 1, 1) := by decide +kernel
theorem dX5_fussyWays_26 : decode cX5_fussyWays 26 = .ok (.bipush 8, 2) := by decide +kernel
theorem dX5_fussyWays_28 : decode cX5_fussyWays 28 = .ok (.imul, 1) := by decide +kernel
theorem dX5_fussyWays_29 : decode cX5_fussyWays 29 = .ok (.iload_n 1, 1) := by decide +kernel
theorem dX5_fussyWays_30 : decode cX5_fussyWays 30 = .ok (.iadd, 1) := by decide +kernel
theorem dX5_fussyWays_31 : decode cX5_fussyWays 31 = .ok (.iaload, 1) := by decide +kernel
theorem dX5_fussyWays_32 : decode cX5_fussyWays 32 = .ok (.istore_n 2, 1) := by decide +kernel
theorem dX5_fussyWays_33 : decode cX5_fussyWays 33 = .ok (.iload_n 1, 1) := by decide +kernel
theorem dX5_fussyWays_34 : decode cX5_fussyWays 34 = .ok (.aload_n 0, 1) := by decide +kernel
theorem dX5_fussyWays_35 : decode cX5_fussyWays 35 = .ok (.getfield 67, 3) := by decide +kernel
theorem dX5_fussyWays_38 : decode cX5_fussyWays 38 = .ok (.if_icmp .ne 8, 3) := by decide +kernel
theorem dX5_fussyWays_41 : decode cX5_fussyWays 41 = .ok (.iload_n 2, 1) := by decide +kernel
theorem dX5_fussyWays_42 : decode cX5_fussyWays 42 = .ok (.invokestatic 106, 3) := by decide +kernel
theorem dX5_fussyWays_45 : decode cX5_fussyWays 45 = .ok (.ireturn, 1) := by decide +kernel
theorem dX5_fussyWays_46 : decode cX5_fussyWays 46 = .ok (.aload_n 0, 1) := by decide +kernel
theorem dX5_fussyWays_47 : decode cX5_fussyWays 47 = .ok (.iload_n 1, 1) := by decide +kernel
theorem dX5_fussyWays_48 : decode cX5_fussyWays 48 = .ok (.invokevirtual 118, 3) := by decide +kernel
theorem dX5_fussyWays_5 : decode cX5_fussyWays 5 = .ok (.if_icmp .gt 14, 3) := by decide +kernel
theorem dX5_fussyWays_51 : decode cX5_fussyWays 51 = .ok (.istore_n 3, 1) := by decide +kernel
theorem dX5_fussyWays_52 : decode cX5_fussyWays 52 = .ok (.iload_n 3, 1) := by decide +kernel
theorem dX5_fussyWays_53 : decode cX5_fussyWays 53 = .ok (.iconst (-1), 1) := by decide +kernel
theorem dX5_fussyWays_54 : decode cX5_fussyWays 54 = .ok (.if_icmp .eq 34, 3) := by decide +kernel
theorem dX5_fussyWays_57 : decode cX5_fussyWays 57 = .ok (.aload_n 0, 1) := by decide +kernel
theorem dX5_fussyWays_58 : decode cX5_fussyWays 58 = .ok (.getfield 21, 3) := by decide +kernel
theorem dX5_fussyWays_61 : decode cX5_fussyWays 61 = .ok (.getfield 37, 3) := by decide +kernel
theorem dX5_fussyWays_64 : decode cX5_fussyWays 64 = .ok (.iload_n 1, 1) := by decide +kernel
theorem dX5_fussyWays_65 : decode cX5_fussyWays 65 = .ok (.isub, 1) := by decide +kernel
theorem dX5_fussyWays_66 : decode cX5_fussyWays 66 = .ok (.aload_n 0, 1) := by decide +kernel
theorem dX5_fussyWays_67 : decode cX5_fussyWays 67 = .ok (.getfield 64, 3) := by decide +kernel
theorem dX5_fussyWays_70 : decode cX5_fussyWays 70 = .ok (.iload_n 1, 1) := by decide +kernel
theorem dX5_fussyWays_71 : decode cX5_fussyWays 71 = .ok (.ishr, 1) := by decide +kernel
theorem dX5_fussyWays_72 : decode cX5_fussyWays 72 = .ok (.invokestatic 106, 3) := by decide +kernel
theorem dX5_fussyWays_75 : decode cX5_fussyWays 75 = .ok (.isub, 1) := by decide +kernel
theorem dX5_fussyWays_76 : decode cX5_fussyWays 76 = .ok (.istore 4, 2) := by decide +kernel
theorem dX5_fussyWays_78 : decode cX5_fussyWays 78 = .ok (.iload_n 3, 1) := by decide +kernel
theorem dX5_fussyWays_79 : decode cX5_fussyWays 79 = .ok (.invokestatic 106, 3) := by decide +kernel
theorem dX5_fussyWays_8 : decode cX5_fussyWays 8 = .ok (.iload_n 1, 1) := by decide +kernel
theorem dX5_fussyWays_82 : decode cX5_fussyWays 82 = .ok (.iload 4, 2) := by decide +kernel
theorem dX5_fussyWays_84 : decode cX5_fussyWays 84 = .ok (.invokestatic 114, 3) := by decide +kernel
theorem dX5_fussyWays_87 : decode cX5_fussyWays 87 = .ok (.ireturn, 1) := by decide +kernel
theorem dX5_fussyWays_88 : decode cX5_fussyWays 88 = .ok (.aload_n 0, 1) := by decide +kernel
theorem dX5_fussyWays_89 : decode cX5_fussyWays 89 = .ok (.getfield 64, 3) := by decide +kernel
theorem dX5_fussyWays_9 : decode cX5_fussyWays 9 = .ok (.aload_n 0, 1) := by decide +kernel
theorem dX5_fussyWays_92 : decode cX5_fussyWays 92 = .ok (.iload_n 1, 1) := by decide +kernel
theorem dX5_fussyWays_93 : decode cX5_fussyWays 93 = .ok (.invokestatic 46, 3) := by decide +kernel
theorem dX5_fussyWays_96 : decode cX5_fussyWays 96 = .ok (.ifCond .eq 16, 3) := by decide +kernel
theorem dX5_fussyWays_99 : decode cX5_fussyWays 99 = .ok (.aload_n 0, 1) := by decide +kernel
theorem dX5_lay_0 : decode cX5_lay 0 = .ok (.aload_n 0, 1) := by decide +kernel
theorem dX5_lay_1 : decode cX5_lay 1 = .ok (.getfield 15, 3) := by decide +kernel
theorem dX5_lay_10 : decode cX5_lay 10 = .ok (.istore_n 3, 1) := by decide +kernel
theorem dX5_lay_11 : decode cX5_lay 11 = .ok (.iload_n 3, 1) := by decide +kernel
theorem dX5_lay_12 : decode cX5_lay 12 = .ok (.aload_n 0, 1) := by decide +kernel
theorem dX5_lay_13 : decode cX5_lay 13 = .ok (.getfield 21, 3) := by decide +kernel
theorem dX5_lay_16 : decode cX5_lay 16 = .ok (.getfield 37, 3) := by decide +kernel
theorem dX5_lay_19 : decode cX5_lay 19 = .ok (.if_icmp .ge 54, 3) := by decide +kernel
theorem dX5_lay_22 : decode cX5_lay 22 = .ok (.aload_n 0, 1) := by decide +kernel
theorem dX5_lay_23 : decode cX5_lay 23 = .ok (.getfield 9, 3) := by decide +kernel
theorem dX5_lay_26 : decode cX5_lay 26 = .ok (.iload_n 1, 1) := by decide +kernel
theorem dX5_lay_27 : decode cX5_lay 27 = .ok (.bipush 8, 2) := by decide +kernel
theorem dX5_lay_29 : decode cX5_lay 29 = .ok (.imul, 1) := by decide +kernel
theorem dX5_lay_30 : decode cX5_lay 30 = .ok (.iload_n 3, 1) := by decide +kernel
theorem dX5_lay_31 : decode cX5_lay 31 = .ok (.iadd, 1) := by decide +kernel
theorem dX5_lay_32 : decode cX5_lay 32 = .ok (.iaload, 1) := by decide +kernel
theorem dX5_lay_33 : decode cX5_lay 33 = .ok (.aload_n 0, 1) := by decide +kernel
theorem dX5_lay_34 : decode cX5_lay 34 = .ok (.iload_n 1, 1) := by decide +kernel
theorem dX5_lay_35 : decode cX5_lay 35 = .ok (.iload_n 2, 1) := by decide +kernel
theorem dX5_lay_36 : decode cX5_lay 36 = .ok (.iload_n 3, 1) := by decide +kernel
theorem dX5_lay_37 : decode cX5_lay 37 = .ok (.invokevirtual 83, 3) := by decide +kernel
theorem dX5_lay_4 : decode cX5_lay 4 = .ok (.iload_n 1, 1) := by decide +kernel
theorem dX5_lay_40 : decode cX5_lay 40 = .ok (.iconst (-1), 1) := by decide +kernel
theorem dX5_lay_41 : decode cX5_lay 41 = .ok (.ixor, 1) := by decide +kernel
theorem dX5_lay_42 : decode cX5_lay 42 = .ok (.iand, 1) := by decide +kernel
theorem dX5_lay_43 : decode cX5_lay 43 = .ok (.istore 4, 2) := by decide +kernel
theorem dX5_lay_45 : decode cX5_lay 45 = .ok (.iload 4, 2) := by decide +kernel
theorem dX5_lay_47 : decode cX5_lay 47 = .ok (.ifCond .ne 5, 3) := by decide +kernel
theorem dX5_lay_5 : decode cX5_lay 5 = .ok (.iload_n 2, 1) := by decide +kernel
theorem dX5_lay_50 : decode cX5_lay 50 = .ok (.iconst 0, 1) := by decide +kernel
theorem dX5_lay_51 : decode cX5_lay 51 = .ok (.ireturn, 1) := by decide +kernel
theorem dX5_lay_52 : decode cX5_lay 52 = .ok (.aload_n 0, 1) := by decide +kernel
theorem dX5_lay_53 : decode cX5_lay 53 = .ok (.getfield 9, 3) := by decide +kernel
theorem dX5_lay_56 : decode cX5_lay 56 = .ok (.iload_n 1, 1) := by decide +kernel
theorem dX5_lay_57 : decode cX5_lay 57 = .ok (.iconst 1, 1) := by decide +kernel
theorem dX5_lay_58 : decode cX5_lay 58 = .ok (.iadd, 1) := by decide +kernel
theorem dX5_lay_59 : decode cX5_lay 59 = .ok (.bipush 8, 2) := by decide +kernel
theorem dX5_lay_6 : decode cX5_lay 6 = .ok (.iastore, 1) := by decide +kernel
theorem dX5_lay_61 : decode cX5_lay 61 = .ok (.imul, 1) := by decide +kernel
theorem dX5_lay_62 : decode cX5_lay 62 = .ok (.iload_n 3, 1) := by decide +kernel
theorem dX5_lay_63 : decode cX5_lay 63 = .ok (.iadd, 1) := by decide +kernel
theorem dX5_lay_64 : decode cX5_lay 64 = .ok (.iload 4, 2) := by decide +kernel
theorem dX5_lay_66 : decode cX5_lay 66 = .ok (.iastore, 1) := by decide +kernel
theorem dX5_lay_67 : decode cX5_lay 67 = .ok (.iinc 3 1, 3) := by decide +kernel
theorem dX5_lay_7 : decode cX5_lay 7 = .ok (.iload_n 1, 1) := by decide +kernel
theorem dX5_lay_70 : decode cX5_lay 70 = .ok (.goto (-59), 3) := by decide +kernel
theorem dX5_lay_73 : decode cX5_lay 73 = .ok (.iconst 1, 1) := by decide +kernel
theorem dX5_lay_74 : decode cX5_lay 74 = .ok (.ireturn, 1) := by decide +kernel
theorem dX5_lay_8 : decode cX5_lay 8 = .ok (.iconst 1, 1) := by decide +kernel
theorem dX5_lay_9 : decode cX5_lay 9 = .ok (.iadd, 1) := by decide +kernel
theorem dX5_mayClashSomewhere_0 : decode cX5_mayClashSomewhere 0 = .ok (.iconst 0, 1) := by decide +kernel
theorem dX5_mayClashSomewhere_1 : decode cX5_mayClashSomewhere 1 = .ok (.istore_n 2, 1) := by decide +kernel
theorem dX5_mayClashSomewhere_10 : decode cX5_mayClashSomewhere 10 = .ok (.if_icmp .ge 68, 3) := by decide +kernel
theorem dX5_mayClashSomewhere_13 : decode cX5_mayClashSomewhere 13 = .ok (.aload_n 0, 1) := by decide +kernel
theorem dX5_mayClashSomewhere_14 : decode cX5_mayClashSomewhere 14 = .ok (.getfield 25, 3) := by decide +kernel
theorem dX5_mayClashSomewhere_17 : decode cX5_mayClashSomewhere 17 = .ok (.getfield 90, 3) := by decide +kernel
theorem dX5_mayClashSomewhere_2 : decode cX5_mayClashSomewhere 2 = .ok (.iload_n 2, 1) := by decide +kernel
theorem dX5_mayClashSomewhere_20 : decode cX5_mayClashSomewhere 20 = .ok (.iload_n 1, 1) := by decide +kernel
theorem dX5_mayClashSomewhere_21 : decode cX5_mayClashSomewhere 21 = .ok (.iaload, 1) := by decide +kernel
theorem dX5_mayClashSomewhere_22 : decode cX5_mayClashSomewhere 22 = .ok (.ifCond .eq 15, 3) := by decide +kernel
theorem dX5_mayClashSomewhere_25 : decode cX5_mayClashSomewhere 25 = .ok (.aload_n 0, 1) := by decide +kernel
theorem dX5_mayClashSomewhere_26 : decode cX5_mayClashSomewhere 26 = .ok (.getfield 21, 3) := by decide +kernel
theorem dX5_mayClashSomewhere_29 : decode cX5_mayClashSomewhere 29 = .ok (.getfield 93, 3) := by decide +kernel
theorem dX5_mayClashSomewhere_3 : decode cX5_mayClashSomewhere 3 = .ok (.aload_n 0, 1) := by decide +kernel
theorem dX5_mayClashSomewhere_32 : decode cX5_mayClashSomewhere 32 = .ok (.iload_n 2, 1) := by decide +kernel
theorem dX5_mayClashSomewhere_33 : decode cX5_mayClashSomewhere 33 = .ok (.iaload, 1) := by decide +kernel
theorem dX5_mayClashSomewhere_34 : decode cX5_mayClashSomewhere 34 = .ok (.ifCond .ne 36, 3) := by decide +kernel
theorem dX5_mayClashSomewhere_37 : decode cX5_mayClashSomewhere 37 = .ok (.aload_n 0, 1) := by decide +kernel
theorem dX5_mayClashSomewhere_38 : decode cX5_mayClashSomewhere 38 = .ok (.getfield 25, 3) := by decide +kernel
theorem dX5_mayClashSomewhere_4 : decode cX5_mayClashSomewhere 4 = .ok (.getfield 21, 3) := by decide +kernel
theorem dX5_mayClashSomewhere_41 : decode cX5_mayClashSomewhere 41 = .ok (.getfield 96, 3) := by decide +kernel
theorem dX5_mayClashSomewhere_44 : decode cX5_mayClashSomewhere 44 = .ok (.iload_n 1, 1) := by decide +kernel
theorem dX5_mayClashSomewhere_45 : decode cX5_mayClashSomewhere 45 = .ok (.iaload, 1) := by decide +kernel
theorem dX5_mayClashSomewhere_46 : decode cX5_mayClashSomewhere 46 = .ok (.ifCond .eq 26, 3) := by decide +kernel
theorem dX5_mayClashSomewhere_49 : decode cX5_mayClashSomewhere 49 = .ok (.aload_n 0, 1) := by decide +kernel
theorem dX5_mayClashSomewhere_50 : decode cX5_mayClashSomewhere 50 = .ok (.getfield 21, 3) := by decide +kernel
theorem dX5_mayClashSomewhere_53 : decode cX5_mayClashSomewhere 53 = .ok (.getfield 93, 3) := by decide +kernel
theorem dX5_mayClashSomewhere_56 : decode cX5_mayClashSomewhere 56 = .ok (.iload_n 2, 1) := by decide +kernel
theorem dX5_mayClashSomewhere_57 : decode cX5_mayClashSomewhere 57 = .ok (.iaload, 1) := by decide +kernel
theorem dX5_mayClashSomewhere_58 : decode cX5_mayClashSomewhere 58 = .ok (.aload_n 0, 1) := by decide +kernel
theorem dX5_mayClashSomewhere_59 : decode cX5_mayClashSomewhere 59 = .ok (.getfield 21, 3) := by decide +kernel
theorem dX5_mayClashSomewhere_62 : decode cX5_mayClashSomewhere 62 = .ok (.getfield 99, 3) := by decide +kernel
theorem dX5_mayClashSomewhere_65 : decode cX5_mayClashSomewhere 65 = .ok (.iload_n 2, 1) := by decide +kernel
theorem dX5_mayClashSomewhere_66 : decode cX5_mayClashSomewhere 66 = .ok (.iaload, 1) := by decide +kernel
theorem dX5_mayClashSomewhere_67 : decode cX5_mayClashSomewhere 67 = .ok (.if_icmp .eq 5, 3) := by decide +kernel
theorem dX5_mayClashSomewhere_7 : decode cX5_mayClashSomewhere 7 = .ok (.getfield 43, 3) := by decide +kernel
theorem dX5_mayClashSomewhere_70 : decode cX5_mayClashSomewhere 70 = .ok (.iconst 1, 1) := by decide +kernel
theorem dX5_mayClashSomewhere_71 : decode cX5_mayClashSomewhere 71 = .ok (.ireturn, 1) := by decide +kernel
theorem dX5_mayClashSomewhere_72 : decode cX5_mayClashSomewhere 72 = .ok (.iinc 2 1, 3) := by decide +kernel
theorem dX5_mayClashSomewhere_75 : decode cX5_mayClashSomewhere 75 = .ok (.goto (-73), 3) := by decide +kernel
theorem dX5_mayClashSomewhere_78 : decode cX5_mayClashSomewhere 78 = .ok (.iconst 0, 1) := by decide +kernel
theorem dX5_mayClashSomewhere_79 : decode cX5_mayClashSomewhere 79 = .ok (.ireturn, 1) := by decide +kernel
theorem dX5_orders_0 : decode cX5_orders 0 = .ok (.iconst 1, 1) := by decide +kernel
theorem dX5_orders_1 : decode cX5_orders 1 = .ok (.istore_n 2, 1) := by decide +kernel
theorem dX5_orders_10 : decode cX5_orders 10 = .ok (.iload_n 0, 1) := by decide +kernel
theorem dX5_orders_11 : decode cX5_orders 11 = .ok (.iload_n 3, 1) := by decide +kernel
theorem dX5_orders_12 : decode cX5_orders 12 = .ok (.isub, 1) := by decide +kernel
theorem dX5_orders_13 : decode cX5_orders 13 = .ok (.imul, 1) := by decide +kernel
theorem dX5_orders_14 : decode cX5_orders 14 = .ok (.istore_n 2, 1) := by decide +kernel
theorem dX5_orders_15 : decode cX5_orders 15 = .ok (.iinc 3 1, 3) := by decide +kernel
theorem dX5_orders_18 : decode cX5_orders 18 = .ok (.goto (-14), 3) := by decide +kernel
theorem dX5_orders_2 : decode cX5_orders 2 = .ok (.iconst 0, 1) := by decide +kernel
theorem dX5_orders_21 : decode cX5_orders 21 = .ok (.iload_n 2, 1) := by decide +kernel
theorem dX5_orders_22 : decode cX5_orders 22 = .ok (.ireturn, 1) := by decide +kernel
theorem dX5_orders_3 : decode cX5_orders 3 = .ok (.istore_n 3, 1) := by decide +kernel
theorem dX5_orders_4 : decode cX5_orders 4 = .ok (.iload_n 3, 1) := by decide +kernel
theorem dX5_orders_5 : decode cX5_orders 5 = .ok (.iload_n 1, 1) := by decide +kernel
theorem dX5_orders_6 : decode cX5_orders 6 = .ok (.if_icmp .ge 15, 3) := by decide +kernel
theorem dX5_orders_9 : decode cX5_orders 9 = .ok (.iload_n 2, 1) := by decide +kernel
theorem dX5_quietPlaces_0 : decode cX5_quietPlaces 0 = .ok (.iconst (-1), 1) := by decide +kernel
theorem dX5_quietPlaces_1 : decode cX5_quietPlaces 1 = .ok (.istore_n 2, 1) := by decide +kernel
theorem dX5_quietPlaces_12 : decode cX5_quietPlaces 12 = .ok (.if_icmp .ge 64, 3) := by decide +kernel
theorem dX5_quietPlaces_15 : decode cX5_quietPlaces 15 = .ok (.aload_n 0, 1) := by decide +kernel
theorem dX5_quietPlaces_16 : decode cX5_quietPlaces 16 = .ok (.getfield 9, 3) := by decide +kernel
theorem dX5_quietPlaces_19 : decode cX5_quietPlaces 19 = .ok (.iload_n 1, 1) := by decide +kernel
theorem dX5_quietPlaces_2 : decode cX5_quietPlaces 2 = .ok (.iload_n 1, 1) := by decide +kernel
theorem dX5_quietPlaces_20 : decode cX5_quietPlaces 20 = .ok (.bipush 8, 2) := by decide +kernel
theorem dX5_quietPlaces_22 : decode cX5_quietPlaces 22 = .ok (.imul, 1) := by decide +kernel
theorem dX5_quietPlaces_23 : decode cX5_quietPlaces 23 = .ok (.iload_n 3, 1) := by decide +kernel
theorem dX5_quietPlaces_24 : decode cX5_quietPlaces 24 = .ok (.iadd, 1) := by decide +kernel
theorem dX5_quietPlaces_25 : decode cX5_quietPlaces 25 = .ok (.iaload, 1) := by decide +kernel
theorem dX5_quietPlaces_26 : decode cX5_quietPlaces 26 = .ok (.istore 4, 2) := by decide +kernel
theorem dX5_quietPlaces_28 : decode cX5_quietPlaces 28 = .ok (.aload_n 0, 1) := by decide +kernel
theorem dX5_quietPlaces_29 : decode cX5_quietPlaces 29 = .ok (.getfield 64, 3) := by decide +kernel
theorem dX5_quietPlaces_3 : decode cX5_quietPlaces 3 = .ok (.istore_n 3, 1) := by decide +kernel
theorem dX5_quietPlaces_32 : decode cX5_quietPlaces 32 = .ok (.iload_n 3, 1) := by decide +kernel
theorem dX5_quietPlaces_33 : decode cX5_quietPlaces 33 = .ok (.invokestatic 46, 3) := by decide +kernel
theorem dX5_quietPlaces_36 : decode cX5_quietPlaces 36 = .ok (.ifCond .ne 16, 3) := by decide +kernel
theorem dX5_quietPlaces_39 : decode cX5_quietPlaces 39 = .ok (.iload_n 2, 1) := by decide +kernel
theorem dX5_quietPlaces_4 : decode cX5_quietPlaces 4 = .ok (.iload_n 3, 1) := by decide +kernel
theorem dX5_quietPlaces_40 : decode cX5_quietPlaces 40 = .ok (.iconst (-1), 1) := by decide +kernel
theorem dX5_quietPlaces_41 : decode cX5_quietPlaces 41 = .ok (.if_icmp .eq 11, 3) := by decide +kernel
theorem dX5_quietPlaces_44 : decode cX5_quietPlaces 44 = .ok (.iload 4, 2) := by decide +kernel
theorem dX5_quietPlaces_46 : decode cX5_quietPlaces 46 = .ok (.iload_n 2, 1) := by decide +kernel
theorem dX5_quietPlaces_47 : decode cX5_quietPlaces 47 = .ok (.if_icmp .eq 5, 3) := by decide +kernel
theorem dX5_quietPlaces_5 : decode cX5_quietPlaces 5 = .ok (.aload_n 0, 1) := by decide +kernel
theorem dX5_quietPlaces_50 : decode cX5_quietPlaces 50 = .ok (.iconst (-1), 1) := by decide +kernel
theorem dX5_quietPlaces_51 : decode cX5_quietPlaces 51 = .ok (.ireturn, 1) := by decide +kernel
theorem dX5_quietPlaces_52 : decode cX5_quietPlaces 52 = .ok (.aload_n 0, 1) := by decide +kernel
theorem dX5_quietPlaces_53 : decode cX5_quietPlaces 53 = .ok (.getfield 64, 3) := by decide +kernel
theorem dX5_quietPlaces_56 : decode cX5_quietPlaces 56 = .ok (.iload_n 3, 1) := by decide +kernel
theorem dX5_quietPlaces_57 : decode cX5_quietPlaces 57 = .ok (.invokestatic 46, 3) := by decide +kernel
theorem dX5_quietPlaces_6 : decode cX5_quietPlaces 6 = .ok (.getfield 21, 3) := by decide +kernel
theorem dX5_quietPlaces_60 : decode cX5_quietPlaces 60 = .ok (.ifCond .eq 7, 3) := by decide +kernel
theorem dX5_quietPlaces_63 : decode cX5_quietPlaces 63 = .ok (.iload_n 2, 1) := by decide +kernel
theorem dX5_quietPlaces_64 : decode cX5_quietPlaces 64 = .ok (.goto 5, 3) := by decide +kernel
theorem dX5_quietPlaces_67 : decode cX5_quietPlaces 67 = .ok (.iload 4, 2) := by decide +kernel
theorem dX5_quietPlaces_69 : decode cX5_quietPlaces 69 = .ok (.istore_n 2, 1) := by decide +kernel
theorem dX5_quietPlaces_70 : decode cX5_quietPlaces 70 = .ok (.iinc 3 1, 3) := by decide +kernel
theorem dX5_quietPlaces_73 : decode cX5_quietPlaces 73 = .ok (.goto (-69), 3) := by decide +kernel
theorem dX5_quietPlaces_76 : decode cX5_quietPlaces 76 = .ok (.iload_n 2, 1) := by decide +kernel
theorem dX5_quietPlaces_77 : decode cX5_quietPlaces 77 = .ok (.iconst (-1), 1) := by decide +kernel
theorem dX5_quietPlaces_78 : decode cX5_quietPlaces 78 = .ok (.if_icmp .eq 14, 3) := by decide +kernel
theorem dX5_quietPlaces_81 : decode cX5_quietPlaces 81 = .ok (.aload_n 0, 1) := by decide +kernel
theorem dX5_quietPlaces_82 : decode cX5_quietPlaces 82 = .ok (.getfield 21, 3) := by decide +kernel
theorem dX5_quietPlaces_85 : decode cX5_quietPlaces 85 = .ok (.iload_n 2, 1) := by decide +kernel
theorem dX5_quietPlaces_86 : decode cX5_quietPlaces 86 = .ok (.invokevirtual 125, 3) := by decide +kernel
theorem dX5_quietPlaces_89 : decode cX5_quietPlaces 89 = .ok (.ifCond .eq 7, 3) := by decide +kernel
theorem dX5_quietPlaces_9 : decode cX5_quietPlaces 9 = .ok (.getfield 37, 3) := by decide +kernel
theorem dX5_quietPlaces_92 : decode cX5_quietPlaces 92 = .ok (.iconst (-1), 1) := by decide +kernel
theorem dX5_quietPlaces_93 : decode cX5_quietPlaces 93 = .ok (.goto 4, 3) := by decide +kernel
theorem dX5_quietPlaces_96 : decode cX5_quietPlaces 96 = .ok (.iload_n 2, 1) := by decide +kernel
theorem dX5_quietPlaces_97 : decode cX5_quietPlaces 97 = .ok (.ireturn, 1) := by decide +kernel
theorem dX5_skip_0 : decode cX5_skip 0 = .ok (.iload_n 1, 1) := by decide +kernel
theorem dX5_skip_1 : decode cX5_skip 1 = .ok (.iconst 1, 1) := by decide +kernel
theorem dX5_skip_12 : decode cX5_skip 12 = .ok (.if_icmp .ge 33, 3) := by decide +kernel
theorem dX5_skip_15 : decode cX5_skip 15 = .ok (.aload_n 0, 1) := by decide +kernel
theorem dX5_skip_16 : decode cX5_skip 16 = .ok (.getfield 9, 3) := by decide +kernel
theorem dX5_skip_19 : decode cX5_skip 19 = .ok (.iload_n 1, 1) := by decide +kernel
theorem dX5_skip_2 : decode cX5_skip 2 = .ok (.iadd, 1) := by decide +kernel
theorem dX5_skip_20 : decode cX5_skip 20 = .ok (.iconst 1, 1) := by decide +kernel
theorem dX5_skip_21 : decode cX5_skip 21 = .ok (.iadd, 1) := by decide +kernel
theorem dX5_skip_22 : decode cX5_skip 22 = .ok (.bipush 8, 2) := by decide +kernel
theorem dX5_skip_24 : decode cX5_skip 24 = .ok (.imul, 1) := by decide +kernel
theorem dX5_skip_25 : decode cX5_skip 25 = .ok (.iload_n 2, 1) := by decide +kernel
theorem dX5_skip_26 : decode cX5_skip 26 = .ok (.iadd, 1) := by decide +kernel
theorem dX5_skip_27 : decode cX5_skip 27 = .ok (.aload_n 0, 1) := by decide +kernel
theorem dX5_skip_28 : decode cX5_skip 28 = .ok (.getfield 9, 3) := by decide +kernel
theorem dX5_skip_3 : decode cX5_skip 3 = .ok (.istore_n 2, 1) := by decide +kernel
theorem dX5_skip_31 : decode cX5_skip 31 = .ok (.iload_n 1, 1) := by decide +kernel
theorem dX5_skip_32 : decode cX5_skip 32 = .ok (.bipush 8, 2) := by decide +kernel
theorem dX5_skip_34 : decode cX5_skip 34 = .ok (.imul, 1) := by decide +kernel
theorem dX5_skip_35 : decode cX5_skip 35 = .ok (.iload_n 2, 1) := by decide +kernel
theorem dX5_skip_36 : decode cX5_skip 36 = .ok (.iadd, 1) := by decide +kernel
theorem dX5_skip_37 : decode cX5_skip 37 = .ok (.iaload, 1) := by decide +kernel
theorem dX5_skip_38 : decode cX5_skip 38 = .ok (.iastore, 1) := by decide +kernel
theorem dX5_skip_39 : decode cX5_skip 39 = .ok (.iinc 2 1, 3) := by decide +kernel
theorem dX5_skip_4 : decode cX5_skip 4 = .ok (.iload_n 2, 1) := by decide +kernel
theorem dX5_skip_42 : decode cX5_skip 42 = .ok (.goto (-38), 3) := by decide +kernel
theorem dX5_skip_45 : decode cX5_skip 45 = .ok (.return_, 1) := by decide +kernel
theorem dX5_skip_5 : decode cX5_skip 5 = .ok (.aload_n 0, 1) := by decide +kernel
theorem dX5_skip_6 : decode cX5_skip 6 = .ok (.getfield 21, 3) := by decide +kernel
theorem dX5_skip_9 : decode cX5_skip 9 = .ok (.getfield 37, 3) := by decide +kernel
theorem dX5_waysFrom_0 : decode cX5_waysFrom 0 = .ok (.aload_n 0, 1) := by decide +kernel
theorem dX5_waysFrom_1 : decode cX5_waysFrom 1 = .ok (.getfield 64, 3) := by decide +kernel
theorem dX5_waysFrom_10 : decode cX5_waysFrom 10 = .ok (.aload_n 0, 1) := by decide +kernel
theorem dX5_waysFrom_11 : decode cX5_waysFrom 11 = .ok (.iload_n 1, 1) := by decide +kernel
theorem dX5_waysFrom_12 : decode cX5_waysFrom 12 = .ok (.invokevirtual 111, 3) := by decide +kernel
theorem dX5_waysFrom_15 : decode cX5_waysFrom 15 = .ok (.aload_n 0, 1) := by decide +kernel
theorem dX5_waysFrom_16 : decode cX5_waysFrom 16 = .ok (.getfield 21, 3) := by decide +kernel
theorem dX5_waysFrom_19 : decode cX5_waysFrom 19 = .ok (.getfield 43, 3) := by decide +kernel
theorem dX5_waysFrom_22 : decode cX5_waysFrom 22 = .ok (.aload_n 0, 1) := by decide +kernel
theorem dX5_waysFrom_23 : decode cX5_waysFrom 23 = .ok (.getfield 21, 3) := by decide +kernel
theorem dX5_waysFrom_26 : decode cX5_waysFrom 26 = .ok (.getfield 37, 3) := by decide +kernel
theorem dX5_waysFrom_29 : decode cX5_waysFrom 29 = .ok (.isub, 1) := by decide +kernel
theorem dX5_waysFrom_30 : decode cX5_waysFrom 30 = .ok (.iload_n 2, 1) := by decide +kernel
theorem dX5_waysFrom_31 : decode cX5_waysFrom 31 = .ok (.iadd, 1) := by decide +kernel
theorem dX5_waysFrom_32 : decode cX5_waysFrom 32 = .ok (.iload_n 2, 1) := by decide +kernel
theorem dX5_waysFrom_33 : decode cX5_waysFrom 33 = .ok (.invokestatic 114, 3) := by decide +kernel
theorem dX5_waysFrom_36 : decode cX5_waysFrom 36 = .ok (.imul, 1) := by decide +kernel
theorem dX5_waysFrom_37 : decode cX5_waysFrom 37 = .ok (.ireturn, 1) := by decide +kernel
theorem dX5_waysFrom_4 : decode cX5_waysFrom 4 = .ok (.iload_n 1, 1) := by decide +kernel
theorem dX5_waysFrom_5 : decode cX5_waysFrom 5 = .ok (.ishr, 1) := by decide +kernel
theorem dX5_waysFrom_6 : decode cX5_waysFrom 6 = .ok (.invokestatic 106, 3) := by decide +kernel
theorem dX5_waysFrom_9 : decode cX5_waysFrom 9 = .ok (.istore_n 2, 1) := by decide +kernel
theorem dX9_allPlaces_0 : decode cX9_allPlaces 0 = .ok (.iconst 1, 1) := by decide +kernel
theorem dX9_allPlaces_1 : decode cX9_allPlaces 1 = .ok (.aload_n 0, 1) := by decide +kernel
theorem dX9_allPlaces_2 : decode cX9_allPlaces 2 = .ok (.getfield 56, 3) := by decide +kernel
theorem dX9_allPlaces_5 : decode cX9_allPlaces 5 = .ok (.ishl, 1) := by decide +kernel
theorem dX9_allPlaces_6 : decode cX9_allPlaces 6 = .ok (.iconst 1, 1) := by decide +kernel
theorem dX9_allPlaces_7 : decode cX9_allPlaces 7 = .ok (.isub, 1) := by decide +kernel
theorem dX9_allPlaces_8 : decode cX9_allPlaces 8 = .ok (.ireturn, 1) := by decide +kernel
theorem dX9_firstSide_0 : decode cX9_firstSide 0 = .ok (.iconst 0, 1) := by decide +kernel
theorem dX9_firstSide_1 : decode cX9_firstSide 1 = .ok (.istore_n 1, 1) := by decide +kernel
theorem dX9_firstSide_101 : decode cX9_firstSide 101 = .ok (.aload_n 0, 1) := by decide +kernel
theorem dX9_firstSide_102 : decode cX9_firstSide 102 = .ok (.iload_n 2, 1) := by decide +kernel
theorem dX9_firstSide_103 : decode cX9_firstSide 103 = .ok (.invokevirtual 122, 3) := by decide +kernel
theorem dX9_firstSide_106 : decode cX9_firstSide 106 = .ok (.ifCond .eq 7, 3) := by decide +kernel
theorem dX9_firstSide_109 : decode cX9_firstSide 109 = .ok (.iconst (-1), 1) := by decide +kernel
theorem dX9_firstSide_11 : decode cX9_firstSide 11 = .ok (.if_icmp .ge 82, 3) := by decide +kernel
theorem dX9_firstSide_110 : decode cX9_firstSide 110 = .ok (.goto 4, 3) := by decide +kernel
theorem dX9_firstSide_113 : decode cX9_firstSide 113 = .ok (.iload_n 1, 1) := by decide +kernel
theorem dX9_firstSide_114 : decode cX9_firstSide 114 = .ok (.ireturn, 1) := by decide +kernel
theorem dX9_firstSide_14 : decode cX9_firstSide 14 = .ok (.iload_n 1, 1) := by decide +kernel
theorem dX9_firstSide_15 : decode cX9_firstSide 15 = .ok (.iload_n 2, 1) := by decide +kernel
theorem dX9_firstSide_16 : decode cX9_firstSide 16 = .ok (.ior, 1) := by decide +kernel
theorem dX9_firstSide_17 : decode cX9_firstSide 17 = .ok (.iload_n 3, 1) := by decide +kernel
theorem dX9_firstSide_18 : decode cX9_firstSide 18 = .ok (.invokestatic 97, 3) := by decide +kernel
theorem dX9_firstSide_2 : decode cX9_firstSide 2 = .ok (.iconst 0, 1) := by decide +kernel
theorem dX9_firstSide_21 : decode cX9_firstSide 21 = .ok (.ifCond .ne 66, 3) := by decide +kernel
theorem dX9_firstSide_24 : decode cX9_firstSide 24 = .ok (.iconst 0, 1) := by decide +kernel
theorem dX9_firstSide_25 : decode cX9_firstSide 25 = .ok (.istore 4, 2) := by decide +kernel
theorem dX9_firstSide_27 : decode cX9_firstSide 27 = .ok (.iload 4, 2) := by decide +kernel
theorem dX9_firstSide_29 : decode cX9_firstSide 29 = .ok (.aload_n 0, 1) := by decide +kernel
theorem dX9_firstSide_3 : decode cX9_firstSide 3 = .ok (.istore_n 2, 1) := by decide +kernel
theorem dX9_firstSide_30 : decode cX9_firstSide 30 = .ok (.getfield 56, 3) := by decide +kernel
theorem dX9_firstSide_33 : decode cX9_firstSide 33 = .ok (.if_icmp .ge 54, 3) := by decide +kernel
theorem dX9_firstSide_36 : decode cX9_firstSide 36 = .ok (.aload_n 0, 1) := by decide +kernel
theorem dX9_firstSide_37 : decode cX9_firstSide 37 = .ok (.iload_n 3, 1) := by decide +kernel
theorem dX9_firstSide_38 : decode cX9_firstSide 38 = .ok (.iload 4, 2) := by decide +kernel
theorem dX9_firstSide_4 : decode cX9_firstSide 4 = .ok (.iconst 0, 1) := by decide +kernel
theorem dX9_firstSide_40 : decode cX9_firstSide 40 = .ok (.invokevirtual 109, 3) := by decide +kernel
theorem dX9_firstSide_43 : decode cX9_firstSide 43 = .ok (.istore 5, 2) := by decide +kernel
theorem dX9_firstSide_45 : decode cX9_firstSide 45 = .ok (.iload 5, 2) := by decide +kernel
theorem dX9_firstSide_47 : decode cX9_firstSide 47 = .ok (.iconst (-1), 1) := by decide +kernel
theorem dX9_firstSide_48 : decode cX9_firstSide 48 = .ok (.if_icmp .eq 20, 3) := by decide +kernel
theorem dX9_firstSide_5 : decode cX9_firstSide 5 = .ok (.istore_n 3, 1) := by decide +kernel
theorem dX9_firstSide_51 : decode cX9_firstSide 51 = .ok (.iload 5, 2) := by decide +kernel
theorem dX9_firstSide_53 : decode cX9_firstSide 53 = .ok (.iconst 2, 1) := by decide +kernel
theorem dX9_firstSide_54 : decode cX9_firstSide 54 = .ok (.irem, 1) := by decide +kernel
theorem dX9_firstSide_55 : decode cX9_firstSide 55 = .ok (.ifCond .ne 13, 3) := by decide +kernel
theorem dX9_firstSide_58 : decode cX9_firstSide 58 = .ok (.iload_n 1, 1) := by decide +kernel
theorem dX9_firstSide_59 : decode cX9_firstSide 59 = .ok (.iconst 1, 1) := by decide +kernel
theorem dX9_firstSide_6 : decode cX9_firstSide 6 = .ok (.iload_n 3, 1) := by decide +kernel
theorem dX9_firstSide_60 : decode cX9_firstSide 60 = .ok (.iload 4, 2) := by decide +kernel
theorem dX9_firstSide_62 : decode cX9_firstSide 62 = .ok (.ishl, 1) := by decide +kernel
theorem dX9_firstSide_63 : decode cX9_firstSide 63 = .ok (.ior, 1) := by decide +kernel
theorem dX9_firstSide_64 : decode cX9_firstSide 64 = .ok (.istore_n 1, 1) := by decide +kernel
theorem dX9_firstSide_65 : decode cX9_firstSide 65 = .ok (.goto 16, 3) := by decide +kernel
theorem dX9_firstSide_68 : decode cX9_firstSide 68 = .ok (.iload 5, 2) := by decide +kernel
theorem dX9_firstSide_7 : decode cX9_firstSide 7 = .ok (.aload_n 0, 1) := by decide +kernel
theorem dX9_firstSide_70 : decode cX9_firstSide 70 = .ok (.iconst (-1), 1) := by decide +kernel
theorem dX9_firstSide_71 : decode cX9_firstSide 71 = .ok (.if_icmp .eq 10, 3) := by decide +kernel
theorem dX9_firstSide_74 : decode cX9_firstSide 74 = .ok (.iload_n 2, 1) := by decide +kernel
theorem dX9_firstSide_75 : decode cX9_firstSide 75 = .ok (.iconst 1, 1) := by decide +kernel
theorem dX9_firstSide_76 : decode cX9_firstSide 76 = .ok (.iload 4, 2) := by decide +kernel
theorem dX9_firstSide_78 : decode cX9_firstSide 78 = .ok (.ishl, 1) := by decide +kernel
theorem dX9_firstSide_79 : decode cX9_firstSide 79 = .ok (.ior, 1) := by decide +kernel
theorem dX9_firstSide_8 : decode cX9_firstSide 8 = .ok (.getfield 56, 3) := by decide +kernel
theorem dX9_firstSide_80 : decode cX9_firstSide 80 = .ok (.istore_n 2, 1) := by decide +kernel
theorem dX9_firstSide_81 : decode cX9_firstSide 81 = .ok (.iinc 4 1, 3) := by decide +kernel
theorem dX9_firstSide_84 : decode cX9_firstSide 84 = .ok (.goto (-57), 3) := by decide +kernel
theorem dX9_firstSide_87 : decode cX9_firstSide 87 = .ok (.iinc 3 1, 3) := by decide +kernel
theorem dX9_firstSide_90 : decode cX9_firstSide 90 = .ok (.goto (-84), 3) := by decide +kernel
theorem dX9_firstSide_93 : decode cX9_firstSide 93 = .ok (.aload_n 0, 1) := by decide +kernel
theorem dX9_firstSide_94 : decode cX9_firstSide 94 = .ok (.iload_n 1, 1) := by decide +kernel
theorem dX9_firstSide_95 : decode cX9_firstSide 95 = .ok (.invokevirtual 122, 3) := by decide +kernel
theorem dX9_firstSide_98 : decode cX9_firstSide 98 = .ok (.ifCond .ne 11, 3) := by decide +kernel
theorem dX9_isRings_0 : decode cX9_isRings 0 = .ok (.iconst 0, 1) := by decide +kernel
theorem dX9_isRings_1 : decode cX9_isRings 1 = .ok (.istore_n 2, 1) := by decide +kernel
theorem dX9_isRings_10 : decode cX9_isRings 10 = .ok (.iload_n 1, 1) := by decide +kernel
theorem dX9_isRings_11 : decode cX9_isRings 11 = .ok (.iload_n 2, 1) := by decide +kernel
theorem dX9_isRings_12 : decode cX9_isRings 12 = .ok (.invokestatic 97, 3) := by decide +kernel
theorem dX9_isRings_15 : decode cX9_isRings 15 = .ok (.ifCond .eq 20, 3) := by decide +kernel
theorem dX9_isRings_18 : decode cX9_isRings 18 = .ok (.aload_n 0, 1) := by decide +kernel
theorem dX9_isRings_19 : decode cX9_isRings 19 = .ok (.getfield 9, 3) := by decide +kernel
theorem dX9_isRings_2 : decode cX9_isRings 2 = .ok (.iload_n 2, 1) := by decide +kernel
theorem dX9_isRings_22 : decode cX9_isRings 22 = .ok (.iload_n 2, 1) := by decide +kernel
theorem dX9_isRings_23 : decode cX9_isRings 23 = .ok (.iaload, 1) := by decide +kernel
theorem dX9_isRings_24 : decode cX9_isRings 24 = .ok (.iload_n 1, 1) := by decide +kernel
theorem dX9_isRings_25 : decode cX9_isRings 25 = .ok (.iand, 1) := by decide +kernel
theorem dX9_isRings_26 : decode cX9_isRings 26 = .ok (.invokestatic 112, 3) := by decide +kernel
theorem dX9_isRings_29 : decode cX9_isRings 29 = .ok (.iconst 2, 1) := by decide +kernel
theorem dX9_isRings_3 : decode cX9_isRings 3 = .ok (.aload_n 0, 1) := by decide +kernel
theorem dX9_isRings_30 : decode cX9_isRings 30 = .ok (.if_icmp .eq 5, 3) := by decide +kernel
theorem dX9_isRings_33 : decode cX9_isRings 33 = .ok (.iconst 0, 1) := by decide +kernel
theorem dX9_isRings_34 : decode cX9_isRings 34 = .ok (.ireturn, 1) := by decide +kernel
theorem dX9_isRings_35 : decode cX9_isRings 35 = .ok (.iinc 2 1, 3) := by decide +kernel
theorem dX9_isRings_38 : decode cX9_isRings 38 = .ok (.goto (-36), 3) := by decide +kernel
theorem dX9_isRings_4 : decode cX9_isRings 4 = .ok (.getfield 56, 3) := by decide +kernel
theorem dX9_isRings_41 : decode cX9_isRings 41 = .ok (.iconst 1, 1) := by decide +kernel
theorem dX9_isRings_42 : decode cX9_isRings 42 = .ok (.ireturn, 1) := by decide +kernel
theorem dX9_isRings_7 : decode cX9_isRings 7 = .ok (.if_icmp .ge 34, 3) := by decide +kernel
theorem dX9_smallestOddRing_0 : decode cX9_smallestOddRing 0 = .ok (.iconst (-1), 1) := by decide +kernel
theorem dX9_smallestOddRing_1 : decode cX9_smallestOddRing 1 = .ok (.istore_n 1, 1) := by decide +kernel
theorem dX9_smallestOddRing_10 : decode cX9_smallestOddRing 10 = .ok (.istore_n 3, 1) := by decide +kernel
theorem dX9_smallestOddRing_11 : decode cX9_smallestOddRing 11 = .ok (.iload_n 3, 1) := by decide +kernel
theorem dX9_smallestOddRing_12 : decode cX9_smallestOddRing 12 = .ok (.iconst 1, 1) := by decide +kernel
theorem dX9_smallestOddRing_13 : decode cX9_smallestOddRing 13 = .ok (.aload_n 0, 1) := by decide +kernel
theorem dX9_smallestOddRing_14 : decode cX9_smallestOddRing 14 = .ok (.getfield 56, 3) := by decide +kernel
theorem dX9_smallestOddRing_17 : decode cX9_smallestOddRing 17 = .ok (.ishl, 1) := by decide +kernel
theorem dX9_smallestOddRing_18 : decode cX9_smallestOddRing 18 = .ok (.if_icmp .ge 42, 3) := by decide +kernel
theorem dX9_smallestOddRing_2 : decode cX9_smallestOddRing 2 = .ok (.aload_n 0, 1) := by decide +kernel
theorem dX9_smallestOddRing_21 : decode cX9_smallestOddRing 21 = .ok (.iload_n 3, 1) := by decide +kernel
theorem dX9_smallestOddRing_22 : decode cX9_smallestOddRing 22 = .ok (.invokestatic 112, 3) := by decide +kernel
theorem dX9_smallestOddRing_25 : decode cX9_smallestOddRing 25 = .ok (.istore 4, 2) := by decide +kernel
theorem dX9_smallestOddRing_27 : decode cX9_smallestOddRing 27 = .ok (.iload 4, 2) := by decide +kernel
theorem dX9_smallestOddRing_29 : decode cX9_smallestOddRing 29 = .ok (.iconst 2, 1) := by decide +kernel
theorem dX9_smallestOddRing_3 : decode cX9_smallestOddRing 3 = .ok (.getfield 56, 3) := by decide +kernel
theorem dX9_smallestOddRing_30 : decode cX9_smallestOddRing 30 = .ok (.irem, 1) := by decide +kernel
theorem dX9_smallestOddRing_31 : decode cX9_smallestOddRing 31 = .ok (.iconst 1, 1) := by decide +kernel
theorem dX9_smallestOddRing_32 : decode cX9_smallestOddRing 32 = .ok (.if_icmp .ne 22, 3) := by decide +kernel
theorem dX9_smallestOddRing_35 : decode cX9_smallestOddRing 35 = .ok (.iload 4, 2) := by decide +kernel
theorem dX9_smallestOddRing_37 : decode cX9_smallestOddRing 37 = .ok (.iload_n 2, 1) := by decide +kernel
theorem dX9_smallestOddRing_38 : decode cX9_smallestOddRing 38 = .ok (.if_icmp .ge 16, 3) := by decide +kernel
theorem dX9_smallestOddRing_41 : decode cX9_smallestOddRing 41 = .ok (.aload_n 0, 1) := by decide +kernel
theorem dX9_smallestOddRing_42 : decode cX9_smallestOddRing 42 = .ok (.iload_n 3, 1) := by decide +kernel
theorem dX9_smallestOddRing_43 : decode cX9_smallestOddRing 43 = .ok (.invokevirtual 118, 3) := by decide +kernel
theorem dX9_smallestOddRing_46 : decode cX9_smallestOddRing 46 = .ok (.ifCond .eq 8, 3) := by decide +kernel
theorem dX9_smallestOddRing_49 : decode cX9_smallestOddRing 49 = .ok (.iload_n 3, 1) := by decide +kernel
theorem dX9_smallestOddRing_50 : decode cX9_smallestOddRing 50 = .ok (.istore_n 1, 1) := by decide +kernel
theorem dX9_smallestOddRing_51 : decode cX9_smallestOddRing 51 = .ok (.iload 4, 2) := by decide +kernel
theorem dX9_smallestOddRing_53 : decode cX9_smallestOddRing 53 = .ok (.istore_n 2, 1) := by decide +kernel
theorem dX9_smallestOddRing_54 : decode cX9_smallestOddRing 54 = .ok (.iinc 3 1, 3) := by decide +kernel
theorem dX9_smallestOddRing_57 : decode cX9_smallestOddRing 57 = .ok (.goto (-46), 3) := by decide +kernel
theorem dX9_smallestOddRing_6 : decode cX9_smallestOddRing 6 = .ok (.iconst 1, 1) := by decide +kernel
theorem dX9_smallestOddRing_60 : decode cX9_smallestOddRing 60 = .ok (.iload_n 1, 1) := by decide +kernel
theorem dX9_smallestOddRing_61 : decode cX9_smallestOddRing 61 = .ok (.ireturn, 1) := by decide +kernel
theorem dX9_smallestOddRing_7 : decode cX9_smallestOddRing 7 = .ok (.iadd, 1) := by decide +kernel
theorem dX9_smallestOddRing_8 : decode cX9_smallestOddRing 8 = .ok (.istore_n 2, 1) := by decide +kernel
theorem dX9_smallestOddRing_9 : decode cX9_smallestOddRing 9 = .ok (.iconst 1, 1) := by decide +kernel
theorem dX9_touchesWithin_0 : decode cX9_touchesWithin 0 = .ok (.iconst 0, 1) := by decide +kernel
theorem dX9_touchesWithin_1 : decode cX9_touchesWithin 1 = .ok (.istore_n 2, 1) := by decide +kernel
theorem dX9_touchesWithin_10 : decode cX9_touchesWithin 10 = .ok (.iload_n 1, 1) := by decide +kernel
theorem dX9_touchesWithin_11 : decode cX9_touchesWithin 11 = .ok (.iload_n 2, 1) := by decide +kernel
theorem dX9_touchesWithin_12 : decode cX9_touchesWithin 12 = .ok (.invokestatic 97, 3) := by decide +kernel
theorem dX9_touchesWithin_15 : decode cX9_touchesWithin 15 = .ok (.ifCond .eq 16, 3) := by decide +kernel
theorem dX9_touchesWithin_18 : decode cX9_touchesWithin 18 = .ok (.aload_n 0, 1) := by decide +kernel
theorem dX9_touchesWithin_19 : decode cX9_touchesWithin 19 = .ok (.getfield 9, 3) := by decide +kernel
theorem dX9_touchesWithin_2 : decode cX9_touchesWithin 2 = .ok (.iload_n 2, 1) := by decide +kernel
theorem dX9_touchesWithin_22 : decode cX9_touchesWithin 22 = .ok (.iload_n 2, 1) := by decide +kernel
theorem dX9_touchesWithin_23 : decode cX9_touchesWithin 23 = .ok (.iaload, 1) := by decide +kernel
theorem dX9_touchesWithin_24 : decode cX9_touchesWithin 24 = .ok (.iload_n 1, 1) := by decide +kernel
theorem dX9_touchesWithin_25 : decode cX9_touchesWithin 25 = .ok (.iand, 1) := by decide +kernel
theorem dX9_touchesWithin_26 : decode cX9_touchesWithin 26 = .ok (.ifCond .eq 5, 3) := by decide +kernel
theorem dX9_touchesWithin_29 : decode cX9_touchesWithin 29 = .ok (.iconst 1, 1) := by decide +kernel
theorem dX9_touchesWithin_3 : decode cX9_touchesWithin 3 = .ok (.aload_n 0, 1) := by decide +kernel
theorem dX9_touchesWithin_30 : decode cX9_touchesWithin 30 = .ok (.ireturn, 1) := by decide +kernel
theorem dX9_touchesWithin_31 : decode cX9_touchesWithin 31 = .ok (.iinc 2 1, 3) := by decide +kernel
theorem dX9_touchesWithin_34 : decode cX9_touchesWithin 34 = .ok (.goto (-32), 3) := by decide +kernel
theorem dX9_touchesWithin_37 : decode cX9_touchesWithin 37 = .ok (.iconst 0, 1) := by decide +kernel
theorem dX9_touchesWithin_38 : decode cX9_touchesWithin 38 = .ok (.ireturn, 1) := by decide +kernel
theorem dX9_touchesWithin_4 : decode cX9_touchesWithin 4 = .ok (.getfield 56, 3) := by decide +kernel
theorem dX9_touchesWithin_7 : decode cX9_touchesWithin 7 = .ok (.if_icmp .ge 30, 3) := by decide +kernel
set_option maxRecDepth 4000 in
theorem k_X11_makeDrawnDeed (l : Launch) (M : Mem) (hJ : Iw M) : CI l yX11_makeDrawnDeed cX11_makeDrawnDeed 4 (some .boolean) 7 (fun ad => [.ref (ad 0)]) M (fun z M' => (0 ≤ z ∧ z ≤ 1) ∧ Fr [0, 16, 17, 35, 36, 37, 38, 39, 40, 41] M M') := by
  obtain ⟨hI, hW⟩ := hJ
  have hF : Fr [0, 16, 17, 35, 36, 37, 38, 39, 40, 41] M M := Fr.rf
  refine en_z (by decide +kernel) (fun ad => by exact Nat.le_of_ble_eq_true rfl) (fun D cy ad A p e s m args below meth c Q F hret => ?_)
  refine z_eq (ls' := [(0, .ref (ad 0))]) rfl rfl rfl ?_
  refine z_aload_n F dX11_makeDrawnDeed_0 rfl (q := 0) rfl ?_
  refine z_iconst F dX11_makeDrawnDeed_1 ?_
  refine zv_i (rest := []) F (k_X11_drawBelow l M ⟨hI, hW⟩ 3 (by omega) (by omega)) cs_X11_301 (T := TX11) (N := 14) (ci := 11) rfl gs_0 (by decide) (by decide) rfl rfl rfl (Nat.le_of_ble_eq_true rfl) dX11_makeDrawnDeed_2 (fun v1 M2 rv1 hI p3 => ?_)
  obtain ⟨hI, hW⟩ := hI
  obtain ⟨⟨av1, bv1⟩, fp3, xp3⟩ := p3
  have hF := hF.call fp3 (by decide)
  refine z_istore_n F dX11_makeDrawnDeed_5 rfl (by decide) (ls' := [(1, ii v1), (0, .ref (ad 0))]) rfl ?_
  refine z_iload_n F dX11_makeDrawnDeed_6 rfl (q := 0) rfl ?_
  refine z_if_ne (tgt := 30) F dX11_makeDrawnDeed_7 (by decide +kernel) (by omega) (fun c4 => ?_) (fun c4 => ?_)
  · refine z_aload_n F dX11_makeDrawnDeed_30 rfl (q := 1) rfl ?_
    refine z_aload_n F dX11_makeDrawnDeed_31 rfl (q := 1) rfl ?_
    refine rf_X11_16 F gs_0 rfl dX11_makeDrawnDeed_32 ?_
    refine gf_X11_286 F hI gs_2 rfl bd_2_3 dX11_makeDrawnDeed_35 (fun v5 ev5 av5 bv5 => ?_)
    refine zv_i (rest := []) F (k_X11_drawBelow l M2 ⟨hI, hW⟩ v5 (by omega) (by omega)) cs_X11_301 (T := TX11) (N := 14) (ci := 11) rfl gs_0 (by decide) (by decide) rfl rfl rfl (Nat.le_of_ble_eq_true rfl) dX11_makeDrawnDeed_38 (fun v6 M7 rv6 hI p8 => ?_)
    obtain ⟨hI, hW⟩ := hI
    obtain ⟨⟨av6, bv6⟩, fp8, xp8⟩ := p8
    have hF := hF.call fp8 (by decide)
    refine z_istore_n F dX11_makeDrawnDeed_41 rfl (by decide) (ls' := [(2, ii v6), (1, ii v1), (0, .ref (ad 0))]) rfl ?_
    refine z_iload_n F dX11_makeDrawnDeed_42 rfl (q := 1) rfl ?_
    refine z_iconst F dX11_makeDrawnDeed_43 ?_
    refine z_icmp_ne (tgt := 78) F dX11_makeDrawnDeed_44 (by decide +kernel) (by omega) (by omega) (fun c9 => ?_) (fun c9 => ?_)
    · refine z_aload_n F dX11_makeDrawnDeed_78 rfl (q := 2) rfl ?_
      refine z_aload_n F dX11_makeDrawnDeed_79 rfl (q := 2) rfl ?_
      refine rf_X11_16 F gs_0 rfl dX11_makeDrawnDeed_80 ?_
      refine gf_X11_304 F hI gs_2 rfl bd_2_1 dX11_makeDrawnDeed_83 (fun v10 ev10 av10 bv10 => ?_)
      refine zv_i (rest := []) F (k_X11_drawBelow l M7 ⟨hI, hW⟩ v10 (by omega) (by omega)) cs_X11_301 (T := TX11) (N := 14) (ci := 11) rfl gs_0 (by decide) (by decide) rfl rfl rfl (Nat.le_of_ble_eq_true rfl) dX11_makeDrawnDeed_86 (fun v11 M12 rv11 hI p13 => ?_)
      obtain ⟨hI, hW⟩ := hI
      obtain ⟨⟨av11, bv11⟩, fp13, xp13⟩ := p13
      have hF := hF.call fp13 (by decide)
      refine z_istore_n F dX11_makeDrawnDeed_89 rfl (by decide) (ls' := [(3, ii v11), (2, ii v6), (1, ii v1), (0, .ref (ad 0))]) rfl ?_
      refine z_aload_n F dX11_makeDrawnDeed_90 rfl (q := 3) rfl ?_
      refine rf_X11_34 F gs_0 rfl dX11_makeDrawnDeed_91 ?_
      refine z_iload_n F dX11_makeDrawnDeed_94 rfl (q := 1) rfl ?_
      refine z_iload_n F dX11_makeDrawnDeed_95 rfl (q := 0) rfl ?_
      refine zv_i (rest := []) F (k_X7_obstacle_35 l M12 ⟨hI, hW⟩ v6 (by omega) (by omega) v11 (by omega) (by omega)) cs_X11_225 (T := TX7) (N := 7) (ci := 7) rfl gs_35 (by decide) (by decide) rfl rfl rfl (Nat.le_of_ble_eq_true rfl) dX11_makeDrawnDeed_96 (fun v14 M15 rv14 hI p16 => ?_)
      obtain ⟨hI, hW⟩ := hI
      obtain ⟨⟨av14, bv14⟩, rfl, xp16⟩ := p16
      refine z_if_eq (tgt := 104) F dX11_makeDrawnDeed_99 (by decide +kernel) (by omega) (fun c17 => ?_) (fun c17 => ?_)
      · refine z_aload_n F dX11_makeDrawnDeed_104 rfl (q := 3) rfl ?_
        refine rf_X11_41 F gs_0 rfl dX11_makeDrawnDeed_105 ?_
        refine z_aload_n F dX11_makeDrawnDeed_108 rfl (q := 3) rfl ?_
        refine rf_X11_34 F gs_0 rfl dX11_makeDrawnDeed_109 ?_
        refine zv_v (rest := []) F (k_X4_keep_40_35 l M12 ⟨hI, hW⟩) cs_X11_217 (T := TX4) (N := 3) (ci := 4) rfl gs_40 (by decide) (by decide) rfl rfl rfl (Nat.le_of_ble_eq_true rfl) dX11_makeDrawnDeed_112 (fun M18 hI p19 => ?_)
        obtain ⟨hI, hW⟩ := hI
        have fp19 := p19
        have hF := hF.call fp19 (by decide)
        refine z_aload_n F dX11_makeDrawnDeed_115 rfl (q := 3) rfl ?_
        refine rf_X11_34 F gs_0 rfl dX11_makeDrawnDeed_116 ?_
        refine z_iload_n F dX11_makeDrawnDeed_119 rfl (q := 1) rfl ?_
        refine z_iload_n F dX11_makeDrawnDeed_120 rfl (q := 0) rfl ?_
        refine zv_i (rest := []) F (k_X7_shift_35 l M18 ⟨hI, hW⟩ v6 (by omega) (by omega) v11 (by omega) (by omega)) cs_X11_228 (T := TX7) (N := 7) (ci := 7) rfl gs_35 (by decide) (by decide) rfl rfl rfl (Nat.le_of_ble_eq_true rfl) dX11_makeDrawnDeed_121 (fun v20 M21 rv20 hI p22 => ?_)
        obtain ⟨hI, hW⟩ := hI
        obtain ⟨⟨av20, bv20⟩, fp22⟩ := p22
        have hF := hF.call fp22 (by decide)
        refine z_pop F dX11_makeDrawnDeed_124 rfl ?_
        refine z_iconst F dX11_makeDrawnDeed_125 ?_
        exact hret _ _ 126 _ ⟨by omega, by omega⟩ ⟨hI, hW⟩ ⟨⟨by omega, by omega⟩, hF⟩ dX11_makeDrawnDeed_126
      · refine z_iconst F dX11_makeDrawnDeed_102 ?_
        exact hret _ _ 103 _ ⟨by omega, by omega⟩ ⟨hI, hW⟩ ⟨⟨by omega, by omega⟩, hF⟩ dX11_makeDrawnDeed_103
    · refine z_iconst F dX11_makeDrawnDeed_47 ?_
      refine z_aload_n F dX11_makeDrawnDeed_48 rfl (q := 2) rfl ?_
      refine z_bipush F dX11_makeDrawnDeed_49 (by decide +kernel) ?_
      refine zv_i (rest := [ii 1]) F (k_X11_drawBelow l M7 ⟨hI, hW⟩ 9 (by omega) (by omega)) cs_X11_301 (T := TX11) (N := 14) (ci := 11) rfl gs_0 (by decide) (by decide) rfl rfl rfl (Nat.le_of_ble_eq_true rfl) dX11_makeDrawnDeed_51 (fun v23 M24 rv23 hI p25 => ?_)
      obtain ⟨hI, hW⟩ := hI
      obtain ⟨⟨av23, bv23⟩, fp25, xp25⟩ := p25
      have hF := hF.call fp25 (by decide)
      refine z_iadd F dX11_makeDrawnDeed_54 ?_
      refine z_nm (fun v26 ev26 => ?_)
      refine z_istore_n F dX11_makeDrawnDeed_55 rfl (by decide) (ls' := [(3, ii v26), (2, ii v6), (1, ii v1), (0, .ref (ad 0))]) rfl ?_
      refine z_aload_n F dX11_makeDrawnDeed_56 rfl (q := 3) rfl ?_
      refine rf_X11_41 F gs_0 rfl dX11_makeDrawnDeed_57 ?_
      refine z_aload_n F dX11_makeDrawnDeed_60 rfl (q := 3) rfl ?_
      refine rf_X11_34 F gs_0 rfl dX11_makeDrawnDeed_61 ?_
      refine zv_v (rest := []) F (k_X4_keep_40_35 l M24 ⟨hI, hW⟩) cs_X11_217 (T := TX4) (N := 3) (ci := 4) rfl gs_40 (by decide) (by decide) rfl rfl rfl (Nat.le_of_ble_eq_true rfl) dX11_makeDrawnDeed_64 (fun M27 hI p28 => ?_)
      obtain ⟨hI, hW⟩ := hI
      have fp28 := p28
      have hF := hF.call fp28 (by decide)
      refine z_aload_n F dX11_makeDrawnDeed_67 rfl (q := 3) rfl ?_
      refine rf_X11_34 F gs_0 rfl dX11_makeDrawnDeed_68 ?_
      refine z_iload_n F dX11_makeDrawnDeed_71 rfl (q := 1) rfl ?_
      refine z_iload_n F dX11_makeDrawnDeed_72 rfl (q := 0) rfl ?_
      refine zv_v (rest := []) F (k_X7_addTo_35 l M27 ⟨hI, hW⟩ v6 (by omega) (by omega) v26 (by omega) (by omega)) cs_X11_221 (T := TX7) (N := 7) (ci := 7) rfl gs_35 (by decide) (by decide) rfl rfl rfl (Nat.le_of_ble_eq_true rfl) dX11_makeDrawnDeed_73 (fun M29 hI p30 => ?_)
      obtain ⟨hI, hW⟩ := hI
      have fp30 := p30
      have hF := hF.call fp30 (by decide)
      refine z_iconst F dX11_makeDrawnDeed_76 ?_
      exact hret _ _ 77 _ ⟨by omega, by omega⟩ ⟨hI, hW⟩ ⟨⟨by omega, by omega⟩, hF⟩ dX11_makeDrawnDeed_77
  · refine z_aload_n F dX11_makeDrawnDeed_10 rfl (q := 1) rfl ?_
    refine rf_X11_41 F gs_0 rfl dX11_makeDrawnDeed_11 ?_
    refine z_aload_n F dX11_makeDrawnDeed_14 rfl (q := 1) rfl ?_
    refine rf_X11_34 F gs_0 rfl dX11_makeDrawnDeed_15 ?_
    refine zv_v (rest := []) F (k_X4_keep_40_35 l M2 ⟨hI, hW⟩) cs_X11_217 (T := TX4) (N := 3) (ci := 4) rfl gs_40 (by decide) (by decide) rfl rfl rfl (Nat.le_of_ble_eq_true rfl) dX11_makeDrawnDeed_18 (fun M31 hI p32 => ?_)
    obtain ⟨hI, hW⟩ := hI
    have fp32 := p32
    have hF := hF.call fp32 (by decide)
    refine z_aload_n F dX11_makeDrawnDeed_21 rfl (q := 1) rfl ?_
    refine rf_X11_34 F gs_0 rfl dX11_makeDrawnDeed_22 ?_
    refine zv_v (rest := []) F (k_X7_passDay_35 l M31 ⟨hI, hW⟩) cs_X11_236 (T := TX7) (N := 7) (ci := 7) rfl gs_35 (by decide) (by decide) rfl rfl rfl (Nat.le_of_ble_eq_true rfl) dX11_makeDrawnDeed_25 (fun M33 hI p34 => ?_)
    obtain ⟨hI, hW⟩ := hI
    have fp34 := p34
    have hF := hF.call fp34 (by decide)
    refine z_iconst F dX11_makeDrawnDeed_28 ?_
    exact hret _ _ 29 _ ⟨by omega, by omega⟩ ⟨hI, hW⟩ ⟨⟨by omega, by omega⟩, hF⟩ dX11_makeDrawnDeed_29
set_option maxRecDepth 4000 in
theorem k_X11_season (l : Launch) (hlT : l.stackTraces = false) (M : Mem) (hJ : Iw M) (x0 : Int) (hx0a : (-2147483648) ≤ x0) (hx0b : x0 ≤ 2147483647) (x1 : Int) (hx1a : (-2147483648) ≤ x1) (hx1b : x1 ≤ 2147483647) : CIX l yX11_season cX11_season 5 (some .int) 8 1 (fun ad => [.ref (ad 0), ii x0, ii x1]) M (fun z M' => ((-2147483648) ≤ z ∧ z ≤ 2147483647) ∧ Fr [0, 16, 17, 35, 36, 37, 38, 39, 40, 41] M M') (fun E M' => (E = "java/lang/IllegalArgumentException" ∧ True ∧ Fr [0, 16, 17, 35, 36, 37, 38, 39, 40, 41] M M') ∨ (E = "java/lang/IllegalStateException" ∧ True ∧ Fr [0, 16, 17, 35, 36, 37, 38, 39, 40, 41] M M')) := by
  obtain ⟨hI, hW⟩ := hJ
  have hF : Fr [0, 16, 17, 35, 36, 37, 38, 39, 40, 41] M M := Fr.rf
  refine enx_i (by decide +kernel) (fun ad => by exact Nat.le_of_ble_eq_true rfl) (fun D cy ad A p e s m args below meth c Q F hQ hr hlk hex => ?_)
  refine z_eq (ls' := [(0, .ref (ad 0)), (1, ii x0), (2, ii x1)]) rfl rfl rfl ?_
  refine z_iload_n F dX11_season_0 rfl (q := 2) rfl ?_
  refine z_iconst F dX11_season_1 ?_
  refine z_icmp_lt (tgt := 11) F dX11_season_2 (by decide +kernel) (by omega) (by omega) (fun c1 => ?_) (fun c1 => ?_)
  · exact z_thrSW (cls := "java/lang/IllegalArgumentException") (names := ["java/lang/RuntimeException", "java/lang/Exception"]) (j := 40) F hlT hQ hlk hex (by decide +kernel) (by decide +kernel) (by decide) (gin lm_360 rfl) (gin lm_361 rfl) at_X11_105 bad_X11_105 (by decide +kernel) ot_X11_105 rfl rfl rfl dX11_season_11 dX11_season_14 dX11_season_15 dX11_season_18 dX11_season_21 ⟨by decide, by decide⟩ (Nat.le_of_ble_eq_true rfl) ⟨hI, hW⟩ (Or.inl ⟨rfl, trivial, hF⟩)
  · refine z_iload_n F dX11_season_5 rfl (q := 2) rfl ?_
    refine z_bipush F dX11_season_6 (by decide +kernel) ?_
    refine z_icmp_le (tgt := 22) F dX11_season_8 (by decide +kernel) (by omega) (by omega) (fun c2 => ?_) (fun c2 => ?_)
    · refine z_aload_n F dX11_season_22 rfl (q := 0) rfl ?_
      refine rf_X11_16 F gs_0 rfl dX11_season_23 ?_
      refine gf_X11_286 F hI gs_2 rfl bd_2_3 dX11_season_26 (fun v3 ev3 av3 bv3 => ?_)
      refine z_if_ne (tgt := 43) F dX11_season_29 (by decide +kernel) (by omega) (fun c4 => ?_) (fun c4 => ?_)
      · refine z_aload_n F dX11_season_43 rfl (q := 0) rfl ?_
        refine z_iload_n F dX11_season_44 rfl (q := 1) rfl ?_
        refine pf_X11_294 F hI gs_0 rfl bd_0_13 rfl rfl dX11_season_45 (by omega) (by omega) (fun M6 hI sf5 f5 => ?_)
        have hF := hF.wrz f5 (by decide) (by decide)
        have hW : WFk M6 := hW.site f5 (by decide)
        refine z_iconst F dX11_season_48 ?_
        refine z_istore_n F dX11_season_49 rfl (by decide) (ls' := [(3, ii 0), (0, .ref (ad 0)), (1, ii x0), (2, ii x1)]) rfl ?_
        refine z_iconst F dX11_season_50 ?_
        refine z_istore F dX11_season_51 (by decide) (ls' := [(4, ii 0), (3, ii 0), (0, .ref (ad 0)), (1, ii x0), (2, ii x1)]) rfl ?_
        refine z_loc [2, 4, 1, 0] (ls' := [(0, .ref (ad 0)), (2, ii x1), (3, ii 0), (4, ii 0)]) rfl ?_
        suffices key53 : ∀ (n : Nat) (y8 : Int) (y9 : Int) (M7 : Mem), Inv M7 → WFk M7 → Fr [0, 16, 17, 35, 36, 37, 38, 39, 40, 41] M M7 → (-2147483648) ≤ y8 → y8 ≤ 2147483647 → 0 ≤ y9 → y9 ≤ 30 → 30 - y9 < (n : Int) → Z D cy ad p l e (RMx 8 1) s m args below meth c A 5 0 0 Q 53 [(0, .ref (ad 0)), (2, ii x1), (3, ii y8), (4, ii y9)] [] M7 from key53 31 0 0 M6 hI hW hF (by omega) (by omega) (by omega) (by omega) (by omega)
        intro n53
        induction n53 with
        | zero => intro y8 y9 M7 hI hW hF ay8 by8 ay9 by9 hn53; exfalso; omega
        | succ n53 ih53 =>
          intro y8 y9 M7 hI hW hF ay8 by8 ay9 by9 hn53
          refine z_iload F dX11_season_53 (q := 3) rfl ?_
          refine z_iload_n F dX11_season_55 rfl (q := 1) rfl ?_
          refine z_icmp_ge (tgt := 75) F dX11_season_56 (by decide +kernel) (by omega) (by omega) (fun c10 => ?_) (fun c10 => ?_)
          · refine z_iload_n F dX11_season_75 rfl (q := 2) rfl ?_
            exact zxr_i F hQ hr hlk dX11_season_76 ⟨by decide, by decide⟩ (by omega) ⟨hI, hW⟩ ⟨⟨by omega, by omega⟩, hF⟩
          · refine z_aload_n F dX11_season_59 rfl (q := 0) rfl ?_
            refine zw_i (rest := []) F (k_X11_makeDrawnDeed l M7 ⟨hI, hW⟩) cs_X11_297 (T := TX11) (N := 14) (ci := 11) rfl gs_0 (by decide) (by decide) ⟨by decide, by decide⟩ rfl rfl rfl (Nat.le_of_ble_eq_true rfl) dX11_season_60 (fun v11 M12 rv11 hI p13 => ?_)
            obtain ⟨hI, hW⟩ := hI
            obtain ⟨⟨av11, bv11⟩, fp13⟩ := p13
            have hF := hF.call fp13 (by decide)
            refine z_if_eq (tgt := 69) F dX11_season_63 (by decide +kernel) (by omega) (fun c14 => ?_) (fun c14 => ?_)
            · refine z_iincN F dX11_season_69 (q := 3) rfl (by decide) (fun v15 ev15 => ?_)
              refine z_eq (ls' := [(4, ii v15), (0, .ref (ad 0)), (2, ii x1), (3, ii y8)]) rfl rfl rfl ?_
              refine z_goto (tgt := 53) F dX11_season_72 (by decide +kernel) ?_
              refine z_loc [1, 2, 3, 0] (ls' := [(0, .ref (ad 0)), (2, ii x1), (3, ii y8), (4, ii v15)]) rfl ?_
              exact ih53 y8 v15 M12 hI hW hF (by omega) (by omega) (by omega) (by omega) (by omega)
            · refine z_iincW F dX11_season_66 (q := 2) rfl (by decide) (fun v16 rv16 wv16 => ?_)
              refine z_eq (ls' := [(3, ii v16), (0, .ref (ad 0)), (2, ii x1), (4, ii y9)]) rfl rfl rfl ?_
              refine z_iincN F dX11_season_69 (q := 3) rfl (by decide) (fun v17 ev17 => ?_)
              refine z_eq (ls' := [(4, ii v17), (3, ii v16), (0, .ref (ad 0)), (2, ii x1)]) rfl rfl rfl ?_
              refine z_goto (tgt := 53) F dX11_season_72 (by decide +kernel) ?_
              refine z_loc [2, 3, 1, 0] (ls' := [(0, .ref (ad 0)), (2, ii x1), (3, ii v16), (4, ii v17)]) rfl ?_
              exact ih53 v16 v17 M12 hI hW hF (by omega) (by omega) (by omega) (by omega) (by omega)
      · exact z_thrSW (cls := "java/lang/IllegalStateException") (names := ["java/lang/RuntimeException", "java/lang/Exception"]) (j := 41) F hlT hQ hlk hex (by decide +kernel) (by decide +kernel) (by decide) (gin lm_530 rfl) (gin lm_531 rfl) at_X11_293 bad_X11_293 (by decide +kernel) ot_X11_293 rfl rfl rfl dX11_season_32 dX11_season_35 dX11_season_36 dX11_season_39 dX11_season_42 ⟨by decide, by decide⟩ (Nat.le_of_ble_eq_true rfl) ⟨hI, hW⟩ (Or.inr (⟨rfl, trivial, hF⟩))
    · exact z_thrSW (cls := "java/lang/IllegalArgumentException") (names := ["java/lang/RuntimeException", "java/lang/Exception"]) (j := 40) F hlT hQ hlk hex (by decide +kernel) (by decide +kernel) (by decide) (gin lm_360 rfl) (gin lm_361 rfl) at_X11_105 bad_X11_105 (by decide +kernel) ot_X11_105 rfl rfl rfl dX11_season_11 dX11_season_14 dX11_season_15 dX11_season_18 dX11_season_21 ⟨by decide, by decide⟩ (Nat.le_of_ble_eq_true rfl) ⟨hI, hW⟩ (Or.inl ⟨rfl, trivial, hF⟩)
set_option maxRecDepth 4000 in
theorem k_J6_bitCount_0f7a4_m (l : Launch) (M : Mem) (hJ : Iw M) (x0 : Int) (hx0a : 0 ≤ x0) (hx0b : x0 ≤ 1023) : CI l yJ6_bitCount_0f7a4 cJ6_bitCount_0f7a4 1 (some .int) 1 (fun ad => [ii x0]) M (fun z M' => (0 ≤ z ∧ z ≤ 63) ∧ M = M' ∧ (z = pcn x0.toNat)) := by
  obtain ⟨hI, hW⟩ := hJ
  refine en_i (by decide +kernel) (fun ad => by exact Nat.le_of_ble_eq_true rfl) (fun D cy ad A p e s m args below meth c Q F hret => ?_)
  refine z_eq (ls' := [(0, ii x0)]) rfl rfl rfl ?_
  refine z_iload_n F dJ6_bitCount_0f7a4_0 rfl (q := 0) rfl ?_
  refine z_iload_n F dJ6_bitCount_0f7a4_1 rfl (q := 0) rfl ?_
  refine z_iconst F dJ6_bitCount_0f7a4_2 ?_
  refine z_iushr_d (k := 1) (q := 2) F dJ6_bitCount_0f7a4_3 (by omega) (by omega) (by decide) (by decide +kernel) (fun v1 ev1 => ?_)
  refine z_ldcw (x := 1431655765) F dJ6_bitCount_0f7a4_4 (gin lm_386 rfl) (by decide +kernel) ?_
  refine z_iand_l F dJ6_bitCount_0f7a4_7 (by omega) (by omega) (fun v2 ev2 av2 bv2 => ?_)
  have hb1 := bcq_1 (x := x0) (by omega) (by omega) ev2 (by assumption)
  refine z_isub F dJ6_bitCount_0f7a4_8 ?_
  have k3 : 0 ≤ (x0 - v2) ∧ (x0 - v2) ≤ 1023 := by omega
  refine z_nm (fun v4 ev4 => ?_)
  refine z_istore_n F dJ6_bitCount_0f7a4_9 rfl (by decide) (ls' := [(0, ii v4)]) rfl ?_
  refine z_iload_n F dJ6_bitCount_0f7a4_10 rfl (q := 0) rfl ?_
  refine z_ldcw (x := 858993459) F dJ6_bitCount_0f7a4_11 (gin lm_387 rfl) (by decide +kernel) ?_
  refine z_iand_l F dJ6_bitCount_0f7a4_14 (by omega) (by omega) (fun v5 ev5 av5 bv5 => ?_)
  refine z_iload_n F dJ6_bitCount_0f7a4_15 rfl (q := 0) rfl ?_
  refine z_iconst F dJ6_bitCount_0f7a4_16 ?_
  refine z_iushr_d (k := 2) (q := 4) F dJ6_bitCount_0f7a4_17 (by omega) (by omega) (by decide) (by decide +kernel) (fun v6 ev6 => ?_)
  refine z_ldcw (x := 858993459) F dJ6_bitCount_0f7a4_18 (gin lm_387 rfl) (by decide +kernel) ?_
  refine z_iand_l F dJ6_bitCount_0f7a4_21 (by omega) (by omega) (fun v7 ev7 av7 bv7 => ?_)
  refine z_iadd F dJ6_bitCount_0f7a4_22 ?_
  refine z_nm (fun v8 ev8 => ?_)
  refine z_istore_n F dJ6_bitCount_0f7a4_23 rfl (by decide) (ls' := [(0, ii v8)]) rfl ?_
  refine z_iload_n F dJ6_bitCount_0f7a4_24 rfl (q := 0) rfl ?_
  refine z_iload_n F dJ6_bitCount_0f7a4_25 rfl (q := 0) rfl ?_
  refine z_iconst F dJ6_bitCount_0f7a4_26 ?_
  refine z_iushr_d (k := 4) (q := 16) F dJ6_bitCount_0f7a4_27 (by omega) (by omega) (by decide) (by decide +kernel) (fun v9 ev9 => ?_)
  refine z_iadd F dJ6_bitCount_0f7a4_28 ?_
  refine z_ldcw (x := 252645135) F dJ6_bitCount_0f7a4_29 (gin lm_388 rfl) (by decide +kernel) ?_
  refine z_iand_l F dJ6_bitCount_0f7a4_32 (by omega) (by omega) (fun v10 ev10 av10 bv10 => ?_)
  refine z_istore_n F dJ6_bitCount_0f7a4_33 rfl (by decide) (ls' := [(0, ii v10)]) rfl ?_
  refine z_iload_n F dJ6_bitCount_0f7a4_34 rfl (q := 0) rfl ?_
  refine z_iload_n F dJ6_bitCount_0f7a4_35 rfl (q := 0) rfl ?_
  refine z_bipush F dJ6_bitCount_0f7a4_36 (by decide +kernel) ?_
  refine z_iushr_d (k := 8) (q := 256) F dJ6_bitCount_0f7a4_38 (by omega) (by omega) (by decide) (by decide +kernel) (fun v11 ev11 => ?_)
  refine z_iadd F dJ6_bitCount_0f7a4_39 ?_
  refine z_nm (fun v12 ev12 => ?_)
  refine z_istore_n F dJ6_bitCount_0f7a4_40 rfl (by decide) (ls' := [(0, ii v12)]) rfl ?_
  refine z_iload_n F dJ6_bitCount_0f7a4_41 rfl (q := 0) rfl ?_
  refine z_iload_n F dJ6_bitCount_0f7a4_42 rfl (q := 0) rfl ?_
  refine z_bipush F dJ6_bitCount_0f7a4_43 (by decide +kernel) ?_
  refine z_iushr_d (k := 16) (q := 65536) F dJ6_bitCount_0f7a4_45 (by omega) (by omega) (by decide) (by decide +kernel) (fun v13 ev13 => ?_)
  refine z_iadd F dJ6_bitCount_0f7a4_46 ?_
  refine z_nm (fun v14 ev14 => ?_)
  refine z_istore_n F dJ6_bitCount_0f7a4_47 rfl (by decide) (ls' := [(0, ii v14)]) rfl ?_
  refine z_iload_n F dJ6_bitCount_0f7a4_48 rfl (q := 0) rfl ?_
  refine z_bipush F dJ6_bitCount_0f7a4_49 (by decide +kernel) ?_
  refine z_iand_r F dJ6_bitCount_0f7a4_51 (by omega) (by omega) (fun v15 ev15 av15 bv15 => ?_)
  exact hret _ _ 52 _ (by omega) ⟨hI, hW⟩ ⟨⟨by omega, by omega⟩, rfl, (by rw [bcq_8 (x := x0) (by omega) (by omega) ev15 (by assumption) (by assumption) (by assumption) (by assumption) (by assumption) (by assumption) (by assumption) (by assumption) (by assumption) (by assumption) (by assumption) (by assumption) (by assumption)])⟩ dJ6_bitCount_0f7a4_52
set_option maxRecDepth 4000 in
theorem k_X9_isRings_2 (l : Launch) (M : Mem) (hJ : Iw M) (x0 : Int) (hx0a : 0 ≤ x0) (hx0b : x0 ≤ 1023) : CI l yX9_isRings cX9_isRings 3 (some .boolean) 2 (fun ad => [.ref (ad 2), ii x0]) M (fun z M' => (0 ≤ z ∧ z ≤ 1) ∧ M = M' ∧ (Im (x0 < ((2 ^ (M 2 1).toNat : Nat) : Int)) (RgZ M x0 z))) := by
  obtain ⟨hI, hW⟩ := hJ
  refine en_z (by decide +kernel) (fun ad => by exact Nat.le_of_ble_eq_true rfl) (fun D cy ad A p e s m args below meth c Q F hret => ?_)
  refine z_eq (ls' := [(0, .ref (ad 2)), (1, ii x0)]) rfl rfl rfl ?_
  obtain ⟨u1, eu1⟩ : ∃ v : Int, v = M 2 1 := ⟨_, rfl⟩
  have ku1 : 0 ≤ u1 ∧ u1 ≤ 10 := by have := hI.at (show Bd 2 1 = (0, 10) from rfl); omega
  have hP10 := hI.at (show Bd 2 1 = (0, 10) from rfl)
  refine z_iconst F dX9_isRings_0 ?_
  refine z_istore_n F dX9_isRings_1 rfl (by decide) (ls' := [(2, ii 0), (0, .ref (ad 2)), (1, ii x0)]) rfl ?_
  refine z_loc [1, 2, 0] (ls' := [(0, .ref (ad 2)), (1, ii x0), (2, ii 0)]) rfl ?_
  suffices key2 : ∀ (n : Nat) (y3 : Int), 0 ≤ y3 → y3 ≤ 10 → (Im (x0 < ((2 ^ (M 2 1).toNat : Nat) : Int)) (OhI M x0 y3)) → 10 - y3 < (n : Int) → Z D cy ad p l e (RMh 2) s m args below meth c A 3 0 0 Q 2 [(0, .ref (ad 2)), (1, ii x0), (2, ii y3)] [] M from key2 11 0 (by omega) (by omega) (fun _ => oh_0) (by omega)
  intro n2
  induction n2 with
  | zero => intro y3 ay3 by3 i2_0 hn2; exfalso; omega
  | succ n2 ih2 =>
    intro y3 ay3 by3 i2_0 hn2
    refine z_iload_n F dX9_isRings_2 rfl (q := 2) rfl ?_
    refine z_aload_n F dX9_isRings_3 rfl (q := 0) rfl ?_
    refine gf_X9_56 F hI gs_2 rfl bd_2_1 dX9_isRings_4 (fun v4 ev4 av4 bv4 => ?_)
    have zv4 : u1 = v4 := eu1.trans ev4.symm
    subst zv4
    refine z_icmp_ge (tgt := 41) F dX9_isRings_7 (by decide +kernel) (by omega) (by omega) (fun c5 => ?_) (fun c5 => ?_)
    · refine z_iconst F dX9_isRings_41 ?_
      exact hret _ _ 42 _ ⟨by omega, by omega⟩ ⟨hI, hW⟩ ⟨⟨by omega, by omega⟩, rfl, (fun g => oh_e (by omega) (by omega) g (i2_0 g) (by omega))⟩ dX9_isRings_42
    · refine z_iload_n F dX9_isRings_10 rfl (q := 1) rfl ?_
      refine z_iload_n F dX9_isRings_11 rfl (q := 2) rfl ?_
      refine zn_i (rest := []) F (k_X11_isIn l M ⟨hI, hW⟩ x0 (by omega) (by omega) y3 (by omega) (by omega)) cs_X9_97 (by decide) (by decide) rfl rfl rfl (Nat.le_of_ble_eq_true rfl) dX9_isRings_12 (fun v6 M7 rv6 hI p8 => ?_)
      obtain ⟨hI, hW⟩ := hI
      obtain ⟨⟨av6, bv6⟩, rfl, xp8⟩ := p8
      have hbqy3 := xp8
      refine z_if_eq (tgt := 35) F dX9_isRings_15 (by decide +kernel) (by omega) (fun c9 => ?_) (fun c9 => ?_)
      · refine z_iincN F dX9_isRings_35 (q := 2) rfl (by decide) (fun v10 ev10 => ?_)
        refine z_eq (ls' := [(2, ii v10), (0, .ref (ad 2)), (1, ii x0)]) rfl rfl rfl ?_
        refine z_goto (tgt := 2) F dX9_isRings_38 (by decide +kernel) ?_
        refine z_loc [1, 2, 0] (ls' := [(0, .ref (ad 2)), (1, ii x0), (2, ii v10)]) rfl ?_
        exact ih2 v10 (by omega) (by omega) (by rw [show v10 = y3 + 1 from by omega]; exact fun g => oh_s (i2_0 g) (by omega) (fun b9 => False.elim ((fun h => by have h9 := xp8.mpr ((lb_bt (by omega) (by omega)).mpr h); omega) b9))) (by omega)
      · refine z_aload_n F dX9_isRings_18 rfl (q := 0) rfl ?_
        refine rf_X9_9 F gs_2 rfl dX9_isRings_19 ?_
        refine z_iload_n F dX9_isRings_22 rfl (q := 2) rfl ?_
        refine z_iald F hI gs_3 (by omega) (by omega) (by decide) bd_3 dX9_isRings_23 (fun v11 (ev11 : v11 = M 3 _) av11 bv11 => ?_)
        refine z_iload_n F dX9_isRings_24 rfl (q := 1) rfl ?_
        refine z_iand_r F dX9_isRings_25 (by omega) (by omega) (fun v12 ev12 av12 bv12 => ?_)
        refine zs_i (rest := []) F (k_J6_bitCount_0f7a4_m l M ⟨hI, hW⟩ v12 (by omega) (by omega)) cs_X9_112 (by decide) (by decide) rfl rfl rfl (Nat.le_of_ble_eq_true rfl) dX9_isRings_26 (fun v13 M14 rv13 hI p15 => ?_)
        obtain ⟨hI, hW⟩ := hI
        obtain ⟨⟨av13, bv13⟩, rfl, xp15⟩ := p15
        refine z_iconst F dX9_isRings_29 ?_
        refine z_icmp_eq (tgt := 35) F dX9_isRings_30 (by decide +kernel) (by omega) (by omega) (fun c16 => ?_) (fun c16 => ?_)
        · refine z_iincN F dX9_isRings_35 (q := 2) rfl (by decide) (fun v17 ev17 => ?_)
          refine z_eq (ls' := [(2, ii v17), (0, .ref (ad 2)), (1, ii x0)]) rfl rfl rfl ?_
          refine z_goto (tgt := 2) F dX9_isRings_38 (by decide +kernel) ?_
          refine z_loc [1, 2, 0] (ls' := [(0, .ref (ad 2)), (1, ii x0), (2, ii v17)]) rfl ?_
          exact ih2 v17 (by omega) (by omega) (by rw [show v17 = y3 + 1 from by omega]; exact fun g => oh_s (i2_0 g) (by omega) (fun _ => by have h9 := (og_c (by omega) (by omega) g (by omega) (by omega) ev11 ev12); have h8 := pci (x := v12) (by omega) (by omega); omega)) (by omega)
        · refine z_iconst F dX9_isRings_33 ?_
          exact hret _ _ 34 _ ⟨by omega, by omega⟩ ⟨hI, hW⟩ ⟨⟨by omega, by omega⟩, rfl, (fun g => oh_n ((lb_bt (by omega) (by omega)).mp (xp8.mp (by omega))) (by have h9 := (og_c (by omega) (by omega) g (by omega) (by omega) ev11 ev12); have h8 := pci (x := v12) (by omega) (by omega); omega))⟩ dX9_isRings_34
set_option maxRecDepth 4000 in
theorem k_X9_smallestOddRing_2 (l : Launch) (M : Mem) (hJ : Iw M) : CI l yX9_smallestOddRing cX9_smallestOddRing 5 (some .int) 3 (fun ad => [.ref (ad 2)]) M (fun z M' => ((-1) ≤ z ∧ z ≤ 1023) ∧ M = M' ∧ (OdS (M 2 1).toNat (RegS (aCx 2 M)) z)) := by
  obtain ⟨hI, hW⟩ := hJ
  refine en_i (by decide +kernel) (fun ad => by exact Nat.le_of_ble_eq_true rfl) (fun D cy ad A p e s m args below meth c Q F hret => ?_)
  refine z_eq (ls' := [(0, .ref (ad 2))]) rfl rfl rfl ?_
  obtain ⟨u1, eu1⟩ : ∃ v : Int, v = M 2 1 := ⟨_, rfl⟩
  have ku1 : 0 ≤ u1 ∧ u1 ≤ 10 := by have := hI.at (show Bd 2 1 = (0, 10) from rfl); omega
  have hP10 := hI.at (show Bd 2 1 = (0, 10) from rfl)
  refine z_iconst F dX9_smallestOddRing_0 ?_
  refine z_istore_n F dX9_smallestOddRing_1 rfl (by decide) (ls' := [(1, ii (-1)), (0, .ref (ad 2))]) rfl ?_
  refine z_aload_n F dX9_smallestOddRing_2 rfl (q := 1) rfl ?_
  refine gf_X9_56 F hI gs_2 rfl bd_2_1 dX9_smallestOddRing_3 (fun v2 ev2 av2 bv2 => ?_)
  have zv2 : u1 = v2 := eu1.trans ev2.symm
  subst zv2
  refine z_iconst F dX9_smallestOddRing_6 ?_
  refine z_iadd F dX9_smallestOddRing_7 ?_
  refine z_nm (fun v3 ev3 => ?_)
  refine z_istore_n F dX9_smallestOddRing_8 rfl (by decide) (ls' := [(2, ii v3), (1, ii (-1)), (0, .ref (ad 2))]) rfl ?_
  refine z_iconst F dX9_smallestOddRing_9 ?_
  refine z_istore_n F dX9_smallestOddRing_10 rfl (by decide) (ls' := [(3, ii 1), (2, ii v3), (1, ii (-1)), (0, .ref (ad 2))]) rfl ?_
  refine z_loc [3, 2, 1, 0] (ls' := [(0, .ref (ad 2)), (1, ii (-1)), (2, ii v3), (3, ii 1)]) rfl ?_
  suffices key11 : ∀ (n : Nat) (y5 : Int) (y6 : Int) (y7 : Int), (-1) ≤ y5 → y5 ≤ 1023 → 0 ≤ y6 → y6 ≤ 63 → 1 ≤ y7 → y7 ≤ 1024 → (OgI M y5 y6 y7) → 1024 - y7 < (n : Int) → Z D cy ad p l e (RMh 3) s m args below meth c A 5 0 0 Q 11 [(0, .ref (ad 2)), (1, ii y5), (2, ii y6), (3, ii y7)] [] M from key11 1024 (-1) v3 1 (by omega) (by omega) (by omega) (by omega) (by omega) (by omega) (og_0 (by omega)) (by omega)
  intro n11
  induction n11 with
  | zero => intro y5 y6 y7 ay5 by5 ay6 by6 ay7 by7 i11_0 hn11; exfalso; omega
  | succ n11 ih11 =>
    intro y5 y6 y7 ay5 by5 ay6 by6 ay7 by7 i11_0 hn11
    refine z_iload_n F dX9_smallestOddRing_11 rfl (q := 3) rfl ?_
    refine z_iconst F dX9_smallestOddRing_12 ?_
    refine z_aload_n F dX9_smallestOddRing_13 rfl (q := 0) rfl ?_
    refine gf_X9_56 F hI gs_2 rfl bd_2_1 dX9_smallestOddRing_14 (fun v8 ev8 av8 bv8 => ?_)
    have zv8 : u1 = v8 := eu1.trans ev8.symm
    subst zv8
    refine z_shl1 (k := 10) F dX9_smallestOddRing_17 (by decide) (by omega) (by omega) (fun v9 ev9 av9 bv9 => ?_)
    refine z_icmp_ge (tgt := 60) F dX9_smallestOddRing_18 (by decide +kernel) (by omega) (by omega) (fun c10 => ?_) (fun c10 => ?_)
    · refine z_iload_n F dX9_smallestOddRing_60 rfl (q := 1) rfl ?_
      exact hret _ _ 61 _ (by omega) ⟨hI, hW⟩ ⟨⟨by omega, by omega⟩, rfl, (og_e i11_0 (show v9 = 2 ^ (M 2 1).toNat from by rw [ev9, show u1 = M 2 1 from by omega]) (by omega))⟩ dX9_smallestOddRing_61
    · refine z_iload_n F dX9_smallestOddRing_21 rfl (q := 3) rfl ?_
      refine zs_i (rest := []) F (k_J6_bitCount_0f7a4_m l M ⟨hI, hW⟩ y7 (by omega) (by omega)) cs_X9_112 (by decide) (by decide) rfl rfl rfl (Nat.le_of_ble_eq_true rfl) dX9_smallestOddRing_22 (fun v11 M12 rv11 hI p13 => ?_)
      obtain ⟨hI, hW⟩ := hI
      obtain ⟨⟨av11, bv11⟩, rfl, xp13⟩ := p13
      refine z_istore F dX9_smallestOddRing_25 (by decide) (ls' := [(4, ii v11), (0, .ref (ad 2)), (1, ii y5), (2, ii y6), (3, ii y7)]) rfl ?_
      refine z_iload F dX9_smallestOddRing_27 (q := 0) rfl ?_
      refine z_iconst F dX9_smallestOddRing_29 ?_
      refine z_irem_p F dX9_smallestOddRing_30 (by omega) (by omega) (by omega) (by omega) (fun v14 ev14 => ?_)
      refine z_iconst F dX9_smallestOddRing_31 ?_
      refine z_icmp_ne (tgt := 54) F dX9_smallestOddRing_32 (by decide +kernel) (by omega) (by omega) (fun c15 => ?_) (fun c15 => ?_)
      · refine z_iincN F dX9_smallestOddRing_54 (q := 4) rfl (by decide) (fun v16 ev16 => ?_)
        refine z_eq (ls' := [(3, ii v16), (4, ii v11), (0, .ref (ad 2)), (1, ii y5), (2, ii y6)]) rfl rfl rfl ?_
        refine z_goto (tgt := 11) F dX9_smallestOddRing_57 (by decide +kernel) ?_
        refine z_loc [2, 3, 4, 0] (ls' := [(0, .ref (ad 2)), (1, ii y5), (2, ii y6), (3, ii v16)]) rfl ?_
        exact ih11 y5 y6 v16 (by omega) (by omega) (by omega) (by omega) (by omega) (by omega) (by rw [show v16 = y7 + 1 from by omega]; exact og_s (m := v11) (by omega) (by omega) i11_0 (by omega) (show v9 = 2 ^ (M 2 1).toNat from by rw [ev9, show u1 = M 2 1 from by omega]) (by omega) (by have h8 := pci (x := y7) (by omega) (by omega); omega) (fun a9 b9 => by exfalso; omega)) (by omega)
      · refine z_iload F dX9_smallestOddRing_35 (q := 0) rfl ?_
        refine z_iload_n F dX9_smallestOddRing_37 rfl (q := 3) rfl ?_
        refine z_icmp_ge (tgt := 54) F dX9_smallestOddRing_38 (by decide +kernel) (by omega) (by omega) (fun c17 => ?_) (fun c17 => ?_)
        · refine z_iincN F dX9_smallestOddRing_54 (q := 4) rfl (by decide) (fun v18 ev18 => ?_)
          refine z_eq (ls' := [(3, ii v18), (4, ii v11), (0, .ref (ad 2)), (1, ii y5), (2, ii y6)]) rfl rfl rfl ?_
          refine z_goto (tgt := 11) F dX9_smallestOddRing_57 (by decide +kernel) ?_
          refine z_loc [2, 3, 4, 0] (ls' := [(0, .ref (ad 2)), (1, ii y5), (2, ii y6), (3, ii v18)]) rfl ?_
          exact ih11 y5 y6 v18 (by omega) (by omega) (by omega) (by omega) (by omega) (by omega) (by rw [show v18 = y7 + 1 from by omega]; exact og_s (m := v11) (by omega) (by omega) i11_0 (by omega) (show v9 = 2 ^ (M 2 1).toNat from by rw [ev9, show u1 = M 2 1 from by omega]) (by omega) (by have h8 := pci (x := y7) (by omega) (by omega); omega) (fun a9 b9 => by exfalso; omega)) (by omega)
        · refine z_aload_n F dX9_smallestOddRing_41 rfl (q := 1) rfl ?_
          refine z_iload_n F dX9_smallestOddRing_42 rfl (q := 4) rfl ?_
          refine zv_i (rest := []) F (k_X9_isRings_2 l M ⟨hI, hW⟩ y7 (by omega) (by omega)) cs_X9_118 (T := TX9) (N := 18) (ci := 9) rfl gs_2 (by decide) (by decide) rfl rfl rfl (Nat.le_of_ble_eq_true rfl) dX9_smallestOddRing_43 (fun v19 M20 rv19 hI p21 => ?_)
          obtain ⟨hI, hW⟩ := hI
          obtain ⟨⟨av19, bv19⟩, rfl, yp21⟩ := p21
          refine z_if_eq (tgt := 54) F dX9_smallestOddRing_46 (by decide +kernel) (by omega) (fun c22 => ?_) (fun c22 => ?_)
          · refine z_iincN F dX9_smallestOddRing_54 (q := 4) rfl (by decide) (fun v23 ev23 => ?_)
            refine z_eq (ls' := [(3, ii v23), (4, ii v11), (0, .ref (ad 2)), (1, ii y5), (2, ii y6)]) rfl rfl rfl ?_
            refine z_goto (tgt := 11) F dX9_smallestOddRing_57 (by decide +kernel) ?_
            refine z_loc [2, 3, 4, 0] (ls' := [(0, .ref (ad 2)), (1, ii y5), (2, ii y6), (3, ii v23)]) rfl ?_
            exact ih11 y5 y6 v23 (by omega) (by omega) (by omega) (by omega) (by omega) (by omega) (by rw [show v23 = y7 + 1 from by omega]; exact og_s (m := v11) (by omega) (by omega) i11_0 (by omega) (show v9 = 2 ^ (M 2 1).toNat from by rw [ev9, show u1 = M 2 1 from by omega]) (by omega) (by have h8 := pci (x := y7) (by omega) (by omega); omega) (fun _ _ => rz_f (yp21 (pw_lt (P := M 2 1) (show v9 = 2 ^ (M 2 1).toNat from by rw [ev9, show u1 = M 2 1 from by omega]) (by omega))) (by omega))) (by omega)
          · refine z_iload_n F dX9_smallestOddRing_49 rfl (q := 4) rfl ?_
            refine z_istore_n F dX9_smallestOddRing_50 rfl (by decide) (ls' := [(1, ii y7), (4, ii v11), (0, .ref (ad 2)), (2, ii y6), (3, ii y7)]) rfl ?_
            refine z_iload F dX9_smallestOddRing_51 (q := 1) rfl ?_
            refine z_istore_n F dX9_smallestOddRing_53 rfl (by decide) (ls' := [(2, ii v11), (1, ii y7), (4, ii v11), (0, .ref (ad 2)), (3, ii y7)]) rfl ?_
            refine z_iincN F dX9_smallestOddRing_54 (q := 4) rfl (by decide) (fun v24 ev24 => ?_)
            refine z_eq (ls' := [(3, ii v24), (2, ii v11), (1, ii y7), (4, ii v11), (0, .ref (ad 2))]) rfl rfl rfl ?_
            refine z_goto (tgt := 11) F dX9_smallestOddRing_57 (by decide +kernel) ?_
            refine z_loc [4, 2, 1, 0] (ls' := [(0, .ref (ad 2)), (1, ii y7), (2, ii v11), (3, ii v24)]) rfl ?_
            exact ih11 y7 v11 v24 (by omega) (by omega) (by omega) (by omega) (by omega) (by omega) (by rw [show v24 = y7 + 1 from by omega]; exact og_y i11_0 (by omega) (show v9 = 2 ^ (M 2 1).toNat from by rw [ev9, show u1 = M 2 1 from by omega]) (by omega) (by have h8 := pci (x := y7) (by omega) (by omega); omega) (by omega) (by omega) (rz_t (yp21 (pw_lt (P := M 2 1) (show v9 = 2 ^ (M 2 1).toNat from by rw [ev9, show u1 = M 2 1 from by omega]) (by omega))) (by omega))) (by omega)
set_option maxRecDepth 4000 in
theorem k_X11_oddRing (l : Launch) (hlT : l.stackTraces = false) (M : Mem) (hJ : Iw M) (x0 : Int) (hx0a : (-2147483648) ≤ x0) (hx0b : x0 ≤ 2147483647) : CIX l yX11_oddRing cX11_oddRing 3 (some .int) 4 1 (fun ad => [.ref (ad 0), ii x0]) M (fun z M' => ((-1) ≤ z ∧ z ≤ 1023) ∧ M = M' ∧ (0 ≤ x0 ∧ x0 ≤ 1) ∧ (OdZ (M 2 1).toNat (RegS (aCx 2 M)) x0 z)) (fun E M' => (E = "java/lang/IllegalArgumentException" ∧ (x0 < 0 ∨ 1 < x0) ∧ M = M')) := by
  obtain ⟨hI, hW⟩ := hJ
  refine enx_i (by decide +kernel) (fun ad => by exact Nat.le_of_ble_eq_true rfl) (fun D cy ad A p e s m args below meth c Q F hQ hr hlk hex => ?_)
  refine z_eq (ls' := [(0, .ref (ad 0)), (1, ii x0)]) rfl rfl rfl ?_
  obtain ⟨u1, eu1⟩ : ∃ v : Int, v = M 2 1 := ⟨_, rfl⟩
  have ku1 : 0 ≤ u1 ∧ u1 ≤ 10 := by have := hI.at (show Bd 2 1 = (0, 10) from rfl); omega
  have hP10 := hI.at (show Bd 2 1 = (0, 10) from rfl)
  refine z_iload_n F dX11_oddRing_0 rfl (q := 1) rfl ?_
  refine z_iconst F dX11_oddRing_1 ?_
  refine zz_v (rest := []) F (k_X11_needWhat l hlT M ⟨hI, hW⟩ x0 (by omega) (by omega) 1 (by omega) (by omega)) cs_X11_252 (by decide) (by decide) ⟨by decide, by decide⟩ rfl rfl rfl (Nat.le_of_ble_eq_true rfl) dX11_oddRing_2 (fun E M9 hJ9 hx => by obtain ⟨h9, g9, rfl⟩ := hx <;> first | (exact zx_out hQ hlk hex ⟨by decide, by decide⟩ hJ9 (⟨h9, (by omega), rfl⟩))) (fun M2 hI p3 => ?_)
  obtain ⟨hI, hW⟩ := hI
  obtain ⟨rfl, xp3⟩ := p3
  refine z_aload_n F dX11_oddRing_5 rfl (q := 0) rfl ?_
  refine rf_X11_16 F gs_0 rfl dX11_oddRing_6 ?_
  refine zw_i (rest := []) F (k_X9_smallestOddRing_2 l M ⟨hI, hW⟩) cs_X11_308 (T := TX9) (N := 18) (ci := 9) rfl gs_2 (by decide) (by decide) ⟨by decide, by decide⟩ rfl rfl rfl (Nat.le_of_ble_eq_true rfl) dX11_oddRing_9 (fun v4 M5 rv4 hI p6 => ?_)
  obtain ⟨hI, hW⟩ := hI
  obtain ⟨⟨av4, bv4⟩, rfl, yp6⟩ := p6
  refine z_istore_n F dX11_oddRing_12 rfl (by decide) (ls' := [(2, ii v4), (0, .ref (ad 0)), (1, ii x0)]) rfl ?_
  refine z_iload_n F dX11_oddRing_13 rfl (q := 0) rfl ?_
  refine z_iconst F dX11_oddRing_14 ?_
  refine z_icmp_eq (tgt := 23) F dX11_oddRing_15 (by decide +kernel) (by omega) (by omega) (fun c7 => ?_) (fun c7 => ?_)
  · refine z_iload_n F dX11_oddRing_23 rfl (q := 0) rfl ?_
    refine z_goto (tgt := 31) F dX11_oddRing_24 (by decide +kernel) ?_
    exact zxr_i F hQ hr hlk dX11_oddRing_31 ⟨by decide, by decide⟩ (by omega) ⟨hI, hW⟩ ⟨⟨by omega, by omega⟩, rfl, (by omega), ⟨v4, yp6, Or.inl ⟨by omega, by omega⟩⟩⟩
  · refine z_iload_n F dX11_oddRing_18 rfl (q := 2) rfl ?_
    refine z_iconst F dX11_oddRing_19 ?_
    refine z_icmp_ne (tgt := 27) F dX11_oddRing_20 (by decide +kernel) (by omega) (by omega) (fun c8 => ?_) (fun c8 => ?_)
    · refine z_iload_n F dX11_oddRing_27 rfl (q := 0) rfl ?_
      refine zt_i (rest := []) F (k_J6_bitCount_0f7a4_m l M ⟨hI, hW⟩ v4 (by omega) (by omega)) cs_X11_311 (by decide) (by decide) ⟨by decide, by decide⟩ rfl rfl rfl (Nat.le_of_ble_eq_true rfl) dX11_oddRing_28 (fun v9 M10 rv9 hI p11 => ?_)
      obtain ⟨hI, hW⟩ := hI
      obtain ⟨⟨av9, bv9⟩, rfl, xp11⟩ := p11
      exact zxr_i F hQ hr hlk dX11_oddRing_31 ⟨by decide, by decide⟩ (by omega) ⟨hI, hW⟩ ⟨⟨by omega, by omega⟩, rfl, (by omega), ⟨v4, yp6, Or.inr (Or.inr ⟨by omega, by omega, by have h7 := pci (x := v4) (by omega) (by omega); omega⟩)⟩⟩
    · refine z_iload_n F dX11_oddRing_23 rfl (q := 0) rfl ?_
      refine z_goto (tgt := 31) F dX11_oddRing_24 (by decide +kernel) ?_
      exact zxr_i F hQ hr hlk dX11_oddRing_31 ⟨by decide, by decide⟩ (by omega) ⟨hI, hW⟩ ⟨⟨by omega, by omega⟩, rfl, (by omega), ⟨v4, yp6, Or.inr (Or.inl ⟨by omega, by omega, by omega⟩)⟩⟩
set_option maxRecDepth 4000 in
theorem k_X9_touchesWithin_2 (l : Launch) (M : Mem) (hJ : Iw M) (x0 : Int) (hx0a : (-2147483648) ≤ x0) (hx0b : x0 ≤ 2147483647) : CI l yX9_touchesWithin cX9_touchesWithin 3 (some .boolean) 2 (fun ad => [.ref (ad 2), ii x0]) M (fun z M' => (0 ≤ z ∧ z ≤ 1) ∧ M = M') := by
  obtain ⟨hI, hW⟩ := hJ
  refine en_z (by decide +kernel) (fun ad => by exact Nat.le_of_ble_eq_true rfl) (fun D cy ad A p e s m args below meth c Q F hret => ?_)
  refine z_eq (ls' := [(0, .ref (ad 2)), (1, ii x0)]) rfl rfl rfl ?_
  refine z_iconst F dX9_touchesWithin_0 ?_
  refine z_istore_n F dX9_touchesWithin_1 rfl (by decide) (ls' := [(2, ii 0), (0, .ref (ad 2)), (1, ii x0)]) rfl ?_
  refine z_loc [1, 2, 0] (ls' := [(0, .ref (ad 2)), (1, ii x0), (2, ii 0)]) rfl ?_
  suffices key2 : ∀ (n : Nat) (y2 : Int), 0 ≤ y2 → y2 ≤ 10 → 10 - y2 < (n : Int) → Z D cy ad p l e (RMh 2) s m args below meth c A 3 0 0 Q 2 [(0, .ref (ad 2)), (1, ii x0), (2, ii y2)] [] M from key2 11 0 (by omega) (by omega) (by omega)
  intro n2
  induction n2 with
  | zero => intro y2 ay2 by2 hn2; exfalso; omega
  | succ n2 ih2 =>
    intro y2 ay2 by2 hn2
    refine z_iload_n F dX9_touchesWithin_2 rfl (q := 2) rfl ?_
    refine z_aload_n F dX9_touchesWithin_3 rfl (q := 0) rfl ?_
    refine gf_X9_56 F hI gs_2 rfl bd_2_1 dX9_touchesWithin_4 (fun v3 ev3 av3 bv3 => ?_)
    refine z_icmp_ge (tgt := 37) F dX9_touchesWithin_7 (by decide +kernel) (by omega) (by omega) (fun c4 => ?_) (fun c4 => ?_)
    · refine z_iconst F dX9_touchesWithin_37 ?_
      exact hret _ _ 38 _ ⟨by omega, by omega⟩ ⟨hI, hW⟩ ⟨⟨by omega, by omega⟩, rfl⟩ dX9_touchesWithin_38
    · refine z_iload_n F dX9_touchesWithin_10 rfl (q := 1) rfl ?_
      refine z_iload_n F dX9_touchesWithin_11 rfl (q := 2) rfl ?_
      refine zn_i (rest := []) F (k_X11_isIn l M ⟨hI, hW⟩ x0 (by omega) (by omega) y2 (by omega) (by omega)) cs_X9_97 (by decide) (by decide) rfl rfl rfl (Nat.le_of_ble_eq_true rfl) dX9_touchesWithin_12 (fun v5 M6 rv5 hI p7 => ?_)
      obtain ⟨hI, hW⟩ := hI
      obtain ⟨⟨av5, bv5⟩, rfl, xp7⟩ := p7
      have hbqy2 := xp7
      refine z_if_eq (tgt := 31) F dX9_touchesWithin_15 (by decide +kernel) (by omega) (fun c8 => ?_) (fun c8 => ?_)
      · refine z_iincN F dX9_touchesWithin_31 (q := 2) rfl (by decide) (fun v9 ev9 => ?_)
        refine z_eq (ls' := [(2, ii v9), (0, .ref (ad 2)), (1, ii x0)]) rfl rfl rfl ?_
        refine z_goto (tgt := 2) F dX9_touchesWithin_34 (by decide +kernel) ?_
        refine z_loc [1, 2, 0] (ls' := [(0, .ref (ad 2)), (1, ii x0), (2, ii v9)]) rfl ?_
        exact ih2 v9 (by omega) (by omega) (by omega)
      · refine z_aload_n F dX9_touchesWithin_18 rfl (q := 0) rfl ?_
        refine rf_X9_9 F gs_2 rfl dX9_touchesWithin_19 ?_
        refine z_iload_n F dX9_touchesWithin_22 rfl (q := 2) rfl ?_
        refine z_iald F hI gs_3 (by omega) (by omega) (by decide) bd_3 dX9_touchesWithin_23 (fun v10 (ev10 : v10 = M 3 _) av10 bv10 => ?_)
        refine z_iload_n F dX9_touchesWithin_24 rfl (q := 1) rfl ?_
        refine z_iand0 F dX9_touchesWithin_25 (fun v11 ev11 rv11 => ?_)
        refine z_if_eq (tgt := 31) F dX9_touchesWithin_26 (by decide +kernel) (by omega) (fun c12 => ?_) (fun c12 => ?_)
        · refine z_iincN F dX9_touchesWithin_31 (q := 2) rfl (by decide) (fun v13 ev13 => ?_)
          refine z_eq (ls' := [(2, ii v13), (0, .ref (ad 2)), (1, ii x0)]) rfl rfl rfl ?_
          refine z_goto (tgt := 2) F dX9_touchesWithin_34 (by decide +kernel) ?_
          refine z_loc [1, 2, 0] (ls' := [(0, .ref (ad 2)), (1, ii x0), (2, ii v13)]) rfl ?_
          exact ih2 v13 (by omega) (by omega) (by omega)
        · refine z_iconst F dX9_touchesWithin_29 ?_
          exact hret _ _ 30 _ ⟨by omega, by omega⟩ ⟨hI, hW⟩ ⟨⟨by omega, by omega⟩, rfl⟩ dX9_touchesWithin_30
set_option maxRecDepth 4000 in
theorem k_X9_firstSide_2 (l : Launch) (M : Mem) (hJ : Iw M) : CI l yX9_firstSide cX9_firstSide 6 (some .int) 3 (fun ad => [.ref (ad 2)]) M (fun z M' => ((-1) ≤ z ∧ z ≤ 1023) ∧ M = M') := by
  obtain ⟨hI, hW⟩ := hJ
  refine en_i (by decide +kernel) (fun ad => by exact Nat.le_of_ble_eq_true rfl) (fun D cy ad A p e s m args below meth c Q F hret => ?_)
  refine z_eq (ls' := [(0, .ref (ad 2))]) rfl rfl rfl ?_
  refine z_iconst F dX9_firstSide_0 ?_
  refine z_istore_n F dX9_firstSide_1 rfl (by decide) (ls' := [(1, ii 0), (0, .ref (ad 2))]) rfl ?_
  refine z_iconst F dX9_firstSide_2 ?_
  refine z_istore_n F dX9_firstSide_3 rfl (by decide) (ls' := [(2, ii 0), (1, ii 0), (0, .ref (ad 2))]) rfl ?_
  refine z_iconst F dX9_firstSide_4 ?_
  refine z_istore_n F dX9_firstSide_5 rfl (by decide) (ls' := [(3, ii 0), (2, ii 0), (1, ii 0), (0, .ref (ad 2))]) rfl ?_
  refine z_loc [3, 2, 1, 0] (ls' := [(0, .ref (ad 2)), (1, ii 0), (2, ii 0), (3, ii 0)]) rfl ?_
  suffices key6 : ∀ (n : Nat) (y2 : Int) (y3 : Int) (y4 : Int), 0 ≤ y2 → y2 ≤ 1023 → 0 ≤ y3 → y3 ≤ 1023 → 0 ≤ y4 → y4 ≤ 10 → 10 - y4 < (n : Int) → Z D cy ad p l e (RMh 3) s m args below meth c A 6 0 0 Q 6 [(0, .ref (ad 2)), (1, ii y2), (2, ii y3), (3, ii y4)] [] M from key6 11 0 0 0 (by omega) (by omega) (by omega) (by omega) (by omega) (by omega) (by omega)
  intro n6
  induction n6 with
  | zero => intro y2 y3 y4 ay2 by2 ay3 by3 ay4 by4 hn6; exfalso; omega
  | succ n6 ih6 =>
    intro y2 y3 y4 ay2 by2 ay3 by3 ay4 by4 hn6
    refine z_iload_n F dX9_firstSide_6 rfl (q := 3) rfl ?_
    refine z_aload_n F dX9_firstSide_7 rfl (q := 0) rfl ?_
    refine gf_X9_56 F hI gs_2 rfl bd_2_1 dX9_firstSide_8 (fun v5 ev5 av5 bv5 => ?_)
    refine z_icmp_ge (tgt := 93) F dX9_firstSide_11 (by decide +kernel) (by omega) (by omega) (fun c6 => ?_) (fun c6 => ?_)
    · refine z_aload_n F dX9_firstSide_93 rfl (q := 0) rfl ?_
      refine z_iload_n F dX9_firstSide_94 rfl (q := 1) rfl ?_
      refine zv_i (rest := []) F (k_X9_touchesWithin_2 l M ⟨hI, hW⟩ y2 (by omega) (by omega)) cs_X9_122 (T := TX9) (N := 18) (ci := 9) rfl gs_2 (by decide) (by decide) rfl rfl rfl (Nat.le_of_ble_eq_true rfl) dX9_firstSide_95 (fun v7 M8 rv7 hI p9 => ?_)
      obtain ⟨hI, hW⟩ := hI
      obtain ⟨⟨av7, bv7⟩, rfl⟩ := p9
      refine z_if_ne (tgt := 109) F dX9_firstSide_98 (by decide +kernel) (by omega) (fun c10 => ?_) (fun c10 => ?_)
      · refine z_iconst F dX9_firstSide_109 ?_
        refine z_goto (tgt := 114) F dX9_firstSide_110 (by decide +kernel) ?_
        exact hret _ _ 114 _ (by omega) ⟨hI, hW⟩ ⟨⟨by omega, by omega⟩, rfl⟩ dX9_firstSide_114
      · refine z_aload_n F dX9_firstSide_101 rfl (q := 0) rfl ?_
        refine z_iload_n F dX9_firstSide_102 rfl (q := 2) rfl ?_
        refine zv_i (rest := []) F (k_X9_touchesWithin_2 l M ⟨hI, hW⟩ y3 (by omega) (by omega)) cs_X9_122 (T := TX9) (N := 18) (ci := 9) rfl gs_2 (by decide) (by decide) rfl rfl rfl (Nat.le_of_ble_eq_true rfl) dX9_firstSide_103 (fun v11 M12 rv11 hI p13 => ?_)
        obtain ⟨hI, hW⟩ := hI
        obtain ⟨⟨av11, bv11⟩, rfl⟩ := p13
        refine z_if_eq (tgt := 113) F dX9_firstSide_106 (by decide +kernel) (by omega) (fun c14 => ?_) (fun c14 => ?_)
        · refine z_iload_n F dX9_firstSide_113 rfl (q := 1) rfl ?_
          exact hret _ _ 114 _ (by omega) ⟨hI, hW⟩ ⟨⟨by omega, by omega⟩, rfl⟩ dX9_firstSide_114
        · refine z_iconst F dX9_firstSide_109 ?_
          refine z_goto (tgt := 114) F dX9_firstSide_110 (by decide +kernel) ?_
          exact hret _ _ 114 _ (by omega) ⟨hI, hW⟩ ⟨⟨by omega, by omega⟩, rfl⟩ dX9_firstSide_114
    · refine z_iload_n F dX9_firstSide_14 rfl (q := 1) rfl ?_
      refine z_iload_n F dX9_firstSide_15 rfl (q := 2) rfl ?_
      refine z_ior_k (k := 10) F dX9_firstSide_16 (by decide) (by omega) (by omega) (by omega) (by omega) (fun v15 av15 bv15 => ?_)
      refine z_iload_n F dX9_firstSide_17 rfl (q := 3) rfl ?_
      refine zn_i (rest := []) F (k_X11_isIn l M ⟨hI, hW⟩ v15 (by omega) (by omega) y4 (by omega) (by omega)) cs_X9_97 (by decide) (by decide) rfl rfl rfl (Nat.le_of_ble_eq_true rfl) dX9_firstSide_18 (fun v16 M17 rv16 hI p18 => ?_)
      obtain ⟨hI, hW⟩ := hI
      obtain ⟨⟨av16, bv16⟩, rfl, xp18⟩ := p18
      have hbqy4 := xp18
      refine z_if_ne (tgt := 87) F dX9_firstSide_21 (by decide +kernel) (by omega) (fun c19 => ?_) (fun c19 => ?_)
      · refine z_iincN F dX9_firstSide_87 (q := 3) rfl (by decide) (fun v20 ev20 => ?_)
        refine z_eq (ls' := [(3, ii v20), (0, .ref (ad 2)), (1, ii y2), (2, ii y3)]) rfl rfl rfl ?_
        refine z_goto (tgt := 6) F dX9_firstSide_90 (by decide +kernel) ?_
        refine z_loc [1, 2, 3, 0] (ls' := [(0, .ref (ad 2)), (1, ii y2), (2, ii y3), (3, ii v20)]) rfl ?_
        exact ih6 y2 y3 v20 (by omega) (by omega) (by omega) (by omega) (by omega) (by omega) (by omega)
      · refine z_iconst F dX9_firstSide_24 ?_
        refine z_istore F dX9_firstSide_25 (by decide) (ls' := [(4, ii 0), (0, .ref (ad 2)), (1, ii y2), (2, ii y3), (3, ii y4)]) rfl ?_
        refine z_loc [1, 2, 3, 4, 0] (ls' := [(0, .ref (ad 2)), (1, ii y2), (2, ii y3), (3, ii y4), (4, ii 0)]) rfl ?_
        suffices key27 : ∀ (n : Nat) (y22 : Int) (y23 : Int) (y24 : Int), 0 ≤ y22 → y22 ≤ 1023 → 0 ≤ y23 → y23 ≤ 1023 → 0 ≤ y24 → y24 ≤ 10 → 10 - y24 < (n : Int) → Z D cy ad p l e (RMh 3) s m args below meth c A 6 0 0 Q 27 [(0, .ref (ad 2)), (1, ii y22), (2, ii y23), (3, ii y4), (4, ii y24)] [] M from key27 11 y2 y3 0 (by omega) (by omega) (by omega) (by omega) (by omega) (by omega) (by omega)
        intro n27
        induction n27 with
        | zero => intro y22 y23 y24 ay22 by22 ay23 by23 ay24 by24 hn27; exfalso; omega
        | succ n27 ih27 =>
          intro y22 y23 y24 ay22 by22 ay23 by23 ay24 by24 hn27
          refine z_iload F dX9_firstSide_27 (q := 4) rfl ?_
          refine z_aload_n F dX9_firstSide_29 rfl (q := 0) rfl ?_
          refine gf_X9_56 F hI gs_2 rfl bd_2_1 dX9_firstSide_30 (fun v25 ev25 av25 bv25 => ?_)
          have zv25 : v5 = v25 := ev5.trans ev25.symm
          subst zv25
          refine z_icmp_ge (tgt := 87) F dX9_firstSide_33 (by decide +kernel) (by omega) (by omega) (fun c26 => ?_) (fun c26 => ?_)
          · refine z_iincN F dX9_firstSide_87 (q := 3) rfl (by decide) (fun v27 ev27 => ?_)
            refine z_eq (ls' := [(3, ii v27), (0, .ref (ad 2)), (1, ii y22), (2, ii y23), (4, ii y24)]) rfl rfl rfl ?_
            refine z_goto (tgt := 6) F dX9_firstSide_90 (by decide +kernel) ?_
            refine z_loc [1, 2, 3, 0] (ls' := [(0, .ref (ad 2)), (1, ii y22), (2, ii y23), (3, ii v27)]) rfl ?_
            exact ih6 y22 y23 v27 (by omega) (by omega) (by omega) (by omega) (by omega) (by omega) (by omega)
          · refine z_aload_n F dX9_firstSide_36 rfl (q := 0) rfl ?_
            refine z_iload_n F dX9_firstSide_37 rfl (q := 3) rfl ?_
            refine z_iload F dX9_firstSide_38 (q := 4) rfl ?_
            refine zv_i (rest := []) F (k_X9_stepsBetween_2 l M ⟨hI, hW⟩ y4 (by omega) (by omega) y24 (by omega) (by omega)) cs_X9_109 (T := TX9) (N := 18) (ci := 9) rfl gs_2 (by decide) (by decide) rfl rfl rfl (Nat.le_of_ble_eq_true rfl) dX9_firstSide_40 (fun v28 M29 rv28 hI p30 => ?_)
            obtain ⟨hI, hW⟩ := hI
            obtain ⟨⟨av28, bv28⟩, rfl⟩ := p30
            refine z_istore F dX9_firstSide_43 (by decide) (ls' := [(5, ii v28), (0, .ref (ad 2)), (1, ii y22), (2, ii y23), (3, ii y4), (4, ii y24)]) rfl ?_
            refine z_iload F dX9_firstSide_45 (q := 0) rfl ?_
            refine z_iconst F dX9_firstSide_47 ?_
            refine z_icmp_eq (tgt := 68) F dX9_firstSide_48 (by decide +kernel) (by omega) (by omega) (fun c31 => ?_) (fun c31 => ?_)
            · refine z_iload F dX9_firstSide_68 (q := 0) rfl ?_
              refine z_iconst F dX9_firstSide_70 ?_
              refine z_icmp_eq (tgt := 81) F dX9_firstSide_71 (by decide +kernel) (by omega) (by omega) (fun c32 => ?_) (fun c32 => by exfalso; omega)
              refine z_iincN F dX9_firstSide_81 (q := 5) rfl (by decide) (fun v33 ev33 => ?_)
              refine z_eq (ls' := [(4, ii v33), (5, ii v28), (0, .ref (ad 2)), (1, ii y22), (2, ii y23), (3, ii y4)]) rfl rfl rfl ?_
              refine z_goto (tgt := 27) F dX9_firstSide_84 (by decide +kernel) ?_
              refine z_loc [2, 3, 4, 5, 0] (ls' := [(0, .ref (ad 2)), (1, ii y22), (2, ii y23), (3, ii y4), (4, ii v33)]) rfl ?_
              exact ih27 y22 y23 v33 (by omega) (by omega) (by omega) (by omega) (by omega) (by omega) (by omega)
            · refine z_iload F dX9_firstSide_51 (q := 0) rfl ?_
              refine z_iconst F dX9_firstSide_53 ?_
              refine z_irem0 F dX9_firstSide_54 (by decide) (fun v34 _ rv34 => ?_)
              refine z_if_ne (tgt := 68) F dX9_firstSide_55 (by decide +kernel) (by omega) (fun c35 => ?_) (fun c35 => ?_)
              · refine z_iload F dX9_firstSide_68 (q := 0) rfl ?_
                refine z_iconst F dX9_firstSide_70 ?_
                refine z_icmp_eq (tgt := 81) F dX9_firstSide_71 (by decide +kernel) (by omega) (by omega) (fun c36 => ?_) (fun c36 => ?_)
                · refine z_iincN F dX9_firstSide_81 (q := 5) rfl (by decide) (fun v37 ev37 => ?_)
                  refine z_eq (ls' := [(4, ii v37), (5, ii v28), (0, .ref (ad 2)), (1, ii y22), (2, ii y23), (3, ii y4)]) rfl rfl rfl ?_
                  refine z_goto (tgt := 27) F dX9_firstSide_84 (by decide +kernel) ?_
                  refine z_loc [2, 3, 4, 5, 0] (ls' := [(0, .ref (ad 2)), (1, ii y22), (2, ii y23), (3, ii y4), (4, ii v37)]) rfl ?_
                  exact ih27 y22 y23 v37 (by omega) (by omega) (by omega) (by omega) (by omega) (by omega) (by omega)
                · refine z_iload_n F dX9_firstSide_74 rfl (q := 3) rfl ?_
                  refine z_iconst F dX9_firstSide_75 ?_
                  refine z_iload F dX9_firstSide_76 (q := 5) rfl ?_
                  refine z_shl1 (k := 9) F dX9_firstSide_78 (by decide) (by omega) (by omega) (fun v38 ev38 av38 bv38 => ?_)
                  refine z_ior_k (k := 10) F dX9_firstSide_79 (by decide) (by omega) (by omega) (by omega) (by omega) (fun v39 av39 bv39 => ?_)
                  refine z_istore_n F dX9_firstSide_80 rfl (by decide) (ls' := [(2, ii v39), (5, ii v28), (0, .ref (ad 2)), (1, ii y22), (3, ii y4), (4, ii y24)]) rfl ?_
                  refine z_iincN F dX9_firstSide_81 (q := 5) rfl (by decide) (fun v40 ev40 => ?_)
                  refine z_eq (ls' := [(4, ii v40), (2, ii v39), (5, ii v28), (0, .ref (ad 2)), (1, ii y22), (3, ii y4)]) rfl rfl rfl ?_
                  refine z_goto (tgt := 27) F dX9_firstSide_84 (by decide +kernel) ?_
                  refine z_loc [3, 4, 1, 5, 0] (ls' := [(0, .ref (ad 2)), (1, ii y22), (2, ii v39), (3, ii y4), (4, ii v40)]) rfl ?_
                  exact ih27 y22 v39 v40 (by omega) (by omega) (by omega) (by omega) (by omega) (by omega) (by omega)
              · refine z_iload_n F dX9_firstSide_58 rfl (q := 2) rfl ?_
                refine z_iconst F dX9_firstSide_59 ?_
                refine z_iload F dX9_firstSide_60 (q := 5) rfl ?_
                refine z_shl1 (k := 9) F dX9_firstSide_62 (by decide) (by omega) (by omega) (fun v41 ev41 av41 bv41 => ?_)
                refine z_ior_k (k := 10) F dX9_firstSide_63 (by decide) (by omega) (by omega) (by omega) (by omega) (fun v42 av42 bv42 => ?_)
                refine z_istore_n F dX9_firstSide_64 rfl (by decide) (ls' := [(1, ii v42), (5, ii v28), (0, .ref (ad 2)), (2, ii y23), (3, ii y4), (4, ii y24)]) rfl ?_
                refine z_goto (tgt := 81) F dX9_firstSide_65 (by decide +kernel) ?_
                refine z_iincN F dX9_firstSide_81 (q := 5) rfl (by decide) (fun v43 ev43 => ?_)
                refine z_eq (ls' := [(4, ii v43), (1, ii v42), (5, ii v28), (0, .ref (ad 2)), (2, ii y23), (3, ii y4)]) rfl rfl rfl ?_
                refine z_goto (tgt := 27) F dX9_firstSide_84 (by decide +kernel) ?_
                refine z_loc [3, 1, 4, 5, 0] (ls' := [(0, .ref (ad 2)), (1, ii v42), (2, ii y23), (3, ii y4), (4, ii v43)]) rfl ?_
                exact ih27 v42 y23 v43 (by omega) (by omega) (by omega) (by omega) (by omega) (by omega) (by omega)
set_option maxRecDepth 4000 in
theorem k_X11_sides (l : Launch) (M : Mem) (hJ : Iw M) : CI l yX11_sides cX11_sides 1 (some .int) 4 (fun ad => [.ref (ad 0)]) M (fun z M' => ((-1) ≤ z ∧ z ≤ 1023) ∧ M = M') := by
  obtain ⟨hI, hW⟩ := hJ
  refine en_i (by decide +kernel) (fun ad => by exact Nat.le_of_ble_eq_true rfl) (fun D cy ad A p e s m args below meth c Q F hret => ?_)
  refine z_eq (ls' := [(0, .ref (ad 0))]) rfl rfl rfl ?_
  refine z_aload_n F dX11_sides_0 rfl (q := 0) rfl ?_
  refine rf_X11_16 F gs_0 rfl dX11_sides_1 ?_
  refine zv_i (rest := []) F (k_X9_firstSide_2 l M ⟨hI, hW⟩) cs_X11_316 (T := TX9) (N := 18) (ci := 9) rfl gs_2 (by decide) (by decide) rfl rfl rfl (Nat.le_of_ble_eq_true rfl) dX11_sides_4 (fun v1 M2 rv1 hI p3 => ?_)
  obtain ⟨hI, hW⟩ := hI
  obtain ⟨⟨av1, bv1⟩, rfl⟩ := p3
  exact hret _ _ 7 _ (by omega) ⟨hI, hW⟩ ⟨⟨by omega, by omega⟩, rfl⟩ dX11_sides_7
set_option maxRecDepth 4000 in
theorem k_X9_allPlaces_2 (l : Launch) (M : Mem) (hJ : Iw M) : CI l yX9_allPlaces cX9_allPlaces 1 (some .int) 1 (fun ad => [.ref (ad 2)]) M (fun z M' => (0 ≤ z ∧ z ≤ 1023) ∧ M = M') := by
  obtain ⟨hI, hW⟩ := hJ
  refine en_i (by decide +kernel) (fun ad => by exact Nat.le_of_ble_eq_true rfl) (fun D cy ad A p e s m args below meth c Q F hret => ?_)
  refine z_eq (ls' := [(0, .ref (ad 2))]) rfl rfl rfl ?_
  refine z_iconst F dX9_allPlaces_0 ?_
  refine z_aload_n F dX9_allPlaces_1 rfl (q := 0) rfl ?_
  refine gf_X9_56 F hI gs_2 rfl bd_2_1 dX9_allPlaces_2 (fun v1 ev1 av1 bv1 => ?_)
  refine z_shl1 (k := 10) F dX9_allPlaces_5 (by decide) (by omega) (by omega) (fun v2 ev2 av2 bv2 => ?_)
  refine z_iconst F dX9_allPlaces_6 ?_
  refine z_isub F dX9_allPlaces_7 ?_
  exact hret _ _ 8 _ (by omega) ⟨hI, hW⟩ ⟨⟨by omega, by omega⟩, rfl⟩ dX9_allPlaces_8
set_option maxRecDepth 4000 in
theorem k_X5_mayClashSomewhere_45 (l : Launch) (M : Mem) (hJ : Iw M) (x0 : Int) (hx0a : 0 ≤ x0) (hx0b : x0 ≤ 7) : CI l yX5_mayClashSomewhere cX5_mayClashSomewhere 3 (some .boolean) 1 (fun ad => [.ref (ad 45), ii x0]) M (fun z M' => (0 ≤ z ∧ z ≤ 1) ∧ M = M') := by
  obtain ⟨hI, hW⟩ := hJ
  refine en_z (by decide +kernel) (fun ad => by exact Nat.le_of_ble_eq_true rfl) (fun D cy ad A p e s m args below meth c Q F hret => ?_)
  refine z_eq (ls' := [(0, .ref (ad 45)), (1, ii x0)]) rfl rfl rfl ?_
  refine z_iconst F dX5_mayClashSomewhere_0 ?_
  refine z_istore_n F dX5_mayClashSomewhere_1 rfl (by decide) (ls' := [(2, ii 0), (0, .ref (ad 45)), (1, ii x0)]) rfl ?_
  refine z_loc [1, 2, 0] (ls' := [(0, .ref (ad 45)), (1, ii x0), (2, ii 0)]) rfl ?_
  suffices key2 : ∀ (n : Nat) (y2 : Int), 0 ≤ y2 → y2 ≤ 10 → 10 - y2 < (n : Int) → Z D cy ad p l e (RMh 1) s m args below meth c A 3 0 0 Q 2 [(0, .ref (ad 45)), (1, ii x0), (2, ii y2)] [] M from key2 11 0 (by omega) (by omega) (by omega)
  intro n2
  induction n2 with
  | zero => intro y2 ay2 by2 hn2; exfalso; omega
  | succ n2 ih2 =>
    intro y2 ay2 by2 hn2
    refine z_iload_n F dX5_mayClashSomewhere_2 rfl (q := 2) rfl ?_
    refine z_aload_n F dX5_mayClashSomewhere_3 rfl (q := 0) rfl ?_
    refine rf_X5_21 F gs_45 rfl dX5_mayClashSomewhere_4 ?_
    refine gf_X5_43 F hI gs_2 rfl bd_2_1 dX5_mayClashSomewhere_7 (fun v3 ev3 av3 bv3 => ?_)
    refine z_icmp_ge (tgt := 78) F dX5_mayClashSomewhere_10 (by decide +kernel) (by omega) (by omega) (fun c4 => ?_) (fun c4 => ?_)
    · refine z_iconst F dX5_mayClashSomewhere_78 ?_
      exact hret _ _ 79 _ ⟨by omega, by omega⟩ ⟨hI, hW⟩ ⟨⟨by omega, by omega⟩, rfl⟩ dX5_mayClashSomewhere_79
    · refine z_aload_n F dX5_mayClashSomewhere_13 rfl (q := 0) rfl ?_
      refine rf_X5_25 F gs_45 rfl dX5_mayClashSomewhere_14 ?_
      refine rf_X5_90 F gs_35 rfl dX5_mayClashSomewhere_17 ?_
      refine z_iload_n F dX5_mayClashSomewhere_20 rfl (q := 1) rfl ?_
      refine z_iald F hI gs_39 (by omega) (by omega) (by decide) bd_39 dX5_mayClashSomewhere_21 (fun v5 (ev5 : v5 = M 39 _) av5 bv5 => ?_)
      refine z_if_eq (tgt := 37) F dX5_mayClashSomewhere_22 (by decide +kernel) (by omega) (fun c6 => ?_) (fun c6 => ?_)
      · refine z_aload_n F dX5_mayClashSomewhere_37 rfl (q := 0) rfl ?_
        refine rf_X5_25 F gs_45 rfl dX5_mayClashSomewhere_38 ?_
        refine rf_X5_96 F gs_35 rfl dX5_mayClashSomewhere_41 ?_
        refine z_iload_n F dX5_mayClashSomewhere_44 rfl (q := 1) rfl ?_
        refine z_iald F hI gs_38 (by omega) (by omega) (by decide) bd_38 dX5_mayClashSomewhere_45 (fun v7 (ev7 : v7 = M 38 _) av7 bv7 => ?_)
        refine z_if_eq (tgt := 72) F dX5_mayClashSomewhere_46 (by decide +kernel) (by omega) (fun c8 => ?_) (fun c8 => ?_)
        · refine z_iincN F dX5_mayClashSomewhere_72 (q := 2) rfl (by decide) (fun v9 ev9 => ?_)
          refine z_eq (ls' := [(2, ii v9), (0, .ref (ad 45)), (1, ii x0)]) rfl rfl rfl ?_
          refine z_goto (tgt := 2) F dX5_mayClashSomewhere_75 (by decide +kernel) ?_
          refine z_loc [1, 2, 0] (ls' := [(0, .ref (ad 45)), (1, ii x0), (2, ii v9)]) rfl ?_
          exact ih2 v9 (by omega) (by omega) (by omega)
        · refine z_aload_n F dX5_mayClashSomewhere_49 rfl (q := 0) rfl ?_
          refine rf_X5_21 F gs_45 rfl dX5_mayClashSomewhere_50 ?_
          refine rf_X5_93 F gs_2 rfl dX5_mayClashSomewhere_53 ?_
          refine z_iload_n F dX5_mayClashSomewhere_56 rfl (q := 2) rfl ?_
          refine z_iald F hI gs_4 (by omega) (by omega) (by decide) bd_4 dX5_mayClashSomewhere_57 (fun v10 (ev10 : v10 = M 4 _) av10 bv10 => ?_)
          refine z_aload_n F dX5_mayClashSomewhere_58 rfl (q := 0) rfl ?_
          refine rf_X5_21 F gs_45 rfl dX5_mayClashSomewhere_59 ?_
          refine rf_X5_99 F gs_2 rfl dX5_mayClashSomewhere_62 ?_
          refine z_iload_n F dX5_mayClashSomewhere_65 rfl (q := 2) rfl ?_
          refine z_iald F hI gs_3 (by omega) (by omega) (by decide) bd_3 dX5_mayClashSomewhere_66 (fun v11 (ev11 : v11 = M 3 _) av11 bv11 => ?_)
          refine z_icmp_eq (tgt := 72) F dX5_mayClashSomewhere_67 (by decide +kernel) (by omega) (by omega) (fun c12 => ?_) (fun c12 => ?_)
          · refine z_iincN F dX5_mayClashSomewhere_72 (q := 2) rfl (by decide) (fun v13 ev13 => ?_)
            refine z_eq (ls' := [(2, ii v13), (0, .ref (ad 45)), (1, ii x0)]) rfl rfl rfl ?_
            refine z_goto (tgt := 2) F dX5_mayClashSomewhere_75 (by decide +kernel) ?_
            refine z_loc [1, 2, 0] (ls' := [(0, .ref (ad 45)), (1, ii x0), (2, ii v13)]) rfl ?_
            exact ih2 v13 (by omega) (by omega) (by omega)
          · refine z_iconst F dX5_mayClashSomewhere_70 ?_
            exact hret _ _ 71 _ ⟨by omega, by omega⟩ ⟨hI, hW⟩ ⟨⟨by omega, by omega⟩, rfl⟩ dX5_mayClashSomewhere_71
      · refine z_aload_n F dX5_mayClashSomewhere_25 rfl (q := 0) rfl ?_
        refine rf_X5_21 F gs_45 rfl dX5_mayClashSomewhere_26 ?_
        refine rf_X5_93 F gs_2 rfl dX5_mayClashSomewhere_29 ?_
        refine z_iload_n F dX5_mayClashSomewhere_32 rfl (q := 2) rfl ?_
        refine z_iald F hI gs_4 (by omega) (by omega) (by decide) bd_4 dX5_mayClashSomewhere_33 (fun v14 (ev14 : v14 = M 4 _) av14 bv14 => ?_)
        refine z_if_ne (tgt := 70) F dX5_mayClashSomewhere_34 (by decide +kernel) (by omega) (fun c15 => ?_) (fun c15 => ?_)
        · refine z_iconst F dX5_mayClashSomewhere_70 ?_
          exact hret _ _ 71 _ ⟨by omega, by omega⟩ ⟨hI, hW⟩ ⟨⟨by omega, by omega⟩, rfl⟩ dX5_mayClashSomewhere_71
        · refine z_aload_n F dX5_mayClashSomewhere_37 rfl (q := 0) rfl ?_
          refine rf_X5_25 F gs_45 rfl dX5_mayClashSomewhere_38 ?_
          refine rf_X5_96 F gs_35 rfl dX5_mayClashSomewhere_41 ?_
          refine z_iload_n F dX5_mayClashSomewhere_44 rfl (q := 1) rfl ?_
          refine z_iald F hI gs_38 (by omega) (by omega) (by decide) bd_38 dX5_mayClashSomewhere_45 (fun v16 (ev16 : v16 = M 38 _) av16 bv16 => ?_)
          refine z_if_eq (tgt := 72) F dX5_mayClashSomewhere_46 (by decide +kernel) (by omega) (fun c17 => ?_) (fun c17 => ?_)
          · refine z_iincN F dX5_mayClashSomewhere_72 (q := 2) rfl (by decide) (fun v18 ev18 => ?_)
            refine z_eq (ls' := [(2, ii v18), (0, .ref (ad 45)), (1, ii x0)]) rfl rfl rfl ?_
            refine z_goto (tgt := 2) F dX5_mayClashSomewhere_75 (by decide +kernel) ?_
            refine z_loc [1, 2, 0] (ls' := [(0, .ref (ad 45)), (1, ii x0), (2, ii v18)]) rfl ?_
            exact ih2 v18 (by omega) (by omega) (by omega)
          · refine z_aload_n F dX5_mayClashSomewhere_49 rfl (q := 0) rfl ?_
            refine rf_X5_21 F gs_45 rfl dX5_mayClashSomewhere_50 ?_
            refine rf_X5_93 F gs_2 rfl dX5_mayClashSomewhere_53 ?_
            refine z_iload_n F dX5_mayClashSomewhere_56 rfl (q := 2) rfl ?_
            refine z_iald F hI gs_4 (by omega) (by omega) (by decide) bd_4 dX5_mayClashSomewhere_57 (fun v19 (ev19 : v19 = M 4 _) av19 bv19 => ?_)
            have zv19 : v14 = v19 := ev14.trans ev19.symm
            subst zv19
            refine z_aload_n F dX5_mayClashSomewhere_58 rfl (q := 0) rfl ?_
            refine rf_X5_21 F gs_45 rfl dX5_mayClashSomewhere_59 ?_
            refine rf_X5_99 F gs_2 rfl dX5_mayClashSomewhere_62 ?_
            refine z_iload_n F dX5_mayClashSomewhere_65 rfl (q := 2) rfl ?_
            refine z_iald F hI gs_3 (by omega) (by omega) (by decide) bd_3 dX5_mayClashSomewhere_66 (fun v20 (ev20 : v20 = M 3 _) av20 bv20 => ?_)
            refine z_icmp_eq (tgt := 72) F dX5_mayClashSomewhere_67 (by decide +kernel) (by omega) (by omega) (fun c21 => ?_) (fun c21 => ?_)
            · refine z_iincN F dX5_mayClashSomewhere_72 (q := 2) rfl (by decide) (fun v22 ev22 => ?_)
              refine z_eq (ls' := [(2, ii v22), (0, .ref (ad 45)), (1, ii x0)]) rfl rfl rfl ?_
              refine z_goto (tgt := 2) F dX5_mayClashSomewhere_75 (by decide +kernel) ?_
              refine z_loc [1, 2, 0] (ls' := [(0, .ref (ad 45)), (1, ii x0), (2, ii v22)]) rfl ?_
              exact ih2 v22 (by omega) (by omega) (by omega)
            · refine z_iconst F dX5_mayClashSomewhere_70 ?_
              exact hret _ _ 71 _ ⟨by omega, by omega⟩ ⟨hI, hW⟩ ⟨⟨by omega, by omega⟩, rfl⟩ dX5_mayClashSomewhere_71
set_option maxRecDepth 4000 in
theorem k_X5_barredBy_45 (l : Launch) (M : Mem) (hJ : Iw M) (x0 : Int) (hx0a : 0 ≤ x0) (hx0b : x0 ≤ 7) (x1 : Int) (hx1a : 0 ≤ x1) (hx1b : x1 ≤ 9) (x2 : Int) (hx2a : 0 ≤ x2) (hx2b : x2 ≤ 7) : CI l yX5_barredBy cX5_barredBy 5 (some .int) 3 (fun ad => [.ref (ad 45), ii x0, ii x1, ii x2]) M (fun z M' => ((-2147483648) ≤ z ∧ z ≤ 2147483647) ∧ M = M') := by
  obtain ⟨hI, hW⟩ := hJ
  refine en_i (by decide +kernel) (fun ad => by exact Nat.le_of_ble_eq_true rfl) (fun D cy ad A p e s m args below meth c Q F hret => ?_)
  refine z_eq (ls' := [(0, .ref (ad 45)), (1, ii x0), (2, ii x1), (3, ii x2)]) rfl rfl rfl ?_
  refine z_iconst F dX5_barredBy_0 ?_
  refine z_iload_n F dX5_barredBy_1 rfl (q := 2) rfl ?_
  refine z_shl1 (k := 9) F dX5_barredBy_2 (by decide) (by omega) (by omega) (fun v1 ev1 av1 bv1 => ?_)
  refine z_istore F dX5_barredBy_3 (by decide) (ls' := [(4, ii v1), (0, .ref (ad 45)), (1, ii x0), (2, ii x1), (3, ii x2)]) rfl ?_
  refine z_iload F dX5_barredBy_5 (q := 0) rfl ?_
  refine z_aload_n F dX5_barredBy_7 rfl (q := 1) rfl ?_
  refine rf_X5_25 F gs_45 rfl dX5_barredBy_8 ?_
  refine z_iload_n F dX5_barredBy_11 rfl (q := 2) rfl ?_
  refine z_iload_n F dX5_barredBy_12 rfl (q := 4) rfl ?_
  refine z_iconst F dX5_barredBy_13 ?_
  refine zv_i (rest := [ii v1]) F (k_X7_wouldClash_35 l M ⟨hI, hW⟩ x0 (by omega) (by omega) x2 (by omega) (by omega) 0 (by omega) (by omega)) cs_X5_102 (T := TX7) (N := 7) (ci := 7) rfl gs_35 (by decide) (by decide) rfl rfl rfl (Nat.le_of_ble_eq_true rfl) dX5_barredBy_14 (fun v2 M3 rv2 hI p4 => ?_)
  obtain ⟨hI, hW⟩ := hI
  obtain ⟨⟨av2, bv2⟩, rfl⟩ := p4
  refine z_if_eq (tgt := 44) F dX5_barredBy_17 (by decide +kernel) (by omega) (fun c5 => ?_) (fun c5 => ?_)
  · refine z_iconst F dX5_barredBy_44 ?_
    refine z_ior_k (k := 10) F dX5_barredBy_45 (by decide) (by omega) (by omega) (by omega) (by omega) (fun v6 av6 bv6 => ?_)
    refine z_istore F dX5_barredBy_46 (by decide) (ls' := [(4, ii v6), (0, .ref (ad 45)), (1, ii x0), (2, ii x1), (3, ii x2)]) rfl ?_
    refine z_iload F dX5_barredBy_48 (q := 0) rfl ?_
    refine z_aload_n F dX5_barredBy_50 rfl (q := 1) rfl ?_
    refine rf_X5_25 F gs_45 rfl dX5_barredBy_51 ?_
    refine z_iload_n F dX5_barredBy_54 rfl (q := 2) rfl ?_
    refine z_iload_n F dX5_barredBy_55 rfl (q := 4) rfl ?_
    refine z_iconst F dX5_barredBy_56 ?_
    refine zv_i (rest := [ii v6]) F (k_X7_wouldClash_35 l M ⟨hI, hW⟩ x0 (by omega) (by omega) x2 (by omega) (by omega) 1 (by omega) (by omega)) cs_X5_102 (T := TX7) (N := 7) (ci := 7) rfl gs_35 (by decide) (by decide) rfl rfl rfl (Nat.le_of_ble_eq_true rfl) dX5_barredBy_57 (fun v7 M8 rv7 hI p9 => ?_)
    obtain ⟨hI, hW⟩ := hI
    obtain ⟨⟨av7, bv7⟩, rfl⟩ := p9
    refine z_if_eq (tgt := 75) F dX5_barredBy_60 (by decide +kernel) (by omega) (fun c10 => ?_) (fun c10 => ?_)
    · refine z_iconst F dX5_barredBy_75 ?_
      refine z_ior_k (k := 10) F dX5_barredBy_76 (by decide) (by omega) (by omega) (by omega) (by omega) (fun v11 av11 bv11 => ?_)
      refine z_istore F dX5_barredBy_77 (by decide) (ls' := [(4, ii v11), (0, .ref (ad 45)), (1, ii x0), (2, ii x1), (3, ii x2)]) rfl ?_
      refine z_iload F dX5_barredBy_79 (q := 0) rfl ?_
      exact hret _ _ 81 _ (by omega) ⟨hI, hW⟩ ⟨⟨by omega, by omega⟩, rfl⟩ dX5_barredBy_81
    · refine z_aload_n F dX5_barredBy_63 rfl (q := 1) rfl ?_
      refine rf_X5_21 F gs_45 rfl dX5_barredBy_64 ?_
      refine rf_X5_93 F gs_2 rfl dX5_barredBy_67 ?_
      refine z_iload_n F dX5_barredBy_70 rfl (q := 3) rfl ?_
      refine z_iald F hI gs_4 (by omega) (by omega) (by decide) bd_4 dX5_barredBy_71 (fun v12 (ev12 : v12 = M 4 _) av12 bv12 => ?_)
      refine z_goto (tgt := 76) F dX5_barredBy_72 (by decide +kernel) ?_
      refine z_ior0 F dX5_barredBy_76 (fun v13 ev13 rv13 => ?_)
      refine z_istore F dX5_barredBy_77 (by decide) (ls' := [(4, ii v13), (0, .ref (ad 45)), (1, ii x0), (2, ii x1), (3, ii x2)]) rfl ?_
      refine z_iload F dX5_barredBy_79 (q := 0) rfl ?_
      exact hret _ _ 81 _ (by omega) ⟨hI, hW⟩ ⟨⟨by omega, by omega⟩, rfl⟩ dX5_barredBy_81
  · refine z_aload_n F dX5_barredBy_20 rfl (q := 1) rfl ?_
    refine rf_X5_21 F gs_45 rfl dX5_barredBy_21 ?_
    refine rf_X5_99 F gs_2 rfl dX5_barredBy_24 ?_
    refine z_iload_n F dX5_barredBy_27 rfl (q := 3) rfl ?_
    refine z_iald F hI gs_3 (by omega) (by omega) (by decide) bd_3 dX5_barredBy_28 (fun v14 (ev14 : v14 = M 3 _) av14 bv14 => ?_)
    refine z_aload_n F dX5_barredBy_29 rfl (q := 1) rfl ?_
    refine rf_X5_21 F gs_45 rfl dX5_barredBy_30 ?_
    refine rf_X5_93 F gs_2 rfl dX5_barredBy_33 ?_
    refine z_iload_n F dX5_barredBy_36 rfl (q := 3) rfl ?_
    refine z_iald F hI gs_4 (by omega) (by omega) (by decide) bd_4 dX5_barredBy_37 (fun v15 (ev15 : v15 = M 4 _) av15 bv15 => ?_)
    refine z_iconst F dX5_barredBy_38 ?_
    refine z_ixor0 F dX5_barredBy_39 (fun v16 ev16 rv16 => ?_)
    refine z_iand0 F dX5_barredBy_40 (fun v17 ev17 rv17 => ?_)
    refine z_goto (tgt := 45) F dX5_barredBy_41 (by decide +kernel) ?_
    refine z_ior0 F dX5_barredBy_45 (fun v18 ev18 rv18 => ?_)
    refine z_istore F dX5_barredBy_46 (by decide) (ls' := [(4, ii v18), (0, .ref (ad 45)), (1, ii x0), (2, ii x1), (3, ii x2)]) rfl ?_
    refine z_iload F dX5_barredBy_48 (q := 0) rfl ?_
    refine z_aload_n F dX5_barredBy_50 rfl (q := 1) rfl ?_
    refine rf_X5_25 F gs_45 rfl dX5_barredBy_51 ?_
    refine z_iload_n F dX5_barredBy_54 rfl (q := 2) rfl ?_
    refine z_iload_n F dX5_barredBy_55 rfl (q := 4) rfl ?_
    refine z_iconst F dX5_barredBy_56 ?_
    refine zv_i (rest := [ii v18]) F (k_X7_wouldClash_35 l M ⟨hI, hW⟩ x0 (by omega) (by omega) x2 (by omega) (by omega) 1 (by omega) (by omega)) cs_X5_102 (T := TX7) (N := 7) (ci := 7) rfl gs_35 (by decide) (by decide) rfl rfl rfl (Nat.le_of_ble_eq_true rfl) dX5_barredBy_57 (fun v19 M20 rv19 hI p21 => ?_)
    obtain ⟨hI, hW⟩ := hI
    obtain ⟨⟨av19, bv19⟩, rfl⟩ := p21
    refine z_if_eq (tgt := 75) F dX5_barredBy_60 (by decide +kernel) (by omega) (fun c22 => ?_) (fun c22 => ?_)
    · refine z_iconst F dX5_barredBy_75 ?_
      refine z_ior0 F dX5_barredBy_76 (fun v23 ev23 rv23 => ?_)
      refine z_istore F dX5_barredBy_77 (by decide) (ls' := [(4, ii v23), (0, .ref (ad 45)), (1, ii x0), (2, ii x1), (3, ii x2)]) rfl ?_
      refine z_iload F dX5_barredBy_79 (q := 0) rfl ?_
      exact hret _ _ 81 _ (by omega) ⟨hI, hW⟩ ⟨⟨by omega, by omega⟩, rfl⟩ dX5_barredBy_81
    · refine z_aload_n F dX5_barredBy_63 rfl (q := 1) rfl ?_
      refine rf_X5_21 F gs_45 rfl dX5_barredBy_64 ?_
      refine rf_X5_93 F gs_2 rfl dX5_barredBy_67 ?_
      refine z_iload_n F dX5_barredBy_70 rfl (q := 3) rfl ?_
      refine z_iald F hI gs_4 (by omega) (by omega) (by decide) bd_4 dX5_barredBy_71 (fun v24 (ev24 : v24 = M 4 _) av24 bv24 => ?_)
      have zv24 : v15 = v24 := ev15.trans ev24.symm
      subst zv24
      refine z_goto (tgt := 76) F dX5_barredBy_72 (by decide +kernel) ?_
      refine z_ior0 F dX5_barredBy_76 (fun v25 ev25 rv25 => ?_)
      refine z_istore F dX5_barredBy_77 (by decide) (ls' := [(4, ii v25), (0, .ref (ad 45)), (1, ii x0), (2, ii x1), (3, ii x2)]) rfl ?_
      refine z_iload F dX5_barredBy_79 (q := 0) rfl ?_
      exact hret _ _ 81 _ (by omega) ⟨hI, hW⟩ ⟨⟨by omega, by omega⟩, rfl⟩ dX5_barredBy_81
set_option maxRecDepth 4000 in
theorem k_X5_clearBoard_45 (l : Launch) (M : Mem) (hJ : Iw M) : CI l yX5_clearBoard cX5_clearBoard 4 (some .boolean) 4 (fun ad => [.ref (ad 45)]) M (fun z M' => (0 ≤ z ∧ z ≤ 1) ∧ Fr [45, 46] M M') := by
  obtain ⟨hI, hW⟩ := hJ
  have hF : Fr [45, 46] M M := Fr.rf
  refine en_z (by decide +kernel) (fun ad => by exact Nat.le_of_ble_eq_true rfl) (fun D cy ad A p e s m args below meth c Q F hret => ?_)
  refine z_eq (ls' := [(0, .ref (ad 45))]) rfl rfl rfl ?_
  refine z_aload_n F dX5_clearBoard_0 rfl (q := 0) rfl ?_
  refine z_iconst F dX5_clearBoard_1 ?_
  refine pf_X5_64 F hI gs_45 rfl bd_45_3 rfl rfl dX5_clearBoard_2 (by omega) (by omega) (fun M2 hI sf1 f1 => ?_)
  have hF := hF.wr f1 (by decide) (by decide)
  have hW : WFk M2 := hW.site f1 (by decide)
  refine z_aload_n F dX5_clearBoard_5 rfl (q := 0) rfl ?_
  refine z_iconst F dX5_clearBoard_6 ?_
  refine pf_X5_67 F hI gs_45 rfl bd_45_4 rfl rfl dX5_clearBoard_7 (by omega) (by omega) (fun M4 hI sf3 f3 => ?_)
  have hF := hF.wr f3 (by decide) (by decide)
  have hW : WFk M4 := hW.site f3 (by decide)
  refine z_iconst F dX5_clearBoard_10 ?_
  refine z_istore_n F dX5_clearBoard_11 rfl (by decide) (ls' := [(1, ii 1), (0, .ref (ad 45))]) rfl ?_
  refine z_iconst F dX5_clearBoard_12 ?_
  refine z_istore_n F dX5_clearBoard_13 rfl (by decide) (ls' := [(2, ii 0), (1, ii 1), (0, .ref (ad 45))]) rfl ?_
  refine z_loc [2, 1, 0] (ls' := [(0, .ref (ad 45)), (1, ii 1), (2, ii 0)]) rfl ?_
  suffices key14 : ∀ (n : Nat) (y6 : Int) (y7 : Int) (M5 : Mem), Inv M5 → WFk M5 → Fr [45, 46] M M5 → 0 ≤ y6 → y6 ≤ 1 → 0 ≤ y7 → y7 ≤ 8 → 8 - y7 < (n : Int) → Z D cy ad p l e (RMh 4) s m args below meth c A 4 0 0 Q 14 [(0, .ref (ad 45)), (1, ii y6), (2, ii y7)] [] M5 from key14 9 1 0 M4 hI hW hF (by omega) (by omega) (by omega) (by omega) (by omega)
  intro n14
  induction n14 with
  | zero => intro y6 y7 M5 hI hW hF ay6 by6 ay7 by7 hn14; exfalso; omega
  | succ n14 ih14 =>
    intro y6 y7 M5 hI hW hF ay6 by6 ay7 by7 hn14
    refine z_iload_n F dX5_clearBoard_14 rfl (q := 2) rfl ?_
    refine z_aload_n F dX5_clearBoard_15 rfl (q := 0) rfl ?_
    refine rf_X5_21 F gs_45 rfl dX5_clearBoard_16 ?_
    refine gf_X5_37 F hI gs_2 rfl bd_2_3 dX5_clearBoard_19 (fun v8 ev8 av8 bv8 => ?_)
    refine z_icmp_ge (tgt := 190) F dX5_clearBoard_22 (by decide +kernel) (by omega) (by omega) (fun c9 => ?_) (fun c9 => ?_)
    · refine z_iload_n F dX5_clearBoard_190 rfl (q := 1) rfl ?_
      exact hret _ _ 191 _ ⟨by omega, by omega⟩ ⟨hI, hW⟩ ⟨⟨by omega, by omega⟩, hF⟩ dX5_clearBoard_191
    · refine z_aload_n F dX5_clearBoard_25 rfl (q := 0) rfl ?_
      refine rf_X5_9 F gs_45 rfl dX5_clearBoard_26 ?_
      refine z_iload_n F dX5_clearBoard_29 rfl (q := 2) rfl ?_
      refine z_aload_n F dX5_clearBoard_30 rfl (q := 0) rfl ?_
      refine rf_X5_21 F gs_45 rfl dX5_clearBoard_31 ?_
      refine z_iload_n F dX5_clearBoard_34 rfl (q := 2) rfl ?_
      refine zv_i (rest := [ii y7, .ref (ad 46)]) F (k_X9_isFixed_2 l M5 ⟨hI, hW⟩ y7 (by omega) (by omega)) cs_X5_70 (T := TX9) (N := 18) (ci := 9) rfl gs_2 (by decide) (by decide) rfl rfl rfl (Nat.le_of_ble_eq_true rfl) dX5_clearBoard_35 (fun v10 M11 rv10 hI p12 => ?_)
      obtain ⟨hI, hW⟩ := hI
      obtain ⟨⟨av10, bv10⟩, rfl⟩ := p12
      refine z_if_eq (tgt := 55) F dX5_clearBoard_38 (by decide +kernel) (by omega) (fun c13 => ?_) (fun c13 => ?_)
      · refine z_aload_n F dX5_clearBoard_55 rfl (q := 0) rfl ?_
        refine rf_X5_21 F gs_45 rfl dX5_clearBoard_56 ?_
        refine zv_i (rest := [ii y7, .ref (ad 46)]) F (k_X9_allPlaces_2 l M5 ⟨hI, hW⟩) cs_X5_79 (T := TX9) (N := 18) (ci := 9) rfl gs_2 (by decide) (by decide) rfl rfl rfl (Nat.le_of_ble_eq_true rfl) dX5_clearBoard_59 (fun v14 M15 rv14 hI p16 => ?_)
        obtain ⟨hI, hW⟩ := hI
        obtain ⟨⟨av14, bv14⟩, rfl⟩ := p16
        refine z_iast F hI gs_46 (by omega) (by omega) (by decide) bd_46 dX5_clearBoard_62 (by omega) (by omega) (fun M18 hI sf17 f17 => ?_)
        have hF := hF.wr f17 (by decide) (by decide)
        have hW : WFk M18 := hW.site f17 (by decide)
        refine z_iconst F dX5_clearBoard_63 ?_
        refine z_istore_n F dX5_clearBoard_64 rfl (by decide) (ls' := [(3, ii 0), (0, .ref (ad 45)), (1, ii y6), (2, ii y7)]) rfl ?_
        refine z_loc [1, 2, 3, 0] (ls' := [(0, .ref (ad 45)), (1, ii y6), (2, ii y7), (3, ii 0)]) rfl ?_
        suffices key65 : ∀ (n : Nat) (y20 : Int) (M19 : Mem), Inv M19 → WFk M19 → Fr [45, 46] M M19 → 0 ≤ y20 → y20 ≤ 8 → 8 - y20 < (n : Int) → Z D cy ad p l e (RMh 4) s m args below meth c A 4 0 0 Q 65 [(0, .ref (ad 45)), (1, ii y6), (2, ii y7), (3, ii y20)] [] M19 from key65 9 0 M18 hI hW hF (by omega) (by omega) (by omega)
        intro n65
        induction n65 with
        | zero => intro y20 M19 hI hW hF ay20 by20 hn65; exfalso; omega
        | succ n65 ih65 =>
          intro y20 M19 hI hW hF ay20 by20 hn65
          refine z_iload_n F dX5_clearBoard_65 rfl (q := 3) rfl ?_
          refine z_aload_n F dX5_clearBoard_66 rfl (q := 0) rfl ?_
          refine rf_X5_21 F gs_45 rfl dX5_clearBoard_67 ?_
          refine gf_X5_37 F hI gs_2 rfl bd_2_3 dX5_clearBoard_70 (fun v21 ev21 av21 bv21 => ?_)
          refine z_icmp_ge (tgt := 128) F dX5_clearBoard_73 (by decide +kernel) (by omega) (by omega) (fun c22 => ?_) (fun c22 => ?_)
          · refine z_iload_n F dX5_clearBoard_128 rfl (q := 1) rfl ?_
            refine z_aload_n F dX5_clearBoard_129 rfl (q := 0) rfl ?_
            refine rf_X5_9 F gs_45 rfl dX5_clearBoard_130 ?_
            refine z_iload_n F dX5_clearBoard_133 rfl (q := 2) rfl ?_
            refine z_iald F hI gs_46 (by omega) (by omega) (by decide) bd_46 dX5_clearBoard_134 (fun v23 (ev23 : v23 = M19 46 _) av23 bv23 => ?_)
            refine z_if_eq (tgt := 142) F dX5_clearBoard_135 (by decide +kernel) (by omega) (fun c24 => ?_) (fun c24 => ?_)
            · refine z_iconst F dX5_clearBoard_142 ?_
              refine z_iand_r F dX5_clearBoard_143 (by omega) (by omega) (fun v25 ev25 av25 bv25 => ?_)
              refine z_istore_n F dX5_clearBoard_144 rfl (by decide) (ls' := [(1, ii v25), (0, .ref (ad 45)), (2, ii y7), (3, ii y20)]) rfl ?_
              refine z_aload_n F dX5_clearBoard_145 rfl (q := 1) rfl ?_
              refine rf_X5_21 F gs_45 rfl dX5_clearBoard_146 ?_
              refine z_iload_n F dX5_clearBoard_149 rfl (q := 2) rfl ?_
              refine zv_i (rest := []) F (k_X9_isFixed_2 l M19 ⟨hI, hW⟩ y7 (by omega) (by omega)) cs_X5_70 (T := TX9) (N := 18) (ci := 9) rfl gs_2 (by decide) (by decide) rfl rfl rfl (Nat.le_of_ble_eq_true rfl) dX5_clearBoard_150 (fun v26 M27 rv26 hI p28 => ?_)
              obtain ⟨hI, hW⟩ := hI
              obtain ⟨⟨av26, bv26⟩, rfl⟩ := p28
              refine z_if_ne (tgt := 164) F dX5_clearBoard_153 (by decide +kernel) (by omega) (fun c29 => ?_) (fun c29 => ?_)
              · refine z_aload_n F dX5_clearBoard_164 rfl (q := 1) rfl ?_
                refine z_iload_n F dX5_clearBoard_165 rfl (q := 2) rfl ?_
                refine pf_X5_67 F hI gs_45 rfl bd_45_4 rfl rfl dX5_clearBoard_166 (by omega) (by omega) (fun M31 hI sf30 f30 => ?_)
                have hF := hF.wr f30 (by decide) (by decide)
                have hW : WFk M31 := hW.site f30 (by decide)
                refine z_goto (tgt := 184) F dX5_clearBoard_169 (by decide +kernel) ?_
                refine z_iincN F dX5_clearBoard_184 (q := 2) rfl (by decide) (fun v32 ev32 => ?_)
                refine z_eq (ls' := [(2, ii v32), (1, ii v25), (0, .ref (ad 45)), (3, ii y20)]) rfl rfl rfl ?_
                refine z_goto (tgt := 14) F dX5_clearBoard_187 (by decide +kernel) ?_
                refine z_loc [2, 1, 0] (ls' := [(0, .ref (ad 45)), (1, ii v25), (2, ii v32)]) rfl ?_
                exact ih14 v25 v32 M31 hI hW hF (by omega) (by omega) (by omega) (by omega) (by omega)
              · refine z_aload_n F dX5_clearBoard_156 rfl (q := 1) rfl ?_
                refine z_iload_n F dX5_clearBoard_157 rfl (q := 2) rfl ?_
                refine zv_i (rest := []) F (k_X5_mayClashSomewhere_45 l M19 ⟨hI, hW⟩ y7 (by omega) (by omega)) cs_X5_87 (T := TX5) (N := 9) (ci := 5) rfl gs_45 (by decide) (by decide) rfl rfl rfl (Nat.le_of_ble_eq_true rfl) dX5_clearBoard_158 (fun v33 M34 rv33 hI p35 => ?_)
                obtain ⟨hI, hW⟩ := hI
                obtain ⟨⟨av33, bv33⟩, rfl⟩ := p35
                refine z_if_eq (tgt := 172) F dX5_clearBoard_161 (by decide +kernel) (by omega) (fun c36 => ?_) (fun c36 => ?_)
                · refine z_aload_n F dX5_clearBoard_172 rfl (q := 1) rfl ?_
                  refine z_dup F dX5_clearBoard_173 rfl ?_
                  refine gf_X5_64 F hI gs_45 rfl bd_45_3 dX5_clearBoard_174 (fun v37 ev37 av37 bv37 => ?_)
                  refine z_iconst F dX5_clearBoard_177 ?_
                  refine z_iload_n F dX5_clearBoard_178 rfl (q := 2) rfl ?_
                  refine z_shl1 (k := 7) F dX5_clearBoard_179 (by decide) (by omega) (by omega) (fun v38 ev38 av38 bv38 => ?_)
                  refine z_ior0 F dX5_clearBoard_180 (fun v39 ev39 rv39 => ?_)
                  refine pf_X5_64 F hI gs_45 rfl bd_45_3 rfl rfl dX5_clearBoard_181 (by omega) (by omega) (fun M41 hI sf40 f40 => ?_)
                  have hF := hF.wr f40 (by decide) (by decide)
                  have hW : WFk M41 := hW.site f40 (by decide)
                  refine z_iincN F dX5_clearBoard_184 (q := 2) rfl (by decide) (fun v42 ev42 => ?_)
                  refine z_eq (ls' := [(2, ii v42), (1, ii v25), (0, .ref (ad 45)), (3, ii y20)]) rfl rfl rfl ?_
                  refine z_goto (tgt := 14) F dX5_clearBoard_187 (by decide +kernel) ?_
                  refine z_loc [2, 1, 0] (ls' := [(0, .ref (ad 45)), (1, ii v25), (2, ii v42)]) rfl ?_
                  exact ih14 v25 v42 M41 hI hW hF (by omega) (by omega) (by omega) (by omega) (by omega)
                · refine z_aload_n F dX5_clearBoard_164 rfl (q := 1) rfl ?_
                  refine z_iload_n F dX5_clearBoard_165 rfl (q := 2) rfl ?_
                  refine pf_X5_67 F hI gs_45 rfl bd_45_4 rfl rfl dX5_clearBoard_166 (by omega) (by omega) (fun M44 hI sf43 f43 => ?_)
                  have hF := hF.wr f43 (by decide) (by decide)
                  have hW : WFk M44 := hW.site f43 (by decide)
                  refine z_goto (tgt := 184) F dX5_clearBoard_169 (by decide +kernel) ?_
                  refine z_iincN F dX5_clearBoard_184 (q := 2) rfl (by decide) (fun v45 ev45 => ?_)
                  refine z_eq (ls' := [(2, ii v45), (1, ii v25), (0, .ref (ad 45)), (3, ii y20)]) rfl rfl rfl ?_
                  refine z_goto (tgt := 14) F dX5_clearBoard_187 (by decide +kernel) ?_
                  refine z_loc [2, 1, 0] (ls' := [(0, .ref (ad 45)), (1, ii v25), (2, ii v45)]) rfl ?_
                  exact ih14 v25 v45 M44 hI hW hF (by omega) (by omega) (by omega) (by omega) (by omega)
            · refine z_iconst F dX5_clearBoard_138 ?_
              refine z_goto (tgt := 143) F dX5_clearBoard_139 (by decide +kernel) ?_
              refine z_iand_r F dX5_clearBoard_143 (by omega) (by omega) (fun v46 ev46 av46 bv46 => ?_)
              refine z_istore_n F dX5_clearBoard_144 rfl (by decide) (ls' := [(1, ii v46), (0, .ref (ad 45)), (2, ii y7), (3, ii y20)]) rfl ?_
              refine z_aload_n F dX5_clearBoard_145 rfl (q := 1) rfl ?_
              refine rf_X5_21 F gs_45 rfl dX5_clearBoard_146 ?_
              refine z_iload_n F dX5_clearBoard_149 rfl (q := 2) rfl ?_
              refine zv_i (rest := []) F (k_X9_isFixed_2 l M19 ⟨hI, hW⟩ y7 (by omega) (by omega)) cs_X5_70 (T := TX9) (N := 18) (ci := 9) rfl gs_2 (by decide) (by decide) rfl rfl rfl (Nat.le_of_ble_eq_true rfl) dX5_clearBoard_150 (fun v47 M48 rv47 hI p49 => ?_)
              obtain ⟨hI, hW⟩ := hI
              obtain ⟨⟨av47, bv47⟩, rfl⟩ := p49
              refine z_if_ne (tgt := 164) F dX5_clearBoard_153 (by decide +kernel) (by omega) (fun c50 => ?_) (fun c50 => ?_)
              · refine z_aload_n F dX5_clearBoard_164 rfl (q := 1) rfl ?_
                refine z_iload_n F dX5_clearBoard_165 rfl (q := 2) rfl ?_
                refine pf_X5_67 F hI gs_45 rfl bd_45_4 rfl rfl dX5_clearBoard_166 (by omega) (by omega) (fun M52 hI sf51 f51 => ?_)
                have hF := hF.wr f51 (by decide) (by decide)
                have hW : WFk M52 := hW.site f51 (by decide)
                refine z_goto (tgt := 184) F dX5_clearBoard_169 (by decide +kernel) ?_
                refine z_iincN F dX5_clearBoard_184 (q := 2) rfl (by decide) (fun v53 ev53 => ?_)
                refine z_eq (ls' := [(2, ii v53), (1, ii v46), (0, .ref (ad 45)), (3, ii y20)]) rfl rfl rfl ?_
                refine z_goto (tgt := 14) F dX5_clearBoard_187 (by decide +kernel) ?_
                refine z_loc [2, 1, 0] (ls' := [(0, .ref (ad 45)), (1, ii v46), (2, ii v53)]) rfl ?_
                exact ih14 v46 v53 M52 hI hW hF (by omega) (by omega) (by omega) (by omega) (by omega)
              · refine z_aload_n F dX5_clearBoard_156 rfl (q := 1) rfl ?_
                refine z_iload_n F dX5_clearBoard_157 rfl (q := 2) rfl ?_
                refine zv_i (rest := []) F (k_X5_mayClashSomewhere_45 l M19 ⟨hI, hW⟩ y7 (by omega) (by omega)) cs_X5_87 (T := TX5) (N := 9) (ci := 5) rfl gs_45 (by decide) (by decide) rfl rfl rfl (Nat.le_of_ble_eq_true rfl) dX5_clearBoard_158 (fun v54 M55 rv54 hI p56 => ?_)
                obtain ⟨hI, hW⟩ := hI
                obtain ⟨⟨av54, bv54⟩, rfl⟩ := p56
                refine z_if_eq (tgt := 172) F dX5_clearBoard_161 (by decide +kernel) (by omega) (fun c57 => ?_) (fun c57 => ?_)
                · refine z_aload_n F dX5_clearBoard_172 rfl (q := 1) rfl ?_
                  refine z_dup F dX5_clearBoard_173 rfl ?_
                  refine gf_X5_64 F hI gs_45 rfl bd_45_3 dX5_clearBoard_174 (fun v58 ev58 av58 bv58 => ?_)
                  refine z_iconst F dX5_clearBoard_177 ?_
                  refine z_iload_n F dX5_clearBoard_178 rfl (q := 2) rfl ?_
                  refine z_shl1 (k := 7) F dX5_clearBoard_179 (by decide) (by omega) (by omega) (fun v59 ev59 av59 bv59 => ?_)
                  refine z_ior0 F dX5_clearBoard_180 (fun v60 ev60 rv60 => ?_)
                  refine pf_X5_64 F hI gs_45 rfl bd_45_3 rfl rfl dX5_clearBoard_181 (by omega) (by omega) (fun M62 hI sf61 f61 => ?_)
                  have hF := hF.wr f61 (by decide) (by decide)
                  have hW : WFk M62 := hW.site f61 (by decide)
                  refine z_iincN F dX5_clearBoard_184 (q := 2) rfl (by decide) (fun v63 ev63 => ?_)
                  refine z_eq (ls' := [(2, ii v63), (1, ii v46), (0, .ref (ad 45)), (3, ii y20)]) rfl rfl rfl ?_
                  refine z_goto (tgt := 14) F dX5_clearBoard_187 (by decide +kernel) ?_
                  refine z_loc [2, 1, 0] (ls' := [(0, .ref (ad 45)), (1, ii v46), (2, ii v63)]) rfl ?_
                  exact ih14 v46 v63 M62 hI hW hF (by omega) (by omega) (by omega) (by omega) (by omega)
                · refine z_aload_n F dX5_clearBoard_164 rfl (q := 1) rfl ?_
                  refine z_iload_n F dX5_clearBoard_165 rfl (q := 2) rfl ?_
                  refine pf_X5_67 F hI gs_45 rfl bd_45_4 rfl rfl dX5_clearBoard_166 (by omega) (by omega) (fun M65 hI sf64 f64 => ?_)
                  have hF := hF.wr f64 (by decide) (by decide)
                  have hW : WFk M65 := hW.site f64 (by decide)
                  refine z_goto (tgt := 184) F dX5_clearBoard_169 (by decide +kernel) ?_
                  refine z_iincN F dX5_clearBoard_184 (q := 2) rfl (by decide) (fun v66 ev66 => ?_)
                  refine z_eq (ls' := [(2, ii v66), (1, ii v46), (0, .ref (ad 45)), (3, ii y20)]) rfl rfl rfl ?_
                  refine z_goto (tgt := 14) F dX5_clearBoard_187 (by decide +kernel) ?_
                  refine z_loc [2, 1, 0] (ls' := [(0, .ref (ad 45)), (1, ii v46), (2, ii v66)]) rfl ?_
                  exact ih14 v46 v66 M65 hI hW hF (by omega) (by omega) (by omega) (by omega) (by omega)
          · refine z_aload_n F dX5_clearBoard_76 rfl (q := 0) rfl ?_
            refine rf_X5_9 F gs_45 rfl dX5_clearBoard_77 ?_
            refine z_iload_n F dX5_clearBoard_80 rfl (q := 2) rfl ?_
            refine z_dup2 F dX5_clearBoard_81 rfl rfl ?_
            refine z_iald F hI gs_46 (by omega) (by omega) (by decide) bd_46 dX5_clearBoard_82 (fun v67 (ev67 : v67 = M19 46 _) av67 bv67 => ?_)
            refine z_iload_n F dX5_clearBoard_83 rfl (q := 3) rfl ?_
            refine z_iload_n F dX5_clearBoard_84 rfl (q := 2) rfl ?_
            refine z_icmp_eq (tgt := 119) F dX5_clearBoard_85 (by decide +kernel) (by omega) (by omega) (fun c68 => ?_) (fun c68 => ?_)
            · refine z_iconst F dX5_clearBoard_119 ?_
              refine z_iand0 F dX5_clearBoard_120 (fun v69 ev69 rv69 => ?_)
              refine z_iast F hI gs_46 (by omega) (by omega) (by decide) bd_46 dX5_clearBoard_121 (by omega) (by omega) (fun M71 hI sf70 f70 => ?_)
              have hF := hF.wr f70 (by decide) (by decide)
              have hW : WFk M71 := hW.site f70 (by decide)
              refine z_iincN F dX5_clearBoard_122 (q := 3) rfl (by decide) (fun v72 ev72 => ?_)
              refine z_eq (ls' := [(3, ii v72), (0, .ref (ad 45)), (1, ii y6), (2, ii y7)]) rfl rfl rfl ?_
              refine z_goto (tgt := 65) F dX5_clearBoard_125 (by decide +kernel) ?_
              refine z_loc [1, 2, 3, 0] (ls' := [(0, .ref (ad 45)), (1, ii y6), (2, ii y7), (3, ii v72)]) rfl ?_
              exact ih65 v72 M71 hI hW hF (by omega) (by omega) (by omega)
            · refine z_aload_n F dX5_clearBoard_88 rfl (q := 0) rfl ?_
              refine rf_X5_21 F gs_45 rfl dX5_clearBoard_89 ?_
              refine z_iload_n F dX5_clearBoard_92 rfl (q := 3) rfl ?_
              refine zv_i (rest := [ii v67, ii y7, .ref (ad 46)]) F (k_X9_isFixed_2 l M19 ⟨hI, hW⟩ y20 (by omega) (by omega)) cs_X5_70 (T := TX9) (N := 18) (ci := 9) rfl gs_2 (by decide) (by decide) rfl rfl rfl (Nat.le_of_ble_eq_true rfl) dX5_clearBoard_93 (fun v73 M74 rv73 hI p75 => ?_)
              obtain ⟨hI, hW⟩ := hI
              obtain ⟨⟨av73, bv73⟩, rfl⟩ := p75
              refine z_if_eq (tgt := 119) F dX5_clearBoard_96 (by decide +kernel) (by omega) (fun c76 => ?_) (fun c76 => ?_)
              · refine z_iconst F dX5_clearBoard_119 ?_
                refine z_iand0 F dX5_clearBoard_120 (fun v77 ev77 rv77 => ?_)
                refine z_iast F hI gs_46 (by omega) (by omega) (by decide) bd_46 dX5_clearBoard_121 (by omega) (by omega) (fun M79 hI sf78 f78 => ?_)
                have hF := hF.wr f78 (by decide) (by decide)
                have hW : WFk M79 := hW.site f78 (by decide)
                refine z_iincN F dX5_clearBoard_122 (q := 3) rfl (by decide) (fun v80 ev80 => ?_)
                refine z_eq (ls' := [(3, ii v80), (0, .ref (ad 45)), (1, ii y6), (2, ii y7)]) rfl rfl rfl ?_
                refine z_goto (tgt := 65) F dX5_clearBoard_125 (by decide +kernel) ?_
                refine z_loc [1, 2, 3, 0] (ls' := [(0, .ref (ad 45)), (1, ii y6), (2, ii y7), (3, ii v80)]) rfl ?_
                exact ih65 v80 M79 hI hW hF (by omega) (by omega) (by omega)
              · refine z_aload_n F dX5_clearBoard_99 rfl (q := 0) rfl ?_
                refine z_iload_n F dX5_clearBoard_100 rfl (q := 3) rfl ?_
                refine z_aload_n F dX5_clearBoard_101 rfl (q := 0) rfl ?_
                refine rf_X5_25 F gs_45 rfl dX5_clearBoard_102 ?_
                refine rf_X5_74 F gs_35 rfl dX5_clearBoard_105 ?_
                refine z_iload_n F dX5_clearBoard_108 rfl (q := 3) rfl ?_
                refine z_iald F hI gs_36 (by omega) (by omega) (by decide) bd_36 dX5_clearBoard_109 (fun v81 (ev81 : v81 = M19 36 _) av81 bv81 => ?_)
                refine z_iload_n F dX5_clearBoard_110 rfl (q := 2) rfl ?_
                refine zv_i (rest := [ii v67, ii y7, .ref (ad 46)]) F (k_X5_barredBy_45 l M19 ⟨hI, hW⟩ y20 (by omega) (by omega) v81 (by omega) (by omega) y7 (by omega) (by omega)) cs_X5_83 (T := TX5) (N := 9) (ci := 5) rfl gs_45 (by decide) (by decide) rfl rfl rfl (Nat.le_of_ble_eq_true rfl) dX5_clearBoard_111 (fun v82 M83 rv82 hI p84 => ?_)
                obtain ⟨hI, hW⟩ := hI
                obtain ⟨⟨av82, bv82⟩, rfl⟩ := p84
                refine z_iconst F dX5_clearBoard_114 ?_
                refine z_ixor0 F dX5_clearBoard_115 (fun v85 ev85 rv85 => ?_)
                refine z_goto (tgt := 120) F dX5_clearBoard_116 (by decide +kernel) ?_
                refine z_iand0 F dX5_clearBoard_120 (fun v86 ev86 rv86 => ?_)
                refine z_iast F hI gs_46 (by omega) (by omega) (by decide) bd_46 dX5_clearBoard_121 (by omega) (by omega) (fun M88 hI sf87 f87 => ?_)
                have hF := hF.wr f87 (by decide) (by decide)
                have hW : WFk M88 := hW.site f87 (by decide)
                refine z_iincN F dX5_clearBoard_122 (q := 3) rfl (by decide) (fun v89 ev89 => ?_)
                refine z_eq (ls' := [(3, ii v89), (0, .ref (ad 45)), (1, ii y6), (2, ii y7)]) rfl rfl rfl ?_
                refine z_goto (tgt := 65) F dX5_clearBoard_125 (by decide +kernel) ?_
                refine z_loc [1, 2, 3, 0] (ls' := [(0, .ref (ad 45)), (1, ii y6), (2, ii y7), (3, ii v89)]) rfl ?_
                exact ih65 v89 M88 hI hW hF (by omega) (by omega) (by omega)
      · refine z_iconst F dX5_clearBoard_41 ?_
        refine z_aload_n F dX5_clearBoard_42 rfl (q := 0) rfl ?_
        refine rf_X5_25 F gs_45 rfl dX5_clearBoard_43 ?_
        refine rf_X5_74 F gs_35 rfl dX5_clearBoard_46 ?_
        refine z_iload_n F dX5_clearBoard_49 rfl (q := 2) rfl ?_
        refine z_iald F hI gs_36 (by omega) (by omega) (by decide) bd_36 dX5_clearBoard_50 (fun v90 (ev90 : v90 = M5 36 _) av90 bv90 => ?_)
        refine z_shl1 (k := 9) F dX5_clearBoard_51 (by decide) (by omega) (by omega) (fun v91 ev91 av91 bv91 => ?_)
        refine z_goto (tgt := 62) F dX5_clearBoard_52 (by decide +kernel) ?_
        refine z_iast F hI gs_46 (by omega) (by omega) (by decide) bd_46 dX5_clearBoard_62 (by omega) (by omega) (fun M93 hI sf92 f92 => ?_)
        have hF := hF.wr f92 (by decide) (by decide)
        have hW : WFk M93 := hW.site f92 (by decide)
        refine z_iconst F dX5_clearBoard_63 ?_
        refine z_istore_n F dX5_clearBoard_64 rfl (by decide) (ls' := [(3, ii 0), (0, .ref (ad 45)), (1, ii y6), (2, ii y7)]) rfl ?_
        refine z_loc [1, 2, 3, 0] (ls' := [(0, .ref (ad 45)), (1, ii y6), (2, ii y7), (3, ii 0)]) rfl ?_
        suffices key65 : ∀ (n : Nat) (y95 : Int) (M94 : Mem), Inv M94 → WFk M94 → Fr [45, 46] M M94 → 0 ≤ y95 → y95 ≤ 8 → 8 - y95 < (n : Int) → Z D cy ad p l e (RMh 4) s m args below meth c A 4 0 0 Q 65 [(0, .ref (ad 45)), (1, ii y6), (2, ii y7), (3, ii y95)] [] M94 from key65 9 0 M93 hI hW hF (by omega) (by omega) (by omega)
        intro n65
        induction n65 with
        | zero => intro y95 M94 hI hW hF ay95 by95 hn65; exfalso; omega
        | succ n65 ih65 =>
          intro y95 M94 hI hW hF ay95 by95 hn65
          refine z_iload_n F dX5_clearBoard_65 rfl (q := 3) rfl ?_
          refine z_aload_n F dX5_clearBoard_66 rfl (q := 0) rfl ?_
          refine rf_X5_21 F gs_45 rfl dX5_clearBoard_67 ?_
          refine gf_X5_37 F hI gs_2 rfl bd_2_3 dX5_clearBoard_70 (fun v96 ev96 av96 bv96 => ?_)
          refine z_icmp_ge (tgt := 128) F dX5_clearBoard_73 (by decide +kernel) (by omega) (by omega) (fun c97 => ?_) (fun c97 => ?_)
          · refine z_iload_n F dX5_clearBoard_128 rfl (q := 1) rfl ?_
            refine z_aload_n F dX5_clearBoard_129 rfl (q := 0) rfl ?_
            refine rf_X5_9 F gs_45 rfl dX5_clearBoard_130 ?_
            refine z_iload_n F dX5_clearBoard_133 rfl (q := 2) rfl ?_
            refine z_iald F hI gs_46 (by omega) (by omega) (by decide) bd_46 dX5_clearBoard_134 (fun v98 (ev98 : v98 = M94 46 _) av98 bv98 => ?_)
            refine z_if_eq (tgt := 142) F dX5_clearBoard_135 (by decide +kernel) (by omega) (fun c99 => ?_) (fun c99 => ?_)
            · refine z_iconst F dX5_clearBoard_142 ?_
              refine z_iand_r F dX5_clearBoard_143 (by omega) (by omega) (fun v100 ev100 av100 bv100 => ?_)
              refine z_istore_n F dX5_clearBoard_144 rfl (by decide) (ls' := [(1, ii v100), (0, .ref (ad 45)), (2, ii y7), (3, ii y95)]) rfl ?_
              refine z_aload_n F dX5_clearBoard_145 rfl (q := 1) rfl ?_
              refine rf_X5_21 F gs_45 rfl dX5_clearBoard_146 ?_
              refine z_iload_n F dX5_clearBoard_149 rfl (q := 2) rfl ?_
              refine zv_i (rest := []) F (k_X9_isFixed_2 l M94 ⟨hI, hW⟩ y7 (by omega) (by omega)) cs_X5_70 (T := TX9) (N := 18) (ci := 9) rfl gs_2 (by decide) (by decide) rfl rfl rfl (Nat.le_of_ble_eq_true rfl) dX5_clearBoard_150 (fun v101 M102 rv101 hI p103 => ?_)
              obtain ⟨hI, hW⟩ := hI
              obtain ⟨⟨av101, bv101⟩, rfl⟩ := p103
              refine z_if_ne (tgt := 164) F dX5_clearBoard_153 (by decide +kernel) (by omega) (fun c104 => ?_) (fun c104 => ?_)
              · refine z_aload_n F dX5_clearBoard_164 rfl (q := 1) rfl ?_
                refine z_iload_n F dX5_clearBoard_165 rfl (q := 2) rfl ?_
                refine pf_X5_67 F hI gs_45 rfl bd_45_4 rfl rfl dX5_clearBoard_166 (by omega) (by omega) (fun M106 hI sf105 f105 => ?_)
                have hF := hF.wr f105 (by decide) (by decide)
                have hW : WFk M106 := hW.site f105 (by decide)
                refine z_goto (tgt := 184) F dX5_clearBoard_169 (by decide +kernel) ?_
                refine z_iincN F dX5_clearBoard_184 (q := 2) rfl (by decide) (fun v107 ev107 => ?_)
                refine z_eq (ls' := [(2, ii v107), (1, ii v100), (0, .ref (ad 45)), (3, ii y95)]) rfl rfl rfl ?_
                refine z_goto (tgt := 14) F dX5_clearBoard_187 (by decide +kernel) ?_
                refine z_loc [2, 1, 0] (ls' := [(0, .ref (ad 45)), (1, ii v100), (2, ii v107)]) rfl ?_
                exact ih14 v100 v107 M106 hI hW hF (by omega) (by omega) (by omega) (by omega) (by omega)
              · refine z_aload_n F dX5_clearBoard_156 rfl (q := 1) rfl ?_
                refine z_iload_n F dX5_clearBoard_157 rfl (q := 2) rfl ?_
                refine zv_i (rest := []) F (k_X5_mayClashSomewhere_45 l M94 ⟨hI, hW⟩ y7 (by omega) (by omega)) cs_X5_87 (T := TX5) (N := 9) (ci := 5) rfl gs_45 (by decide) (by decide) rfl rfl rfl (Nat.le_of_ble_eq_true rfl) dX5_clearBoard_158 (fun v108 M109 rv108 hI p110 => ?_)
                obtain ⟨hI, hW⟩ := hI
                obtain ⟨⟨av108, bv108⟩, rfl⟩ := p110
                refine z_if_eq (tgt := 172) F dX5_clearBoard_161 (by decide +kernel) (by omega) (fun c111 => ?_) (fun c111 => ?_)
                · refine z_aload_n F dX5_clearBoard_172 rfl (q := 1) rfl ?_
                  refine z_dup F dX5_clearBoard_173 rfl ?_
                  refine gf_X5_64 F hI gs_45 rfl bd_45_3 dX5_clearBoard_174 (fun v112 ev112 av112 bv112 => ?_)
                  refine z_iconst F dX5_clearBoard_177 ?_
                  refine z_iload_n F dX5_clearBoard_178 rfl (q := 2) rfl ?_
                  refine z_shl1 (k := 7) F dX5_clearBoard_179 (by decide) (by omega) (by omega) (fun v113 ev113 av113 bv113 => ?_)
                  refine z_ior0 F dX5_clearBoard_180 (fun v114 ev114 rv114 => ?_)
                  refine pf_X5_64 F hI gs_45 rfl bd_45_3 rfl rfl dX5_clearBoard_181 (by omega) (by omega) (fun M116 hI sf115 f115 => ?_)
                  have hF := hF.wr f115 (by decide) (by decide)
                  have hW : WFk M116 := hW.site f115 (by decide)
                  refine z_iincN F dX5_clearBoard_184 (q := 2) rfl (by decide) (fun v117 ev117 => ?_)
                  refine z_eq (ls' := [(2, ii v117), (1, ii v100), (0, .ref (ad 45)), (3, ii y95)]) rfl rfl rfl ?_
                  refine z_goto (tgt := 14) F dX5_clearBoard_187 (by decide +kernel) ?_
                  refine z_loc [2, 1, 0] (ls' := [(0, .ref (ad 45)), (1, ii v100), (2, ii v117)]) rfl ?_
                  exact ih14 v100 v117 M116 hI hW hF (by omega) (by omega) (by omega) (by omega) (by omega)
                · refine z_aload_n F dX5_clearBoard_164 rfl (q := 1) rfl ?_
                  refine z_iload_n F dX5_clearBoard_165 rfl (q := 2) rfl ?_
                  refine pf_X5_67 F hI gs_45 rfl bd_45_4 rfl rfl dX5_clearBoard_166 (by omega) (by omega) (fun M119 hI sf118 f118 => ?_)
                  have hF := hF.wr f118 (by decide) (by decide)
                  have hW : WFk M119 := hW.site f118 (by decide)
                  refine z_goto (tgt := 184) F dX5_clearBoard_169 (by decide +kernel) ?_
                  refine z_iincN F dX5_clearBoard_184 (q := 2) rfl (by decide) (fun v120 ev120 => ?_)
                  refine z_eq (ls' := [(2, ii v120), (1, ii v100), (0, .ref (ad 45)), (3, ii y95)]) rfl rfl rfl ?_
                  refine z_goto (tgt := 14) F dX5_clearBoard_187 (by decide +kernel) ?_
                  refine z_loc [2, 1, 0] (ls' := [(0, .ref (ad 45)), (1, ii v100), (2, ii v120)]) rfl ?_
                  exact ih14 v100 v120 M119 hI hW hF (by omega) (by omega) (by omega) (by omega) (by omega)
            · refine z_iconst F dX5_clearBoard_138 ?_
              refine z_goto (tgt := 143) F dX5_clearBoard_139 (by decide +kernel) ?_
              refine z_iand_r F dX5_clearBoard_143 (by omega) (by omega) (fun v121 ev121 av121 bv121 => ?_)
              refine z_istore_n F dX5_clearBoard_144 rfl (by decide) (ls' := [(1, ii v121), (0, .ref (ad 45)), (2, ii y7), (3, ii y95)]) rfl ?_
              refine z_aload_n F dX5_clearBoard_145 rfl (q := 1) rfl ?_
              refine rf_X5_21 F gs_45 rfl dX5_clearBoard_146 ?_
              refine z_iload_n F dX5_clearBoard_149 rfl (q := 2) rfl ?_
              refine zv_i (rest := []) F (k_X9_isFixed_2 l M94 ⟨hI, hW⟩ y7 (by omega) (by omega)) cs_X5_70 (T := TX9) (N := 18) (ci := 9) rfl gs_2 (by decide) (by decide) rfl rfl rfl (Nat.le_of_ble_eq_true rfl) dX5_clearBoard_150 (fun v122 M123 rv122 hI p124 => ?_)
              obtain ⟨hI, hW⟩ := hI
              obtain ⟨⟨av122, bv122⟩, rfl⟩ := p124
              refine z_if_ne (tgt := 164) F dX5_clearBoard_153 (by decide +kernel) (by omega) (fun c125 => ?_) (fun c125 => ?_)
              · refine z_aload_n F dX5_clearBoard_164 rfl (q := 1) rfl ?_
                refine z_iload_n F dX5_clearBoard_165 rfl (q := 2) rfl ?_
                refine pf_X5_67 F hI gs_45 rfl bd_45_4 rfl rfl dX5_clearBoard_166 (by omega) (by omega) (fun M127 hI sf126 f126 => ?_)
                have hF := hF.wr f126 (by decide) (by decide)
                have hW : WFk M127 := hW.site f126 (by decide)
                refine z_goto (tgt := 184) F dX5_clearBoard_169 (by decide +kernel) ?_
                refine z_iincN F dX5_clearBoard_184 (q := 2) rfl (by decide) (fun v128 ev128 => ?_)
                refine z_eq (ls' := [(2, ii v128), (1, ii v121), (0, .ref (ad 45)), (3, ii y95)]) rfl rfl rfl ?_
                refine z_goto (tgt := 14) F dX5_clearBoard_187 (by decide +kernel) ?_
                refine z_loc [2, 1, 0] (ls' := [(0, .ref (ad 45)), (1, ii v121), (2, ii v128)]) rfl ?_
                exact ih14 v121 v128 M127 hI hW hF (by omega) (by omega) (by omega) (by omega) (by omega)
              · refine z_aload_n F dX5_clearBoard_156 rfl (q := 1) rfl ?_
                refine z_iload_n F dX5_clearBoard_157 rfl (q := 2) rfl ?_
                refine zv_i (rest := []) F (k_X5_mayClashSomewhere_45 l M94 ⟨hI, hW⟩ y7 (by omega) (by omega)) cs_X5_87 (T := TX5) (N := 9) (ci := 5) rfl gs_45 (by decide) (by decide) rfl rfl rfl (Nat.le_of_ble_eq_true rfl) dX5_clearBoard_158 (fun v129 M130 rv129 hI p131 => ?_)
                obtain ⟨hI, hW⟩ := hI
                obtain ⟨⟨av129, bv129⟩, rfl⟩ := p131
                refine z_if_eq (tgt := 172) F dX5_clearBoard_161 (by decide +kernel) (by omega) (fun c132 => ?_) (fun c132 => ?_)
                · refine z_aload_n F dX5_clearBoard_172 rfl (q := 1) rfl ?_
                  refine z_dup F dX5_clearBoard_173 rfl ?_
                  refine gf_X5_64 F hI gs_45 rfl bd_45_3 dX5_clearBoard_174 (fun v133 ev133 av133 bv133 => ?_)
                  refine z_iconst F dX5_clearBoard_177 ?_
                  refine z_iload_n F dX5_clearBoard_178 rfl (q := 2) rfl ?_
                  refine z_shl1 (k := 7) F dX5_clearBoard_179 (by decide) (by omega) (by omega) (fun v134 ev134 av134 bv134 => ?_)
                  refine z_ior0 F dX5_clearBoard_180 (fun v135 ev135 rv135 => ?_)
                  refine pf_X5_64 F hI gs_45 rfl bd_45_3 rfl rfl dX5_clearBoard_181 (by omega) (by omega) (fun M137 hI sf136 f136 => ?_)
                  have hF := hF.wr f136 (by decide) (by decide)
                  have hW : WFk M137 := hW.site f136 (by decide)
                  refine z_iincN F dX5_clearBoard_184 (q := 2) rfl (by decide) (fun v138 ev138 => ?_)
                  refine z_eq (ls' := [(2, ii v138), (1, ii v121), (0, .ref (ad 45)), (3, ii y95)]) rfl rfl rfl ?_
                  refine z_goto (tgt := 14) F dX5_clearBoard_187 (by decide +kernel) ?_
                  refine z_loc [2, 1, 0] (ls' := [(0, .ref (ad 45)), (1, ii v121), (2, ii v138)]) rfl ?_
                  exact ih14 v121 v138 M137 hI hW hF (by omega) (by omega) (by omega) (by omega) (by omega)
                · refine z_aload_n F dX5_clearBoard_164 rfl (q := 1) rfl ?_
                  refine z_iload_n F dX5_clearBoard_165 rfl (q := 2) rfl ?_
                  refine pf_X5_67 F hI gs_45 rfl bd_45_4 rfl rfl dX5_clearBoard_166 (by omega) (by omega) (fun M140 hI sf139 f139 => ?_)
                  have hF := hF.wr f139 (by decide) (by decide)
                  have hW : WFk M140 := hW.site f139 (by decide)
                  refine z_goto (tgt := 184) F dX5_clearBoard_169 (by decide +kernel) ?_
                  refine z_iincN F dX5_clearBoard_184 (q := 2) rfl (by decide) (fun v141 ev141 => ?_)
                  refine z_eq (ls' := [(2, ii v141), (1, ii v121), (0, .ref (ad 45)), (3, ii y95)]) rfl rfl rfl ?_
                  refine z_goto (tgt := 14) F dX5_clearBoard_187 (by decide +kernel) ?_
                  refine z_loc [2, 1, 0] (ls' := [(0, .ref (ad 45)), (1, ii v121), (2, ii v141)]) rfl ?_
                  exact ih14 v121 v141 M140 hI hW hF (by omega) (by omega) (by omega) (by omega) (by omega)
          · refine z_aload_n F dX5_clearBoard_76 rfl (q := 0) rfl ?_
            refine rf_X5_9 F gs_45 rfl dX5_clearBoard_77 ?_
            refine z_iload_n F dX5_clearBoard_80 rfl (q := 2) rfl ?_
            refine z_dup2 F dX5_clearBoard_81 rfl rfl ?_
            refine z_iald F hI gs_46 (by omega) (by omega) (by decide) bd_46 dX5_clearBoard_82 (fun v142 (ev142 : v142 = M94 46 _) av142 bv142 => ?_)
            refine z_iload_n F dX5_clearBoard_83 rfl (q := 3) rfl ?_
            refine z_iload_n F dX5_clearBoard_84 rfl (q := 2) rfl ?_
            refine z_icmp_eq (tgt := 119) F dX5_clearBoard_85 (by decide +kernel) (by omega) (by omega) (fun c143 => ?_) (fun c143 => ?_)
            · refine z_iconst F dX5_clearBoard_119 ?_
              refine z_iand0 F dX5_clearBoard_120 (fun v144 ev144 rv144 => ?_)
              refine z_iast F hI gs_46 (by omega) (by omega) (by decide) bd_46 dX5_clearBoard_121 (by omega) (by omega) (fun M146 hI sf145 f145 => ?_)
              have hF := hF.wr f145 (by decide) (by decide)
              have hW : WFk M146 := hW.site f145 (by decide)
              refine z_iincN F dX5_clearBoard_122 (q := 3) rfl (by decide) (fun v147 ev147 => ?_)
              refine z_eq (ls' := [(3, ii v147), (0, .ref (ad 45)), (1, ii y6), (2, ii y7)]) rfl rfl rfl ?_
              refine z_goto (tgt := 65) F dX5_clearBoard_125 (by decide +kernel) ?_
              refine z_loc [1, 2, 3, 0] (ls' := [(0, .ref (ad 45)), (1, ii y6), (2, ii y7), (3, ii v147)]) rfl ?_
              exact ih65 v147 M146 hI hW hF (by omega) (by omega) (by omega)
            · refine z_aload_n F dX5_clearBoard_88 rfl (q := 0) rfl ?_
              refine rf_X5_21 F gs_45 rfl dX5_clearBoard_89 ?_
              refine z_iload_n F dX5_clearBoard_92 rfl (q := 3) rfl ?_
              refine zv_i (rest := [ii v142, ii y7, .ref (ad 46)]) F (k_X9_isFixed_2 l M94 ⟨hI, hW⟩ y95 (by omega) (by omega)) cs_X5_70 (T := TX9) (N := 18) (ci := 9) rfl gs_2 (by decide) (by decide) rfl rfl rfl (Nat.le_of_ble_eq_true rfl) dX5_clearBoard_93 (fun v148 M149 rv148 hI p150 => ?_)
              obtain ⟨hI, hW⟩ := hI
              obtain ⟨⟨av148, bv148⟩, rfl⟩ := p150
              refine z_if_eq (tgt := 119) F dX5_clearBoard_96 (by decide +kernel) (by omega) (fun c151 => ?_) (fun c151 => ?_)
              · refine z_iconst F dX5_clearBoard_119 ?_
                refine z_iand0 F dX5_clearBoard_120 (fun v152 ev152 rv152 => ?_)
                refine z_iast F hI gs_46 (by omega) (by omega) (by decide) bd_46 dX5_clearBoard_121 (by omega) (by omega) (fun M154 hI sf153 f153 => ?_)
                have hF := hF.wr f153 (by decide) (by decide)
                have hW : WFk M154 := hW.site f153 (by decide)
                refine z_iincN F dX5_clearBoard_122 (q := 3) rfl (by decide) (fun v155 ev155 => ?_)
                refine z_eq (ls' := [(3, ii v155), (0, .ref (ad 45)), (1, ii y6), (2, ii y7)]) rfl rfl rfl ?_
                refine z_goto (tgt := 65) F dX5_clearBoard_125 (by decide +kernel) ?_
                refine z_loc [1, 2, 3, 0] (ls' := [(0, .ref (ad 45)), (1, ii y6), (2, ii y7), (3, ii v155)]) rfl ?_
                exact ih65 v155 M154 hI hW hF (by omega) (by omega) (by omega)
              · refine z_aload_n F dX5_clearBoard_99 rfl (q := 0) rfl ?_
                refine z_iload_n F dX5_clearBoard_100 rfl (q := 3) rfl ?_
                refine z_aload_n F dX5_clearBoard_101 rfl (q := 0) rfl ?_
                refine rf_X5_25 F gs_45 rfl dX5_clearBoard_102 ?_
                refine rf_X5_74 F gs_35 rfl dX5_clearBoard_105 ?_
                refine z_iload_n F dX5_clearBoard_108 rfl (q := 3) rfl ?_
                refine z_iald F hI gs_36 (by omega) (by omega) (by decide) bd_36 dX5_clearBoard_109 (fun v156 (ev156 : v156 = M94 36 _) av156 bv156 => ?_)
                refine z_iload_n F dX5_clearBoard_110 rfl (q := 2) rfl ?_
                refine zv_i (rest := [ii v142, ii y7, .ref (ad 46)]) F (k_X5_barredBy_45 l M94 ⟨hI, hW⟩ y95 (by omega) (by omega) v156 (by omega) (by omega) y7 (by omega) (by omega)) cs_X5_83 (T := TX5) (N := 9) (ci := 5) rfl gs_45 (by decide) (by decide) rfl rfl rfl (Nat.le_of_ble_eq_true rfl) dX5_clearBoard_111 (fun v157 M158 rv157 hI p159 => ?_)
                obtain ⟨hI, hW⟩ := hI
                obtain ⟨⟨av157, bv157⟩, rfl⟩ := p159
                refine z_iconst F dX5_clearBoard_114 ?_
                refine z_ixor0 F dX5_clearBoard_115 (fun v160 ev160 rv160 => ?_)
                refine z_goto (tgt := 120) F dX5_clearBoard_116 (by decide +kernel) ?_
                refine z_iand0 F dX5_clearBoard_120 (fun v161 ev161 rv161 => ?_)
                refine z_iast F hI gs_46 (by omega) (by omega) (by decide) bd_46 dX5_clearBoard_121 (by omega) (by omega) (fun M163 hI sf162 f162 => ?_)
                have hF := hF.wr f162 (by decide) (by decide)
                have hW : WFk M163 := hW.site f162 (by decide)
                refine z_iincN F dX5_clearBoard_122 (q := 3) rfl (by decide) (fun v164 ev164 => ?_)
                refine z_eq (ls' := [(3, ii v164), (0, .ref (ad 45)), (1, ii y6), (2, ii y7)]) rfl rfl rfl ?_
                refine z_goto (tgt := 65) F dX5_clearBoard_125 (by decide +kernel) ?_
                refine z_loc [1, 2, 3, 0] (ls' := [(0, .ref (ad 45)), (1, ii y6), (2, ii y7), (3, ii v164)]) rfl ?_
                exact ih65 v164 M163 hI hW hF (by omega) (by omega) (by omega)
set_option maxRecDepth 4000 in
theorem k_J6_bitCount_0f7a4 (l : Launch) (M : Mem) (hJ : Iw M) (x0 : Int) (hx0a : (-2147483648) ≤ x0) (hx0b : x0 ≤ 2147483647) : CI l yJ6_bitCount_0f7a4 cJ6_bitCount_0f7a4 1 (some .int) 1 (fun ad => [ii x0]) M (fun z M' => (0 ≤ z ∧ z ≤ 63) ∧ M = M') := by
  obtain ⟨hI, hW⟩ := hJ
  refine en_i (by decide +kernel) (fun ad => by exact Nat.le_of_ble_eq_true rfl) (fun D cy ad A p e s m args below meth c Q F hret => ?_)
  refine z_eq (ls' := [(0, ii x0)]) rfl rfl rfl ?_
  refine z_iload_n F dJ6_bitCount_0f7a4_0 rfl (q := 0) rfl ?_
  refine z_iload_n F dJ6_bitCount_0f7a4_1 rfl (q := 0) rfl ?_
  refine z_iconst F dJ6_bitCount_0f7a4_2 ?_
  refine z_iushr_k (k := 1) F dJ6_bitCount_0f7a4_3 (by decide) (by decide +kernel) (fun v1 av1 bv1 => ?_)
  refine z_ldcw (x := 1431655765) F dJ6_bitCount_0f7a4_4 (gin lm_386 rfl) (by decide +kernel) ?_
  refine z_iand_r F dJ6_bitCount_0f7a4_7 (by omega) (by omega) (fun v2 ev2 av2 bv2 => ?_)
  refine z_isub F dJ6_bitCount_0f7a4_8 ?_
  refine z_wrap (fun v3 rv3 wv3 => ?_)
  refine z_istore_n F dJ6_bitCount_0f7a4_9 rfl (by decide) (ls' := [(0, ii v3)]) rfl ?_
  refine z_iload_n F dJ6_bitCount_0f7a4_10 rfl (q := 0) rfl ?_
  refine z_ldcw (x := 858993459) F dJ6_bitCount_0f7a4_11 (gin lm_387 rfl) (by decide +kernel) ?_
  refine z_iand_r F dJ6_bitCount_0f7a4_14 (by omega) (by omega) (fun v4 ev4 av4 bv4 => ?_)
  refine z_iload_n F dJ6_bitCount_0f7a4_15 rfl (q := 0) rfl ?_
  refine z_iconst F dJ6_bitCount_0f7a4_16 ?_
  refine z_iushr_k (k := 2) F dJ6_bitCount_0f7a4_17 (by decide) (by decide +kernel) (fun v5 av5 bv5 => ?_)
  refine z_ldcw (x := 858993459) F dJ6_bitCount_0f7a4_18 (gin lm_387 rfl) (by decide +kernel) ?_
  refine z_iand_r F dJ6_bitCount_0f7a4_21 (by omega) (by omega) (fun v6 ev6 av6 bv6 => ?_)
  refine z_iadd F dJ6_bitCount_0f7a4_22 ?_
  refine z_nm (fun v7 ev7 => ?_)
  refine z_istore_n F dJ6_bitCount_0f7a4_23 rfl (by decide) (ls' := [(0, ii v7)]) rfl ?_
  refine z_iload_n F dJ6_bitCount_0f7a4_24 rfl (q := 0) rfl ?_
  refine z_iload_n F dJ6_bitCount_0f7a4_25 rfl (q := 0) rfl ?_
  refine z_iconst F dJ6_bitCount_0f7a4_26 ?_
  refine z_iushr_d (k := 4) (q := 16) F dJ6_bitCount_0f7a4_27 (by omega) (by omega) (by decide) (by decide +kernel) (fun v8 ev8 => ?_)
  refine z_iadd F dJ6_bitCount_0f7a4_28 ?_
  refine z_ldcw (x := 252645135) F dJ6_bitCount_0f7a4_29 (gin lm_388 rfl) (by decide +kernel) ?_
  refine z_iand_r F dJ6_bitCount_0f7a4_32 (by omega) (by omega) (fun v9 ev9 av9 bv9 => ?_)
  refine z_istore_n F dJ6_bitCount_0f7a4_33 rfl (by decide) (ls' := [(0, ii v9)]) rfl ?_
  refine z_iload_n F dJ6_bitCount_0f7a4_34 rfl (q := 0) rfl ?_
  refine z_iload_n F dJ6_bitCount_0f7a4_35 rfl (q := 0) rfl ?_
  refine z_bipush F dJ6_bitCount_0f7a4_36 (by decide +kernel) ?_
  refine z_iushr_d (k := 8) (q := 256) F dJ6_bitCount_0f7a4_38 (by omega) (by omega) (by decide) (by decide +kernel) (fun v10 ev10 => ?_)
  refine z_iadd F dJ6_bitCount_0f7a4_39 ?_
  refine z_nm (fun v11 ev11 => ?_)
  refine z_istore_n F dJ6_bitCount_0f7a4_40 rfl (by decide) (ls' := [(0, ii v11)]) rfl ?_
  refine z_iload_n F dJ6_bitCount_0f7a4_41 rfl (q := 0) rfl ?_
  refine z_iload_n F dJ6_bitCount_0f7a4_42 rfl (q := 0) rfl ?_
  refine z_bipush F dJ6_bitCount_0f7a4_43 (by decide +kernel) ?_
  refine z_iushr_d (k := 16) (q := 65536) F dJ6_bitCount_0f7a4_45 (by omega) (by omega) (by decide) (by decide +kernel) (fun v12 ev12 => ?_)
  refine z_iadd F dJ6_bitCount_0f7a4_46 ?_
  refine z_nm (fun v13 ev13 => ?_)
  refine z_istore_n F dJ6_bitCount_0f7a4_47 rfl (by decide) (ls' := [(0, ii v13)]) rfl ?_
  refine z_iload_n F dJ6_bitCount_0f7a4_48 rfl (q := 0) rfl ?_
  refine z_bipush F dJ6_bitCount_0f7a4_49 (by decide +kernel) ?_
  refine z_iand_r F dJ6_bitCount_0f7a4_51 (by omega) (by omega) (fun v14 ev14 av14 bv14 => ?_)
  exact hret _ _ 52 _ (by omega) ⟨hI, hW⟩ ⟨⟨by omega, by omega⟩, rfl⟩ dJ6_bitCount_0f7a4_52
set_option maxRecDepth 4000 in
theorem k_X5_quietPlaces_45 (l : Launch) (M : Mem) (hJ : Iw M) (x0 : Int) (hx0a : 0 ≤ x0) (hx0b : x0 ≤ 7) : CI l yX5_quietPlaces cX5_quietPlaces 5 (some .int) 3 (fun ad => [.ref (ad 45), ii x0]) M (fun z M' => ((-2147483648) ≤ z ∧ z ≤ 2147483647) ∧ M = M') := by
  obtain ⟨hI, hW⟩ := hJ
  refine en_i (by decide +kernel) (fun ad => by exact Nat.le_of_ble_eq_true rfl) (fun D cy ad A p e s m args below meth c Q F hret => ?_)
  refine z_eq (ls' := [(0, .ref (ad 45)), (1, ii x0)]) rfl rfl rfl ?_
  refine z_iconst F dX5_quietPlaces_0 ?_
  refine z_istore_n F dX5_quietPlaces_1 rfl (by decide) (ls' := [(2, ii (-1)), (0, .ref (ad 45)), (1, ii x0)]) rfl ?_
  refine z_iload_n F dX5_quietPlaces_2 rfl (q := 2) rfl ?_
  refine z_istore_n F dX5_quietPlaces_3 rfl (by decide) (ls' := [(3, ii x0), (2, ii (-1)), (0, .ref (ad 45)), (1, ii x0)]) rfl ?_
  refine z_loc [2, 3, 1, 0] (ls' := [(0, .ref (ad 45)), (1, ii x0), (2, ii (-1)), (3, ii x0)]) rfl ?_
  suffices key4 : ∀ (n : Nat) (y2 : Int) (y3 : Int), (-2147483648) ≤ y2 → y2 ≤ 2147483647 → 0 ≤ y3 → y3 ≤ 8 → 8 - y3 < (n : Int) → Z D cy ad p l e (RMh 3) s m args below meth c A 5 0 0 Q 4 [(0, .ref (ad 45)), (1, ii x0), (2, ii y2), (3, ii y3)] [] M from key4 9 (-1) x0 (by omega) (by omega) (by omega) (by omega) (by omega)
  intro n4
  induction n4 with
  | zero => intro y2 y3 ay2 by2 ay3 by3 hn4; exfalso; omega
  | succ n4 ih4 =>
    intro y2 y3 ay2 by2 ay3 by3 hn4
    refine z_iload_n F dX5_quietPlaces_4 rfl (q := 3) rfl ?_
    refine z_aload_n F dX5_quietPlaces_5 rfl (q := 0) rfl ?_
    refine rf_X5_21 F gs_45 rfl dX5_quietPlaces_6 ?_
    refine gf_X5_37 F hI gs_2 rfl bd_2_3 dX5_quietPlaces_9 (fun v4 ev4 av4 bv4 => ?_)
    refine z_icmp_ge (tgt := 76) F dX5_quietPlaces_12 (by decide +kernel) (by omega) (by omega) (fun c5 => ?_) (fun c5 => ?_)
    · refine z_iload_n F dX5_quietPlaces_76 rfl (q := 2) rfl ?_
      refine z_iconst F dX5_quietPlaces_77 ?_
      refine z_icmp_eq (tgt := 92) F dX5_quietPlaces_78 (by decide +kernel) (by omega) (by omega) (fun c6 => ?_) (fun c6 => ?_)
      · refine z_iconst F dX5_quietPlaces_92 ?_
        refine z_goto (tgt := 97) F dX5_quietPlaces_93 (by decide +kernel) ?_
        exact hret _ _ 97 _ (by omega) ⟨hI, hW⟩ ⟨⟨by omega, by omega⟩, rfl⟩ dX5_quietPlaces_97
      · refine z_aload_n F dX5_quietPlaces_81 rfl (q := 0) rfl ?_
        refine rf_X5_21 F gs_45 rfl dX5_quietPlaces_82 ?_
        refine z_iload_n F dX5_quietPlaces_85 rfl (q := 2) rfl ?_
        refine zv_i (rest := []) F (k_X9_touchesWithin_2 l M ⟨hI, hW⟩ y2 (by omega) (by omega)) cs_X5_125 (T := TX9) (N := 18) (ci := 9) rfl gs_2 (by decide) (by decide) rfl rfl rfl (Nat.le_of_ble_eq_true rfl) dX5_quietPlaces_86 (fun v7 M8 rv7 hI p9 => ?_)
        obtain ⟨hI, hW⟩ := hI
        obtain ⟨⟨av7, bv7⟩, rfl⟩ := p9
        refine z_if_eq (tgt := 96) F dX5_quietPlaces_89 (by decide +kernel) (by omega) (fun c10 => ?_) (fun c10 => ?_)
        · refine z_iload_n F dX5_quietPlaces_96 rfl (q := 2) rfl ?_
          exact hret _ _ 97 _ (by omega) ⟨hI, hW⟩ ⟨⟨by omega, by omega⟩, rfl⟩ dX5_quietPlaces_97
        · refine z_iconst F dX5_quietPlaces_92 ?_
          refine z_goto (tgt := 97) F dX5_quietPlaces_93 (by decide +kernel) ?_
          exact hret _ _ 97 _ (by omega) ⟨hI, hW⟩ ⟨⟨by omega, by omega⟩, rfl⟩ dX5_quietPlaces_97
    · refine z_aload_n F dX5_quietPlaces_15 rfl (q := 0) rfl ?_
      refine rf_X5_9 F gs_45 rfl dX5_quietPlaces_16 ?_
      refine z_iload_n F dX5_quietPlaces_19 rfl (q := 1) rfl ?_
      refine z_bipush F dX5_quietPlaces_20 (by decide +kernel) ?_
      refine z_imul F dX5_quietPlaces_22 ?_
      refine z_iload_n F dX5_quietPlaces_23 rfl (q := 3) rfl ?_
      refine z_iadd F dX5_quietPlaces_24 ?_
      refine z_iald F hI gs_46 (by omega) (by omega) (by decide) bd_46 dX5_quietPlaces_25 (fun v11 (ev11 : v11 = M 46 _) av11 bv11 => ?_)
      refine z_istore F dX5_quietPlaces_26 (by decide) (ls' := [(4, ii v11), (0, .ref (ad 45)), (1, ii x0), (2, ii y2), (3, ii y3)]) rfl ?_
      refine z_aload_n F dX5_quietPlaces_28 rfl (q := 1) rfl ?_
      refine gf_X5_64 F hI gs_45 rfl bd_45_3 dX5_quietPlaces_29 (fun v12 ev12 av12 bv12 => ?_)
      refine z_iload_n F dX5_quietPlaces_32 rfl (q := 4) rfl ?_
      refine zn_i (rest := []) F (k_X11_isIn l M ⟨hI, hW⟩ v12 (by omega) (by omega) y3 (by omega) (by omega)) cs_X5_46 (by decide) (by decide) rfl rfl rfl (Nat.le_of_ble_eq_true rfl) dX5_quietPlaces_33 (fun v13 M14 rv13 hI p15 => ?_)
      obtain ⟨hI, hW⟩ := hI
      obtain ⟨⟨av13, bv13⟩, rfl, xp15⟩ := p15
      have hbqy3 := xp15
      refine z_if_ne (tgt := 52) F dX5_quietPlaces_36 (by decide +kernel) (by omega) (fun c16 => ?_) (fun c16 => ?_)
      · refine z_aload_n F dX5_quietPlaces_52 rfl (q := 1) rfl ?_
        refine gf_X5_64 F hI gs_45 rfl bd_45_3 dX5_quietPlaces_53 (fun v17 ev17 av17 bv17 => ?_)
        have zv17 : v12 = v17 := ev12.trans ev17.symm
        subst zv17
        refine z_iload_n F dX5_quietPlaces_56 rfl (q := 4) rfl ?_
        refine zn_i (rest := []) F (k_X11_isIn l M ⟨hI, hW⟩ v12 (by omega) (by omega) y3 (by omega) (by omega)) cs_X5_46 (by decide) (by decide) rfl rfl rfl (Nat.le_of_ble_eq_true rfl) dX5_quietPlaces_57 (fun v18 M19 rv18 hI p20 => ?_)
        obtain ⟨hI, hW⟩ := hI
        obtain ⟨⟨av18, bv18⟩, rfl, xp20⟩ := p20
        have hbqy3 := xp20
        refine z_if_eq (tgt := 67) F dX5_quietPlaces_60 (by decide +kernel) (by omega) (fun c21 => ?_) (fun c21 => ?_)
        · refine z_iload F dX5_quietPlaces_67 (q := 0) rfl ?_
          refine z_istore_n F dX5_quietPlaces_69 rfl (by decide) (ls' := [(2, ii v11), (4, ii v11), (0, .ref (ad 45)), (1, ii x0), (3, ii y3)]) rfl ?_
          refine z_iincN F dX5_quietPlaces_70 (q := 4) rfl (by decide) (fun v22 ev22 => ?_)
          refine z_eq (ls' := [(3, ii v22), (2, ii v11), (4, ii v11), (0, .ref (ad 45)), (1, ii x0)]) rfl rfl rfl ?_
          refine z_goto (tgt := 4) F dX5_quietPlaces_73 (by decide +kernel) ?_
          refine z_loc [3, 4, 1, 0] (ls' := [(0, .ref (ad 45)), (1, ii x0), (2, ii v11), (3, ii v22)]) rfl ?_
          exact ih4 v11 v22 (by omega) (by omega) (by omega) (by omega) (by omega)
        · refine z_iload_n F dX5_quietPlaces_63 rfl (q := 3) rfl ?_
          refine z_goto (tgt := 69) F dX5_quietPlaces_64 (by decide +kernel) ?_
          refine z_istore_n F dX5_quietPlaces_69 rfl (by decide) (ls' := [(2, ii y2), (4, ii v11), (0, .ref (ad 45)), (1, ii x0), (3, ii y3)]) rfl ?_
          refine z_iincN F dX5_quietPlaces_70 (q := 4) rfl (by decide) (fun v23 ev23 => ?_)
          refine z_eq (ls' := [(3, ii v23), (2, ii y2), (4, ii v11), (0, .ref (ad 45)), (1, ii x0)]) rfl rfl rfl ?_
          refine z_goto (tgt := 4) F dX5_quietPlaces_73 (by decide +kernel) ?_
          refine z_loc [3, 4, 1, 0] (ls' := [(0, .ref (ad 45)), (1, ii x0), (2, ii y2), (3, ii v23)]) rfl ?_
          exact ih4 y2 v23 (by omega) (by omega) (by omega) (by omega) (by omega)
      · refine z_iload_n F dX5_quietPlaces_39 rfl (q := 3) rfl ?_
        refine z_iconst F dX5_quietPlaces_40 ?_
        refine z_icmp_eq (tgt := 52) F dX5_quietPlaces_41 (by decide +kernel) (by omega) (by omega) (fun c24 => ?_) (fun c24 => ?_)
        · refine z_aload_n F dX5_quietPlaces_52 rfl (q := 1) rfl ?_
          refine gf_X5_64 F hI gs_45 rfl bd_45_3 dX5_quietPlaces_53 (fun v25 ev25 av25 bv25 => ?_)
          have zv25 : v12 = v25 := ev12.trans ev25.symm
          subst zv25
          refine z_iload_n F dX5_quietPlaces_56 rfl (q := 4) rfl ?_
          refine zn_i (rest := []) F (k_X11_isIn l M ⟨hI, hW⟩ v12 (by omega) (by omega) y3 (by omega) (by omega)) cs_X5_46 (by decide) (by decide) rfl rfl rfl (Nat.le_of_ble_eq_true rfl) dX5_quietPlaces_57 (fun v26 M27 rv26 hI p28 => ?_)
          obtain ⟨hI, hW⟩ := hI
          obtain ⟨⟨av26, bv26⟩, rfl, xp28⟩ := p28
          have hbqy3 := xp28
          refine z_if_eq (tgt := 67) F dX5_quietPlaces_60 (by decide +kernel) (by omega) (fun c29 => ?_) (fun c29 => ?_)
          · refine z_iload F dX5_quietPlaces_67 (q := 0) rfl ?_
            refine z_istore_n F dX5_quietPlaces_69 rfl (by decide) (ls' := [(2, ii v11), (4, ii v11), (0, .ref (ad 45)), (1, ii x0), (3, ii y3)]) rfl ?_
            refine z_iincN F dX5_quietPlaces_70 (q := 4) rfl (by decide) (fun v30 ev30 => ?_)
            refine z_eq (ls' := [(3, ii v30), (2, ii v11), (4, ii v11), (0, .ref (ad 45)), (1, ii x0)]) rfl rfl rfl ?_
            refine z_goto (tgt := 4) F dX5_quietPlaces_73 (by decide +kernel) ?_
            refine z_loc [3, 4, 1, 0] (ls' := [(0, .ref (ad 45)), (1, ii x0), (2, ii v11), (3, ii v30)]) rfl ?_
            exact ih4 v11 v30 (by omega) (by omega) (by omega) (by omega) (by omega)
          · refine z_iload_n F dX5_quietPlaces_63 rfl (q := 3) rfl ?_
            refine z_goto (tgt := 69) F dX5_quietPlaces_64 (by decide +kernel) ?_
            refine z_istore_n F dX5_quietPlaces_69 rfl (by decide) (ls' := [(2, ii y2), (4, ii v11), (0, .ref (ad 45)), (1, ii x0), (3, ii y3)]) rfl ?_
            refine z_iincN F dX5_quietPlaces_70 (q := 4) rfl (by decide) (fun v31 ev31 => ?_)
            refine z_eq (ls' := [(3, ii v31), (2, ii y2), (4, ii v11), (0, .ref (ad 45)), (1, ii x0)]) rfl rfl rfl ?_
            refine z_goto (tgt := 4) F dX5_quietPlaces_73 (by decide +kernel) ?_
            refine z_loc [3, 4, 1, 0] (ls' := [(0, .ref (ad 45)), (1, ii x0), (2, ii y2), (3, ii v31)]) rfl ?_
            exact ih4 y2 v31 (by omega) (by omega) (by omega) (by omega) (by omega)
        · refine z_iload F dX5_quietPlaces_44 (q := 0) rfl ?_
          refine z_iload_n F dX5_quietPlaces_46 rfl (q := 3) rfl ?_
          refine z_icmp_eq (tgt := 52) F dX5_quietPlaces_47 (by decide +kernel) (by omega) (by omega) (fun c32 => ?_) (fun c32 => ?_)
          · refine z_aload_n F dX5_quietPlaces_52 rfl (q := 1) rfl ?_
            refine gf_X5_64 F hI gs_45 rfl bd_45_3 dX5_quietPlaces_53 (fun v33 ev33 av33 bv33 => ?_)
            have zv33 : v12 = v33 := ev12.trans ev33.symm
            subst zv33
            refine z_iload_n F dX5_quietPlaces_56 rfl (q := 4) rfl ?_
            refine zn_i (rest := []) F (k_X11_isIn l M ⟨hI, hW⟩ v12 (by omega) (by omega) y3 (by omega) (by omega)) cs_X5_46 (by decide) (by decide) rfl rfl rfl (Nat.le_of_ble_eq_true rfl) dX5_quietPlaces_57 (fun v34 M35 rv34 hI p36 => ?_)
            obtain ⟨hI, hW⟩ := hI
            obtain ⟨⟨av34, bv34⟩, rfl, xp36⟩ := p36
            have hbqy3 := xp36
            refine z_if_eq (tgt := 67) F dX5_quietPlaces_60 (by decide +kernel) (by omega) (fun c37 => ?_) (fun c37 => ?_)
            · refine z_iload F dX5_quietPlaces_67 (q := 0) rfl ?_
              refine z_istore_n F dX5_quietPlaces_69 rfl (by decide) (ls' := [(2, ii v11), (4, ii v11), (0, .ref (ad 45)), (1, ii x0), (3, ii y3)]) rfl ?_
              refine z_iincN F dX5_quietPlaces_70 (q := 4) rfl (by decide) (fun v38 ev38 => ?_)
              refine z_eq (ls' := [(3, ii v38), (2, ii v11), (4, ii v11), (0, .ref (ad 45)), (1, ii x0)]) rfl rfl rfl ?_
              refine z_goto (tgt := 4) F dX5_quietPlaces_73 (by decide +kernel) ?_
              refine z_loc [3, 4, 1, 0] (ls' := [(0, .ref (ad 45)), (1, ii x0), (2, ii v11), (3, ii v38)]) rfl ?_
              exact ih4 v11 v38 (by omega) (by omega) (by omega) (by omega) (by omega)
            · refine z_iload_n F dX5_quietPlaces_63 rfl (q := 3) rfl ?_
              refine z_goto (tgt := 69) F dX5_quietPlaces_64 (by decide +kernel) ?_
              refine z_istore_n F dX5_quietPlaces_69 rfl (by decide) (ls' := [(2, ii y2), (4, ii v11), (0, .ref (ad 45)), (1, ii x0), (3, ii y3)]) rfl ?_
              refine z_iincN F dX5_quietPlaces_70 (q := 4) rfl (by decide) (fun v39 ev39 => ?_)
              refine z_eq (ls' := [(3, ii v39), (2, ii y2), (4, ii v11), (0, .ref (ad 45)), (1, ii x0)]) rfl rfl rfl ?_
              refine z_goto (tgt := 4) F dX5_quietPlaces_73 (by decide +kernel) ?_
              refine z_loc [3, 4, 1, 0] (ls' := [(0, .ref (ad 45)), (1, ii x0), (2, ii y2), (3, ii v39)]) rfl ?_
              exact ih4 y2 v39 (by omega) (by omega) (by omega) (by omega) (by omega)
          · refine z_iconst F dX5_quietPlaces_50 ?_
            exact hret _ _ 51 _ (by omega) ⟨hI, hW⟩ ⟨⟨by omega, by omega⟩, rfl⟩ dX5_quietPlaces_51
set_option maxRecDepth 4000 in
theorem k_X5_lay_45 (l : Launch) (M : Mem) (hJ : Iw M) (x0 : Int) (hx0a : 0 ≤ x0) (hx0b : x0 ≤ 7) (x1 : Int) (hx1a : 0 ≤ x1) (hx1b : x1 ≤ 9) : CI l yX5_lay cX5_lay 5 (some .boolean) 4 (fun ad => [.ref (ad 45), ii x0, ii x1]) M (fun z M' => (0 ≤ z ∧ z ≤ 1) ∧ Fr [46, 47] M M') := by
  obtain ⟨hI, hW⟩ := hJ
  have hF : Fr [46, 47] M M := Fr.rf
  refine en_z (by decide +kernel) (fun ad => by exact Nat.le_of_ble_eq_true rfl) (fun D cy ad A p e s m args below meth c Q F hret => ?_)
  refine z_eq (ls' := [(0, .ref (ad 45)), (1, ii x0), (2, ii x1)]) rfl rfl rfl ?_
  refine z_aload_n F dX5_lay_0 rfl (q := 0) rfl ?_
  refine rf_X5_15 F gs_45 rfl dX5_lay_1 ?_
  refine z_iload_n F dX5_lay_4 rfl (q := 1) rfl ?_
  refine z_iload_n F dX5_lay_5 rfl (q := 2) rfl ?_
  refine z_iast F hI gs_47 (by omega) (by omega) (by decide) bd_47 dX5_lay_6 (by omega) (by omega) (fun M2 hI sf1 f1 => ?_)
  have hF := hF.wr f1 (by decide) (by decide)
  have hW : WFk M2 := hW.site f1 (by decide)
  refine z_iload_n F dX5_lay_7 rfl (q := 1) rfl ?_
  refine z_iconst F dX5_lay_8 ?_
  refine z_iadd F dX5_lay_9 ?_
  refine z_nm (fun v3 ev3 => ?_)
  refine z_istore_n F dX5_lay_10 rfl (by decide) (ls' := [(3, ii v3), (0, .ref (ad 45)), (1, ii x0), (2, ii x1)]) rfl ?_
  refine z_loc [1, 2, 3, 0] (ls' := [(0, .ref (ad 45)), (1, ii x0), (2, ii x1), (3, ii v3)]) rfl ?_
  suffices key11 : ∀ (n : Nat) (y5 : Int) (M4 : Mem), Inv M4 → WFk M4 → Fr [46, 47] M M4 → 1 ≤ y5 → y5 ≤ 8 → 8 - y5 < (n : Int) → Z D cy ad p l e (RMh 4) s m args below meth c A 5 0 0 Q 11 [(0, .ref (ad 45)), (1, ii x0), (2, ii x1), (3, ii y5)] [] M4 from key11 8 v3 M2 hI hW hF (by omega) (by omega) (by omega)
  intro n11
  induction n11 with
  | zero => intro y5 M4 hI hW hF ay5 by5 hn11; exfalso; omega
  | succ n11 ih11 =>
    intro y5 M4 hI hW hF ay5 by5 hn11
    refine z_iload_n F dX5_lay_11 rfl (q := 3) rfl ?_
    refine z_aload_n F dX5_lay_12 rfl (q := 0) rfl ?_
    refine rf_X5_21 F gs_45 rfl dX5_lay_13 ?_
    refine gf_X5_37 F hI gs_2 rfl bd_2_3 dX5_lay_16 (fun v6 ev6 av6 bv6 => ?_)
    refine z_icmp_ge (tgt := 73) F dX5_lay_19 (by decide +kernel) (by omega) (by omega) (fun c7 => ?_) (fun c7 => ?_)
    · refine z_iconst F dX5_lay_73 ?_
      exact hret _ _ 74 _ ⟨by omega, by omega⟩ ⟨hI, hW⟩ ⟨⟨by omega, by omega⟩, hF⟩ dX5_lay_74
    · refine z_aload_n F dX5_lay_22 rfl (q := 0) rfl ?_
      refine rf_X5_9 F gs_45 rfl dX5_lay_23 ?_
      refine z_iload_n F dX5_lay_26 rfl (q := 1) rfl ?_
      refine z_bipush F dX5_lay_27 (by decide +kernel) ?_
      refine z_imul F dX5_lay_29 ?_
      refine z_iload_n F dX5_lay_30 rfl (q := 3) rfl ?_
      refine z_iadd F dX5_lay_31 ?_
      refine z_iald F hI gs_46 (by omega) (by omega) (by decide) bd_46 dX5_lay_32 (fun v8 (ev8 : v8 = M4 46 _) av8 bv8 => ?_)
      refine z_aload_n F dX5_lay_33 rfl (q := 0) rfl ?_
      refine z_iload_n F dX5_lay_34 rfl (q := 1) rfl ?_
      refine z_iload_n F dX5_lay_35 rfl (q := 2) rfl ?_
      refine z_iload_n F dX5_lay_36 rfl (q := 3) rfl ?_
      refine zv_i (rest := [ii v8]) F (k_X5_barredBy_45 l M4 ⟨hI, hW⟩ x0 (by omega) (by omega) x1 (by omega) (by omega) y5 (by omega) (by omega)) cs_X5_83 (T := TX5) (N := 9) (ci := 5) rfl gs_45 (by decide) (by decide) rfl rfl rfl (Nat.le_of_ble_eq_true rfl) dX5_lay_37 (fun v9 M10 rv9 hI p11 => ?_)
      obtain ⟨hI, hW⟩ := hI
      obtain ⟨⟨av9, bv9⟩, rfl⟩ := p11
      refine z_iconst F dX5_lay_40 ?_
      refine z_ixor0 F dX5_lay_41 (fun v12 ev12 rv12 => ?_)
      refine z_iand0 F dX5_lay_42 (fun v13 ev13 rv13 => ?_)
      refine z_istore F dX5_lay_43 (by decide) (ls' := [(4, ii v13), (0, .ref (ad 45)), (1, ii x0), (2, ii x1), (3, ii y5)]) rfl ?_
      refine z_iload F dX5_lay_45 (q := 0) rfl ?_
      refine z_if_ne (tgt := 52) F dX5_lay_47 (by decide +kernel) (by omega) (fun c14 => ?_) (fun c14 => ?_)
      · refine z_aload_n F dX5_lay_52 rfl (q := 1) rfl ?_
        refine rf_X5_9 F gs_45 rfl dX5_lay_53 ?_
        refine z_iload_n F dX5_lay_56 rfl (q := 2) rfl ?_
        refine z_iconst F dX5_lay_57 ?_
        refine z_iadd F dX5_lay_58 ?_
        refine z_bipush F dX5_lay_59 (by decide +kernel) ?_
        refine z_imul F dX5_lay_61 ?_
        refine z_iload_n F dX5_lay_62 rfl (q := 4) rfl ?_
        refine z_iadd F dX5_lay_63 ?_
        refine z_iload F dX5_lay_64 (q := 0) rfl ?_
        refine z_iast F hI gs_46 (by omega) (by omega) (by decide) bd_46 dX5_lay_66 (by omega) (by omega) (fun M16 hI sf15 f15 => ?_)
        have hF := hF.wr f15 (by decide) (by decide)
        have hW : WFk M16 := hW.site f15 (by decide)
        refine z_iincN F dX5_lay_67 (q := 4) rfl (by decide) (fun v17 ev17 => ?_)
        refine z_eq (ls' := [(3, ii v17), (4, ii v13), (0, .ref (ad 45)), (1, ii x0), (2, ii x1)]) rfl rfl rfl ?_
        refine z_goto (tgt := 11) F dX5_lay_70 (by decide +kernel) ?_
        refine z_loc [2, 3, 4, 0] (ls' := [(0, .ref (ad 45)), (1, ii x0), (2, ii x1), (3, ii v17)]) rfl ?_
        exact ih11 v17 M16 hI hW hF (by omega) (by omega) (by omega)
      · refine z_iconst F dX5_lay_50 ?_
        exact hret _ _ 51 _ ⟨by omega, by omega⟩ ⟨hI, hW⟩ ⟨⟨by omega, by omega⟩, hF⟩ dX5_lay_51
set_option maxRecDepth 4000 in
theorem k_X5_skip_45 (l : Launch) (M : Mem) (hJ : Iw M) (x0 : Int) (hx0a : 0 ≤ x0) (hx0b : x0 ≤ 7) : CV l yX5_skip cX5_skip 3 none 1 (fun ad => [.ref (ad 45), ii x0]) M (fun M' => Fr [46] M M') := by
  obtain ⟨hI, hW⟩ := hJ
  have hF : Fr [46] M M := Fr.rf
  refine en_v (by decide +kernel) (fun ad => by exact Nat.le_of_ble_eq_true rfl) (fun D cy ad A p e s m args below meth c Q F hret => ?_)
  refine z_eq (ls' := [(0, .ref (ad 45)), (1, ii x0)]) rfl rfl rfl ?_
  refine z_iload_n F dX5_skip_0 rfl (q := 1) rfl ?_
  refine z_iconst F dX5_skip_1 ?_
  refine z_iadd F dX5_skip_2 ?_
  refine z_nm (fun v1 ev1 => ?_)
  refine z_istore_n F dX5_skip_3 rfl (by decide) (ls' := [(2, ii v1), (0, .ref (ad 45)), (1, ii x0)]) rfl ?_
  refine z_loc [1, 2, 0] (ls' := [(0, .ref (ad 45)), (1, ii x0), (2, ii v1)]) rfl ?_
  suffices key4 : ∀ (n : Nat) (y3 : Int) (M2 : Mem), Inv M2 → WFk M2 → Fr [46] M M2 → 1 ≤ y3 → y3 ≤ 8 → 8 - y3 < (n : Int) → Z D cy ad p l e (RMh 1) s m args below meth c A 3 0 0 Q 4 [(0, .ref (ad 45)), (1, ii x0), (2, ii y3)] [] M2 from key4 8 v1 M hI hW hF (by omega) (by omega) (by omega)
  intro n4
  induction n4 with
  | zero => intro y3 M2 hI hW hF ay3 by3 hn4; exfalso; omega
  | succ n4 ih4 =>
    intro y3 M2 hI hW hF ay3 by3 hn4
    refine z_iload_n F dX5_skip_4 rfl (q := 2) rfl ?_
    refine z_aload_n F dX5_skip_5 rfl (q := 0) rfl ?_
    refine rf_X5_21 F gs_45 rfl dX5_skip_6 ?_
    refine gf_X5_37 F hI gs_2 rfl bd_2_3 dX5_skip_9 (fun v4 ev4 av4 bv4 => ?_)
    refine z_icmp_ge (tgt := 45) F dX5_skip_12 (by decide +kernel) (by omega) (by omega) (fun c5 => ?_) (fun c5 => ?_)
    · exact hret _ 45 _ ⟨hI, hW⟩ hF dX5_skip_45
    · refine z_aload_n F dX5_skip_15 rfl (q := 0) rfl ?_
      refine rf_X5_9 F gs_45 rfl dX5_skip_16 ?_
      refine z_iload_n F dX5_skip_19 rfl (q := 1) rfl ?_
      refine z_iconst F dX5_skip_20 ?_
      refine z_iadd F dX5_skip_21 ?_
      refine z_bipush F dX5_skip_22 (by decide +kernel) ?_
      refine z_imul F dX5_skip_24 ?_
      refine z_iload_n F dX5_skip_25 rfl (q := 2) rfl ?_
      refine z_iadd F dX5_skip_26 ?_
      refine z_aload_n F dX5_skip_27 rfl (q := 0) rfl ?_
      refine rf_X5_9 F gs_45 rfl dX5_skip_28 ?_
      refine z_iload_n F dX5_skip_31 rfl (q := 1) rfl ?_
      refine z_bipush F dX5_skip_32 (by decide +kernel) ?_
      refine z_imul F dX5_skip_34 ?_
      refine z_iload_n F dX5_skip_35 rfl (q := 2) rfl ?_
      refine z_iadd F dX5_skip_36 ?_
      refine z_iald F hI gs_46 (by omega) (by omega) (by decide) bd_46 dX5_skip_37 (fun v6 (ev6 : v6 = M2 46 _) av6 bv6 => ?_)
      refine z_iast F hI gs_46 (by omega) (by omega) (by decide) bd_46 dX5_skip_38 (by omega) (by omega) (fun M8 hI sf7 f7 => ?_)
      have hF := hF.wr f7 (by decide) (by decide)
      have hW : WFk M8 := hW.site f7 (by decide)
      refine z_iincN F dX5_skip_39 (q := 2) rfl (by decide) (fun v9 ev9 => ?_)
      refine z_eq (ls' := [(2, ii v9), (0, .ref (ad 45)), (1, ii x0)]) rfl rfl rfl ?_
      refine z_goto (tgt := 4) F dX5_skip_42 (by decide +kernel) ?_
      refine z_loc [1, 2, 0] (ls' := [(0, .ref (ad 45)), (1, ii x0), (2, ii v9)]) rfl ?_
      exact ih4 v9 M8 hI hW hF (by omega) (by omega) (by omega)
set_option maxRecDepth 4000 in
theorem k_X5_orders (l : Launch) (M : Mem) (hJ : Iw M) (x0 : Int) (hx0a : (-2147483648) ≤ x0) (hx0b : x0 ≤ 2147483647) (x1 : Int) (hx1a : (-2147483648) ≤ x1) (hx1b : x1 ≤ 2147483647) : CI l yX5_orders cX5_orders 4 (some .int) 1 (fun ad => [ii x0, ii x1]) M (fun z M' => ((-2147483648) ≤ z ∧ z ≤ 2147483647) ∧ M = M') := by
  obtain ⟨hI, hW⟩ := hJ
  refine en_i (by decide +kernel) (fun ad => by exact Nat.le_of_ble_eq_true rfl) (fun D cy ad A p e s m args below meth c Q F hret => ?_)
  refine z_eq (ls' := [(0, ii x0), (1, ii x1)]) rfl rfl rfl ?_
  refine z_iconst F dX5_orders_0 ?_
  refine z_istore_n F dX5_orders_1 rfl (by decide) (ls' := [(2, ii 1), (0, ii x0), (1, ii x1)]) rfl ?_
  refine z_iconst F dX5_orders_2 ?_
  refine z_istore_n F dX5_orders_3 rfl (by decide) (ls' := [(3, ii 0), (2, ii 1), (0, ii x0), (1, ii x1)]) rfl ?_
  refine z_loc [2, 3, 1, 0] (ls' := [(0, ii x0), (1, ii x1), (2, ii 1), (3, ii 0)]) rfl ?_
  suffices key4 : ∀ (n : Nat) (y2 : Int) (y3 : Int), (-2147483648) ≤ y2 → y2 ≤ 2147483647 → 0 ≤ y3 → y3 ≤ 2147483647 → 2147483647 - y3 < (n : Int) → Z D cy ad p l e (RMh 1) s m args below meth c A 4 0 0 Q 4 [(0, ii x0), (1, ii x1), (2, ii y2), (3, ii y3)] [] M from key4 2147483648 1 0 (by omega) (by omega) (by omega) (by omega) (by omega)
  intro n4
  induction n4 with
  | zero => intro y2 y3 ay2 by2 ay3 by3 hn4; exfalso; omega
  | succ n4 ih4 =>
    intro y2 y3 ay2 by2 ay3 by3 hn4
    refine z_iload_n F dX5_orders_4 rfl (q := 3) rfl ?_
    refine z_iload_n F dX5_orders_5 rfl (q := 1) rfl ?_
    refine z_icmp_ge (tgt := 21) F dX5_orders_6 (by decide +kernel) (by omega) (by omega) (fun c4 => ?_) (fun c4 => ?_)
    · refine z_iload_n F dX5_orders_21 rfl (q := 2) rfl ?_
      exact hret _ _ 22 _ (by omega) ⟨hI, hW⟩ ⟨⟨by omega, by omega⟩, rfl⟩ dX5_orders_22
    · refine z_iload_n F dX5_orders_9 rfl (q := 2) rfl ?_
      refine z_iload_n F dX5_orders_10 rfl (q := 0) rfl ?_
      refine z_iload_n F dX5_orders_11 rfl (q := 3) rfl ?_
      refine z_isub F dX5_orders_12 ?_
      refine z_wrap (fun v5 rv5 wv5 => ?_)
      refine z_imul F dX5_orders_13 ?_
      refine z_wrap (fun v6 rv6 _ => ?_)
      refine z_istore_n F dX5_orders_14 rfl (by decide) (ls' := [(2, ii v6), (0, ii x0), (1, ii x1), (3, ii y3)]) rfl ?_
      refine z_iincN F dX5_orders_15 (q := 3) rfl (by decide) (fun v7 ev7 => ?_)
      refine z_eq (ls' := [(3, ii v7), (2, ii v6), (0, ii x0), (1, ii x1)]) rfl rfl rfl ?_
      refine z_goto (tgt := 4) F dX5_orders_18 (by decide +kernel) ?_
      refine z_loc [2, 3, 1, 0] (ls' := [(0, ii x0), (1, ii x1), (2, ii v6), (3, ii v7)]) rfl ?_
      exact ih4 v6 v7 (by omega) (by omega) (by omega) (by omega) (by omega)
set_option maxRecDepth 4000 in
theorem k_X5_fussyWays_45 (l : Launch) : ∀ (nr : Nat) (M : Mem) (hJ : Iw M) (x0 : Int) (hx0a : 0 ≤ x0) (hx0b : x0 ≤ 8) (hmu : 8 - x0 < (nr : Int)), CI l yX5_fussyWays cX5_fussyWays 6 (some .int) (5 + nr) (fun ad => [.ref (ad 45), ii x0]) M (fun z M' => ((-2147483648) ≤ z ∧ z ≤ 2147483647) ∧ Fr [46, 47] M M') := by
  intro nr
  induction nr with
  | zero => intro M hJ x0 hx0a hx0b hmu; exfalso; omega
  | succ nr ih =>
  intro M hJ x0 hx0a hx0b hmu
  obtain ⟨hI, hW⟩ := hJ
  have hF : Fr [46, 47] M M := Fr.rf
  refine en_i (by decide +kernel) (fun ad => by exact Nat.le_of_ble_eq_true rfl) (fun D cy ad A p e s m args below meth c Q F hret => ?_)
  refine z_eq (ls' := [(0, .ref (ad 45)), (1, ii x0)]) rfl rfl rfl ?_
  refine z_iload_n F dX5_fussyWays_0 rfl (q := 1) rfl ?_
  refine z_aload_n F dX5_fussyWays_1 rfl (q := 0) rfl ?_
  refine gf_X5_67 F hI gs_45 rfl bd_45_4 dX5_fussyWays_2 (fun v1 ev1 av1 bv1 => ?_)
  refine z_icmp_gt (tgt := 19) F dX5_fussyWays_5 (by decide +kernel) (by omega) (by omega) (fun c2 => ?_) (fun c2 => ?_)
  · refine z_iconst F dX5_fussyWays_19 ?_
    exact hret _ _ 20 _ (by omega) ⟨hI, hW⟩ ⟨⟨by omega, by omega⟩, hF⟩ dX5_fussyWays_20
  · refine z_iload_n F dX5_fussyWays_8 rfl (q := 1) rfl ?_
    refine z_aload_n F dX5_fussyWays_9 rfl (q := 0) rfl ?_
    refine rf_X5_21 F gs_45 rfl dX5_fussyWays_10 ?_
    refine gf_X5_37 F hI gs_2 rfl bd_2_3 dX5_fussyWays_13 (fun v3 ev3 av3 bv3 => ?_)
    refine z_icmp_lt (tgt := 21) F dX5_fussyWays_16 (by decide +kernel) (by omega) (by omega) (fun c4 => ?_) (fun c4 => ?_)
    · refine z_aload_n F dX5_fussyWays_21 rfl (q := 0) rfl ?_
      refine rf_X5_9 F gs_45 rfl dX5_fussyWays_22 ?_
      refine z_iload_n F dX5_fussyWays_25 rfl (q := 1) rfl ?_
      refine z_bipush F dX5_fussyWays_26 (by decide +kernel) ?_
      refine z_imul F dX5_fussyWays_28 ?_
      refine z_iload_n F dX5_fussyWays_29 rfl (q := 1) rfl ?_
      refine z_iadd F dX5_fussyWays_30 ?_
      refine z_iald F hI gs_46 (by omega) (by omega) (by decide) bd_46 dX5_fussyWays_31 (fun v5 (ev5 : v5 = M 46 _) av5 bv5 => ?_)
      refine z_istore_n F dX5_fussyWays_32 rfl (by decide) (ls' := [(2, ii v5), (0, .ref (ad 45)), (1, ii x0)]) rfl ?_
      refine z_iload_n F dX5_fussyWays_33 rfl (q := 2) rfl ?_
      refine z_aload_n F dX5_fussyWays_34 rfl (q := 1) rfl ?_
      refine gf_X5_67 F hI gs_45 rfl bd_45_4 dX5_fussyWays_35 (fun v6 ev6 av6 bv6 => ?_)
      have zv6 : v1 = v6 := ev1.trans ev6.symm
      subst zv6
      refine z_icmp_ne (tgt := 46) F dX5_fussyWays_38 (by decide +kernel) (by omega) (by omega) (fun c7 => ?_) (fun c7 => ?_)
      · refine z_aload_n F dX5_fussyWays_46 rfl (q := 1) rfl ?_
        refine z_iload_n F dX5_fussyWays_47 rfl (q := 2) rfl ?_
        refine zv_i (rest := []) F (k_X5_quietPlaces_45 l M ⟨hI, hW⟩ x0 (by omega) (by omega)) cs_X5_118 (T := TX5) (N := 9) (ci := 5) rfl gs_45 (by omega) (by decide) rfl rfl rfl (Nat.le_of_ble_eq_true rfl) dX5_fussyWays_48 (fun v8 M9 rv8 hI p10 => ?_)
        obtain ⟨hI, hW⟩ := hI
        obtain ⟨⟨av8, bv8⟩, rfl⟩ := p10
        refine z_istore_n F dX5_fussyWays_51 rfl (by decide) (ls' := [(3, ii v8), (2, ii v5), (0, .ref (ad 45)), (1, ii x0)]) rfl ?_
        refine z_iload_n F dX5_fussyWays_52 rfl (q := 0) rfl ?_
        refine z_iconst F dX5_fussyWays_53 ?_
        refine z_icmp_eq (tgt := 88) F dX5_fussyWays_54 (by decide +kernel) (by omega) (by omega) (fun c11 => ?_) (fun c11 => ?_)
        · refine z_aload_n F dX5_fussyWays_88 rfl (q := 2) rfl ?_
          refine gf_X5_64 F hI gs_45 rfl bd_45_3 dX5_fussyWays_89 (fun v12 ev12 av12 bv12 => ?_)
          refine z_iload_n F dX5_fussyWays_92 rfl (q := 3) rfl ?_
          refine zn_i (rest := []) F (k_X11_isIn l M ⟨hI, hW⟩ v12 (by omega) (by omega) x0 (by omega) (by omega)) cs_X5_46 (by omega) (by decide) rfl rfl rfl (Nat.le_of_ble_eq_true rfl) dX5_fussyWays_93 (fun v13 M14 rv13 hI p15 => ?_)
          obtain ⟨hI, hW⟩ := hI
          obtain ⟨⟨av13, bv13⟩, rfl, xp15⟩ := p15
          have hbqx0 := xp15
          refine z_if_eq (tgt := 112) F dX5_fussyWays_96 (by decide +kernel) (by omega) (fun c16 => ?_) (fun c16 => ?_)
          · refine z_iconst F dX5_fussyWays_112 ?_
            refine z_istore F dX5_fussyWays_113 (by decide) (ls' := [(4, ii 0), (3, ii v8), (2, ii v5), (0, .ref (ad 45)), (1, ii x0)]) rfl ?_
            refine z_iconst F dX5_fussyWays_115 ?_
            refine z_istore F dX5_fussyWays_116 (by decide) (ls' := [(5, ii 0), (4, ii 0), (3, ii v8), (2, ii v5), (0, .ref (ad 45)), (1, ii x0)]) rfl ?_
            refine z_loc [4, 5, 3, 1, 0] (ls' := [(0, .ref (ad 45)), (1, ii x0), (2, ii v5), (4, ii 0), (5, ii 0)]) rfl ?_
            suffices key118 : ∀ (n : Nat) (y18 : Int) (y19 : Int) (M17 : Mem), Inv M17 → WFk M17 → Fr [46, 47] M M17 → (-2147483648) ≤ y18 → y18 ≤ 2147483647 → 0 ≤ y19 → y19 ≤ 10 → 10 - y19 < (n : Int) → Z D cy ad p l e (RMh (5 + (nr + 1))) s m args below meth c A 6 0 0 Q 118 [(0, .ref (ad 45)), (1, ii x0), (2, ii v5), (4, ii y18), (5, ii y19)] [] M17 from key118 11 0 0 M hI hW hF (by omega) (by omega) (by omega) (by omega) (by omega)
            intro n118
            induction n118 with
            | zero => intro y18 y19 M17 hI hW hF ay18 by18 ay19 by19 hn118; exfalso; omega
            | succ n118 ih118 =>
              intro y18 y19 M17 hI hW hF ay18 by18 ay19 by19 hn118
              refine z_iload F dX5_fussyWays_118 (q := 4) rfl ?_
              refine z_aload_n F dX5_fussyWays_120 rfl (q := 0) rfl ?_
              refine rf_X5_21 F gs_45 rfl dX5_fussyWays_121 ?_
              refine gf_X5_43 F hI gs_2 rfl bd_2_1 dX5_fussyWays_124 (fun v20 ev20 av20 bv20 => ?_)
              refine z_icmp_ge (tgt := 167) F dX5_fussyWays_127 (by decide +kernel) (by omega) (by omega) (fun c21 => ?_) (fun c21 => ?_)
              · refine z_iload F dX5_fussyWays_167 (q := 3) rfl ?_
                exact hret _ _ 169 _ (by omega) ⟨hI, hW⟩ ⟨⟨by omega, by omega⟩, hF⟩ dX5_fussyWays_169
              · refine z_iload_n F dX5_fussyWays_130 rfl (q := 2) rfl ?_
                refine z_iload F dX5_fussyWays_131 (q := 4) rfl ?_
                refine zn_i (rest := []) F (k_X11_isIn l M17 ⟨hI, hW⟩ v5 (by omega) (by omega) y19 (by omega) (by omega)) cs_X5_46 (by omega) (by decide) rfl rfl rfl (Nat.le_of_ble_eq_true rfl) dX5_fussyWays_133 (fun v22 M23 rv22 hI p24 => ?_)
                obtain ⟨hI, hW⟩ := hI
                obtain ⟨⟨av22, bv22⟩, rfl, xp24⟩ := p24
                have hbqy19 := xp24
                refine z_if_eq (tgt := 161) F dX5_fussyWays_136 (by decide +kernel) (by omega) (fun c25 => ?_) (fun c25 => ?_)
                · refine z_iincN F dX5_fussyWays_161 (q := 4) rfl (by decide) (fun v26 ev26 => ?_)
                  refine z_eq (ls' := [(5, ii v26), (0, .ref (ad 45)), (1, ii x0), (2, ii v5), (4, ii y18)]) rfl rfl rfl ?_
                  refine z_goto (tgt := 118) F dX5_fussyWays_164 (by decide +kernel) ?_
                  refine z_loc [1, 2, 3, 4, 0] (ls' := [(0, .ref (ad 45)), (1, ii x0), (2, ii v5), (4, ii y18), (5, ii v26)]) rfl ?_
                  exact ih118 y18 v26 M17 hI hW hF (by omega) (by omega) (by omega) (by omega) (by omega)
                · refine z_aload_n F dX5_fussyWays_139 rfl (q := 0) rfl ?_
                  refine z_iload_n F dX5_fussyWays_140 rfl (q := 1) rfl ?_
                  refine z_iload F dX5_fussyWays_141 (q := 4) rfl ?_
                  refine zv_i (rest := []) F (k_X5_lay_45 l M17 ⟨hI, hW⟩ x0 (by omega) (by omega) y19 (by omega) (by omega)) cs_X5_50 (T := TX5) (N := 9) (ci := 5) rfl gs_45 (by omega) (by decide) rfl rfl rfl (Nat.le_of_ble_eq_true rfl) dX5_fussyWays_143 (fun v27 M28 rv27 hI p29 => ?_)
                  obtain ⟨hI, hW⟩ := hI
                  obtain ⟨⟨av27, bv27⟩, fp29⟩ := p29
                  have hF := hF.call fp29 (by decide)
                  refine z_if_eq (tgt := 161) F dX5_fussyWays_146 (by decide +kernel) (by omega) (fun c30 => ?_) (fun c30 => ?_)
                  · refine z_iincN F dX5_fussyWays_161 (q := 4) rfl (by decide) (fun v31 ev31 => ?_)
                    refine z_eq (ls' := [(5, ii v31), (0, .ref (ad 45)), (1, ii x0), (2, ii v5), (4, ii y18)]) rfl rfl rfl ?_
                    refine z_goto (tgt := 118) F dX5_fussyWays_164 (by decide +kernel) ?_
                    refine z_loc [1, 2, 3, 4, 0] (ls' := [(0, .ref (ad 45)), (1, ii x0), (2, ii v5), (4, ii y18), (5, ii v31)]) rfl ?_
                    exact ih118 y18 v31 M28 hI hW hF (by omega) (by omega) (by omega) (by omega) (by omega)
                  · refine z_iload F dX5_fussyWays_149 (q := 3) rfl ?_
                    refine z_aload_n F dX5_fussyWays_151 rfl (q := 0) rfl ?_
                    refine z_iload_n F dX5_fussyWays_152 rfl (q := 1) rfl ?_
                    refine z_iconst F dX5_fussyWays_153 ?_
                    refine z_iadd F dX5_fussyWays_154 ?_
                    refine zv_i (rest := [ii y18]) F (ih M28 ⟨hI, hW⟩ (x0 + 1) (by omega) (by omega) (by omega)) cs_X5_111 (T := TX5) (N := 9) (ci := 5) rfl gs_45 (by omega) (by decide) rfl rfl rfl (Nat.le_of_ble_eq_true rfl) dX5_fussyWays_155 (fun v32 M33 rv32 hI p34 => ?_)
                    obtain ⟨hI, hW⟩ := hI
                    obtain ⟨⟨av32, bv32⟩, fp34⟩ := p34
                    have hF := hF.call fp34 (by decide)
                    refine z_iadd F dX5_fussyWays_158 ?_
                    refine z_wrap (fun v35 rv35 wv35 => ?_)
                    refine z_istore F dX5_fussyWays_159 (by decide) (ls' := [(4, ii v35), (0, .ref (ad 45)), (1, ii x0), (2, ii v5), (5, ii y19)]) rfl ?_
                    refine z_iincN F dX5_fussyWays_161 (q := 4) rfl (by decide) (fun v36 ev36 => ?_)
                    refine z_eq (ls' := [(5, ii v36), (4, ii v35), (0, .ref (ad 45)), (1, ii x0), (2, ii v5)]) rfl rfl rfl ?_
                    refine z_goto (tgt := 118) F dX5_fussyWays_164 (by decide +kernel) ?_
                    refine z_loc [2, 3, 4, 1, 0] (ls' := [(0, .ref (ad 45)), (1, ii x0), (2, ii v5), (4, ii v35), (5, ii v36)]) rfl ?_
                    exact ih118 v35 v36 M33 hI hW hF (by omega) (by omega) (by omega) (by omega) (by omega)
          · refine z_aload_n F dX5_fussyWays_99 rfl (q := 2) rfl ?_
            refine z_iload_n F dX5_fussyWays_100 rfl (q := 3) rfl ?_
            refine zv_v (rest := []) F (k_X5_skip_45 l M ⟨hI, hW⟩ x0 (by omega) (by omega)) cs_X5_121 (T := TX5) (N := 9) (ci := 5) rfl gs_45 (by omega) (by decide) rfl rfl rfl (Nat.le_of_ble_eq_true rfl) dX5_fussyWays_101 (fun M37 hI p38 => ?_)
            obtain ⟨hI, hW⟩ := hI
            have fp38 := p38
            have hF := hF.call fp38 (by decide)
            refine z_aload_n F dX5_fussyWays_104 rfl (q := 2) rfl ?_
            refine z_iload_n F dX5_fussyWays_105 rfl (q := 3) rfl ?_
            refine z_iconst F dX5_fussyWays_106 ?_
            refine z_iadd F dX5_fussyWays_107 ?_
            refine zv_i (rest := []) F (ih M37 ⟨hI, hW⟩ (x0 + 1) (by omega) (by omega) (by omega)) cs_X5_111 (T := TX5) (N := 9) (ci := 5) rfl gs_45 (by omega) (by decide) rfl rfl rfl (Nat.le_of_ble_eq_true rfl) dX5_fussyWays_108 (fun v39 M40 rv39 hI p41 => ?_)
            obtain ⟨hI, hW⟩ := hI
            obtain ⟨⟨av39, bv39⟩, fp41⟩ := p41
            have hF := hF.call fp41 (by decide)
            exact hret _ _ 111 _ (by omega) ⟨hI, hW⟩ ⟨⟨by omega, by omega⟩, hF⟩ dX5_fussyWays_111
        · refine z_aload_n F dX5_fussyWays_57 rfl (q := 2) rfl ?_
          refine rf_X5_21 F gs_45 rfl dX5_fussyWays_58 ?_
          refine gf_X5_37 F hI gs_2 rfl bd_2_3 dX5_fussyWays_61 (fun v42 ev42 av42 bv42 => ?_)
          have zv42 : v3 = v42 := ev3.trans ev42.symm
          subst zv42
          refine z_iload_n F dX5_fussyWays_64 rfl (q := 3) rfl ?_
          refine z_isub F dX5_fussyWays_65 ?_
          refine z_aload_n F dX5_fussyWays_66 rfl (q := 2) rfl ?_
          refine gf_X5_64 F hI gs_45 rfl bd_45_3 dX5_fussyWays_67 (fun v43 ev43 av43 bv43 => ?_)
          refine z_iload_n F dX5_fussyWays_70 rfl (q := 3) rfl ?_
          refine z_ishr0 F dX5_fussyWays_71 (fun v44 ev44 rv44 => ?_)
          refine zs_i (rest := [ii (v3 - x0)]) F (k_J6_bitCount_0f7a4 l M ⟨hI, hW⟩ v44 (by omega) (by omega)) cs_X5_106 (by omega) (by decide) rfl rfl rfl (Nat.le_of_ble_eq_true rfl) dX5_fussyWays_72 (fun v45 M46 rv45 hI p47 => ?_)
          obtain ⟨hI, hW⟩ := hI
          obtain ⟨⟨av45, bv45⟩, rfl⟩ := p47
          refine z_isub F dX5_fussyWays_75 ?_
          refine z_nm (fun v48 ev48 => ?_)
          refine z_istore F dX5_fussyWays_76 (by decide) (ls' := [(4, ii v48), (3, ii v8), (2, ii v5), (0, .ref (ad 45)), (1, ii x0)]) rfl ?_
          refine z_iload_n F dX5_fussyWays_78 rfl (q := 1) rfl ?_
          refine zs_i (rest := []) F (k_J6_bitCount_0f7a4 l M ⟨hI, hW⟩ v8 (by omega) (by omega)) cs_X5_106 (by omega) (by decide) rfl rfl rfl (Nat.le_of_ble_eq_true rfl) dX5_fussyWays_79 (fun v49 M50 rv49 hI p51 => ?_)
          obtain ⟨hI, hW⟩ := hI
          obtain ⟨⟨av49, bv49⟩, rfl⟩ := p51
          refine z_iload F dX5_fussyWays_82 (q := 0) rfl ?_
          refine zs_i (rest := []) F (k_X5_orders l M ⟨hI, hW⟩ v49 (by omega) (by omega) v48 (by omega) (by omega)) cs_X5_114 (by omega) (by decide) rfl rfl rfl (Nat.le_of_ble_eq_true rfl) dX5_fussyWays_84 (fun v52 M53 rv52 hI p54 => ?_)
          obtain ⟨hI, hW⟩ := hI
          obtain ⟨⟨av52, bv52⟩, rfl⟩ := p54
          exact hret _ _ 87 _ (by omega) ⟨hI, hW⟩ ⟨⟨by omega, by omega⟩, hF⟩ dX5_fussyWays_87
      · refine z_iload_n F dX5_fussyWays_41 rfl (q := 0) rfl ?_
        refine zs_i (rest := []) F (k_J6_bitCount_0f7a4 l M ⟨hI, hW⟩ v5 (by omega) (by omega)) cs_X5_106 (by omega) (by decide) rfl rfl rfl (Nat.le_of_ble_eq_true rfl) dX5_fussyWays_42 (fun v55 M56 rv55 hI p57 => ?_)
        obtain ⟨hI, hW⟩ := hI
        obtain ⟨⟨av55, bv55⟩, rfl⟩ := p57
        exact hret _ _ 45 _ (by omega) ⟨hI, hW⟩ ⟨⟨by omega, by omega⟩, hF⟩ dX5_fussyWays_45
    · refine z_iconst F dX5_fussyWays_19 ?_
      exact hret _ _ 20 _ (by omega) ⟨hI, hW⟩ ⟨⟨by omega, by omega⟩, hF⟩ dX5_fussyWays_20
set_option maxRecDepth 4000 in
theorem k_X5_waysFrom_45 (l : Launch) (M : Mem) (hJ : Iw M) (x0 : Int) (hx0a : 0 ≤ x0) (hx0b : x0 ≤ 8) : CI l yX5_waysFrom cX5_waysFrom 3 (some .int) 15 (fun ad => [.ref (ad 45), ii x0]) M (fun z M' => ((-2147483648) ≤ z ∧ z ≤ 2147483647) ∧ Fr [46, 47] M M') := by
  obtain ⟨hI, hW⟩ := hJ
  have hF : Fr [46, 47] M M := Fr.rf
  refine en_i (by decide +kernel) (fun ad => by exact Nat.le_of_ble_eq_true rfl) (fun D cy ad A p e s m args below meth c Q F hret => ?_)
  refine z_eq (ls' := [(0, .ref (ad 45)), (1, ii x0)]) rfl rfl rfl ?_
  refine z_aload_n F dX5_waysFrom_0 rfl (q := 0) rfl ?_
  refine gf_X5_64 F hI gs_45 rfl bd_45_3 dX5_waysFrom_1 (fun v1 ev1 av1 bv1 => ?_)
  refine z_iload_n F dX5_waysFrom_4 rfl (q := 1) rfl ?_
  refine z_ishr0 F dX5_waysFrom_5 (fun v2 ev2 rv2 => ?_)
  refine zs_i (rest := []) F (k_J6_bitCount_0f7a4 l M ⟨hI, hW⟩ v2 (by omega) (by omega)) cs_X5_106 (by decide) (by decide) rfl rfl rfl (Nat.le_of_ble_eq_true rfl) dX5_waysFrom_6 (fun v3 M4 rv3 hI p5 => ?_)
  obtain ⟨hI, hW⟩ := hI
  obtain ⟨⟨av3, bv3⟩, rfl⟩ := p5
  refine z_istore_n F dX5_waysFrom_9 rfl (by decide) (ls' := [(2, ii v3), (0, .ref (ad 45)), (1, ii x0)]) rfl ?_
  refine z_aload_n F dX5_waysFrom_10 rfl (q := 1) rfl ?_
  refine z_iload_n F dX5_waysFrom_11 rfl (q := 2) rfl ?_
  refine zv_i (rest := []) F (k_X5_fussyWays_45 l 9 M ⟨hI, hW⟩ x0 (by omega) (by omega) (by omega)) cs_X5_111 (T := TX5) (N := 9) (ci := 5) rfl gs_45 (by decide) (by decide) rfl rfl rfl (Nat.le_of_ble_eq_true rfl) dX5_waysFrom_12 (fun v6 M7 rv6 hI p8 => ?_)
  obtain ⟨hI, hW⟩ := hI
  obtain ⟨⟨av6, bv6⟩, fp8⟩ := p8
  have hF := hF.call fp8 (by decide)
  refine z_aload_n F dX5_waysFrom_15 rfl (q := 1) rfl ?_
  refine rf_X5_21 F gs_45 rfl dX5_waysFrom_16 ?_
  refine gf_X5_43 F hI gs_2 rfl bd_2_1 dX5_waysFrom_19 (fun v9 ev9 av9 bv9 => ?_)
  refine z_aload_n F dX5_waysFrom_22 rfl (q := 1) rfl ?_
  refine rf_X5_21 F gs_45 rfl dX5_waysFrom_23 ?_
  refine gf_X5_37 F hI gs_2 rfl bd_2_3 dX5_waysFrom_26 (fun v10 ev10 av10 bv10 => ?_)
  refine z_isub F dX5_waysFrom_29 ?_
  refine z_iload_n F dX5_waysFrom_30 rfl (q := 0) rfl ?_
  refine z_iadd F dX5_waysFrom_31 ?_
  refine z_iload_n F dX5_waysFrom_32 rfl (q := 0) rfl ?_
  refine zs_i (rest := [ii v6]) F (k_X5_orders l M7 ⟨hI, hW⟩ ((v9 - v10) + v3) (by omega) (by omega) v3 (by omega) (by omega)) cs_X5_114 (by decide) (by decide) rfl rfl rfl (Nat.le_of_ble_eq_true rfl) dX5_waysFrom_33 (fun v11 M12 rv11 hI p13 => ?_)
  obtain ⟨hI, hW⟩ := hI
  obtain ⟨⟨av11, bv11⟩, rfl⟩ := p13
  refine z_imul F dX5_waysFrom_36 ?_
  refine z_wrap (fun v14 rv14 _ => ?_)
  exact hret _ _ 37 _ (by omega) ⟨hI, hW⟩ ⟨⟨by omega, by omega⟩, hF⟩ dX5_waysFrom_37
set_option maxRecDepth 4000 in
theorem k_X5_countAll_45 (l : Launch) (M : Mem) (hJ : Iw M) : CI l yX5_countAll cX5_countAll 1 (some .int) 16 (fun ad => [.ref (ad 45)]) M (fun z M' => ((-2147483648) ≤ z ∧ z ≤ 2147483647) ∧ Fr [45, 46, 47] M M') := by
  obtain ⟨hI, hW⟩ := hJ
  have hF : Fr [45, 46, 47] M M := Fr.rf
  refine en_i (by decide +kernel) (fun ad => by exact Nat.le_of_ble_eq_true rfl) (fun D cy ad A p e s m args below meth c Q F hret => ?_)
  refine z_eq (ls' := [(0, .ref (ad 45))]) rfl rfl rfl ?_
  refine z_aload_n F dX5_countAll_0 rfl (q := 0) rfl ?_
  refine zv_i (rest := []) F (k_X5_clearBoard_45 l M ⟨hI, hW⟩) cs_X5_29 (T := TX5) (N := 9) (ci := 5) rfl gs_45 (by decide) (by decide) rfl rfl rfl (Nat.le_of_ble_eq_true rfl) dX5_countAll_1 (fun v1 M2 rv1 hI p3 => ?_)
  obtain ⟨hI, hW⟩ := hI
  obtain ⟨⟨av1, bv1⟩, fp3⟩ := p3
  have hF := hF.call fp3 (by decide)
  refine z_if_eq (tgt := 15) F dX5_countAll_4 (by decide +kernel) (by omega) (fun c4 => ?_) (fun c4 => ?_)
  · refine z_iconst F dX5_countAll_15 ?_
    exact hret _ _ 16 _ (by omega) ⟨hI, hW⟩ ⟨⟨by omega, by omega⟩, hF⟩ dX5_countAll_16
  · refine z_aload_n F dX5_countAll_7 rfl (q := 0) rfl ?_
    refine z_iconst F dX5_countAll_8 ?_
    refine zv_i (rest := []) F (k_X5_waysFrom_45 l M2 ⟨hI, hW⟩ 0 (by omega) (by omega)) cs_X5_33 (T := TX5) (N := 9) (ci := 5) rfl gs_45 (by decide) (by decide) rfl rfl rfl (Nat.le_of_ble_eq_true rfl) dX5_countAll_9 (fun v5 M6 rv5 hI p7 => ?_)
    obtain ⟨hI, hW⟩ := hI
    obtain ⟨⟨av5, bv5⟩, fp7⟩ := p7
    have hF := hF.call fp7 (by decide)
    refine z_goto (tgt := 16) F dX5_countAll_12 (by decide +kernel) ?_
    exact hret _ _ 16 _ (by omega) ⟨hI, hW⟩ ⟨⟨by omega, by omega⟩, hF⟩ dX5_countAll_16
set_option maxRecDepth 4000 in
theorem k_X11_placings (l : Launch) (M : Mem) (hJ : Iw M) : CI l yX11_placings cX11_placings 1 (some .int) 17 (fun ad => [.ref (ad 0)]) M (fun z M' => ((-2147483648) ≤ z ∧ z ≤ 2147483647) ∧ Fr [45, 46, 47] M M') := by
  obtain ⟨hI, hW⟩ := hJ
  have hF : Fr [45, 46, 47] M M := Fr.rf
  refine en_i (by decide +kernel) (fun ad => by exact Nat.le_of_ble_eq_true rfl) (fun D cy ad A p e s m args below meth c Q F hret => ?_)
  refine z_eq (ls' := [(0, .ref (ad 0))]) rfl rfl rfl ?_
  refine z_aload_n F dX11_placings_0 rfl (q := 0) rfl ?_
  refine rf_X11_66 F gs_0 rfl dX11_placings_1 ?_
  refine zv_i (rest := []) F (k_X5_countAll_45 l M ⟨hI, hW⟩) cs_X11_319 (T := TX5) (N := 9) (ci := 5) rfl gs_45 (by decide) (by decide) rfl rfl rfl (Nat.le_of_ble_eq_true rfl) dX11_placings_4 (fun v1 M2 rv1 hI p3 => ?_)
  obtain ⟨hI, hW⟩ := hI
  obtain ⟨⟨av1, bv1⟩, fp3⟩ := p3
  have hF := hF.call fp3 (by decide)
  exact hret _ _ 7 _ (by omega) ⟨hI, hW⟩ ⟨⟨by omega, by omega⟩, hF⟩ dX11_placings_7
set_option maxRecDepth 4000 in
theorem k_X5_find_45 (l : Launch) (M : Mem) (hJ : Iw M) (x0 : Int) (hx0a : (-2147483648) ≤ x0) (hx0b : x0 ≤ 2147483647) : CI l yX5_find cX5_find 7 (some .boolean) 16 (fun ad => [.ref (ad 45), ii x0]) M (fun z M' => (0 ≤ z ∧ z ≤ 1) ∧ Fr [45, 46, 47] M M') := by
  obtain ⟨hI, hW⟩ := hJ
  have hF : Fr [45, 46, 47] M M := Fr.rf
  refine en_z (by decide +kernel) (fun ad => by exact Nat.le_of_ble_eq_true rfl) (fun D cy ad A p e s m args below meth c Q F hret => ?_)
  refine z_eq (ls' := [(0, .ref (ad 45)), (1, ii x0)]) rfl rfl rfl ?_
  refine z_aload_n F dX5_find_0 rfl (q := 0) rfl ?_
  refine zv_i (rest := []) F (k_X5_clearBoard_45 l M ⟨hI, hW⟩) cs_X5_29 (T := TX5) (N := 9) (ci := 5) rfl gs_45 (by decide) (by decide) rfl rfl rfl (Nat.le_of_ble_eq_true rfl) dX5_find_1 (fun v1 M2 rv1 hI p3 => ?_)
  obtain ⟨hI, hW⟩ := hI
  obtain ⟨⟨av1, bv1⟩, fp3⟩ := p3
  have hF := hF.call fp3 (by decide)
  refine z_istore_n F dX5_find_4 rfl (by decide) (ls' := [(2, ii v1), (0, .ref (ad 45)), (1, ii x0)]) rfl ?_
  refine z_iload_n F dX5_find_5 rfl (q := 2) rfl ?_
  refine z_istore_n F dX5_find_6 rfl (by decide) (ls' := [(3, ii x0), (2, ii v1), (0, .ref (ad 45)), (1, ii x0)]) rfl ?_
  refine z_iconst F dX5_find_7 ?_
  refine z_istore F dX5_find_8 (by decide) (ls' := [(4, ii 0), (3, ii x0), (2, ii v1), (0, .ref (ad 45)), (1, ii x0)]) rfl ?_
  refine z_loc [3, 2, 1, 0] (ls' := [(0, .ref (ad 45)), (2, ii v1), (3, ii x0), (4, ii 0)]) rfl ?_
  suffices key10 : ∀ (n : Nat) (y5 : Int) (y6 : Int) (y7 : Int) (M4 : Mem), Inv M4 → WFk M4 → Fr [45, 46, 47] M M4 → 0 ≤ y5 → y5 ≤ 1 → (-2147483648) ≤ y6 → y6 ≤ 2147483647 → 0 ≤ y7 → y7 ≤ 8 → 8 - y7 < (n : Int) → Z D cy ad p l e (RMh 16) s m args below meth c A 7 0 0 Q 10 [(0, .ref (ad 45)), (2, ii y5), (3, ii y6), (4, ii y7)] [] M4 from key10 9 v1 x0 0 M2 hI hW hF (by omega) (by omega) (by omega) (by omega) (by omega) (by omega) (by omega)
  intro n10
  induction n10 with
  | zero => intro y5 y6 y7 M4 hI hW hF ay5 by5 ay6 by6 ay7 by7 hn10; exfalso; omega
  | succ n10 ih10 =>
    intro y5 y6 y7 M4 hI hW hF ay5 by5 ay6 by6 ay7 by7 hn10
    refine z_iload F dX5_find_10 (q := 3) rfl ?_
    refine z_aload_n F dX5_find_12 rfl (q := 0) rfl ?_
    refine rf_X5_21 F gs_45 rfl dX5_find_13 ?_
    refine gf_X5_37 F hI gs_2 rfl bd_2_3 dX5_find_16 (fun v8 ev8 av8 bv8 => ?_)
    refine z_icmp_ge (tgt := 126) F dX5_find_19 (by decide +kernel) (by omega) (by omega) (fun c9 => ?_) (fun c9 => ?_)
    · refine z_iload_n F dX5_find_126 rfl (q := 1) rfl ?_
      exact hret _ _ 127 _ ⟨by omega, by omega⟩ ⟨hI, hW⟩ ⟨⟨by omega, by omega⟩, hF⟩ dX5_find_127
    · refine z_iload_n F dX5_find_22 rfl (q := 1) rfl ?_
      refine z_if_eq (tgt := 126) F dX5_find_23 (by decide +kernel) (by omega) (fun c10 => ?_) (fun c10 => ?_)
      · refine z_iload_n F dX5_find_126 rfl (q := 1) rfl ?_
        exact hret _ _ 127 _ ⟨by omega, by omega⟩ ⟨hI, hW⟩ ⟨⟨by omega, by omega⟩, hF⟩ dX5_find_127
      · refine z_iconst F dX5_find_26 ?_
        refine z_istore_n F dX5_find_27 rfl (by decide) (ls' := [(2, ii 0), (0, .ref (ad 45)), (3, ii y6), (4, ii y7)]) rfl ?_
        refine z_iconst F dX5_find_28 ?_
        refine z_istore F dX5_find_29 (by decide) (ls' := [(5, ii 0), (2, ii 0), (0, .ref (ad 45)), (3, ii y6), (4, ii y7)]) rfl ?_
        refine z_loc [2, 1, 3, 4, 0] (ls' := [(0, .ref (ad 45)), (2, ii 0), (3, ii y6), (4, ii y7), (5, ii 0)]) rfl ?_
        suffices key31 : ∀ (n : Nat) (y12 : Int) (y13 : Int) (y14 : Int) (M11 : Mem), Inv M11 → WFk M11 → Fr [45, 46, 47] M M11 → 0 ≤ y12 → y12 ≤ 1 → (-2147483648) ≤ y13 → y13 ≤ 2147483647 → 0 ≤ y14 → y14 ≤ 10 → 10 - y14 < (n : Int) → Z D cy ad p l e (RMh 16) s m args below meth c A 7 0 0 Q 31 [(0, .ref (ad 45)), (2, ii y12), (3, ii y13), (4, ii y7), (5, ii y14)] [] M11 from key31 11 0 y6 0 M4 hI hW hF (by omega) (by omega) (by omega) (by omega) (by omega) (by omega) (by omega)
        intro n31
        induction n31 with
        | zero => intro y12 y13 y14 M11 hI hW hF ay12 by12 ay13 by13 ay14 by14 hn31; exfalso; omega
        | succ n31 ih31 =>
          intro y12 y13 y14 M11 hI hW hF ay12 by12 ay13 by13 ay14 by14 hn31
          refine z_iload F dX5_find_31 (q := 4) rfl ?_
          refine z_aload_n F dX5_find_33 rfl (q := 0) rfl ?_
          refine rf_X5_21 F gs_45 rfl dX5_find_34 ?_
          refine gf_X5_43 F hI gs_2 rfl bd_2_1 dX5_find_37 (fun v15 ev15 av15 bv15 => ?_)
          refine z_icmp_ge (tgt := 120) F dX5_find_40 (by decide +kernel) (by omega) (by omega) (fun c16 => ?_) (fun c16 => ?_)
          · refine z_iincN F dX5_find_120 (q := 3) rfl (by decide) (fun v17 ev17 => ?_)
            refine z_eq (ls' := [(4, ii v17), (0, .ref (ad 45)), (2, ii y12), (3, ii y13), (5, ii y14)]) rfl rfl rfl ?_
            refine z_goto (tgt := 10) F dX5_find_123 (by decide +kernel) ?_
            refine z_loc [1, 2, 3, 0] (ls' := [(0, .ref (ad 45)), (2, ii y12), (3, ii y13), (4, ii v17)]) rfl ?_
            exact ih10 y12 y13 v17 M11 hI hW hF (by omega) (by omega) (by omega) (by omega) (by omega) (by omega) (by omega)
          · refine z_iload_n F dX5_find_43 rfl (q := 1) rfl ?_
            refine z_if_ne (tgt := 120) F dX5_find_44 (by decide +kernel) (by omega) (fun c18 => ?_) (fun c18 => ?_)
            · refine z_iincN F dX5_find_120 (q := 3) rfl (by decide) (fun v19 ev19 => ?_)
              refine z_eq (ls' := [(4, ii v19), (0, .ref (ad 45)), (2, ii y12), (3, ii y13), (5, ii y14)]) rfl rfl rfl ?_
              refine z_goto (tgt := 10) F dX5_find_123 (by decide +kernel) ?_
              refine z_loc [1, 2, 3, 0] (ls' := [(0, .ref (ad 45)), (2, ii y12), (3, ii y13), (4, ii v19)]) rfl ?_
              exact ih10 y12 y13 v19 M11 hI hW hF (by omega) (by omega) (by omega) (by omega) (by omega) (by omega) (by omega)
            · refine z_aload_n F dX5_find_47 rfl (q := 0) rfl ?_
              refine rf_X5_9 F gs_45 rfl dX5_find_48 ?_
              refine z_iload F dX5_find_51 (q := 3) rfl ?_
              refine z_bipush F dX5_find_53 (by decide +kernel) ?_
              refine z_imul F dX5_find_55 ?_
              refine z_iload F dX5_find_56 (q := 3) rfl ?_
              refine z_iadd F dX5_find_58 ?_
              refine z_iald F hI gs_46 (by omega) (by omega) (by decide) bd_46 dX5_find_59 (fun v20 (ev20 : v20 = M11 46 _) av20 bv20 => ?_)
              refine z_iload F dX5_find_60 (q := 4) rfl ?_
              refine zn_i (rest := []) F (k_X11_isIn l M11 ⟨hI, hW⟩ v20 (by omega) (by omega) y14 (by omega) (by omega)) cs_X5_46 (by decide) (by decide) rfl rfl rfl (Nat.le_of_ble_eq_true rfl) dX5_find_62 (fun v21 M22 rv21 hI p23 => ?_)
              obtain ⟨hI, hW⟩ := hI
              obtain ⟨⟨av21, bv21⟩, rfl, xp23⟩ := p23
              have hbqy14 := xp23
              refine z_if_eq (tgt := 114) F dX5_find_65 (by decide +kernel) (by omega) (fun c24 => ?_) (fun c24 => ?_)
              · refine z_iincN F dX5_find_114 (q := 4) rfl (by decide) (fun v25 ev25 => ?_)
                refine z_eq (ls' := [(5, ii v25), (0, .ref (ad 45)), (2, ii y12), (3, ii y13), (4, ii y7)]) rfl rfl rfl ?_
                refine z_goto (tgt := 31) F dX5_find_117 (by decide +kernel) ?_
                refine z_loc [1, 2, 3, 4, 0] (ls' := [(0, .ref (ad 45)), (2, ii y12), (3, ii y13), (4, ii y7), (5, ii v25)]) rfl ?_
                exact ih31 y12 y13 v25 M11 hI hW hF (by omega) (by omega) (by omega) (by omega) (by omega) (by omega) (by omega)
              · refine z_aload_n F dX5_find_68 rfl (q := 0) rfl ?_
                refine z_iload F dX5_find_69 (q := 3) rfl ?_
                refine z_iload F dX5_find_71 (q := 4) rfl ?_
                refine zv_i (rest := []) F (k_X5_lay_45 l M11 ⟨hI, hW⟩ y7 (by omega) (by omega) y14 (by omega) (by omega)) cs_X5_50 (T := TX5) (N := 9) (ci := 5) rfl gs_45 (by decide) (by decide) rfl rfl rfl (Nat.le_of_ble_eq_true rfl) dX5_find_73 (fun v26 M27 rv26 hI p28 => ?_)
                obtain ⟨hI, hW⟩ := hI
                obtain ⟨⟨av26, bv26⟩, fp28⟩ := p28
                have hF := hF.call fp28 (by decide)
                refine z_if_eq (tgt := 114) F dX5_find_76 (by decide +kernel) (by omega) (fun c29 => ?_) (fun c29 => ?_)
                · refine z_iincN F dX5_find_114 (q := 4) rfl (by decide) (fun v30 ev30 => ?_)
                  refine z_eq (ls' := [(5, ii v30), (0, .ref (ad 45)), (2, ii y12), (3, ii y13), (4, ii y7)]) rfl rfl rfl ?_
                  refine z_goto (tgt := 31) F dX5_find_117 (by decide +kernel) ?_
                  refine z_loc [1, 2, 3, 4, 0] (ls' := [(0, .ref (ad 45)), (2, ii y12), (3, ii y13), (4, ii y7), (5, ii v30)]) rfl ?_
                  exact ih31 y12 y13 v30 M27 hI hW hF (by omega) (by omega) (by omega) (by omega) (by omega) (by omega) (by omega)
                · refine z_aload_n F dX5_find_79 rfl (q := 0) rfl ?_
                  refine z_iload F dX5_find_80 (q := 3) rfl ?_
                  refine z_iconst F dX5_find_82 ?_
                  refine z_iadd F dX5_find_83 ?_
                  refine zv_i (rest := []) F (k_X5_waysFrom_45 l M27 ⟨hI, hW⟩ (y7 + 1) (by omega) (by omega)) cs_X5_33 (T := TX5) (N := 9) (ci := 5) rfl gs_45 (by decide) (by decide) rfl rfl rfl (Nat.le_of_ble_eq_true rfl) dX5_find_84 (fun v31 M32 rv31 hI p33 => ?_)
                  obtain ⟨hI, hW⟩ := hI
                  obtain ⟨⟨av31, bv31⟩, fp33⟩ := p33
                  have hF := hF.call fp33 (by decide)
                  refine z_istore F dX5_find_87 (by decide) (ls' := [(6, ii v31), (0, .ref (ad 45)), (2, ii y12), (3, ii y13), (4, ii y7), (5, ii y14)]) rfl ?_
                  refine z_iload_n F dX5_find_89 rfl (q := 3) rfl ?_
                  refine z_iload F dX5_find_90 (q := 0) rfl ?_
                  refine z_icmp_ge (tgt := 99) F dX5_find_92 (by decide +kernel) (by omega) (by omega) (fun c34 => ?_) (fun c34 => ?_)
                  · refine z_iconst F dX5_find_99 ?_
                    refine z_istore_n F dX5_find_100 rfl (by decide) (ls' := [(2, ii 0), (6, ii v31), (0, .ref (ad 45)), (3, ii y13), (4, ii y7), (5, ii y14)]) rfl ?_
                    refine z_iload_n F dX5_find_101 rfl (q := 3) rfl ?_
                    refine z_iload_n F dX5_find_102 rfl (q := 0) rfl ?_
                    refine z_if_eq (tgt := 110) F dX5_find_103 (by decide +kernel) (by omega) (fun c35 => ?_) (fun c35 => by exfalso; omega)
                    refine z_iload F dX5_find_110 (q := 1) rfl ?_
                    refine z_isub F dX5_find_112 ?_
                    refine z_wrap (fun v36 rv36 wv36 => ?_)
                    refine z_istore_n F dX5_find_113 rfl (by decide) (ls' := [(3, ii v36), (2, ii 0), (6, ii v31), (0, .ref (ad 45)), (4, ii y7), (5, ii y14)]) rfl ?_
                    refine z_iincN F dX5_find_114 (q := 5) rfl (by decide) (fun v37 ev37 => ?_)
                    refine z_eq (ls' := [(5, ii v37), (3, ii v36), (2, ii 0), (6, ii v31), (0, .ref (ad 45)), (4, ii y7)]) rfl rfl rfl ?_
                    refine z_goto (tgt := 31) F dX5_find_117 (by decide +kernel) ?_
                    refine z_loc [4, 2, 1, 5, 0] (ls' := [(0, .ref (ad 45)), (2, ii 0), (3, ii v36), (4, ii y7), (5, ii v37)]) rfl ?_
                    exact ih31 0 v36 v37 M32 hI hW hF (by omega) (by omega) (by omega) (by omega) (by omega) (by omega) (by omega)
                  · refine z_iconst F dX5_find_95 ?_
                    refine z_goto (tgt := 100) F dX5_find_96 (by decide +kernel) ?_
                    refine z_istore_n F dX5_find_100 rfl (by decide) (ls' := [(2, ii 1), (6, ii v31), (0, .ref (ad 45)), (3, ii y13), (4, ii y7), (5, ii y14)]) rfl ?_
                    refine z_iload_n F dX5_find_101 rfl (q := 3) rfl ?_
                    refine z_iload_n F dX5_find_102 rfl (q := 0) rfl ?_
                    refine z_if_eq (tgt := 110) F dX5_find_103 (by decide +kernel) (by omega) (fun c38 => by exfalso; omega) (fun c38 => ?_)
                    refine z_iconst F dX5_find_106 ?_
                    refine z_goto (tgt := 112) F dX5_find_107 (by decide +kernel) ?_
                    refine z_isub F dX5_find_112 ?_
                    refine z_nm (fun v39 ev39 => ?_)
                    refine z_istore_n F dX5_find_113 rfl (by decide) (ls' := [(3, ii v39), (2, ii 1), (6, ii v31), (0, .ref (ad 45)), (4, ii y7), (5, ii y14)]) rfl ?_
                    refine z_iincN F dX5_find_114 (q := 5) rfl (by decide) (fun v40 ev40 => ?_)
                    refine z_eq (ls' := [(5, ii v40), (3, ii v39), (2, ii 1), (6, ii v31), (0, .ref (ad 45)), (4, ii y7)]) rfl rfl rfl ?_
                    refine z_goto (tgt := 31) F dX5_find_117 (by decide +kernel) ?_
                    refine z_loc [4, 2, 1, 5, 0] (ls' := [(0, .ref (ad 45)), (2, ii 1), (3, ii v39), (4, ii y7), (5, ii v40)]) rfl ?_
                    exact ih31 1 v39 v40 M32 hI hW hF (by omega) (by omega) (by omega) (by omega) (by omega) (by omega) (by omega)
set_option maxRecDepth 4000 in
theorem k_X11_placing (l : Launch) (hlT : l.stackTraces = false) (M : Mem) (hJ : Iw M) (x0 : Int) (hx0a : (-2147483648) ≤ x0) (hx0b : x0 ≤ 2147483647) (x1 : Int) (hx1a : (-2147483648) ≤ x1) (hx1b : x1 ≤ 2147483647) : CIX l yX11_placing cX11_placing 3 (some .int) 17 2 (fun ad => [.ref (ad 0), ii x0, ii x1]) M (fun z M' => ((-1) ≤ z ∧ z ≤ 9) ∧ Fr [45, 46, 47] M M') (fun E M' => (E = "java/lang/IllegalArgumentException" ∧ True ∧ Fr [45, 46, 47] M M') ∨ (E = "java/util/NoSuchElementException" ∧ True ∧ Fr [45, 46, 47] M M')) := by
  obtain ⟨hI, hW⟩ := hJ
  have hF : Fr [45, 46, 47] M M := Fr.rf
  refine enx_i (by decide +kernel) (fun ad => by exact Nat.le_of_ble_eq_true rfl) (fun D cy ad A p e s m args below meth c Q F hQ hr hlk hex => ?_)
  refine z_eq (ls' := [(0, .ref (ad 0)), (1, ii x0), (2, ii x1)]) rfl rfl rfl ?_
  refine z_aload_n F dX11_placing_0 rfl (q := 0) rfl ?_
  refine z_iload_n F dX11_placing_1 rfl (q := 2) rfl ?_
  refine zy_v (rest := []) F (k_X11_needThing l hlT M ⟨hI, hW⟩ x1 (by omega) (by omega)) cs_X11_132 (T := TX11) (N := 14) (ci := 11) rfl gs_0 (by decide) (by decide) ⟨by decide, by decide⟩ rfl rfl rfl (Nat.le_of_ble_eq_true rfl) dX11_placing_2 (fun E M9 hJ9 hx => by obtain ⟨h9, g9, rfl⟩ := hx <;> first | (exact zx_out hQ hlk hex ⟨by decide, by decide⟩ hJ9 (Or.inr (⟨h9, trivial, hF⟩)))) (fun M1 hI p2 => ?_)
  obtain ⟨hI, hW⟩ := hI
  obtain ⟨rfl, xp2⟩ := p2
  refine z_iload_n F dX11_placing_5 rfl (q := 1) rfl ?_
  refine z_if_ge (tgt := 20) F dX11_placing_6 (by decide +kernel) (by omega) (fun c3 => ?_) (fun c3 => ?_)
  · refine z_aload_n F dX11_placing_20 rfl (q := 0) rfl ?_
    refine rf_X11_66 F gs_0 rfl dX11_placing_21 ?_
    refine z_iload_n F dX11_placing_24 rfl (q := 1) rfl ?_
    refine zw_i (rest := []) F (k_X5_find_45 l M ⟨hI, hW⟩ x0 (by omega) (by omega)) cs_X11_324 (T := TX5) (N := 9) (ci := 5) rfl gs_45 (by decide) (by decide) ⟨by decide, by decide⟩ rfl rfl rfl (Nat.le_of_ble_eq_true rfl) dX11_placing_25 (fun v4 M5 rv4 hI p6 => ?_)
    obtain ⟨hI, hW⟩ := hI
    obtain ⟨⟨av4, bv4⟩, fp6⟩ := p6
    have hF := hF.call fp6 (by decide)
    refine z_if_eq (tgt := 43) F dX11_placing_28 (by decide +kernel) (by omega) (fun c7 => ?_) (fun c7 => ?_)
    · refine z_iconst F dX11_placing_43 ?_
      exact zxr_i F hQ hr hlk dX11_placing_44 ⟨by decide, by decide⟩ (by omega) ⟨hI, hW⟩ ⟨⟨by omega, by omega⟩, hF⟩
    · refine z_aload_n F dX11_placing_31 rfl (q := 0) rfl ?_
      refine rf_X11_66 F gs_0 rfl dX11_placing_32 ?_
      refine rf_X11_327 F gs_45 rfl dX11_placing_35 ?_
      refine z_iload_n F dX11_placing_38 rfl (q := 2) rfl ?_
      refine z_iald F hI gs_47 (by omega) (by omega) (by decide) bd_47 dX11_placing_39 (fun v8 (ev8 : v8 = M5 47 _) av8 bv8 => ?_)
      refine z_goto (tgt := 44) F dX11_placing_40 (by decide +kernel) ?_
      exact zxr_i F hQ hr hlk dX11_placing_44 ⟨by decide, by decide⟩ (by omega) ⟨hI, hW⟩ ⟨⟨by omega, by omega⟩, hF⟩
  · exact z_thrSW (cls := "java/lang/IllegalArgumentException") (names := ["java/lang/RuntimeException", "java/lang/Exception"]) (j := 42) F hlT hQ hlk hex (by decide +kernel) (by decide +kernel) (by decide) (gin lm_360 rfl) (gin lm_361 rfl) at_X11_105 bad_X11_105 (by decide +kernel) ot_X11_105 rfl rfl rfl dX11_placing_9 dX11_placing_12 dX11_placing_13 dX11_placing_16 dX11_placing_19 ⟨by decide, by decide⟩ (Nat.le_of_ble_eq_true rfl) ⟨hI, hW⟩ (Or.inl ⟨rfl, trivial, hF⟩)
