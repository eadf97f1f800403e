theorem dX6_beginLine_0 : decode cX6_beginLine 0 = .ok (.iload_n 1, 1) := by decide +kernel
theorem dX6_beginLine_1 : decode cX6_beginLine 1 = .ok (.iload_n 2, 1) := by decide +kernel
theorem dX6_beginLine_10 : decode cX6_beginLine 10 = .ok (.goto 7, 3) := by decide +kernel
theorem dX6_beginLine_13 : decode cX6_beginLine 13 = .ok (.aload_n 0, 1) := by decide +kernel
theorem dX6_beginLine_14 : decode cX6_beginLine 14 = .ok (.invokevirtual 42, 3) := by decide +kernel
theorem dX6_beginLine_17 : decode cX6_beginLine 17 = .ok (.return_, 1) := by decide +kernel
theorem dX6_beginLine_2 : decode cX6_beginLine 2 = .ok (.if_icmp .lt 11, 3) := by decide +kernel
theorem dX6_beginLine_5 : decode cX6_beginLine 5 = .ok (.aload_n 0, 1) := by decide +kernel
theorem dX6_beginLine_6 : decode cX6_beginLine 6 = .ok (.iconst 4, 1) := by decide +kernel
theorem dX6_beginLine_7 : decode cX6_beginLine 7 = .ok (.invokevirtual 82, 3) := by decide +kernel
theorem dX6_needWord_0 : decode cX6_needWord 0 = .ok (.aload_n 0, 1) := by decide +kernel
theorem dX6_needWord_1 : decode cX6_needWord 1 = .ok (.aload_n 1, 1) := by decide +kernel
theorem dX6_needWord_12 : decode cX6_needWord 12 = .ok (.goto 7, 3) := by decide +kernel
theorem dX6_needWord_15 : decode cX6_needWord 15 = .ok (.aload_n 0, 1) := by decide +kernel
theorem dX6_needWord_16 : decode cX6_needWord 16 = .ok (.invokevirtual 90, 3) := by decide +kernel
theorem dX6_needWord_19 : decode cX6_needWord 19 = .ok (.return_, 1) := by decide +kernel
theorem dX6_needWord_2 : decode cX6_needWord 2 = .ok (.invokevirtual 86, 3) := by decide +kernel
theorem dX6_needWord_5 : decode cX6_needWord 5 = .ok (.ifCond .eq 10, 3) := by decide +kernel
theorem dX6_needWord_8 : decode cX6_needWord 8 = .ok (.aload_n 0, 1) := by decide +kernel
theorem dX6_needWord_9 : decode cX6_needWord 9 = .ok (.invokevirtual 42, 3) := by decide +kernel
theorem dX6_readEvent_0 : decode cX6_readEvent 0 = .ok (.aload_n 0, 1) := by decide +kernel
theorem dX6_readEvent_1 : decode cX6_readEvent 1 = .ok (.aload_n 0, 1) := by decide +kernel
theorem dX6_readEvent_10 : decode cX6_readEvent 10 = .ok (.invokevirtual 166, 3) := by decide +kernel
theorem dX6_readEvent_100 : decode cX6_readEvent 100 = .ok (.getfield 218, 3) := by decide +kernel
theorem dX6_readEvent_103 : decode cX6_readEvent 103 = .ok (.iload 5, 2) := by decide +kernel
theorem dX6_readEvent_105 : decode cX6_readEvent 105 = .ok (.iload_n 2, 1) := by decide +kernel
theorem dX6_readEvent_106 : decode cX6_readEvent 106 = .ok (.iastore, 1) := by decide +kernel
theorem dX6_readEvent_107 : decode cX6_readEvent 107 = .ok (.aload_n 0, 1) := by decide +kernel
theorem dX6_readEvent_108 : decode cX6_readEvent 108 = .ok (.getfield 12, 3) := by decide +kernel
theorem dX6_readEvent_111 : decode cX6_readEvent 111 = .ok (.getfield 221, 3) := by decide +kernel
theorem dX6_readEvent_114 : decode cX6_readEvent 114 = .ok (.iload 5, 2) := by decide +kernel
theorem dX6_readEvent_116 : decode cX6_readEvent 116 = .ok (.iload_n 3, 1) := by decide +kernel
theorem dX6_readEvent_117 : decode cX6_readEvent 117 = .ok (.ifCond .eq 9, 3) := by decide +kernel
theorem dX6_readEvent_120 : decode cX6_readEvent 120 = .ok (.iload 4, 2) := by decide +kernel
theorem dX6_readEvent_122 : decode cX6_readEvent 122 = .ok (.ineg, 1) := by decide +kernel
theorem dX6_readEvent_123 : decode cX6_readEvent 123 = .ok (.goto 5, 3) := by decide +kernel
theorem dX6_readEvent_126 : decode cX6_readEvent 126 = .ok (.iload 4, 2) := by decide +kernel
theorem dX6_readEvent_128 : decode cX6_readEvent 128 = .ok (.iastore, 1) := by decide +kernel
theorem dX6_readEvent_129 : decode cX6_readEvent 129 = .ok (.aload_n 0, 1) := by decide +kernel
theorem dX6_readEvent_13 : decode cX6_readEvent 13 = .ok (.aload_n 0, 1) := by decide +kernel
theorem dX6_readEvent_130 : decode cX6_readEvent 130 = .ok (.getfield 12, 3) := by decide +kernel
theorem dX6_readEvent_133 : decode cX6_readEvent 133 = .ok (.dup, 1) := by decide +kernel
theorem dX6_readEvent_134 : decode cX6_readEvent 134 = .ok (.getfield 208, 3) := by decide +kernel
theorem dX6_readEvent_137 : decode cX6_readEvent 137 = .ok (.iconst 1, 1) := by decide +kernel
theorem dX6_readEvent_138 : decode cX6_readEvent 138 = .ok (.iadd, 1) := by decide +kernel
theorem dX6_readEvent_139 : decode cX6_readEvent 139 = .ok (.putfield 208, 3) := by decide +kernel
theorem dX6_readEvent_14 : decode cX6_readEvent 14 = .ok (.iconst 0, 1) := by decide +kernel
theorem dX6_readEvent_142 : decode cX6_readEvent 142 = .ok (.return_, 1) := by decide +kernel
theorem dX6_readEvent_15 : decode cX6_readEvent 15 = .ok (.sipush 999, 3) := by decide +kernel
theorem dX6_readEvent_18 : decode cX6_readEvent 18 = .ok (.invokevirtual 110, 3) := by decide +kernel
theorem dX6_readEvent_2 : decode cX6_readEvent 2 = .ok (.getfield 12, 3) := by decide +kernel
theorem dX6_readEvent_21 : decode cX6_readEvent 21 = .ok (.istore_n 1, 1) := by decide +kernel
theorem dX6_readEvent_22 : decode cX6_readEvent 22 = .ok (.aload_n 0, 1) := by decide +kernel
theorem dX6_readEvent_23 : decode cX6_readEvent 23 = .ok (.ldc 132, 2) := by decide +kernel
theorem dX6_readEvent_25 : decode cX6_readEvent 25 = .ok (.invokevirtual 106, 3) := by decide +kernel
theorem dX6_readEvent_28 : decode cX6_readEvent 28 = .ok (.aload_n 0, 1) := by decide +kernel
theorem dX6_readEvent_29 : decode cX6_readEvent 29 = .ok (.iconst 0, 1) := by decide +kernel
theorem dX6_readEvent_30 : decode cX6_readEvent 30 = .ok (.aload_n 0, 1) := by decide +kernel
theorem dX6_readEvent_31 : decode cX6_readEvent 31 = .ok (.getfield 12, 3) := by decide +kernel
theorem dX6_readEvent_34 : decode cX6_readEvent 34 = .ok (.getfield 181, 3) := by decide +kernel
theorem dX6_readEvent_37 : decode cX6_readEvent 37 = .ok (.iconst 1, 1) := by decide +kernel
theorem dX6_readEvent_38 : decode cX6_readEvent 38 = .ok (.isub, 1) := by decide +kernel
theorem dX6_readEvent_39 : decode cX6_readEvent 39 = .ok (.invokevirtual 110, 3) := by decide +kernel
theorem dX6_readEvent_42 : decode cX6_readEvent 42 = .ok (.istore_n 2, 1) := by decide +kernel
theorem dX6_readEvent_43 : decode cX6_readEvent 43 = .ok (.aload_n 0, 1) := by decide +kernel
theorem dX6_readEvent_44 : decode cX6_readEvent 44 = .ok (.ldc 211, 2) := by decide +kernel
theorem dX6_readEvent_46 : decode cX6_readEvent 46 = .ok (.invokevirtual 144, 3) := by decide +kernel
theorem dX6_readEvent_49 : decode cX6_readEvent 49 = .ok (.istore_n 3, 1) := by decide +kernel
theorem dX6_readEvent_5 : decode cX6_readEvent 5 = .ok (.getfield 208, 3) := by decide +kernel
theorem dX6_readEvent_50 : decode cX6_readEvent 50 = .ok (.iload_n 3, 1) := by decide +kernel
theorem dX6_readEvent_51 : decode cX6_readEvent 51 = .ok (.ifCond .ne 9, 3) := by decide +kernel
theorem dX6_readEvent_54 : decode cX6_readEvent 54 = .ok (.aload_n 0, 1) := by decide +kernel
theorem dX6_readEvent_55 : decode cX6_readEvent 55 = .ok (.ldc 213, 2) := by decide +kernel
theorem dX6_readEvent_57 : decode cX6_readEvent 57 = .ok (.invokevirtual 106, 3) := by decide +kernel
theorem dX6_readEvent_60 : decode cX6_readEvent 60 = .ok (.aload_n 0, 1) := by decide +kernel
theorem dX6_readEvent_61 : decode cX6_readEvent 61 = .ok (.iconst 1, 1) := by decide +kernel
theorem dX6_readEvent_62 : decode cX6_readEvent 62 = .ok (.bipush 9, 2) := by decide +kernel
theorem dX6_readEvent_64 : decode cX6_readEvent 64 = .ok (.invokevirtual 110, 3) := by decide +kernel
theorem dX6_readEvent_67 : decode cX6_readEvent 67 = .ok (.istore 4, 2) := by decide +kernel
theorem dX6_readEvent_69 : decode cX6_readEvent 69 = .ok (.aload_n 0, 1) := by decide +kernel
theorem dX6_readEvent_70 : decode cX6_readEvent 70 = .ok (.getfield 36, 3) := by decide +kernel
theorem dX6_readEvent_73 : decode cX6_readEvent 73 = .ok (.ifCond .ne 69, 3) := by decide +kernel
theorem dX6_readEvent_76 : decode cX6_readEvent 76 = .ok (.aload_n 0, 1) := by decide +kernel
theorem dX6_readEvent_77 : decode cX6_readEvent 77 = .ok (.getfield 12, 3) := by decide +kernel
theorem dX6_readEvent_8 : decode cX6_readEvent 8 = .ok (.bipush 6, 2) := by decide +kernel
theorem dX6_readEvent_80 : decode cX6_readEvent 80 = .ok (.getfield 208, 3) := by decide +kernel
theorem dX6_readEvent_83 : decode cX6_readEvent 83 = .ok (.istore 5, 2) := by decide +kernel
theorem dX6_readEvent_85 : decode cX6_readEvent 85 = .ok (.aload_n 0, 1) := by decide +kernel
theorem dX6_readEvent_86 : decode cX6_readEvent 86 = .ok (.getfield 12, 3) := by decide +kernel
theorem dX6_readEvent_89 : decode cX6_readEvent 89 = .ok (.getfield 215, 3) := by decide +kernel
theorem dX6_readEvent_92 : decode cX6_readEvent 92 = .ok (.iload 5, 2) := by decide +kernel
theorem dX6_readEvent_94 : decode cX6_readEvent 94 = .ok (.iload_n 1, 1) := by decide +kernel
theorem dX6_readEvent_95 : decode cX6_readEvent 95 = .ok (.iastore, 1) := by decide +kernel
theorem dX6_readEvent_96 : decode cX6_readEvent 96 = .ok (.aload_n 0, 1) := by decide +kernel
theorem dX6_readEvent_97 : decode cX6_readEvent 97 = .ok (.getfield 12, 3) := by decide +kernel
theorem dX6_readZero_0 : decode cX6_readZero 0 = .ok (.aload_n 0, 1) := by decide +kernel
theorem dX6_readZero_1 : decode cX6_readZero 1 = .ok (.ldc 223, 2) := by decide +kernel
theorem dX6_readZero_10 : decode cX6_readZero 10 = .ok (.getfield 12, 3) := by decide +kernel
theorem dX6_readZero_13 : decode cX6_readZero 13 = .ok (.getfield 152, 3) := by decide +kernel
theorem dX6_readZero_16 : decode cX6_readZero 16 = .ok (.iconst 1, 1) := by decide +kernel
theorem dX6_readZero_17 : decode cX6_readZero 17 = .ok (.putfield 225, 3) := by decide +kernel
theorem dX6_readZero_20 : decode cX6_readZero 20 = .ok (.goto 76, 3) := by decide +kernel
theorem dX6_readZero_23 : decode cX6_readZero 23 = .ok (.aload_n 0, 1) := by decide +kernel
theorem dX6_readZero_24 : decode cX6_readZero 24 = .ok (.ldc 228, 2) := by decide +kernel
theorem dX6_readZero_26 : decode cX6_readZero 26 = .ok (.invokevirtual 144, 3) := by decide +kernel
theorem dX6_readZero_29 : decode cX6_readZero 29 = .ok (.ifCond .eq 17, 3) := by decide +kernel
theorem dX6_readZero_3 : decode cX6_readZero 3 = .ok (.invokevirtual 144, 3) := by decide +kernel
theorem dX6_readZero_32 : decode cX6_readZero 32 = .ok (.aload_n 0, 1) := by decide +kernel
theorem dX6_readZero_33 : decode cX6_readZero 33 = .ok (.getfield 12, 3) := by decide +kernel
theorem dX6_readZero_36 : decode cX6_readZero 36 = .ok (.getfield 152, 3) := by decide +kernel
theorem dX6_readZero_39 : decode cX6_readZero 39 = .ok (.iconst 2, 1) := by decide +kernel
theorem dX6_readZero_40 : decode cX6_readZero 40 = .ok (.putfield 225, 3) := by decide +kernel
theorem dX6_readZero_43 : decode cX6_readZero 43 = .ok (.goto 53, 3) := by decide +kernel
theorem dX6_readZero_46 : decode cX6_readZero 46 = .ok (.aload_n 0, 1) := by decide +kernel
theorem dX6_readZero_47 : decode cX6_readZero 47 = .ok (.ldc 230, 2) := by decide +kernel
theorem dX6_readZero_49 : decode cX6_readZero 49 = .ok (.invokevirtual 144, 3) := by decide +kernel
theorem dX6_readZero_52 : decode cX6_readZero 52 = .ok (.ifCond .eq 17, 3) := by decide +kernel
theorem dX6_readZero_55 : decode cX6_readZero 55 = .ok (.aload_n 0, 1) := by decide +kernel
theorem dX6_readZero_56 : decode cX6_readZero 56 = .ok (.getfield 12, 3) := by decide +kernel
theorem dX6_readZero_59 : decode cX6_readZero 59 = .ok (.getfield 152, 3) := by decide +kernel
theorem dX6_readZero_6 : decode cX6_readZero 6 = .ok (.ifCond .eq 17, 3) := by decide +kernel
theorem dX6_readZero_62 : decode cX6_readZero 62 = .ok (.iconst 3, 1) := by decide +kernel
theorem dX6_readZero_63 : decode cX6_readZero 63 = .ok (.putfield 225, 3) := by decide +kernel
theorem dX6_readZero_66 : decode cX6_readZero 66 = .ok (.goto 30, 3) := by decide +kernel
theorem dX6_readZero_69 : decode cX6_readZero 69 = .ok (.aload_n 0, 1) := by decide +kernel
theorem dX6_readZero_70 : decode cX6_readZero 70 = .ok (.ldc 232, 2) := by decide +kernel
theorem dX6_readZero_72 : decode cX6_readZero 72 = .ok (.invokevirtual 144, 3) := by decide +kernel
theorem dX6_readZero_75 : decode cX6_readZero 75 = .ok (.ifCond .eq 17, 3) := by decide +kernel
theorem dX6_readZero_78 : decode cX6_readZero 78 = .ok (.aload_n 0, 1) := by decide +kernel
theorem dX6_readZero_79 : decode cX6_readZero 79 = .ok (.getfield 12, 3) := by decide +kernel
theorem dX6_readZero_82 : decode cX6_readZero 82 = .ok (.getfield 152, 3) := by decide +kernel
theorem dX6_readZero_85 : decode cX6_readZero 85 = .ok (.iconst 0, 1) := by decide +kernel
theorem dX6_readZero_86 : decode cX6_readZero 86 = .ok (.putfield 225, 3) := by decide +kernel
theorem dX6_readZero_89 : decode cX6_readZero 89 = .ok (.goto 7, 3) := by decide +kernel
theorem dX6_readZero_9 : decode cX6_readZero 9 = .ok (.aload_n 0, 1) := by decide +kernel
theorem dX6_readZero_92 : decode cX6_readZero 92 = .ok (.aload_n 0, 1) := by decide +kernel
theorem dX6_readZero_93 : decode cX6_readZero 93 = .ok (.invokevirtual 90, 3) := by decide +kernel
theorem dX6_readZero_96 : decode cX6_readZero 96 = .ok (.return_, 1) := by decide +kernel
theorem dX6_takeNumberBut_0 : decode cX6_takeNumberBut 0 = .ok (.aload_n 0, 1) := by decide +kernel
theorem dX6_takeNumberBut_1 : decode cX6_takeNumberBut 1 = .ok (.getfield 36, 3) := by decide +kernel
theorem dX6_takeNumberBut_11 : decode cX6_takeNumberBut 11 = .ok (.iconst 2, 1) := by decide +kernel
theorem dX6_takeNumberBut_12 : decode cX6_takeNumberBut 12 = .ok (.if_icmp .eq 9, 3) := by decide +kernel
theorem dX6_takeNumberBut_15 : decode cX6_takeNumberBut 15 = .ok (.aload_n 0, 1) := by decide +kernel
theorem dX6_takeNumberBut_16 : decode cX6_takeNumberBut 16 = .ok (.invokevirtual 90, 3) := by decide +kernel
theorem dX6_takeNumberBut_19 : decode cX6_takeNumberBut 19 = .ok (.iconst (-1), 1) := by decide +kernel
theorem dX6_takeNumberBut_20 : decode cX6_takeNumberBut 20 = .ok (.ireturn, 1) := by decide +kernel
theorem dX6_takeNumberBut_21 : decode cX6_takeNumberBut 21 = .ok (.aload_n 0, 1) := by decide +kernel
theorem dX6_takeNumberBut_22 : decode cX6_takeNumberBut 22 = .ok (.getfield 60, 3) := by decide +kernel
theorem dX6_takeNumberBut_25 : decode cX6_takeNumberBut 25 = .ok (.iload_n 1, 1) := by decide +kernel
theorem dX6_takeNumberBut_26 : decode cX6_takeNumberBut 26 = .ok (.if_icmp .lt 22, 3) := by decide +kernel
theorem dX6_takeNumberBut_29 : decode cX6_takeNumberBut 29 = .ok (.aload_n 0, 1) := by decide +kernel
theorem dX6_takeNumberBut_30 : decode cX6_takeNumberBut 30 = .ok (.getfield 60, 3) := by decide +kernel
theorem dX6_takeNumberBut_33 : decode cX6_takeNumberBut 33 = .ok (.iload_n 2, 1) := by decide +kernel
theorem dX6_takeNumberBut_34 : decode cX6_takeNumberBut 34 = .ok (.if_icmp .gt 14, 3) := by decide +kernel
theorem dX6_takeNumberBut_37 : decode cX6_takeNumberBut 37 = .ok (.iload_n 3, 1) := by decide +kernel
theorem dX6_takeNumberBut_38 : decode cX6_takeNumberBut 38 = .ok (.aload_n 0, 1) := by decide +kernel
theorem dX6_takeNumberBut_39 : decode cX6_takeNumberBut 39 = .ok (.getfield 60, 3) := by decide +kernel
theorem dX6_takeNumberBut_4 : decode cX6_takeNumberBut 4 = .ok (.ifCond .ne 11, 3) := by decide +kernel
theorem dX6_takeNumberBut_42 : decode cX6_takeNumberBut 42 = .ok (.invokestatic 100, 3) := by decide +kernel
theorem dX6_takeNumberBut_45 : decode cX6_takeNumberBut 45 = .ok (.ifCond .eq 10, 3) := by decide +kernel
theorem dX6_takeNumberBut_48 : decode cX6_takeNumberBut 48 = .ok (.aload_n 0, 1) := by decide +kernel
theorem dX6_takeNumberBut_49 : decode cX6_takeNumberBut 49 = .ok (.iconst 3, 1) := by decide +kernel
theorem dX6_takeNumberBut_50 : decode cX6_takeNumberBut 50 = .ok (.invokevirtual 82, 3) := by decide +kernel
theorem dX6_takeNumberBut_53 : decode cX6_takeNumberBut 53 = .ok (.iconst (-1), 1) := by decide +kernel
theorem dX6_takeNumberBut_54 : decode cX6_takeNumberBut 54 = .ok (.ireturn, 1) := by decide +kernel
theorem dX6_takeNumberBut_55 : decode cX6_takeNumberBut 55 = .ok (.aload_n 0, 1) := by decide +kernel
theorem dX6_takeNumberBut_56 : decode cX6_takeNumberBut 56 = .ok (.getfield 60, 3) := by decide +kernel
theorem dX6_takeNumberBut_59 : decode cX6_takeNumberBut 59 = .ok (.istore 4, 2) := by decide +kernel
theorem dX6_takeNumberBut_61 : decode cX6_takeNumberBut 61 = .ok (.aload_n 0, 1) := by decide +kernel
theorem dX6_takeNumberBut_62 : decode cX6_takeNumberBut 62 = .ok (.invokevirtual 42, 3) := by decide +kernel
theorem dX6_takeNumberBut_65 : decode cX6_takeNumberBut 65 = .ok (.iload 4, 2) := by decide +kernel
theorem dX6_takeNumberBut_67 : decode cX6_takeNumberBut 67 = .ok (.ireturn, 1) := by decide +kernel
theorem dX6_takeNumberBut_7 : decode cX6_takeNumberBut 7 = .ok (.aload_n 0, 1) := by decide +kernel
theorem dX6_takeNumberBut_8 : decode cX6_takeNumberBut 8 = .ok (.getfield 48, 3) := by decide +kernel
theorem dX6_takeNumber_0 : decode cX6_takeNumber 0 = .ok (.aload_n 0, 1) := by decide +kernel
theorem dX6_takeNumber_1 : decode cX6_takeNumber 1 = .ok (.iload_n 1, 1) := by decide +kernel
theorem dX6_takeNumber_2 : decode cX6_takeNumber 2 = .ok (.iload_n 2, 1) := by decide +kernel
theorem dX6_takeNumber_3 : decode cX6_takeNumber 3 = .ok (.iconst 0, 1) := by decide +kernel
theorem dX6_takeNumber_4 : decode cX6_takeNumber 4 = .ok (.invokevirtual 97, 3) := by decide +kernel
theorem dX6_takeNumber_7 : decode cX6_takeNumber 7 = .ok (.ireturn, 1) := by decide +kernel
theorem dX9_homes_0 : decode cX9_homes 0 = .ok (.iconst 0, 1) := by decide +kernel
theorem dX9_homes_1 : decode cX9_homes 1 = .ok (.istore_n 1, 1) := by decide +kernel
theorem dX9_homes_12 : decode cX9_homes 12 = .ok (.iload_n 1, 1) := by decide +kernel
theorem dX9_homes_13 : decode cX9_homes 13 = .ok (.iconst 1, 1) := by decide +kernel
theorem dX9_homes_14 : decode cX9_homes 14 = .ok (.aload_n 0, 1) := by decide +kernel
theorem dX9_homes_15 : decode cX9_homes 15 = .ok (.getfield 21, 3) := by decide +kernel
theorem dX9_homes_18 : decode cX9_homes 18 = .ok (.iload_n 2, 1) := by decide +kernel
theorem dX9_homes_19 : decode cX9_homes 19 = .ok (.iaload, 1) := by decide +kernel
theorem dX9_homes_2 : decode cX9_homes 2 = .ok (.iconst 0, 1) := by decide +kernel
theorem dX9_homes_20 : decode cX9_homes 20 = .ok (.ishl, 1) := by decide +kernel
theorem dX9_homes_21 : decode cX9_homes 21 = .ok (.ior, 1) := by decide +kernel
theorem dX9_homes_22 : decode cX9_homes 22 = .ok (.istore_n 1, 1) := by decide +kernel
theorem dX9_homes_23 : decode cX9_homes 23 = .ok (.iinc 2 1, 3) := by decide +kernel
theorem dX9_homes_26 : decode cX9_homes 26 = .ok (.goto (-22), 3) := by decide +kernel
theorem dX9_homes_29 : decode cX9_homes 29 = .ok (.iload_n 1, 1) := by decide +kernel
theorem dX9_homes_3 : decode cX9_homes 3 = .ok (.istore_n 2, 1) := by decide +kernel
theorem dX9_homes_30 : decode cX9_homes 30 = .ok (.ireturn, 1) := by decide +kernel
theorem dX9_homes_4 : decode cX9_homes 4 = .ok (.iload_n 2, 1) := by decide +kernel
theorem dX9_homes_5 : decode cX9_homes 5 = .ok (.aload_n 0, 1) := by decide +kernel
theorem dX9_homes_6 : decode cX9_homes 6 = .ok (.getfield 62, 3) := by decide +kernel
theorem dX9_homes_9 : decode cX9_homes 9 = .ok (.if_icmp .ge 20, 3) := by decide +kernel
set_option maxHeartbeats 4000000 in
set_option maxRecDepth 4000 in
theorem kp_X6_isWord_18_1015 (l : Launch) (M : Mem) (hJ : Iw M) (hp0 : M 18 6 ≤ M 18 5 ∧ M 18 5 ≤ M 18 4) : CI l yX6_isWord cX6_isWord 3 (some .boolean) 5 (fun ad => [.ref (ad 18), .ref (ad 1015)]) M (fun z M' => (0 ≤ z ∧ z ≤ 1) ∧ M = M') := by
  obtain ⟨hI, hW⟩ := hJ
  refine en_z (by decide +kernel) (fun ad => by exact Nat.le_of_ble_eq_true rfl) (fun D cy ad A p e s m args below meth c Q F hret => ?_)
  refine z_eq (ls' := [(0, .ref (ad 18)), (1, .ref (ad 1015))]) rfl rfl rfl ?_
  obtain ⟨u1, eu1⟩ : ∃ v : Int, v = M 18 1 := ⟨_, rfl⟩
  have ku1 : (-2147483648) ≤ u1 ∧ u1 ≤ 2147483647 := by have := hI.at (show Bd 18 1 = (-2147483648, 2147483647) from rfl); omega
  obtain ⟨u2, eu2⟩ : ∃ v : Int, v = M 18 4 := ⟨_, rfl⟩
  have ku2 : 0 ≤ u2 ∧ u2 ≤ 900 := by have := hI.at (show Bd 18 4 = (0, 900) from rfl); omega
  obtain ⟨u3, eu3⟩ : ∃ v : Int, v = M 18 5 := ⟨_, rfl⟩
  have ku3 : 0 ≤ u3 ∧ u3 ≤ 900 := by have := hI.at (show Bd 18 5 = (0, 900) from rfl); omega
  obtain ⟨u4, eu4⟩ : ∃ v : Int, v = M 18 6 := ⟨_, rfl⟩
  have ku4 : 0 ≤ u4 ∧ u4 ≤ 900 := by have := hI.at (show Bd 18 6 = (0, 900) from rfl); omega
  refine z_aload_n F dX6_isWord_0 rfl (q := 0) rfl ?_
  refine gf_X6_36 F hI gs_18 rfl bd_18_1 dX6_isWord_1 (fun v5 ev5 av5 bv5 => ?_)
  have zv5 : u1 = v5 := eu1.trans ev5.symm
  subst zv5
  refine z_if_ne (tgt := 31) F dX6_isWord_4 (by decide +kernel) (by omega) (fun c6 => ?_) (fun c6 => ?_)
  · refine z_iconst F dX6_isWord_31 ?_
    exact hret _ _ 32 _ ⟨by omega, by omega⟩ ⟨hI, hW⟩ ⟨⟨by omega, by omega⟩, rfl⟩ dX6_isWord_32
  · refine z_aload_n F dX6_isWord_7 rfl (q := 0) rfl ?_
    refine gf_X6_48 F hI gs_18 rfl bd_18_7 dX6_isWord_8 (fun v7 ev7 av7 bv7 => ?_)
    refine z_iconst F dX6_isWord_11 ?_
    refine z_icmp_ne (tgt := 31) F dX6_isWord_12 (by decide +kernel) (by omega) (by omega) (fun c8 => ?_) (fun c8 => ?_)
    · refine z_iconst F dX6_isWord_31 ?_
      exact hret _ _ 32 _ ⟨by omega, by omega⟩ ⟨hI, hW⟩ ⟨⟨by omega, by omega⟩, rfl⟩ dX6_isWord_32
    · refine z_aload_n F dX6_isWord_15 rfl (q := 0) rfl ?_
      refine gf_X6_33 F hI gs_18 rfl bd_18_5 dX6_isWord_16 (fun v9 ev9 av9 bv9 => ?_)
      have zv9 : u3 = v9 := eu3.trans ev9.symm
      subst zv9
      refine z_aload_n F dX6_isWord_19 rfl (q := 0) rfl ?_
      refine gf_X6_57 F hI gs_18 rfl bd_18_6 dX6_isWord_20 (fun v10 ev10 av10 bv10 => ?_)
      have zv10 : u4 = v10 := eu4.trans ev10.symm
      subst zv10
      refine z_isub F dX6_isWord_23 ?_
      refine z_aload_n F dX6_isWord_24 rfl (q := 1) rfl ?_
      refine zvs_i (i := 15) (rest := [ii (u3 - u4)]) F (kS_len l M ⟨hI, hW⟩ 15 (by decide)) cs_X6_75 (by decide) (by decide) (by decide) rfl rfl rfl (Nat.le_of_ble_eq_true rfl) dX6_isWord_25 (fun v11 M9 rv11 hI9 pv11 => ?_)
      obtain ⟨ev11, rfl⟩ := pv11
      obtain rfl : v11 = 3 := ev11.trans (show ((sbyt.getD 15 []).length : Int) = 3 from by decide)
      clear hI9
      refine z_icmp_eq (tgt := 33) F dX6_isWord_28 (by decide +kernel) (by omega) (by omega) (fun c12 => ?_) (fun c12 => ?_)
      · refine z_iconst F dX6_isWord_33 ?_
        refine z_istore_n F dX6_isWord_34 rfl (by decide) (ls' := [(2, ii 0), (0, .ref (ad 18)), (1, .ref (ad 1015))]) rfl ?_
        refine z_loc [1, 2, 0] (ls' := [(0, .ref (ad 18)), (1, .ref (ad 1015)), (2, ii 0)]) rfl ?_
        suffices key35 : ∀ (n : Nat) (y14 : Int), 0 ≤ y14 → y14 ≤ 3 → 3 - y14 < (n : Int) → Z D cy ad p l e (RMh 5) s m args below meth c A 3 0 0 Q 35 [(0, .ref (ad 18)), (1, .ref (ad 1015)), (2, ii y14)] [] M from key35 4 0 (by omega) (by omega) (by omega)
        intro n35
        induction n35 with
        | zero => intro y14 ay14 by14 hn35; exfalso; omega
        | succ n35 ih35 =>
          intro y14 ay14 by14 hn35
          refine z_iload_n F dX6_isWord_35 rfl (q := 2) rfl ?_
          refine z_aload_n F dX6_isWord_36 rfl (q := 1) rfl ?_
          refine zvs_i (i := 15) (rest := [ii y14]) F (kS_len l M ⟨hI, hW⟩ 15 (by decide)) cs_X6_75 (by decide) (by decide) (by decide) rfl rfl rfl (Nat.le_of_ble_eq_true rfl) dX6_isWord_37 (fun v15 M9 rv15 hI9 pv15 => ?_)
          obtain ⟨ev15, rfl⟩ := pv15
          obtain rfl : v15 = 3 := ev15.trans (show ((sbyt.getD 15 []).length : Int) = 3 from by decide)
          clear hI9
          refine z_icmp_ge (tgt := 70) F dX6_isWord_40 (by decide +kernel) (by omega) (by omega) (fun c16 => ?_) (fun c16 => ?_)
          · refine z_iconst F dX6_isWord_70 ?_
            exact hret _ _ 71 _ ⟨by omega, by omega⟩ ⟨hI, hW⟩ ⟨⟨by omega, by omega⟩, rfl⟩ dX6_isWord_71
          · refine z_aload_n F dX6_isWord_43 rfl (q := 0) rfl ?_
            refine rf_X6_22 F gs_18 rfl dX6_isWord_44 ?_
            refine z_aload_n F dX6_isWord_47 rfl (q := 0) rfl ?_
            refine gf_X6_57 F hI gs_18 rfl bd_18_6 dX6_isWord_48 (fun v17 ev17 av17 bv17 => ?_)
            have zv17 : u4 = v17 := eu4.trans ev17.symm
            subst zv17
            refine z_iload_n F dX6_isWord_51 rfl (q := 2) rfl ?_
            refine z_iadd F dX6_isWord_52 ?_
            have k18 : 0 ≤ (u4 + y14) ∧ (u4 + y14) ≤ 899 := by omega
            refine z_bald F hI gs_1 (by omega) (by omega) (by decide) bd_1 dX6_isWord_53 (fun v19 (ev19 : v19 = M 1 _) av19 bv19 => ?_)
            refine z_aload_n F dX6_isWord_54 rfl (q := 1) rfl ?_
            refine z_iload_n F dX6_isWord_55 rfl (q := 2) rfl ?_
            refine zvs_i (i := 15) (rest := [ii v19]) F (kS_chr l M ⟨hI, hW⟩ 15 (by decide) y14 (by omega) (show y14 < ((sbyt.getD 15 []).length : Int) from by rw [show ((sbyt.getD 15 []).length : Int) = 3 from by decide]; omega)) cs_X6_78 (by decide) (by decide) (by decide) rfl rfl rfl (Nat.le_of_ble_eq_true rfl) dX6_isWord_56 (fun v20 M9 rv20 hI9 pv20 => ?_)
            obtain ⟨⟨av20, bv20⟩, rfl⟩ := pv20
            clear hI9
            refine z_icmp_eq (tgt := 64) F dX6_isWord_59 (by decide +kernel) (by omega) (by omega) (fun c21 => ?_) (fun c21 => ?_)
            · refine z_iincN F dX6_isWord_64 (q := 2) rfl (by decide) (fun v22 ev22 => ?_)
              refine z_eq (ls' := [(2, ii v22), (0, .ref (ad 18)), (1, .ref (ad 1015))]) rfl rfl rfl ?_
              refine z_goto (tgt := 35) F dX6_isWord_67 (by decide +kernel) ?_
              refine z_loc [1, 2, 0] (ls' := [(0, .ref (ad 18)), (1, .ref (ad 1015)), (2, ii v22)]) rfl ?_
              exact ih35 v22 (by omega) (by omega) (by omega)
            · refine z_iconst F dX6_isWord_62 ?_
              exact hret _ _ 63 _ ⟨by omega, by omega⟩ ⟨hI, hW⟩ ⟨⟨by omega, by omega⟩, rfl⟩ dX6_isWord_63
      · refine z_iconst F dX6_isWord_31 ?_
        exact hret _ _ 32 _ ⟨by omega, by omega⟩ ⟨hI, hW⟩ ⟨⟨by omega, by omega⟩, rfl⟩ dX6_isWord_32
set_option maxHeartbeats 4000000 in
set_option maxRecDepth 4000 in
theorem kp_X6_takeWord_18_1015 (l : Launch) (M : Mem) (hJ : Iw M) (hp0 : M 18 6 ≤ M 18 5 ∧ M 18 5 ≤ M 18 4) : CI l yX6_takeWord cX6_takeWord 3 (some .boolean) 7 (fun ad => [.ref (ad 18), .ref (ad 1015)]) M (fun z M' => (0 ≤ z ∧ z ≤ 1) ∧ Fr [18] M M' ∧ (M' 18 4 = M 18 4 ∧ M' 18 6 ≤ M' 18 5 ∧ M' 18 5 ≤ M' 18 4 ∧ M' 18 1 = M 18 1)) := by
  obtain ⟨hI, hW⟩ := hJ
  have hF : Fr [18] M M := Fr.rf
  refine en_z (by decide +kernel) (fun ad => by exact Nat.le_of_ble_eq_true rfl) (fun D cy ad A p e s m args below meth c Q F hret => ?_)
  refine z_eq (ls' := [(0, .ref (ad 18)), (1, .ref (ad 1015))]) rfl rfl rfl ?_
  refine z_aload_n F dX6_takeWord_0 rfl (q := 0) rfl ?_
  refine z_aload_n F dX6_takeWord_1 rfl (q := 1) rfl ?_
  refine zv_i (rest := []) F (kp_X6_isWord_18_1015 l M ⟨hI, hW⟩ (by omega)) cs_X6_86 (T := TX6) (N := 9) (ci := 6) rfl gs_18 (by decide) (by decide) rfl rfl rfl (Nat.le_of_ble_eq_true rfl) dX6_takeWord_2 (fun v1 M2 rv1 hI p3 => ?_)
  obtain ⟨hI, hW⟩ := hI
  obtain ⟨⟨av1, bv1⟩, rfl⟩ := p3
  refine z_istore_n F dX6_takeWord_5 rfl (by decide) (ls' := [(2, ii v1), (0, .ref (ad 18)), (1, .ref (ad 1015))]) rfl ?_
  refine z_iload_n F dX6_takeWord_6 rfl (q := 0) rfl ?_
  refine z_if_eq (tgt := 14) F dX6_takeWord_7 (by decide +kernel) (by omega) (fun c4 => ?_) (fun c4 => ?_)
  · refine z_iload_n F dX6_takeWord_14 rfl (q := 0) rfl ?_
    exact hret _ _ 15 _ ⟨by omega, by omega⟩ ⟨hI, hW⟩ ⟨⟨by omega, by omega⟩, hF, (by omega)⟩ dX6_takeWord_15
  · refine z_aload_n F dX6_takeWord_10 rfl (q := 1) rfl ?_
    refine zv_v (rest := []) F (kp_X6_advance_18 l M ⟨hI, hW⟩ (by omega)) cs_X6_42 (T := TX6) (N := 9) (ci := 6) rfl gs_18 (by decide) (by decide) rfl rfl rfl (Nat.le_of_ble_eq_true rfl) dX6_takeWord_11 (fun M5 hI p6 => ?_)
    obtain ⟨hI, hW⟩ := hI
    obtain ⟨fp6, xp6⟩ := p6
    have hF := hF.call fp6 (by decide)
    refine z_iload_n F dX6_takeWord_14 rfl (q := 0) rfl ?_
    exact hret _ _ 15 _ ⟨by omega, by omega⟩ ⟨hI, hW⟩ ⟨⟨by omega, by omega⟩, hF, (by omega)⟩ dX6_takeWord_15
set_option maxHeartbeats 4000000 in
set_option maxRecDepth 4000 in
theorem kp_X6_isWord_18_1016 (l : Launch) (M : Mem) (hJ : Iw M) (hp0 : M 18 6 ≤ M 18 5 ∧ M 18 5 ≤ M 18 4) : CI l yX6_isWord cX6_isWord 3 (some .boolean) 5 (fun ad => [.ref (ad 18), .ref (ad 1016)]) M (fun z M' => (0 ≤ z ∧ z ≤ 1) ∧ M = M') := by
  obtain ⟨hI, hW⟩ := hJ
  refine en_z (by decide +kernel) (fun ad => by exact Nat.le_of_ble_eq_true rfl) (fun D cy ad A p e s m args below meth c Q F hret => ?_)
  refine z_eq (ls' := [(0, .ref (ad 18)), (1, .ref (ad 1016))]) rfl rfl rfl ?_
  obtain ⟨u1, eu1⟩ : ∃ v : Int, v = M 18 1 := ⟨_, rfl⟩
  have ku1 : (-2147483648) ≤ u1 ∧ u1 ≤ 2147483647 := by have := hI.at (show Bd 18 1 = (-2147483648, 2147483647) from rfl); omega
  obtain ⟨u2, eu2⟩ : ∃ v : Int, v = M 18 4 := ⟨_, rfl⟩
  have ku2 : 0 ≤ u2 ∧ u2 ≤ 900 := by have := hI.at (show Bd 18 4 = (0, 900) from rfl); omega
  obtain ⟨u3, eu3⟩ : ∃ v : Int, v = M 18 5 := ⟨_, rfl⟩
  have ku3 : 0 ≤ u3 ∧ u3 ≤ 900 := by have := hI.at (show Bd 18 5 = (0, 900) from rfl); omega
  obtain ⟨u4, eu4⟩ : ∃ v : Int, v = M 18 6 := ⟨_, rfl⟩
  have ku4 : 0 ≤ u4 ∧ u4 ≤ 900 := by have := hI.at (show Bd 18 6 = (0, 900) from rfl); omega
  refine z_aload_n F dX6_isWord_0 rfl (q := 0) rfl ?_
  refine gf_X6_36 F hI gs_18 rfl bd_18_1 dX6_isWord_1 (fun v5 ev5 av5 bv5 => ?_)
  have zv5 : u1 = v5 := eu1.trans ev5.symm
  subst zv5
  refine z_if_ne (tgt := 31) F dX6_isWord_4 (by decide +kernel) (by omega) (fun c6 => ?_) (fun c6 => ?_)
  · refine z_iconst F dX6_isWord_31 ?_
    exact hret _ _ 32 _ ⟨by omega, by omega⟩ ⟨hI, hW⟩ ⟨⟨by omega, by omega⟩, rfl⟩ dX6_isWord_32
  · refine z_aload_n F dX6_isWord_7 rfl (q := 0) rfl ?_
    refine gf_X6_48 F hI gs_18 rfl bd_18_7 dX6_isWord_8 (fun v7 ev7 av7 bv7 => ?_)
    refine z_iconst F dX6_isWord_11 ?_
    refine z_icmp_ne (tgt := 31) F dX6_isWord_12 (by decide +kernel) (by omega) (by omega) (fun c8 => ?_) (fun c8 => ?_)
    · refine z_iconst F dX6_isWord_31 ?_
      exact hret _ _ 32 _ ⟨by omega, by omega⟩ ⟨hI, hW⟩ ⟨⟨by omega, by omega⟩, rfl⟩ dX6_isWord_32
    · refine z_aload_n F dX6_isWord_15 rfl (q := 0) rfl ?_
      refine gf_X6_33 F hI gs_18 rfl bd_18_5 dX6_isWord_16 (fun v9 ev9 av9 bv9 => ?_)
      have zv9 : u3 = v9 := eu3.trans ev9.symm
      subst zv9
      refine z_aload_n F dX6_isWord_19 rfl (q := 0) rfl ?_
      refine gf_X6_57 F hI gs_18 rfl bd_18_6 dX6_isWord_20 (fun v10 ev10 av10 bv10 => ?_)
      have zv10 : u4 = v10 := eu4.trans ev10.symm
      subst zv10
      refine z_isub F dX6_isWord_23 ?_
      refine z_aload_n F dX6_isWord_24 rfl (q := 1) rfl ?_
      refine zvs_i (i := 16) (rest := [ii (u3 - u4)]) F (kS_len l M ⟨hI, hW⟩ 16 (by decide)) cs_X6_75 (by decide) (by decide) (by decide) rfl rfl rfl (Nat.le_of_ble_eq_true rfl) dX6_isWord_25 (fun v11 M9 rv11 hI9 pv11 => ?_)
      obtain ⟨ev11, rfl⟩ := pv11
      obtain rfl : v11 = 4 := ev11.trans (show ((sbyt.getD 16 []).length : Int) = 4 from by decide)
      clear hI9
      refine z_icmp_eq (tgt := 33) F dX6_isWord_28 (by decide +kernel) (by omega) (by omega) (fun c12 => ?_) (fun c12 => ?_)
      · refine z_iconst F dX6_isWord_33 ?_
        refine z_istore_n F dX6_isWord_34 rfl (by decide) (ls' := [(2, ii 0), (0, .ref (ad 18)), (1, .ref (ad 1016))]) rfl ?_
        refine z_loc [1, 2, 0] (ls' := [(0, .ref (ad 18)), (1, .ref (ad 1016)), (2, ii 0)]) rfl ?_
        suffices key35 : ∀ (n : Nat) (y14 : Int), 0 ≤ y14 → y14 ≤ 4 → 4 - y14 < (n : Int) → Z D cy ad p l e (RMh 5) s m args below meth c A 3 0 0 Q 35 [(0, .ref (ad 18)), (1, .ref (ad 1016)), (2, ii y14)] [] M from key35 5 0 (by omega) (by omega) (by omega)
        intro n35
        induction n35 with
        | zero => intro y14 ay14 by14 hn35; exfalso; omega
        | succ n35 ih35 =>
          intro y14 ay14 by14 hn35
          refine z_iload_n F dX6_isWord_35 rfl (q := 2) rfl ?_
          refine z_aload_n F dX6_isWord_36 rfl (q := 1) rfl ?_
          refine zvs_i (i := 16) (rest := [ii y14]) F (kS_len l M ⟨hI, hW⟩ 16 (by decide)) cs_X6_75 (by decide) (by decide) (by decide) rfl rfl rfl (Nat.le_of_ble_eq_true rfl) dX6_isWord_37 (fun v15 M9 rv15 hI9 pv15 => ?_)
          obtain ⟨ev15, rfl⟩ := pv15
          obtain rfl : v15 = 4 := ev15.trans (show ((sbyt.getD 16 []).length : Int) = 4 from by decide)
          clear hI9
          refine z_icmp_ge (tgt := 70) F dX6_isWord_40 (by decide +kernel) (by omega) (by omega) (fun c16 => ?_) (fun c16 => ?_)
          · refine z_iconst F dX6_isWord_70 ?_
            exact hret _ _ 71 _ ⟨by omega, by omega⟩ ⟨hI, hW⟩ ⟨⟨by omega, by omega⟩, rfl⟩ dX6_isWord_71
          · refine z_aload_n F dX6_isWord_43 rfl (q := 0) rfl ?_
            refine rf_X6_22 F gs_18 rfl dX6_isWord_44 ?_
            refine z_aload_n F dX6_isWord_47 rfl (q := 0) rfl ?_
            refine gf_X6_57 F hI gs_18 rfl bd_18_6 dX6_isWord_48 (fun v17 ev17 av17 bv17 => ?_)
            have zv17 : u4 = v17 := eu4.trans ev17.symm
            subst zv17
            refine z_iload_n F dX6_isWord_51 rfl (q := 2) rfl ?_
            refine z_iadd F dX6_isWord_52 ?_
            have k18 : 0 ≤ (u4 + y14) ∧ (u4 + y14) ≤ 899 := by omega
            refine z_bald F hI gs_1 (by omega) (by omega) (by decide) bd_1 dX6_isWord_53 (fun v19 (ev19 : v19 = M 1 _) av19 bv19 => ?_)
            refine z_aload_n F dX6_isWord_54 rfl (q := 1) rfl ?_
            refine z_iload_n F dX6_isWord_55 rfl (q := 2) rfl ?_
            refine zvs_i (i := 16) (rest := [ii v19]) F (kS_chr l M ⟨hI, hW⟩ 16 (by decide) y14 (by omega) (show y14 < ((sbyt.getD 16 []).length : Int) from by rw [show ((sbyt.getD 16 []).length : Int) = 4 from by decide]; omega)) cs_X6_78 (by decide) (by decide) (by decide) rfl rfl rfl (Nat.le_of_ble_eq_true rfl) dX6_isWord_56 (fun v20 M9 rv20 hI9 pv20 => ?_)
            obtain ⟨⟨av20, bv20⟩, rfl⟩ := pv20
            clear hI9
            refine z_icmp_eq (tgt := 64) F dX6_isWord_59 (by decide +kernel) (by omega) (by omega) (fun c21 => ?_) (fun c21 => ?_)
            · refine z_iincN F dX6_isWord_64 (q := 2) rfl (by decide) (fun v22 ev22 => ?_)
              refine z_eq (ls' := [(2, ii v22), (0, .ref (ad 18)), (1, .ref (ad 1016))]) rfl rfl rfl ?_
              refine z_goto (tgt := 35) F dX6_isWord_67 (by decide +kernel) ?_
              refine z_loc [1, 2, 0] (ls' := [(0, .ref (ad 18)), (1, .ref (ad 1016)), (2, ii v22)]) rfl ?_
              exact ih35 v22 (by omega) (by omega) (by omega)
            · refine z_iconst F dX6_isWord_62 ?_
              exact hret _ _ 63 _ ⟨by omega, by omega⟩ ⟨hI, hW⟩ ⟨⟨by omega, by omega⟩, rfl⟩ dX6_isWord_63
      · refine z_iconst F dX6_isWord_31 ?_
        exact hret _ _ 32 _ ⟨by omega, by omega⟩ ⟨hI, hW⟩ ⟨⟨by omega, by omega⟩, rfl⟩ dX6_isWord_32
set_option maxHeartbeats 4000000 in
set_option maxRecDepth 4000 in
theorem kp_X6_takeWord_18_1016 (l : Launch) (M : Mem) (hJ : Iw M) (hp0 : M 18 6 ≤ M 18 5 ∧ M 18 5 ≤ M 18 4) : CI l yX6_takeWord cX6_takeWord 3 (some .boolean) 7 (fun ad => [.ref (ad 18), .ref (ad 1016)]) M (fun z M' => (0 ≤ z ∧ z ≤ 1) ∧ Fr [18] M M' ∧ (M' 18 4 = M 18 4 ∧ M' 18 6 ≤ M' 18 5 ∧ M' 18 5 ≤ M' 18 4 ∧ M' 18 1 = M 18 1)) := by
  obtain ⟨hI, hW⟩ := hJ
  have hF : Fr [18] M M := Fr.rf
  refine en_z (by decide +kernel) (fun ad => by exact Nat.le_of_ble_eq_true rfl) (fun D cy ad A p e s m args below meth c Q F hret => ?_)
  refine z_eq (ls' := [(0, .ref (ad 18)), (1, .ref (ad 1016))]) rfl rfl rfl ?_
  refine z_aload_n F dX6_takeWord_0 rfl (q := 0) rfl ?_
  refine z_aload_n F dX6_takeWord_1 rfl (q := 1) rfl ?_
  refine zv_i (rest := []) F (kp_X6_isWord_18_1016 l M ⟨hI, hW⟩ (by omega)) cs_X6_86 (T := TX6) (N := 9) (ci := 6) rfl gs_18 (by decide) (by decide) rfl rfl rfl (Nat.le_of_ble_eq_true rfl) dX6_takeWord_2 (fun v1 M2 rv1 hI p3 => ?_)
  obtain ⟨hI, hW⟩ := hI
  obtain ⟨⟨av1, bv1⟩, rfl⟩ := p3
  refine z_istore_n F dX6_takeWord_5 rfl (by decide) (ls' := [(2, ii v1), (0, .ref (ad 18)), (1, .ref (ad 1016))]) rfl ?_
  refine z_iload_n F dX6_takeWord_6 rfl (q := 0) rfl ?_
  refine z_if_eq (tgt := 14) F dX6_takeWord_7 (by decide +kernel) (by omega) (fun c4 => ?_) (fun c4 => ?_)
  · refine z_iload_n F dX6_takeWord_14 rfl (q := 0) rfl ?_
    exact hret _ _ 15 _ ⟨by omega, by omega⟩ ⟨hI, hW⟩ ⟨⟨by omega, by omega⟩, hF, (by omega)⟩ dX6_takeWord_15
  · refine z_aload_n F dX6_takeWord_10 rfl (q := 1) rfl ?_
    refine zv_v (rest := []) F (kp_X6_advance_18 l M ⟨hI, hW⟩ (by omega)) cs_X6_42 (T := TX6) (N := 9) (ci := 6) rfl gs_18 (by decide) (by decide) rfl rfl rfl (Nat.le_of_ble_eq_true rfl) dX6_takeWord_11 (fun M5 hI p6 => ?_)
    obtain ⟨hI, hW⟩ := hI
    obtain ⟨fp6, xp6⟩ := p6
    have hF := hF.call fp6 (by decide)
    refine z_iload_n F dX6_takeWord_14 rfl (q := 0) rfl ?_
    exact hret _ _ 15 _ ⟨by omega, by omega⟩ ⟨hI, hW⟩ ⟨⟨by omega, by omega⟩, hF, (by omega)⟩ dX6_takeWord_15
set_option maxHeartbeats 4000000 in
set_option maxRecDepth 4000 in
theorem kp_X6_isWord_18_1017 (l : Launch) (M : Mem) (hJ : Iw M) (hp0 : M 18 6 ≤ M 18 5 ∧ M 18 5 ≤ M 18 4) : CI l yX6_isWord cX6_isWord 3 (some .boolean) 5 (fun ad => [.ref (ad 18), .ref (ad 1017)]) M (fun z M' => (0 ≤ z ∧ z ≤ 1) ∧ M = M') := by
  obtain ⟨hI, hW⟩ := hJ
  refine en_z (by decide +kernel) (fun ad => by exact Nat.le_of_ble_eq_true rfl) (fun D cy ad A p e s m args below meth c Q F hret => ?_)
  refine z_eq (ls' := [(0, .ref (ad 18)), (1, .ref (ad 1017))]) rfl rfl rfl ?_
  obtain ⟨u1, eu1⟩ : ∃ v : Int, v = M 18 1 := ⟨_, rfl⟩
  have ku1 : (-2147483648) ≤ u1 ∧ u1 ≤ 2147483647 := by have := hI.at (show Bd 18 1 = (-2147483648, 2147483647) from rfl); omega
  obtain ⟨u2, eu2⟩ : ∃ v : Int, v = M 18 4 := ⟨_, rfl⟩
  have ku2 : 0 ≤ u2 ∧ u2 ≤ 900 := by have := hI.at (show Bd 18 4 = (0, 900) from rfl); omega
  obtain ⟨u3, eu3⟩ : ∃ v : Int, v = M 18 5 := ⟨_, rfl⟩
  have ku3 : 0 ≤ u3 ∧ u3 ≤ 900 := by have := hI.at (show Bd 18 5 = (0, 900) from rfl); omega
  obtain ⟨u4, eu4⟩ : ∃ v : Int, v = M 18 6 := ⟨_, rfl⟩
  have ku4 : 0 ≤ u4 ∧ u4 ≤ 900 := by have := hI.at (show Bd 18 6 = (0, 900) from rfl); omega
  refine z_aload_n F dX6_isWord_0 rfl (q := 0) rfl ?_
  refine gf_X6_36 F hI gs_18 rfl bd_18_1 dX6_isWord_1 (fun v5 ev5 av5 bv5 => ?_)
  have zv5 : u1 = v5 := eu1.trans ev5.symm
  subst zv5
  refine z_if_ne (tgt := 31) F dX6_isWord_4 (by decide +kernel) (by omega) (fun c6 => ?_) (fun c6 => ?_)
  · refine z_iconst F dX6_isWord_31 ?_
    exact hret _ _ 32 _ ⟨by omega, by omega⟩ ⟨hI, hW⟩ ⟨⟨by omega, by omega⟩, rfl⟩ dX6_isWord_32
  · refine z_aload_n F dX6_isWord_7 rfl (q := 0) rfl ?_
    refine gf_X6_48 F hI gs_18 rfl bd_18_7 dX6_isWord_8 (fun v7 ev7 av7 bv7 => ?_)
    refine z_iconst F dX6_isWord_11 ?_
    refine z_icmp_ne (tgt := 31) F dX6_isWord_12 (by decide +kernel) (by omega) (by omega) (fun c8 => ?_) (fun c8 => ?_)
    · refine z_iconst F dX6_isWord_31 ?_
      exact hret _ _ 32 _ ⟨by omega, by omega⟩ ⟨hI, hW⟩ ⟨⟨by omega, by omega⟩, rfl⟩ dX6_isWord_32
    · refine z_aload_n F dX6_isWord_15 rfl (q := 0) rfl ?_
      refine gf_X6_33 F hI gs_18 rfl bd_18_5 dX6_isWord_16 (fun v9 ev9 av9 bv9 => ?_)
      have zv9 : u3 = v9 := eu3.trans ev9.symm
      subst zv9
      refine z_aload_n F dX6_isWord_19 rfl (q := 0) rfl ?_
      refine gf_X6_57 F hI gs_18 rfl bd_18_6 dX6_isWord_20 (fun v10 ev10 av10 bv10 => ?_)
      have zv10 : u4 = v10 := eu4.trans ev10.symm
      subst zv10
      refine z_isub F dX6_isWord_23 ?_
      refine z_aload_n F dX6_isWord_24 rfl (q := 1) rfl ?_
      refine zvs_i (i := 17) (rest := [ii (u3 - u4)]) F (kS_len l M ⟨hI, hW⟩ 17 (by decide)) cs_X6_75 (by decide) (by decide) (by decide) rfl rfl rfl (Nat.le_of_ble_eq_true rfl) dX6_isWord_25 (fun v11 M9 rv11 hI9 pv11 => ?_)
      obtain ⟨ev11, rfl⟩ := pv11
      obtain rfl : v11 = 7 := ev11.trans (show ((sbyt.getD 17 []).length : Int) = 7 from by decide)
      clear hI9
      refine z_icmp_eq (tgt := 33) F dX6_isWord_28 (by decide +kernel) (by omega) (by omega) (fun c12 => ?_) (fun c12 => ?_)
      · refine z_iconst F dX6_isWord_33 ?_
        refine z_istore_n F dX6_isWord_34 rfl (by decide) (ls' := [(2, ii 0), (0, .ref (ad 18)), (1, .ref (ad 1017))]) rfl ?_
        refine z_loc [1, 2, 0] (ls' := [(0, .ref (ad 18)), (1, .ref (ad 1017)), (2, ii 0)]) rfl ?_
        suffices key35 : ∀ (n : Nat) (y14 : Int), 0 ≤ y14 → y14 ≤ 7 → 7 - y14 < (n : Int) → Z D cy ad p l e (RMh 5) s m args below meth c A 3 0 0 Q 35 [(0, .ref (ad 18)), (1, .ref (ad 1017)), (2, ii y14)] [] M from key35 8 0 (by omega) (by omega) (by omega)
        intro n35
        induction n35 with
        | zero => intro y14 ay14 by14 hn35; exfalso; omega
        | succ n35 ih35 =>
          intro y14 ay14 by14 hn35
          refine z_iload_n F dX6_isWord_35 rfl (q := 2) rfl ?_
          refine z_aload_n F dX6_isWord_36 rfl (q := 1) rfl ?_
          refine zvs_i (i := 17) (rest := [ii y14]) F (kS_len l M ⟨hI, hW⟩ 17 (by decide)) cs_X6_75 (by decide) (by decide) (by decide) rfl rfl rfl (Nat.le_of_ble_eq_true rfl) dX6_isWord_37 (fun v15 M9 rv15 hI9 pv15 => ?_)
          obtain ⟨ev15, rfl⟩ := pv15
          obtain rfl : v15 = 7 := ev15.trans (show ((sbyt.getD 17 []).length : Int) = 7 from by decide)
          clear hI9
          refine z_icmp_ge (tgt := 70) F dX6_isWord_40 (by decide +kernel) (by omega) (by omega) (fun c16 => ?_) (fun c16 => ?_)
          · refine z_iconst F dX6_isWord_70 ?_
            exact hret _ _ 71 _ ⟨by omega, by omega⟩ ⟨hI, hW⟩ ⟨⟨by omega, by omega⟩, rfl⟩ dX6_isWord_71
          · refine z_aload_n F dX6_isWord_43 rfl (q := 0) rfl ?_
            refine rf_X6_22 F gs_18 rfl dX6_isWord_44 ?_
            refine z_aload_n F dX6_isWord_47 rfl (q := 0) rfl ?_
            refine gf_X6_57 F hI gs_18 rfl bd_18_6 dX6_isWord_48 (fun v17 ev17 av17 bv17 => ?_)
            have zv17 : u4 = v17 := eu4.trans ev17.symm
            subst zv17
            refine z_iload_n F dX6_isWord_51 rfl (q := 2) rfl ?_
            refine z_iadd F dX6_isWord_52 ?_
            have k18 : 0 ≤ (u4 + y14) ∧ (u4 + y14) ≤ 899 := by omega
            refine z_bald F hI gs_1 (by omega) (by omega) (by decide) bd_1 dX6_isWord_53 (fun v19 (ev19 : v19 = M 1 _) av19 bv19 => ?_)
            refine z_aload_n F dX6_isWord_54 rfl (q := 1) rfl ?_
            refine z_iload_n F dX6_isWord_55 rfl (q := 2) rfl ?_
            refine zvs_i (i := 17) (rest := [ii v19]) F (kS_chr l M ⟨hI, hW⟩ 17 (by decide) y14 (by omega) (show y14 < ((sbyt.getD 17 []).length : Int) from by rw [show ((sbyt.getD 17 []).length : Int) = 7 from by decide]; omega)) cs_X6_78 (by decide) (by decide) (by decide) rfl rfl rfl (Nat.le_of_ble_eq_true rfl) dX6_isWord_56 (fun v20 M9 rv20 hI9 pv20 => ?_)
            obtain ⟨⟨av20, bv20⟩, rfl⟩ := pv20
            clear hI9
            refine z_icmp_eq (tgt := 64) F dX6_isWord_59 (by decide +kernel) (by omega) (by omega) (fun c21 => ?_) (fun c21 => ?_)
            · refine z_iincN F dX6_isWord_64 (q := 2) rfl (by decide) (fun v22 ev22 => ?_)
              refine z_eq (ls' := [(2, ii v22), (0, .ref (ad 18)), (1, .ref (ad 1017))]) rfl rfl rfl ?_
              refine z_goto (tgt := 35) F dX6_isWord_67 (by decide +kernel) ?_
              refine z_loc [1, 2, 0] (ls' := [(0, .ref (ad 18)), (1, .ref (ad 1017)), (2, ii v22)]) rfl ?_
              exact ih35 v22 (by omega) (by omega) (by omega)
            · refine z_iconst F dX6_isWord_62 ?_
              exact hret _ _ 63 _ ⟨by omega, by omega⟩ ⟨hI, hW⟩ ⟨⟨by omega, by omega⟩, rfl⟩ dX6_isWord_63
      · refine z_iconst F dX6_isWord_31 ?_
        exact hret _ _ 32 _ ⟨by omega, by omega⟩ ⟨hI, hW⟩ ⟨⟨by omega, by omega⟩, rfl⟩ dX6_isWord_32
set_option maxHeartbeats 4000000 in
set_option maxRecDepth 4000 in
theorem kp_X6_takeWord_18_1017 (l : Launch) (M : Mem) (hJ : Iw M) (hp0 : M 18 6 ≤ M 18 5 ∧ M 18 5 ≤ M 18 4) : CI l yX6_takeWord cX6_takeWord 3 (some .boolean) 7 (fun ad => [.ref (ad 18), .ref (ad 1017)]) M (fun z M' => (0 ≤ z ∧ z ≤ 1) ∧ Fr [18] M M' ∧ (M' 18 4 = M 18 4 ∧ M' 18 6 ≤ M' 18 5 ∧ M' 18 5 ≤ M' 18 4 ∧ M' 18 1 = M 18 1)) := by
  obtain ⟨hI, hW⟩ := hJ
  have hF : Fr [18] M M := Fr.rf
  refine en_z (by decide +kernel) (fun ad => by exact Nat.le_of_ble_eq_true rfl) (fun D cy ad A p e s m args below meth c Q F hret => ?_)
  refine z_eq (ls' := [(0, .ref (ad 18)), (1, .ref (ad 1017))]) rfl rfl rfl ?_
  refine z_aload_n F dX6_takeWord_0 rfl (q := 0) rfl ?_
  refine z_aload_n F dX6_takeWord_1 rfl (q := 1) rfl ?_
  refine zv_i (rest := []) F (kp_X6_isWord_18_1017 l M ⟨hI, hW⟩ (by omega)) cs_X6_86 (T := TX6) (N := 9) (ci := 6) rfl gs_18 (by decide) (by decide) rfl rfl rfl (Nat.le_of_ble_eq_true rfl) dX6_takeWord_2 (fun v1 M2 rv1 hI p3 => ?_)
  obtain ⟨hI, hW⟩ := hI
  obtain ⟨⟨av1, bv1⟩, rfl⟩ := p3
  refine z_istore_n F dX6_takeWord_5 rfl (by decide) (ls' := [(2, ii v1), (0, .ref (ad 18)), (1, .ref (ad 1017))]) rfl ?_
  refine z_iload_n F dX6_takeWord_6 rfl (q := 0) rfl ?_
  refine z_if_eq (tgt := 14) F dX6_takeWord_7 (by decide +kernel) (by omega) (fun c4 => ?_) (fun c4 => ?_)
  · refine z_iload_n F dX6_takeWord_14 rfl (q := 0) rfl ?_
    exact hret _ _ 15 _ ⟨by omega, by omega⟩ ⟨hI, hW⟩ ⟨⟨by omega, by omega⟩, hF, (by omega)⟩ dX6_takeWord_15
  · refine z_aload_n F dX6_takeWord_10 rfl (q := 1) rfl ?_
    refine zv_v (rest := []) F (kp_X6_advance_18 l M ⟨hI, hW⟩ (by omega)) cs_X6_42 (T := TX6) (N := 9) (ci := 6) rfl gs_18 (by decide) (by decide) rfl rfl rfl (Nat.le_of_ble_eq_true rfl) dX6_takeWord_11 (fun M5 hI p6 => ?_)
    obtain ⟨hI, hW⟩ := hI
    obtain ⟨fp6, xp6⟩ := p6
    have hF := hF.call fp6 (by decide)
    refine z_iload_n F dX6_takeWord_14 rfl (q := 0) rfl ?_
    exact hret _ _ 15 _ ⟨by omega, by omega⟩ ⟨hI, hW⟩ ⟨⟨by omega, by omega⟩, hF, (by omega)⟩ dX6_takeWord_15
set_option maxHeartbeats 4000000 in
set_option maxRecDepth 4000 in
theorem kp_X6_readZero_18 (l : Launch) (M : Mem) (hJ : Iw M) (hp0 : M 18 6 ≤ M 18 5 ∧ M 18 5 ≤ M 18 4) : CV l yX6_readZero cX6_readZero 1 none 8 (fun ad => [.ref (ad 18)]) M (fun M' => Fr [18, 31] M M' ∧ (M' 18 4 = M 18 4 ∧ M' 18 6 ≤ M' 18 5 ∧ M' 18 5 ≤ M' 18 4)) := by
  obtain ⟨hI, hW⟩ := hJ
  have hF : Fr [18, 31] M M := Fr.rf
  refine en_v (by decide +kernel) (fun ad => by exact Nat.le_of_ble_eq_true rfl) (fun D cy ad A p e s m args below meth c Q F hret => ?_)
  refine z_eq (ls' := [(0, .ref (ad 18))]) rfl rfl rfl ?_
  refine z_aload_n F dX6_readZero_0 rfl (q := 0) rfl ?_
  refine z_ldcS (j := 14) F dX6_readZero_1 rfl rfl rfl ?_
  refine z_eq (st' := [.ref (ad 1014), .ref (ad 18)]) rfl rfl rfl ?_
  refine zv_i (rest := []) F (kp_X6_takeWord_18_1014 l M ⟨hI, hW⟩ (by omega)) cs_X6_144 (T := TX6) (N := 9) (ci := 6) rfl gs_18 (by decide) (by decide) rfl rfl rfl (Nat.le_of_ble_eq_true rfl) dX6_readZero_3 (fun v1 M2 rv1 hI p3 => ?_)
  obtain ⟨hI, hW⟩ := hI
  obtain ⟨⟨av1, bv1⟩, fp3, xp3⟩ := p3
  have hF := hF.call fp3 (by decide)
  refine z_if_eq (tgt := 23) F dX6_readZero_6 (by decide +kernel) (by omega) (fun c4 => ?_) (fun c4 => ?_)
  · refine z_aload_n F dX6_readZero_23 rfl (q := 0) rfl ?_
    refine z_ldcS (j := 15) F dX6_readZero_24 rfl rfl rfl ?_
    refine z_eq (st' := [.ref (ad 1015), .ref (ad 18)]) rfl rfl rfl ?_
    refine zv_i (rest := []) F (kp_X6_takeWord_18_1015 l M2 ⟨hI, hW⟩ (by omega)) cs_X6_144 (T := TX6) (N := 9) (ci := 6) rfl gs_18 (by decide) (by decide) rfl rfl rfl (Nat.le_of_ble_eq_true rfl) dX6_readZero_26 (fun v5 M6 rv5 hI p7 => ?_)
    obtain ⟨hI, hW⟩ := hI
    obtain ⟨⟨av5, bv5⟩, fp7, xp7⟩ := p7
    have hF := hF.call fp7 (by decide)
    refine z_if_eq (tgt := 46) F dX6_readZero_29 (by decide +kernel) (by omega) (fun c8 => ?_) (fun c8 => ?_)
    · refine z_aload_n F dX6_readZero_46 rfl (q := 0) rfl ?_
      refine z_ldcS (j := 16) F dX6_readZero_47 rfl rfl rfl ?_
      refine z_eq (st' := [.ref (ad 1016), .ref (ad 18)]) rfl rfl rfl ?_
      refine zv_i (rest := []) F (kp_X6_takeWord_18_1016 l M6 ⟨hI, hW⟩ (by omega)) cs_X6_144 (T := TX6) (N := 9) (ci := 6) rfl gs_18 (by decide) (by decide) rfl rfl rfl (Nat.le_of_ble_eq_true rfl) dX6_readZero_49 (fun v9 M10 rv9 hI p11 => ?_)
      obtain ⟨hI, hW⟩ := hI
      obtain ⟨⟨av9, bv9⟩, fp11, xp11⟩ := p11
      have hF := hF.call fp11 (by decide)
      refine z_if_eq (tgt := 69) F dX6_readZero_52 (by decide +kernel) (by omega) (fun c12 => ?_) (fun c12 => ?_)
      · refine z_aload_n F dX6_readZero_69 rfl (q := 0) rfl ?_
        refine z_ldcS (j := 17) F dX6_readZero_70 rfl rfl rfl ?_
        refine z_eq (st' := [.ref (ad 1017), .ref (ad 18)]) rfl rfl rfl ?_
        refine zv_i (rest := []) F (kp_X6_takeWord_18_1017 l M10 ⟨hI, hW⟩ (by omega)) cs_X6_144 (T := TX6) (N := 9) (ci := 6) rfl gs_18 (by decide) (by decide) rfl rfl rfl (Nat.le_of_ble_eq_true rfl) dX6_readZero_72 (fun v13 M14 rv13 hI p15 => ?_)
        obtain ⟨hI, hW⟩ := hI
        obtain ⟨⟨av13, bv13⟩, fp15, xp15⟩ := p15
        have hF := hF.call fp15 (by decide)
        refine z_if_eq (tgt := 92) F dX6_readZero_75 (by decide +kernel) (by omega) (fun c16 => ?_) (fun c16 => ?_)
        · refine z_aload_n F dX6_readZero_92 rfl (q := 0) rfl ?_
          refine zv_v (rest := []) F (kp_X6_refuse_18 l M14 ⟨hI, hW⟩) cs_X6_90 (T := TX6) (N := 9) (ci := 6) rfl gs_18 (by decide) (by decide) rfl rfl rfl (Nat.le_of_ble_eq_true rfl) dX6_readZero_93 (fun M17 hI p18 => ?_)
          obtain ⟨hI, hW⟩ := hI
          obtain ⟨fp18, xp18⟩ := p18
          have hF := hF.call fp18 (by decide)
          exact hret _ 96 _ ⟨hI, hW⟩ ⟨hF, (by omega)⟩ dX6_readZero_96
        · refine z_aload_n F dX6_readZero_78 rfl (q := 0) rfl ?_
          refine rf_X6_12 F gs_18 rfl dX6_readZero_79 ?_
          refine rf_X6_152 F gs_19 rfl dX6_readZero_82 ?_
          refine z_iconst F dX6_readZero_85 ?_
          refine pf_X6_225 F hI gs_31 rfl bd_31_2 rfl rfl dX6_readZero_86 (by omega) (by omega) (fun M20 hI sf19 f19 => ?_)
          have tM20_18_1 : M20 18 1 = M14 18 1 := f19 18 1 (fun q => absurd q.1 (by decide))
          have tM20_18_4 : M20 18 4 = M14 18 4 := f19 18 4 (fun q => absurd q.1 (by decide))
          have tM20_18_5 : M20 18 5 = M14 18 5 := f19 18 5 (fun q => absurd q.1 (by decide))
          have tM20_18_6 : M20 18 6 = M14 18 6 := f19 18 6 (fun q => absurd q.1 (by decide))
          have hF := hF.wr f19 (by decide) (by decide)
          have hW : WFk M20 := hW.site f19 (by decide)
          refine z_goto (tgt := 96) F dX6_readZero_89 (by decide +kernel) ?_
          exact hret _ 96 _ ⟨hI, hW⟩ ⟨hF, (by omega)⟩ dX6_readZero_96
      · refine z_aload_n F dX6_readZero_55 rfl (q := 0) rfl ?_
        refine rf_X6_12 F gs_18 rfl dX6_readZero_56 ?_
        refine rf_X6_152 F gs_19 rfl dX6_readZero_59 ?_
        refine z_iconst F dX6_readZero_62 ?_
        refine pf_X6_225 F hI gs_31 rfl bd_31_2 rfl rfl dX6_readZero_63 (by omega) (by omega) (fun M22 hI sf21 f21 => ?_)
        have tM22_18_1 : M22 18 1 = M10 18 1 := f21 18 1 (fun q => absurd q.1 (by decide))
        have tM22_18_4 : M22 18 4 = M10 18 4 := f21 18 4 (fun q => absurd q.1 (by decide))
        have tM22_18_5 : M22 18 5 = M10 18 5 := f21 18 5 (fun q => absurd q.1 (by decide))
        have tM22_18_6 : M22 18 6 = M10 18 6 := f21 18 6 (fun q => absurd q.1 (by decide))
        have hF := hF.wr f21 (by decide) (by decide)
        have hW : WFk M22 := hW.site f21 (by decide)
        refine z_goto (tgt := 96) F dX6_readZero_66 (by decide +kernel) ?_
        exact hret _ 96 _ ⟨hI, hW⟩ ⟨hF, (by omega)⟩ dX6_readZero_96
    · refine z_aload_n F dX6_readZero_32 rfl (q := 0) rfl ?_
      refine rf_X6_12 F gs_18 rfl dX6_readZero_33 ?_
      refine rf_X6_152 F gs_19 rfl dX6_readZero_36 ?_
      refine z_iconst F dX6_readZero_39 ?_
      refine pf_X6_225 F hI gs_31 rfl bd_31_2 rfl rfl dX6_readZero_40 (by omega) (by omega) (fun M24 hI sf23 f23 => ?_)
      have tM24_18_1 : M24 18 1 = M6 18 1 := f23 18 1 (fun q => absurd q.1 (by decide))
      have tM24_18_4 : M24 18 4 = M6 18 4 := f23 18 4 (fun q => absurd q.1 (by decide))
      have tM24_18_5 : M24 18 5 = M6 18 5 := f23 18 5 (fun q => absurd q.1 (by decide))
      have tM24_18_6 : M24 18 6 = M6 18 6 := f23 18 6 (fun q => absurd q.1 (by decide))
      have hF := hF.wr f23 (by decide) (by decide)
      have hW : WFk M24 := hW.site f23 (by decide)
      refine z_goto (tgt := 96) F dX6_readZero_43 (by decide +kernel) ?_
      exact hret _ 96 _ ⟨hI, hW⟩ ⟨hF, (by omega)⟩ dX6_readZero_96
  · refine z_aload_n F dX6_readZero_9 rfl (q := 0) rfl ?_
    refine rf_X6_12 F gs_18 rfl dX6_readZero_10 ?_
    refine rf_X6_152 F gs_19 rfl dX6_readZero_13 ?_
    refine z_iconst F dX6_readZero_16 ?_
    refine pf_X6_225 F hI gs_31 rfl bd_31_2 rfl rfl dX6_readZero_17 (by omega) (by omega) (fun M26 hI sf25 f25 => ?_)
    have tM26_18_1 : M26 18 1 = M2 18 1 := f25 18 1 (fun q => absurd q.1 (by decide))
    have tM26_18_4 : M26 18 4 = M2 18 4 := f25 18 4 (fun q => absurd q.1 (by decide))
    have tM26_18_5 : M26 18 5 = M2 18 5 := f25 18 5 (fun q => absurd q.1 (by decide))
    have tM26_18_6 : M26 18 6 = M2 18 6 := f25 18 6 (fun q => absurd q.1 (by decide))
    have hF := hF.wr f25 (by decide) (by decide)
    have hW : WFk M26 := hW.site f25 (by decide)
    refine z_goto (tgt := 96) F dX6_readZero_20 (by decide +kernel) ?_
    exact hret _ 96 _ ⟨hI, hW⟩ ⟨hF, (by omega)⟩ dX6_readZero_96
set_option maxHeartbeats 4000000 in
set_option maxRecDepth 4000 in
theorem kp_X6_beginLine_18 (l : Launch) (M : Mem) (hJ : Iw M) (x0 : Int) (hx0a : (-2147483648) ≤ x0) (hx0b : x0 ≤ 2147483647) (x1 : Int) (hx1a : 1 ≤ x1) (hx1b : x1 ≤ 100) (hp0 : M 18 6 ≤ M 18 5 ∧ M 18 5 ≤ M 18 4) : CV l yX6_beginLine cX6_beginLine 3 none 7 (fun ad => [.ref (ad 18), ii x0, ii x1]) M (fun M' => Fr [18] M M' ∧ (M' 18 4 = M 18 4 ∧ M' 18 6 ≤ M' 18 5 ∧ M' 18 5 ≤ M' 18 4 ∧ (M' 18 1 = 0 → M 18 1 = 0) ∧ (x1 ≤ x0 → ¬ M' 18 1 = 0))) := by
  obtain ⟨hI, hW⟩ := hJ
  have hF : Fr [18] M M := Fr.rf
  refine en_v (by decide +kernel) (fun ad => by exact Nat.le_of_ble_eq_true rfl) (fun D cy ad A p e s m args below meth c Q F hret => ?_)
  refine z_eq (ls' := [(0, .ref (ad 18)), (1, ii x0), (2, ii x1)]) rfl rfl rfl ?_
  refine z_iload_n F dX6_beginLine_0 rfl (q := 1) rfl ?_
  refine z_iload_n F dX6_beginLine_1 rfl (q := 2) rfl ?_
  refine z_icmp_lt (tgt := 13) F dX6_beginLine_2 (by decide +kernel) (by omega) (by omega) (fun c1 => ?_) (fun c1 => ?_)
  · refine z_aload_n F dX6_beginLine_13 rfl (q := 0) rfl ?_
    refine zv_v (rest := []) F (kp_X6_advance_18 l M ⟨hI, hW⟩ (by omega)) cs_X6_42 (T := TX6) (N := 9) (ci := 6) rfl gs_18 (by decide) (by decide) rfl rfl rfl (Nat.le_of_ble_eq_true rfl) dX6_beginLine_14 (fun M2 hI p3 => ?_)
    obtain ⟨hI, hW⟩ := hI
    obtain ⟨fp3, xp3⟩ := p3
    have hF := hF.call fp3 (by decide)
    exact hret _ 17 _ ⟨hI, hW⟩ ⟨hF, (by omega)⟩ dX6_beginLine_17
  · refine z_aload_n F dX6_beginLine_5 rfl (q := 0) rfl ?_
    refine z_iconst F dX6_beginLine_6 ?_
    refine zv_v (rest := []) F (kp_X6_fail_18 l M ⟨hI, hW⟩ 4 (by omega) (by omega)) cs_X6_82 (T := TX6) (N := 9) (ci := 6) rfl gs_18 (by decide) (by decide) rfl rfl rfl (Nat.le_of_ble_eq_true rfl) dX6_beginLine_7 (fun M4 hI p5 => ?_)
    obtain ⟨hI, hW⟩ := hI
    obtain ⟨fp5, xp5⟩ := p5
    have hF := hF.call fp5 (by decide)
    refine z_goto (tgt := 17) F dX6_beginLine_10 (by decide +kernel) ?_
    exact hret _ 17 _ ⟨hI, hW⟩ ⟨hF, (by omega)⟩ dX6_beginLine_17
set_option maxHeartbeats 4000000 in
set_option maxRecDepth 4000 in
theorem kp_X6_takeNumberBut_18 (l : Launch) (M : Mem) (hJ : Iw M) (x0 : Int) (hx0a : 0 ≤ x0) (hx0b : x0 ≤ 1) (x1 : Int) (hx1a : (-2147483648) ≤ x1) (hx1b : x1 ≤ 2147483647) (x2 : Int) (hx2a : (-2147483648) ≤ x2) (hx2b : x2 ≤ 2147483647) (hp0 : M 18 6 ≤ M 18 5 ∧ M 18 5 ≤ M 18 4) : CI l yX6_takeNumberBut cX6_takeNumberBut 5 (some .int) 7 (fun ad => [.ref (ad 18), ii x0, ii x1, ii x2]) M (fun z M' => ((-1) ≤ z ∧ z ≤ 2147483647) ∧ Fr [18] M M' ∧ (M' 18 4 = M 18 4 ∧ M' 18 6 ≤ M' 18 5 ∧ M' 18 5 ≤ M' 18 4 ∧ (M' 18 1 = 0 → M 18 1 = 0) ∧ (z = -1 ∧ ¬ M' 18 1 = 0 ∨ x0 ≤ z ∧ z ≤ x1))) := by
  obtain ⟨hI, hW⟩ := hJ
  have hF : Fr [18] M M := Fr.rf
  refine en_i (by decide +kernel) (fun ad => by exact Nat.le_of_ble_eq_true rfl) (fun D cy ad A p e s m args below meth c Q F hret => ?_)
  refine z_eq (ls' := [(0, .ref (ad 18)), (1, ii x0), (2, ii x1), (3, ii x2)]) rfl rfl rfl ?_
  refine z_aload_n F dX6_takeNumberBut_0 rfl (q := 0) rfl ?_
  refine gf_X6_36 F hI gs_18 rfl bd_18_1 dX6_takeNumberBut_1 (fun v1 ev1 av1 bv1 => ?_)
  refine z_if_ne (tgt := 15) F dX6_takeNumberBut_4 (by decide +kernel) (by omega) (fun c2 => ?_) (fun c2 => ?_)
  · refine z_aload_n F dX6_takeNumberBut_15 rfl (q := 0) rfl ?_
    refine zv_v (rest := []) F (kp_X6_refuse_18 l M ⟨hI, hW⟩) cs_X6_90 (T := TX6) (N := 9) (ci := 6) rfl gs_18 (by decide) (by decide) rfl rfl rfl (Nat.le_of_ble_eq_true rfl) dX6_takeNumberBut_16 (fun M3 hI p4 => ?_)
    obtain ⟨hI, hW⟩ := hI
    obtain ⟨fp4, xp4⟩ := p4
    have hF := hF.call fp4 (by decide)
    refine z_iconst F dX6_takeNumberBut_19 ?_
    exact hret _ _ 20 _ (by omega) ⟨hI, hW⟩ ⟨⟨by omega, by omega⟩, hF, (by omega)⟩ dX6_takeNumberBut_20
  · refine z_aload_n F dX6_takeNumberBut_7 rfl (q := 0) rfl ?_
    refine gf_X6_48 F hI gs_18 rfl bd_18_7 dX6_takeNumberBut_8 (fun v5 ev5 av5 bv5 => ?_)
    refine z_iconst F dX6_takeNumberBut_11 ?_
    refine z_icmp_eq (tgt := 21) F dX6_takeNumberBut_12 (by decide +kernel) (by omega) (by omega) (fun c6 => ?_) (fun c6 => ?_)
    · refine z_aload_n F dX6_takeNumberBut_21 rfl (q := 0) rfl ?_
      refine gf_X6_60 F hI gs_18 rfl bd_18_8 dX6_takeNumberBut_22 (fun v7 ev7 av7 bv7 => ?_)
      refine z_iload_n F dX6_takeNumberBut_25 rfl (q := 1) rfl ?_
      refine z_icmp_lt (tgt := 48) F dX6_takeNumberBut_26 (by decide +kernel) (by omega) (by omega) (fun c8 => ?_) (fun c8 => ?_)
      · refine z_aload_n F dX6_takeNumberBut_48 rfl (q := 0) rfl ?_
        refine z_iconst F dX6_takeNumberBut_49 ?_
        refine zv_v (rest := []) F (kp_X6_fail_18 l M ⟨hI, hW⟩ 3 (by omega) (by omega)) cs_X6_82 (T := TX6) (N := 9) (ci := 6) rfl gs_18 (by decide) (by decide) rfl rfl rfl (Nat.le_of_ble_eq_true rfl) dX6_takeNumberBut_50 (fun M9 hI p10 => ?_)
        obtain ⟨hI, hW⟩ := hI
        obtain ⟨fp10, xp10⟩ := p10
        have hF := hF.call fp10 (by decide)
        refine z_iconst F dX6_takeNumberBut_53 ?_
        exact hret _ _ 54 _ (by omega) ⟨hI, hW⟩ ⟨⟨by omega, by omega⟩, hF, (by omega)⟩ dX6_takeNumberBut_54
      · refine z_aload_n F dX6_takeNumberBut_29 rfl (q := 0) rfl ?_
        refine gf_X6_60 F hI gs_18 rfl bd_18_8 dX6_takeNumberBut_30 (fun v11 ev11 av11 bv11 => ?_)
        have zv11 : v7 = v11 := ev7.trans ev11.symm
        subst zv11
        refine z_iload_n F dX6_takeNumberBut_33 rfl (q := 2) rfl ?_
        refine z_icmp_gt (tgt := 48) F dX6_takeNumberBut_34 (by decide +kernel) (by omega) (by omega) (fun c12 => ?_) (fun c12 => ?_)
        · refine z_aload_n F dX6_takeNumberBut_48 rfl (q := 0) rfl ?_
          refine z_iconst F dX6_takeNumberBut_49 ?_
          refine zv_v (rest := []) F (kp_X6_fail_18 l M ⟨hI, hW⟩ 3 (by omega) (by omega)) cs_X6_82 (T := TX6) (N := 9) (ci := 6) rfl gs_18 (by decide) (by decide) rfl rfl rfl (Nat.le_of_ble_eq_true rfl) dX6_takeNumberBut_50 (fun M13 hI p14 => ?_)
          obtain ⟨hI, hW⟩ := hI
          obtain ⟨fp14, xp14⟩ := p14
          have hF := hF.call fp14 (by decide)
          refine z_iconst F dX6_takeNumberBut_53 ?_
          exact hret _ _ 54 _ (by omega) ⟨hI, hW⟩ ⟨⟨by omega, by omega⟩, hF, (by omega)⟩ dX6_takeNumberBut_54
        · refine z_iload_n F dX6_takeNumberBut_37 rfl (q := 3) rfl ?_
          refine z_aload_n F dX6_takeNumberBut_38 rfl (q := 0) rfl ?_
          refine gf_X6_60 F hI gs_18 rfl bd_18_8 dX6_takeNumberBut_39 (fun v15 ev15 av15 bv15 => ?_)
          have zv15 : v7 = v15 := ev7.trans ev15.symm
          subst zv15
          refine zn_i (rest := []) F (k_X11_isIn l M ⟨hI, hW⟩ x2 (by omega) (by omega) v7 (by omega) (by omega)) cs_X6_100 (by decide) (by decide) rfl rfl rfl (Nat.le_of_ble_eq_true rfl) dX6_takeNumberBut_42 (fun v16 M17 rv16 hI p18 => ?_)
          obtain ⟨hI, hW⟩ := hI
          obtain ⟨⟨av16, bv16⟩, rfl, xp18⟩ := p18
          have hbqv7 := xp18
          refine z_if_eq (tgt := 55) F dX6_takeNumberBut_45 (by decide +kernel) (by omega) (fun c19 => ?_) (fun c19 => ?_)
          · refine z_aload_n F dX6_takeNumberBut_55 rfl (q := 0) rfl ?_
            refine gf_X6_60 F hI gs_18 rfl bd_18_8 dX6_takeNumberBut_56 (fun v20 ev20 av20 bv20 => ?_)
            have zv20 : v7 = v20 := ev7.trans ev20.symm
            subst zv20
            refine z_istore F dX6_takeNumberBut_59 (by decide) (ls' := [(4, ii v7), (0, .ref (ad 18)), (1, ii x0), (2, ii x1), (3, ii x2)]) rfl ?_
            refine z_aload_n F dX6_takeNumberBut_61 rfl (q := 1) rfl ?_
            refine zv_v (rest := []) F (kp_X6_advance_18 l M ⟨hI, hW⟩ (by omega)) cs_X6_42 (T := TX6) (N := 9) (ci := 6) rfl gs_18 (by decide) (by decide) rfl rfl rfl (Nat.le_of_ble_eq_true rfl) dX6_takeNumberBut_62 (fun M21 hI p22 => ?_)
            obtain ⟨hI, hW⟩ := hI
            obtain ⟨fp22, xp22⟩ := p22
            have hF := hF.call fp22 (by decide)
            refine z_iload F dX6_takeNumberBut_65 (q := 0) rfl ?_
            exact hret _ _ 67 _ (by omega) ⟨hI, hW⟩ ⟨⟨by omega, by omega⟩, hF, (by omega)⟩ dX6_takeNumberBut_67
          · refine z_aload_n F dX6_takeNumberBut_48 rfl (q := 0) rfl ?_
            refine z_iconst F dX6_takeNumberBut_49 ?_
            refine zv_v (rest := []) F (kp_X6_fail_18 l M ⟨hI, hW⟩ 3 (by omega) (by omega)) cs_X6_82 (T := TX6) (N := 9) (ci := 6) rfl gs_18 (by decide) (by decide) rfl rfl rfl (Nat.le_of_ble_eq_true rfl) dX6_takeNumberBut_50 (fun M23 hI p24 => ?_)
            obtain ⟨hI, hW⟩ := hI
            obtain ⟨fp24, xp24⟩ := p24
            have hF := hF.call fp24 (by decide)
            refine z_iconst F dX6_takeNumberBut_53 ?_
            exact hret _ _ 54 _ (by omega) ⟨hI, hW⟩ ⟨⟨by omega, by omega⟩, hF, (by omega)⟩ dX6_takeNumberBut_54
    · refine z_aload_n F dX6_takeNumberBut_15 rfl (q := 0) rfl ?_
      refine zv_v (rest := []) F (kp_X6_refuse_18 l M ⟨hI, hW⟩) cs_X6_90 (T := TX6) (N := 9) (ci := 6) rfl gs_18 (by decide) (by decide) rfl rfl rfl (Nat.le_of_ble_eq_true rfl) dX6_takeNumberBut_16 (fun M25 hI p26 => ?_)
      obtain ⟨hI, hW⟩ := hI
      obtain ⟨fp26, xp26⟩ := p26
      have hF := hF.call fp26 (by decide)
      refine z_iconst F dX6_takeNumberBut_19 ?_
      exact hret _ _ 20 _ (by omega) ⟨hI, hW⟩ ⟨⟨by omega, by omega⟩, hF, (by omega)⟩ dX6_takeNumberBut_20
set_option maxHeartbeats 4000000 in
set_option maxRecDepth 4000 in
theorem kp_X6_takeNumber_18 (l : Launch) (M : Mem) (hJ : Iw M) (x0 : Int) (hx0a : 0 ≤ x0) (hx0b : x0 ≤ 1) (x1 : Int) (hx1a : (-2147483648) ≤ x1) (hx1b : x1 ≤ 2147483647) (hp0 : M 18 6 ≤ M 18 5 ∧ M 18 5 ≤ M 18 4) : CI l yX6_takeNumber cX6_takeNumber 3 (some .int) 8 (fun ad => [.ref (ad 18), ii x0, ii x1]) M (fun z M' => ((-1) ≤ z ∧ z ≤ 2147483647) ∧ Fr [18] M M' ∧ (M' 18 4 = M 18 4 ∧ M' 18 6 ≤ M' 18 5 ∧ M' 18 5 ≤ M' 18 4 ∧ (M' 18 1 = 0 → M 18 1 = 0) ∧ (z = -1 ∧ ¬ M' 18 1 = 0 ∨ x0 ≤ z ∧ z ≤ x1))) := by
  obtain ⟨hI, hW⟩ := hJ
  have hF : Fr [18] M M := Fr.rf
  refine en_i (by decide +kernel) (fun ad => by exact Nat.le_of_ble_eq_true rfl) (fun D cy ad A p e s m args below meth c Q F hret => ?_)
  refine z_eq (ls' := [(0, .ref (ad 18)), (1, ii x0), (2, ii x1)]) rfl rfl rfl ?_
  refine z_aload_n F dX6_takeNumber_0 rfl (q := 0) rfl ?_
  refine z_iload_n F dX6_takeNumber_1 rfl (q := 1) rfl ?_
  refine z_iload_n F dX6_takeNumber_2 rfl (q := 2) rfl ?_
  refine z_iconst F dX6_takeNumber_3 ?_
  refine zv_i (rest := []) F (kp_X6_takeNumberBut_18 l M ⟨hI, hW⟩ x0 (by omega) (by omega) x1 (by omega) (by omega) 0 (by omega) (by omega) (by omega)) cs_X6_97 (T := TX6) (N := 9) (ci := 6) rfl gs_18 (by decide) (by decide) rfl rfl rfl (Nat.le_of_ble_eq_true rfl) dX6_takeNumber_4 (fun v1 M2 rv1 hI p3 => ?_)
  obtain ⟨hI, hW⟩ := hI
  obtain ⟨⟨av1, bv1⟩, fp3, xp3⟩ := p3
  have hF := hF.call fp3 (by decide)
  have hkv1 : -1 ≤ v1 ∧ v1 ≤ 2147483647 := by omega
  exact hret _ _ 7 _ (by omega) ⟨hI, hW⟩ ⟨⟨by omega, by omega⟩, hF, (by omega)⟩ dX6_takeNumber_7
set_option maxHeartbeats 4000000 in
set_option maxRecDepth 4000 in
theorem kp_X6_needWord_18_1005 (l : Launch) (M : Mem) (hJ : Iw M) (hp0 : M 18 6 ≤ M 18 5 ∧ M 18 5 ≤ M 18 4) : CV l yX6_needWord cX6_needWord 2 none 7 (fun ad => [.ref (ad 18), .ref (ad 1005)]) M (fun M' => Fr [18] M M' ∧ (M' 18 4 = M 18 4 ∧ M' 18 6 ≤ M' 18 5 ∧ M' 18 5 ≤ M' 18 4 ∧ (M' 18 1 = 0 → M 18 1 = 0))) := by
  obtain ⟨hI, hW⟩ := hJ
  have hF : Fr [18] M M := Fr.rf
  refine en_v (by decide +kernel) (fun ad => by exact Nat.le_of_ble_eq_true rfl) (fun D cy ad A p e s m args below meth c Q F hret => ?_)
  refine z_eq (ls' := [(0, .ref (ad 18)), (1, .ref (ad 1005))]) rfl rfl rfl ?_
  refine z_aload_n F dX6_needWord_0 rfl (q := 0) rfl ?_
  refine z_aload_n F dX6_needWord_1 rfl (q := 1) rfl ?_
  refine zv_i (rest := []) F (kp_X6_isWord_18_1005 l M ⟨hI, hW⟩ (by omega)) cs_X6_86 (T := TX6) (N := 9) (ci := 6) rfl gs_18 (by decide) (by decide) rfl rfl rfl (Nat.le_of_ble_eq_true rfl) dX6_needWord_2 (fun v1 M2 rv1 hI p3 => ?_)
  obtain ⟨hI, hW⟩ := hI
  obtain ⟨⟨av1, bv1⟩, rfl⟩ := p3
  refine z_if_eq (tgt := 15) F dX6_needWord_5 (by decide +kernel) (by omega) (fun c4 => ?_) (fun c4 => ?_)
  · refine z_aload_n F dX6_needWord_15 rfl (q := 0) rfl ?_
    refine zv_v (rest := []) F (kp_X6_refuse_18 l M ⟨hI, hW⟩) cs_X6_90 (T := TX6) (N := 9) (ci := 6) rfl gs_18 (by decide) (by decide) rfl rfl rfl (Nat.le_of_ble_eq_true rfl) dX6_needWord_16 (fun M5 hI p6 => ?_)
    obtain ⟨hI, hW⟩ := hI
    obtain ⟨fp6, xp6⟩ := p6
    have hF := hF.call fp6 (by decide)
    exact hret _ 19 _ ⟨hI, hW⟩ ⟨hF, (by omega)⟩ dX6_needWord_19
  · refine z_aload_n F dX6_needWord_8 rfl (q := 0) rfl ?_
    refine zv_v (rest := []) F (kp_X6_advance_18 l M ⟨hI, hW⟩ (by omega)) cs_X6_42 (T := TX6) (N := 9) (ci := 6) rfl gs_18 (by decide) (by decide) rfl rfl rfl (Nat.le_of_ble_eq_true rfl) dX6_needWord_9 (fun M7 hI p8 => ?_)
    obtain ⟨hI, hW⟩ := hI
    obtain ⟨fp8, xp8⟩ := p8
    have hF := hF.call fp8 (by decide)
    refine z_goto (tgt := 19) F dX6_needWord_12 (by decide +kernel) ?_
    exact hret _ 19 _ ⟨hI, hW⟩ ⟨hF, (by omega)⟩ dX6_needWord_19
set_option maxHeartbeats 4000000 in
set_option maxRecDepth 4000 in
theorem kp_X6_isWord_18_1011 (l : Launch) (M : Mem) (hJ : Iw M) (hp0 : M 18 6 ≤ M 18 5 ∧ M 18 5 ≤ M 18 4) : CI l yX6_isWord cX6_isWord 3 (some .boolean) 5 (fun ad => [.ref (ad 18), .ref (ad 1011)]) M (fun z M' => (0 ≤ z ∧ z ≤ 1) ∧ M = M') := by
  obtain ⟨hI, hW⟩ := hJ
  refine en_z (by decide +kernel) (fun ad => by exact Nat.le_of_ble_eq_true rfl) (fun D cy ad A p e s m args below meth c Q F hret => ?_)
  refine z_eq (ls' := [(0, .ref (ad 18)), (1, .ref (ad 1011))]) rfl rfl rfl ?_
  obtain ⟨u1, eu1⟩ : ∃ v : Int, v = M 18 1 := ⟨_, rfl⟩
  have ku1 : (-2147483648) ≤ u1 ∧ u1 ≤ 2147483647 := by have := hI.at (show Bd 18 1 = (-2147483648, 2147483647) from rfl); omega
  obtain ⟨u2, eu2⟩ : ∃ v : Int, v = M 18 4 := ⟨_, rfl⟩
  have ku2 : 0 ≤ u2 ∧ u2 ≤ 900 := by have := hI.at (show Bd 18 4 = (0, 900) from rfl); omega
  obtain ⟨u3, eu3⟩ : ∃ v : Int, v = M 18 5 := ⟨_, rfl⟩
  have ku3 : 0 ≤ u3 ∧ u3 ≤ 900 := by have := hI.at (show Bd 18 5 = (0, 900) from rfl); omega
  obtain ⟨u4, eu4⟩ : ∃ v : Int, v = M 18 6 := ⟨_, rfl⟩
  have ku4 : 0 ≤ u4 ∧ u4 ≤ 900 := by have := hI.at (show Bd 18 6 = (0, 900) from rfl); omega
  refine z_aload_n F dX6_isWord_0 rfl (q := 0) rfl ?_
  refine gf_X6_36 F hI gs_18 rfl bd_18_1 dX6_isWord_1 (fun v5 ev5 av5 bv5 => ?_)
  have zv5 : u1 = v5 := eu1.trans ev5.symm
  subst zv5
  refine z_if_ne (tgt := 31) F dX6_isWord_4 (by decide +kernel) (by omega) (fun c6 => ?_) (fun c6 => ?_)
  · refine z_iconst F dX6_isWord_31 ?_
    exact hret _ _ 32 _ ⟨by omega, by omega⟩ ⟨hI, hW⟩ ⟨⟨by omega, by omega⟩, rfl⟩ dX6_isWord_32
  · refine z_aload_n F dX6_isWord_7 rfl (q := 0) rfl ?_
    refine gf_X6_48 F hI gs_18 rfl bd_18_7 dX6_isWord_8 (fun v7 ev7 av7 bv7 => ?_)
    refine z_iconst F dX6_isWord_11 ?_
    refine z_icmp_ne (tgt := 31) F dX6_isWord_12 (by decide +kernel) (by omega) (by omega) (fun c8 => ?_) (fun c8 => ?_)
    · refine z_iconst F dX6_isWord_31 ?_
      exact hret _ _ 32 _ ⟨by omega, by omega⟩ ⟨hI, hW⟩ ⟨⟨by omega, by omega⟩, rfl⟩ dX6_isWord_32
    · refine z_aload_n F dX6_isWord_15 rfl (q := 0) rfl ?_
      refine gf_X6_33 F hI gs_18 rfl bd_18_5 dX6_isWord_16 (fun v9 ev9 av9 bv9 => ?_)
      have zv9 : u3 = v9 := eu3.trans ev9.symm
      subst zv9
      refine z_aload_n F dX6_isWord_19 rfl (q := 0) rfl ?_
      refine gf_X6_57 F hI gs_18 rfl bd_18_6 dX6_isWord_20 (fun v10 ev10 av10 bv10 => ?_)
      have zv10 : u4 = v10 := eu4.trans ev10.symm
      subst zv10
      refine z_isub F dX6_isWord_23 ?_
      refine z_aload_n F dX6_isWord_24 rfl (q := 1) rfl ?_
      refine zvs_i (i := 11) (rest := [ii (u3 - u4)]) F (kS_len l M ⟨hI, hW⟩ 11 (by decide)) cs_X6_75 (by decide) (by decide) (by decide) rfl rfl rfl (Nat.le_of_ble_eq_true rfl) dX6_isWord_25 (fun v11 M9 rv11 hI9 pv11 => ?_)
      obtain ⟨ev11, rfl⟩ := pv11
      obtain rfl : v11 = 4 := ev11.trans (show ((sbyt.getD 11 []).length : Int) = 4 from by decide)
      clear hI9
      refine z_icmp_eq (tgt := 33) F dX6_isWord_28 (by decide +kernel) (by omega) (by omega) (fun c12 => ?_) (fun c12 => ?_)
      · refine z_iconst F dX6_isWord_33 ?_
        refine z_istore_n F dX6_isWord_34 rfl (by decide) (ls' := [(2, ii 0), (0, .ref (ad 18)), (1, .ref (ad 1011))]) rfl ?_
        refine z_loc [1, 2, 0] (ls' := [(0, .ref (ad 18)), (1, .ref (ad 1011)), (2, ii 0)]) rfl ?_
        suffices key35 : ∀ (n : Nat) (y14 : Int), 0 ≤ y14 → y14 ≤ 4 → 4 - y14 < (n : Int) → Z D cy ad p l e (RMh 5) s m args below meth c A 3 0 0 Q 35 [(0, .ref (ad 18)), (1, .ref (ad 1011)), (2, ii y14)] [] M from key35 5 0 (by omega) (by omega) (by omega)
        intro n35
        induction n35 with
        | zero => intro y14 ay14 by14 hn35; exfalso; omega
        | succ n35 ih35 =>
          intro y14 ay14 by14 hn35
          refine z_iload_n F dX6_isWord_35 rfl (q := 2) rfl ?_
          refine z_aload_n F dX6_isWord_36 rfl (q := 1) rfl ?_
          refine zvs_i (i := 11) (rest := [ii y14]) F (kS_len l M ⟨hI, hW⟩ 11 (by decide)) cs_X6_75 (by decide) (by decide) (by decide) rfl rfl rfl (Nat.le_of_ble_eq_true rfl) dX6_isWord_37 (fun v15 M9 rv15 hI9 pv15 => ?_)
          obtain ⟨ev15, rfl⟩ := pv15
          obtain rfl : v15 = 4 := ev15.trans (show ((sbyt.getD 11 []).length : Int) = 4 from by decide)
          clear hI9
          refine z_icmp_ge (tgt := 70) F dX6_isWord_40 (by decide +kernel) (by omega) (by omega) (fun c16 => ?_) (fun c16 => ?_)
          · refine z_iconst F dX6_isWord_70 ?_
            exact hret _ _ 71 _ ⟨by omega, by omega⟩ ⟨hI, hW⟩ ⟨⟨by omega, by omega⟩, rfl⟩ dX6_isWord_71
          · refine z_aload_n F dX6_isWord_43 rfl (q := 0) rfl ?_
            refine rf_X6_22 F gs_18 rfl dX6_isWord_44 ?_
            refine z_aload_n F dX6_isWord_47 rfl (q := 0) rfl ?_
            refine gf_X6_57 F hI gs_18 rfl bd_18_6 dX6_isWord_48 (fun v17 ev17 av17 bv17 => ?_)
            have zv17 : u4 = v17 := eu4.trans ev17.symm
            subst zv17
            refine z_iload_n F dX6_isWord_51 rfl (q := 2) rfl ?_
            refine z_iadd F dX6_isWord_52 ?_
            have k18 : 0 ≤ (u4 + y14) ∧ (u4 + y14) ≤ 899 := by omega
            refine z_bald F hI gs_1 (by omega) (by omega) (by decide) bd_1 dX6_isWord_53 (fun v19 (ev19 : v19 = M 1 _) av19 bv19 => ?_)
            refine z_aload_n F dX6_isWord_54 rfl (q := 1) rfl ?_
            refine z_iload_n F dX6_isWord_55 rfl (q := 2) rfl ?_
            refine zvs_i (i := 11) (rest := [ii v19]) F (kS_chr l M ⟨hI, hW⟩ 11 (by decide) y14 (by omega) (show y14 < ((sbyt.getD 11 []).length : Int) from by rw [show ((sbyt.getD 11 []).length : Int) = 4 from by decide]; omega)) cs_X6_78 (by decide) (by decide) (by decide) rfl rfl rfl (Nat.le_of_ble_eq_true rfl) dX6_isWord_56 (fun v20 M9 rv20 hI9 pv20 => ?_)
            obtain ⟨⟨av20, bv20⟩, rfl⟩ := pv20
            clear hI9
            refine z_icmp_eq (tgt := 64) F dX6_isWord_59 (by decide +kernel) (by omega) (by omega) (fun c21 => ?_) (fun c21 => ?_)
            · refine z_iincN F dX6_isWord_64 (q := 2) rfl (by decide) (fun v22 ev22 => ?_)
              refine z_eq (ls' := [(2, ii v22), (0, .ref (ad 18)), (1, .ref (ad 1011))]) rfl rfl rfl ?_
              refine z_goto (tgt := 35) F dX6_isWord_67 (by decide +kernel) ?_
              refine z_loc [1, 2, 0] (ls' := [(0, .ref (ad 18)), (1, .ref (ad 1011)), (2, ii v22)]) rfl ?_
              exact ih35 v22 (by omega) (by omega) (by omega)
            · refine z_iconst F dX6_isWord_62 ?_
              exact hret _ _ 63 _ ⟨by omega, by omega⟩ ⟨hI, hW⟩ ⟨⟨by omega, by omega⟩, rfl⟩ dX6_isWord_63
      · refine z_iconst F dX6_isWord_31 ?_
        exact hret _ _ 32 _ ⟨by omega, by omega⟩ ⟨hI, hW⟩ ⟨⟨by omega, by omega⟩, rfl⟩ dX6_isWord_32
set_option maxHeartbeats 4000000 in
set_option maxRecDepth 4000 in
theorem kp_X6_takeWord_18_1011 (l : Launch) (M : Mem) (hJ : Iw M) (hp0 : M 18 6 ≤ M 18 5 ∧ M 18 5 ≤ M 18 4) : CI l yX6_takeWord cX6_takeWord 3 (some .boolean) 7 (fun ad => [.ref (ad 18), .ref (ad 1011)]) M (fun z M' => (0 ≤ z ∧ z ≤ 1) ∧ Fr [18] M M' ∧ (M' 18 4 = M 18 4 ∧ M' 18 6 ≤ M' 18 5 ∧ M' 18 5 ≤ M' 18 4 ∧ M' 18 1 = M 18 1)) := by
  obtain ⟨hI, hW⟩ := hJ
  have hF : Fr [18] M M := Fr.rf
  refine en_z (by decide +kernel) (fun ad => by exact Nat.le_of_ble_eq_true rfl) (fun D cy ad A p e s m args below meth c Q F hret => ?_)
  refine z_eq (ls' := [(0, .ref (ad 18)), (1, .ref (ad 1011))]) rfl rfl rfl ?_
  refine z_aload_n F dX6_takeWord_0 rfl (q := 0) rfl ?_
  refine z_aload_n F dX6_takeWord_1 rfl (q := 1) rfl ?_
  refine zv_i (rest := []) F (kp_X6_isWord_18_1011 l M ⟨hI, hW⟩ (by omega)) cs_X6_86 (T := TX6) (N := 9) (ci := 6) rfl gs_18 (by decide) (by decide) rfl rfl rfl (Nat.le_of_ble_eq_true rfl) dX6_takeWord_2 (fun v1 M2 rv1 hI p3 => ?_)
  obtain ⟨hI, hW⟩ := hI
  obtain ⟨⟨av1, bv1⟩, rfl⟩ := p3
  refine z_istore_n F dX6_takeWord_5 rfl (by decide) (ls' := [(2, ii v1), (0, .ref (ad 18)), (1, .ref (ad 1011))]) rfl ?_
  refine z_iload_n F dX6_takeWord_6 rfl (q := 0) rfl ?_
  refine z_if_eq (tgt := 14) F dX6_takeWord_7 (by decide +kernel) (by omega) (fun c4 => ?_) (fun c4 => ?_)
  · refine z_iload_n F dX6_takeWord_14 rfl (q := 0) rfl ?_
    exact hret _ _ 15 _ ⟨by omega, by omega⟩ ⟨hI, hW⟩ ⟨⟨by omega, by omega⟩, hF, (by omega)⟩ dX6_takeWord_15
  · refine z_aload_n F dX6_takeWord_10 rfl (q := 1) rfl ?_
    refine zv_v (rest := []) F (kp_X6_advance_18 l M ⟨hI, hW⟩ (by omega)) cs_X6_42 (T := TX6) (N := 9) (ci := 6) rfl gs_18 (by decide) (by decide) rfl rfl rfl (Nat.le_of_ble_eq_true rfl) dX6_takeWord_11 (fun M5 hI p6 => ?_)
    obtain ⟨hI, hW⟩ := hI
    obtain ⟨fp6, xp6⟩ := p6
    have hF := hF.call fp6 (by decide)
    refine z_iload_n F dX6_takeWord_14 rfl (q := 0) rfl ?_
    exact hret _ _ 15 _ ⟨by omega, by omega⟩ ⟨hI, hW⟩ ⟨⟨by omega, by omega⟩, hF, (by omega)⟩ dX6_takeWord_15
set_option maxHeartbeats 4000000 in
set_option maxRecDepth 4000 in
theorem kp_X6_isWord_18_1012 (l : Launch) (M : Mem) (hJ : Iw M) (hp0 : M 18 6 ≤ M 18 5 ∧ M 18 5 ≤ M 18 4) : CI l yX6_isWord cX6_isWord 3 (some .boolean) 5 (fun ad => [.ref (ad 18), .ref (ad 1012)]) M (fun z M' => (0 ≤ z ∧ z ≤ 1) ∧ M = M') := by
  obtain ⟨hI, hW⟩ := hJ
  refine en_z (by decide +kernel) (fun ad => by exact Nat.le_of_ble_eq_true rfl) (fun D cy ad A p e s m args below meth c Q F hret => ?_)
  refine z_eq (ls' := [(0, .ref (ad 18)), (1, .ref (ad 1012))]) rfl rfl rfl ?_
  obtain ⟨u1, eu1⟩ : ∃ v : Int, v = M 18 1 := ⟨_, rfl⟩
  have ku1 : (-2147483648) ≤ u1 ∧ u1 ≤ 2147483647 := by have := hI.at (show Bd 18 1 = (-2147483648, 2147483647) from rfl); omega
  obtain ⟨u2, eu2⟩ : ∃ v : Int, v = M 18 4 := ⟨_, rfl⟩
  have ku2 : 0 ≤ u2 ∧ u2 ≤ 900 := by have := hI.at (show Bd 18 4 = (0, 900) from rfl); omega
  obtain ⟨u3, eu3⟩ : ∃ v : Int, v = M 18 5 := ⟨_, rfl⟩
  have ku3 : 0 ≤ u3 ∧ u3 ≤ 900 := by have := hI.at (show Bd 18 5 = (0, 900) from rfl); omega
  obtain ⟨u4, eu4⟩ : ∃ v : Int, v = M 18 6 := ⟨_, rfl⟩
  have ku4 : 0 ≤ u4 ∧ u4 ≤ 900 := by have := hI.at (show Bd 18 6 = (0, 900) from rfl); omega
  refine z_aload_n F dX6_isWord_0 rfl (q := 0) rfl ?_
  refine gf_X6_36 F hI gs_18 rfl bd_18_1 dX6_isWord_1 (fun v5 ev5 av5 bv5 => ?_)
  have zv5 : u1 = v5 := eu1.trans ev5.symm
  subst zv5
  refine z_if_ne (tgt := 31) F dX6_isWord_4 (by decide +kernel) (by omega) (fun c6 => ?_) (fun c6 => ?_)
  · refine z_iconst F dX6_isWord_31 ?_
    exact hret _ _ 32 _ ⟨by omega, by omega⟩ ⟨hI, hW⟩ ⟨⟨by omega, by omega⟩, rfl⟩ dX6_isWord_32
  · refine z_aload_n F dX6_isWord_7 rfl (q := 0) rfl ?_
    refine gf_X6_48 F hI gs_18 rfl bd_18_7 dX6_isWord_8 (fun v7 ev7 av7 bv7 => ?_)
    refine z_iconst F dX6_isWord_11 ?_
    refine z_icmp_ne (tgt := 31) F dX6_isWord_12 (by decide +kernel) (by omega) (by omega) (fun c8 => ?_) (fun c8 => ?_)
    · refine z_iconst F dX6_isWord_31 ?_
      exact hret _ _ 32 _ ⟨by omega, by omega⟩ ⟨hI, hW⟩ ⟨⟨by omega, by omega⟩, rfl⟩ dX6_isWord_32
    · refine z_aload_n F dX6_isWord_15 rfl (q := 0) rfl ?_
      refine gf_X6_33 F hI gs_18 rfl bd_18_5 dX6_isWord_16 (fun v9 ev9 av9 bv9 => ?_)
      have zv9 : u3 = v9 := eu3.trans ev9.symm
      subst zv9
      refine z_aload_n F dX6_isWord_19 rfl (q := 0) rfl ?_
      refine gf_X6_57 F hI gs_18 rfl bd_18_6 dX6_isWord_20 (fun v10 ev10 av10 bv10 => ?_)
      have zv10 : u4 = v10 := eu4.trans ev10.symm
      subst zv10
      refine z_isub F dX6_isWord_23 ?_
      refine z_aload_n F dX6_isWord_24 rfl (q := 1) rfl ?_
      refine zvs_i (i := 12) (rest := [ii (u3 - u4)]) F (kS_len l M ⟨hI, hW⟩ 12 (by decide)) cs_X6_75 (by decide) (by decide) (by decide) rfl rfl rfl (Nat.le_of_ble_eq_true rfl) dX6_isWord_25 (fun v11 M9 rv11 hI9 pv11 => ?_)
      obtain ⟨ev11, rfl⟩ := pv11
      obtain rfl : v11 = 4 := ev11.trans (show ((sbyt.getD 12 []).length : Int) = 4 from by decide)
      clear hI9
      refine z_icmp_eq (tgt := 33) F dX6_isWord_28 (by decide +kernel) (by omega) (by omega) (fun c12 => ?_) (fun c12 => ?_)
      · refine z_iconst F dX6_isWord_33 ?_
        refine z_istore_n F dX6_isWord_34 rfl (by decide) (ls' := [(2, ii 0), (0, .ref (ad 18)), (1, .ref (ad 1012))]) rfl ?_
        refine z_loc [1, 2, 0] (ls' := [(0, .ref (ad 18)), (1, .ref (ad 1012)), (2, ii 0)]) rfl ?_
        suffices key35 : ∀ (n : Nat) (y14 : Int), 0 ≤ y14 → y14 ≤ 4 → 4 - y14 < (n : Int) → Z D cy ad p l e (RMh 5) s m args below meth c A 3 0 0 Q 35 [(0, .ref (ad 18)), (1, .ref (ad 1012)), (2, ii y14)] [] M from key35 5 0 (by omega) (by omega) (by omega)
        intro n35
        induction n35 with
        | zero => intro y14 ay14 by14 hn35; exfalso; omega
        | succ n35 ih35 =>
          intro y14 ay14 by14 hn35
          refine z_iload_n F dX6_isWord_35 rfl (q := 2) rfl ?_
          refine z_aload_n F dX6_isWord_36 rfl (q := 1) rfl ?_
          refine zvs_i (i := 12) (rest := [ii y14]) F (kS_len l M ⟨hI, hW⟩ 12 (by decide)) cs_X6_75 (by decide) (by decide) (by decide) rfl rfl rfl (Nat.le_of_ble_eq_true rfl) dX6_isWord_37 (fun v15 M9 rv15 hI9 pv15 => ?_)
          obtain ⟨ev15, rfl⟩ := pv15
          obtain rfl : v15 = 4 := ev15.trans (show ((sbyt.getD 12 []).length : Int) = 4 from by decide)
          clear hI9
          refine z_icmp_ge (tgt := 70) F dX6_isWord_40 (by decide +kernel) (by omega) (by omega) (fun c16 => ?_) (fun c16 => ?_)
          · refine z_iconst F dX6_isWord_70 ?_
            exact hret _ _ 71 _ ⟨by omega, by omega⟩ ⟨hI, hW⟩ ⟨⟨by omega, by omega⟩, rfl⟩ dX6_isWord_71
          · refine z_aload_n F dX6_isWord_43 rfl (q := 0) rfl ?_
            refine rf_X6_22 F gs_18 rfl dX6_isWord_44 ?_
            refine z_aload_n F dX6_isWord_47 rfl (q := 0) rfl ?_
            refine gf_X6_57 F hI gs_18 rfl bd_18_6 dX6_isWord_48 (fun v17 ev17 av17 bv17 => ?_)
            have zv17 : u4 = v17 := eu4.trans ev17.symm
            subst zv17
            refine z_iload_n F dX6_isWord_51 rfl (q := 2) rfl ?_
            refine z_iadd F dX6_isWord_52 ?_
            have k18 : 0 ≤ (u4 + y14) ∧ (u4 + y14) ≤ 899 := by omega
            refine z_bald F hI gs_1 (by omega) (by omega) (by decide) bd_1 dX6_isWord_53 (fun v19 (ev19 : v19 = M 1 _) av19 bv19 => ?_)
            refine z_aload_n F dX6_isWord_54 rfl (q := 1) rfl ?_
            refine z_iload_n F dX6_isWord_55 rfl (q := 2) rfl ?_
            refine zvs_i (i := 12) (rest := [ii v19]) F (kS_chr l M ⟨hI, hW⟩ 12 (by decide) y14 (by omega) (show y14 < ((sbyt.getD 12 []).length : Int) from by rw [show ((sbyt.getD 12 []).length : Int) = 4 from by decide]; omega)) cs_X6_78 (by decide) (by decide) (by decide) rfl rfl rfl (Nat.le_of_ble_eq_true rfl) dX6_isWord_56 (fun v20 M9 rv20 hI9 pv20 => ?_)
            obtain ⟨⟨av20, bv20⟩, rfl⟩ := pv20
            clear hI9
            refine z_icmp_eq (tgt := 64) F dX6_isWord_59 (by decide +kernel) (by omega) (by omega) (fun c21 => ?_) (fun c21 => ?_)
            · refine z_iincN F dX6_isWord_64 (q := 2) rfl (by decide) (fun v22 ev22 => ?_)
              refine z_eq (ls' := [(2, ii v22), (0, .ref (ad 18)), (1, .ref (ad 1012))]) rfl rfl rfl ?_
              refine z_goto (tgt := 35) F dX6_isWord_67 (by decide +kernel) ?_
              refine z_loc [1, 2, 0] (ls' := [(0, .ref (ad 18)), (1, .ref (ad 1012)), (2, ii v22)]) rfl ?_
              exact ih35 v22 (by omega) (by omega) (by omega)
            · refine z_iconst F dX6_isWord_62 ?_
              exact hret _ _ 63 _ ⟨by omega, by omega⟩ ⟨hI, hW⟩ ⟨⟨by omega, by omega⟩, rfl⟩ dX6_isWord_63
      · refine z_iconst F dX6_isWord_31 ?_
        exact hret _ _ 32 _ ⟨by omega, by omega⟩ ⟨hI, hW⟩ ⟨⟨by omega, by omega⟩, rfl⟩ dX6_isWord_32
set_option maxHeartbeats 4000000 in
set_option maxRecDepth 4000 in
theorem kp_X6_needWord_18_1012 (l : Launch) (M : Mem) (hJ : Iw M) (hp0 : M 18 6 ≤ M 18 5 ∧ M 18 5 ≤ M 18 4) : CV l yX6_needWord cX6_needWord 2 none 7 (fun ad => [.ref (ad 18), .ref (ad 1012)]) M (fun M' => Fr [18] M M' ∧ (M' 18 4 = M 18 4 ∧ M' 18 6 ≤ M' 18 5 ∧ M' 18 5 ≤ M' 18 4 ∧ (M' 18 1 = 0 → M 18 1 = 0))) := by
  obtain ⟨hI, hW⟩ := hJ
  have hF : Fr [18] M M := Fr.rf
  refine en_v (by decide +kernel) (fun ad => by exact Nat.le_of_ble_eq_true rfl) (fun D cy ad A p e s m args below meth c Q F hret => ?_)
  refine z_eq (ls' := [(0, .ref (ad 18)), (1, .ref (ad 1012))]) rfl rfl rfl ?_
  refine z_aload_n F dX6_needWord_0 rfl (q := 0) rfl ?_
  refine z_aload_n F dX6_needWord_1 rfl (q := 1) rfl ?_
  refine zv_i (rest := []) F (kp_X6_isWord_18_1012 l M ⟨hI, hW⟩ (by omega)) cs_X6_86 (T := TX6) (N := 9) (ci := 6) rfl gs_18 (by decide) (by decide) rfl rfl rfl (Nat.le_of_ble_eq_true rfl) dX6_needWord_2 (fun v1 M2 rv1 hI p3 => ?_)
  obtain ⟨hI, hW⟩ := hI
  obtain ⟨⟨av1, bv1⟩, rfl⟩ := p3
  refine z_if_eq (tgt := 15) F dX6_needWord_5 (by decide +kernel) (by omega) (fun c4 => ?_) (fun c4 => ?_)
  · refine z_aload_n F dX6_needWord_15 rfl (q := 0) rfl ?_
    refine zv_v (rest := []) F (kp_X6_refuse_18 l M ⟨hI, hW⟩) cs_X6_90 (T := TX6) (N := 9) (ci := 6) rfl gs_18 (by decide) (by decide) rfl rfl rfl (Nat.le_of_ble_eq_true rfl) dX6_needWord_16 (fun M5 hI p6 => ?_)
    obtain ⟨hI, hW⟩ := hI
    obtain ⟨fp6, xp6⟩ := p6
    have hF := hF.call fp6 (by decide)
    exact hret _ 19 _ ⟨hI, hW⟩ ⟨hF, (by omega)⟩ dX6_needWord_19
  · refine z_aload_n F dX6_needWord_8 rfl (q := 0) rfl ?_
    refine zv_v (rest := []) F (kp_X6_advance_18 l M ⟨hI, hW⟩ (by omega)) cs_X6_42 (T := TX6) (N := 9) (ci := 6) rfl gs_18 (by decide) (by decide) rfl rfl rfl (Nat.le_of_ble_eq_true rfl) dX6_needWord_9 (fun M7 hI p8 => ?_)
    obtain ⟨hI, hW⟩ := hI
    obtain ⟨fp8, xp8⟩ := p8
    have hF := hF.call fp8 (by decide)
    refine z_goto (tgt := 19) F dX6_needWord_12 (by decide +kernel) ?_
    exact hret _ 19 _ ⟨hI, hW⟩ ⟨hF, (by omega)⟩ dX6_needWord_19
set_option maxHeartbeats 4000000 in
set_option maxRecDepth 4000 in
theorem kp_X6_readEvent_18 (l : Launch) (M : Mem) (hJ : Iw M) (hp0 : M 18 6 ≤ M 18 5 ∧ M 18 5 ≤ M 18 4) : CV l yX6_readEvent cX6_readEvent 6 none 9 (fun ad => [.ref (ad 18)]) M (fun M' => Fr [18, 19, 27, 28, 29] M M' ∧ (M' 18 4 = M 18 4 ∧ M' 18 6 ≤ M' 18 5 ∧ M' 18 5 ≤ M' 18 4)) := by
  obtain ⟨hI, hW⟩ := hJ
  have hF : Fr [18, 19, 27, 28, 29] M M := Fr.rf
  refine en_v (by decide +kernel) (fun ad => by exact Nat.le_of_ble_eq_true rfl) (fun D cy ad A p e s m args below meth c Q F hret => ?_)
  refine z_eq (ls' := [(0, .ref (ad 18))]) rfl rfl rfl ?_
  refine z_aload_n F dX6_readEvent_0 rfl (q := 0) rfl ?_
  refine z_aload_n F dX6_readEvent_1 rfl (q := 0) rfl ?_
  refine rf_X6_12 F gs_18 rfl dX6_readEvent_2 ?_
  refine gf_X6_208 F hI gs_19 rfl bd_19_4 dX6_readEvent_5 (fun v1 ev1 av1 bv1 => ?_)
  refine z_bipush F dX6_readEvent_8 (by decide +kernel) ?_
  refine zv_v (rest := []) F (kp_X6_beginLine_18 l M ⟨hI, hW⟩ v1 (by omega) (by omega) 6 (by omega) (by omega) (by omega)) cs_X6_166 (T := TX6) (N := 9) (ci := 6) rfl gs_18 (by decide) (by decide) rfl rfl rfl (Nat.le_of_ble_eq_true rfl) dX6_readEvent_10 (fun M2 hI p3 => ?_)
  obtain ⟨hI, hW⟩ := hI
  obtain ⟨fp3, xp3⟩ := p3
  have hF := hF.call fp3 (by decide)
  refine z_aload_n F dX6_readEvent_13 rfl (q := 0) rfl ?_
  refine z_iconst F dX6_readEvent_14 ?_
  refine z_sipush F dX6_readEvent_15 (by decide +kernel) ?_
  refine zv_i (rest := []) F (kp_X6_takeNumber_18 l M2 ⟨hI, hW⟩ 0 (by omega) (by omega) 999 (by omega) (by omega) (by omega)) cs_X6_110 (T := TX6) (N := 9) (ci := 6) rfl gs_18 (by decide) (by decide) rfl rfl rfl (Nat.le_of_ble_eq_true rfl) dX6_readEvent_18 (fun v4 M5 rv4 hI p6 => ?_)
  obtain ⟨hI, hW⟩ := hI
  obtain ⟨⟨av4, bv4⟩, fp6, xp6⟩ := p6
  have hF := hF.call fp6 (by decide)
  have hkv4 : -1 ≤ v4 ∧ v4 ≤ 999 := by omega
  refine z_istore_n F dX6_readEvent_21 rfl (by decide) (ls' := [(1, ii v4), (0, .ref (ad 18))]) rfl ?_
  refine z_aload_n F dX6_readEvent_22 rfl (q := 1) rfl ?_
  refine z_ldcS (j := 5) F dX6_readEvent_23 rfl rfl rfl ?_
  refine z_eq (st' := [.ref (ad 1005), .ref (ad 18)]) rfl rfl rfl ?_
  refine zv_v (rest := []) F (kp_X6_needWord_18_1005 l M5 ⟨hI, hW⟩ (by omega)) cs_X6_106 (T := TX6) (N := 9) (ci := 6) rfl gs_18 (by decide) (by decide) rfl rfl rfl (Nat.le_of_ble_eq_true rfl) dX6_readEvent_25 (fun M7 hI p8 => ?_)
  obtain ⟨hI, hW⟩ := hI
  obtain ⟨fp8, xp8⟩ := p8
  have hF := hF.call fp8 (by decide)
  refine z_aload_n F dX6_readEvent_28 rfl (q := 1) rfl ?_
  refine z_iconst F dX6_readEvent_29 ?_
  refine z_aload_n F dX6_readEvent_30 rfl (q := 1) rfl ?_
  refine rf_X6_12 F gs_18 rfl dX6_readEvent_31 ?_
  refine gf_X6_181 F hI gs_19 rfl bd_19_3 dX6_readEvent_34 (fun v9 ev9 av9 bv9 => ?_)
  refine z_iconst F dX6_readEvent_37 ?_
  refine z_isub F dX6_readEvent_38 ?_
  refine zv_i (rest := []) F (kp_X6_takeNumber_18 l M7 ⟨hI, hW⟩ 0 (by omega) (by omega) (v9 - 1) (by omega) (by omega) (by omega)) cs_X6_110 (T := TX6) (N := 9) (ci := 6) rfl gs_18 (by decide) (by decide) rfl rfl rfl (Nat.le_of_ble_eq_true rfl) dX6_readEvent_39 (fun v10 M11 rv10 hI p12 => ?_)
  obtain ⟨hI, hW⟩ := hI
  obtain ⟨⟨av10, bv10⟩, fp12, xp12⟩ := p12
  have hF := hF.call fp12 (by decide)
  have hkv10 : -1 ≤ v10 ∧ v10 ≤ 7 := by omega
  refine z_istore_n F dX6_readEvent_42 rfl (by decide) (ls' := [(2, ii v10), (1, ii v4), (0, .ref (ad 18))]) rfl ?_
  refine z_aload_n F dX6_readEvent_43 rfl (q := 2) rfl ?_
  refine z_ldcS (j := 11) F dX6_readEvent_44 rfl rfl rfl ?_
  refine z_eq (st' := [.ref (ad 1011), .ref (ad 18)]) rfl rfl rfl ?_
  refine zv_i (rest := []) F (kp_X6_takeWord_18_1011 l M11 ⟨hI, hW⟩ (by omega)) cs_X6_144 (T := TX6) (N := 9) (ci := 6) rfl gs_18 (by decide) (by decide) rfl rfl rfl (Nat.le_of_ble_eq_true rfl) dX6_readEvent_46 (fun v13 M14 rv13 hI p15 => ?_)
  obtain ⟨hI, hW⟩ := hI
  obtain ⟨⟨av13, bv13⟩, fp15, xp15⟩ := p15
  have hF := hF.call fp15 (by decide)
  refine z_istore_n F dX6_readEvent_49 rfl (by decide) (ls' := [(3, ii v13), (2, ii v10), (1, ii v4), (0, .ref (ad 18))]) rfl ?_
  refine z_iload_n F dX6_readEvent_50 rfl (q := 0) rfl ?_
  refine z_if_ne (tgt := 60) F dX6_readEvent_51 (by decide +kernel) (by omega) (fun c16 => ?_) (fun c16 => ?_)
  · refine z_aload_n F dX6_readEvent_60 rfl (q := 3) rfl ?_
    refine z_iconst F dX6_readEvent_61 ?_
    refine z_bipush F dX6_readEvent_62 (by decide +kernel) ?_
    refine zv_i (rest := []) F (kp_X6_takeNumber_18 l M14 ⟨hI, hW⟩ 1 (by omega) (by omega) 9 (by omega) (by omega) (by omega)) cs_X6_110 (T := TX6) (N := 9) (ci := 6) rfl gs_18 (by decide) (by decide) rfl rfl rfl (Nat.le_of_ble_eq_true rfl) dX6_readEvent_64 (fun v17 M18 rv17 hI p19 => ?_)
    obtain ⟨hI, hW⟩ := hI
    obtain ⟨⟨av17, bv17⟩, fp19, xp19⟩ := p19
    have hF := hF.call fp19 (by decide)
    have hkv17 : -1 ≤ v17 ∧ v17 ≤ 9 := by omega
    refine z_istore F dX6_readEvent_67 (by decide) (ls' := [(4, ii v17), (3, ii v13), (2, ii v10), (1, ii v4), (0, .ref (ad 18))]) rfl ?_
    refine z_aload_n F dX6_readEvent_69 rfl (q := 4) rfl ?_
    refine gf_X6_36 F hI gs_18 rfl bd_18_1 dX6_readEvent_70 (fun v20 ev20 av20 bv20 => ?_)
    refine z_if_ne (tgt := 142) F dX6_readEvent_73 (by decide +kernel) (by omega) (fun c21 => ?_) (fun c21 => ?_)
    · exact hret _ 142 _ ⟨hI, hW⟩ ⟨hF, (by omega)⟩ dX6_readEvent_142
    · refine z_aload_n F dX6_readEvent_76 rfl (q := 4) rfl ?_
      refine rf_X6_12 F gs_18 rfl dX6_readEvent_77 ?_
      refine gf_X6_208 F hI gs_19 rfl bd_19_4 dX6_readEvent_80 (fun v22 ev22 av22 bv22 => ?_)
      have q23 : v1 = M2 19 4 := ev1.trans ((fp3.at (by decide)) : M2 19 4 = _).symm
      have q24 : v1 = M5 19 4 := q23.trans ((fp6.at (by decide)) : M5 19 4 = _).symm
      have q25 : v1 = M7 19 4 := q24.trans ((fp8.at (by decide)) : M7 19 4 = _).symm
      have q26 : v1 = M11 19 4 := q25.trans ((fp12.at (by decide)) : M11 19 4 = _).symm
      have q27 : v1 = M14 19 4 := q26.trans ((fp15.at (by decide)) : M14 19 4 = _).symm
      have q28 : v1 = M18 19 4 := q27.trans ((fp19.at (by decide)) : M18 19 4 = _).symm
      have zv22 : v1 = v22 := q28.trans ev22.symm
      subst zv22
      have k29 : 0 ≤ v1 ∧ v1 ≤ 5 := by omega
      refine z_istore F dX6_readEvent_83 (by decide) (ls' := [(5, ii v1), (4, ii v17), (3, ii v13), (2, ii v10), (1, ii v4), (0, .ref (ad 18))]) rfl ?_
      refine z_aload_n F dX6_readEvent_85 rfl (q := 5) rfl ?_
      refine rf_X6_12 F gs_18 rfl dX6_readEvent_86 ?_
      refine rf_X6_215 F gs_19 rfl dX6_readEvent_89 ?_
      refine z_iload F dX6_readEvent_92 (q := 0) rfl ?_
      refine z_iload_n F dX6_readEvent_94 rfl (q := 4) rfl ?_
      refine z_iast F hI gs_27 (by omega) (by omega) (by decide) bd_27 dX6_readEvent_95 (by omega) (by omega) (fun M31 hI sf30 f30 => ?_)
      have tM31_18_1 : M31 18 1 = M18 18 1 := f30 18 1 (fun q => absurd q.1 (by decide))
      have tM31_18_4 : M31 18 4 = M18 18 4 := f30 18 4 (fun q => absurd q.1 (by decide))
      have tM31_18_5 : M31 18 5 = M18 18 5 := f30 18 5 (fun q => absurd q.1 (by decide))
      have tM31_18_6 : M31 18 6 = M18 18 6 := f30 18 6 (fun q => absurd q.1 (by decide))
      have hF := hF.wr f30 (by decide) (by decide)
      have hW : WFk M31 := hW.site f30 (by decide)
      refine z_aload_n F dX6_readEvent_96 rfl (q := 5) rfl ?_
      refine rf_X6_12 F gs_18 rfl dX6_readEvent_97 ?_
      refine rf_X6_218 F gs_19 rfl dX6_readEvent_100 ?_
      refine z_iload F dX6_readEvent_103 (q := 0) rfl ?_
      refine z_iload_n F dX6_readEvent_105 rfl (q := 3) rfl ?_
      have k32 : 0 ≤ v10 ∧ v10 ≤ 7 := by omega
      refine z_iast F hI gs_28 (by omega) (by omega) (by decide) bd_28 dX6_readEvent_106 (by omega) (by omega) (fun M34 hI sf33 f33 => ?_)
      have tM34_18_1 : M34 18 1 = M31 18 1 := f33 18 1 (fun q => absurd q.1 (by decide))
      have tM34_18_4 : M34 18 4 = M31 18 4 := f33 18 4 (fun q => absurd q.1 (by decide))
      have tM34_18_5 : M34 18 5 = M31 18 5 := f33 18 5 (fun q => absurd q.1 (by decide))
      have tM34_18_6 : M34 18 6 = M31 18 6 := f33 18 6 (fun q => absurd q.1 (by decide))
      have hF := hF.wr f33 (by decide) (by decide)
      have hW : WFk M34 := hW.site f33 (by decide)
      refine z_aload_n F dX6_readEvent_107 rfl (q := 5) rfl ?_
      refine rf_X6_12 F gs_18 rfl dX6_readEvent_108 ?_
      refine rf_X6_221 F gs_19 rfl dX6_readEvent_111 ?_
      refine z_iload F dX6_readEvent_114 (q := 0) rfl ?_
      refine z_iload_n F dX6_readEvent_116 rfl (q := 2) rfl ?_
      refine z_if_eq (tgt := 126) F dX6_readEvent_117 (by decide +kernel) (by omega) (fun c35 => by exfalso; omega) (fun c35 => ?_)
      refine z_iload F dX6_readEvent_120 (q := 1) rfl ?_
      refine z_ineg F dX6_readEvent_122 ?_
      refine z_goto (tgt := 128) F dX6_readEvent_123 (by decide +kernel) ?_
      refine z_nm (fun v37 ev37 => ?_)
      refine z_iast F hI gs_29 (by omega) (by omega) (by decide) bd_29 dX6_readEvent_128 (by omega) (by omega) (fun M38 hI sf36 f36 => ?_)
      have tM38_18_1 : M38 18 1 = M34 18 1 := f36 18 1 (fun q => absurd q.1 (by decide))
      have tM38_18_4 : M38 18 4 = M34 18 4 := f36 18 4 (fun q => absurd q.1 (by decide))
      have tM38_18_5 : M38 18 5 = M34 18 5 := f36 18 5 (fun q => absurd q.1 (by decide))
      have tM38_18_6 : M38 18 6 = M34 18 6 := f36 18 6 (fun q => absurd q.1 (by decide))
      have hF := hF.wr f36 (by decide) (by decide)
      have hW : WFk M38 := hW.site f36 (by decide)
      refine z_aload_n F dX6_readEvent_129 rfl (q := 5) rfl ?_
      refine rf_X6_12 F gs_18 rfl dX6_readEvent_130 ?_
      refine z_dup F dX6_readEvent_133 rfl ?_
      refine gf_X6_208 F hI gs_19 rfl bd_19_4 dX6_readEvent_134 (fun v39 ev39 av39 bv39 => ?_)
      have q40 : v1 = M31 19 4 := q28.trans (f30 19 4 (fun q => absurd q.1 (by decide))).symm
      have q41 : v1 = M34 19 4 := q40.trans (f33 19 4 (fun q => absurd q.1 (by decide))).symm
      have q42 : v1 = M38 19 4 := q41.trans (f36 19 4 (fun q => absurd q.1 (by decide))).symm
      have zv39 : v1 = v39 := q42.trans ev39.symm
      subst zv39
      refine z_iconst F dX6_readEvent_137 ?_
      refine z_iadd F dX6_readEvent_138 ?_
      refine z_nm (fun v43 ev43 => ?_)
      refine pf_X6_208 F hI gs_19 rfl bd_19_4 rfl rfl dX6_readEvent_139 (by omega) (by omega) (fun M45 hI sf44 f44 => ?_)
      have tM45_18_1 : M45 18 1 = M38 18 1 := f44 18 1 (fun q => absurd q.1 (by decide))
      have tM45_18_4 : M45 18 4 = M38 18 4 := f44 18 4 (fun q => absurd q.1 (by decide))
      have tM45_18_5 : M45 18 5 = M38 18 5 := f44 18 5 (fun q => absurd q.1 (by decide))
      have tM45_18_6 : M45 18 6 = M38 18 6 := f44 18 6 (fun q => absurd q.1 (by decide))
      have hF := hF.wr f44 (by decide) (by decide)
      have hW : WFk M45 := hW.site f44 (by decide)
      exact hret _ 142 _ ⟨hI, hW⟩ ⟨hF, (by omega)⟩ dX6_readEvent_142
  · refine z_aload_n F dX6_readEvent_54 rfl (q := 3) rfl ?_
    refine z_ldcS (j := 12) F dX6_readEvent_55 rfl rfl rfl ?_
    refine z_eq (st' := [.ref (ad 1012), .ref (ad 18)]) rfl rfl rfl ?_
    refine zv_v (rest := []) F (kp_X6_needWord_18_1012 l M14 ⟨hI, hW⟩ (by omega)) cs_X6_106 (T := TX6) (N := 9) (ci := 6) rfl gs_18 (by decide) (by decide) rfl rfl rfl (Nat.le_of_ble_eq_true rfl) dX6_readEvent_57 (fun M46 hI p47 => ?_)
    obtain ⟨hI, hW⟩ := hI
    obtain ⟨fp47, xp47⟩ := p47
    have hF := hF.call fp47 (by decide)
    refine z_aload_n F dX6_readEvent_60 rfl (q := 3) rfl ?_
    refine z_iconst F dX6_readEvent_61 ?_
    refine z_bipush F dX6_readEvent_62 (by decide +kernel) ?_
    refine zv_i (rest := []) F (kp_X6_takeNumber_18 l M46 ⟨hI, hW⟩ 1 (by omega) (by omega) 9 (by omega) (by omega) (by omega)) cs_X6_110 (T := TX6) (N := 9) (ci := 6) rfl gs_18 (by decide) (by decide) rfl rfl rfl (Nat.le_of_ble_eq_true rfl) dX6_readEvent_64 (fun v48 M49 rv48 hI p50 => ?_)
    obtain ⟨hI, hW⟩ := hI
    obtain ⟨⟨av48, bv48⟩, fp50, xp50⟩ := p50
    have hF := hF.call fp50 (by decide)
    have hkv48 : -1 ≤ v48 ∧ v48 ≤ 9 := by omega
    refine z_istore F dX6_readEvent_67 (by decide) (ls' := [(4, ii v48), (3, ii v13), (2, ii v10), (1, ii v4), (0, .ref (ad 18))]) rfl ?_
    refine z_aload_n F dX6_readEvent_69 rfl (q := 4) rfl ?_
    refine gf_X6_36 F hI gs_18 rfl bd_18_1 dX6_readEvent_70 (fun v51 ev51 av51 bv51 => ?_)
    refine z_if_ne (tgt := 142) F dX6_readEvent_73 (by decide +kernel) (by omega) (fun c52 => ?_) (fun c52 => ?_)
    · exact hret _ 142 _ ⟨hI, hW⟩ ⟨hF, (by omega)⟩ dX6_readEvent_142
    · refine z_aload_n F dX6_readEvent_76 rfl (q := 4) rfl ?_
      refine rf_X6_12 F gs_18 rfl dX6_readEvent_77 ?_
      refine gf_X6_208 F hI gs_19 rfl bd_19_4 dX6_readEvent_80 (fun v53 ev53 av53 bv53 => ?_)
      have q54 : v1 = M2 19 4 := ev1.trans ((fp3.at (by decide)) : M2 19 4 = _).symm
      have q55 : v1 = M5 19 4 := q54.trans ((fp6.at (by decide)) : M5 19 4 = _).symm
      have q56 : v1 = M7 19 4 := q55.trans ((fp8.at (by decide)) : M7 19 4 = _).symm
      have q57 : v1 = M11 19 4 := q56.trans ((fp12.at (by decide)) : M11 19 4 = _).symm
      have q58 : v1 = M14 19 4 := q57.trans ((fp15.at (by decide)) : M14 19 4 = _).symm
      have q59 : v1 = M46 19 4 := q58.trans ((fp47.at (by decide)) : M46 19 4 = _).symm
      have q60 : v1 = M49 19 4 := q59.trans ((fp50.at (by decide)) : M49 19 4 = _).symm
      have zv53 : v1 = v53 := q60.trans ev53.symm
      subst zv53
      have k61 : 0 ≤ v1 ∧ v1 ≤ 5 := by omega
      refine z_istore F dX6_readEvent_83 (by decide) (ls' := [(5, ii v1), (4, ii v48), (3, ii v13), (2, ii v10), (1, ii v4), (0, .ref (ad 18))]) rfl ?_
      refine z_aload_n F dX6_readEvent_85 rfl (q := 5) rfl ?_
      refine rf_X6_12 F gs_18 rfl dX6_readEvent_86 ?_
      refine rf_X6_215 F gs_19 rfl dX6_readEvent_89 ?_
      refine z_iload F dX6_readEvent_92 (q := 0) rfl ?_
      refine z_iload_n F dX6_readEvent_94 rfl (q := 4) rfl ?_
      refine z_iast F hI gs_27 (by omega) (by omega) (by decide) bd_27 dX6_readEvent_95 (by omega) (by omega) (fun M63 hI sf62 f62 => ?_)
      have tM63_18_1 : M63 18 1 = M49 18 1 := f62 18 1 (fun q => absurd q.1 (by decide))
      have tM63_18_4 : M63 18 4 = M49 18 4 := f62 18 4 (fun q => absurd q.1 (by decide))
      have tM63_18_5 : M63 18 5 = M49 18 5 := f62 18 5 (fun q => absurd q.1 (by decide))
      have tM63_18_6 : M63 18 6 = M49 18 6 := f62 18 6 (fun q => absurd q.1 (by decide))
      have hF := hF.wr f62 (by decide) (by decide)
      have hW : WFk M63 := hW.site f62 (by decide)
      refine z_aload_n F dX6_readEvent_96 rfl (q := 5) rfl ?_
      refine rf_X6_12 F gs_18 rfl dX6_readEvent_97 ?_
      refine rf_X6_218 F gs_19 rfl dX6_readEvent_100 ?_
      refine z_iload F dX6_readEvent_103 (q := 0) rfl ?_
      refine z_iload_n F dX6_readEvent_105 rfl (q := 3) rfl ?_
      have k64 : 0 ≤ v10 ∧ v10 ≤ 7 := by omega
      refine z_iast F hI gs_28 (by omega) (by omega) (by decide) bd_28 dX6_readEvent_106 (by omega) (by omega) (fun M66 hI sf65 f65 => ?_)
      have tM66_18_1 : M66 18 1 = M63 18 1 := f65 18 1 (fun q => absurd q.1 (by decide))
      have tM66_18_4 : M66 18 4 = M63 18 4 := f65 18 4 (fun q => absurd q.1 (by decide))
      have tM66_18_5 : M66 18 5 = M63 18 5 := f65 18 5 (fun q => absurd q.1 (by decide))
      have tM66_18_6 : M66 18 6 = M63 18 6 := f65 18 6 (fun q => absurd q.1 (by decide))
      have hF := hF.wr f65 (by decide) (by decide)
      have hW : WFk M66 := hW.site f65 (by decide)
      refine z_aload_n F dX6_readEvent_107 rfl (q := 5) rfl ?_
      refine rf_X6_12 F gs_18 rfl dX6_readEvent_108 ?_
      refine rf_X6_221 F gs_19 rfl dX6_readEvent_111 ?_
      refine z_iload F dX6_readEvent_114 (q := 0) rfl ?_
      refine z_iload_n F dX6_readEvent_116 rfl (q := 2) rfl ?_
      refine z_if_eq (tgt := 126) F dX6_readEvent_117 (by decide +kernel) (by omega) (fun c67 => ?_) (fun c67 => by exfalso; omega)
      refine z_iload F dX6_readEvent_126 (q := 1) rfl ?_
      refine z_iast F hI gs_29 (by omega) (by omega) (by decide) bd_29 dX6_readEvent_128 (by omega) (by omega) (fun M69 hI sf68 f68 => ?_)
      have tM69_18_1 : M69 18 1 = M66 18 1 := f68 18 1 (fun q => absurd q.1 (by decide))
      have tM69_18_4 : M69 18 4 = M66 18 4 := f68 18 4 (fun q => absurd q.1 (by decide))
      have tM69_18_5 : M69 18 5 = M66 18 5 := f68 18 5 (fun q => absurd q.1 (by decide))
      have tM69_18_6 : M69 18 6 = M66 18 6 := f68 18 6 (fun q => absurd q.1 (by decide))
      have hF := hF.wr f68 (by decide) (by decide)
      have hW : WFk M69 := hW.site f68 (by decide)
      refine z_aload_n F dX6_readEvent_129 rfl (q := 5) rfl ?_
      refine rf_X6_12 F gs_18 rfl dX6_readEvent_130 ?_
      refine z_dup F dX6_readEvent_133 rfl ?_
      refine gf_X6_208 F hI gs_19 rfl bd_19_4 dX6_readEvent_134 (fun v70 ev70 av70 bv70 => ?_)
      have q71 : v1 = M63 19 4 := q60.trans (f62 19 4 (fun q => absurd q.1 (by decide))).symm
      have q72 : v1 = M66 19 4 := q71.trans (f65 19 4 (fun q => absurd q.1 (by decide))).symm
      have q73 : v1 = M69 19 4 := q72.trans (f68 19 4 (fun q => absurd q.1 (by decide))).symm
      have zv70 : v1 = v70 := q73.trans ev70.symm
      subst zv70
      refine z_iconst F dX6_readEvent_137 ?_
      refine z_iadd F dX6_readEvent_138 ?_
      refine z_nm (fun v74 ev74 => ?_)
      refine pf_X6_208 F hI gs_19 rfl bd_19_4 rfl rfl dX6_readEvent_139 (by omega) (by omega) (fun M76 hI sf75 f75 => ?_)
      have tM76_18_1 : M76 18 1 = M69 18 1 := f75 18 1 (fun q => absurd q.1 (by decide))
      have tM76_18_4 : M76 18 4 = M69 18 4 := f75 18 4 (fun q => absurd q.1 (by decide))
      have tM76_18_5 : M76 18 5 = M69 18 5 := f75 18 5 (fun q => absurd q.1 (by decide))
      have tM76_18_6 : M76 18 6 = M69 18 6 := f75 18 6 (fun q => absurd q.1 (by decide))
      have hF := hF.wr f75 (by decide) (by decide)
      have hW : WFk M76 := hW.site f75 (by decide)
      exact hret _ 142 _ ⟨hI, hW⟩ ⟨hF, (by omega)⟩ dX6_readEvent_142
set_option maxRecDepth 4000 in
theorem k_X9_homes_19 (l : Launch) (M : Mem) (hJ : Iw M) : CI l yX9_homes cX9_homes 3 (some .int) 1 (fun ad => [.ref (ad 19)]) M (fun z M' => (0 ≤ z ∧ z ≤ 1023) ∧ M = M') := by
  obtain ⟨hI, hW⟩ := hJ
  refine en_i (by decide +kernel) (fun ad => by exact Nat.le_of_ble_eq_true rfl) (fun D cy ad A p e s m args below meth c Q F hret => ?_)
  refine z_eq (ls' := [(0, .ref (ad 19))]) rfl rfl rfl ?_
  refine z_iconst F dX9_homes_0 ?_
  refine z_istore_n F dX9_homes_1 rfl (by decide) (ls' := [(1, ii 0), (0, .ref (ad 19))]) rfl ?_
  refine z_iconst F dX9_homes_2 ?_
  refine z_istore_n F dX9_homes_3 rfl (by decide) (ls' := [(2, ii 0), (1, ii 0), (0, .ref (ad 19))]) rfl ?_
  refine z_loc [2, 1, 0] (ls' := [(0, .ref (ad 19)), (1, ii 0), (2, ii 0)]) rfl ?_
  suffices key4 : ∀ (n : Nat) (y2 : Int) (y3 : Int), 0 ≤ y2 → y2 ≤ 1023 → 0 ≤ y3 → y3 ≤ 8 → 8 - y3 < (n : Int) → Z D cy ad p l e (RMh 1) s m args below meth c A 3 0 0 Q 4 [(0, .ref (ad 19)), (1, ii y2), (2, ii y3)] [] M from key4 9 0 0 (by omega) (by omega) (by omega) (by omega) (by omega)
  intro n4
  induction n4 with
  | zero => intro y2 y3 ay2 by2 ay3 by3 hn4; exfalso; omega
  | succ n4 ih4 =>
    intro y2 y3 ay2 by2 ay3 by3 hn4
    refine z_iload_n F dX9_homes_4 rfl (q := 2) rfl ?_
    refine z_aload_n F dX9_homes_5 rfl (q := 0) rfl ?_
    refine gf_X9_62 F hI gs_19 rfl bd_19_3 dX9_homes_6 (fun v4 ev4 av4 bv4 => ?_)
    refine z_icmp_ge (tgt := 29) F dX9_homes_9 (by decide +kernel) (by omega) (by omega) (fun c5 => ?_) (fun c5 => ?_)
    · refine z_iload_n F dX9_homes_29 rfl (q := 1) rfl ?_
      exact hret _ _ 30 _ (by omega) ⟨hI, hW⟩ ⟨⟨by omega, by omega⟩, rfl⟩ dX9_homes_30
    · refine z_iload_n F dX9_homes_12 rfl (q := 1) rfl ?_
      refine z_iconst F dX9_homes_13 ?_
      refine z_aload_n F dX9_homes_14 rfl (q := 0) rfl ?_
      refine rf_X9_21 F gs_19 rfl dX9_homes_15 ?_
      refine z_iload_n F dX9_homes_18 rfl (q := 2) rfl ?_
      refine z_iald F hI gs_23 (by omega) (by omega) (by decide) bd_23 dX9_homes_19 (fun v6 (ev6 : v6 = M 23 _) av6 bv6 => ?_)
      refine z_shl1 (k := 9) F dX9_homes_20 (by decide) (by omega) (by omega) (fun v7 ev7 av7 bv7 => ?_)
      refine z_ior_k (k := 10) F dX9_homes_21 (by decide) (by omega) (by omega) (by omega) (by omega) (fun v8 av8 bv8 => ?_)
      refine z_istore_n F dX9_homes_22 rfl (by decide) (ls' := [(1, ii v8), (0, .ref (ad 19)), (2, ii y3)]) rfl ?_
      refine z_iincN F dX9_homes_23 (q := 2) rfl (by decide) (fun v9 ev9 => ?_)
      refine z_eq (ls' := [(2, ii v9), (1, ii v8), (0, .ref (ad 19))]) rfl rfl rfl ?_
      refine z_goto (tgt := 4) F dX9_homes_26 (by decide +kernel) ?_
      refine z_loc [2, 1, 0] (ls' := [(0, .ref (ad 19)), (1, ii v8), (2, ii v9)]) rfl ?_
      exact ih4 v8 v9 (by omega) (by omega) (by omega) (by omega) (by omega)
set_option maxHeartbeats 4000000 in
set_option maxRecDepth 4000 in
theorem kp_X6_isWord_18_1006 (l : Launch) (M : Mem) (hJ : Iw M) (hp0 : M 18 6 ≤ M 18 5 ∧ M 18 5 ≤ M 18 4) : CI l yX6_isWord cX6_isWord 3 (some .boolean) 5 (fun ad => [.ref (ad 18), .ref (ad 1006)]) M (fun z M' => (0 ≤ z ∧ z ≤ 1) ∧ M = M') := by
  obtain ⟨hI, hW⟩ := hJ
  refine en_z (by decide +kernel) (fun ad => by exact Nat.le_of_ble_eq_true rfl) (fun D cy ad A p e s m args below meth c Q F hret => ?_)
  refine z_eq (ls' := [(0, .ref (ad 18)), (1, .ref (ad 1006))]) rfl rfl rfl ?_
  obtain ⟨u1, eu1⟩ : ∃ v : Int, v = M 18 1 := ⟨_, rfl⟩
  have ku1 : (-2147483648) ≤ u1 ∧ u1 ≤ 2147483647 := by have := hI.at (show Bd 18 1 = (-2147483648, 2147483647) from rfl); omega
  obtain ⟨u2, eu2⟩ : ∃ v : Int, v = M 18 4 := ⟨_, rfl⟩
  have ku2 : 0 ≤ u2 ∧ u2 ≤ 900 := by have := hI.at (show Bd 18 4 = (0, 900) from rfl); omega
  obtain ⟨u3, eu3⟩ : ∃ v : Int, v = M 18 5 := ⟨_, rfl⟩
  have ku3 : 0 ≤ u3 ∧ u3 ≤ 900 := by have := hI.at (show Bd 18 5 = (0, 900) from rfl); omega
  obtain ⟨u4, eu4⟩ : ∃ v : Int, v = M 18 6 := ⟨_, rfl⟩
  have ku4 : 0 ≤ u4 ∧ u4 ≤ 900 := by have := hI.at (show Bd 18 6 = (0, 900) from rfl); omega
  refine z_aload_n F dX6_isWord_0 rfl (q := 0) rfl ?_
  refine gf_X6_36 F hI gs_18 rfl bd_18_1 dX6_isWord_1 (fun v5 ev5 av5 bv5 => ?_)
  have zv5 : u1 = v5 := eu1.trans ev5.symm
  subst zv5
  refine z_if_ne (tgt := 31) F dX6_isWord_4 (by decide +kernel) (by omega) (fun c6 => ?_) (fun c6 => ?_)
  · refine z_iconst F dX6_isWord_31 ?_
    exact hret _ _ 32 _ ⟨by omega, by omega⟩ ⟨hI, hW⟩ ⟨⟨by omega, by omega⟩, rfl⟩ dX6_isWord_32
  · refine z_aload_n F dX6_isWord_7 rfl (q := 0) rfl ?_
    refine gf_X6_48 F hI gs_18 rfl bd_18_7 dX6_isWord_8 (fun v7 ev7 av7 bv7 => ?_)
    refine z_iconst F dX6_isWord_11 ?_
    refine z_icmp_ne (tgt := 31) F dX6_isWord_12 (by decide +kernel) (by omega) (by omega) (fun c8 => ?_) (fun c8 => ?_)
    · refine z_iconst F dX6_isWord_31 ?_
      exact hret _ _ 32 _ ⟨by omega, by omega⟩ ⟨hI, hW⟩ ⟨⟨by omega, by omega⟩, rfl⟩ dX6_isWord_32
    · refine z_aload_n F dX6_isWord_15 rfl (q := 0) rfl ?_
      refine gf_X6_33 F hI gs_18 rfl bd_18_5 dX6_isWord_16 (fun v9 ev9 av9 bv9 => ?_)
      have zv9 : u3 = v9 := eu3.trans ev9.symm
      subst zv9
      refine z_aload_n F dX6_isWord_19 rfl (q := 0) rfl ?_
      refine gf_X6_57 F hI gs_18 rfl bd_18_6 dX6_isWord_20 (fun v10 ev10 av10 bv10 => ?_)
      have zv10 : u4 = v10 := eu4.trans ev10.symm
      subst zv10
      refine z_isub F dX6_isWord_23 ?_
      refine z_aload_n F dX6_isWord_24 rfl (q := 1) rfl ?_
      refine zvs_i (i := 6) (rest := [ii (u3 - u4)]) F (kS_len l M ⟨hI, hW⟩ 6 (by decide)) cs_X6_75 (by decide) (by decide) (by decide) rfl rfl rfl (Nat.le_of_ble_eq_true rfl) dX6_isWord_25 (fun v11 M9 rv11 hI9 pv11 => ?_)
      obtain ⟨ev11, rfl⟩ := pv11
      obtain rfl : v11 = 5 := ev11.trans (show ((sbyt.getD 6 []).length : Int) = 5 from by decide)
      clear hI9
      refine z_icmp_eq (tgt := 33) F dX6_isWord_28 (by decide +kernel) (by omega) (by omega) (fun c12 => ?_) (fun c12 => ?_)
      · refine z_iconst F dX6_isWord_33 ?_
        refine z_istore_n F dX6_isWord_34 rfl (by decide) (ls' := [(2, ii 0), (0, .ref (ad 18)), (1, .ref (ad 1006))]) rfl ?_
        refine z_loc [1, 2, 0] (ls' := [(0, .ref (ad 18)), (1, .ref (ad 1006)), (2, ii 0)]) rfl ?_
        suffices key35 : ∀ (n : Nat) (y14 : Int), 0 ≤ y14 → y14 ≤ 5 → 5 - y14 < (n : Int) → Z D cy ad p l e (RMh 5) s m args below meth c A 3 0 0 Q 35 [(0, .ref (ad 18)), (1, .ref (ad 1006)), (2, ii y14)] [] M from key35 6 0 (by omega) (by omega) (by omega)
        intro n35
        induction n35 with
        | zero => intro y14 ay14 by14 hn35; exfalso; omega
        | succ n35 ih35 =>
          intro y14 ay14 by14 hn35
          refine z_iload_n F dX6_isWord_35 rfl (q := 2) rfl ?_
          refine z_aload_n F dX6_isWord_36 rfl (q := 1) rfl ?_
          refine zvs_i (i := 6) (rest := [ii y14]) F (kS_len l M ⟨hI, hW⟩ 6 (by decide)) cs_X6_75 (by decide) (by decide) (by decide) rfl rfl rfl (Nat.le_of_ble_eq_true rfl) dX6_isWord_37 (fun v15 M9 rv15 hI9 pv15 => ?_)
          obtain ⟨ev15, rfl⟩ := pv15
          obtain rfl : v15 = 5 := ev15.trans (show ((sbyt.getD 6 []).length : Int) = 5 from by decide)
          clear hI9
          refine z_icmp_ge (tgt := 70) F dX6_isWord_40 (by decide +kernel) (by omega) (by omega) (fun c16 => ?_) (fun c16 => ?_)
          · refine z_iconst F dX6_isWord_70 ?_
            exact hret _ _ 71 _ ⟨by omega, by omega⟩ ⟨hI, hW⟩ ⟨⟨by omega, by omega⟩, rfl⟩ dX6_isWord_71
          · refine z_aload_n F dX6_isWord_43 rfl (q := 0) rfl ?_
            refine rf_X6_22 F gs_18 rfl dX6_isWord_44 ?_
            refine z_aload_n F dX6_isWord_47 rfl (q := 0) rfl ?_
            refine gf_X6_57 F hI gs_18 rfl bd_18_6 dX6_isWord_48 (fun v17 ev17 av17 bv17 => ?_)
            have zv17 : u4 = v17 := eu4.trans ev17.symm
            subst zv17
            refine z_iload_n F dX6_isWord_51 rfl (q := 2) rfl ?_
            refine z_iadd F dX6_isWord_52 ?_
            have k18 : 0 ≤ (u4 + y14) ∧ (u4 + y14) ≤ 899 := by omega
            refine z_bald F hI gs_1 (by omega) (by omega) (by decide) bd_1 dX6_isWord_53 (fun v19 (ev19 : v19 = M 1 _) av19 bv19 => ?_)
            refine z_aload_n F dX6_isWord_54 rfl (q := 1) rfl ?_
            refine z_iload_n F dX6_isWord_55 rfl (q := 2) rfl ?_
            refine zvs_i (i := 6) (rest := [ii v19]) F (kS_chr l M ⟨hI, hW⟩ 6 (by decide) y14 (by omega) (show y14 < ((sbyt.getD 6 []).length : Int) from by rw [show ((sbyt.getD 6 []).length : Int) = 5 from by decide]; omega)) cs_X6_78 (by decide) (by decide) (by decide) rfl rfl rfl (Nat.le_of_ble_eq_true rfl) dX6_isWord_56 (fun v20 M9 rv20 hI9 pv20 => ?_)
            obtain ⟨⟨av20, bv20⟩, rfl⟩ := pv20
            clear hI9
            refine z_icmp_eq (tgt := 64) F dX6_isWord_59 (by decide +kernel) (by omega) (by omega) (fun c21 => ?_) (fun c21 => ?_)
            · refine z_iincN F dX6_isWord_64 (q := 2) rfl (by decide) (fun v22 ev22 => ?_)
              refine z_eq (ls' := [(2, ii v22), (0, .ref (ad 18)), (1, .ref (ad 1006))]) rfl rfl rfl ?_
              refine z_goto (tgt := 35) F dX6_isWord_67 (by decide +kernel) ?_
              refine z_loc [1, 2, 0] (ls' := [(0, .ref (ad 18)), (1, .ref (ad 1006)), (2, ii v22)]) rfl ?_
              exact ih35 v22 (by omega) (by omega) (by omega)
            · refine z_iconst F dX6_isWord_62 ?_
              exact hret _ _ 63 _ ⟨by omega, by omega⟩ ⟨hI, hW⟩ ⟨⟨by omega, by omega⟩, rfl⟩ dX6_isWord_63
      · refine z_iconst F dX6_isWord_31 ?_
        exact hret _ _ 32 _ ⟨by omega, by omega⟩ ⟨hI, hW⟩ ⟨⟨by omega, by omega⟩, rfl⟩ dX6_isWord_32
set_option maxHeartbeats 4000000 in
set_option maxRecDepth 4000 in
theorem kp_X6_needWord_18_1006 (l : Launch) (M : Mem) (hJ : Iw M) (hp0 : M 18 6 ≤ M 18 5 ∧ M 18 5 ≤ M 18 4) : CV l yX6_needWord cX6_needWord 2 none 7 (fun ad => [.ref (ad 18), .ref (ad 1006)]) M (fun M' => Fr [18] M M' ∧ (M' 18 4 = M 18 4 ∧ M' 18 6 ≤ M' 18 5 ∧ M' 18 5 ≤ M' 18 4 ∧ (M' 18 1 = 0 → M 18 1 = 0))) := by
  obtain ⟨hI, hW⟩ := hJ
  have hF : Fr [18] M M := Fr.rf
  refine en_v (by decide +kernel) (fun ad => by exact Nat.le_of_ble_eq_true rfl) (fun D cy ad A p e s m args below meth c Q F hret => ?_)
  refine z_eq (ls' := [(0, .ref (ad 18)), (1, .ref (ad 1006))]) rfl rfl rfl ?_
  refine z_aload_n F dX6_needWord_0 rfl (q := 0) rfl ?_
  refine z_aload_n F dX6_needWord_1 rfl (q := 1) rfl ?_
  refine zv_i (rest := []) F (kp_X6_isWord_18_1006 l M ⟨hI, hW⟩ (by omega)) cs_X6_86 (T := TX6) (N := 9) (ci := 6) rfl gs_18 (by decide) (by decide) rfl rfl rfl (Nat.le_of_ble_eq_true rfl) dX6_needWord_2 (fun v1 M2 rv1 hI p3 => ?_)
  obtain ⟨hI, hW⟩ := hI
  obtain ⟨⟨av1, bv1⟩, rfl⟩ := p3
  refine z_if_eq (tgt := 15) F dX6_needWord_5 (by decide +kernel) (by omega) (fun c4 => ?_) (fun c4 => ?_)
  · refine z_aload_n F dX6_needWord_15 rfl (q := 0) rfl ?_
    refine zv_v (rest := []) F (kp_X6_refuse_18 l M ⟨hI, hW⟩) cs_X6_90 (T := TX6) (N := 9) (ci := 6) rfl gs_18 (by decide) (by decide) rfl rfl rfl (Nat.le_of_ble_eq_true rfl) dX6_needWord_16 (fun M5 hI p6 => ?_)
    obtain ⟨hI, hW⟩ := hI
    obtain ⟨fp6, xp6⟩ := p6
    have hF := hF.call fp6 (by decide)
    exact hret _ 19 _ ⟨hI, hW⟩ ⟨hF, (by omega)⟩ dX6_needWord_19
  · refine z_aload_n F dX6_needWord_8 rfl (q := 0) rfl ?_
    refine zv_v (rest := []) F (kp_X6_advance_18 l M ⟨hI, hW⟩ (by omega)) cs_X6_42 (T := TX6) (N := 9) (ci := 6) rfl gs_18 (by decide) (by decide) rfl rfl rfl (Nat.le_of_ble_eq_true rfl) dX6_needWord_9 (fun M7 hI p8 => ?_)
    obtain ⟨hI, hW⟩ := hI
    obtain ⟨fp8, xp8⟩ := p8
    have hF := hF.call fp8 (by decide)
    refine z_goto (tgt := 19) F dX6_needWord_12 (by decide +kernel) ?_
    exact hret _ 19 _ ⟨hI, hW⟩ ⟨hF, (by omega)⟩ dX6_needWord_19
set_option maxHeartbeats 4000000 in
set_option maxRecDepth 4000 in
theorem kp_X6_isWord_18_1009 (l : Launch) (M : Mem) (hJ : Iw M) (hp0 : M 18 6 ≤ M 18 5 ∧ M 18 5 ≤ M 18 4) : CI l yX6_isWord cX6_isWord 3 (some .boolean) 5 (fun ad => [.ref (ad 18), .ref (ad 1009)]) M (fun z M' => (0 ≤ z ∧ z ≤ 1) ∧ M = M') := by
  obtain ⟨hI, hW⟩ := hJ
  refine en_z (by decide +kernel) (fun ad => by exact Nat.le_of_ble_eq_true rfl) (fun D cy ad A p e s m args below meth c Q F hret => ?_)
  refine z_eq (ls' := [(0, .ref (ad 18)), (1, .ref (ad 1009))]) rfl rfl rfl ?_
  obtain ⟨u1, eu1⟩ : ∃ v : Int, v = M 18 1 := ⟨_, rfl⟩
  have ku1 : (-2147483648) ≤ u1 ∧ u1 ≤ 2147483647 := by have := hI.at (show Bd 18 1 = (-2147483648, 2147483647) from rfl); omega
  obtain ⟨u2, eu2⟩ : ∃ v : Int, v = M 18 4 := ⟨_, rfl⟩
  have ku2 : 0 ≤ u2 ∧ u2 ≤ 900 := by have := hI.at (show Bd 18 4 = (0, 900) from rfl); omega
  obtain ⟨u3, eu3⟩ : ∃ v : Int, v = M 18 5 := ⟨_, rfl⟩
  have ku3 : 0 ≤ u3 ∧ u3 ≤ 900 := by have := hI.at (show Bd 18 5 = (0, 900) from rfl); omega
  obtain ⟨u4, eu4⟩ : ∃ v : Int, v = M 18 6 := ⟨_, rfl⟩
  have ku4 : 0 ≤ u4 ∧ u4 ≤ 900 := by have := hI.at (show Bd 18 6 = (0, 900) from rfl); omega
  refine z_aload_n F dX6_isWord_0 rfl (q := 0) rfl ?_
  refine gf_X6_36 F hI gs_18 rfl bd_18_1 dX6_isWord_1 (fun v5 ev5 av5 bv5 => ?_)
  have zv5 : u1 = v5 := eu1.trans ev5.symm
  subst zv5
  refine z_if_ne (tgt := 31) F dX6_isWord_4 (by decide +kernel) (by omega) (fun c6 => ?_) (fun c6 => ?_)
  · refine z_iconst F dX6_isWord_31 ?_
    exact hret _ _ 32 _ ⟨by omega, by omega⟩ ⟨hI, hW⟩ ⟨⟨by omega, by omega⟩, rfl⟩ dX6_isWord_32
  · refine z_aload_n F dX6_isWord_7 rfl (q := 0) rfl ?_
    refine gf_X6_48 F hI gs_18 rfl bd_18_7 dX6_isWord_8 (fun v7 ev7 av7 bv7 => ?_)
    refine z_iconst F dX6_isWord_11 ?_
    refine z_icmp_ne (tgt := 31) F dX6_isWord_12 (by decide +kernel) (by omega) (by omega) (fun c8 => ?_) (fun c8 => ?_)
    · refine z_iconst F dX6_isWord_31 ?_
      exact hret _ _ 32 _ ⟨by omega, by omega⟩ ⟨hI, hW⟩ ⟨⟨by omega, by omega⟩, rfl⟩ dX6_isWord_32
    · refine z_aload_n F dX6_isWord_15 rfl (q := 0) rfl ?_
      refine gf_X6_33 F hI gs_18 rfl bd_18_5 dX6_isWord_16 (fun v9 ev9 av9 bv9 => ?_)
      have zv9 : u3 = v9 := eu3.trans ev9.symm
      subst zv9
      refine z_aload_n F dX6_isWord_19 rfl (q := 0) rfl ?_
      refine gf_X6_57 F hI gs_18 rfl bd_18_6 dX6_isWord_20 (fun v10 ev10 av10 bv10 => ?_)
      have zv10 : u4 = v10 := eu4.trans ev10.symm
      subst zv10
      refine z_isub F dX6_isWord_23 ?_
      refine z_aload_n F dX6_isWord_24 rfl (q := 1) rfl ?_
      refine zvs_i (i := 9) (rest := [ii (u3 - u4)]) F (kS_len l M ⟨hI, hW⟩ 9 (by decide)) cs_X6_75 (by decide) (by decide) (by decide) rfl rfl rfl (Nat.le_of_ble_eq_true rfl) dX6_isWord_25 (fun v11 M9 rv11 hI9 pv11 => ?_)
      obtain ⟨ev11, rfl⟩ := pv11
      obtain rfl : v11 = 5 := ev11.trans (show ((sbyt.getD 9 []).length : Int) = 5 from by decide)
      clear hI9
      refine z_icmp_eq (tgt := 33) F dX6_isWord_28 (by decide +kernel) (by omega) (by omega) (fun c12 => ?_) (fun c12 => ?_)
      · refine z_iconst F dX6_isWord_33 ?_
        refine z_istore_n F dX6_isWord_34 rfl (by decide) (ls' := [(2, ii 0), (0, .ref (ad 18)), (1, .ref (ad 1009))]) rfl ?_
        refine z_loc [1, 2, 0] (ls' := [(0, .ref (ad 18)), (1, .ref (ad 1009)), (2, ii 0)]) rfl ?_
        suffices key35 : ∀ (n : Nat) (y14 : Int), 0 ≤ y14 → y14 ≤ 5 → 5 - y14 < (n : Int) → Z D cy ad p l e (RMh 5) s m args below meth c A 3 0 0 Q 35 [(0, .ref (ad 18)), (1, .ref (ad 1009)), (2, ii y14)] [] M from key35 6 0 (by omega) (by omega) (by omega)
        intro n35
        induction n35 with
        | zero => intro y14 ay14 by14 hn35; exfalso; omega
        | succ n35 ih35 =>
          intro y14 ay14 by14 hn35
          refine z_iload_n F dX6_isWord_35 rfl (q := 2) rfl ?_
          refine z_aload_n F dX6_isWord_36 rfl (q := 1) rfl ?_
          refine zvs_i (i := 9) (rest := [ii y14]) F (kS_len l M ⟨hI, hW⟩ 9 (by decide)) cs_X6_75 (by decide) (by decide) (by decide) rfl rfl rfl (Nat.le_of_ble_eq_true rfl) dX6_isWord_37 (fun v15 M9 rv15 hI9 pv15 => ?_)
          obtain ⟨ev15, rfl⟩ := pv15
          obtain rfl : v15 = 5 := ev15.trans (show ((sbyt.getD 9 []).length : Int) = 5 from by decide)
          clear hI9
          refine z_icmp_ge (tgt := 70) F dX6_isWord_40 (by decide +kernel) (by omega) (by omega) (fun c16 => ?_) (fun c16 => ?_)
          · refine z_iconst F dX6_isWord_70 ?_
            exact hret _ _ 71 _ ⟨by omega, by omega⟩ ⟨hI, hW⟩ ⟨⟨by omega, by omega⟩, rfl⟩ dX6_isWord_71
          · refine z_aload_n F dX6_isWord_43 rfl (q := 0) rfl ?_
            refine rf_X6_22 F gs_18 rfl dX6_isWord_44 ?_
            refine z_aload_n F dX6_isWord_47 rfl (q := 0) rfl ?_
            refine gf_X6_57 F hI gs_18 rfl bd_18_6 dX6_isWord_48 (fun v17 ev17 av17 bv17 => ?_)
            have zv17 : u4 = v17 := eu4.trans ev17.symm
            subst zv17
            refine z_iload_n F dX6_isWord_51 rfl (q := 2) rfl ?_
            refine z_iadd F dX6_isWord_52 ?_
            have k18 : 0 ≤ (u4 + y14) ∧ (u4 + y14) ≤ 899 := by omega
            refine z_bald F hI gs_1 (by omega) (by omega) (by decide) bd_1 dX6_isWord_53 (fun v19 (ev19 : v19 = M 1 _) av19 bv19 => ?_)
            refine z_aload_n F dX6_isWord_54 rfl (q := 1) rfl ?_
            refine z_iload_n F dX6_isWord_55 rfl (q := 2) rfl ?_
            refine zvs_i (i := 9) (rest := [ii v19]) F (kS_chr l M ⟨hI, hW⟩ 9 (by decide) y14 (by omega) (show y14 < ((sbyt.getD 9 []).length : Int) from by rw [show ((sbyt.getD 9 []).length : Int) = 5 from by decide]; omega)) cs_X6_78 (by decide) (by decide) (by decide) rfl rfl rfl (Nat.le_of_ble_eq_true rfl) dX6_isWord_56 (fun v20 M9 rv20 hI9 pv20 => ?_)
            obtain ⟨⟨av20, bv20⟩, rfl⟩ := pv20
            clear hI9
            refine z_icmp_eq (tgt := 64) F dX6_isWord_59 (by decide +kernel) (by omega) (by omega) (fun c21 => ?_) (fun c21 => ?_)
            · refine z_iincN F dX6_isWord_64 (q := 2) rfl (by decide) (fun v22 ev22 => ?_)
              refine z_eq (ls' := [(2, ii v22), (0, .ref (ad 18)), (1, .ref (ad 1009))]) rfl rfl rfl ?_
              refine z_goto (tgt := 35) F dX6_isWord_67 (by decide +kernel) ?_
              refine z_loc [1, 2, 0] (ls' := [(0, .ref (ad 18)), (1, .ref (ad 1009)), (2, ii v22)]) rfl ?_
              exact ih35 v22 (by omega) (by omega) (by omega)
            · refine z_iconst F dX6_isWord_62 ?_
              exact hret _ _ 63 _ ⟨by omega, by omega⟩ ⟨hI, hW⟩ ⟨⟨by omega, by omega⟩, rfl⟩ dX6_isWord_63
      · refine z_iconst F dX6_isWord_31 ?_
        exact hret _ _ 32 _ ⟨by omega, by omega⟩ ⟨hI, hW⟩ ⟨⟨by omega, by omega⟩, rfl⟩ dX6_isWord_32
set_option maxHeartbeats 4000000 in
set_option maxRecDepth 4000 in
theorem kp_X6_takeWord_18_1009 (l : Launch) (M : Mem) (hJ : Iw M) (hp0 : M 18 6 ≤ M 18 5 ∧ M 18 5 ≤ M 18 4) : CI l yX6_takeWord cX6_takeWord 3 (some .boolean) 7 (fun ad => [.ref (ad 18), .ref (ad 1009)]) M (fun z M' => (0 ≤ z ∧ z ≤ 1) ∧ Fr [18] M M' ∧ (M' 18 4 = M 18 4 ∧ M' 18 6 ≤ M' 18 5 ∧ M' 18 5 ≤ M' 18 4 ∧ M' 18 1 = M 18 1)) := by
  obtain ⟨hI, hW⟩ := hJ
  have hF : Fr [18] M M := Fr.rf
  refine en_z (by decide +kernel) (fun ad => by exact Nat.le_of_ble_eq_true rfl) (fun D cy ad A p e s m args below meth c Q F hret => ?_)
  refine z_eq (ls' := [(0, .ref (ad 18)), (1, .ref (ad 1009))]) rfl rfl rfl ?_
  refine z_aload_n F dX6_takeWord_0 rfl (q := 0) rfl ?_
  refine z_aload_n F dX6_takeWord_1 rfl (q := 1) rfl ?_
  refine zv_i (rest := []) F (kp_X6_isWord_18_1009 l M ⟨hI, hW⟩ (by omega)) cs_X6_86 (T := TX6) (N := 9) (ci := 6) rfl gs_18 (by decide) (by decide) rfl rfl rfl (Nat.le_of_ble_eq_true rfl) dX6_takeWord_2 (fun v1 M2 rv1 hI p3 => ?_)
  obtain ⟨hI, hW⟩ := hI
  obtain ⟨⟨av1, bv1⟩, rfl⟩ := p3
  refine z_istore_n F dX6_takeWord_5 rfl (by decide) (ls' := [(2, ii v1), (0, .ref (ad 18)), (1, .ref (ad 1009))]) rfl ?_
  refine z_iload_n F dX6_takeWord_6 rfl (q := 0) rfl ?_
  refine z_if_eq (tgt := 14) F dX6_takeWord_7 (by decide +kernel) (by omega) (fun c4 => ?_) (fun c4 => ?_)
  · refine z_iload_n F dX6_takeWord_14 rfl (q := 0) rfl ?_
    exact hret _ _ 15 _ ⟨by omega, by omega⟩ ⟨hI, hW⟩ ⟨⟨by omega, by omega⟩, hF, (by omega)⟩ dX6_takeWord_15
  · refine z_aload_n F dX6_takeWord_10 rfl (q := 1) rfl ?_
    refine zv_v (rest := []) F (kp_X6_advance_18 l M ⟨hI, hW⟩ (by omega)) cs_X6_42 (T := TX6) (N := 9) (ci := 6) rfl gs_18 (by decide) (by decide) rfl rfl rfl (Nat.le_of_ble_eq_true rfl) dX6_takeWord_11 (fun M5 hI p6 => ?_)
    obtain ⟨hI, hW⟩ := hI
    obtain ⟨fp6, xp6⟩ := p6
    have hF := hF.call fp6 (by decide)
    refine z_iload_n F dX6_takeWord_14 rfl (q := 0) rfl ?_
    exact hret _ _ 15 _ ⟨by omega, by omega⟩ ⟨hI, hW⟩ ⟨⟨by omega, by omega⟩, hF, (by omega)⟩ dX6_takeWord_15
set_option maxHeartbeats 4000000 in
set_option maxRecDepth 4000 in
theorem kp_X6_isWord_18_1008 (l : Launch) (M : Mem) (hJ : Iw M) (hp0 : M 18 6 ≤ M 18 5 ∧ M 18 5 ≤ M 18 4) : CI l yX6_isWord cX6_isWord 3 (some .boolean) 5 (fun ad => [.ref (ad 18), .ref (ad 1008)]) M (fun z M' => (0 ≤ z ∧ z ≤ 1) ∧ M = M') := by
  obtain ⟨hI, hW⟩ := hJ
  refine en_z (by decide +kernel) (fun ad => by exact Nat.le_of_ble_eq_true rfl) (fun D cy ad A p e s m args below meth c Q F hret => ?_)
  refine z_eq (ls' := [(0, .ref (ad 18)), (1, .ref (ad 1008))]) rfl rfl rfl ?_
  obtain ⟨u1, eu1⟩ : ∃ v : Int, v = M 18 1 := ⟨_, rfl⟩
  have ku1 : (-2147483648) ≤ u1 ∧ u1 ≤ 2147483647 := by have := hI.at (show Bd 18 1 = (-2147483648, 2147483647) from rfl); omega
  obtain ⟨u2, eu2⟩ : ∃ v : Int, v = M 18 4 := ⟨_, rfl⟩
  have ku2 : 0 ≤ u2 ∧ u2 ≤ 900 := by have := hI.at (show Bd 18 4 = (0, 900) from rfl); omega
  obtain ⟨u3, eu3⟩ : ∃ v : Int, v = M 18 5 := ⟨_, rfl⟩
  have ku3 : 0 ≤ u3 ∧ u3 ≤ 900 := by have := hI.at (show Bd 18 5 = (0, 900) from rfl); omega
  obtain ⟨u4, eu4⟩ : ∃ v : Int, v = M 18 6 := ⟨_, rfl⟩
  have ku4 : 0 ≤ u4 ∧ u4 ≤ 900 := by have := hI.at (show Bd 18 6 = (0, 900) from rfl); omega
  refine z_aload_n F dX6_isWord_0 rfl (q := 0) rfl ?_
  refine gf_X6_36 F hI gs_18 rfl bd_18_1 dX6_isWord_1 (fun v5 ev5 av5 bv5 => ?_)
  have zv5 : u1 = v5 := eu1.trans ev5.symm
  subst zv5
  refine z_if_ne (tgt := 31) F dX6_isWord_4 (by decide +kernel) (by omega) (fun c6 => ?_) (fun c6 => ?_)
  · refine z_iconst F dX6_isWord_31 ?_
    exact hret _ _ 32 _ ⟨by omega, by omega⟩ ⟨hI, hW⟩ ⟨⟨by omega, by omega⟩, rfl⟩ dX6_isWord_32
  · refine z_aload_n F dX6_isWord_7 rfl (q := 0) rfl ?_
    refine gf_X6_48 F hI gs_18 rfl bd_18_7 dX6_isWord_8 (fun v7 ev7 av7 bv7 => ?_)
    refine z_iconst F dX6_isWord_11 ?_
    refine z_icmp_ne (tgt := 31) F dX6_isWord_12 (by decide +kernel) (by omega) (by omega) (fun c8 => ?_) (fun c8 => ?_)
    · refine z_iconst F dX6_isWord_31 ?_
      exact hret _ _ 32 _ ⟨by omega, by omega⟩ ⟨hI, hW⟩ ⟨⟨by omega, by omega⟩, rfl⟩ dX6_isWord_32
    · refine z_aload_n F dX6_isWord_15 rfl (q := 0) rfl ?_
      refine gf_X6_33 F hI gs_18 rfl bd_18_5 dX6_isWord_16 (fun v9 ev9 av9 bv9 => ?_)
      have zv9 : u3 = v9 := eu3.trans ev9.symm
      subst zv9
      refine z_aload_n F dX6_isWord_19 rfl (q := 0) rfl ?_
      refine gf_X6_57 F hI gs_18 rfl bd_18_6 dX6_isWord_20 (fun v10 ev10 av10 bv10 => ?_)
      have zv10 : u4 = v10 := eu4.trans ev10.symm
      subst zv10
      refine z_isub F dX6_isWord_23 ?_
      refine z_aload_n F dX6_isWord_24 rfl (q := 1) rfl ?_
      refine zvs_i (i := 8) (rest := [ii (u3 - u4)]) F (kS_len l M ⟨hI, hW⟩ 8 (by decide)) cs_X6_75 (by decide) (by decide) (by decide) rfl rfl rfl (Nat.le_of_ble_eq_true rfl) dX6_isWord_25 (fun v11 M9 rv11 hI9 pv11 => ?_)
      obtain ⟨ev11, rfl⟩ := pv11
      obtain rfl : v11 = 4 := ev11.trans (show ((sbyt.getD 8 []).length : Int) = 4 from by decide)
      clear hI9
      refine z_icmp_eq (tgt := 33) F dX6_isWord_28 (by decide +kernel) (by omega) (by omega) (fun c12 => ?_) (fun c12 => ?_)
      · refine z_iconst F dX6_isWord_33 ?_
        refine z_istore_n F dX6_isWord_34 rfl (by decide) (ls' := [(2, ii 0), (0, .ref (ad 18)), (1, .ref (ad 1008))]) rfl ?_
        refine z_loc [1, 2, 0] (ls' := [(0, .ref (ad 18)), (1, .ref (ad 1008)), (2, ii 0)]) rfl ?_
        suffices key35 : ∀ (n : Nat) (y14 : Int), 0 ≤ y14 → y14 ≤ 4 → 4 - y14 < (n : Int) → Z D cy ad p l e (RMh 5) s m args below meth c A 3 0 0 Q 35 [(0, .ref (ad 18)), (1, .ref (ad 1008)), (2, ii y14)] [] M from key35 5 0 (by omega) (by omega) (by omega)
        intro n35
        induction n35 with
        | zero => intro y14 ay14 by14 hn35; exfalso; omega
        | succ n35 ih35 =>
          intro y14 ay14 by14 hn35
          refine z_iload_n F dX6_isWord_35 rfl (q := 2) rfl ?_
          refine z_aload_n F dX6_isWord_36 rfl (q := 1) rfl ?_
          refine zvs_i (i := 8) (rest := [ii y14]) F (kS_len l M ⟨hI, hW⟩ 8 (by decide)) cs_X6_75 (by decide) (by decide) (by decide) rfl rfl rfl (Nat.le_of_ble_eq_true rfl) dX6_isWord_37 (fun v15 M9 rv15 hI9 pv15 => ?_)
          obtain ⟨ev15, rfl⟩ := pv15
          obtain rfl : v15 = 4 := ev15.trans (show ((sbyt.getD 8 []).length : Int) = 4 from by decide)
          clear hI9
          refine z_icmp_ge (tgt := 70) F dX6_isWord_40 (by decide +kernel) (by omega) (by omega) (fun c16 => ?_) (fun c16 => ?_)
          · refine z_iconst F dX6_isWord_70 ?_
            exact hret _ _ 71 _ ⟨by omega, by omega⟩ ⟨hI, hW⟩ ⟨⟨by omega, by omega⟩, rfl⟩ dX6_isWord_71
          · refine z_aload_n F dX6_isWord_43 rfl (q := 0) rfl ?_
            refine rf_X6_22 F gs_18 rfl dX6_isWord_44 ?_
            refine z_aload_n F dX6_isWord_47 rfl (q := 0) rfl ?_
            refine gf_X6_57 F hI gs_18 rfl bd_18_6 dX6_isWord_48 (fun v17 ev17 av17 bv17 => ?_)
            have zv17 : u4 = v17 := eu4.trans ev17.symm
            subst zv17
            refine z_iload_n F dX6_isWord_51 rfl (q := 2) rfl ?_
            refine z_iadd F dX6_isWord_52 ?_
            have k18 : 0 ≤ (u4 + y14) ∧ (u4 + y14) ≤ 899 := by omega
            refine z_bald F hI gs_1 (by omega) (by omega) (by decide) bd_1 dX6_isWord_53 (fun v19 (ev19 : v19 = M 1 _) av19 bv19 => ?_)
            refine z_aload_n F dX6_isWord_54 rfl (q := 1) rfl ?_
            refine z_iload_n F dX6_isWord_55 rfl (q := 2) rfl ?_
            refine zvs_i (i := 8) (rest := [ii v19]) F (kS_chr l M ⟨hI, hW⟩ 8 (by decide) y14 (by omega) (show y14 < ((sbyt.getD 8 []).length : Int) from by rw [show ((sbyt.getD 8 []).length : Int) = 4 from by decide]; omega)) cs_X6_78 (by decide) (by decide) (by decide) rfl rfl rfl (Nat.le_of_ble_eq_true rfl) dX6_isWord_56 (fun v20 M9 rv20 hI9 pv20 => ?_)
            obtain ⟨⟨av20, bv20⟩, rfl⟩ := pv20
            clear hI9
            refine z_icmp_eq (tgt := 64) F dX6_isWord_59 (by decide +kernel) (by omega) (by omega) (fun c21 => ?_) (fun c21 => ?_)
            · refine z_iincN F dX6_isWord_64 (q := 2) rfl (by decide) (fun v22 ev22 => ?_)
              refine z_eq (ls' := [(2, ii v22), (0, .ref (ad 18)), (1, .ref (ad 1008))]) rfl rfl rfl ?_
              refine z_goto (tgt := 35) F dX6_isWord_67 (by decide +kernel) ?_
              refine z_loc [1, 2, 0] (ls' := [(0, .ref (ad 18)), (1, .ref (ad 1008)), (2, ii v22)]) rfl ?_
              exact ih35 v22 (by omega) (by omega) (by omega)
            · refine z_iconst F dX6_isWord_62 ?_
              exact hret _ _ 63 _ ⟨by omega, by omega⟩ ⟨hI, hW⟩ ⟨⟨by omega, by omega⟩, rfl⟩ dX6_isWord_63
      · refine z_iconst F dX6_isWord_31 ?_
        exact hret _ _ 32 _ ⟨by omega, by omega⟩ ⟨hI, hW⟩ ⟨⟨by omega, by omega⟩, rfl⟩ dX6_isWord_32
set_option maxHeartbeats 4000000 in
set_option maxRecDepth 4000 in
theorem kp_X6_takeWord_18_1008 (l : Launch) (M : Mem) (hJ : Iw M) (hp0 : M 18 6 ≤ M 18 5 ∧ M 18 5 ≤ M 18 4) : CI l yX6_takeWord cX6_takeWord 3 (some .boolean) 7 (fun ad => [.ref (ad 18), .ref (ad 1008)]) M (fun z M' => (0 ≤ z ∧ z ≤ 1) ∧ Fr [18] M M' ∧ (M' 18 4 = M 18 4 ∧ M' 18 6 ≤ M' 18 5 ∧ M' 18 5 ≤ M' 18 4 ∧ M' 18 1 = M 18 1)) := by
  obtain ⟨hI, hW⟩ := hJ
  have hF : Fr [18] M M := Fr.rf
  refine en_z (by decide +kernel) (fun ad => by exact Nat.le_of_ble_eq_true rfl) (fun D cy ad A p e s m args below meth c Q F hret => ?_)
  refine z_eq (ls' := [(0, .ref (ad 18)), (1, .ref (ad 1008))]) rfl rfl rfl ?_
  refine z_aload_n F dX6_takeWord_0 rfl (q := 0) rfl ?_
  refine z_aload_n F dX6_takeWord_1 rfl (q := 1) rfl ?_
  refine zv_i (rest := []) F (kp_X6_isWord_18_1008 l M ⟨hI, hW⟩ (by omega)) cs_X6_86 (T := TX6) (N := 9) (ci := 6) rfl gs_18 (by decide) (by decide) rfl rfl rfl (Nat.le_of_ble_eq_true rfl) dX6_takeWord_2 (fun v1 M2 rv1 hI p3 => ?_)
  obtain ⟨hI, hW⟩ := hI
  obtain ⟨⟨av1, bv1⟩, rfl⟩ := p3
  refine z_istore_n F dX6_takeWord_5 rfl (by decide) (ls' := [(2, ii v1), (0, .ref (ad 18)), (1, .ref (ad 1008))]) rfl ?_
  refine z_iload_n F dX6_takeWord_6 rfl (q := 0) rfl ?_
  refine z_if_eq (tgt := 14) F dX6_takeWord_7 (by decide +kernel) (by omega) (fun c4 => ?_) (fun c4 => ?_)
  · refine z_iload_n F dX6_takeWord_14 rfl (q := 0) rfl ?_
    exact hret _ _ 15 _ ⟨by omega, by omega⟩ ⟨hI, hW⟩ ⟨⟨by omega, by omega⟩, hF, (by omega)⟩ dX6_takeWord_15
  · refine z_aload_n F dX6_takeWord_10 rfl (q := 1) rfl ?_
    refine zv_v (rest := []) F (kp_X6_advance_18 l M ⟨hI, hW⟩ (by omega)) cs_X6_42 (T := TX6) (N := 9) (ci := 6) rfl gs_18 (by decide) (by decide) rfl rfl rfl (Nat.le_of_ble_eq_true rfl) dX6_takeWord_11 (fun M5 hI p6 => ?_)
    obtain ⟨hI, hW⟩ := hI
    obtain ⟨fp6, xp6⟩ := p6
    have hF := hF.call fp6 (by decide)
    refine z_iload_n F dX6_takeWord_14 rfl (q := 0) rfl ?_
    exact hret _ _ 15 _ ⟨by omega, by omega⟩ ⟨hI, hW⟩ ⟨⟨by omega, by omega⟩, hF, (by omega)⟩ dX6_takeWord_15
set_option maxHeartbeats 4000000 in
set_option maxRecDepth 4000 in
theorem kp_X6_isWord_18_1007 (l : Launch) (M : Mem) (hJ : Iw M) (hp0 : M 18 6 ≤ M 18 5 ∧ M 18 5 ≤ M 18 4) : CI l yX6_isWord cX6_isWord 3 (some .boolean) 5 (fun ad => [.ref (ad 18), .ref (ad 1007)]) M (fun z M' => (0 ≤ z ∧ z ≤ 1) ∧ M = M') := by
  obtain ⟨hI, hW⟩ := hJ
  refine en_z (by decide +kernel) (fun ad => by exact Nat.le_of_ble_eq_true rfl) (fun D cy ad A p e s m args below meth c Q F hret => ?_)
  refine z_eq (ls' := [(0, .ref (ad 18)), (1, .ref (ad 1007))]) rfl rfl rfl ?_
  obtain ⟨u1, eu1⟩ : ∃ v : Int, v = M 18 1 := ⟨_, rfl⟩
  have ku1 : (-2147483648) ≤ u1 ∧ u1 ≤ 2147483647 := by have := hI.at (show Bd 18 1 = (-2147483648, 2147483647) from rfl); omega
  obtain ⟨u2, eu2⟩ : ∃ v : Int, v = M 18 4 := ⟨_, rfl⟩
  have ku2 : 0 ≤ u2 ∧ u2 ≤ 900 := by have := hI.at (show Bd 18 4 = (0, 900) from rfl); omega
  obtain ⟨u3, eu3⟩ : ∃ v : Int, v = M 18 5 := ⟨_, rfl⟩
  have ku3 : 0 ≤ u3 ∧ u3 ≤ 900 := by have := hI.at (show Bd 18 5 = (0, 900) from rfl); omega
  obtain ⟨u4, eu4⟩ : ∃ v : Int, v = M 18 6 := ⟨_, rfl⟩
  have ku4 : 0 ≤ u4 ∧ u4 ≤ 900 := by have := hI.at (show Bd 18 6 = (0, 900) from rfl); omega
  refine z_aload_n F dX6_isWord_0 rfl (q := 0) rfl ?_
  refine gf_X6_36 F hI gs_18 rfl bd_18_1 dX6_isWord_1 (fun v5 ev5 av5 bv5 => ?_)
  have zv5 : u1 = v5 := eu1.trans ev5.symm
  subst zv5
  refine z_if_ne (tgt := 31) F dX6_isWord_4 (by decide +kernel) (by omega) (fun c6 => ?_) (fun c6 => ?_)
  · refine z_iconst F dX6_isWord_31 ?_
    exact hret _ _ 32 _ ⟨by omega, by omega⟩ ⟨hI, hW⟩ ⟨⟨by omega, by omega⟩, rfl⟩ dX6_isWord_32
  · refine z_aload_n F dX6_isWord_7 rfl (q := 0) rfl ?_
    refine gf_X6_48 F hI gs_18 rfl bd_18_7 dX6_isWord_8 (fun v7 ev7 av7 bv7 => ?_)
    refine z_iconst F dX6_isWord_11 ?_
    refine z_icmp_ne (tgt := 31) F dX6_isWord_12 (by decide +kernel) (by omega) (by omega) (fun c8 => ?_) (fun c8 => ?_)
    · refine z_iconst F dX6_isWord_31 ?_
      exact hret _ _ 32 _ ⟨by omega, by omega⟩ ⟨hI, hW⟩ ⟨⟨by omega, by omega⟩, rfl⟩ dX6_isWord_32
    · refine z_aload_n F dX6_isWord_15 rfl (q := 0) rfl ?_
      refine gf_X6_33 F hI gs_18 rfl bd_18_5 dX6_isWord_16 (fun v9 ev9 av9 bv9 => ?_)
      have zv9 : u3 = v9 := eu3.trans ev9.symm
      subst zv9
      refine z_aload_n F dX6_isWord_19 rfl (q := 0) rfl ?_
      refine gf_X6_57 F hI gs_18 rfl bd_18_6 dX6_isWord_20 (fun v10 ev10 av10 bv10 => ?_)
      have zv10 : u4 = v10 := eu4.trans ev10.symm
      subst zv10
      refine z_isub F dX6_isWord_23 ?_
      refine z_aload_n F dX6_isWord_24 rfl (q := 1) rfl ?_
      refine zvs_i (i := 7) (rest := [ii (u3 - u4)]) F (kS_len l M ⟨hI, hW⟩ 7 (by decide)) cs_X6_75 (by decide) (by decide) (by decide) rfl rfl rfl (Nat.le_of_ble_eq_true rfl) dX6_isWord_25 (fun v11 M9 rv11 hI9 pv11 => ?_)
      obtain ⟨ev11, rfl⟩ := pv11
      obtain rfl : v11 = 4 := ev11.trans (show ((sbyt.getD 7 []).length : Int) = 4 from by decide)
      clear hI9
      refine z_icmp_eq (tgt := 33) F dX6_isWord_28 (by decide +kernel) (by omega) (by omega) (fun c12 => ?_) (fun c12 => ?_)
      · refine z_iconst F dX6_isWord_33 ?_
        refine z_istore_n F dX6_isWord_34 rfl (by decide) (ls' := [(2, ii 0), (0, .ref (ad 18)), (1, .ref (ad 1007))]) rfl ?_
        refine z_loc [1, 2, 0] (ls' := [(0, .ref (ad 18)), (1, .ref (ad 1007)), (2, ii 0)]) rfl ?_
        suffices key35 : ∀ (n : Nat) (y14 : Int), 0 ≤ y14 → y14 ≤ 4 → 4 - y14 < (n : Int) → Z D cy ad p l e (RMh 5) s m args below meth c A 3 0 0 Q 35 [(0, .ref (ad 18)), (1, .ref (ad 1007)), (2, ii y14)] [] M from key35 5 0 (by omega) (by omega) (by omega)
        intro n35
        induction n35 with
        | zero => intro y14 ay14 by14 hn35; exfalso; omega
        | succ n35 ih35 =>
          intro y14 ay14 by14 hn35
          refine z_iload_n F dX6_isWord_35 rfl (q := 2) rfl ?_
          refine z_aload_n F dX6_isWord_36 rfl (q := 1) rfl ?_
          refine zvs_i (i := 7) (rest := [ii y14]) F (kS_len l M ⟨hI, hW⟩ 7 (by decide)) cs_X6_75 (by decide) (by decide) (by decide) rfl rfl rfl (Nat.le_of_ble_eq_true rfl) dX6_isWord_37 (fun v15 M9 rv15 hI9 pv15 => ?_)
          obtain ⟨ev15, rfl⟩ := pv15
          obtain rfl : v15 = 4 := ev15.trans (show ((sbyt.getD 7 []).length : Int) = 4 from by decide)
          clear hI9
          refine z_icmp_ge (tgt := 70) F dX6_isWord_40 (by decide +kernel) (by omega) (by omega) (fun c16 => ?_) (fun c16 => ?_)
          · refine z_iconst F dX6_isWord_70 ?_
            exact hret _ _ 71 _ ⟨by omega, by omega⟩ ⟨hI, hW⟩ ⟨⟨by omega, by omega⟩, rfl⟩ dX6_isWord_71
          · refine z_aload_n F dX6_isWord_43 rfl (q := 0) rfl ?_
            refine rf_X6_22 F gs_18 rfl dX6_isWord_44 ?_
            refine z_aload_n F dX6_isWord_47 rfl (q := 0) rfl ?_
            refine gf_X6_57 F hI gs_18 rfl bd_18_6 dX6_isWord_48 (fun v17 ev17 av17 bv17 => ?_)
            have zv17 : u4 = v17 := eu4.trans ev17.symm
            subst zv17
            refine z_iload_n F dX6_isWord_51 rfl (q := 2) rfl ?_
            refine z_iadd F dX6_isWord_52 ?_
            have k18 : 0 ≤ (u4 + y14) ∧ (u4 + y14) ≤ 899 := by omega
            refine z_bald F hI gs_1 (by omega) (by omega) (by decide) bd_1 dX6_isWord_53 (fun v19 (ev19 : v19 = M 1 _) av19 bv19 => ?_)
            refine z_aload_n F dX6_isWord_54 rfl (q := 1) rfl ?_
            refine z_iload_n F dX6_isWord_55 rfl (q := 2) rfl ?_
            refine zvs_i (i := 7) (rest := [ii v19]) F (kS_chr l M ⟨hI, hW⟩ 7 (by decide) y14 (by omega) (show y14 < ((sbyt.getD 7 []).length : Int) from by rw [show ((sbyt.getD 7 []).length : Int) = 4 from by decide]; omega)) cs_X6_78 (by decide) (by decide) (by decide) rfl rfl rfl (Nat.le_of_ble_eq_true rfl) dX6_isWord_56 (fun v20 M9 rv20 hI9 pv20 => ?_)
            obtain ⟨⟨av20, bv20⟩, rfl⟩ := pv20
            clear hI9
            refine z_icmp_eq (tgt := 64) F dX6_isWord_59 (by decide +kernel) (by omega) (by omega) (fun c21 => ?_) (fun c21 => ?_)
            · refine z_iincN F dX6_isWord_64 (q := 2) rfl (by decide) (fun v22 ev22 => ?_)
              refine z_eq (ls' := [(2, ii v22), (0, .ref (ad 18)), (1, .ref (ad 1007))]) rfl rfl rfl ?_
              refine z_goto (tgt := 35) F dX6_isWord_67 (by decide +kernel) ?_
              refine z_loc [1, 2, 0] (ls' := [(0, .ref (ad 18)), (1, .ref (ad 1007)), (2, ii v22)]) rfl ?_
              exact ih35 v22 (by omega) (by omega) (by omega)
            · refine z_iconst F dX6_isWord_62 ?_
              exact hret _ _ 63 _ ⟨by omega, by omega⟩ ⟨hI, hW⟩ ⟨⟨by omega, by omega⟩, rfl⟩ dX6_isWord_63
      · refine z_iconst F dX6_isWord_31 ?_
        exact hret _ _ 32 _ ⟨by omega, by omega⟩ ⟨hI, hW⟩ ⟨⟨by omega, by omega⟩, rfl⟩ dX6_isWord_32
set_option maxHeartbeats 4000000 in
set_option maxRecDepth 4000 in
theorem kp_X6_takeWord_18_1007 (l : Launch) (M : Mem) (hJ : Iw M) (hp0 : M 18 6 ≤ M 18 5 ∧ M 18 5 ≤ M 18 4) : CI l yX6_takeWord cX6_takeWord 3 (some .boolean) 7 (fun ad => [.ref (ad 18), .ref (ad 1007)]) M (fun z M' => (0 ≤ z ∧ z ≤ 1) ∧ Fr [18] M M' ∧ (M' 18 4 = M 18 4 ∧ M' 18 6 ≤ M' 18 5 ∧ M' 18 5 ≤ M' 18 4 ∧ M' 18 1 = M 18 1)) := by
  obtain ⟨hI, hW⟩ := hJ
  have hF : Fr [18] M M := Fr.rf
  refine en_z (by decide +kernel) (fun ad => by exact Nat.le_of_ble_eq_true rfl) (fun D cy ad A p e s m args below meth c Q F hret => ?_)
  refine z_eq (ls' := [(0, .ref (ad 18)), (1, .ref (ad 1007))]) rfl rfl rfl ?_
  refine z_aload_n F dX6_takeWord_0 rfl (q := 0) rfl ?_
  refine z_aload_n F dX6_takeWord_1 rfl (q := 1) rfl ?_
  refine zv_i (rest := []) F (kp_X6_isWord_18_1007 l M ⟨hI, hW⟩ (by omega)) cs_X6_86 (T := TX6) (N := 9) (ci := 6) rfl gs_18 (by decide) (by decide) rfl rfl rfl (Nat.le_of_ble_eq_true rfl) dX6_takeWord_2 (fun v1 M2 rv1 hI p3 => ?_)
  obtain ⟨hI, hW⟩ := hI
  obtain ⟨⟨av1, bv1⟩, rfl⟩ := p3
  refine z_istore_n F dX6_takeWord_5 rfl (by decide) (ls' := [(2, ii v1), (0, .ref (ad 18)), (1, .ref (ad 1007))]) rfl ?_
  refine z_iload_n F dX6_takeWord_6 rfl (q := 0) rfl ?_
  refine z_if_eq (tgt := 14) F dX6_takeWord_7 (by decide +kernel) (by omega) (fun c4 => ?_) (fun c4 => ?_)
  · refine z_iload_n F dX6_takeWord_14 rfl (q := 0) rfl ?_
    exact hret _ _ 15 _ ⟨by omega, by omega⟩ ⟨hI, hW⟩ ⟨⟨by omega, by omega⟩, hF, (by omega)⟩ dX6_takeWord_15
  · refine z_aload_n F dX6_takeWord_10 rfl (q := 1) rfl ?_
    refine zv_v (rest := []) F (kp_X6_advance_18 l M ⟨hI, hW⟩ (by omega)) cs_X6_42 (T := TX6) (N := 9) (ci := 6) rfl gs_18 (by decide) (by decide) rfl rfl rfl (Nat.le_of_ble_eq_true rfl) dX6_takeWord_11 (fun M5 hI p6 => ?_)
    obtain ⟨hI, hW⟩ := hI
    obtain ⟨fp6, xp6⟩ := p6
    have hF := hF.call fp6 (by decide)
    refine z_iload_n F dX6_takeWord_14 rfl (q := 0) rfl ?_
    exact hret _ _ 15 _ ⟨by omega, by omega⟩ ⟨hI, hW⟩ ⟨⟨by omega, by omega⟩, hF, (by omega)⟩ dX6_takeWord_15
