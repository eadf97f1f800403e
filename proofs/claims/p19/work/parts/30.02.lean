theorem dX10_numberAt_0 : decode cX10_numberAt 0 = .ok (.iload_n 1, 1) := by decide +kernel
theorem dX10_numberAt_1 : decode cX10_numberAt 1 = .ok (.ifCond .lt 20, 3) := by decide +kernel
theorem dX10_numberAt_12 : decode cX10_numberAt 12 = .ok (.aload_n 0, 1) := by decide +kernel
theorem dX10_numberAt_13 : decode cX10_numberAt 13 = .ok (.getfield 15, 3) := by decide +kernel
theorem dX10_numberAt_16 : decode cX10_numberAt 16 = .ok (.iload_n 1, 1) := by decide +kernel
theorem dX10_numberAt_17 : decode cX10_numberAt 17 = .ok (.laload, 1) := by decide +kernel
theorem dX10_numberAt_18 : decode cX10_numberAt 18 = .ok (.goto 4, 3) := by decide +kernel
theorem dX10_numberAt_21 : decode cX10_numberAt 21 = .ok (.lconst 0, 1) := by decide +kernel
theorem dX10_numberAt_22 : decode cX10_numberAt 22 = .ok (.lreturn, 1) := by decide +kernel
theorem dX10_numberAt_4 : decode cX10_numberAt 4 = .ok (.iload_n 1, 1) := by decide +kernel
theorem dX10_numberAt_5 : decode cX10_numberAt 5 = .ok (.aload_n 0, 1) := by decide +kernel
theorem dX10_numberAt_6 : decode cX10_numberAt 6 = .ok (.getfield 9, 3) := by decide +kernel
theorem dX10_numberAt_9 : decode cX10_numberAt 9 = .ok (.if_icmp .ge 12, 3) := by decide +kernel
theorem dX11_carryOut_0 : decode cX11_carryOut 0 = .ok (.iconst 0, 1) := by decide +kernel
theorem dX11_carryOut_1 : decode cX11_carryOut 1 = .ok (.istore_n 3, 1) := by decide +kernel
theorem dX11_carryOut_10 : decode cX11_carryOut 10 = .ok (.aload_n 1, 1) := by decide +kernel
theorem dX11_carryOut_11 : decode cX11_carryOut 11 = .ok (.iload_n 3, 1) := by decide +kernel
theorem dX11_carryOut_12 : decode cX11_carryOut 12 = .ok (.invokevirtual 267, 3) := by decide +kernel
theorem dX11_carryOut_15 : decode cX11_carryOut 15 = .ok (.lstore 4, 2) := by decide +kernel
theorem dX11_carryOut_17 : decode cX11_carryOut 17 = .ok (.aload_n 0, 1) := by decide +kernel
theorem dX11_carryOut_18 : decode cX11_carryOut 18 = .ok (.getfield 34, 3) := by decide +kernel
theorem dX11_carryOut_2 : decode cX11_carryOut 2 = .ok (.iload_n 3, 1) := by decide +kernel
theorem dX11_carryOut_21 : decode cX11_carryOut 21 = .ok (.lload 4, 2) := by decide +kernel
theorem dX11_carryOut_23 : decode cX11_carryOut 23 = .ok (.invokevirtual 271, 3) := by decide +kernel
theorem dX11_carryOut_26 : decode cX11_carryOut 26 = .ok (.ifCond .eq 5, 3) := by decide +kernel
theorem dX11_carryOut_29 : decode cX11_carryOut 29 = .ok (.iload_n 3, 1) := by decide +kernel
theorem dX11_carryOut_3 : decode cX11_carryOut 3 = .ok (.aload_n 1, 1) := by decide +kernel
theorem dX11_carryOut_30 : decode cX11_carryOut 30 = .ok (.ireturn, 1) := by decide +kernel
theorem dX11_carryOut_31 : decode cX11_carryOut 31 = .ok (.iload_n 2, 1) := by decide +kernel
theorem dX11_carryOut_32 : decode cX11_carryOut 32 = .ok (.ifCond .eq 14, 3) := by decide +kernel
theorem dX11_carryOut_35 : decode cX11_carryOut 35 = .ok (.aload_n 0, 1) := by decide +kernel
theorem dX11_carryOut_36 : decode cX11_carryOut 36 = .ok (.getfield 41, 3) := by decide +kernel
theorem dX11_carryOut_39 : decode cX11_carryOut 39 = .ok (.aload_n 0, 1) := by decide +kernel
theorem dX11_carryOut_4 : decode cX11_carryOut 4 = .ok (.getfield 266, 3) := by decide +kernel
theorem dX11_carryOut_40 : decode cX11_carryOut 40 = .ok (.getfield 34, 3) := by decide +kernel
theorem dX11_carryOut_43 : decode cX11_carryOut 43 = .ok (.invokevirtual 217, 3) := by decide +kernel
theorem dX11_carryOut_46 : decode cX11_carryOut 46 = .ok (.lload 4, 2) := by decide +kernel
theorem dX11_carryOut_48 : decode cX11_carryOut 48 = .ok (.ldc2_w 278, 3) := by decide +kernel
theorem dX11_carryOut_51 : decode cX11_carryOut 51 = .ok (.lcmp, 1) := by decide +kernel
theorem dX11_carryOut_52 : decode cX11_carryOut 52 = .ok (.ifCond .ne 13, 3) := by decide +kernel
theorem dX11_carryOut_55 : decode cX11_carryOut 55 = .ok (.aload_n 0, 1) := by decide +kernel
theorem dX11_carryOut_56 : decode cX11_carryOut 56 = .ok (.getfield 34, 3) := by decide +kernel
theorem dX11_carryOut_59 : decode cX11_carryOut 59 = .ok (.invokevirtual 236, 3) := by decide +kernel
theorem dX11_carryOut_62 : decode cX11_carryOut 62 = .ok (.goto 12, 3) := by decide +kernel
theorem dX11_carryOut_65 : decode cX11_carryOut 65 = .ok (.aload_n 0, 1) := by decide +kernel
theorem dX11_carryOut_66 : decode cX11_carryOut 66 = .ok (.getfield 34, 3) := by decide +kernel
theorem dX11_carryOut_69 : decode cX11_carryOut 69 = .ok (.lload 4, 2) := by decide +kernel
theorem dX11_carryOut_7 : decode cX11_carryOut 7 = .ok (.if_icmp .ge 73, 3) := by decide +kernel
theorem dX11_carryOut_71 : decode cX11_carryOut 71 = .ok (.invokevirtual 280, 3) := by decide +kernel
theorem dX11_carryOut_74 : decode cX11_carryOut 74 = .ok (.iinc 3 1, 3) := by decide +kernel
theorem dX11_carryOut_77 : decode cX11_carryOut 77 = .ok (.goto (-75), 3) := by decide +kernel
theorem dX11_carryOut_80 : decode cX11_carryOut 80 = .ok (.aload_n 1, 1) := by decide +kernel
theorem dX11_carryOut_81 : decode cX11_carryOut 81 = .ok (.getfield 266, 3) := by decide +kernel
theorem dX11_carryOut_84 : decode cX11_carryOut 84 = .ok (.ireturn, 1) := by decide +kernel
theorem dX11_drawBelow_0 : decode cX11_drawBelow 0 = .ok (.aload_n 0, 1) := by decide +kernel
theorem dX11_drawBelow_1 : decode cX11_drawBelow 1 = .ok (.ldc_w 307, 3) := by decide +kernel
theorem dX11_drawBelow_12 : decode cX11_drawBelow 12 = .ok (.iadd, 1) := by decide +kernel
theorem dX11_drawBelow_13 : decode cX11_drawBelow 13 = .ok (.putfield 294, 3) := by decide +kernel
theorem dX11_drawBelow_16 : decode cX11_drawBelow 16 = .ok (.iload_n 1, 1) := by decide +kernel
theorem dX11_drawBelow_17 : decode cX11_drawBelow 17 = .ok (.ifCond .le 15, 3) := by decide +kernel
theorem dX11_drawBelow_20 : decode cX11_drawBelow 20 = .ok (.aload_n 0, 1) := by decide +kernel
theorem dX11_drawBelow_21 : decode cX11_drawBelow 21 = .ok (.getfield 294, 3) := by decide +kernel
theorem dX11_drawBelow_24 : decode cX11_drawBelow 24 = .ok (.bipush 16, 2) := by decide +kernel
theorem dX11_drawBelow_26 : decode cX11_drawBelow 26 = .ok (.iushr, 1) := by decide +kernel
theorem dX11_drawBelow_27 : decode cX11_drawBelow 27 = .ok (.iload_n 1, 1) := by decide +kernel
theorem dX11_drawBelow_28 : decode cX11_drawBelow 28 = .ok (.irem, 1) := by decide +kernel
theorem dX11_drawBelow_29 : decode cX11_drawBelow 29 = .ok (.goto 4, 3) := by decide +kernel
theorem dX11_drawBelow_32 : decode cX11_drawBelow 32 = .ok (.iconst 0, 1) := by decide +kernel
theorem dX11_drawBelow_33 : decode cX11_drawBelow 33 = .ok (.ireturn, 1) := by decide +kernel
theorem dX11_drawBelow_4 : decode cX11_drawBelow 4 = .ok (.aload_n 0, 1) := by decide +kernel
theorem dX11_drawBelow_5 : decode cX11_drawBelow 5 = .ok (.getfield 294, 3) := by decide +kernel
theorem dX11_drawBelow_8 : decode cX11_drawBelow 8 = .ok (.imul, 1) := by decide +kernel
theorem dX11_drawBelow_9 : decode cX11_drawBelow 9 = .ok (.sipush 12345, 3) := by decide +kernel
theorem dX11_filledTray_0 : decode cX11_filledTray 0 = .ok (.aload_n 0, 1) := by decide +kernel
theorem dX11_filledTray_1 : decode cX11_filledTray 1 = .ok (.iload_n 1, 1) := by decide +kernel
theorem dX11_filledTray_10 : decode cX11_filledTray 10 = .ok (.aaload, 1) := by decide +kernel
theorem dX11_filledTray_11 : decode cX11_filledTray 11 = .ok (.astore_n 2, 1) := by decide +kernel
theorem dX11_filledTray_12 : decode cX11_filledTray 12 = .ok (.aload_n 2, 1) := by decide +kernel
theorem dX11_filledTray_13 : decode cX11_filledTray 13 = .ok (.getfield 266, 3) := by decide +kernel
theorem dX11_filledTray_16 : decode cX11_filledTray 16 = .ok (.iconst (-1), 1) := by decide +kernel
theorem dX11_filledTray_17 : decode cX11_filledTray 17 = .ok (.if_icmp .ne 14, 3) := by decide +kernel
theorem dX11_filledTray_2 : decode cX11_filledTray 2 = .ok (.invokevirtual 446, 3) := by decide +kernel
theorem dX11_filledTray_20 : decode cX11_filledTray 20 = .ok (.new 289, 3) := by decide +kernel
theorem dX11_filledTray_23 : decode cX11_filledTray 23 = .ok (.dup, 1) := by decide +kernel
theorem dX11_filledTray_24 : decode cX11_filledTray 24 = .ok (.ldc_w 472, 3) := by decide +kernel
theorem dX11_filledTray_27 : decode cX11_filledTray 27 = .ok (.invokespecial 293, 3) := by decide +kernel
theorem dX11_filledTray_30 : decode cX11_filledTray 30 = .ok (.athrow, 1) := by decide +kernel
theorem dX11_filledTray_31 : decode cX11_filledTray 31 = .ok (.aload_n 2, 1) := by decide +kernel
theorem dX11_filledTray_32 : decode cX11_filledTray 32 = .ok (.areturn, 1) := by decide +kernel
theorem dX11_filledTray_5 : decode cX11_filledTray 5 = .ok (.aload_n 0, 1) := by decide +kernel
theorem dX11_filledTray_6 : decode cX11_filledTray 6 = .ok (.getfield 57, 3) := by decide +kernel
theorem dX11_filledTray_9 : decode cX11_filledTray 9 = .ok (.iload_n 1, 1) := by decide +kernel
theorem dX11_judge_0 : decode cX11_judge 0 = .ok (.aload_n 0, 1) := by decide +kernel
theorem dX11_judge_1 : decode cX11_judge 1 = .ok (.iload_n 1, 1) := by decide +kernel
theorem dX11_judge_100 : decode cX11_judge 100 = .ok (.iload 6, 2) := by decide +kernel
theorem dX11_judge_102 : decode cX11_judge 102 = .ok (.ifCond .eq 7, 3) := by decide +kernel
theorem dX11_judge_105 : decode cX11_judge 105 = .ok (.iconst 0, 1) := by decide +kernel
theorem dX11_judge_106 : decode cX11_judge 106 = .ok (.goto 16, 3) := by decide +kernel
theorem dX11_judge_109 : decode cX11_judge 109 = .ok (.aload_n 0, 1) := by decide +kernel
theorem dX11_judge_11 : decode cX11_judge 11 = .ok (.aload_n 0, 1) := by decide +kernel
theorem dX11_judge_110 : decode cX11_judge 110 = .ok (.getfield 34, 3) := by decide +kernel
theorem dX11_judge_113 : decode cX11_judge 113 = .ok (.aload_n 3, 1) := by decide +kernel
theorem dX11_judge_114 : decode cX11_judge 114 = .ok (.iload 5, 2) := by decide +kernel
theorem dX11_judge_116 : decode cX11_judge 116 = .ok (.invokevirtual 267, 3) := by decide +kernel
theorem dX11_judge_119 : decode cX11_judge 119 = .ok (.invokevirtual 271, 3) := by decide +kernel
theorem dX11_judge_12 : decode cX11_judge 12 = .ok (.getfield 34, 3) := by decide +kernel
theorem dX11_judge_122 : decode cX11_judge 122 = .ok (.istore 7, 2) := by decide +kernel
theorem dX11_judge_124 : decode cX11_judge 124 = .ok (.goto 27, 3) := by decide +kernel
theorem dX11_judge_127 : decode cX11_judge 127 = .ok (.aload_n 0, 1) := by decide +kernel
theorem dX11_judge_128 : decode cX11_judge 128 = .ok (.getfield 34, 3) := by decide +kernel
theorem dX11_judge_131 : decode cX11_judge 131 = .ok (.getfield 255, 3) := by decide +kernel
theorem dX11_judge_134 : decode cX11_judge 134 = .ok (.iload 4, 2) := by decide +kernel
theorem dX11_judge_136 : decode cX11_judge 136 = .ok (.isub, 1) := by decide +kernel
theorem dX11_judge_137 : decode cX11_judge 137 = .ok (.istore 7, 2) := by decide +kernel
theorem dX11_judge_139 : decode cX11_judge 139 = .ok (.goto 12, 3) := by decide +kernel
theorem dX11_judge_142 : decode cX11_judge 142 = .ok (.aload_n 0, 1) := by decide +kernel
theorem dX11_judge_143 : decode cX11_judge 143 = .ok (.getfield 34, 3) := by decide +kernel
theorem dX11_judge_146 : decode cX11_judge 146 = .ok (.invokevirtual 193, 3) := by decide +kernel
theorem dX11_judge_149 : decode cX11_judge 149 = .ok (.istore 7, 2) := by decide +kernel
theorem dX11_judge_15 : decode cX11_judge 15 = .ok (.getfield 255, 3) := by decide +kernel
theorem dX11_judge_151 : decode cX11_judge 151 = .ok (.aload_n 0, 1) := by decide +kernel
theorem dX11_judge_152 : decode cX11_judge 152 = .ok (.getfield 34, 3) := by decide +kernel
theorem dX11_judge_155 : decode cX11_judge 155 = .ok (.aload_n 0, 1) := by decide +kernel
theorem dX11_judge_156 : decode cX11_judge 156 = .ok (.getfield 45, 3) := by decide +kernel
theorem dX11_judge_159 : decode cX11_judge 159 = .ok (.iconst 0, 1) := by decide +kernel
theorem dX11_judge_160 : decode cX11_judge 160 = .ok (.invokevirtual 275, 3) := by decide +kernel
theorem dX11_judge_163 : decode cX11_judge 163 = .ok (.iload 7, 2) := by decide +kernel
theorem dX11_judge_165 : decode cX11_judge 165 = .ok (.ireturn, 1) := by decide +kernel
theorem dX11_judge_18 : decode cX11_judge 18 = .ok (.istore 4, 2) := by decide +kernel
theorem dX11_judge_2 : decode cX11_judge 2 = .ok (.invokevirtual 248, 3) := by decide +kernel
theorem dX11_judge_20 : decode cX11_judge 20 = .ok (.aload_n 0, 1) := by decide +kernel
theorem dX11_judge_21 : decode cX11_judge 21 = .ok (.getfield 34, 3) := by decide +kernel
theorem dX11_judge_24 : decode cX11_judge 24 = .ok (.aload_n 0, 1) := by decide +kernel
theorem dX11_judge_25 : decode cX11_judge 25 = .ok (.getfield 45, 3) := by decide +kernel
theorem dX11_judge_28 : decode cX11_judge 28 = .ok (.iconst 0, 1) := by decide +kernel
theorem dX11_judge_29 : decode cX11_judge 29 = .ok (.invokevirtual 258, 3) := by decide +kernel
theorem dX11_judge_32 : decode cX11_judge 32 = .ok (.aload_n 0, 1) := by decide +kernel
theorem dX11_judge_33 : decode cX11_judge 33 = .ok (.aload_n 3, 1) := by decide +kernel
theorem dX11_judge_34 : decode cX11_judge 34 = .ok (.iconst 0, 1) := by decide +kernel
theorem dX11_judge_35 : decode cX11_judge 35 = .ok (.invokevirtual 262, 3) := by decide +kernel
theorem dX11_judge_38 : decode cX11_judge 38 = .ok (.istore 5, 2) := by decide +kernel
theorem dX11_judge_40 : decode cX11_judge 40 = .ok (.iload 5, 2) := by decide +kernel
theorem dX11_judge_42 : decode cX11_judge 42 = .ok (.aload_n 3, 1) := by decide +kernel
theorem dX11_judge_43 : decode cX11_judge 43 = .ok (.getfield 266, 3) := by decide +kernel
theorem dX11_judge_46 : decode cX11_judge 46 = .ok (.if_icmp .ne 7, 3) := by decide +kernel
theorem dX11_judge_49 : decode cX11_judge 49 = .ok (.iconst 1, 1) := by decide +kernel
theorem dX11_judge_5 : decode cX11_judge 5 = .ok (.astore_n 3, 1) := by decide +kernel
theorem dX11_judge_50 : decode cX11_judge 50 = .ok (.goto 4, 3) := by decide +kernel
theorem dX11_judge_53 : decode cX11_judge 53 = .ok (.iconst 0, 1) := by decide +kernel
theorem dX11_judge_54 : decode cX11_judge 54 = .ok (.istore 6, 2) := by decide +kernel
theorem dX11_judge_56 : decode cX11_judge 56 = .ok (.iload_n 2, 1) := by decide +kernel
theorem dX11_judge_57 : decode cX11_judge 57 = .ok (.tableswitch 85 0 2 #[27, 43, 70], 27) := by decide +kernel
theorem dX11_judge_6 : decode cX11_judge 6 = .ok (.iload_n 2, 1) := by decide +kernel
theorem dX11_judge_7 : decode cX11_judge 7 = .ok (.iconst 3, 1) := by decide +kernel
theorem dX11_judge_8 : decode cX11_judge 8 = .ok (.invokestatic 252, 3) := by decide +kernel
theorem dX11_judge_84 : decode cX11_judge 84 = .ok (.iload 6, 2) := by decide +kernel
theorem dX11_judge_86 : decode cX11_judge 86 = .ok (.ifCond .eq 7, 3) := by decide +kernel
theorem dX11_judge_89 : decode cX11_judge 89 = .ok (.iconst (-1), 1) := by decide +kernel
theorem dX11_judge_90 : decode cX11_judge 90 = .ok (.goto 5, 3) := by decide +kernel
theorem dX11_judge_93 : decode cX11_judge 93 = .ok (.iload 5, 2) := by decide +kernel
theorem dX11_judge_95 : decode cX11_judge 95 = .ok (.istore 7, 2) := by decide +kernel
theorem dX11_judge_97 : decode cX11_judge 97 = .ok (.goto 54, 3) := by decide +kernel
theorem dX11_needTray_0 : decode cX11_needTray 0 = .ok (.iload_n 1, 1) := by decide +kernel
theorem dX11_needTray_1 : decode cX11_needTray 1 = .ok (.ifCond .lt 12, 3) := by decide +kernel
theorem dX11_needTray_10 : decode cX11_needTray 10 = .ok (.if_icmp .lt 14, 3) := by decide +kernel
theorem dX11_needTray_13 : decode cX11_needTray 13 = .ok (.new 203, 3) := by decide +kernel
theorem dX11_needTray_16 : decode cX11_needTray 16 = .ok (.dup, 1) := by decide +kernel
theorem dX11_needTray_17 : decode cX11_needTray 17 = .ok (.ldc_w 470, 3) := by decide +kernel
theorem dX11_needTray_20 : decode cX11_needTray 20 = .ok (.invokespecial 207, 3) := by decide +kernel
theorem dX11_needTray_23 : decode cX11_needTray 23 = .ok (.athrow, 1) := by decide +kernel
theorem dX11_needTray_24 : decode cX11_needTray 24 = .ok (.return_, 1) := by decide +kernel
theorem dX11_needTray_4 : decode cX11_needTray 4 = .ok (.iload_n 1, 1) := by decide +kernel
theorem dX11_needTray_5 : decode cX11_needTray 5 = .ok (.aload_n 0, 1) := by decide +kernel
theorem dX11_needTray_6 : decode cX11_needTray 6 = .ok (.getfield 57, 3) := by decide +kernel
theorem dX11_needTray_9 : decode cX11_needTray 9 = .ok (.arraylength, 1) := by decide +kernel
theorem dX11_needWhat_0 : decode cX11_needWhat 0 = .ok (.iload_n 0, 1) := by decide +kernel
theorem dX11_needWhat_1 : decode cX11_needWhat 1 = .ok (.ifCond .lt 8, 3) := by decide +kernel
theorem dX11_needWhat_12 : decode cX11_needWhat 12 = .ok (.dup, 1) := by decide +kernel
theorem dX11_needWhat_13 : decode cX11_needWhat 13 = .ok (.ldc 213, 2) := by decide +kernel
theorem dX11_needWhat_15 : decode cX11_needWhat 15 = .ok (.invokespecial 105, 3) := by decide +kernel
theorem dX11_needWhat_18 : decode cX11_needWhat 18 = .ok (.athrow, 1) := by decide +kernel
theorem dX11_needWhat_19 : decode cX11_needWhat 19 = .ok (.return_, 1) := by decide +kernel
theorem dX11_needWhat_4 : decode cX11_needWhat 4 = .ok (.iload_n 0, 1) := by decide +kernel
theorem dX11_needWhat_5 : decode cX11_needWhat 5 = .ok (.iload_n 1, 1) := by decide +kernel
theorem dX11_needWhat_6 : decode cX11_needWhat 6 = .ok (.if_icmp .le 13, 3) := by decide +kernel
theorem dX11_needWhat_9 : decode cX11_needWhat 9 = .ok (.new 101, 3) := by decide +kernel
theorem dX11_perform_0 : decode cX11_perform 0 = .ok (.aload_n 0, 1) := by decide +kernel
theorem dX11_perform_1 : decode cX11_perform 1 = .ok (.aload_n 0, 1) := by decide +kernel
theorem dX11_perform_10 : decode cX11_perform 10 = .ok (.ireturn, 1) := by decide +kernel
theorem dX11_perform_2 : decode cX11_perform 2 = .ok (.iload_n 1, 1) := by decide +kernel
theorem dX11_perform_3 : decode cX11_perform 3 = .ok (.invokevirtual 248, 3) := by decide +kernel
theorem dX11_perform_6 : decode cX11_perform 6 = .ok (.iconst 1, 1) := by decide +kernel
theorem dX11_perform_7 : decode cX11_perform 7 = .ok (.invokevirtual 262, 3) := by decide +kernel
theorem dX11_undo_0 : decode cX11_undo 0 = .ok (.iload_n 1, 1) := by decide +kernel
theorem dX11_undo_1 : decode cX11_undo 1 = .ok (.iconst 1, 1) := by decide +kernel
theorem dX11_undo_10 : decode cX11_undo 10 = .ok (.getfield 239, 3) := by decide +kernel
theorem dX11_undo_13 : decode cX11_undo 13 = .ok (.if_icmp .le 13, 3) := by decide +kernel
theorem dX11_undo_16 : decode cX11_undo 16 = .ok (.new 101, 3) := by decide +kernel
theorem dX11_undo_19 : decode cX11_undo 19 = .ok (.dup, 1) := by decide +kernel
theorem dX11_undo_2 : decode cX11_undo 2 = .ok (.if_icmp .lt 14, 3) := by decide +kernel
theorem dX11_undo_20 : decode cX11_undo 20 = .ok (.ldc 242, 2) := by decide +kernel
theorem dX11_undo_22 : decode cX11_undo 22 = .ok (.invokespecial 105, 3) := by decide +kernel
theorem dX11_undo_25 : decode cX11_undo 25 = .ok (.athrow, 1) := by decide +kernel
theorem dX11_undo_26 : decode cX11_undo 26 = .ok (.aload_n 0, 1) := by decide +kernel
theorem dX11_undo_27 : decode cX11_undo 27 = .ok (.getfield 41, 3) := by decide +kernel
theorem dX11_undo_30 : decode cX11_undo 30 = .ok (.aload_n 0, 1) := by decide +kernel
theorem dX11_undo_31 : decode cX11_undo 31 = .ok (.getfield 34, 3) := by decide +kernel
theorem dX11_undo_34 : decode cX11_undo 34 = .ok (.iload_n 1, 1) := by decide +kernel
theorem dX11_undo_35 : decode cX11_undo 35 = .ok (.invokevirtual 244, 3) := by decide +kernel
theorem dX11_undo_38 : decode cX11_undo 38 = .ok (.aload_n 0, 1) := by decide +kernel
theorem dX11_undo_39 : decode cX11_undo 39 = .ok (.getfield 41, 3) := by decide +kernel
theorem dX11_undo_42 : decode cX11_undo 42 = .ok (.getfield 239, 3) := by decide +kernel
theorem dX11_undo_45 : decode cX11_undo 45 = .ok (.ireturn, 1) := by decide +kernel
theorem dX11_undo_5 : decode cX11_undo 5 = .ok (.iload_n 1, 1) := by decide +kernel
theorem dX11_undo_6 : decode cX11_undo 6 = .ok (.aload_n 0, 1) := by decide +kernel
theorem dX11_undo_7 : decode cX11_undo 7 = .ok (.getfield 41, 3) := by decide +kernel
theorem dX4_goBack_0 : decode cX4_goBack 0 = .ok (.aload_n 0, 1) := by decide +kernel
theorem dX4_goBack_1 : decode cX4_goBack 1 = .ok (.getfield 21, 3) := by decide +kernel
theorem dX4_goBack_10 : decode cX4_goBack 10 = .ok (.invokestatic 34, 3) := by decide +kernel
theorem dX4_goBack_13 : decode cX4_goBack 13 = .ok (.istore_n 3, 1) := by decide +kernel
theorem dX4_goBack_14 : decode cX4_goBack 14 = .ok (.aload_n 1, 1) := by decide +kernel
theorem dX4_goBack_15 : decode cX4_goBack 15 = .ok (.aload_n 0, 1) := by decide +kernel
theorem dX4_goBack_16 : decode cX4_goBack 16 = .ok (.getfield 11, 3) := by decide +kernel
theorem dX4_goBack_19 : decode cX4_goBack 19 = .ok (.iload_n 3, 1) := by decide +kernel
theorem dX4_goBack_20 : decode cX4_goBack 20 = .ok (.bipush 34, 2) := by decide +kernel
theorem dX4_goBack_22 : decode cX4_goBack 22 = .ok (.imul, 1) := by decide +kernel
theorem dX4_goBack_23 : decode cX4_goBack 23 = .ok (.invokevirtual 37, 3) := by decide +kernel
theorem dX4_goBack_26 : decode cX4_goBack 26 = .ok (.aload_n 0, 1) := by decide +kernel
theorem dX4_goBack_27 : decode cX4_goBack 27 = .ok (.aload_n 0, 1) := by decide +kernel
theorem dX4_goBack_28 : decode cX4_goBack 28 = .ok (.getfield 21, 3) := by decide +kernel
theorem dX4_goBack_31 : decode cX4_goBack 31 = .ok (.iload_n 2, 1) := by decide +kernel
theorem dX4_goBack_32 : decode cX4_goBack 32 = .ok (.isub, 1) := by decide +kernel
theorem dX4_goBack_33 : decode cX4_goBack 33 = .ok (.bipush 12, 2) := by decide +kernel
theorem dX4_goBack_35 : decode cX4_goBack 35 = .ok (.invokestatic 34, 3) := by decide +kernel
theorem dX4_goBack_38 : decode cX4_goBack 38 = .ok (.putfield 21, 3) := by decide +kernel
theorem dX4_goBack_4 : decode cX4_goBack 4 = .ok (.iload_n 2, 1) := by decide +kernel
theorem dX4_goBack_41 : decode cX4_goBack 41 = .ok (.aload_n 0, 1) := by decide +kernel
theorem dX4_goBack_42 : decode cX4_goBack 42 = .ok (.dup, 1) := by decide +kernel
theorem dX4_goBack_43 : decode cX4_goBack 43 = .ok (.getfield 17, 3) := by decide +kernel
theorem dX4_goBack_46 : decode cX4_goBack 46 = .ok (.iload_n 2, 1) := by decide +kernel
theorem dX4_goBack_47 : decode cX4_goBack 47 = .ok (.isub, 1) := by decide +kernel
theorem dX4_goBack_48 : decode cX4_goBack 48 = .ok (.putfield 17, 3) := by decide +kernel
theorem dX4_goBack_5 : decode cX4_goBack 5 = .ok (.isub, 1) := by decide +kernel
theorem dX4_goBack_51 : decode cX4_goBack 51 = .ok (.return_, 1) := by decide +kernel
theorem dX4_goBack_6 : decode cX4_goBack 6 = .ok (.iconst 1, 1) := by decide +kernel
theorem dX4_goBack_7 : decode cX4_goBack 7 = .ok (.iadd, 1) := by decide +kernel
theorem dX4_goBack_8 : decode cX4_goBack 8 = .ok (.bipush 12, 2) := by decide +kernel
theorem dX7_obey_0 : decode cX7_obey 0 = .ok (.lload_n 1, 1) := by decide +kernel
theorem dX7_obey_1 : decode cX7_obey 1 = .ok (.l2i, 1) := by decide +kernel
theorem dX7_obey_10 : decode cX7_obey 10 = .ok (.l2i, 1) := by decide +kernel
theorem dX7_obey_11 : decode cX7_obey 11 = .ok (.bipush 10, 2) := by decide +kernel
theorem dX7_obey_13 : decode cX7_obey 13 = .ok (.irem, 1) := by decide +kernel
theorem dX7_obey_14 : decode cX7_obey 14 = .ok (.istore 4, 2) := by decide +kernel
theorem dX7_obey_16 : decode cX7_obey 16 = .ok (.lload_n 1, 1) := by decide +kernel
theorem dX7_obey_17 : decode cX7_obey 17 = .ok (.ldc2_w 160, 3) := by decide +kernel
theorem dX7_obey_2 : decode cX7_obey 2 = .ok (.bipush 10, 2) := by decide +kernel
theorem dX7_obey_20 : decode cX7_obey 20 = .ok (.lcmp, 1) := by decide +kernel
theorem dX7_obey_21 : decode cX7_obey 21 = .ok (.ifCond .ge 14, 3) := by decide +kernel
theorem dX7_obey_24 : decode cX7_obey 24 = .ok (.aload_n 0, 1) := by decide +kernel
theorem dX7_obey_25 : decode cX7_obey 25 = .ok (.iload_n 3, 1) := by decide +kernel
theorem dX7_obey_26 : decode cX7_obey 26 = .ok (.iload 4, 2) := by decide +kernel
theorem dX7_obey_28 : decode cX7_obey 28 = .ok (.invokevirtual 165, 3) := by decide +kernel
theorem dX7_obey_31 : decode cX7_obey 31 = .ok (.pop, 1) := by decide +kernel
theorem dX7_obey_32 : decode cX7_obey 32 = .ok (.goto 24, 3) := by decide +kernel
theorem dX7_obey_35 : decode cX7_obey 35 = .ok (.aload_n 0, 1) := by decide +kernel
theorem dX7_obey_36 : decode cX7_obey 36 = .ok (.iload_n 3, 1) := by decide +kernel
theorem dX7_obey_37 : decode cX7_obey 37 = .ok (.lload_n 1, 1) := by decide +kernel
theorem dX7_obey_38 : decode cX7_obey 38 = .ok (.ldc2_w 168, 3) := by decide +kernel
theorem dX7_obey_4 : decode cX7_obey 4 = .ok (.idiv, 1) := by decide +kernel
theorem dX7_obey_41 : decode cX7_obey 41 = .ok (.lcmp, 1) := by decide +kernel
theorem dX7_obey_42 : decode cX7_obey 42 = .ok (.ifCond .ge 8, 3) := by decide +kernel
theorem dX7_obey_45 : decode cX7_obey 45 = .ok (.iload 4, 2) := by decide +kernel
theorem dX7_obey_47 : decode cX7_obey 47 = .ok (.goto 6, 3) := by decide +kernel
theorem dX7_obey_5 : decode cX7_obey 5 = .ok (.bipush 10, 2) := by decide +kernel
theorem dX7_obey_50 : decode cX7_obey 50 = .ok (.iload 4, 2) := by decide +kernel
theorem dX7_obey_52 : decode cX7_obey 52 = .ok (.ineg, 1) := by decide +kernel
theorem dX7_obey_53 : decode cX7_obey 53 = .ok (.invokevirtual 152, 3) := by decide +kernel
theorem dX7_obey_56 : decode cX7_obey 56 = .ok (.return_, 1) := by decide +kernel
theorem dX7_obey_7 : decode cX7_obey 7 = .ok (.irem, 1) := by decide +kernel
theorem dX7_obey_8 : decode cX7_obey 8 = .ok (.istore_n 3, 1) := by decide +kernel
theorem dX7_obey_9 : decode cX7_obey 9 = .ok (.lload_n 1, 1) := by decide +kernel
theorem dX7_obstacleOf_0 : decode cX7_obstacleOf 0 = .ok (.lload_n 1, 1) := by decide +kernel
theorem dX7_obstacleOf_1 : decode cX7_obstacleOf 1 = .ok (.ldc2_w 156, 3) := by decide +kernel
theorem dX7_obstacleOf_10 : decode cX7_obstacleOf 10 = .ok (.lload_n 1, 1) := by decide +kernel
theorem dX7_obstacleOf_11 : decode cX7_obstacleOf 11 = .ok (.lconst 0, 1) := by decide +kernel
theorem dX7_obstacleOf_12 : decode cX7_obstacleOf 12 = .ok (.lcmp, 1) := by decide +kernel
theorem dX7_obstacleOf_13 : decode cX7_obstacleOf 13 = .ok (.ifCond .lt 11, 3) := by decide +kernel
theorem dX7_obstacleOf_16 : decode cX7_obstacleOf 16 = .ok (.lload_n 1, 1) := by decide +kernel
theorem dX7_obstacleOf_17 : decode cX7_obstacleOf 17 = .ok (.ldc2_w 158, 3) := by decide +kernel
theorem dX7_obstacleOf_20 : decode cX7_obstacleOf 20 = .ok (.lcmp, 1) := by decide +kernel
theorem dX7_obstacleOf_21 : decode cX7_obstacleOf 21 = .ok (.ifCond .le 5, 3) := by decide +kernel
theorem dX7_obstacleOf_24 : decode cX7_obstacleOf 24 = .ok (.iconst 1, 1) := by decide +kernel
theorem dX7_obstacleOf_25 : decode cX7_obstacleOf 25 = .ok (.ireturn, 1) := by decide +kernel
theorem dX7_obstacleOf_26 : decode cX7_obstacleOf 26 = .ok (.lload_n 1, 1) := by decide +kernel
theorem dX7_obstacleOf_27 : decode cX7_obstacleOf 27 = .ok (.l2i, 1) := by decide +kernel
theorem dX7_obstacleOf_28 : decode cX7_obstacleOf 28 = .ok (.bipush 10, 2) := by decide +kernel
theorem dX7_obstacleOf_30 : decode cX7_obstacleOf 30 = .ok (.idiv, 1) := by decide +kernel
theorem dX7_obstacleOf_31 : decode cX7_obstacleOf 31 = .ok (.bipush 10, 2) := by decide +kernel
theorem dX7_obstacleOf_33 : decode cX7_obstacleOf 33 = .ok (.irem, 1) := by decide +kernel
theorem dX7_obstacleOf_34 : decode cX7_obstacleOf 34 = .ok (.istore_n 3, 1) := by decide +kernel
theorem dX7_obstacleOf_35 : decode cX7_obstacleOf 35 = .ok (.lload_n 1, 1) := by decide +kernel
theorem dX7_obstacleOf_36 : decode cX7_obstacleOf 36 = .ok (.l2i, 1) := by decide +kernel
theorem dX7_obstacleOf_37 : decode cX7_obstacleOf 37 = .ok (.bipush 10, 2) := by decide +kernel
theorem dX7_obstacleOf_39 : decode cX7_obstacleOf 39 = .ok (.irem, 1) := by decide +kernel
theorem dX7_obstacleOf_4 : decode cX7_obstacleOf 4 = .ok (.lcmp, 1) := by decide +kernel
theorem dX7_obstacleOf_40 : decode cX7_obstacleOf 40 = .ok (.istore 4, 2) := by decide +kernel
theorem dX7_obstacleOf_42 : decode cX7_obstacleOf 42 = .ok (.lload_n 1, 1) := by decide +kernel
theorem dX7_obstacleOf_43 : decode cX7_obstacleOf 43 = .ok (.ldc2_w 160, 3) := by decide +kernel
theorem dX7_obstacleOf_46 : decode cX7_obstacleOf 46 = .ok (.lcmp, 1) := by decide +kernel
theorem dX7_obstacleOf_47 : decode cX7_obstacleOf 47 = .ok (.ifCond .ge 11, 3) := by decide +kernel
theorem dX7_obstacleOf_5 : decode cX7_obstacleOf 5 = .ok (.ifCond .ne 5, 3) := by decide +kernel
theorem dX7_obstacleOf_50 : decode cX7_obstacleOf 50 = .ok (.aload_n 0, 1) := by decide +kernel
theorem dX7_obstacleOf_51 : decode cX7_obstacleOf 51 = .ok (.iload_n 3, 1) := by decide +kernel
theorem dX7_obstacleOf_52 : decode cX7_obstacleOf 52 = .ok (.iload 4, 2) := by decide +kernel
theorem dX7_obstacleOf_54 : decode cX7_obstacleOf 54 = .ok (.invokevirtual 162, 3) := by decide +kernel
theorem dX7_obstacleOf_57 : decode cX7_obstacleOf 57 = .ok (.ireturn, 1) := by decide +kernel
theorem dX7_obstacleOf_58 : decode cX7_obstacleOf 58 = .ok (.aload_n 0, 1) := by decide +kernel
theorem dX7_obstacleOf_59 : decode cX7_obstacleOf 59 = .ok (.getfield 24, 3) := by decide +kernel
theorem dX7_obstacleOf_62 : decode cX7_obstacleOf 62 = .ok (.iload_n 3, 1) := by decide +kernel
theorem dX7_obstacleOf_63 : decode cX7_obstacleOf 63 = .ok (.invokevirtual 104, 3) := by decide +kernel
theorem dX7_obstacleOf_66 : decode cX7_obstacleOf 66 = .ok (.ifCond .eq 12, 3) := by decide +kernel
theorem dX7_obstacleOf_69 : decode cX7_obstacleOf 69 = .ok (.iload 4, 2) := by decide +kernel
theorem dX7_obstacleOf_71 : decode cX7_obstacleOf 71 = .ok (.ifCond .eq 7, 3) := by decide +kernel
theorem dX7_obstacleOf_74 : decode cX7_obstacleOf 74 = .ok (.iconst 0, 1) := by decide +kernel
theorem dX7_obstacleOf_75 : decode cX7_obstacleOf 75 = .ok (.goto 4, 3) := by decide +kernel
theorem dX7_obstacleOf_78 : decode cX7_obstacleOf 78 = .ok (.iconst 1, 1) := by decide +kernel
theorem dX7_obstacleOf_79 : decode cX7_obstacleOf 79 = .ok (.ireturn, 1) := by decide +kernel
theorem dX7_obstacleOf_8 : decode cX7_obstacleOf 8 = .ok (.iconst 0, 1) := by decide +kernel
theorem dX7_obstacleOf_9 : decode cX7_obstacleOf 9 = .ok (.ireturn, 1) := by decide +kernel
set_option maxRecDepth 4000 in
theorem k_X4_goBack_40_35 (l : Launch) (M : Mem) (hJ : Iw M) (x1 : Int) (hx1a : 1 ≤ x1) (hx1b : x1 ≤ 12) (hp0 : x1 ≤ M 40 0) : CV l yX4_goBack cX4_goBack 4 none 2 (fun ad => [.ref (ad 40), .ref (ad 35), ii x1]) M (fun M' => Fr [35, 36, 37, 38, 39, 40] M M') := by
  obtain ⟨hI, hW⟩ := hJ
  have hF : Fr [35, 36, 37, 38, 39, 40] M M := Fr.rf
  refine en_v (by decide +kernel) (fun ad => by exact Nat.le_of_ble_eq_true rfl) (fun D cy ad A p e s m args below meth c Q F hret => ?_)
  refine z_eq (ls' := [(0, .ref (ad 40)), (1, .ref (ad 35)), (2, ii x1)]) rfl rfl rfl ?_
  obtain ⟨u1, eu1⟩ : ∃ v : Int, v = M 40 0 := ⟨_, rfl⟩
  have ku1 : 0 ≤ u1 ∧ u1 ≤ 12 := by have := hI.at (show Bd 40 0 = (0, 12) from rfl); omega
  refine z_aload_n F dX4_goBack_0 rfl (q := 0) rfl ?_
  refine gf_X4_21 F hI gs_40 rfl bd_40_1 dX4_goBack_1 (fun v2 ev2 av2 bv2 => ?_)
  refine z_iload_n F dX4_goBack_4 rfl (q := 2) rfl ?_
  refine z_isub F dX4_goBack_5 ?_
  refine z_iconst F dX4_goBack_6 ?_
  refine z_iadd F dX4_goBack_7 ?_
  refine z_bipush F dX4_goBack_8 (by decide +kernel) ?_
  refine zs_i (rest := []) F (k_J9_floorMod_7cf53 l M ⟨hI, hW⟩ ((v2 - x1) + 1) (by omega) (by omega) 12 (by omega) (by omega)) cs_X4_34 (by decide) (by decide) rfl rfl rfl (Nat.le_of_ble_eq_true rfl) dX4_goBack_10 (fun v3 M4 rv3 hI p5 => ?_)
  obtain ⟨hI, hW⟩ := hI
  obtain ⟨⟨av3, bv3⟩, rfl, xp5⟩ := p5
  refine z_istore_n F dX4_goBack_13 rfl (by decide) (ls' := [(3, ii v3), (0, .ref (ad 40)), (1, .ref (ad 35)), (2, ii x1)]) rfl ?_
  refine z_aload_n F dX4_goBack_14 rfl (q := 2) rfl ?_
  refine z_aload_n F dX4_goBack_15 rfl (q := 1) rfl ?_
  refine rf_X4_11 F gs_40 rfl dX4_goBack_16 ?_
  refine z_iload_n F dX4_goBack_19 rfl (q := 0) rfl ?_
  refine z_bipush F dX4_goBack_20 (by decide +kernel) ?_
  refine z_imul F dX4_goBack_22 ?_
  refine zv_v (rest := []) F (k_X7_load_35_41 l M ⟨hI, hW⟩ (v3 * 34) (by omega) (by omega) (by omega)) cs_X4_37 (T := TX7) (N := 7) (ci := 7) rfl gs_35 (by decide) (by decide) rfl rfl rfl (Nat.le_of_ble_eq_true rfl) dX4_goBack_23 (fun M6 hI p7 => ?_)
  obtain ⟨hI, hW⟩ := hI
  have fp7 := p7
  have hF := hF.call fp7 (by decide)
  refine z_aload_n F dX4_goBack_26 rfl (q := 1) rfl ?_
  refine z_aload_n F dX4_goBack_27 rfl (q := 1) rfl ?_
  refine gf_X4_21 F hI gs_40 rfl bd_40_1 dX4_goBack_28 (fun v8 ev8 av8 bv8 => ?_)
  have q9 : v2 = M6 40 1 := ev2.trans ((fp7.at (by decide)) : M6 40 1 = _).symm
  have zv8 : v2 = v8 := q9.trans ev8.symm
  subst zv8
  refine z_iload_n F dX4_goBack_31 rfl (q := 3) rfl ?_
  refine z_isub F dX4_goBack_32 ?_
  refine z_bipush F dX4_goBack_33 (by decide +kernel) ?_
  refine zs_i (rest := [.ref (ad 40)]) F (k_J9_floorMod_7cf53 l M6 ⟨hI, hW⟩ (v2 - x1) (by omega) (by omega) 12 (by omega) (by omega)) cs_X4_34 (by decide) (by decide) rfl rfl rfl (Nat.le_of_ble_eq_true rfl) dX4_goBack_35 (fun v10 M11 rv10 hI p12 => ?_)
  obtain ⟨hI, hW⟩ := hI
  obtain ⟨⟨av10, bv10⟩, rfl, xp12⟩ := p12
  refine pf_X4_21 F hI gs_40 rfl bd_40_1 rfl rfl dX4_goBack_38 (by omega) (by omega) (fun M14 hI sf13 f13 => ?_)
  have hF := hF.wr f13 (by decide) (by decide)
  have hW : WFk M14 := hW.site f13 (by decide)
  refine z_aload_n F dX4_goBack_41 rfl (q := 1) rfl ?_
  refine z_dup F dX4_goBack_42 rfl ?_
  refine gf_X4_17 F hI gs_40 rfl bd_40_0 dX4_goBack_43 (fun v15 ev15 av15 bv15 => ?_)
  have q16 : u1 = M6 40 0 := eu1.trans ((fp7.at (by decide)) : M6 40 0 = _).symm
  have q17 : u1 = M14 40 0 := q16.trans (f13 40 0 (fun q => absurd q.2 (by decide))).symm
  have zv15 : u1 = v15 := q17.trans ev15.symm
  subst zv15
  refine z_iload_n F dX4_goBack_46 rfl (q := 3) rfl ?_
  refine z_isub F dX4_goBack_47 ?_
  have k18 : 0 ≤ (u1 - x1) ∧ (u1 - x1) ≤ 11 := by omega
  refine z_nm (fun v19 ev19 => ?_)
  refine pf_X4_17 F hI gs_40 rfl bd_40_0 rfl rfl dX4_goBack_48 (by omega) (by omega) (fun M21 hI sf20 f20 => ?_)
  have hF := hF.wr f20 (by decide) (by decide)
  have hW : WFk M21 := hW.site f20 (by decide)
  exact hret _ 51 _ ⟨hI, hW⟩ hF dX4_goBack_51
set_option maxRecDepth 4000 in
theorem k_X11_undo (l : Launch) (hlT : l.stackTraces = false) (M : Mem) (hJ : Iw M) (x0 : Int) (hx0a : (-2147483648) ≤ x0) (hx0b : x0 ≤ 2147483647) : CIX l yX11_undo cX11_undo 2 (some .int) 3 1 (fun ad => [.ref (ad 0), ii x0]) M (fun z M' => (0 ≤ z ∧ z ≤ 12) ∧ Fr [35, 36, 37, 38, 39, 40] M M') (fun E M' => (E = "java/lang/IllegalArgumentException" ∧ True ∧ Fr [35, 36, 37, 38, 39, 40] M M')) := by
  obtain ⟨hI, hW⟩ := hJ
  have hF : Fr [35, 36, 37, 38, 39, 40] M M := Fr.rf
  refine enx_i (by decide +kernel) (fun ad => by exact Nat.le_of_ble_eq_true rfl) (fun D cy ad A p e s m args below meth c Q F hQ hr hlk hex => ?_)
  refine z_eq (ls' := [(0, .ref (ad 0)), (1, ii x0)]) rfl rfl rfl ?_
  refine z_iload_n F dX11_undo_0 rfl (q := 1) rfl ?_
  refine z_iconst F dX11_undo_1 ?_
  refine z_icmp_lt (tgt := 16) F dX11_undo_2 (by decide +kernel) (by omega) (by omega) (fun c1 => ?_) (fun c1 => ?_)
  · exact z_thrS (cls := "java/lang/IllegalArgumentException") (names := ["java/lang/RuntimeException", "java/lang/Exception"]) (j := 36) F hlT hQ hlk hex (by decide +kernel) (by decide +kernel) (by decide) (gin lm_360 rfl) (gin lm_361 rfl) at_X11_105 bad_X11_105 (by decide +kernel) ot_X11_105 rfl rfl rfl dX11_undo_16 dX11_undo_19 dX11_undo_20 dX11_undo_22 dX11_undo_25 ⟨by decide, by decide⟩ (Nat.le_of_ble_eq_true rfl) ⟨hI, hW⟩ (⟨rfl, trivial, hF⟩)
  · refine z_iload_n F dX11_undo_5 rfl (q := 1) rfl ?_
    refine z_aload_n F dX11_undo_6 rfl (q := 0) rfl ?_
    refine rf_X11_41 F gs_0 rfl dX11_undo_7 ?_
    refine gf_X11_239 F hI gs_40 rfl bd_40_0 dX11_undo_10 (fun v2 ev2 av2 bv2 => ?_)
    refine z_icmp_le (tgt := 26) F dX11_undo_13 (by decide +kernel) (by omega) (by omega) (fun c3 => ?_) (fun c3 => ?_)
    · refine z_aload_n F dX11_undo_26 rfl (q := 0) rfl ?_
      refine rf_X11_41 F gs_0 rfl dX11_undo_27 ?_
      refine z_aload_n F dX11_undo_30 rfl (q := 0) rfl ?_
      refine rf_X11_34 F gs_0 rfl dX11_undo_31 ?_
      refine z_iload_n F dX11_undo_34 rfl (q := 1) rfl ?_
      refine zw_v (rest := []) F (k_X4_goBack_40_35 l M ⟨hI, hW⟩ x0 (by omega) (by omega) (by omega)) cs_X11_244 (T := TX4) (N := 3) (ci := 4) rfl gs_40 (by decide) (by decide) ⟨by decide, by decide⟩ rfl rfl rfl (Nat.le_of_ble_eq_true rfl) dX11_undo_35 (fun M4 hI p5 => ?_)
      obtain ⟨hI, hW⟩ := hI
      have fp5 := p5
      have hF := hF.call fp5 (by decide)
      refine z_aload_n F dX11_undo_38 rfl (q := 0) rfl ?_
      refine rf_X11_41 F gs_0 rfl dX11_undo_39 ?_
      refine gf_X11_239 F hI gs_40 rfl bd_40_0 dX11_undo_42 (fun v6 ev6 av6 bv6 => ?_)
      exact zxr_i F hQ hr hlk dX11_undo_45 ⟨by decide, by decide⟩ (by omega) ⟨hI, hW⟩ ⟨⟨by omega, by omega⟩, hF⟩
    · exact z_thrS (cls := "java/lang/IllegalArgumentException") (names := ["java/lang/RuntimeException", "java/lang/Exception"]) (j := 36) F hlT hQ hlk hex (by decide +kernel) (by decide +kernel) (by decide) (gin lm_360 rfl) (gin lm_361 rfl) at_X11_105 bad_X11_105 (by decide +kernel) ot_X11_105 rfl rfl rfl dX11_undo_16 dX11_undo_19 dX11_undo_20 dX11_undo_22 dX11_undo_25 ⟨by decide, by decide⟩ (Nat.le_of_ble_eq_true rfl) ⟨hI, hW⟩ (⟨rfl, trivial, hF⟩)
set_option maxRecDepth 4000 in
theorem k_X11_needTray (l : Launch) (hlT : l.stackTraces = false) (M : Mem) (hJ : Iw M) (x0 : Int) (hx0a : (-2147483648) ≤ x0) (hx0b : x0 ≤ 2147483647) : CVX l yX11_needTray cX11_needTray 2 none 1 1 (fun ad => [.ref (ad 0), ii x0]) M (fun M' => M = M' ∧ (0 ≤ x0 ∧ x0 ≤ 3)) (fun E M' => (E = "java/util/NoSuchElementException" ∧ ((x0 < 0 ∨ 3 < x0)) ∧ M = M')) := by
  obtain ⟨hI, hW⟩ := hJ
  refine enx_v (by decide +kernel) (fun ad => by exact Nat.le_of_ble_eq_true rfl) (fun D cy ad A p e s m args below meth c Q F hQ hr hlk hex => ?_)
  refine z_eq (ls' := [(0, .ref (ad 0)), (1, ii x0)]) rfl rfl rfl ?_
  refine z_iload_n F dX11_needTray_0 rfl (q := 1) rfl ?_
  refine z_if_lt (tgt := 13) F dX11_needTray_1 (by decide +kernel) (by omega) (fun c1 => ?_) (fun c1 => ?_)
  · exact z_thrNW (j := 37) F hlT hQ hlk hex (gin lm_319 rfl) (gin lm_320 rfl) at_X11_207 bad_X11_207 (by decide +kernel) ot_X11_207 rfl rfl rfl dX11_needTray_13 dX11_needTray_16 dX11_needTray_17 dX11_needTray_20 dX11_needTray_23 ⟨by decide, by decide⟩ (Nat.le_of_ble_eq_true rfl) ⟨hI, hW⟩ (⟨rfl, (by omega), rfl⟩)
  · refine z_iload_n F dX11_needTray_4 rfl (q := 1) rfl ?_
    refine z_aload_n F dX11_needTray_5 rfl (q := 0) rfl ?_
    refine rf_X11_57 F gs_0 rfl dX11_needTray_6 ?_
    refine z_alenR (x := 4) F gs_44 rfl rfl dX11_needTray_9 ?_
    refine z_icmp_lt (tgt := 24) F dX11_needTray_10 (by decide +kernel) (by omega) (by omega) (fun c2 => ?_) (fun c2 => ?_)
    · exact zxr_v F hQ hr hlk dX11_needTray_24 ⟨by decide, by decide⟩ ⟨hI, hW⟩ ⟨rfl, (by omega)⟩
    · exact z_thrNW (j := 37) F hlT hQ hlk hex (gin lm_319 rfl) (gin lm_320 rfl) at_X11_207 bad_X11_207 (by decide +kernel) ot_X11_207 rfl rfl rfl dX11_needTray_13 dX11_needTray_16 dX11_needTray_17 dX11_needTray_20 dX11_needTray_23 ⟨by decide, by decide⟩ (Nat.le_of_ble_eq_true rfl) ⟨hI, hW⟩ (⟨rfl, (by omega), rfl⟩)
set_option maxRecDepth 4000 in
theorem k_X11_filledTray_t0 (l : Launch) (hlT : l.stackTraces = false) (M : Mem) (hJ : Iw M) (x0 : Int) (hx0a : 0 ≤ x0) (hx0b : x0 ≤ 0) : CRX l yX11_filledTray cX11_filledTray 3 (some (.object "OddTouch$Tray")) 2 2 (fun ad => [.ref (ad 0), ii x0]) M 123 (fun M' => M = M') (fun E M' => (E = "java/lang/IllegalStateException" ∧ True ∧ M = M') ∨ (E = "java/util/NoSuchElementException" ∧ True ∧ M = M')) := by
  obtain ⟨hI, hW⟩ := hJ
  refine enx_r (by decide +kernel) (fun ad => by exact Nat.le_of_ble_eq_true rfl) (fun D cy ad A p e s m args below meth c Q F hQ hr hlk hex => ?_)
  refine z_eq (ls' := [(0, .ref (ad 0)), (1, ii x0)]) rfl rfl rfl ?_
  refine z_aload_n F dX11_filledTray_0 rfl (q := 0) rfl ?_
  refine z_iload_n F dX11_filledTray_1 rfl (q := 1) rfl ?_
  refine zy_v (rest := []) F (k_X11_needTray l hlT M ⟨hI, hW⟩ x0 (by omega) (by omega)) cs_X11_446 (T := TX11) (N := 14) (ci := 11) rfl gs_0 (by decide) (by decide) ⟨by decide, by decide⟩ rfl rfl rfl (Nat.le_of_ble_eq_true rfl) dX11_filledTray_2 (fun E M9 hJ9 hx => by obtain ⟨h9, g9, rfl⟩ := hx <;> first | (exact zx_out hQ hlk hex ⟨by decide, by decide⟩ hJ9 (Or.inr (⟨h9, trivial, rfl⟩)))) (fun M1 hI p2 => ?_)
  obtain ⟨hI, hW⟩ := hI
  obtain ⟨rfl, xp2⟩ := p2
  refine z_aload_n F dX11_filledTray_5 rfl (q := 0) rfl ?_
  refine rf_X11_57 F gs_0 rfl dX11_filledTray_6 ?_
  refine z_iload_n F dX11_filledTray_9 rfl (q := 1) rfl ?_
  rcases (show x0 = 0 by omega) with cq
  · refine z_aald (r := 123) F gs_44 rfl (by omega) (by show x0 < ((4 : Nat) : Int); omega) (by decide) (by rw [cq]; rfl) dX11_filledTray_10 ?_
    refine z_astore_n F dX11_filledTray_11 rfl (by decide) (ls' := [(2, .ref (ad 123)), (0, .ref (ad 0)), (1, ii x0)]) rfl ?_
    refine z_aload_n F dX11_filledTray_12 rfl (q := 0) rfl ?_
    refine gf_X11_266 F hI gs_123 rfl bd_123_0 dX11_filledTray_13 (fun v3 ev3 av3 bv3 => ?_)
    refine z_iconst F dX11_filledTray_16 ?_
    refine z_icmp_ne (tgt := 31) F dX11_filledTray_17 (by decide +kernel) (by omega) (by omega) (fun c4 => ?_) (fun c4 => ?_)
    · refine z_aload_n F dX11_filledTray_31 rfl (q := 0) rfl ?_
      exact zxr_r F hQ hr (Or.inl ⟨_, rfl⟩) hlk dX11_filledTray_32 ⟨by decide, by decide⟩ ⟨hI, hW⟩ rfl
    · exact z_thrSW (cls := "java/lang/IllegalStateException") (names := ["java/lang/RuntimeException", "java/lang/Exception"]) (j := 38) F hlT hQ hlk hex (by decide +kernel) (by decide +kernel) (by decide) (gin lm_530 rfl) (gin lm_531 rfl) at_X11_293 bad_X11_293 (by decide +kernel) ot_X11_293 rfl rfl rfl dX11_filledTray_20 dX11_filledTray_23 dX11_filledTray_24 dX11_filledTray_27 dX11_filledTray_30 ⟨by decide, by decide⟩ (Nat.le_of_ble_eq_true rfl) ⟨hI, hW⟩ (Or.inl ⟨rfl, trivial, rfl⟩)
set_option maxRecDepth 4000 in
theorem k_X11_needWhat (l : Launch) (hlT : l.stackTraces = false) (M : Mem) (hJ : Iw M) (x0 : Int) (hx0a : (-2147483648) ≤ x0) (hx0b : x0 ≤ 2147483647) (x1 : Int) (hx1a : (-2147483648) ≤ x1) (hx1b : x1 ≤ 2147483647) : CVX l yX11_needWhat cX11_needWhat 2 none 1 1 (fun ad => [ii x0, ii x1]) M (fun M' => M = M' ∧ (0 ≤ x0 ∧ x0 ≤ x1)) (fun E M' => (E = "java/lang/IllegalArgumentException" ∧ (x0 < 0 ∨ x1 < x0) ∧ M = M')) := by
  obtain ⟨hI, hW⟩ := hJ
  refine enx_v (by decide +kernel) (fun ad => by exact Nat.le_of_ble_eq_true rfl) (fun D cy ad A p e s m args below meth c Q F hQ hr hlk hex => ?_)
  refine z_eq (ls' := [(0, ii x0), (1, ii x1)]) rfl rfl rfl ?_
  refine z_iload_n F dX11_needWhat_0 rfl (q := 0) rfl ?_
  refine z_if_lt (tgt := 9) F dX11_needWhat_1 (by decide +kernel) (by omega) (fun c1 => ?_) (fun c1 => ?_)
  · exact z_thrS (cls := "java/lang/IllegalArgumentException") (names := ["java/lang/RuntimeException", "java/lang/Exception"]) (j := 39) F hlT hQ hlk hex (by decide +kernel) (by decide +kernel) (by decide) (gin lm_360 rfl) (gin lm_361 rfl) at_X11_105 bad_X11_105 (by decide +kernel) ot_X11_105 rfl rfl rfl dX11_needWhat_9 dX11_needWhat_12 dX11_needWhat_13 dX11_needWhat_15 dX11_needWhat_18 ⟨by decide, by decide⟩ (Nat.le_of_ble_eq_true rfl) ⟨hI, hW⟩ (⟨rfl, (by omega), rfl⟩)
  · refine z_iload_n F dX11_needWhat_4 rfl (q := 0) rfl ?_
    refine z_iload_n F dX11_needWhat_5 rfl (q := 1) rfl ?_
    refine z_icmp_le (tgt := 19) F dX11_needWhat_6 (by decide +kernel) (by omega) (by omega) (fun c2 => ?_) (fun c2 => ?_)
    · exact zxr_v F hQ hr hlk dX11_needWhat_19 ⟨by decide, by decide⟩ ⟨hI, hW⟩ ⟨rfl, (by omega)⟩
    · exact z_thrS (cls := "java/lang/IllegalArgumentException") (names := ["java/lang/RuntimeException", "java/lang/Exception"]) (j := 39) F hlT hQ hlk hex (by decide +kernel) (by decide +kernel) (by decide) (gin lm_360 rfl) (gin lm_361 rfl) at_X11_105 bad_X11_105 (by decide +kernel) ot_X11_105 rfl rfl rfl dX11_needWhat_9 dX11_needWhat_12 dX11_needWhat_13 dX11_needWhat_15 dX11_needWhat_18 ⟨by decide, by decide⟩ (Nat.le_of_ble_eq_true rfl) ⟨hI, hW⟩ (⟨rfl, (by omega), rfl⟩)
set_option maxRecDepth 4000 in
theorem k_X7_save_35_42 (l : Launch) (M : Mem) (hJ : Iw M) (x1 : Int) (hx1a : (-2147483648) ≤ x1) (hx1b : x1 ≤ 2147483647) (hp0 : x1 % 34 = 0) : CV l yX7_save cX7_save 3 none 1 (fun ad => [.ref (ad 35), .ref (ad 42), ii x1]) M (fun M' => Fr [42] M M') := by
  obtain ⟨hI, hW⟩ := hJ
  have hF : Fr [42] M M := Fr.rf
  refine en_v (by decide +kernel) (fun ad => by exact Nat.le_of_ble_eq_true rfl) (fun D cy ad A p e s m args below meth c Q F hret => ?_)
  refine z_eq (ls' := [(0, .ref (ad 35)), (1, .ref (ad 42)), (2, ii x1)]) rfl rfl rfl ?_
  refine z_iload_n F dX7_save_0 rfl (q := 2) rfl ?_
  refine z_if_lt (tgt := 13) F dX7_save_1 (by decide +kernel) (by omega) (fun c1 => ?_) (fun c1 => ?_)
  · exact hret _ 13 _ ⟨hI, hW⟩ hF dX7_save_13
  · refine z_iload_n F dX7_save_4 rfl (q := 2) rfl ?_
    refine z_aload_n F dX7_save_5 rfl (q := 1) rfl ?_
    refine z_alen (x := 34) F gs_42 rfl rfl dX7_save_6 ?_
    refine z_bipush F dX7_save_7 (by decide +kernel) ?_
    refine z_isub F dX7_save_9 ?_
    refine z_icmp_le (tgt := 14) F dX7_save_10 (by decide +kernel) (by omega) (by omega) (fun c2 => ?_) (fun c2 => ?_)
    · refine z_aload_n F dX7_save_14 rfl (q := 0) rfl ?_
      refine rf_X7_9 F gs_35 rfl dX7_save_15 ?_
      refine z_iconst F dX7_save_18 ?_
      refine z_aload_n F dX7_save_19 rfl (q := 1) rfl ?_
      refine z_iload_n F dX7_save_20 rfl (q := 2) rfl ?_
      refine z_bipush F dX7_save_21 (by decide +kernel) ?_
      refine z_copy F (by decide) ac_X7_50 hI gs_36 gs_42 (by omega) (by omega) (by omega) (by omega) (by omega) (by decide) (by decide) (fun i hi => (show Bd 42 _ = (0, 9) from (bd_42.trans (sc_p (by omega)))).trans (show Bd 36 _ = (0, 9) from rfl).symm) (Nat.le_of_ble_eq_true rfl) dX7_save_23 (fun M4 hI g3 => ?_)
      have hF := hF.call g3 (by decide)
      have hW : WFk M4 := hW.fr g3 (by decide) (by decide)
      refine z_aload_n F dX7_save_26 rfl (q := 0) rfl ?_
      refine rf_X7_15 F gs_35 rfl dX7_save_27 ?_
      refine z_iconst F dX7_save_30 ?_
      refine z_aload_n F dX7_save_31 rfl (q := 1) rfl ?_
      refine z_iload_n F dX7_save_32 rfl (q := 2) rfl ?_
      refine z_bipush F dX7_save_33 (by decide +kernel) ?_
      refine z_iadd F dX7_save_35 ?_
      refine z_bipush F dX7_save_36 (by decide +kernel) ?_
      refine z_copy F (by decide) ac_X7_50 hI gs_37 gs_42 (by omega) (by omega) (by omega) (by omega) (by omega) (by decide) (by decide) (fun i hi => (show Bd 42 _ = (-2147483648, 2147483647) from (bd_42.trans (sc_n (by omega)))).trans (show Bd 37 _ = (-2147483648, 2147483647) from rfl).symm) (Nat.le_of_ble_eq_true rfl) dX7_save_38 (fun M6 hI g5 => ?_)
      have hF := hF.call g5 (by decide)
      have hW : WFk M6 := hW.fr g5 (by decide) (by decide)
      refine z_aload_n F dX7_save_41 rfl (q := 0) rfl ?_
      refine rf_X7_18 F gs_35 rfl dX7_save_42 ?_
      refine z_iconst F dX7_save_45 ?_
      refine z_aload_n F dX7_save_46 rfl (q := 1) rfl ?_
      refine z_iload_n F dX7_save_47 rfl (q := 2) rfl ?_
      refine z_bipush F dX7_save_48 (by decide +kernel) ?_
      refine z_iadd F dX7_save_50 ?_
      refine z_bipush F dX7_save_51 (by decide +kernel) ?_
      refine z_copy F (by decide) ac_X7_50 hI gs_38 gs_42 (by omega) (by omega) (by omega) (by omega) (by omega) (by decide) (by decide) (fun i hi => (show Bd 42 _ = (-2147483648, 2147483647) from (bd_42.trans (sc_n (by omega)))).trans (show Bd 38 _ = (-2147483648, 2147483647) from rfl).symm) (Nat.le_of_ble_eq_true rfl) dX7_save_53 (fun M8 hI g7 => ?_)
      have hF := hF.call g7 (by decide)
      have hW : WFk M8 := hW.fr g7 (by decide) (by decide)
      refine z_aload_n F dX7_save_56 rfl (q := 0) rfl ?_
      refine rf_X7_21 F gs_35 rfl dX7_save_57 ?_
      refine z_iconst F dX7_save_60 ?_
      refine z_aload_n F dX7_save_61 rfl (q := 1) rfl ?_
      refine z_iload_n F dX7_save_62 rfl (q := 2) rfl ?_
      refine z_bipush F dX7_save_63 (by decide +kernel) ?_
      refine z_iadd F dX7_save_65 ?_
      refine z_bipush F dX7_save_66 (by decide +kernel) ?_
      refine z_copy F (by decide) ac_X7_50 hI gs_39 gs_42 (by omega) (by omega) (by omega) (by omega) (by omega) (by decide) (by decide) (fun i hi => (show Bd 42 _ = (-2147483648, 2147483647) from (bd_42.trans (sc_n (by omega)))).trans (show Bd 39 _ = (-2147483648, 2147483647) from rfl).symm) (Nat.le_of_ble_eq_true rfl) dX7_save_68 (fun M10 hI g9 => ?_)
      have hF := hF.call g9 (by decide)
      have hW : WFk M10 := hW.fr g9 (by decide) (by decide)
      refine z_aload_n F dX7_save_71 rfl (q := 1) rfl ?_
      refine z_iload_n F dX7_save_72 rfl (q := 2) rfl ?_
      refine z_bipush F dX7_save_73 (by decide +kernel) ?_
      refine z_iadd F dX7_save_75 ?_
      refine z_iconst F dX7_save_76 ?_
      refine z_isub F dX7_save_77 ?_
      refine z_aload_n F dX7_save_78 rfl (q := 0) rfl ?_
      refine gf_X7_44 F hI gs_35 rfl bd_35_5 dX7_save_79 (fun v11 ev11 av11 bv11 => ?_)
      refine z_iast F hI gs_42 (by omega) (by omega) (by decide) (bd_42.trans (sc_n (by omega))) dX7_save_82 (by omega) (by omega) (fun M13 hI sf12 f12 => ?_)
      have hF := hF.wr f12 (by decide) (by decide)
      have hW : WFk M13 := hW.site f12 (by decide)
      refine z_aload_n F dX7_save_83 rfl (q := 1) rfl ?_
      refine z_iload_n F dX7_save_84 rfl (q := 2) rfl ?_
      refine z_bipush F dX7_save_85 (by decide +kernel) ?_
      refine z_iadd F dX7_save_87 ?_
      refine z_iconst F dX7_save_88 ?_
      refine z_isub F dX7_save_89 ?_
      refine z_aload_n F dX7_save_90 rfl (q := 0) rfl ?_
      refine gf_X7_47 F hI gs_35 rfl bd_35_6 dX7_save_91 (fun v14 ev14 av14 bv14 => ?_)
      refine z_iast F hI gs_42 (by omega) (by omega) (by decide) (bd_42.trans (sc_n (by omega))) dX7_save_94 (by omega) (by omega) (fun M16 hI sf15 f15 => ?_)
      have hF := hF.wr f15 (by decide) (by decide)
      have hW : WFk M16 := hW.site f15 (by decide)
      exact hret _ 95 _ ⟨hI, hW⟩ hF dX7_save_95
    · exact hret _ 13 _ ⟨hI, hW⟩ hF dX7_save_13
set_option maxRecDepth 4000 in
theorem k_X10_numberAt_123 (l : Launch) (M : Mem) (hJ : Iw M) (x0 : Int) (hx0a : (-2147483648) ≤ x0) (hx0b : x0 ≤ 2147483647) : CL l yX10_numberAt cX10_numberAt 2 (some .long) 1 (fun ad => [.ref (ad 123), ii x0]) M (fun z M' => ((-9223372036854775808) ≤ z ∧ z ≤ 9223372036854775807) ∧ M = M') := by
  obtain ⟨hI, hW⟩ := hJ
  refine en_l (by decide +kernel) (fun ad => by exact Nat.le_of_ble_eq_true rfl) (fun D cy ad A p e s m args below meth c Q F hret => ?_)
  refine z_eq (ls' := [(0, .ref (ad 123)), (1, ii x0)]) rfl rfl rfl ?_
  refine z_iload_n F dX10_numberAt_0 rfl (q := 1) rfl ?_
  refine z_if_lt (tgt := 21) F dX10_numberAt_1 (by decide +kernel) (by omega) (fun c1 => ?_) (fun c1 => ?_)
  · refine z_lconst (x := 0) F dX10_numberAt_21 (by decide +kernel) ?_
    exact hret _ _ 22 _ (by omega) ⟨hI, hW⟩ ⟨⟨by omega, by omega⟩, rfl⟩ dX10_numberAt_22
  · refine z_iload_n F dX10_numberAt_4 rfl (q := 1) rfl ?_
    refine z_aload_n F dX10_numberAt_5 rfl (q := 0) rfl ?_
    refine gf_X10_9 F hI gs_123 rfl bd_123_0 dX10_numberAt_6 (fun v2 ev2 av2 bv2 => ?_)
    refine z_icmp_ge (tgt := 21) F dX10_numberAt_9 (by decide +kernel) (by omega) (by omega) (fun c3 => ?_) (fun c3 => ?_)
    · refine z_lconst (x := 0) F dX10_numberAt_21 (by decide +kernel) ?_
      exact hret _ _ 22 _ (by omega) ⟨hI, hW⟩ ⟨⟨by omega, by omega⟩, rfl⟩ dX10_numberAt_22
    · refine z_aload_n F dX10_numberAt_12 rfl (q := 0) rfl ?_
      refine rf_X10_15 F gs_123 rfl dX10_numberAt_13 ?_
      refine z_iload_n F dX10_numberAt_16 rfl (q := 1) rfl ?_
      refine z_lald F hI gs_124 (by omega) (by omega) (by decide) bd_124 dX10_numberAt_17 (fun v4 (ev4 : v4 = M 124 _) av4 bv4 => ?_)
      refine z_goto (tgt := 22) F dX10_numberAt_18 (by decide +kernel) ?_
      exact hret _ _ 22 _ (by omega) ⟨hI, hW⟩ ⟨⟨by omega, by omega⟩, rfl⟩ dX10_numberAt_22
set_option maxRecDepth 4000 in
theorem k_X7_obstacleOf_35 (l : Launch) (M : Mem) (hJ : Iw M) (x0 : Int) (hx0a : (-9223372036854775808) ≤ x0) (hx0b : x0 ≤ 9223372036854775807) : CI l yX7_obstacleOf cX7_obstacleOf 5 (some .int) 4 (fun ad => [.ref (ad 35), ll x0]) M (fun z M' => (0 ≤ z ∧ z ≤ 4) ∧ M = M' ∧ (z = 0 → x0 = -1 ∨ (0 ≤ x0 ∧ x0 < 100 ∧ x0 / 10 ≤ 7 ∨ 100 ≤ x0 ∧ x0 ≤ 299 ∧ x0 / 10 % 10 ≤ 7))) := by
  obtain ⟨hI, hW⟩ := hJ
  refine en_i (by decide +kernel) (fun ad => by exact Nat.le_of_ble_eq_true rfl) (fun D cy ad A p e s m args below meth c Q F hret => ?_)
  refine z_eq (ls' := [(0, .ref (ad 35)), (1, ll x0)]) rfl rfl rfl ?_
  refine z_lload_n F dX7_obstacleOf_0 rfl (q := 1) rfl ?_
  refine z_ldc2 (x := (-1)) F dX7_obstacleOf_1 (gin lm_534 rfl) (by decide +kernel) ?_
  refine z_lcmp F dX7_obstacleOf_4 (by omega) (by omega) (fun v1 ev1 => ?_)
  refine z_if_ne (tgt := 10) F dX7_obstacleOf_5 (by decide +kernel) (by omega) (fun c2 => ?_) (fun c2 => ?_)
  · refine z_lload_n F dX7_obstacleOf_10 rfl (q := 1) rfl ?_
    refine z_lconst (x := 0) F dX7_obstacleOf_11 (by decide +kernel) ?_
    refine z_lcmp F dX7_obstacleOf_12 (by omega) (by omega) (fun v3 ev3 => ?_)
    refine z_if_lt (tgt := 24) F dX7_obstacleOf_13 (by decide +kernel) (by omega) (fun c4 => ?_) (fun c4 => ?_)
    · refine z_iconst F dX7_obstacleOf_24 ?_
      exact hret _ _ 25 _ (by omega) ⟨hI, hW⟩ ⟨⟨by omega, by omega⟩, rfl, (by omega)⟩ dX7_obstacleOf_25
    · refine z_lload_n F dX7_obstacleOf_16 rfl (q := 1) rfl ?_
      refine z_ldc2 (x := 299) F dX7_obstacleOf_17 (gin lm_535 rfl) (by decide +kernel) ?_
      refine z_lcmp F dX7_obstacleOf_20 (by omega) (by omega) (fun v5 ev5 => ?_)
      refine z_if_le (tgt := 26) F dX7_obstacleOf_21 (by decide +kernel) (by omega) (fun c6 => ?_) (fun c6 => ?_)
      · refine z_lload_n F dX7_obstacleOf_26 rfl (q := 1) rfl ?_
        refine z_l2i F dX7_obstacleOf_27 (by omega) ?_
        refine z_bipush F dX7_obstacleOf_28 (by decide +kernel) ?_
        refine z_idiv_p F dX7_obstacleOf_30 (by omega) (by omega) (by omega) (by omega) (fun v7 ev7 => ?_)
        refine z_bipush F dX7_obstacleOf_31 (by decide +kernel) ?_
        refine z_irem_p F dX7_obstacleOf_33 (by omega) (by omega) (by omega) (by omega) (fun v8 ev8 => ?_)
        refine z_istore_n F dX7_obstacleOf_34 rfl (by decide) (ls' := [(3, ii v8), (0, .ref (ad 35)), (1, ll x0)]) rfl ?_
        refine z_lload_n F dX7_obstacleOf_35 rfl (q := 2) rfl ?_
        refine z_l2i F dX7_obstacleOf_36 (by omega) ?_
        refine z_bipush F dX7_obstacleOf_37 (by decide +kernel) ?_
        refine z_irem_p F dX7_obstacleOf_39 (by omega) (by omega) (by omega) (by omega) (fun v9 ev9 => ?_)
        refine z_istore F dX7_obstacleOf_40 (by decide) (ls' := [(4, ii v9), (3, ii v8), (0, .ref (ad 35)), (1, ll x0)]) rfl ?_
        refine z_lload_n F dX7_obstacleOf_42 rfl (q := 3) rfl ?_
        refine z_ldc2 (x := 100) F dX7_obstacleOf_43 (gin lm_536 rfl) (by decide +kernel) ?_
        refine z_lcmp F dX7_obstacleOf_46 (by omega) (by omega) (fun v10 ev10 => ?_)
        refine z_if_ge (tgt := 58) F dX7_obstacleOf_47 (by decide +kernel) (by omega) (fun c11 => ?_) (fun c11 => ?_)
        · refine z_aload_n F dX7_obstacleOf_58 rfl (q := 2) rfl ?_
          refine rf_X7_24 F gs_35 rfl dX7_obstacleOf_59 ?_
          refine z_iload_n F dX7_obstacleOf_62 rfl (q := 1) rfl ?_
          refine zv_i (rest := []) F (k_X9_hasThing_2 l M ⟨hI, hW⟩ v8 (by omega) (by omega)) cs_X7_104 (T := TX9) (N := 18) (ci := 9) rfl gs_2 (by decide) (by decide) rfl rfl rfl (Nat.le_of_ble_eq_true rfl) dX7_obstacleOf_63 (fun v12 M13 rv12 hI p14 => ?_)
          obtain ⟨hI, hW⟩ := hI
          obtain ⟨⟨av12, bv12⟩, rfl, xp14⟩ := p14
          refine z_if_eq (tgt := 78) F dX7_obstacleOf_66 (by decide +kernel) (by omega) (fun c15 => ?_) (fun c15 => ?_)
          · refine z_iconst F dX7_obstacleOf_78 ?_
            exact hret _ _ 79 _ (by omega) ⟨hI, hW⟩ ⟨⟨by omega, by omega⟩, rfl, (by omega)⟩ dX7_obstacleOf_79
          · refine z_iload F dX7_obstacleOf_69 (q := 0) rfl ?_
            refine z_if_eq (tgt := 78) F dX7_obstacleOf_71 (by decide +kernel) (by omega) (fun c16 => ?_) (fun c16 => ?_)
            · refine z_iconst F dX7_obstacleOf_78 ?_
              exact hret _ _ 79 _ (by omega) ⟨hI, hW⟩ ⟨⟨by omega, by omega⟩, rfl, (by omega)⟩ dX7_obstacleOf_79
            · refine z_iconst F dX7_obstacleOf_74 ?_
              refine z_goto (tgt := 79) F dX7_obstacleOf_75 (by decide +kernel) ?_
              exact hret _ _ 79 _ (by omega) ⟨hI, hW⟩ ⟨⟨by omega, by omega⟩, rfl, (by omega)⟩ dX7_obstacleOf_79
        · refine z_aload_n F dX7_obstacleOf_50 rfl (q := 2) rfl ?_
          refine z_iload_n F dX7_obstacleOf_51 rfl (q := 1) rfl ?_
          refine z_iload F dX7_obstacleOf_52 (q := 0) rfl ?_
          refine zv_i (rest := []) F (k_X7_obstacle_35 l M ⟨hI, hW⟩ v8 (by omega) (by omega) v9 (by omega) (by omega)) cs_X7_162 (T := TX7) (N := 7) (ci := 7) rfl gs_35 (by decide) (by decide) rfl rfl rfl (Nat.le_of_ble_eq_true rfl) dX7_obstacleOf_54 (fun v17 M18 rv17 hI p19 => ?_)
          obtain ⟨hI, hW⟩ := hI
          obtain ⟨⟨av17, bv17⟩, rfl, xp19⟩ := p19
          exact hret _ _ 57 _ (by omega) ⟨hI, hW⟩ ⟨⟨by omega, by omega⟩, rfl, (by omega)⟩ dX7_obstacleOf_57
      · refine z_iconst F dX7_obstacleOf_24 ?_
        exact hret _ _ 25 _ (by omega) ⟨hI, hW⟩ ⟨⟨by omega, by omega⟩, rfl, (by omega)⟩ dX7_obstacleOf_25
  · refine z_iconst F dX7_obstacleOf_8 ?_
    exact hret _ _ 9 _ (by omega) ⟨hI, hW⟩ ⟨⟨by omega, by omega⟩, rfl, (by omega)⟩ dX7_obstacleOf_9
set_option maxRecDepth 4000 in
theorem k_X7_obey_35 (l : Launch) (M : Mem) (hJ : Iw M) (x0 : Int) (hx0a : 0 ≤ x0) (hx0b : x0 ≤ 299) (hp0 : (0 ≤ x0 ∧ x0 < 100 ∧ x0 / 10 ≤ 7 ∨ 100 ≤ x0 ∧ x0 ≤ 299 ∧ x0 / 10 % 10 ≤ 7)) : CV l yX7_obey cX7_obey 5 none 6 (fun ad => [.ref (ad 35), ll x0]) M (fun M' => Fr [16, 17, 35, 36, 37, 38, 39] M M') := by
  obtain ⟨hI, hW⟩ := hJ
  have hF : Fr [16, 17, 35, 36, 37, 38, 39] M M := Fr.rf
  refine en_v (by decide +kernel) (fun ad => by exact Nat.le_of_ble_eq_true rfl) (fun D cy ad A p e s m args below meth c Q F hret => ?_)
  refine z_eq (ls' := [(0, .ref (ad 35)), (1, ll x0)]) rfl rfl rfl ?_
  refine z_lload_n F dX7_obey_0 rfl (q := 1) rfl ?_
  refine z_l2i F dX7_obey_1 (by omega) ?_
  refine z_bipush F dX7_obey_2 (by decide +kernel) ?_
  refine z_idiv_p F dX7_obey_4 (by omega) (by omega) (by omega) (by omega) (fun v1 ev1 => ?_)
  refine z_bipush F dX7_obey_5 (by decide +kernel) ?_
  refine z_irem_p F dX7_obey_7 (by omega) (by omega) (by omega) (by omega) (fun v2 ev2 => ?_)
  refine z_istore_n F dX7_obey_8 rfl (by decide) (ls' := [(3, ii v2), (0, .ref (ad 35)), (1, ll x0)]) rfl ?_
  refine z_lload_n F dX7_obey_9 rfl (q := 2) rfl ?_
  refine z_l2i F dX7_obey_10 (by omega) ?_
  refine z_bipush F dX7_obey_11 (by decide +kernel) ?_
  refine z_irem_p F dX7_obey_13 (by omega) (by omega) (by omega) (by omega) (fun v3 ev3 => ?_)
  refine z_istore F dX7_obey_14 (by decide) (ls' := [(4, ii v3), (3, ii v2), (0, .ref (ad 35)), (1, ll x0)]) rfl ?_
  refine z_lload_n F dX7_obey_16 rfl (q := 3) rfl ?_
  refine z_ldc2 (x := 100) F dX7_obey_17 (gin lm_536 rfl) (by decide +kernel) ?_
  refine z_lcmp F dX7_obey_20 (by omega) (by omega) (fun v4 ev4 => ?_)
  refine z_if_ge (tgt := 35) F dX7_obey_21 (by decide +kernel) (by omega) (fun c5 => ?_) (fun c5 => ?_)
  · refine z_aload_n F dX7_obey_35 rfl (q := 2) rfl ?_
    refine z_iload_n F dX7_obey_36 rfl (q := 1) rfl ?_
    refine z_lload_n F dX7_obey_37 rfl (q := 3) rfl ?_
    refine z_ldc2 (x := 200) F dX7_obey_38 (gin lm_538 rfl) (by decide +kernel) ?_
    refine z_lcmp F dX7_obey_41 (by omega) (by omega) (fun v6 ev6 => ?_)
    refine z_if_ge (tgt := 50) F dX7_obey_42 (by decide +kernel) (by omega) (fun c7 => ?_) (fun c7 => ?_)
    · refine z_iload F dX7_obey_50 (q := 0) rfl ?_
      refine z_ineg F dX7_obey_52 ?_
      have k8 : 0 ≤ v2 ∧ v2 ≤ 7 := by omega
      refine zv_v (rest := []) F (k_X7_addTo_35 l M ⟨hI, hW⟩ v2 (by omega) (by omega) (-v3) (by omega) (by omega)) cs_X7_152 (T := TX7) (N := 7) (ci := 7) rfl gs_35 (by decide) (by decide) rfl rfl rfl (Nat.le_of_ble_eq_true rfl) dX7_obey_53 (fun M9 hI p10 => ?_)
      obtain ⟨hI, hW⟩ := hI
      have fp10 := p10
      have hF := hF.call fp10 (by decide)
      exact hret _ 56 _ ⟨hI, hW⟩ hF dX7_obey_56
    · refine z_iload F dX7_obey_45 (q := 0) rfl ?_
      refine z_goto (tgt := 53) F dX7_obey_47 (by decide +kernel) ?_
      have k11 : 0 ≤ v2 ∧ v2 ≤ 7 := by omega
      refine zv_v (rest := []) F (k_X7_addTo_35 l M ⟨hI, hW⟩ v2 (by omega) (by omega) v3 (by omega) (by omega)) cs_X7_152 (T := TX7) (N := 7) (ci := 7) rfl gs_35 (by decide) (by decide) rfl rfl rfl (Nat.le_of_ble_eq_true rfl) dX7_obey_53 (fun M12 hI p13 => ?_)
      obtain ⟨hI, hW⟩ := hI
      have fp13 := p13
      have hF := hF.call fp13 (by decide)
      exact hret _ 56 _ ⟨hI, hW⟩ hF dX7_obey_56
  · refine z_aload_n F dX7_obey_24 rfl (q := 2) rfl ?_
    refine z_iload_n F dX7_obey_25 rfl (q := 1) rfl ?_
    refine z_iload F dX7_obey_26 (q := 0) rfl ?_
    have k14 : 0 ≤ v2 ∧ v2 ≤ 7 := by omega
    refine zv_i (rest := []) F (k_X7_shift_35 l M ⟨hI, hW⟩ v2 (by omega) (by omega) v3 (by omega) (by omega)) cs_X7_165 (T := TX7) (N := 7) (ci := 7) rfl gs_35 (by decide) (by decide) rfl rfl rfl (Nat.le_of_ble_eq_true rfl) dX7_obey_28 (fun v15 M16 rv15 hI p17 => ?_)
    obtain ⟨hI, hW⟩ := hI
    obtain ⟨⟨av15, bv15⟩, fp17⟩ := p17
    have hF := hF.call fp17 (by decide)
    refine z_pop F dX7_obey_31 rfl ?_
    refine z_goto (tgt := 56) F dX7_obey_32 (by decide +kernel) ?_
    exact hret _ 56 _ ⟨hI, hW⟩ hF dX7_obey_56
set_option maxRecDepth 4000 in
theorem k_X11_carryOut_0_123 (l : Launch) (M : Mem) (hJ : Iw M) (x1 : Int) (hx1a : 0 ≤ x1) (hx1b : x1 ≤ 1) : CI l yX11_carryOut cX11_carryOut 6 (some .int) 7 (fun ad => [.ref (ad 0), .ref (ad 123), ii x1]) M (fun z M' => ((-1) ≤ z ∧ z ≤ 30) ∧ Fr [16, 17, 35, 36, 37, 38, 39, 40, 41] M M') := by
  obtain ⟨hI, hW⟩ := hJ
  have hF : Fr [16, 17, 35, 36, 37, 38, 39, 40, 41] M M := Fr.rf
  refine en_i (by decide +kernel) (fun ad => by exact Nat.le_of_ble_eq_true rfl) (fun D cy ad A p e s m args below meth c Q F hret => ?_)
  refine z_eq (ls' := [(0, .ref (ad 0)), (1, .ref (ad 123)), (2, ii x1)]) rfl rfl rfl ?_
  refine z_iconst F dX11_carryOut_0 ?_
  refine z_istore_n F dX11_carryOut_1 rfl (by decide) (ls' := [(3, ii 0), (0, .ref (ad 0)), (1, .ref (ad 123)), (2, ii x1)]) rfl ?_
  refine z_loc [1, 2, 3, 0] (ls' := [(0, .ref (ad 0)), (1, .ref (ad 123)), (2, ii x1), (3, ii 0)]) rfl ?_
  suffices key2 : ∀ (n : Nat) (y2 : Int) (M1 : Mem), Inv M1 → WFk M1 → Fr [16, 17, 35, 36, 37, 38, 39, 40, 41] M M1 → 0 ≤ y2 → y2 ≤ 30 → 30 - y2 < (n : Int) → Z D cy ad p l e (RMh 7) s m args below meth c A 6 0 0 Q 2 [(0, .ref (ad 0)), (1, .ref (ad 123)), (2, ii x1), (3, ii y2)] [] M1 from key2 31 0 M hI hW hF (by omega) (by omega) (by omega)
  intro n2
  induction n2 with
  | zero => intro y2 M1 hI hW hF ay2 by2 hn2; exfalso; omega
  | succ n2 ih2 =>
    intro y2 M1 hI hW hF ay2 by2 hn2
    refine z_iload_n F dX11_carryOut_2 rfl (q := 3) rfl ?_
    refine z_aload_n F dX11_carryOut_3 rfl (q := 1) rfl ?_
    refine gf_X11_266 F hI gs_123 rfl bd_123_0 dX11_carryOut_4 (fun v3 ev3 av3 bv3 => ?_)
    refine z_icmp_ge (tgt := 80) F dX11_carryOut_7 (by decide +kernel) (by omega) (by omega) (fun c4 => ?_) (fun c4 => ?_)
    · refine z_aload_n F dX11_carryOut_80 rfl (q := 1) rfl ?_
      refine gf_X11_266 F hI gs_123 rfl bd_123_0 dX11_carryOut_81 (fun v5 ev5 av5 bv5 => ?_)
      have zv5 : v3 = v5 := ev3.trans ev5.symm
      subst zv5
      exact hret _ _ 84 _ (by omega) ⟨hI, hW⟩ ⟨⟨by omega, by omega⟩, hF⟩ dX11_carryOut_84
    · refine z_aload_n F dX11_carryOut_10 rfl (q := 1) rfl ?_
      refine z_iload_n F dX11_carryOut_11 rfl (q := 3) rfl ?_
      refine zv_l (rest := []) F (k_X10_numberAt_123 l M1 ⟨hI, hW⟩ y2 (by omega) (by omega)) cs_X11_267 (T := TX10) (N := 3) (ci := 10) rfl gs_123 (by decide) (by decide) rfl rfl rfl (Nat.le_of_ble_eq_true rfl) dX11_carryOut_12 (fun v6 M7 rv6 hI p8 => ?_)
      obtain ⟨hI, hW⟩ := hI
      obtain ⟨⟨av6, bv6⟩, rfl⟩ := p8
      refine z_lstore F dX11_carryOut_15 (by decide) (ls' := [(4, ll v6), (0, .ref (ad 0)), (1, .ref (ad 123)), (2, ii x1), (3, ii y2)]) rfl ?_
      refine z_aload_n F dX11_carryOut_17 rfl (q := 1) rfl ?_
      refine rf_X11_34 F gs_0 rfl dX11_carryOut_18 ?_
      refine z_lload F dX11_carryOut_21 (q := 0) rfl ?_
      refine zv_i (rest := []) F (k_X7_obstacleOf_35 l M1 ⟨hI, hW⟩ v6 (by omega) (by omega)) cs_X11_271 (T := TX7) (N := 7) (ci := 7) rfl gs_35 (by decide) (by decide) rfl rfl rfl (Nat.le_of_ble_eq_true rfl) dX11_carryOut_23 (fun v9 M10 rv9 hI p11 => ?_)
      obtain ⟨hI, hW⟩ := hI
      obtain ⟨⟨av9, bv9⟩, rfl, xp11⟩ := p11
      refine z_if_eq (tgt := 31) F dX11_carryOut_26 (by decide +kernel) (by omega) (fun c12 => ?_) (fun c12 => ?_)
      · refine z_iload_n F dX11_carryOut_31 rfl (q := 3) rfl ?_
        refine z_if_eq (tgt := 46) F dX11_carryOut_32 (by decide +kernel) (by omega) (fun c13 => ?_) (fun c13 => ?_)
        · refine z_lload F dX11_carryOut_46 (q := 0) rfl ?_
          refine z_ldc2 (x := (-1)) F dX11_carryOut_48 (gin lm_549 rfl) (by decide +kernel) ?_
          refine z_lcmp F dX11_carryOut_51 (by omega) (by omega) (fun v14 ev14 => ?_)
          refine z_if_ne (tgt := 65) F dX11_carryOut_52 (by decide +kernel) (by omega) (fun c15 => ?_) (fun c15 => ?_)
          · refine z_aload_n F dX11_carryOut_65 rfl (q := 1) rfl ?_
            refine rf_X11_34 F gs_0 rfl dX11_carryOut_66 ?_
            refine z_lload F dX11_carryOut_69 (q := 0) rfl ?_
            refine zv_v (rest := []) F (k_X7_obey_35 l M1 ⟨hI, hW⟩ v6 (by omega) (by omega) (by omega)) cs_X11_280 (T := TX7) (N := 7) (ci := 7) rfl gs_35 (by decide) (by decide) rfl rfl rfl (Nat.le_of_ble_eq_true rfl) dX11_carryOut_71 (fun M16 hI p17 => ?_)
            obtain ⟨hI, hW⟩ := hI
            have fp17 := p17
            have hF := hF.call fp17 (by decide)
            refine z_iincN F dX11_carryOut_74 (q := 4) rfl (by decide) (fun v18 ev18 => ?_)
            refine z_eq (ls' := [(3, ii v18), (4, ll v6), (0, .ref (ad 0)), (1, .ref (ad 123)), (2, ii x1)]) rfl rfl rfl ?_
            refine z_goto (tgt := 2) F dX11_carryOut_77 (by decide +kernel) ?_
            refine z_loc [2, 3, 4, 0] (ls' := [(0, .ref (ad 0)), (1, .ref (ad 123)), (2, ii x1), (3, ii v18)]) rfl ?_
            exact ih2 v18 M16 hI hW hF (by omega) (by omega) (by omega)
          · refine z_aload_n F dX11_carryOut_55 rfl (q := 1) rfl ?_
            refine rf_X11_34 F gs_0 rfl dX11_carryOut_56 ?_
            refine zv_v (rest := []) F (k_X7_passDay_35 l M1 ⟨hI, hW⟩) cs_X11_236 (T := TX7) (N := 7) (ci := 7) rfl gs_35 (by decide) (by decide) rfl rfl rfl (Nat.le_of_ble_eq_true rfl) dX11_carryOut_59 (fun M19 hI p20 => ?_)
            obtain ⟨hI, hW⟩ := hI
            have fp20 := p20
            have hF := hF.call fp20 (by decide)
            refine z_goto (tgt := 74) F dX11_carryOut_62 (by decide +kernel) ?_
            refine z_iincN F dX11_carryOut_74 (q := 4) rfl (by decide) (fun v21 ev21 => ?_)
            refine z_eq (ls' := [(3, ii v21), (4, ll v6), (0, .ref (ad 0)), (1, .ref (ad 123)), (2, ii x1)]) rfl rfl rfl ?_
            refine z_goto (tgt := 2) F dX11_carryOut_77 (by decide +kernel) ?_
            refine z_loc [2, 3, 4, 0] (ls' := [(0, .ref (ad 0)), (1, .ref (ad 123)), (2, ii x1), (3, ii v21)]) rfl ?_
            exact ih2 v21 M19 hI hW hF (by omega) (by omega) (by omega)
        · refine z_aload_n F dX11_carryOut_35 rfl (q := 1) rfl ?_
          refine rf_X11_41 F gs_0 rfl dX11_carryOut_36 ?_
          refine z_aload_n F dX11_carryOut_39 rfl (q := 1) rfl ?_
          refine rf_X11_34 F gs_0 rfl dX11_carryOut_40 ?_
          refine zv_v (rest := []) F (k_X4_keep_40_35 l M1 ⟨hI, hW⟩) cs_X11_217 (T := TX4) (N := 3) (ci := 4) rfl gs_40 (by decide) (by decide) rfl rfl rfl (Nat.le_of_ble_eq_true rfl) dX11_carryOut_43 (fun M22 hI p23 => ?_)
          obtain ⟨hI, hW⟩ := hI
          have fp23 := p23
          have hF := hF.call fp23 (by decide)
          refine z_lload F dX11_carryOut_46 (q := 0) rfl ?_
          refine z_ldc2 (x := (-1)) F dX11_carryOut_48 (gin lm_549 rfl) (by decide +kernel) ?_
          refine z_lcmp F dX11_carryOut_51 (by omega) (by omega) (fun v24 ev24 => ?_)
          refine z_if_ne (tgt := 65) F dX11_carryOut_52 (by decide +kernel) (by omega) (fun c25 => ?_) (fun c25 => ?_)
          · refine z_aload_n F dX11_carryOut_65 rfl (q := 1) rfl ?_
            refine rf_X11_34 F gs_0 rfl dX11_carryOut_66 ?_
            refine z_lload F dX11_carryOut_69 (q := 0) rfl ?_
            refine zv_v (rest := []) F (k_X7_obey_35 l M22 ⟨hI, hW⟩ v6 (by omega) (by omega) (by omega)) cs_X11_280 (T := TX7) (N := 7) (ci := 7) rfl gs_35 (by decide) (by decide) rfl rfl rfl (Nat.le_of_ble_eq_true rfl) dX11_carryOut_71 (fun M26 hI p27 => ?_)
            obtain ⟨hI, hW⟩ := hI
            have fp27 := p27
            have hF := hF.call fp27 (by decide)
            refine z_iincN F dX11_carryOut_74 (q := 4) rfl (by decide) (fun v28 ev28 => ?_)
            refine z_eq (ls' := [(3, ii v28), (4, ll v6), (0, .ref (ad 0)), (1, .ref (ad 123)), (2, ii x1)]) rfl rfl rfl ?_
            refine z_goto (tgt := 2) F dX11_carryOut_77 (by decide +kernel) ?_
            refine z_loc [2, 3, 4, 0] (ls' := [(0, .ref (ad 0)), (1, .ref (ad 123)), (2, ii x1), (3, ii v28)]) rfl ?_
            exact ih2 v28 M26 hI hW hF (by omega) (by omega) (by omega)
          · refine z_aload_n F dX11_carryOut_55 rfl (q := 1) rfl ?_
            refine rf_X11_34 F gs_0 rfl dX11_carryOut_56 ?_
            refine zv_v (rest := []) F (k_X7_passDay_35 l M22 ⟨hI, hW⟩) cs_X11_236 (T := TX7) (N := 7) (ci := 7) rfl gs_35 (by decide) (by decide) rfl rfl rfl (Nat.le_of_ble_eq_true rfl) dX11_carryOut_59 (fun M29 hI p30 => ?_)
            obtain ⟨hI, hW⟩ := hI
            have fp30 := p30
            have hF := hF.call fp30 (by decide)
            refine z_goto (tgt := 74) F dX11_carryOut_62 (by decide +kernel) ?_
            refine z_iincN F dX11_carryOut_74 (q := 4) rfl (by decide) (fun v31 ev31 => ?_)
            refine z_eq (ls' := [(3, ii v31), (4, ll v6), (0, .ref (ad 0)), (1, .ref (ad 123)), (2, ii x1)]) rfl rfl rfl ?_
            refine z_goto (tgt := 2) F dX11_carryOut_77 (by decide +kernel) ?_
            refine z_loc [2, 3, 4, 0] (ls' := [(0, .ref (ad 0)), (1, .ref (ad 123)), (2, ii x1), (3, ii v31)]) rfl ?_
            exact ih2 v31 M29 hI hW hF (by omega) (by omega) (by omega)
      · refine z_iload_n F dX11_carryOut_29 rfl (q := 4) rfl ?_
        exact hret _ _ 30 _ (by omega) ⟨hI, hW⟩ ⟨⟨by omega, by omega⟩, hF⟩ dX11_carryOut_30
set_option maxRecDepth 4000 in
theorem k_X7_load_35_42 (l : Launch) (M : Mem) (hJ : Iw M) (x1 : Int) (hx1a : (-2147483648) ≤ x1) (hx1b : x1 ≤ 2147483647) (hp0 : x1 % 34 = 0) : CV l yX7_load cX7_load 3 none 1 (fun ad => [.ref (ad 35), .ref (ad 42), ii x1]) M (fun M' => Fr [35, 36, 37, 38, 39] M M') := by
  obtain ⟨hI, hW⟩ := hJ
  have hF : Fr [35, 36, 37, 38, 39] M M := Fr.rf
  refine en_v (by decide +kernel) (fun ad => by exact Nat.le_of_ble_eq_true rfl) (fun D cy ad A p e s m args below meth c Q F hret => ?_)
  refine z_eq (ls' := [(0, .ref (ad 35)), (1, .ref (ad 42)), (2, ii x1)]) rfl rfl rfl ?_
  refine z_iload_n F dX7_load_0 rfl (q := 2) rfl ?_
  refine z_if_lt (tgt := 13) F dX7_load_1 (by decide +kernel) (by omega) (fun c1 => ?_) (fun c1 => ?_)
  · exact hret _ 13 _ ⟨hI, hW⟩ hF dX7_load_13
  · refine z_iload_n F dX7_load_4 rfl (q := 2) rfl ?_
    refine z_aload_n F dX7_load_5 rfl (q := 1) rfl ?_
    refine z_alen (x := 34) F gs_42 rfl rfl dX7_load_6 ?_
    refine z_bipush F dX7_load_7 (by decide +kernel) ?_
    refine z_isub F dX7_load_9 ?_
    refine z_icmp_le (tgt := 14) F dX7_load_10 (by decide +kernel) (by omega) (by omega) (fun c2 => ?_) (fun c2 => ?_)
    · refine z_aload_n F dX7_load_14 rfl (q := 1) rfl ?_
      refine z_iload_n F dX7_load_15 rfl (q := 2) rfl ?_
      refine z_aload_n F dX7_load_16 rfl (q := 0) rfl ?_
      refine rf_X7_9 F gs_35 rfl dX7_load_17 ?_
      refine z_iconst F dX7_load_20 ?_
      refine z_bipush F dX7_load_21 (by decide +kernel) ?_
      refine z_copy F (by decide) ac_X7_50 hI gs_42 gs_36 (by omega) (by omega) (by omega) (by omega) (by omega) (by decide) (by decide) (fun i hi => (show Bd 36 _ = (0, 9) from rfl).trans (show Bd 42 _ = (0, 9) from (bd_42.trans (sc_p (by omega)))).symm) (Nat.le_of_ble_eq_true rfl) dX7_load_23 (fun M4 hI g3 => ?_)
      have hF := hF.call g3 (by decide)
      have hW : WFk M4 := hW.fr g3 (by decide) (by decide)
      refine z_aload_n F dX7_load_26 rfl (q := 1) rfl ?_
      refine z_iload_n F dX7_load_27 rfl (q := 2) rfl ?_
      refine z_bipush F dX7_load_28 (by decide +kernel) ?_
      refine z_iadd F dX7_load_30 ?_
      refine z_aload_n F dX7_load_31 rfl (q := 0) rfl ?_
      refine rf_X7_15 F gs_35 rfl dX7_load_32 ?_
      refine z_iconst F dX7_load_35 ?_
      refine z_bipush F dX7_load_36 (by decide +kernel) ?_
      refine z_copy F (by decide) ac_X7_50 hI gs_42 gs_37 (by omega) (by omega) (by omega) (by omega) (by omega) (by decide) (by decide) (fun i hi => (show Bd 37 _ = (-2147483648, 2147483647) from rfl).trans (show Bd 42 _ = (-2147483648, 2147483647) from (bd_42.trans (sc_n (by omega)))).symm) (Nat.le_of_ble_eq_true rfl) dX7_load_38 (fun M6 hI g5 => ?_)
      have hF := hF.call g5 (by decide)
      have hW : WFk M6 := hW.fr g5 (by decide) (by decide)
      refine z_aload_n F dX7_load_41 rfl (q := 1) rfl ?_
      refine z_iload_n F dX7_load_42 rfl (q := 2) rfl ?_
      refine z_bipush F dX7_load_43 (by decide +kernel) ?_
      refine z_iadd F dX7_load_45 ?_
      refine z_aload_n F dX7_load_46 rfl (q := 0) rfl ?_
      refine rf_X7_18 F gs_35 rfl dX7_load_47 ?_
      refine z_iconst F dX7_load_50 ?_
      refine z_bipush F dX7_load_51 (by decide +kernel) ?_
      refine z_copy F (by decide) ac_X7_50 hI gs_42 gs_38 (by omega) (by omega) (by omega) (by omega) (by omega) (by decide) (by decide) (fun i hi => (show Bd 38 _ = (-2147483648, 2147483647) from rfl).trans (show Bd 42 _ = (-2147483648, 2147483647) from (bd_42.trans (sc_n (by omega)))).symm) (Nat.le_of_ble_eq_true rfl) dX7_load_53 (fun M8 hI g7 => ?_)
      have hF := hF.call g7 (by decide)
      have hW : WFk M8 := hW.fr g7 (by decide) (by decide)
      refine z_aload_n F dX7_load_56 rfl (q := 1) rfl ?_
      refine z_iload_n F dX7_load_57 rfl (q := 2) rfl ?_
      refine z_bipush F dX7_load_58 (by decide +kernel) ?_
      refine z_iadd F dX7_load_60 ?_
      refine z_aload_n F dX7_load_61 rfl (q := 0) rfl ?_
      refine rf_X7_21 F gs_35 rfl dX7_load_62 ?_
      refine z_iconst F dX7_load_65 ?_
      refine z_bipush F dX7_load_66 (by decide +kernel) ?_
      refine z_copy F (by decide) ac_X7_50 hI gs_42 gs_39 (by omega) (by omega) (by omega) (by omega) (by omega) (by decide) (by decide) (fun i hi => (show Bd 39 _ = (-2147483648, 2147483647) from rfl).trans (show Bd 42 _ = (-2147483648, 2147483647) from (bd_42.trans (sc_n (by omega)))).symm) (Nat.le_of_ble_eq_true rfl) dX7_load_68 (fun M10 hI g9 => ?_)
      have hF := hF.call g9 (by decide)
      have hW : WFk M10 := hW.fr g9 (by decide) (by decide)
      refine z_aload_n F dX7_load_71 rfl (q := 0) rfl ?_
      refine z_aload_n F dX7_load_72 rfl (q := 1) rfl ?_
      refine z_iload_n F dX7_load_73 rfl (q := 2) rfl ?_
      refine z_bipush F dX7_load_74 (by decide +kernel) ?_
      refine z_iadd F dX7_load_76 ?_
      refine z_iconst F dX7_load_77 ?_
      refine z_isub F dX7_load_78 ?_
      refine z_iald F hI gs_42 (by omega) (by omega) (by decide) (bd_42.trans (sc_n (by omega))) dX7_load_79 (fun v11 (ev11 : v11 = M10 42 _) av11 bv11 => ?_)
      refine pf_X7_44 F hI gs_35 rfl bd_35_5 rfl rfl dX7_load_80 (by omega) (by omega) (fun M13 hI sf12 f12 => ?_)
      have hF := hF.wr f12 (by decide) (by decide)
      have hW : WFk M13 := hW.site f12 (by decide)
      refine z_aload_n F dX7_load_83 rfl (q := 0) rfl ?_
      refine z_aload_n F dX7_load_84 rfl (q := 1) rfl ?_
      refine z_iload_n F dX7_load_85 rfl (q := 2) rfl ?_
      refine z_bipush F dX7_load_86 (by decide +kernel) ?_
      refine z_iadd F dX7_load_88 ?_
      refine z_iconst F dX7_load_89 ?_
      refine z_isub F dX7_load_90 ?_
      refine z_iald F hI gs_42 (by omega) (by omega) (by decide) (bd_42.trans (sc_n (by omega))) dX7_load_91 (fun v14 (ev14 : v14 = M13 42 _) av14 bv14 => ?_)
      refine pf_X7_47 F hI gs_35 rfl bd_35_6 rfl rfl dX7_load_92 (by omega) (by omega) (fun M16 hI sf15 f15 => ?_)
      have hF := hF.wr f15 (by decide) (by decide)
      have hW : WFk M16 := hW.site f15 (by decide)
      exact hret _ 95 _ ⟨hI, hW⟩ hF dX7_load_95
    · exact hret _ 13 _ ⟨hI, hW⟩ hF dX7_load_13
set_option maxRecDepth 4000 in
theorem k_X11_filledTray_t1 (l : Launch) (hlT : l.stackTraces = false) (M : Mem) (hJ : Iw M) (x0 : Int) (hx0a : 1 ≤ x0) (hx0b : x0 ≤ 1) : CRX l yX11_filledTray cX11_filledTray 3 (some (.object "OddTouch$Tray")) 2 2 (fun ad => [.ref (ad 0), ii x0]) M 125 (fun M' => M = M') (fun E M' => (E = "java/lang/IllegalStateException" ∧ True ∧ M = M') ∨ (E = "java/util/NoSuchElementException" ∧ True ∧ M = M')) := by
  obtain ⟨hI, hW⟩ := hJ
  refine enx_r (by decide +kernel) (fun ad => by exact Nat.le_of_ble_eq_true rfl) (fun D cy ad A p e s m args below meth c Q F hQ hr hlk hex => ?_)
  refine z_eq (ls' := [(0, .ref (ad 0)), (1, ii x0)]) rfl rfl rfl ?_
  refine z_aload_n F dX11_filledTray_0 rfl (q := 0) rfl ?_
  refine z_iload_n F dX11_filledTray_1 rfl (q := 1) rfl ?_
  refine zy_v (rest := []) F (k_X11_needTray l hlT M ⟨hI, hW⟩ x0 (by omega) (by omega)) cs_X11_446 (T := TX11) (N := 14) (ci := 11) rfl gs_0 (by decide) (by decide) ⟨by decide, by decide⟩ rfl rfl rfl (Nat.le_of_ble_eq_true rfl) dX11_filledTray_2 (fun E M9 hJ9 hx => by obtain ⟨h9, g9, rfl⟩ := hx <;> first | (exact zx_out hQ hlk hex ⟨by decide, by decide⟩ hJ9 (Or.inr (⟨h9, trivial, rfl⟩)))) (fun M1 hI p2 => ?_)
  obtain ⟨hI, hW⟩ := hI
  obtain ⟨rfl, xp2⟩ := p2
  refine z_aload_n F dX11_filledTray_5 rfl (q := 0) rfl ?_
  refine rf_X11_57 F gs_0 rfl dX11_filledTray_6 ?_
  refine z_iload_n F dX11_filledTray_9 rfl (q := 1) rfl ?_
  rcases (show x0 = 1 by omega) with cq
  · refine z_aald (r := 125) F gs_44 rfl (by omega) (by show x0 < ((4 : Nat) : Int); omega) (by decide) (by rw [cq]; rfl) dX11_filledTray_10 ?_
    refine z_astore_n F dX11_filledTray_11 rfl (by decide) (ls' := [(2, .ref (ad 125)), (0, .ref (ad 0)), (1, ii x0)]) rfl ?_
    refine z_aload_n F dX11_filledTray_12 rfl (q := 0) rfl ?_
    refine gf_X11_266 F hI gs_125 rfl bd_125_0 dX11_filledTray_13 (fun v3 ev3 av3 bv3 => ?_)
    refine z_iconst F dX11_filledTray_16 ?_
    refine z_icmp_ne (tgt := 31) F dX11_filledTray_17 (by decide +kernel) (by omega) (by omega) (fun c4 => ?_) (fun c4 => ?_)
    · refine z_aload_n F dX11_filledTray_31 rfl (q := 0) rfl ?_
      exact zxr_r F hQ hr (Or.inl ⟨_, rfl⟩) hlk dX11_filledTray_32 ⟨by decide, by decide⟩ ⟨hI, hW⟩ rfl
    · exact z_thrSW (cls := "java/lang/IllegalStateException") (names := ["java/lang/RuntimeException", "java/lang/Exception"]) (j := 38) F hlT hQ hlk hex (by decide +kernel) (by decide +kernel) (by decide) (gin lm_530 rfl) (gin lm_531 rfl) at_X11_293 bad_X11_293 (by decide +kernel) ot_X11_293 rfl rfl rfl dX11_filledTray_20 dX11_filledTray_23 dX11_filledTray_24 dX11_filledTray_27 dX11_filledTray_30 ⟨by decide, by decide⟩ (Nat.le_of_ble_eq_true rfl) ⟨hI, hW⟩ (Or.inl ⟨rfl, trivial, rfl⟩)
set_option maxRecDepth 4000 in
theorem k_X10_numberAt_125 (l : Launch) (M : Mem) (hJ : Iw M) (x0 : Int) (hx0a : (-2147483648) ≤ x0) (hx0b : x0 ≤ 2147483647) : CL l yX10_numberAt cX10_numberAt 2 (some .long) 1 (fun ad => [.ref (ad 125), ii x0]) M (fun z M' => ((-9223372036854775808) ≤ z ∧ z ≤ 9223372036854775807) ∧ M = M') := by
  obtain ⟨hI, hW⟩ := hJ
  refine en_l (by decide +kernel) (fun ad => by exact Nat.le_of_ble_eq_true rfl) (fun D cy ad A p e s m args below meth c Q F hret => ?_)
  refine z_eq (ls' := [(0, .ref (ad 125)), (1, ii x0)]) rfl rfl rfl ?_
  refine z_iload_n F dX10_numberAt_0 rfl (q := 1) rfl ?_
  refine z_if_lt (tgt := 21) F dX10_numberAt_1 (by decide +kernel) (by omega) (fun c1 => ?_) (fun c1 => ?_)
  · refine z_lconst (x := 0) F dX10_numberAt_21 (by decide +kernel) ?_
    exact hret _ _ 22 _ (by omega) ⟨hI, hW⟩ ⟨⟨by omega, by omega⟩, rfl⟩ dX10_numberAt_22
  · refine z_iload_n F dX10_numberAt_4 rfl (q := 1) rfl ?_
    refine z_aload_n F dX10_numberAt_5 rfl (q := 0) rfl ?_
    refine gf_X10_9 F hI gs_125 rfl bd_125_0 dX10_numberAt_6 (fun v2 ev2 av2 bv2 => ?_)
    refine z_icmp_ge (tgt := 21) F dX10_numberAt_9 (by decide +kernel) (by omega) (by omega) (fun c3 => ?_) (fun c3 => ?_)
    · refine z_lconst (x := 0) F dX10_numberAt_21 (by decide +kernel) ?_
      exact hret _ _ 22 _ (by omega) ⟨hI, hW⟩ ⟨⟨by omega, by omega⟩, rfl⟩ dX10_numberAt_22
    · refine z_aload_n F dX10_numberAt_12 rfl (q := 0) rfl ?_
      refine rf_X10_15 F gs_125 rfl dX10_numberAt_13 ?_
      refine z_iload_n F dX10_numberAt_16 rfl (q := 1) rfl ?_
      refine z_lald F hI gs_126 (by omega) (by omega) (by decide) bd_126 dX10_numberAt_17 (fun v4 (ev4 : v4 = M 126 _) av4 bv4 => ?_)
      refine z_goto (tgt := 22) F dX10_numberAt_18 (by decide +kernel) ?_
      exact hret _ _ 22 _ (by omega) ⟨hI, hW⟩ ⟨⟨by omega, by omega⟩, rfl⟩ dX10_numberAt_22
set_option maxRecDepth 4000 in
theorem k_X11_carryOut_0_125 (l : Launch) (M : Mem) (hJ : Iw M) (x1 : Int) (hx1a : 0 ≤ x1) (hx1b : x1 ≤ 1) : CI l yX11_carryOut cX11_carryOut 6 (some .int) 7 (fun ad => [.ref (ad 0), .ref (ad 125), ii x1]) M (fun z M' => ((-1) ≤ z ∧ z ≤ 30) ∧ Fr [16, 17, 35, 36, 37, 38, 39, 40, 41] M M') := by
  obtain ⟨hI, hW⟩ := hJ
  have hF : Fr [16, 17, 35, 36, 37, 38, 39, 40, 41] M M := Fr.rf
  refine en_i (by decide +kernel) (fun ad => by exact Nat.le_of_ble_eq_true rfl) (fun D cy ad A p e s m args below meth c Q F hret => ?_)
  refine z_eq (ls' := [(0, .ref (ad 0)), (1, .ref (ad 125)), (2, ii x1)]) rfl rfl rfl ?_
  refine z_iconst F dX11_carryOut_0 ?_
  refine z_istore_n F dX11_carryOut_1 rfl (by decide) (ls' := [(3, ii 0), (0, .ref (ad 0)), (1, .ref (ad 125)), (2, ii x1)]) rfl ?_
  refine z_loc [1, 2, 3, 0] (ls' := [(0, .ref (ad 0)), (1, .ref (ad 125)), (2, ii x1), (3, ii 0)]) rfl ?_
  suffices key2 : ∀ (n : Nat) (y2 : Int) (M1 : Mem), Inv M1 → WFk M1 → Fr [16, 17, 35, 36, 37, 38, 39, 40, 41] M M1 → 0 ≤ y2 → y2 ≤ 30 → 30 - y2 < (n : Int) → Z D cy ad p l e (RMh 7) s m args below meth c A 6 0 0 Q 2 [(0, .ref (ad 0)), (1, .ref (ad 125)), (2, ii x1), (3, ii y2)] [] M1 from key2 31 0 M hI hW hF (by omega) (by omega) (by omega)
  intro n2
  induction n2 with
  | zero => intro y2 M1 hI hW hF ay2 by2 hn2; exfalso; omega
  | succ n2 ih2 =>
    intro y2 M1 hI hW hF ay2 by2 hn2
    refine z_iload_n F dX11_carryOut_2 rfl (q := 3) rfl ?_
    refine z_aload_n F dX11_carryOut_3 rfl (q := 1) rfl ?_
    refine gf_X11_266 F hI gs_125 rfl bd_125_0 dX11_carryOut_4 (fun v3 ev3 av3 bv3 => ?_)
    refine z_icmp_ge (tgt := 80) F dX11_carryOut_7 (by decide +kernel) (by omega) (by omega) (fun c4 => ?_) (fun c4 => ?_)
    · refine z_aload_n F dX11_carryOut_80 rfl (q := 1) rfl ?_
      refine gf_X11_266 F hI gs_125 rfl bd_125_0 dX11_carryOut_81 (fun v5 ev5 av5 bv5 => ?_)
      have zv5 : v3 = v5 := ev3.trans ev5.symm
      subst zv5
      exact hret _ _ 84 _ (by omega) ⟨hI, hW⟩ ⟨⟨by omega, by omega⟩, hF⟩ dX11_carryOut_84
    · refine z_aload_n F dX11_carryOut_10 rfl (q := 1) rfl ?_
      refine z_iload_n F dX11_carryOut_11 rfl (q := 3) rfl ?_
      refine zv_l (rest := []) F (k_X10_numberAt_125 l M1 ⟨hI, hW⟩ y2 (by omega) (by omega)) cs_X11_267 (T := TX10) (N := 3) (ci := 10) rfl gs_125 (by decide) (by decide) rfl rfl rfl (Nat.le_of_ble_eq_true rfl) dX11_carryOut_12 (fun v6 M7 rv6 hI p8 => ?_)
      obtain ⟨hI, hW⟩ := hI
      obtain ⟨⟨av6, bv6⟩, rfl⟩ := p8
      refine z_lstore F dX11_carryOut_15 (by decide) (ls' := [(4, ll v6), (0, .ref (ad 0)), (1, .ref (ad 125)), (2, ii x1), (3, ii y2)]) rfl ?_
      refine z_aload_n F dX11_carryOut_17 rfl (q := 1) rfl ?_
      refine rf_X11_34 F gs_0 rfl dX11_carryOut_18 ?_
      refine z_lload F dX11_carryOut_21 (q := 0) rfl ?_
      refine zv_i (rest := []) F (k_X7_obstacleOf_35 l M1 ⟨hI, hW⟩ v6 (by omega) (by omega)) cs_X11_271 (T := TX7) (N := 7) (ci := 7) rfl gs_35 (by decide) (by decide) rfl rfl rfl (Nat.le_of_ble_eq_true rfl) dX11_carryOut_23 (fun v9 M10 rv9 hI p11 => ?_)
      obtain ⟨hI, hW⟩ := hI
      obtain ⟨⟨av9, bv9⟩, rfl, xp11⟩ := p11
      refine z_if_eq (tgt := 31) F dX11_carryOut_26 (by decide +kernel) (by omega) (fun c12 => ?_) (fun c12 => ?_)
      · refine z_iload_n F dX11_carryOut_31 rfl (q := 3) rfl ?_
        refine z_if_eq (tgt := 46) F dX11_carryOut_32 (by decide +kernel) (by omega) (fun c13 => ?_) (fun c13 => ?_)
        · refine z_lload F dX11_carryOut_46 (q := 0) rfl ?_
          refine z_ldc2 (x := (-1)) F dX11_carryOut_48 (gin lm_549 rfl) (by decide +kernel) ?_
          refine z_lcmp F dX11_carryOut_51 (by omega) (by omega) (fun v14 ev14 => ?_)
          refine z_if_ne (tgt := 65) F dX11_carryOut_52 (by decide +kernel) (by omega) (fun c15 => ?_) (fun c15 => ?_)
          · refine z_aload_n F dX11_carryOut_65 rfl (q := 1) rfl ?_
            refine rf_X11_34 F gs_0 rfl dX11_carryOut_66 ?_
            refine z_lload F dX11_carryOut_69 (q := 0) rfl ?_
            refine zv_v (rest := []) F (k_X7_obey_35 l M1 ⟨hI, hW⟩ v6 (by omega) (by omega) (by omega)) cs_X11_280 (T := TX7) (N := 7) (ci := 7) rfl gs_35 (by decide) (by decide) rfl rfl rfl (Nat.le_of_ble_eq_true rfl) dX11_carryOut_71 (fun M16 hI p17 => ?_)
            obtain ⟨hI, hW⟩ := hI
            have fp17 := p17
            have hF := hF.call fp17 (by decide)
            refine z_iincN F dX11_carryOut_74 (q := 4) rfl (by decide) (fun v18 ev18 => ?_)
            refine z_eq (ls' := [(3, ii v18), (4, ll v6), (0, .ref (ad 0)), (1, .ref (ad 125)), (2, ii x1)]) rfl rfl rfl ?_
            refine z_goto (tgt := 2) F dX11_carryOut_77 (by decide +kernel) ?_
            refine z_loc [2, 3, 4, 0] (ls' := [(0, .ref (ad 0)), (1, .ref (ad 125)), (2, ii x1), (3, ii v18)]) rfl ?_
            exact ih2 v18 M16 hI hW hF (by omega) (by omega) (by omega)
          · refine z_aload_n F dX11_carryOut_55 rfl (q := 1) rfl ?_
            refine rf_X11_34 F gs_0 rfl dX11_carryOut_56 ?_
            refine zv_v (rest := []) F (k_X7_passDay_35 l M1 ⟨hI, hW⟩) cs_X11_236 (T := TX7) (N := 7) (ci := 7) rfl gs_35 (by decide) (by decide) rfl rfl rfl (Nat.le_of_ble_eq_true rfl) dX11_carryOut_59 (fun M19 hI p20 => ?_)
            obtain ⟨hI, hW⟩ := hI
            have fp20 := p20
            have hF := hF.call fp20 (by decide)
            refine z_goto (tgt := 74) F dX11_carryOut_62 (by decide +kernel) ?_
            refine z_iincN F dX11_carryOut_74 (q := 4) rfl (by decide) (fun v21 ev21 => ?_)
            refine z_eq (ls' := [(3, ii v21), (4, ll v6), (0, .ref (ad 0)), (1, .ref (ad 125)), (2, ii x1)]) rfl rfl rfl ?_
            refine z_goto (tgt := 2) F dX11_carryOut_77 (by decide +kernel) ?_
            refine z_loc [2, 3, 4, 0] (ls' := [(0, .ref (ad 0)), (1, .ref (ad 125)), (2, ii x1), (3, ii v21)]) rfl ?_
            exact ih2 v21 M19 hI hW hF (by omega) (by omega) (by omega)
        · refine z_aload_n F dX11_carryOut_35 rfl (q := 1) rfl ?_
          refine rf_X11_41 F gs_0 rfl dX11_carryOut_36 ?_
          refine z_aload_n F dX11_carryOut_39 rfl (q := 1) rfl ?_
          refine rf_X11_34 F gs_0 rfl dX11_carryOut_40 ?_
          refine zv_v (rest := []) F (k_X4_keep_40_35 l M1 ⟨hI, hW⟩) cs_X11_217 (T := TX4) (N := 3) (ci := 4) rfl gs_40 (by decide) (by decide) rfl rfl rfl (Nat.le_of_ble_eq_true rfl) dX11_carryOut_43 (fun M22 hI p23 => ?_)
          obtain ⟨hI, hW⟩ := hI
          have fp23 := p23
          have hF := hF.call fp23 (by decide)
          refine z_lload F dX11_carryOut_46 (q := 0) rfl ?_
          refine z_ldc2 (x := (-1)) F dX11_carryOut_48 (gin lm_549 rfl) (by decide +kernel) ?_
          refine z_lcmp F dX11_carryOut_51 (by omega) (by omega) (fun v24 ev24 => ?_)
          refine z_if_ne (tgt := 65) F dX11_carryOut_52 (by decide +kernel) (by omega) (fun c25 => ?_) (fun c25 => ?_)
          · refine z_aload_n F dX11_carryOut_65 rfl (q := 1) rfl ?_
            refine rf_X11_34 F gs_0 rfl dX11_carryOut_66 ?_
            refine z_lload F dX11_carryOut_69 (q := 0) rfl ?_
            refine zv_v (rest := []) F (k_X7_obey_35 l M22 ⟨hI, hW⟩ v6 (by omega) (by omega) (by omega)) cs_X11_280 (T := TX7) (N := 7) (ci := 7) rfl gs_35 (by decide) (by decide) rfl rfl rfl (Nat.le_of_ble_eq_true rfl) dX11_carryOut_71 (fun M26 hI p27 => ?_)
            obtain ⟨hI, hW⟩ := hI
            have fp27 := p27
            have hF := hF.call fp27 (by decide)
            refine z_iincN F dX11_carryOut_74 (q := 4) rfl (by decide) (fun v28 ev28 => ?_)
            refine z_eq (ls' := [(3, ii v28), (4, ll v6), (0, .ref (ad 0)), (1, .ref (ad 125)), (2, ii x1)]) rfl rfl rfl ?_
            refine z_goto (tgt := 2) F dX11_carryOut_77 (by decide +kernel) ?_
            refine z_loc [2, 3, 4, 0] (ls' := [(0, .ref (ad 0)), (1, .ref (ad 125)), (2, ii x1), (3, ii v28)]) rfl ?_
            exact ih2 v28 M26 hI hW hF (by omega) (by omega) (by omega)
          · refine z_aload_n F dX11_carryOut_55 rfl (q := 1) rfl ?_
            refine rf_X11_34 F gs_0 rfl dX11_carryOut_56 ?_
            refine zv_v (rest := []) F (k_X7_passDay_35 l M22 ⟨hI, hW⟩) cs_X11_236 (T := TX7) (N := 7) (ci := 7) rfl gs_35 (by decide) (by decide) rfl rfl rfl (Nat.le_of_ble_eq_true rfl) dX11_carryOut_59 (fun M29 hI p30 => ?_)
            obtain ⟨hI, hW⟩ := hI
            have fp30 := p30
            have hF := hF.call fp30 (by decide)
            refine z_goto (tgt := 74) F dX11_carryOut_62 (by decide +kernel) ?_
            refine z_iincN F dX11_carryOut_74 (q := 4) rfl (by decide) (fun v31 ev31 => ?_)
            refine z_eq (ls' := [(3, ii v31), (4, ll v6), (0, .ref (ad 0)), (1, .ref (ad 125)), (2, ii x1)]) rfl rfl rfl ?_
            refine z_goto (tgt := 2) F dX11_carryOut_77 (by decide +kernel) ?_
            refine z_loc [2, 3, 4, 0] (ls' := [(0, .ref (ad 0)), (1, .ref (ad 125)), (2, ii x1), (3, ii v31)]) rfl ?_
            exact ih2 v31 M29 hI hW hF (by omega) (by omega) (by omega)
      · refine z_iload_n F dX11_carryOut_29 rfl (q := 4) rfl ?_
        exact hret _ _ 30 _ (by omega) ⟨hI, hW⟩ ⟨⟨by omega, by omega⟩, hF⟩ dX11_carryOut_30
set_option maxRecDepth 4000 in
theorem k_X11_filledTray_t2 (l : Launch) (hlT : l.stackTraces = false) (M : Mem) (hJ : Iw M) (x0 : Int) (hx0a : 2 ≤ x0) (hx0b : x0 ≤ 2) : CRX l yX11_filledTray cX11_filledTray 3 (some (.object "OddTouch$Tray")) 2 2 (fun ad => [.ref (ad 0), ii x0]) M 127 (fun M' => M = M') (fun E M' => (E = "java/lang/IllegalStateException" ∧ True ∧ M = M') ∨ (E = "java/util/NoSuchElementException" ∧ True ∧ M = M')) := by
  obtain ⟨hI, hW⟩ := hJ
  refine enx_r (by decide +kernel) (fun ad => by exact Nat.le_of_ble_eq_true rfl) (fun D cy ad A p e s m args below meth c Q F hQ hr hlk hex => ?_)
  refine z_eq (ls' := [(0, .ref (ad 0)), (1, ii x0)]) rfl rfl rfl ?_
  refine z_aload_n F dX11_filledTray_0 rfl (q := 0) rfl ?_
  refine z_iload_n F dX11_filledTray_1 rfl (q := 1) rfl ?_
  refine zy_v (rest := []) F (k_X11_needTray l hlT M ⟨hI, hW⟩ x0 (by omega) (by omega)) cs_X11_446 (T := TX11) (N := 14) (ci := 11) rfl gs_0 (by decide) (by decide) ⟨by decide, by decide⟩ rfl rfl rfl (Nat.le_of_ble_eq_true rfl) dX11_filledTray_2 (fun E M9 hJ9 hx => by obtain ⟨h9, g9, rfl⟩ := hx <;> first | (exact zx_out hQ hlk hex ⟨by decide, by decide⟩ hJ9 (Or.inr (⟨h9, trivial, rfl⟩)))) (fun M1 hI p2 => ?_)
  obtain ⟨hI, hW⟩ := hI
  obtain ⟨rfl, xp2⟩ := p2
  refine z_aload_n F dX11_filledTray_5 rfl (q := 0) rfl ?_
  refine rf_X11_57 F gs_0 rfl dX11_filledTray_6 ?_
  refine z_iload_n F dX11_filledTray_9 rfl (q := 1) rfl ?_
  rcases (show x0 = 2 by omega) with cq
  · refine z_aald (r := 127) F gs_44 rfl (by omega) (by show x0 < ((4 : Nat) : Int); omega) (by decide) (by rw [cq]; rfl) dX11_filledTray_10 ?_
    refine z_astore_n F dX11_filledTray_11 rfl (by decide) (ls' := [(2, .ref (ad 127)), (0, .ref (ad 0)), (1, ii x0)]) rfl ?_
    refine z_aload_n F dX11_filledTray_12 rfl (q := 0) rfl ?_
    refine gf_X11_266 F hI gs_127 rfl bd_127_0 dX11_filledTray_13 (fun v3 ev3 av3 bv3 => ?_)
    refine z_iconst F dX11_filledTray_16 ?_
    refine z_icmp_ne (tgt := 31) F dX11_filledTray_17 (by decide +kernel) (by omega) (by omega) (fun c4 => ?_) (fun c4 => ?_)
    · refine z_aload_n F dX11_filledTray_31 rfl (q := 0) rfl ?_
      exact zxr_r F hQ hr (Or.inl ⟨_, rfl⟩) hlk dX11_filledTray_32 ⟨by decide, by decide⟩ ⟨hI, hW⟩ rfl
    · exact z_thrSW (cls := "java/lang/IllegalStateException") (names := ["java/lang/RuntimeException", "java/lang/Exception"]) (j := 38) F hlT hQ hlk hex (by decide +kernel) (by decide +kernel) (by decide) (gin lm_530 rfl) (gin lm_531 rfl) at_X11_293 bad_X11_293 (by decide +kernel) ot_X11_293 rfl rfl rfl dX11_filledTray_20 dX11_filledTray_23 dX11_filledTray_24 dX11_filledTray_27 dX11_filledTray_30 ⟨by decide, by decide⟩ (Nat.le_of_ble_eq_true rfl) ⟨hI, hW⟩ (Or.inl ⟨rfl, trivial, rfl⟩)
set_option maxRecDepth 4000 in
theorem k_X10_numberAt_127 (l : Launch) (M : Mem) (hJ : Iw M) (x0 : Int) (hx0a : (-2147483648) ≤ x0) (hx0b : x0 ≤ 2147483647) : CL l yX10_numberAt cX10_numberAt 2 (some .long) 1 (fun ad => [.ref (ad 127), ii x0]) M (fun z M' => ((-9223372036854775808) ≤ z ∧ z ≤ 9223372036854775807) ∧ M = M') := by
  obtain ⟨hI, hW⟩ := hJ
  refine en_l (by decide +kernel) (fun ad => by exact Nat.le_of_ble_eq_true rfl) (fun D cy ad A p e s m args below meth c Q F hret => ?_)
  refine z_eq (ls' := [(0, .ref (ad 127)), (1, ii x0)]) rfl rfl rfl ?_
  refine z_iload_n F dX10_numberAt_0 rfl (q := 1) rfl ?_
  refine z_if_lt (tgt := 21) F dX10_numberAt_1 (by decide +kernel) (by omega) (fun c1 => ?_) (fun c1 => ?_)
  · refine z_lconst (x := 0) F dX10_numberAt_21 (by decide +kernel) ?_
    exact hret _ _ 22 _ (by omega) ⟨hI, hW⟩ ⟨⟨by omega, by omega⟩, rfl⟩ dX10_numberAt_22
  · refine z_iload_n F dX10_numberAt_4 rfl (q := 1) rfl ?_
    refine z_aload_n F dX10_numberAt_5 rfl (q := 0) rfl ?_
    refine gf_X10_9 F hI gs_127 rfl bd_127_0 dX10_numberAt_6 (fun v2 ev2 av2 bv2 => ?_)
    refine z_icmp_ge (tgt := 21) F dX10_numberAt_9 (by decide +kernel) (by omega) (by omega) (fun c3 => ?_) (fun c3 => ?_)
    · refine z_lconst (x := 0) F dX10_numberAt_21 (by decide +kernel) ?_
      exact hret _ _ 22 _ (by omega) ⟨hI, hW⟩ ⟨⟨by omega, by omega⟩, rfl⟩ dX10_numberAt_22
    · refine z_aload_n F dX10_numberAt_12 rfl (q := 0) rfl ?_
      refine rf_X10_15 F gs_127 rfl dX10_numberAt_13 ?_
      refine z_iload_n F dX10_numberAt_16 rfl (q := 1) rfl ?_
      refine z_lald F hI gs_128 (by omega) (by omega) (by decide) bd_128 dX10_numberAt_17 (fun v4 (ev4 : v4 = M 128 _) av4 bv4 => ?_)
      refine z_goto (tgt := 22) F dX10_numberAt_18 (by decide +kernel) ?_
      exact hret _ _ 22 _ (by omega) ⟨hI, hW⟩ ⟨⟨by omega, by omega⟩, rfl⟩ dX10_numberAt_22
set_option maxRecDepth 4000 in
theorem k_X11_carryOut_0_127 (l : Launch) (M : Mem) (hJ : Iw M) (x1 : Int) (hx1a : 0 ≤ x1) (hx1b : x1 ≤ 1) : CI l yX11_carryOut cX11_carryOut 6 (some .int) 7 (fun ad => [.ref (ad 0), .ref (ad 127), ii x1]) M (fun z M' => ((-1) ≤ z ∧ z ≤ 30) ∧ Fr [16, 17, 35, 36, 37, 38, 39, 40, 41] M M') := by
  obtain ⟨hI, hW⟩ := hJ
  have hF : Fr [16, 17, 35, 36, 37, 38, 39, 40, 41] M M := Fr.rf
  refine en_i (by decide +kernel) (fun ad => by exact Nat.le_of_ble_eq_true rfl) (fun D cy ad A p e s m args below meth c Q F hret => ?_)
  refine z_eq (ls' := [(0, .ref (ad 0)), (1, .ref (ad 127)), (2, ii x1)]) rfl rfl rfl ?_
  refine z_iconst F dX11_carryOut_0 ?_
  refine z_istore_n F dX11_carryOut_1 rfl (by decide) (ls' := [(3, ii 0), (0, .ref (ad 0)), (1, .ref (ad 127)), (2, ii x1)]) rfl ?_
  refine z_loc [1, 2, 3, 0] (ls' := [(0, .ref (ad 0)), (1, .ref (ad 127)), (2, ii x1), (3, ii 0)]) rfl ?_
  suffices key2 : ∀ (n : Nat) (y2 : Int) (M1 : Mem), Inv M1 → WFk M1 → Fr [16, 17, 35, 36, 37, 38, 39, 40, 41] M M1 → 0 ≤ y2 → y2 ≤ 30 → 30 - y2 < (n : Int) → Z D cy ad p l e (RMh 7) s m args below meth c A 6 0 0 Q 2 [(0, .ref (ad 0)), (1, .ref (ad 127)), (2, ii x1), (3, ii y2)] [] M1 from key2 31 0 M hI hW hF (by omega) (by omega) (by omega)
  intro n2
  induction n2 with
  | zero => intro y2 M1 hI hW hF ay2 by2 hn2; exfalso; omega
  | succ n2 ih2 =>
    intro y2 M1 hI hW hF ay2 by2 hn2
    refine z_iload_n F dX11_carryOut_2 rfl (q := 3) rfl ?_
    refine z_aload_n F dX11_carryOut_3 rfl (q := 1) rfl ?_
    refine gf_X11_266 F hI gs_127 rfl bd_127_0 dX11_carryOut_4 (fun v3 ev3 av3 bv3 => ?_)
    refine z_icmp_ge (tgt := 80) F dX11_carryOut_7 (by decide +kernel) (by omega) (by omega) (fun c4 => ?_) (fun c4 => ?_)
    · refine z_aload_n F dX11_carryOut_80 rfl (q := 1) rfl ?_
      refine gf_X11_266 F hI gs_127 rfl bd_127_0 dX11_carryOut_81 (fun v5 ev5 av5 bv5 => ?_)
      have zv5 : v3 = v5 := ev3.trans ev5.symm
      subst zv5
      exact hret _ _ 84 _ (by omega) ⟨hI, hW⟩ ⟨⟨by omega, by omega⟩, hF⟩ dX11_carryOut_84
    · refine z_aload_n F dX11_carryOut_10 rfl (q := 1) rfl ?_
      refine z_iload_n F dX11_carryOut_11 rfl (q := 3) rfl ?_
      refine zv_l (rest := []) F (k_X10_numberAt_127 l M1 ⟨hI, hW⟩ y2 (by omega) (by omega)) cs_X11_267 (T := TX10) (N := 3) (ci := 10) rfl gs_127 (by decide) (by decide) rfl rfl rfl (Nat.le_of_ble_eq_true rfl) dX11_carryOut_12 (fun v6 M7 rv6 hI p8 => ?_)
      obtain ⟨hI, hW⟩ := hI
      obtain ⟨⟨av6, bv6⟩, rfl⟩ := p8
      refine z_lstore F dX11_carryOut_15 (by decide) (ls' := [(4, ll v6), (0, .ref (ad 0)), (1, .ref (ad 127)), (2, ii x1), (3, ii y2)]) rfl ?_
      refine z_aload_n F dX11_carryOut_17 rfl (q := 1) rfl ?_
      refine rf_X11_34 F gs_0 rfl dX11_carryOut_18 ?_
      refine z_lload F dX11_carryOut_21 (q := 0) rfl ?_
      refine zv_i (rest := []) F (k_X7_obstacleOf_35 l M1 ⟨hI, hW⟩ v6 (by omega) (by omega)) cs_X11_271 (T := TX7) (N := 7) (ci := 7) rfl gs_35 (by decide) (by decide) rfl rfl rfl (Nat.le_of_ble_eq_true rfl) dX11_carryOut_23 (fun v9 M10 rv9 hI p11 => ?_)
      obtain ⟨hI, hW⟩ := hI
      obtain ⟨⟨av9, bv9⟩, rfl, xp11⟩ := p11
      refine z_if_eq (tgt := 31) F dX11_carryOut_26 (by decide +kernel) (by omega) (fun c12 => ?_) (fun c12 => ?_)
      · refine z_iload_n F dX11_carryOut_31 rfl (q := 3) rfl ?_
        refine z_if_eq (tgt := 46) F dX11_carryOut_32 (by decide +kernel) (by omega) (fun c13 => ?_) (fun c13 => ?_)
        · refine z_lload F dX11_carryOut_46 (q := 0) rfl ?_
          refine z_ldc2 (x := (-1)) F dX11_carryOut_48 (gin lm_549 rfl) (by decide +kernel) ?_
          refine z_lcmp F dX11_carryOut_51 (by omega) (by omega) (fun v14 ev14 => ?_)
          refine z_if_ne (tgt := 65) F dX11_carryOut_52 (by decide +kernel) (by omega) (fun c15 => ?_) (fun c15 => ?_)
          · refine z_aload_n F dX11_carryOut_65 rfl (q := 1) rfl ?_
            refine rf_X11_34 F gs_0 rfl dX11_carryOut_66 ?_
            refine z_lload F dX11_carryOut_69 (q := 0) rfl ?_
            refine zv_v (rest := []) F (k_X7_obey_35 l M1 ⟨hI, hW⟩ v6 (by omega) (by omega) (by omega)) cs_X11_280 (T := TX7) (N := 7) (ci := 7) rfl gs_35 (by decide) (by decide) rfl rfl rfl (Nat.le_of_ble_eq_true rfl) dX11_carryOut_71 (fun M16 hI p17 => ?_)
            obtain ⟨hI, hW⟩ := hI
            have fp17 := p17
            have hF := hF.call fp17 (by decide)
            refine z_iincN F dX11_carryOut_74 (q := 4) rfl (by decide) (fun v18 ev18 => ?_)
            refine z_eq (ls' := [(3, ii v18), (4, ll v6), (0, .ref (ad 0)), (1, .ref (ad 127)), (2, ii x1)]) rfl rfl rfl ?_
            refine z_goto (tgt := 2) F dX11_carryOut_77 (by decide +kernel) ?_
            refine z_loc [2, 3, 4, 0] (ls' := [(0, .ref (ad 0)), (1, .ref (ad 127)), (2, ii x1), (3, ii v18)]) rfl ?_
            exact ih2 v18 M16 hI hW hF (by omega) (by omega) (by omega)
          · refine z_aload_n F dX11_carryOut_55 rfl (q := 1) rfl ?_
            refine rf_X11_34 F gs_0 rfl dX11_carryOut_56 ?_
            refine zv_v (rest := []) F (k_X7_passDay_35 l M1 ⟨hI, hW⟩) cs_X11_236 (T := TX7) (N := 7) (ci := 7) rfl gs_35 (by decide) (by decide) rfl rfl rfl (Nat.le_of_ble_eq_true rfl) dX11_carryOut_59 (fun M19 hI p20 => ?_)
            obtain ⟨hI, hW⟩ := hI
            have fp20 := p20
            have hF := hF.call fp20 (by decide)
            refine z_goto (tgt := 74) F dX11_carryOut_62 (by decide +kernel) ?_
            refine z_iincN F dX11_carryOut_74 (q := 4) rfl (by decide) (fun v21 ev21 => ?_)
            refine z_eq (ls' := [(3, ii v21), (4, ll v6), (0, .ref (ad 0)), (1, .ref (ad 127)), (2, ii x1)]) rfl rfl rfl ?_
            refine z_goto (tgt := 2) F dX11_carryOut_77 (by decide +kernel) ?_
            refine z_loc [2, 3, 4, 0] (ls' := [(0, .ref (ad 0)), (1, .ref (ad 127)), (2, ii x1), (3, ii v21)]) rfl ?_
            exact ih2 v21 M19 hI hW hF (by omega) (by omega) (by omega)
        · refine z_aload_n F dX11_carryOut_35 rfl (q := 1) rfl ?_
          refine rf_X11_41 F gs_0 rfl dX11_carryOut_36 ?_
          refine z_aload_n F dX11_carryOut_39 rfl (q := 1) rfl ?_
          refine rf_X11_34 F gs_0 rfl dX11_carryOut_40 ?_
          refine zv_v (rest := []) F (k_X4_keep_40_35 l M1 ⟨hI, hW⟩) cs_X11_217 (T := TX4) (N := 3) (ci := 4) rfl gs_40 (by decide) (by decide) rfl rfl rfl (Nat.le_of_ble_eq_true rfl) dX11_carryOut_43 (fun M22 hI p23 => ?_)
          obtain ⟨hI, hW⟩ := hI
          have fp23 := p23
          have hF := hF.call fp23 (by decide)
          refine z_lload F dX11_carryOut_46 (q := 0) rfl ?_
          refine z_ldc2 (x := (-1)) F dX11_carryOut_48 (gin lm_549 rfl) (by decide +kernel) ?_
          refine z_lcmp F dX11_carryOut_51 (by omega) (by omega) (fun v24 ev24 => ?_)
          refine z_if_ne (tgt := 65) F dX11_carryOut_52 (by decide +kernel) (by omega) (fun c25 => ?_) (fun c25 => ?_)
          · refine z_aload_n F dX11_carryOut_65 rfl (q := 1) rfl ?_
            refine rf_X11_34 F gs_0 rfl dX11_carryOut_66 ?_
            refine z_lload F dX11_carryOut_69 (q := 0) rfl ?_
            refine zv_v (rest := []) F (k_X7_obey_35 l M22 ⟨hI, hW⟩ v6 (by omega) (by omega) (by omega)) cs_X11_280 (T := TX7) (N := 7) (ci := 7) rfl gs_35 (by decide) (by decide) rfl rfl rfl (Nat.le_of_ble_eq_true rfl) dX11_carryOut_71 (fun M26 hI p27 => ?_)
            obtain ⟨hI, hW⟩ := hI
            have fp27 := p27
            have hF := hF.call fp27 (by decide)
            refine z_iincN F dX11_carryOut_74 (q := 4) rfl (by decide) (fun v28 ev28 => ?_)
            refine z_eq (ls' := [(3, ii v28), (4, ll v6), (0, .ref (ad 0)), (1, .ref (ad 127)), (2, ii x1)]) rfl rfl rfl ?_
            refine z_goto (tgt := 2) F dX11_carryOut_77 (by decide +kernel) ?_
            refine z_loc [2, 3, 4, 0] (ls' := [(0, .ref (ad 0)), (1, .ref (ad 127)), (2, ii x1), (3, ii v28)]) rfl ?_
            exact ih2 v28 M26 hI hW hF (by omega) (by omega) (by omega)
          · refine z_aload_n F dX11_carryOut_55 rfl (q := 1) rfl ?_
            refine rf_X11_34 F gs_0 rfl dX11_carryOut_56 ?_
            refine zv_v (rest := []) F (k_X7_passDay_35 l M22 ⟨hI, hW⟩) cs_X11_236 (T := TX7) (N := 7) (ci := 7) rfl gs_35 (by decide) (by decide) rfl rfl rfl (Nat.le_of_ble_eq_true rfl) dX11_carryOut_59 (fun M29 hI p30 => ?_)
            obtain ⟨hI, hW⟩ := hI
            have fp30 := p30
            have hF := hF.call fp30 (by decide)
            refine z_goto (tgt := 74) F dX11_carryOut_62 (by decide +kernel) ?_
            refine z_iincN F dX11_carryOut_74 (q := 4) rfl (by decide) (fun v31 ev31 => ?_)
            refine z_eq (ls' := [(3, ii v31), (4, ll v6), (0, .ref (ad 0)), (1, .ref (ad 127)), (2, ii x1)]) rfl rfl rfl ?_
            refine z_goto (tgt := 2) F dX11_carryOut_77 (by decide +kernel) ?_
            refine z_loc [2, 3, 4, 0] (ls' := [(0, .ref (ad 0)), (1, .ref (ad 127)), (2, ii x1), (3, ii v31)]) rfl ?_
            exact ih2 v31 M29 hI hW hF (by omega) (by omega) (by omega)
      · refine z_iload_n F dX11_carryOut_29 rfl (q := 4) rfl ?_
        exact hret _ _ 30 _ (by omega) ⟨hI, hW⟩ ⟨⟨by omega, by omega⟩, hF⟩ dX11_carryOut_30
set_option maxRecDepth 4000 in
theorem k_X11_filledTray_t3 (l : Launch) (hlT : l.stackTraces = false) (M : Mem) (hJ : Iw M) (x0 : Int) (hx0a : 3 ≤ x0) (hx0b : x0 ≤ 3) : CRX l yX11_filledTray cX11_filledTray 3 (some (.object "OddTouch$Tray")) 2 2 (fun ad => [.ref (ad 0), ii x0]) M 129 (fun M' => M = M') (fun E M' => (E = "java/lang/IllegalStateException" ∧ True ∧ M = M') ∨ (E = "java/util/NoSuchElementException" ∧ True ∧ M = M')) := by
  obtain ⟨hI, hW⟩ := hJ
  refine enx_r (by decide +kernel) (fun ad => by exact Nat.le_of_ble_eq_true rfl) (fun D cy ad A p e s m args below meth c Q F hQ hr hlk hex => ?_)
  refine z_eq (ls' := [(0, .ref (ad 0)), (1, ii x0)]) rfl rfl rfl ?_
  refine z_aload_n F dX11_filledTray_0 rfl (q := 0) rfl ?_
  refine z_iload_n F dX11_filledTray_1 rfl (q := 1) rfl ?_
  refine zy_v (rest := []) F (k_X11_needTray l hlT M ⟨hI, hW⟩ x0 (by omega) (by omega)) cs_X11_446 (T := TX11) (N := 14) (ci := 11) rfl gs_0 (by decide) (by decide) ⟨by decide, by decide⟩ rfl rfl rfl (Nat.le_of_ble_eq_true rfl) dX11_filledTray_2 (fun E M9 hJ9 hx => by obtain ⟨h9, g9, rfl⟩ := hx <;> first | (exact zx_out hQ hlk hex ⟨by decide, by decide⟩ hJ9 (Or.inr (⟨h9, trivial, rfl⟩)))) (fun M1 hI p2 => ?_)
  obtain ⟨hI, hW⟩ := hI
  obtain ⟨rfl, xp2⟩ := p2
  refine z_aload_n F dX11_filledTray_5 rfl (q := 0) rfl ?_
  refine rf_X11_57 F gs_0 rfl dX11_filledTray_6 ?_
  refine z_iload_n F dX11_filledTray_9 rfl (q := 1) rfl ?_
  rcases (show x0 = 3 by omega) with cq
  · refine z_aald (r := 129) F gs_44 rfl (by omega) (by show x0 < ((4 : Nat) : Int); omega) (by decide) (by rw [cq]; rfl) dX11_filledTray_10 ?_
    refine z_astore_n F dX11_filledTray_11 rfl (by decide) (ls' := [(2, .ref (ad 129)), (0, .ref (ad 0)), (1, ii x0)]) rfl ?_
    refine z_aload_n F dX11_filledTray_12 rfl (q := 0) rfl ?_
    refine gf_X11_266 F hI gs_129 rfl bd_129_0 dX11_filledTray_13 (fun v3 ev3 av3 bv3 => ?_)
    refine z_iconst F dX11_filledTray_16 ?_
    refine z_icmp_ne (tgt := 31) F dX11_filledTray_17 (by decide +kernel) (by omega) (by omega) (fun c4 => ?_) (fun c4 => ?_)
    · refine z_aload_n F dX11_filledTray_31 rfl (q := 0) rfl ?_
      exact zxr_r F hQ hr (Or.inl ⟨_, rfl⟩) hlk dX11_filledTray_32 ⟨by decide, by decide⟩ ⟨hI, hW⟩ rfl
    · exact z_thrSW (cls := "java/lang/IllegalStateException") (names := ["java/lang/RuntimeException", "java/lang/Exception"]) (j := 38) F hlT hQ hlk hex (by decide +kernel) (by decide +kernel) (by decide) (gin lm_530 rfl) (gin lm_531 rfl) at_X11_293 bad_X11_293 (by decide +kernel) ot_X11_293 rfl rfl rfl dX11_filledTray_20 dX11_filledTray_23 dX11_filledTray_24 dX11_filledTray_27 dX11_filledTray_30 ⟨by decide, by decide⟩ (Nat.le_of_ble_eq_true rfl) ⟨hI, hW⟩ (Or.inl ⟨rfl, trivial, rfl⟩)
set_option maxRecDepth 4000 in
theorem k_X10_numberAt_129 (l : Launch) (M : Mem) (hJ : Iw M) (x0 : Int) (hx0a : (-2147483648) ≤ x0) (hx0b : x0 ≤ 2147483647) : CL l yX10_numberAt cX10_numberAt 2 (some .long) 1 (fun ad => [.ref (ad 129), ii x0]) M (fun z M' => ((-9223372036854775808) ≤ z ∧ z ≤ 9223372036854775807) ∧ M = M') := by
  obtain ⟨hI, hW⟩ := hJ
  refine en_l (by decide +kernel) (fun ad => by exact Nat.le_of_ble_eq_true rfl) (fun D cy ad A p e s m args below meth c Q F hret => ?_)
  refine z_eq (ls' := [(0, .ref (ad 129)), (1, ii x0)]) rfl rfl rfl ?_
  refine z_iload_n F dX10_numberAt_0 rfl (q := 1) rfl ?_
  refine z_if_lt (tgt := 21) F dX10_numberAt_1 (by decide +kernel) (by omega) (fun c1 => ?_) (fun c1 => ?_)
  · refine z_lconst (x := 0) F dX10_numberAt_21 (by decide +kernel) ?_
    exact hret _ _ 22 _ (by omega) ⟨hI, hW⟩ ⟨⟨by omega, by omega⟩, rfl⟩ dX10_numberAt_22
  · refine z_iload_n F dX10_numberAt_4 rfl (q := 1) rfl ?_
    refine z_aload_n F dX10_numberAt_5 rfl (q := 0) rfl ?_
    refine gf_X10_9 F hI gs_129 rfl bd_129_0 dX10_numberAt_6 (fun v2 ev2 av2 bv2 => ?_)
    refine z_icmp_ge (tgt := 21) F dX10_numberAt_9 (by decide +kernel) (by omega) (by omega) (fun c3 => ?_) (fun c3 => ?_)
    · refine z_lconst (x := 0) F dX10_numberAt_21 (by decide +kernel) ?_
      exact hret _ _ 22 _ (by omega) ⟨hI, hW⟩ ⟨⟨by omega, by omega⟩, rfl⟩ dX10_numberAt_22
    · refine z_aload_n F dX10_numberAt_12 rfl (q := 0) rfl ?_
      refine rf_X10_15 F gs_129 rfl dX10_numberAt_13 ?_
      refine z_iload_n F dX10_numberAt_16 rfl (q := 1) rfl ?_
      refine z_lald F hI gs_130 (by omega) (by omega) (by decide) bd_130 dX10_numberAt_17 (fun v4 (ev4 : v4 = M 130 _) av4 bv4 => ?_)
      refine z_goto (tgt := 22) F dX10_numberAt_18 (by decide +kernel) ?_
      exact hret _ _ 22 _ (by omega) ⟨hI, hW⟩ ⟨⟨by omega, by omega⟩, rfl⟩ dX10_numberAt_22
set_option maxRecDepth 4000 in
theorem k_X11_carryOut_0_129 (l : Launch) (M : Mem) (hJ : Iw M) (x1 : Int) (hx1a : 0 ≤ x1) (hx1b : x1 ≤ 1) : CI l yX11_carryOut cX11_carryOut 6 (some .int) 7 (fun ad => [.ref (ad 0), .ref (ad 129), ii x1]) M (fun z M' => ((-1) ≤ z ∧ z ≤ 30) ∧ Fr [16, 17, 35, 36, 37, 38, 39, 40, 41] M M') := by
  obtain ⟨hI, hW⟩ := hJ
  have hF : Fr [16, 17, 35, 36, 37, 38, 39, 40, 41] M M := Fr.rf
  refine en_i (by decide +kernel) (fun ad => by exact Nat.le_of_ble_eq_true rfl) (fun D cy ad A p e s m args below meth c Q F hret => ?_)
  refine z_eq (ls' := [(0, .ref (ad 0)), (1, .ref (ad 129)), (2, ii x1)]) rfl rfl rfl ?_
  refine z_iconst F dX11_carryOut_0 ?_
  refine z_istore_n F dX11_carryOut_1 rfl (by decide) (ls' := [(3, ii 0), (0, .ref (ad 0)), (1, .ref (ad 129)), (2, ii x1)]) rfl ?_
  refine z_loc [1, 2, 3, 0] (ls' := [(0, .ref (ad 0)), (1, .ref (ad 129)), (2, ii x1), (3, ii 0)]) rfl ?_
  suffices key2 : ∀ (n : Nat) (y2 : Int) (M1 : Mem), Inv M1 → WFk M1 → Fr [16, 17, 35, 36, 37, 38, 39, 40, 41] M M1 → 0 ≤ y2 → y2 ≤ 30 → 30 - y2 < (n : Int) → Z D cy ad p l e (RMh 7) s m args below meth c A 6 0 0 Q 2 [(0, .ref (ad 0)), (1, .ref (ad 129)), (2, ii x1), (3, ii y2)] [] M1 from key2 31 0 M hI hW hF (by omega) (by omega) (by omega)
  intro n2
  induction n2 with
  | zero => intro y2 M1 hI hW hF ay2 by2 hn2; exfalso; omega
  | succ n2 ih2 =>
    intro y2 M1 hI hW hF ay2 by2 hn2
    refine z_iload_n F dX11_carryOut_2 rfl (q := 3) rfl ?_
    refine z_aload_n F dX11_carryOut_3 rfl (q := 1) rfl ?_
    refine gf_X11_266 F hI gs_129 rfl bd_129_0 dX11_carryOut_4 (fun v3 ev3 av3 bv3 => ?_)
    refine z_icmp_ge (tgt := 80) F dX11_carryOut_7 (by decide +kernel) (by omega) (by omega) (fun c4 => ?_) (fun c4 => ?_)
    · refine z_aload_n F dX11_carryOut_80 rfl (q := 1) rfl ?_
      refine gf_X11_266 F hI gs_129 rfl bd_129_0 dX11_carryOut_81 (fun v5 ev5 av5 bv5 => ?_)
      have zv5 : v3 = v5 := ev3.trans ev5.symm
      subst zv5
      exact hret _ _ 84 _ (by omega) ⟨hI, hW⟩ ⟨⟨by omega, by omega⟩, hF⟩ dX11_carryOut_84
    · refine z_aload_n F dX11_carryOut_10 rfl (q := 1) rfl ?_
      refine z_iload_n F dX11_carryOut_11 rfl (q := 3) rfl ?_
      refine zv_l (rest := []) F (k_X10_numberAt_129 l M1 ⟨hI, hW⟩ y2 (by omega) (by omega)) cs_X11_267 (T := TX10) (N := 3) (ci := 10) rfl gs_129 (by decide) (by decide) rfl rfl rfl (Nat.le_of_ble_eq_true rfl) dX11_carryOut_12 (fun v6 M7 rv6 hI p8 => ?_)
      obtain ⟨hI, hW⟩ := hI
      obtain ⟨⟨av6, bv6⟩, rfl⟩ := p8
      refine z_lstore F dX11_carryOut_15 (by decide) (ls' := [(4, ll v6), (0, .ref (ad 0)), (1, .ref (ad 129)), (2, ii x1), (3, ii y2)]) rfl ?_
      refine z_aload_n F dX11_carryOut_17 rfl (q := 1) rfl ?_
      refine rf_X11_34 F gs_0 rfl dX11_carryOut_18 ?_
      refine z_lload F dX11_carryOut_21 (q := 0) rfl ?_
      refine zv_i (rest := []) F (k_X7_obstacleOf_35 l M1 ⟨hI, hW⟩ v6 (by omega) (by omega)) cs_X11_271 (T := TX7) (N := 7) (ci := 7) rfl gs_35 (by decide) (by decide) rfl rfl rfl (Nat.le_of_ble_eq_true rfl) dX11_carryOut_23 (fun v9 M10 rv9 hI p11 => ?_)
      obtain ⟨hI, hW⟩ := hI
      obtain ⟨⟨av9, bv9⟩, rfl, xp11⟩ := p11
      refine z_if_eq (tgt := 31) F dX11_carryOut_26 (by decide +kernel) (by omega) (fun c12 => ?_) (fun c12 => ?_)
      · refine z_iload_n F dX11_carryOut_31 rfl (q := 3) rfl ?_
        refine z_if_eq (tgt := 46) F dX11_carryOut_32 (by decide +kernel) (by omega) (fun c13 => ?_) (fun c13 => ?_)
        · refine z_lload F dX11_carryOut_46 (q := 0) rfl ?_
          refine z_ldc2 (x := (-1)) F dX11_carryOut_48 (gin lm_549 rfl) (by decide +kernel) ?_
          refine z_lcmp F dX11_carryOut_51 (by omega) (by omega) (fun v14 ev14 => ?_)
          refine z_if_ne (tgt := 65) F dX11_carryOut_52 (by decide +kernel) (by omega) (fun c15 => ?_) (fun c15 => ?_)
          · refine z_aload_n F dX11_carryOut_65 rfl (q := 1) rfl ?_
            refine rf_X11_34 F gs_0 rfl dX11_carryOut_66 ?_
            refine z_lload F dX11_carryOut_69 (q := 0) rfl ?_
            refine zv_v (rest := []) F (k_X7_obey_35 l M1 ⟨hI, hW⟩ v6 (by omega) (by omega) (by omega)) cs_X11_280 (T := TX7) (N := 7) (ci := 7) rfl gs_35 (by decide) (by decide) rfl rfl rfl (Nat.le_of_ble_eq_true rfl) dX11_carryOut_71 (fun M16 hI p17 => ?_)
            obtain ⟨hI, hW⟩ := hI
            have fp17 := p17
            have hF := hF.call fp17 (by decide)
            refine z_iincN F dX11_carryOut_74 (q := 4) rfl (by decide) (fun v18 ev18 => ?_)
            refine z_eq (ls' := [(3, ii v18), (4, ll v6), (0, .ref (ad 0)), (1, .ref (ad 129)), (2, ii x1)]) rfl rfl rfl ?_
            refine z_goto (tgt := 2) F dX11_carryOut_77 (by decide +kernel) ?_
            refine z_loc [2, 3, 4, 0] (ls' := [(0, .ref (ad 0)), (1, .ref (ad 129)), (2, ii x1), (3, ii v18)]) rfl ?_
            exact ih2 v18 M16 hI hW hF (by omega) (by omega) (by omega)
          · refine z_aload_n F dX11_carryOut_55 rfl (q := 1) rfl ?_
            refine rf_X11_34 F gs_0 rfl dX11_carryOut_56 ?_
            refine zv_v (rest := []) F (k_X7_passDay_35 l M1 ⟨hI, hW⟩) cs_X11_236 (T := TX7) (N := 7) (ci := 7) rfl gs_35 (by decide) (by decide) rfl rfl rfl (Nat.le_of_ble_eq_true rfl) dX11_carryOut_59 (fun M19 hI p20 => ?_)
            obtain ⟨hI, hW⟩ := hI
            have fp20 := p20
            have hF := hF.call fp20 (by decide)
            refine z_goto (tgt := 74) F dX11_carryOut_62 (by decide +kernel) ?_
            refine z_iincN F dX11_carryOut_74 (q := 4) rfl (by decide) (fun v21 ev21 => ?_)
            refine z_eq (ls' := [(3, ii v21), (4, ll v6), (0, .ref (ad 0)), (1, .ref (ad 129)), (2, ii x1)]) rfl rfl rfl ?_
            refine z_goto (tgt := 2) F dX11_carryOut_77 (by decide +kernel) ?_
            refine z_loc [2, 3, 4, 0] (ls' := [(0, .ref (ad 0)), (1, .ref (ad 129)), (2, ii x1), (3, ii v21)]) rfl ?_
            exact ih2 v21 M19 hI hW hF (by omega) (by omega) (by omega)
        · refine z_aload_n F dX11_carryOut_35 rfl (q := 1) rfl ?_
          refine rf_X11_41 F gs_0 rfl dX11_carryOut_36 ?_
          refine z_aload_n F dX11_carryOut_39 rfl (q := 1) rfl ?_
          refine rf_X11_34 F gs_0 rfl dX11_carryOut_40 ?_
          refine zv_v (rest := []) F (k_X4_keep_40_35 l M1 ⟨hI, hW⟩) cs_X11_217 (T := TX4) (N := 3) (ci := 4) rfl gs_40 (by decide) (by decide) rfl rfl rfl (Nat.le_of_ble_eq_true rfl) dX11_carryOut_43 (fun M22 hI p23 => ?_)
          obtain ⟨hI, hW⟩ := hI
          have fp23 := p23
          have hF := hF.call fp23 (by decide)
          refine z_lload F dX11_carryOut_46 (q := 0) rfl ?_
          refine z_ldc2 (x := (-1)) F dX11_carryOut_48 (gin lm_549 rfl) (by decide +kernel) ?_
          refine z_lcmp F dX11_carryOut_51 (by omega) (by omega) (fun v24 ev24 => ?_)
          refine z_if_ne (tgt := 65) F dX11_carryOut_52 (by decide +kernel) (by omega) (fun c25 => ?_) (fun c25 => ?_)
          · refine z_aload_n F dX11_carryOut_65 rfl (q := 1) rfl ?_
            refine rf_X11_34 F gs_0 rfl dX11_carryOut_66 ?_
            refine z_lload F dX11_carryOut_69 (q := 0) rfl ?_
            refine zv_v (rest := []) F (k_X7_obey_35 l M22 ⟨hI, hW⟩ v6 (by omega) (by omega) (by omega)) cs_X11_280 (T := TX7) (N := 7) (ci := 7) rfl gs_35 (by decide) (by decide) rfl rfl rfl (Nat.le_of_ble_eq_true rfl) dX11_carryOut_71 (fun M26 hI p27 => ?_)
            obtain ⟨hI, hW⟩ := hI
            have fp27 := p27
            have hF := hF.call fp27 (by decide)
            refine z_iincN F dX11_carryOut_74 (q := 4) rfl (by decide) (fun v28 ev28 => ?_)
            refine z_eq (ls' := [(3, ii v28), (4, ll v6), (0, .ref (ad 0)), (1, .ref (ad 129)), (2, ii x1)]) rfl rfl rfl ?_
            refine z_goto (tgt := 2) F dX11_carryOut_77 (by decide +kernel) ?_
            refine z_loc [2, 3, 4, 0] (ls' := [(0, .ref (ad 0)), (1, .ref (ad 129)), (2, ii x1), (3, ii v28)]) rfl ?_
            exact ih2 v28 M26 hI hW hF (by omega) (by omega) (by omega)
          · refine z_aload_n F dX11_carryOut_55 rfl (q := 1) rfl ?_
            refine rf_X11_34 F gs_0 rfl dX11_carryOut_56 ?_
            refine zv_v (rest := []) F (k_X7_passDay_35 l M22 ⟨hI, hW⟩) cs_X11_236 (T := TX7) (N := 7) (ci := 7) rfl gs_35 (by decide) (by decide) rfl rfl rfl (Nat.le_of_ble_eq_true rfl) dX11_carryOut_59 (fun M29 hI p30 => ?_)
            obtain ⟨hI, hW⟩ := hI
            have fp30 := p30
            have hF := hF.call fp30 (by decide)
            refine z_goto (tgt := 74) F dX11_carryOut_62 (by decide +kernel) ?_
            refine z_iincN F dX11_carryOut_74 (q := 4) rfl (by decide) (fun v31 ev31 => ?_)
            refine z_eq (ls' := [(3, ii v31), (4, ll v6), (0, .ref (ad 0)), (1, .ref (ad 129)), (2, ii x1)]) rfl rfl rfl ?_
            refine z_goto (tgt := 2) F dX11_carryOut_77 (by decide +kernel) ?_
            refine z_loc [2, 3, 4, 0] (ls' := [(0, .ref (ad 0)), (1, .ref (ad 129)), (2, ii x1), (3, ii v31)]) rfl ?_
            exact ih2 v31 M29 hI hW hF (by omega) (by omega) (by omega)
      · refine z_iload_n F dX11_carryOut_29 rfl (q := 4) rfl ?_
        exact hret _ _ 30 _ (by omega) ⟨hI, hW⟩ ⟨⟨by omega, by omega⟩, hF⟩ dX11_carryOut_30
set_option maxRecDepth 4000 in
theorem k_X11_filledTray_to (l : Launch) (hlT : l.stackTraces = false) (M : Mem) (hJ : Iw M) (x0 : Int) (hx0a : (-2147483648) ≤ x0) (hx0b : x0 ≤ 2147483647) (hp0 : x0 < 0 ∨ 3 < x0) : CRX l yX11_filledTray cX11_filledTray 3 (some (.object "OddTouch$Tray")) 2 1 (fun ad => [.ref (ad 0), ii x0]) M 0 (fun M' => M = M' ∧ (False)) (fun E M' => (E = "java/util/NoSuchElementException" ∧ True ∧ M = M')) := by
  obtain ⟨hI, hW⟩ := hJ
  refine enx_r (by decide +kernel) (fun ad => by exact Nat.le_of_ble_eq_true rfl) (fun D cy ad A p e s m args below meth c Q F hQ hr hlk hex => ?_)
  refine z_eq (ls' := [(0, .ref (ad 0)), (1, ii x0)]) rfl rfl rfl ?_
  refine z_aload_n F dX11_filledTray_0 rfl (q := 0) rfl ?_
  refine z_iload_n F dX11_filledTray_1 rfl (q := 1) rfl ?_
  refine zy_v (rest := []) F (k_X11_needTray l hlT M ⟨hI, hW⟩ x0 (by omega) (by omega)) cs_X11_446 (T := TX11) (N := 14) (ci := 11) rfl gs_0 (by decide) (by decide) ⟨by decide, by decide⟩ rfl rfl rfl (Nat.le_of_ble_eq_true rfl) dX11_filledTray_2 (fun E M9 hJ9 hx => by obtain ⟨h9, g9, rfl⟩ := hx <;> first | (exact zx_out hQ hlk hex ⟨by decide, by decide⟩ hJ9 (⟨h9, trivial, rfl⟩))) (fun M1 hI p2 => ?_)
  obtain ⟨hI, hW⟩ := hI
  obtain ⟨rfl, xp2⟩ := p2
  exfalso
  omega
set_option maxRecDepth 4000 in
theorem k_X11_judge (l : Launch) (hlT : l.stackTraces = false) (M : Mem) (hJ : Iw M) (x0 : Int) (hx0a : (-2147483648) ≤ x0) (hx0b : x0 ≤ 2147483647) (x1 : Int) (hx1a : (-2147483648) ≤ x1) (hx1b : x1 ≤ 2147483647) : CIX l yX11_judge cX11_judge 8 (some .int) 8 3 (fun ad => [.ref (ad 0), ii x0, ii x1]) M (fun z M' => ((-2147483648) ≤ z ∧ z ≤ 2147483647) ∧ Fr [16, 17, 35, 36, 37, 38, 39, 40, 41, 42] M M') (fun E M' => (E = "java/lang/IllegalArgumentException" ∧ True ∧ Fr [16, 17, 35, 36, 37, 38, 39, 40, 41, 42] M M') ∨ (E = "java/lang/IllegalStateException" ∧ True ∧ Fr [16, 17, 35, 36, 37, 38, 39, 40, 41, 42] M M') ∨ (E = "java/util/NoSuchElementException" ∧ True ∧ Fr [16, 17, 35, 36, 37, 38, 39, 40, 41, 42] M M')) := by
  obtain ⟨hI, hW⟩ := hJ
  have hF : Fr [16, 17, 35, 36, 37, 38, 39, 40, 41, 42] M M := Fr.rf
  refine enx_i (by decide +kernel) (fun ad => by exact Nat.le_of_ble_eq_true rfl) (fun D cy ad A p e s m args below meth c Q F hQ hr hlk hex => ?_)
  refine z_eq (ls' := [(0, .ref (ad 0)), (1, ii x0), (2, ii x1)]) rfl rfl rfl ?_
  refine z_aload_n F dX11_judge_0 rfl (q := 0) rfl ?_
  refine z_iload_n F dX11_judge_1 rfl (q := 1) rfl ?_
  rcases (show x0 = 0 ∨ x0 = 1 ∨ x0 = 2 ∨ x0 = 3 ∨ (x0 < 0 ∨ 3 < x0) by omega) with c1 | c1 | c1 | c1 | c1
  · refine zy_r (rest := []) F (k_X11_filledTray_t0 l hlT M ⟨hI, hW⟩ x0 (by omega) (by omega)) cs_X11_248 (T := TX11) (N := 14) (ci := 11) rfl gs_0 (by decide) (by decide) ⟨by decide, by decide⟩ rfl rfl rfl (Nat.le_of_ble_eq_true rfl) dX11_judge_2 (fun E M9 hJ9 hx => by rcases hx with ⟨h9, g9, rfl⟩ | ⟨h9, g9, rfl⟩ <;> first | (exact zx_out hQ hlk hex ⟨by decide, by decide⟩ hJ9 (Or.inr (Or.inl ⟨h9, trivial, hF⟩))) | (exact zx_out hQ hlk hex ⟨by decide, by decide⟩ hJ9 (Or.inr (Or.inr (⟨h9, trivial, hF⟩))))) (fun M2 hI p3 => ?_)
    obtain ⟨hI, hW⟩ := hI
    obtain rfl := p3
    refine z_astore_n F dX11_judge_5 rfl (by decide) (ls' := [(3, .ref (ad 123)), (0, .ref (ad 0)), (1, ii x0), (2, ii x1)]) rfl ?_
    refine z_iload_n F dX11_judge_6 rfl (q := 3) rfl ?_
    refine z_iconst F dX11_judge_7 ?_
    refine zz_v (rest := []) F (k_X11_needWhat l hlT M ⟨hI, hW⟩ x1 (by omega) (by omega) 3 (by omega) (by omega)) cs_X11_252 (by decide) (by decide) ⟨by decide, by decide⟩ rfl rfl rfl (Nat.le_of_ble_eq_true rfl) dX11_judge_8 (fun E M9 hJ9 hx => by obtain ⟨h9, g9, rfl⟩ := hx <;> first | (exact zx_out hQ hlk hex ⟨by decide, by decide⟩ hJ9 (Or.inl ⟨h9, trivial, hF⟩))) (fun M4 hI p5 => ?_)
    obtain ⟨hI, hW⟩ := hI
    obtain ⟨rfl, xp5⟩ := p5
    refine z_aload_n F dX11_judge_11 rfl (q := 1) rfl ?_
    refine rf_X11_34 F gs_0 rfl dX11_judge_12 ?_
    refine gf_X11_255 F hI gs_35 rfl bd_35_5 dX11_judge_15 (fun v6 ev6 av6 bv6 => ?_)
    refine z_istore F dX11_judge_18 (by decide) (ls' := [(4, ii v6), (3, .ref (ad 123)), (0, .ref (ad 0)), (1, ii x0), (2, ii x1)]) rfl ?_
    refine z_aload_n F dX11_judge_20 rfl (q := 2) rfl ?_
    refine rf_X11_34 F gs_0 rfl dX11_judge_21 ?_
    refine z_aload_n F dX11_judge_24 rfl (q := 2) rfl ?_
    refine rf_X11_45 F gs_0 rfl dX11_judge_25 ?_
    refine z_iconst F dX11_judge_28 ?_
    refine zw_v (rest := []) F (k_X7_save_35_42 l M ⟨hI, hW⟩ 0 (by omega) (by omega) (by omega)) cs_X11_258 (T := TX7) (N := 7) (ci := 7) rfl gs_35 (by decide) (by decide) ⟨by decide, by decide⟩ rfl rfl rfl (Nat.le_of_ble_eq_true rfl) dX11_judge_29 (fun M7 hI p8 => ?_)
    obtain ⟨hI, hW⟩ := hI
    have fp8 := p8
    have hF := hF.call fp8 (by decide)
    refine z_aload_n F dX11_judge_32 rfl (q := 2) rfl ?_
    refine z_aload_n F dX11_judge_33 rfl (q := 1) rfl ?_
    refine z_iconst F dX11_judge_34 ?_
    refine zw_i (rest := []) F (k_X11_carryOut_0_123 l M7 ⟨hI, hW⟩ 0 (by omega) (by omega)) cs_X11_262 (T := TX11) (N := 14) (ci := 11) rfl gs_0 (by decide) (by decide) ⟨by decide, by decide⟩ rfl rfl rfl (Nat.le_of_ble_eq_true rfl) dX11_judge_35 (fun v9 M10 rv9 hI p11 => ?_)
    obtain ⟨hI, hW⟩ := hI
    obtain ⟨⟨av9, bv9⟩, fp11⟩ := p11
    have hF := hF.call fp11 (by decide)
    refine z_istore F dX11_judge_38 (by decide) (ls' := [(5, ii v9), (4, ii v6), (3, .ref (ad 123)), (0, .ref (ad 0)), (1, ii x0), (2, ii x1)]) rfl ?_
    refine z_iload F dX11_judge_40 (q := 0) rfl ?_
    refine z_aload_n F dX11_judge_42 rfl (q := 2) rfl ?_
    refine gf_X11_266 F hI gs_123 rfl bd_123_0 dX11_judge_43 (fun v12 ev12 av12 bv12 => ?_)
    refine z_icmp_ne (tgt := 53) F dX11_judge_46 (by decide +kernel) (by omega) (by omega) (fun c13 => ?_) (fun c13 => ?_)
    · refine z_iconst F dX11_judge_53 ?_
      refine z_istore F dX11_judge_54 (by decide) (ls' := [(6, ii 0), (5, ii v9), (4, ii v6), (3, .ref (ad 123)), (0, .ref (ad 0)), (1, ii x0), (2, ii x1)]) rfl ?_
      refine z_iload_n F dX11_judge_56 rfl (q := 6) rfl ?_
      rcases (show x1 = 0 ∨ x1 = 1 ∨ x1 = 2 ∨ (¬ x1 = 0 ∧ ¬ x1 = 1 ∧ ¬ x1 = 2) by omega) with c14 | c14 | c14 | c14
      · refine z_tabIn (tgt := 84) (off := 27) F dX11_judge_57 (by omega) (by omega) (by omega) (by rw [c14]; rfl) (by decide +kernel) ?_
        refine z_iload F dX11_judge_84 (q := 0) rfl ?_
        refine z_if_eq (tgt := 93) F dX11_judge_86 (by decide +kernel) (by omega) (fun c15 => ?_) (fun c15 => by exfalso; omega)
        refine z_iload F dX11_judge_93 (q := 1) rfl ?_
        refine z_istore F dX11_judge_95 (by decide) (ls' := [(7, ii v9), (6, ii 0), (5, ii v9), (4, ii v6), (3, .ref (ad 123)), (0, .ref (ad 0)), (1, ii x0), (2, ii x1)]) rfl ?_
        refine z_goto (tgt := 151) F dX11_judge_97 (by decide +kernel) ?_
        refine z_aload_n F dX11_judge_151 rfl (q := 5) rfl ?_
        refine rf_X11_34 F gs_0 rfl dX11_judge_152 ?_
        refine z_aload_n F dX11_judge_155 rfl (q := 5) rfl ?_
        refine rf_X11_45 F gs_0 rfl dX11_judge_156 ?_
        refine z_iconst F dX11_judge_159 ?_
        refine zw_v (rest := []) F (k_X7_load_35_42 l M10 ⟨hI, hW⟩ 0 (by omega) (by omega) (by omega)) cs_X11_275 (T := TX7) (N := 7) (ci := 7) rfl gs_35 (by decide) (by decide) ⟨by decide, by decide⟩ rfl rfl rfl (Nat.le_of_ble_eq_true rfl) dX11_judge_160 (fun M16 hI p17 => ?_)
        obtain ⟨hI, hW⟩ := hI
        have fp17 := p17
        have hF := hF.call fp17 (by decide)
        refine z_iload F dX11_judge_163 (q := 0) rfl ?_
        exact zxr_i F hQ hr hlk dX11_judge_165 ⟨by decide, by decide⟩ (by omega) ⟨hI, hW⟩ ⟨⟨by omega, by omega⟩, hF⟩
      · refine z_tabIn (tgt := 100) (off := 43) F dX11_judge_57 (by omega) (by omega) (by omega) (by rw [c14]; rfl) (by decide +kernel) ?_
        refine z_iload F dX11_judge_100 (q := 0) rfl ?_
        refine z_if_eq (tgt := 109) F dX11_judge_102 (by decide +kernel) (by omega) (fun c18 => ?_) (fun c18 => by exfalso; omega)
        refine z_aload_n F dX11_judge_109 rfl (q := 4) rfl ?_
        refine rf_X11_34 F gs_0 rfl dX11_judge_110 ?_
        refine z_aload_n F dX11_judge_113 rfl (q := 3) rfl ?_
        refine z_iload F dX11_judge_114 (q := 1) rfl ?_
        refine zw_l (rest := [.ref (ad 35)]) F (k_X10_numberAt_123 l M10 ⟨hI, hW⟩ v9 (by omega) (by omega)) cs_X11_267 (T := TX10) (N := 3) (ci := 10) rfl gs_123 (by decide) (by decide) ⟨by decide, by decide⟩ rfl rfl rfl (Nat.le_of_ble_eq_true rfl) dX11_judge_116 (fun v19 M20 rv19 hI p21 => ?_)
        obtain ⟨hI, hW⟩ := hI
        obtain ⟨⟨av19, bv19⟩, rfl⟩ := p21
        refine zw_i (rest := []) F (k_X7_obstacleOf_35 l M10 ⟨hI, hW⟩ v19 (by omega) (by omega)) cs_X11_271 (T := TX7) (N := 7) (ci := 7) rfl gs_35 (by decide) (by decide) ⟨by decide, by decide⟩ rfl rfl rfl (Nat.le_of_ble_eq_true rfl) dX11_judge_119 (fun v22 M23 rv22 hI p24 => ?_)
        obtain ⟨hI, hW⟩ := hI
        obtain ⟨⟨av22, bv22⟩, rfl, xp24⟩ := p24
        refine z_istore F dX11_judge_122 (by decide) (ls' := [(7, ii v22), (6, ii 0), (5, ii v9), (4, ii v6), (3, .ref (ad 123)), (0, .ref (ad 0)), (1, ii x0), (2, ii x1)]) rfl ?_
        refine z_goto (tgt := 151) F dX11_judge_124 (by decide +kernel) ?_
        refine z_aload_n F dX11_judge_151 rfl (q := 5) rfl ?_
        refine rf_X11_34 F gs_0 rfl dX11_judge_152 ?_
        refine z_aload_n F dX11_judge_155 rfl (q := 5) rfl ?_
        refine rf_X11_45 F gs_0 rfl dX11_judge_156 ?_
        refine z_iconst F dX11_judge_159 ?_
        refine zw_v (rest := []) F (k_X7_load_35_42 l M10 ⟨hI, hW⟩ 0 (by omega) (by omega) (by omega)) cs_X11_275 (T := TX7) (N := 7) (ci := 7) rfl gs_35 (by decide) (by decide) ⟨by decide, by decide⟩ rfl rfl rfl (Nat.le_of_ble_eq_true rfl) dX11_judge_160 (fun M25 hI p26 => ?_)
        obtain ⟨hI, hW⟩ := hI
        have fp26 := p26
        have hF := hF.call fp26 (by decide)
        refine z_iload F dX11_judge_163 (q := 0) rfl ?_
        exact zxr_i F hQ hr hlk dX11_judge_165 ⟨by decide, by decide⟩ (by omega) ⟨hI, hW⟩ ⟨⟨by omega, by omega⟩, hF⟩
      · refine z_tabIn (tgt := 127) (off := 70) F dX11_judge_57 (by omega) (by omega) (by omega) (by rw [c14]; rfl) (by decide +kernel) ?_
        refine z_aload_n F dX11_judge_127 rfl (q := 4) rfl ?_
        refine rf_X11_34 F gs_0 rfl dX11_judge_128 ?_
        refine gf_X11_255 F hI gs_35 rfl bd_35_5 dX11_judge_131 (fun v27 ev27 av27 bv27 => ?_)
        have q28 : v6 = M7 35 5 := ev6.trans ((fp8.at (by decide)) : M7 35 5 = _).symm
        refine z_iload F dX11_judge_134 (q := 2) rfl ?_
        refine z_isub F dX11_judge_136 ?_
        refine z_wrap (fun v29 rv29 wv29 => ?_)
        refine z_istore F dX11_judge_137 (by decide) (ls' := [(7, ii v29), (6, ii 0), (5, ii v9), (4, ii v6), (3, .ref (ad 123)), (0, .ref (ad 0)), (1, ii x0), (2, ii x1)]) rfl ?_
        refine z_goto (tgt := 151) F dX11_judge_139 (by decide +kernel) ?_
        refine z_aload_n F dX11_judge_151 rfl (q := 5) rfl ?_
        refine rf_X11_34 F gs_0 rfl dX11_judge_152 ?_
        refine z_aload_n F dX11_judge_155 rfl (q := 5) rfl ?_
        refine rf_X11_45 F gs_0 rfl dX11_judge_156 ?_
        refine z_iconst F dX11_judge_159 ?_
        refine zw_v (rest := []) F (k_X7_load_35_42 l M10 ⟨hI, hW⟩ 0 (by omega) (by omega) (by omega)) cs_X11_275 (T := TX7) (N := 7) (ci := 7) rfl gs_35 (by decide) (by decide) ⟨by decide, by decide⟩ rfl rfl rfl (Nat.le_of_ble_eq_true rfl) dX11_judge_160 (fun M30 hI p31 => ?_)
        obtain ⟨hI, hW⟩ := hI
        have fp31 := p31
        have hF := hF.call fp31 (by decide)
        refine z_iload F dX11_judge_163 (q := 0) rfl ?_
        exact zxr_i F hQ hr hlk dX11_judge_165 ⟨by decide, by decide⟩ (by omega) ⟨hI, hW⟩ ⟨⟨by omega, by omega⟩, hF⟩
      · refine z_tabOut (tgt := 142) F dX11_judge_57 (by omega) (by omega) (by decide +kernel) ?_
        refine z_aload_n F dX11_judge_142 rfl (q := 4) rfl ?_
        refine rf_X11_34 F gs_0 rfl dX11_judge_143 ?_
        refine zw_i (rest := []) F (k_X7_clashCount_35 l M10 ⟨hI, hW⟩) cs_X11_193 (T := TX7) (N := 7) (ci := 7) rfl gs_35 (by decide) (by decide) ⟨by decide, by decide⟩ rfl rfl rfl (Nat.le_of_ble_eq_true rfl) dX11_judge_146 (fun v32 M33 rv32 hI p34 => ?_)
        obtain ⟨hI, hW⟩ := hI
        obtain ⟨⟨av32, bv32⟩, rfl⟩ := p34
        refine z_istore F dX11_judge_149 (by decide) (ls' := [(7, ii v32), (6, ii 0), (5, ii v9), (4, ii v6), (3, .ref (ad 123)), (0, .ref (ad 0)), (1, ii x0), (2, ii x1)]) rfl ?_
        refine z_aload_n F dX11_judge_151 rfl (q := 5) rfl ?_
        refine rf_X11_34 F gs_0 rfl dX11_judge_152 ?_
        refine z_aload_n F dX11_judge_155 rfl (q := 5) rfl ?_
        refine rf_X11_45 F gs_0 rfl dX11_judge_156 ?_
        refine z_iconst F dX11_judge_159 ?_
        refine zw_v (rest := []) F (k_X7_load_35_42 l M10 ⟨hI, hW⟩ 0 (by omega) (by omega) (by omega)) cs_X11_275 (T := TX7) (N := 7) (ci := 7) rfl gs_35 (by decide) (by decide) ⟨by decide, by decide⟩ rfl rfl rfl (Nat.le_of_ble_eq_true rfl) dX11_judge_160 (fun M35 hI p36 => ?_)
        obtain ⟨hI, hW⟩ := hI
        have fp36 := p36
        have hF := hF.call fp36 (by decide)
        refine z_iload F dX11_judge_163 (q := 0) rfl ?_
        exact zxr_i F hQ hr hlk dX11_judge_165 ⟨by decide, by decide⟩ (by omega) ⟨hI, hW⟩ ⟨⟨by omega, by omega⟩, hF⟩
    · refine z_iconst F dX11_judge_49 ?_
      refine z_goto (tgt := 54) F dX11_judge_50 (by decide +kernel) ?_
      refine z_istore F dX11_judge_54 (by decide) (ls' := [(6, ii 1), (5, ii v9), (4, ii v6), (3, .ref (ad 123)), (0, .ref (ad 0)), (1, ii x0), (2, ii x1)]) rfl ?_
      refine z_iload_n F dX11_judge_56 rfl (q := 6) rfl ?_
      rcases (show x1 = 0 ∨ x1 = 1 ∨ x1 = 2 ∨ (¬ x1 = 0 ∧ ¬ x1 = 1 ∧ ¬ x1 = 2) by omega) with c37 | c37 | c37 | c37
      · refine z_tabIn (tgt := 84) (off := 27) F dX11_judge_57 (by omega) (by omega) (by omega) (by rw [c37]; rfl) (by decide +kernel) ?_
        refine z_iload F dX11_judge_84 (q := 0) rfl ?_
        refine z_if_eq (tgt := 93) F dX11_judge_86 (by decide +kernel) (by omega) (fun c38 => by exfalso; omega) (fun c38 => ?_)
        refine z_iconst F dX11_judge_89 ?_
        refine z_goto (tgt := 95) F dX11_judge_90 (by decide +kernel) ?_
        refine z_istore F dX11_judge_95 (by decide) (ls' := [(7, ii (-1)), (6, ii 1), (5, ii v9), (4, ii v6), (3, .ref (ad 123)), (0, .ref (ad 0)), (1, ii x0), (2, ii x1)]) rfl ?_
        refine z_goto (tgt := 151) F dX11_judge_97 (by decide +kernel) ?_
        refine z_aload_n F dX11_judge_151 rfl (q := 5) rfl ?_
        refine rf_X11_34 F gs_0 rfl dX11_judge_152 ?_
        refine z_aload_n F dX11_judge_155 rfl (q := 5) rfl ?_
        refine rf_X11_45 F gs_0 rfl dX11_judge_156 ?_
        refine z_iconst F dX11_judge_159 ?_
        refine zw_v (rest := []) F (k_X7_load_35_42 l M10 ⟨hI, hW⟩ 0 (by omega) (by omega) (by omega)) cs_X11_275 (T := TX7) (N := 7) (ci := 7) rfl gs_35 (by decide) (by decide) ⟨by decide, by decide⟩ rfl rfl rfl (Nat.le_of_ble_eq_true rfl) dX11_judge_160 (fun M39 hI p40 => ?_)
        obtain ⟨hI, hW⟩ := hI
        have fp40 := p40
        have hF := hF.call fp40 (by decide)
        refine z_iload F dX11_judge_163 (q := 0) rfl ?_
        exact zxr_i F hQ hr hlk dX11_judge_165 ⟨by decide, by decide⟩ (by omega) ⟨hI, hW⟩ ⟨⟨by omega, by omega⟩, hF⟩
      · refine z_tabIn (tgt := 100) (off := 43) F dX11_judge_57 (by omega) (by omega) (by omega) (by rw [c37]; rfl) (by decide +kernel) ?_
        refine z_iload F dX11_judge_100 (q := 0) rfl ?_
        refine z_if_eq (tgt := 109) F dX11_judge_102 (by decide +kernel) (by omega) (fun c41 => by exfalso; omega) (fun c41 => ?_)
        refine z_iconst F dX11_judge_105 ?_
        refine z_goto (tgt := 122) F dX11_judge_106 (by decide +kernel) ?_
        refine z_istore F dX11_judge_122 (by decide) (ls' := [(7, ii 0), (6, ii 1), (5, ii v9), (4, ii v6), (3, .ref (ad 123)), (0, .ref (ad 0)), (1, ii x0), (2, ii x1)]) rfl ?_
        refine z_goto (tgt := 151) F dX11_judge_124 (by decide +kernel) ?_
        refine z_aload_n F dX11_judge_151 rfl (q := 5) rfl ?_
        refine rf_X11_34 F gs_0 rfl dX11_judge_152 ?_
        refine z_aload_n F dX11_judge_155 rfl (q := 5) rfl ?_
        refine rf_X11_45 F gs_0 rfl dX11_judge_156 ?_
        refine z_iconst F dX11_judge_159 ?_
        refine zw_v (rest := []) F (k_X7_load_35_42 l M10 ⟨hI, hW⟩ 0 (by omega) (by omega) (by omega)) cs_X11_275 (T := TX7) (N := 7) (ci := 7) rfl gs_35 (by decide) (by decide) ⟨by decide, by decide⟩ rfl rfl rfl (Nat.le_of_ble_eq_true rfl) dX11_judge_160 (fun M42 hI p43 => ?_)
        obtain ⟨hI, hW⟩ := hI
        have fp43 := p43
        have hF := hF.call fp43 (by decide)
        refine z_iload F dX11_judge_163 (q := 0) rfl ?_
        exact zxr_i F hQ hr hlk dX11_judge_165 ⟨by decide, by decide⟩ (by omega) ⟨hI, hW⟩ ⟨⟨by omega, by omega⟩, hF⟩
      · refine z_tabIn (tgt := 127) (off := 70) F dX11_judge_57 (by omega) (by omega) (by omega) (by rw [c37]; rfl) (by decide +kernel) ?_
        refine z_aload_n F dX11_judge_127 rfl (q := 4) rfl ?_
        refine rf_X11_34 F gs_0 rfl dX11_judge_128 ?_
        refine gf_X11_255 F hI gs_35 rfl bd_35_5 dX11_judge_131 (fun v44 ev44 av44 bv44 => ?_)
        have q45 : v6 = M7 35 5 := ev6.trans ((fp8.at (by decide)) : M7 35 5 = _).symm
        refine z_iload F dX11_judge_134 (q := 2) rfl ?_
        refine z_isub F dX11_judge_136 ?_
        refine z_wrap (fun v46 rv46 wv46 => ?_)
        refine z_istore F dX11_judge_137 (by decide) (ls' := [(7, ii v46), (6, ii 1), (5, ii v9), (4, ii v6), (3, .ref (ad 123)), (0, .ref (ad 0)), (1, ii x0), (2, ii x1)]) rfl ?_
        refine z_goto (tgt := 151) F dX11_judge_139 (by decide +kernel) ?_
        refine z_aload_n F dX11_judge_151 rfl (q := 5) rfl ?_
        refine rf_X11_34 F gs_0 rfl dX11_judge_152 ?_
        refine z_aload_n F dX11_judge_155 rfl (q := 5) rfl ?_
        refine rf_X11_45 F gs_0 rfl dX11_judge_156 ?_
        refine z_iconst F dX11_judge_159 ?_
        refine zw_v (rest := []) F (k_X7_load_35_42 l M10 ⟨hI, hW⟩ 0 (by omega) (by omega) (by omega)) cs_X11_275 (T := TX7) (N := 7) (ci := 7) rfl gs_35 (by decide) (by decide) ⟨by decide, by decide⟩ rfl rfl rfl (Nat.le_of_ble_eq_true rfl) dX11_judge_160 (fun M47 hI p48 => ?_)
        obtain ⟨hI, hW⟩ := hI
        have fp48 := p48
        have hF := hF.call fp48 (by decide)
        refine z_iload F dX11_judge_163 (q := 0) rfl ?_
        exact zxr_i F hQ hr hlk dX11_judge_165 ⟨by decide, by decide⟩ (by omega) ⟨hI, hW⟩ ⟨⟨by omega, by omega⟩, hF⟩
      · refine z_tabOut (tgt := 142) F dX11_judge_57 (by omega) (by omega) (by decide +kernel) ?_
        refine z_aload_n F dX11_judge_142 rfl (q := 4) rfl ?_
        refine rf_X11_34 F gs_0 rfl dX11_judge_143 ?_
        refine zw_i (rest := []) F (k_X7_clashCount_35 l M10 ⟨hI, hW⟩) cs_X11_193 (T := TX7) (N := 7) (ci := 7) rfl gs_35 (by decide) (by decide) ⟨by decide, by decide⟩ rfl rfl rfl (Nat.le_of_ble_eq_true rfl) dX11_judge_146 (fun v49 M50 rv49 hI p51 => ?_)
        obtain ⟨hI, hW⟩ := hI
        obtain ⟨⟨av49, bv49⟩, rfl⟩ := p51
        refine z_istore F dX11_judge_149 (by decide) (ls' := [(7, ii v49), (6, ii 1), (5, ii v9), (4, ii v6), (3, .ref (ad 123)), (0, .ref (ad 0)), (1, ii x0), (2, ii x1)]) rfl ?_
        refine z_aload_n F dX11_judge_151 rfl (q := 5) rfl ?_
        refine rf_X11_34 F gs_0 rfl dX11_judge_152 ?_
        refine z_aload_n F dX11_judge_155 rfl (q := 5) rfl ?_
        refine rf_X11_45 F gs_0 rfl dX11_judge_156 ?_
        refine z_iconst F dX11_judge_159 ?_
        refine zw_v (rest := []) F (k_X7_load_35_42 l M10 ⟨hI, hW⟩ 0 (by omega) (by omega) (by omega)) cs_X11_275 (T := TX7) (N := 7) (ci := 7) rfl gs_35 (by decide) (by decide) ⟨by decide, by decide⟩ rfl rfl rfl (Nat.le_of_ble_eq_true rfl) dX11_judge_160 (fun M52 hI p53 => ?_)
        obtain ⟨hI, hW⟩ := hI
        have fp53 := p53
        have hF := hF.call fp53 (by decide)
        refine z_iload F dX11_judge_163 (q := 0) rfl ?_
        exact zxr_i F hQ hr hlk dX11_judge_165 ⟨by decide, by decide⟩ (by omega) ⟨hI, hW⟩ ⟨⟨by omega, by omega⟩, hF⟩
  · refine zy_r (rest := []) F (k_X11_filledTray_t1 l hlT M ⟨hI, hW⟩ x0 (by omega) (by omega)) cs_X11_248 (T := TX11) (N := 14) (ci := 11) rfl gs_0 (by decide) (by decide) ⟨by decide, by decide⟩ rfl rfl rfl (Nat.le_of_ble_eq_true rfl) dX11_judge_2 (fun E M9 hJ9 hx => by rcases hx with ⟨h9, g9, rfl⟩ | ⟨h9, g9, rfl⟩ <;> first | (exact zx_out hQ hlk hex ⟨by decide, by decide⟩ hJ9 (Or.inr (Or.inl ⟨h9, trivial, hF⟩))) | (exact zx_out hQ hlk hex ⟨by decide, by decide⟩ hJ9 (Or.inr (Or.inr (⟨h9, trivial, hF⟩))))) (fun M54 hI p55 => ?_)
    obtain ⟨hI, hW⟩ := hI
    obtain rfl := p55
    refine z_astore_n F dX11_judge_5 rfl (by decide) (ls' := [(3, .ref (ad 125)), (0, .ref (ad 0)), (1, ii x0), (2, ii x1)]) rfl ?_
    refine z_iload_n F dX11_judge_6 rfl (q := 3) rfl ?_
    refine z_iconst F dX11_judge_7 ?_
    refine zz_v (rest := []) F (k_X11_needWhat l hlT M ⟨hI, hW⟩ x1 (by omega) (by omega) 3 (by omega) (by omega)) cs_X11_252 (by decide) (by decide) ⟨by decide, by decide⟩ rfl rfl rfl (Nat.le_of_ble_eq_true rfl) dX11_judge_8 (fun E M9 hJ9 hx => by obtain ⟨h9, g9, rfl⟩ := hx <;> first | (exact zx_out hQ hlk hex ⟨by decide, by decide⟩ hJ9 (Or.inl ⟨h9, trivial, hF⟩))) (fun M56 hI p57 => ?_)
    obtain ⟨hI, hW⟩ := hI
    obtain ⟨rfl, xp57⟩ := p57
    refine z_aload_n F dX11_judge_11 rfl (q := 1) rfl ?_
    refine rf_X11_34 F gs_0 rfl dX11_judge_12 ?_
    refine gf_X11_255 F hI gs_35 rfl bd_35_5 dX11_judge_15 (fun v58 ev58 av58 bv58 => ?_)
    refine z_istore F dX11_judge_18 (by decide) (ls' := [(4, ii v58), (3, .ref (ad 125)), (0, .ref (ad 0)), (1, ii x0), (2, ii x1)]) rfl ?_
    refine z_aload_n F dX11_judge_20 rfl (q := 2) rfl ?_
    refine rf_X11_34 F gs_0 rfl dX11_judge_21 ?_
    refine z_aload_n F dX11_judge_24 rfl (q := 2) rfl ?_
    refine rf_X11_45 F gs_0 rfl dX11_judge_25 ?_
    refine z_iconst F dX11_judge_28 ?_
    refine zw_v (rest := []) F (k_X7_save_35_42 l M ⟨hI, hW⟩ 0 (by omega) (by omega) (by omega)) cs_X11_258 (T := TX7) (N := 7) (ci := 7) rfl gs_35 (by decide) (by decide) ⟨by decide, by decide⟩ rfl rfl rfl (Nat.le_of_ble_eq_true rfl) dX11_judge_29 (fun M59 hI p60 => ?_)
    obtain ⟨hI, hW⟩ := hI
    have fp60 := p60
    have hF := hF.call fp60 (by decide)
    refine z_aload_n F dX11_judge_32 rfl (q := 2) rfl ?_
    refine z_aload_n F dX11_judge_33 rfl (q := 1) rfl ?_
    refine z_iconst F dX11_judge_34 ?_
    refine zw_i (rest := []) F (k_X11_carryOut_0_125 l M59 ⟨hI, hW⟩ 0 (by omega) (by omega)) cs_X11_262 (T := TX11) (N := 14) (ci := 11) rfl gs_0 (by decide) (by decide) ⟨by decide, by decide⟩ rfl rfl rfl (Nat.le_of_ble_eq_true rfl) dX11_judge_35 (fun v61 M62 rv61 hI p63 => ?_)
    obtain ⟨hI, hW⟩ := hI
    obtain ⟨⟨av61, bv61⟩, fp63⟩ := p63
    have hF := hF.call fp63 (by decide)
    refine z_istore F dX11_judge_38 (by decide) (ls' := [(5, ii v61), (4, ii v58), (3, .ref (ad 125)), (0, .ref (ad 0)), (1, ii x0), (2, ii x1)]) rfl ?_
    refine z_iload F dX11_judge_40 (q := 0) rfl ?_
    refine z_aload_n F dX11_judge_42 rfl (q := 2) rfl ?_
    refine gf_X11_266 F hI gs_125 rfl bd_125_0 dX11_judge_43 (fun v64 ev64 av64 bv64 => ?_)
    refine z_icmp_ne (tgt := 53) F dX11_judge_46 (by decide +kernel) (by omega) (by omega) (fun c65 => ?_) (fun c65 => ?_)
    · refine z_iconst F dX11_judge_53 ?_
      refine z_istore F dX11_judge_54 (by decide) (ls' := [(6, ii 0), (5, ii v61), (4, ii v58), (3, .ref (ad 125)), (0, .ref (ad 0)), (1, ii x0), (2, ii x1)]) rfl ?_
      refine z_iload_n F dX11_judge_56 rfl (q := 6) rfl ?_
      rcases (show x1 = 0 ∨ x1 = 1 ∨ x1 = 2 ∨ (¬ x1 = 0 ∧ ¬ x1 = 1 ∧ ¬ x1 = 2) by omega) with c66 | c66 | c66 | c66
      · refine z_tabIn (tgt := 84) (off := 27) F dX11_judge_57 (by omega) (by omega) (by omega) (by rw [c66]; rfl) (by decide +kernel) ?_
        refine z_iload F dX11_judge_84 (q := 0) rfl ?_
        refine z_if_eq (tgt := 93) F dX11_judge_86 (by decide +kernel) (by omega) (fun c67 => ?_) (fun c67 => by exfalso; omega)
        refine z_iload F dX11_judge_93 (q := 1) rfl ?_
        refine z_istore F dX11_judge_95 (by decide) (ls' := [(7, ii v61), (6, ii 0), (5, ii v61), (4, ii v58), (3, .ref (ad 125)), (0, .ref (ad 0)), (1, ii x0), (2, ii x1)]) rfl ?_
        refine z_goto (tgt := 151) F dX11_judge_97 (by decide +kernel) ?_
        refine z_aload_n F dX11_judge_151 rfl (q := 5) rfl ?_
        refine rf_X11_34 F gs_0 rfl dX11_judge_152 ?_
        refine z_aload_n F dX11_judge_155 rfl (q := 5) rfl ?_
        refine rf_X11_45 F gs_0 rfl dX11_judge_156 ?_
        refine z_iconst F dX11_judge_159 ?_
        refine zw_v (rest := []) F (k_X7_load_35_42 l M62 ⟨hI, hW⟩ 0 (by omega) (by omega) (by omega)) cs_X11_275 (T := TX7) (N := 7) (ci := 7) rfl gs_35 (by decide) (by decide) ⟨by decide, by decide⟩ rfl rfl rfl (Nat.le_of_ble_eq_true rfl) dX11_judge_160 (fun M68 hI p69 => ?_)
        obtain ⟨hI, hW⟩ := hI
        have fp69 := p69
        have hF := hF.call fp69 (by decide)
        refine z_iload F dX11_judge_163 (q := 0) rfl ?_
        exact zxr_i F hQ hr hlk dX11_judge_165 ⟨by decide, by decide⟩ (by omega) ⟨hI, hW⟩ ⟨⟨by omega, by omega⟩, hF⟩
      · refine z_tabIn (tgt := 100) (off := 43) F dX11_judge_57 (by omega) (by omega) (by omega) (by rw [c66]; rfl) (by decide +kernel) ?_
        refine z_iload F dX11_judge_100 (q := 0) rfl ?_
        refine z_if_eq (tgt := 109) F dX11_judge_102 (by decide +kernel) (by omega) (fun c70 => ?_) (fun c70 => by exfalso; omega)
        refine z_aload_n F dX11_judge_109 rfl (q := 4) rfl ?_
        refine rf_X11_34 F gs_0 rfl dX11_judge_110 ?_
        refine z_aload_n F dX11_judge_113 rfl (q := 3) rfl ?_
        refine z_iload F dX11_judge_114 (q := 1) rfl ?_
        refine zw_l (rest := [.ref (ad 35)]) F (k_X10_numberAt_125 l M62 ⟨hI, hW⟩ v61 (by omega) (by omega)) cs_X11_267 (T := TX10) (N := 3) (ci := 10) rfl gs_125 (by decide) (by decide) ⟨by decide, by decide⟩ rfl rfl rfl (Nat.le_of_ble_eq_true rfl) dX11_judge_116 (fun v71 M72 rv71 hI p73 => ?_)
        obtain ⟨hI, hW⟩ := hI
        obtain ⟨⟨av71, bv71⟩, rfl⟩ := p73
        refine zw_i (rest := []) F (k_X7_obstacleOf_35 l M62 ⟨hI, hW⟩ v71 (by omega) (by omega)) cs_X11_271 (T := TX7) (N := 7) (ci := 7) rfl gs_35 (by decide) (by decide) ⟨by decide, by decide⟩ rfl rfl rfl (Nat.le_of_ble_eq_true rfl) dX11_judge_119 (fun v74 M75 rv74 hI p76 => ?_)
        obtain ⟨hI, hW⟩ := hI
        obtain ⟨⟨av74, bv74⟩, rfl, xp76⟩ := p76
        refine z_istore F dX11_judge_122 (by decide) (ls' := [(7, ii v74), (6, ii 0), (5, ii v61), (4, ii v58), (3, .ref (ad 125)), (0, .ref (ad 0)), (1, ii x0), (2, ii x1)]) rfl ?_
        refine z_goto (tgt := 151) F dX11_judge_124 (by decide +kernel) ?_
        refine z_aload_n F dX11_judge_151 rfl (q := 5) rfl ?_
        refine rf_X11_34 F gs_0 rfl dX11_judge_152 ?_
        refine z_aload_n F dX11_judge_155 rfl (q := 5) rfl ?_
        refine rf_X11_45 F gs_0 rfl dX11_judge_156 ?_
        refine z_iconst F dX11_judge_159 ?_
        refine zw_v (rest := []) F (k_X7_load_35_42 l M62 ⟨hI, hW⟩ 0 (by omega) (by omega) (by omega)) cs_X11_275 (T := TX7) (N := 7) (ci := 7) rfl gs_35 (by decide) (by decide) ⟨by decide, by decide⟩ rfl rfl rfl (Nat.le_of_ble_eq_true rfl) dX11_judge_160 (fun M77 hI p78 => ?_)
        obtain ⟨hI, hW⟩ := hI
        have fp78 := p78
        have hF := hF.call fp78 (by decide)
        refine z_iload F dX11_judge_163 (q := 0) rfl ?_
        exact zxr_i F hQ hr hlk dX11_judge_165 ⟨by decide, by decide⟩ (by omega) ⟨hI, hW⟩ ⟨⟨by omega, by omega⟩, hF⟩
      · refine z_tabIn (tgt := 127) (off := 70) F dX11_judge_57 (by omega) (by omega) (by omega) (by rw [c66]; rfl) (by decide +kernel) ?_
        refine z_aload_n F dX11_judge_127 rfl (q := 4) rfl ?_
        refine rf_X11_34 F gs_0 rfl dX11_judge_128 ?_
        refine gf_X11_255 F hI gs_35 rfl bd_35_5 dX11_judge_131 (fun v79 ev79 av79 bv79 => ?_)
        have q80 : v58 = M59 35 5 := ev58.trans ((fp60.at (by decide)) : M59 35 5 = _).symm
        refine z_iload F dX11_judge_134 (q := 2) rfl ?_
        refine z_isub F dX11_judge_136 ?_
        refine z_wrap (fun v81 rv81 wv81 => ?_)
        refine z_istore F dX11_judge_137 (by decide) (ls' := [(7, ii v81), (6, ii 0), (5, ii v61), (4, ii v58), (3, .ref (ad 125)), (0, .ref (ad 0)), (1, ii x0), (2, ii x1)]) rfl ?_
        refine z_goto (tgt := 151) F dX11_judge_139 (by decide +kernel) ?_
        refine z_aload_n F dX11_judge_151 rfl (q := 5) rfl ?_
        refine rf_X11_34 F gs_0 rfl dX11_judge_152 ?_
        refine z_aload_n F dX11_judge_155 rfl (q := 5) rfl ?_
        refine rf_X11_45 F gs_0 rfl dX11_judge_156 ?_
        refine z_iconst F dX11_judge_159 ?_
        refine zw_v (rest := []) F (k_X7_load_35_42 l M62 ⟨hI, hW⟩ 0 (by omega) (by omega) (by omega)) cs_X11_275 (T := TX7) (N := 7) (ci := 7) rfl gs_35 (by decide) (by decide) ⟨by decide, by decide⟩ rfl rfl rfl (Nat.le_of_ble_eq_true rfl) dX11_judge_160 (fun M82 hI p83 => ?_)
        obtain ⟨hI, hW⟩ := hI
        have fp83 := p83
        have hF := hF.call fp83 (by decide)
        refine z_iload F dX11_judge_163 (q := 0) rfl ?_
        exact zxr_i F hQ hr hlk dX11_judge_165 ⟨by decide, by decide⟩ (by omega) ⟨hI, hW⟩ ⟨⟨by omega, by omega⟩, hF⟩
      · refine z_tabOut (tgt := 142) F dX11_judge_57 (by omega) (by omega) (by decide +kernel) ?_
        refine z_aload_n F dX11_judge_142 rfl (q := 4) rfl ?_
        refine rf_X11_34 F gs_0 rfl dX11_judge_143 ?_
        refine zw_i (rest := []) F (k_X7_clashCount_35 l M62 ⟨hI, hW⟩) cs_X11_193 (T := TX7) (N := 7) (ci := 7) rfl gs_35 (by decide) (by decide) ⟨by decide, by decide⟩ rfl rfl rfl (Nat.le_of_ble_eq_true rfl) dX11_judge_146 (fun v84 M85 rv84 hI p86 => ?_)
        obtain ⟨hI, hW⟩ := hI
        obtain ⟨⟨av84, bv84⟩, rfl⟩ := p86
        refine z_istore F dX11_judge_149 (by decide) (ls' := [(7, ii v84), (6, ii 0), (5, ii v61), (4, ii v58), (3, .ref (ad 125)), (0, .ref (ad 0)), (1, ii x0), (2, ii x1)]) rfl ?_
        refine z_aload_n F dX11_judge_151 rfl (q := 5) rfl ?_
        refine rf_X11_34 F gs_0 rfl dX11_judge_152 ?_
        refine z_aload_n F dX11_judge_155 rfl (q := 5) rfl ?_
        refine rf_X11_45 F gs_0 rfl dX11_judge_156 ?_
        refine z_iconst F dX11_judge_159 ?_
        refine zw_v (rest := []) F (k_X7_load_35_42 l M62 ⟨hI, hW⟩ 0 (by omega) (by omega) (by omega)) cs_X11_275 (T := TX7) (N := 7) (ci := 7) rfl gs_35 (by decide) (by decide) ⟨by decide, by decide⟩ rfl rfl rfl (Nat.le_of_ble_eq_true rfl) dX11_judge_160 (fun M87 hI p88 => ?_)
        obtain ⟨hI, hW⟩ := hI
        have fp88 := p88
        have hF := hF.call fp88 (by decide)
        refine z_iload F dX11_judge_163 (q := 0) rfl ?_
        exact zxr_i F hQ hr hlk dX11_judge_165 ⟨by decide, by decide⟩ (by omega) ⟨hI, hW⟩ ⟨⟨by omega, by omega⟩, hF⟩
    · refine z_iconst F dX11_judge_49 ?_
      refine z_goto (tgt := 54) F dX11_judge_50 (by decide +kernel) ?_
      refine z_istore F dX11_judge_54 (by decide) (ls' := [(6, ii 1), (5, ii v61), (4, ii v58), (3, .ref (ad 125)), (0, .ref (ad 0)), (1, ii x0), (2, ii x1)]) rfl ?_
      refine z_iload_n F dX11_judge_56 rfl (q := 6) rfl ?_
      rcases (show x1 = 0 ∨ x1 = 1 ∨ x1 = 2 ∨ (¬ x1 = 0 ∧ ¬ x1 = 1 ∧ ¬ x1 = 2) by omega) with c89 | c89 | c89 | c89
      · refine z_tabIn (tgt := 84) (off := 27) F dX11_judge_57 (by omega) (by omega) (by omega) (by rw [c89]; rfl) (by decide +kernel) ?_
        refine z_iload F dX11_judge_84 (q := 0) rfl ?_
        refine z_if_eq (tgt := 93) F dX11_judge_86 (by decide +kernel) (by omega) (fun c90 => by exfalso; omega) (fun c90 => ?_)
        refine z_iconst F dX11_judge_89 ?_
        refine z_goto (tgt := 95) F dX11_judge_90 (by decide +kernel) ?_
        refine z_istore F dX11_judge_95 (by decide) (ls' := [(7, ii (-1)), (6, ii 1), (5, ii v61), (4, ii v58), (3, .ref (ad 125)), (0, .ref (ad 0)), (1, ii x0), (2, ii x1)]) rfl ?_
        refine z_goto (tgt := 151) F dX11_judge_97 (by decide +kernel) ?_
        refine z_aload_n F dX11_judge_151 rfl (q := 5) rfl ?_
        refine rf_X11_34 F gs_0 rfl dX11_judge_152 ?_
        refine z_aload_n F dX11_judge_155 rfl (q := 5) rfl ?_
        refine rf_X11_45 F gs_0 rfl dX11_judge_156 ?_
        refine z_iconst F dX11_judge_159 ?_
        refine zw_v (rest := []) F (k_X7_load_35_42 l M62 ⟨hI, hW⟩ 0 (by omega) (by omega) (by omega)) cs_X11_275 (T := TX7) (N := 7) (ci := 7) rfl gs_35 (by decide) (by decide) ⟨by decide, by decide⟩ rfl rfl rfl (Nat.le_of_ble_eq_true rfl) dX11_judge_160 (fun M91 hI p92 => ?_)
        obtain ⟨hI, hW⟩ := hI
        have fp92 := p92
        have hF := hF.call fp92 (by decide)
        refine z_iload F dX11_judge_163 (q := 0) rfl ?_
        exact zxr_i F hQ hr hlk dX11_judge_165 ⟨by decide, by decide⟩ (by omega) ⟨hI, hW⟩ ⟨⟨by omega, by omega⟩, hF⟩
      · refine z_tabIn (tgt := 100) (off := 43) F dX11_judge_57 (by omega) (by omega) (by omega) (by rw [c89]; rfl) (by decide +kernel) ?_
        refine z_iload F dX11_judge_100 (q := 0) rfl ?_
        refine z_if_eq (tgt := 109) F dX11_judge_102 (by decide +kernel) (by omega) (fun c93 => by exfalso; omega) (fun c93 => ?_)
        refine z_iconst F dX11_judge_105 ?_
        refine z_goto (tgt := 122) F dX11_judge_106 (by decide +kernel) ?_
        refine z_istore F dX11_judge_122 (by decide) (ls' := [(7, ii 0), (6, ii 1), (5, ii v61), (4, ii v58), (3, .ref (ad 125)), (0, .ref (ad 0)), (1, ii x0), (2, ii x1)]) rfl ?_
        refine z_goto (tgt := 151) F dX11_judge_124 (by decide +kernel) ?_
        refine z_aload_n F dX11_judge_151 rfl (q := 5) rfl ?_
        refine rf_X11_34 F gs_0 rfl dX11_judge_152 ?_
        refine z_aload_n F dX11_judge_155 rfl (q := 5) rfl ?_
        refine rf_X11_45 F gs_0 rfl dX11_judge_156 ?_
        refine z_iconst F dX11_judge_159 ?_
        refine zw_v (rest := []) F (k_X7_load_35_42 l M62 ⟨hI, hW⟩ 0 (by omega) (by omega) (by omega)) cs_X11_275 (T := TX7) (N := 7) (ci := 7) rfl gs_35 (by decide) (by decide) ⟨by decide, by decide⟩ rfl rfl rfl (Nat.le_of_ble_eq_true rfl) dX11_judge_160 (fun M94 hI p95 => ?_)
        obtain ⟨hI, hW⟩ := hI
        have fp95 := p95
        have hF := hF.call fp95 (by decide)
        refine z_iload F dX11_judge_163 (q := 0) rfl ?_
        exact zxr_i F hQ hr hlk dX11_judge_165 ⟨by decide, by decide⟩ (by omega) ⟨hI, hW⟩ ⟨⟨by omega, by omega⟩, hF⟩
      · refine z_tabIn (tgt := 127) (off := 70) F dX11_judge_57 (by omega) (by omega) (by omega) (by rw [c89]; rfl) (by decide +kernel) ?_
        refine z_aload_n F dX11_judge_127 rfl (q := 4) rfl ?_
        refine rf_X11_34 F gs_0 rfl dX11_judge_128 ?_
        refine gf_X11_255 F hI gs_35 rfl bd_35_5 dX11_judge_131 (fun v96 ev96 av96 bv96 => ?_)
        have q97 : v58 = M59 35 5 := ev58.trans ((fp60.at (by decide)) : M59 35 5 = _).symm
        refine z_iload F dX11_judge_134 (q := 2) rfl ?_
        refine z_isub F dX11_judge_136 ?_
        refine z_wrap (fun v98 rv98 wv98 => ?_)
        refine z_istore F dX11_judge_137 (by decide) (ls' := [(7, ii v98), (6, ii 1), (5, ii v61), (4, ii v58), (3, .ref (ad 125)), (0, .ref (ad 0)), (1, ii x0), (2, ii x1)]) rfl ?_
        refine z_goto (tgt := 151) F dX11_judge_139 (by decide +kernel) ?_
        refine z_aload_n F dX11_judge_151 rfl (q := 5) rfl ?_
        refine rf_X11_34 F gs_0 rfl dX11_judge_152 ?_
        refine z_aload_n F dX11_judge_155 rfl (q := 5) rfl ?_
        refine rf_X11_45 F gs_0 rfl dX11_judge_156 ?_
        refine z_iconst F dX11_judge_159 ?_
        refine zw_v (rest := []) F (k_X7_load_35_42 l M62 ⟨hI, hW⟩ 0 (by omega) (by omega) (by omega)) cs_X11_275 (T := TX7) (N := 7) (ci := 7) rfl gs_35 (by decide) (by decide) ⟨by decide, by decide⟩ rfl rfl rfl (Nat.le_of_ble_eq_true rfl) dX11_judge_160 (fun M99 hI p100 => ?_)
        obtain ⟨hI, hW⟩ := hI
        have fp100 := p100
        have hF := hF.call fp100 (by decide)
        refine z_iload F dX11_judge_163 (q := 0) rfl ?_
        exact zxr_i F hQ hr hlk dX11_judge_165 ⟨by decide, by decide⟩ (by omega) ⟨hI, hW⟩ ⟨⟨by omega, by omega⟩, hF⟩
      · refine z_tabOut (tgt := 142) F dX11_judge_57 (by omega) (by omega) (by decide +kernel) ?_
        refine z_aload_n F dX11_judge_142 rfl (q := 4) rfl ?_
        refine rf_X11_34 F gs_0 rfl dX11_judge_143 ?_
        refine zw_i (rest := []) F (k_X7_clashCount_35 l M62 ⟨hI, hW⟩) cs_X11_193 (T := TX7) (N := 7) (ci := 7) rfl gs_35 (by decide) (by decide) ⟨by decide, by decide⟩ rfl rfl rfl (Nat.le_of_ble_eq_true rfl) dX11_judge_146 (fun v101 M102 rv101 hI p103 => ?_)
        obtain ⟨hI, hW⟩ := hI
        obtain ⟨⟨av101, bv101⟩, rfl⟩ := p103
        refine z_istore F dX11_judge_149 (by decide) (ls' := [(7, ii v101), (6, ii 1), (5, ii v61), (4, ii v58), (3, .ref (ad 125)), (0, .ref (ad 0)), (1, ii x0), (2, ii x1)]) rfl ?_
        refine z_aload_n F dX11_judge_151 rfl (q := 5) rfl ?_
        refine rf_X11_34 F gs_0 rfl dX11_judge_152 ?_
        refine z_aload_n F dX11_judge_155 rfl (q := 5) rfl ?_
        refine rf_X11_45 F gs_0 rfl dX11_judge_156 ?_
        refine z_iconst F dX11_judge_159 ?_
        refine zw_v (rest := []) F (k_X7_load_35_42 l M62 ⟨hI, hW⟩ 0 (by omega) (by omega) (by omega)) cs_X11_275 (T := TX7) (N := 7) (ci := 7) rfl gs_35 (by decide) (by decide) ⟨by decide, by decide⟩ rfl rfl rfl (Nat.le_of_ble_eq_true rfl) dX11_judge_160 (fun M104 hI p105 => ?_)
        obtain ⟨hI, hW⟩ := hI
        have fp105 := p105
        have hF := hF.call fp105 (by decide)
        refine z_iload F dX11_judge_163 (q := 0) rfl ?_
        exact zxr_i F hQ hr hlk dX11_judge_165 ⟨by decide, by decide⟩ (by omega) ⟨hI, hW⟩ ⟨⟨by omega, by omega⟩, hF⟩
  · refine zy_r (rest := []) F (k_X11_filledTray_t2 l hlT M ⟨hI, hW⟩ x0 (by omega) (by omega)) cs_X11_248 (T := TX11) (N := 14) (ci := 11) rfl gs_0 (by decide) (by decide) ⟨by decide, by decide⟩ rfl rfl rfl (Nat.le_of_ble_eq_true rfl) dX11_judge_2 (fun E M9 hJ9 hx => by rcases hx with ⟨h9, g9, rfl⟩ | ⟨h9, g9, rfl⟩ <;> first | (exact zx_out hQ hlk hex ⟨by decide, by decide⟩ hJ9 (Or.inr (Or.inl ⟨h9, trivial, hF⟩))) | (exact zx_out hQ hlk hex ⟨by decide, by decide⟩ hJ9 (Or.inr (Or.inr (⟨h9, trivial, hF⟩))))) (fun M106 hI p107 => ?_)
    obtain ⟨hI, hW⟩ := hI
    obtain rfl := p107
    refine z_astore_n F dX11_judge_5 rfl (by decide) (ls' := [(3, .ref (ad 127)), (0, .ref (ad 0)), (1, ii x0), (2, ii x1)]) rfl ?_
    refine z_iload_n F dX11_judge_6 rfl (q := 3) rfl ?_
    refine z_iconst F dX11_judge_7 ?_
    refine zz_v (rest := []) F (k_X11_needWhat l hlT M ⟨hI, hW⟩ x1 (by omega) (by omega) 3 (by omega) (by omega)) cs_X11_252 (by decide) (by decide) ⟨by decide, by decide⟩ rfl rfl rfl (Nat.le_of_ble_eq_true rfl) dX11_judge_8 (fun E M9 hJ9 hx => by obtain ⟨h9, g9, rfl⟩ := hx <;> first | (exact zx_out hQ hlk hex ⟨by decide, by decide⟩ hJ9 (Or.inl ⟨h9, trivial, hF⟩))) (fun M108 hI p109 => ?_)
    obtain ⟨hI, hW⟩ := hI
    obtain ⟨rfl, xp109⟩ := p109
    refine z_aload_n F dX11_judge_11 rfl (q := 1) rfl ?_
    refine rf_X11_34 F gs_0 rfl dX11_judge_12 ?_
    refine gf_X11_255 F hI gs_35 rfl bd_35_5 dX11_judge_15 (fun v110 ev110 av110 bv110 => ?_)
    refine z_istore F dX11_judge_18 (by decide) (ls' := [(4, ii v110), (3, .ref (ad 127)), (0, .ref (ad 0)), (1, ii x0), (2, ii x1)]) rfl ?_
    refine z_aload_n F dX11_judge_20 rfl (q := 2) rfl ?_
    refine rf_X11_34 F gs_0 rfl dX11_judge_21 ?_
    refine z_aload_n F dX11_judge_24 rfl (q := 2) rfl ?_
    refine rf_X11_45 F gs_0 rfl dX11_judge_25 ?_
    refine z_iconst F dX11_judge_28 ?_
    refine zw_v (rest := []) F (k_X7_save_35_42 l M ⟨hI, hW⟩ 0 (by omega) (by omega) (by omega)) cs_X11_258 (T := TX7) (N := 7) (ci := 7) rfl gs_35 (by decide) (by decide) ⟨by decide, by decide⟩ rfl rfl rfl (Nat.le_of_ble_eq_true rfl) dX11_judge_29 (fun M111 hI p112 => ?_)
    obtain ⟨hI, hW⟩ := hI
    have fp112 := p112
    have hF := hF.call fp112 (by decide)
    refine z_aload_n F dX11_judge_32 rfl (q := 2) rfl ?_
    refine z_aload_n F dX11_judge_33 rfl (q := 1) rfl ?_
    refine z_iconst F dX11_judge_34 ?_
    refine zw_i (rest := []) F (k_X11_carryOut_0_127 l M111 ⟨hI, hW⟩ 0 (by omega) (by omega)) cs_X11_262 (T := TX11) (N := 14) (ci := 11) rfl gs_0 (by decide) (by decide) ⟨by decide, by decide⟩ rfl rfl rfl (Nat.le_of_ble_eq_true rfl) dX11_judge_35 (fun v113 M114 rv113 hI p115 => ?_)
    obtain ⟨hI, hW⟩ := hI
    obtain ⟨⟨av113, bv113⟩, fp115⟩ := p115
    have hF := hF.call fp115 (by decide)
    refine z_istore F dX11_judge_38 (by decide) (ls' := [(5, ii v113), (4, ii v110), (3, .ref (ad 127)), (0, .ref (ad 0)), (1, ii x0), (2, ii x1)]) rfl ?_
    refine z_iload F dX11_judge_40 (q := 0) rfl ?_
    refine z_aload_n F dX11_judge_42 rfl (q := 2) rfl ?_
    refine gf_X11_266 F hI gs_127 rfl bd_127_0 dX11_judge_43 (fun v116 ev116 av116 bv116 => ?_)
    refine z_icmp_ne (tgt := 53) F dX11_judge_46 (by decide +kernel) (by omega) (by omega) (fun c117 => ?_) (fun c117 => ?_)
    · refine z_iconst F dX11_judge_53 ?_
      refine z_istore F dX11_judge_54 (by decide) (ls' := [(6, ii 0), (5, ii v113), (4, ii v110), (3, .ref (ad 127)), (0, .ref (ad 0)), (1, ii x0), (2, ii x1)]) rfl ?_
      refine z_iload_n F dX11_judge_56 rfl (q := 6) rfl ?_
      rcases (show x1 = 0 ∨ x1 = 1 ∨ x1 = 2 ∨ (¬ x1 = 0 ∧ ¬ x1 = 1 ∧ ¬ x1 = 2) by omega) with c118 | c118 | c118 | c118
      · refine z_tabIn (tgt := 84) (off := 27) F dX11_judge_57 (by omega) (by omega) (by omega) (by rw [c118]; rfl) (by decide +kernel) ?_
        refine z_iload F dX11_judge_84 (q := 0) rfl ?_
        refine z_if_eq (tgt := 93) F dX11_judge_86 (by decide +kernel) (by omega) (fun c119 => ?_) (fun c119 => by exfalso; omega)
        refine z_iload F dX11_judge_93 (q := 1) rfl ?_
        refine z_istore F dX11_judge_95 (by decide) (ls' := [(7, ii v113), (6, ii 0), (5, ii v113), (4, ii v110), (3, .ref (ad 127)), (0, .ref (ad 0)), (1, ii x0), (2, ii x1)]) rfl ?_
        refine z_goto (tgt := 151) F dX11_judge_97 (by decide +kernel) ?_
        refine z_aload_n F dX11_judge_151 rfl (q := 5) rfl ?_
        refine rf_X11_34 F gs_0 rfl dX11_judge_152 ?_
        refine z_aload_n F dX11_judge_155 rfl (q := 5) rfl ?_
        refine rf_X11_45 F gs_0 rfl dX11_judge_156 ?_
        refine z_iconst F dX11_judge_159 ?_
        refine zw_v (rest := []) F (k_X7_load_35_42 l M114 ⟨hI, hW⟩ 0 (by omega) (by omega) (by omega)) cs_X11_275 (T := TX7) (N := 7) (ci := 7) rfl gs_35 (by decide) (by decide) ⟨by decide, by decide⟩ rfl rfl rfl (Nat.le_of_ble_eq_true rfl) dX11_judge_160 (fun M120 hI p121 => ?_)
        obtain ⟨hI, hW⟩ := hI
        have fp121 := p121
        have hF := hF.call fp121 (by decide)
        refine z_iload F dX11_judge_163 (q := 0) rfl ?_
        exact zxr_i F hQ hr hlk dX11_judge_165 ⟨by decide, by decide⟩ (by omega) ⟨hI, hW⟩ ⟨⟨by omega, by omega⟩, hF⟩
      · refine z_tabIn (tgt := 100) (off := 43) F dX11_judge_57 (by omega) (by omega) (by omega) (by rw [c118]; rfl) (by decide +kernel) ?_
        refine z_iload F dX11_judge_100 (q := 0) rfl ?_
        refine z_if_eq (tgt := 109) F dX11_judge_102 (by decide +kernel) (by omega) (fun c122 => ?_) (fun c122 => by exfalso; omega)
        refine z_aload_n F dX11_judge_109 rfl (q := 4) rfl ?_
        refine rf_X11_34 F gs_0 rfl dX11_judge_110 ?_
        refine z_aload_n F dX11_judge_113 rfl (q := 3) rfl ?_
        refine z_iload F dX11_judge_114 (q := 1) rfl ?_
        refine zw_l (rest := [.ref (ad 35)]) F (k_X10_numberAt_127 l M114 ⟨hI, hW⟩ v113 (by omega) (by omega)) cs_X11_267 (T := TX10) (N := 3) (ci := 10) rfl gs_127 (by decide) (by decide) ⟨by decide, by decide⟩ rfl rfl rfl (Nat.le_of_ble_eq_true rfl) dX11_judge_116 (fun v123 M124 rv123 hI p125 => ?_)
        obtain ⟨hI, hW⟩ := hI
        obtain ⟨⟨av123, bv123⟩, rfl⟩ := p125
        refine zw_i (rest := []) F (k_X7_obstacleOf_35 l M114 ⟨hI, hW⟩ v123 (by omega) (by omega)) cs_X11_271 (T := TX7) (N := 7) (ci := 7) rfl gs_35 (by decide) (by decide) ⟨by decide, by decide⟩ rfl rfl rfl (Nat.le_of_ble_eq_true rfl) dX11_judge_119 (fun v126 M127 rv126 hI p128 => ?_)
        obtain ⟨hI, hW⟩ := hI
        obtain ⟨⟨av126, bv126⟩, rfl, xp128⟩ := p128
        refine z_istore F dX11_judge_122 (by decide) (ls' := [(7, ii v126), (6, ii 0), (5, ii v113), (4, ii v110), (3, .ref (ad 127)), (0, .ref (ad 0)), (1, ii x0), (2, ii x1)]) rfl ?_
        refine z_goto (tgt := 151) F dX11_judge_124 (by decide +kernel) ?_
        refine z_aload_n F dX11_judge_151 rfl (q := 5) rfl ?_
        refine rf_X11_34 F gs_0 rfl dX11_judge_152 ?_
        refine z_aload_n F dX11_judge_155 rfl (q := 5) rfl ?_
        refine rf_X11_45 F gs_0 rfl dX11_judge_156 ?_
        refine z_iconst F dX11_judge_159 ?_
        refine zw_v (rest := []) F (k_X7_load_35_42 l M114 ⟨hI, hW⟩ 0 (by omega) (by omega) (by omega)) cs_X11_275 (T := TX7) (N := 7) (ci := 7) rfl gs_35 (by decide) (by decide) ⟨by decide, by decide⟩ rfl rfl rfl (Nat.le_of_ble_eq_true rfl) dX11_judge_160 (fun M129 hI p130 => ?_)
        obtain ⟨hI, hW⟩ := hI
        have fp130 := p130
        have hF := hF.call fp130 (by decide)
        refine z_iload F dX11_judge_163 (q := 0) rfl ?_
        exact zxr_i F hQ hr hlk dX11_judge_165 ⟨by decide, by decide⟩ (by omega) ⟨hI, hW⟩ ⟨⟨by omega, by omega⟩, hF⟩
      · refine z_tabIn (tgt := 127) (off := 70) F dX11_judge_57 (by omega) (by omega) (by omega) (by rw [c118]; rfl) (by decide +kernel) ?_
        refine z_aload_n F dX11_judge_127 rfl (q := 4) rfl ?_
        refine rf_X11_34 F gs_0 rfl dX11_judge_128 ?_
        refine gf_X11_255 F hI gs_35 rfl bd_35_5 dX11_judge_131 (fun v131 ev131 av131 bv131 => ?_)
        have q132 : v110 = M111 35 5 := ev110.trans ((fp112.at (by decide)) : M111 35 5 = _).symm
        refine z_iload F dX11_judge_134 (q := 2) rfl ?_
        refine z_isub F dX11_judge_136 ?_
        refine z_wrap (fun v133 rv133 wv133 => ?_)
        refine z_istore F dX11_judge_137 (by decide) (ls' := [(7, ii v133), (6, ii 0), (5, ii v113), (4, ii v110), (3, .ref (ad 127)), (0, .ref (ad 0)), (1, ii x0), (2, ii x1)]) rfl ?_
        refine z_goto (tgt := 151) F dX11_judge_139 (by decide +kernel) ?_
        refine z_aload_n F dX11_judge_151 rfl (q := 5) rfl ?_
        refine rf_X11_34 F gs_0 rfl dX11_judge_152 ?_
        refine z_aload_n F dX11_judge_155 rfl (q := 5) rfl ?_
        refine rf_X11_45 F gs_0 rfl dX11_judge_156 ?_
        refine z_iconst F dX11_judge_159 ?_
        refine zw_v (rest := []) F (k_X7_load_35_42 l M114 ⟨hI, hW⟩ 0 (by omega) (by omega) (by omega)) cs_X11_275 (T := TX7) (N := 7) (ci := 7) rfl gs_35 (by decide) (by decide) ⟨by decide, by decide⟩ rfl rfl rfl (Nat.le_of_ble_eq_true rfl) dX11_judge_160 (fun M134 hI p135 => ?_)
        obtain ⟨hI, hW⟩ := hI
        have fp135 := p135
        have hF := hF.call fp135 (by decide)
        refine z_iload F dX11_judge_163 (q := 0) rfl ?_
        exact zxr_i F hQ hr hlk dX11_judge_165 ⟨by decide, by decide⟩ (by omega) ⟨hI, hW⟩ ⟨⟨by omega, by omega⟩, hF⟩
      · refine z_tabOut (tgt := 142) F dX11_judge_57 (by omega) (by omega) (by decide +kernel) ?_
        refine z_aload_n F dX11_judge_142 rfl (q := 4) rfl ?_
        refine rf_X11_34 F gs_0 rfl dX11_judge_143 ?_
        refine zw_i (rest := []) F (k_X7_clashCount_35 l M114 ⟨hI, hW⟩) cs_X11_193 (T := TX7) (N := 7) (ci := 7) rfl gs_35 (by decide) (by decide) ⟨by decide, by decide⟩ rfl rfl rfl (Nat.le_of_ble_eq_true rfl) dX11_judge_146 (fun v136 M137 rv136 hI p138 => ?_)
        obtain ⟨hI, hW⟩ := hI
        obtain ⟨⟨av136, bv136⟩, rfl⟩ := p138
        refine z_istore F dX11_judge_149 (by decide) (ls' := [(7, ii v136), (6, ii 0), (5, ii v113), (4, ii v110), (3, .ref (ad 127)), (0, .ref (ad 0)), (1, ii x0), (2, ii x1)]) rfl ?_
        refine z_aload_n F dX11_judge_151 rfl (q := 5) rfl ?_
        refine rf_X11_34 F gs_0 rfl dX11_judge_152 ?_
        refine z_aload_n F dX11_judge_155 rfl (q := 5) rfl ?_
        refine rf_X11_45 F gs_0 rfl dX11_judge_156 ?_
        refine z_iconst F dX11_judge_159 ?_
        refine zw_v (rest := []) F (k_X7_load_35_42 l M114 ⟨hI, hW⟩ 0 (by omega) (by omega) (by omega)) cs_X11_275 (T := TX7) (N := 7) (ci := 7) rfl gs_35 (by decide) (by decide) ⟨by decide, by decide⟩ rfl rfl rfl (Nat.le_of_ble_eq_true rfl) dX11_judge_160 (fun M139 hI p140 => ?_)
        obtain ⟨hI, hW⟩ := hI
        have fp140 := p140
        have hF := hF.call fp140 (by decide)
        refine z_iload F dX11_judge_163 (q := 0) rfl ?_
        exact zxr_i F hQ hr hlk dX11_judge_165 ⟨by decide, by decide⟩ (by omega) ⟨hI, hW⟩ ⟨⟨by omega, by omega⟩, hF⟩
    · refine z_iconst F dX11_judge_49 ?_
      refine z_goto (tgt := 54) F dX11_judge_50 (by decide +kernel) ?_
      refine z_istore F dX11_judge_54 (by decide) (ls' := [(6, ii 1), (5, ii v113), (4, ii v110), (3, .ref (ad 127)), (0, .ref (ad 0)), (1, ii x0), (2, ii x1)]) rfl ?_
      refine z_iload_n F dX11_judge_56 rfl (q := 6) rfl ?_
      rcases (show x1 = 0 ∨ x1 = 1 ∨ x1 = 2 ∨ (¬ x1 = 0 ∧ ¬ x1 = 1 ∧ ¬ x1 = 2) by omega) with c141 | c141 | c141 | c141
      · refine z_tabIn (tgt := 84) (off := 27) F dX11_judge_57 (by omega) (by omega) (by omega) (by rw [c141]; rfl) (by decide +kernel) ?_
        refine z_iload F dX11_judge_84 (q := 0) rfl ?_
        refine z_if_eq (tgt := 93) F dX11_judge_86 (by decide +kernel) (by omega) (fun c142 => by exfalso; omega) (fun c142 => ?_)
        refine z_iconst F dX11_judge_89 ?_
        refine z_goto (tgt := 95) F dX11_judge_90 (by decide +kernel) ?_
        refine z_istore F dX11_judge_95 (by decide) (ls' := [(7, ii (-1)), (6, ii 1), (5, ii v113), (4, ii v110), (3, .ref (ad 127)), (0, .ref (ad 0)), (1, ii x0), (2, ii x1)]) rfl ?_
        refine z_goto (tgt := 151) F dX11_judge_97 (by decide +kernel) ?_
        refine z_aload_n F dX11_judge_151 rfl (q := 5) rfl ?_
        refine rf_X11_34 F gs_0 rfl dX11_judge_152 ?_
        refine z_aload_n F dX11_judge_155 rfl (q := 5) rfl ?_
        refine rf_X11_45 F gs_0 rfl dX11_judge_156 ?_
        refine z_iconst F dX11_judge_159 ?_
        refine zw_v (rest := []) F (k_X7_load_35_42 l M114 ⟨hI, hW⟩ 0 (by omega) (by omega) (by omega)) cs_X11_275 (T := TX7) (N := 7) (ci := 7) rfl gs_35 (by decide) (by decide) ⟨by decide, by decide⟩ rfl rfl rfl (Nat.le_of_ble_eq_true rfl) dX11_judge_160 (fun M143 hI p144 => ?_)
        obtain ⟨hI, hW⟩ := hI
        have fp144 := p144
        have hF := hF.call fp144 (by decide)
        refine z_iload F dX11_judge_163 (q := 0) rfl ?_
        exact zxr_i F hQ hr hlk dX11_judge_165 ⟨by decide, by decide⟩ (by omega) ⟨hI, hW⟩ ⟨⟨by omega, by omega⟩, hF⟩
      · refine z_tabIn (tgt := 100) (off := 43) F dX11_judge_57 (by omega) (by omega) (by omega) (by rw [c141]; rfl) (by decide +kernel) ?_
        refine z_iload F dX11_judge_100 (q := 0) rfl ?_
        refine z_if_eq (tgt := 109) F dX11_judge_102 (by decide +kernel) (by omega) (fun c145 => by exfalso; omega) (fun c145 => ?_)
        refine z_iconst F dX11_judge_105 ?_
        refine z_goto (tgt := 122) F dX11_judge_106 (by decide +kernel) ?_
        refine z_istore F dX11_judge_122 (by decide) (ls' := [(7, ii 0), (6, ii 1), (5, ii v113), (4, ii v110), (3, .ref (ad 127)), (0, .ref (ad 0)), (1, ii x0), (2, ii x1)]) rfl ?_
        refine z_goto (tgt := 151) F dX11_judge_124 (by decide +kernel) ?_
        refine z_aload_n F dX11_judge_151 rfl (q := 5) rfl ?_
        refine rf_X11_34 F gs_0 rfl dX11_judge_152 ?_
        refine z_aload_n F dX11_judge_155 rfl (q := 5) rfl ?_
        refine rf_X11_45 F gs_0 rfl dX11_judge_156 ?_
        refine z_iconst F dX11_judge_159 ?_
        refine zw_v (rest := []) F (k_X7_load_35_42 l M114 ⟨hI, hW⟩ 0 (by omega) (by omega) (by omega)) cs_X11_275 (T := TX7) (N := 7) (ci := 7) rfl gs_35 (by decide) (by decide) ⟨by decide, by decide⟩ rfl rfl rfl (Nat.le_of_ble_eq_true rfl) dX11_judge_160 (fun M146 hI p147 => ?_)
        obtain ⟨hI, hW⟩ := hI
        have fp147 := p147
        have hF := hF.call fp147 (by decide)
        refine z_iload F dX11_judge_163 (q := 0) rfl ?_
        exact zxr_i F hQ hr hlk dX11_judge_165 ⟨by decide, by decide⟩ (by omega) ⟨hI, hW⟩ ⟨⟨by omega, by omega⟩, hF⟩
      · refine z_tabIn (tgt := 127) (off := 70) F dX11_judge_57 (by omega) (by omega) (by omega) (by rw [c141]; rfl) (by decide +kernel) ?_
        refine z_aload_n F dX11_judge_127 rfl (q := 4) rfl ?_
        refine rf_X11_34 F gs_0 rfl dX11_judge_128 ?_
        refine gf_X11_255 F hI gs_35 rfl bd_35_5 dX11_judge_131 (fun v148 ev148 av148 bv148 => ?_)
        have q149 : v110 = M111 35 5 := ev110.trans ((fp112.at (by decide)) : M111 35 5 = _).symm
        refine z_iload F dX11_judge_134 (q := 2) rfl ?_
        refine z_isub F dX11_judge_136 ?_
        refine z_wrap (fun v150 rv150 wv150 => ?_)
        refine z_istore F dX11_judge_137 (by decide) (ls' := [(7, ii v150), (6, ii 1), (5, ii v113), (4, ii v110), (3, .ref (ad 127)), (0, .ref (ad 0)), (1, ii x0), (2, ii x1)]) rfl ?_
        refine z_goto (tgt := 151) F dX11_judge_139 (by decide +kernel) ?_
        refine z_aload_n F dX11_judge_151 rfl (q := 5) rfl ?_
        refine rf_X11_34 F gs_0 rfl dX11_judge_152 ?_
        refine z_aload_n F dX11_judge_155 rfl (q := 5) rfl ?_
        refine rf_X11_45 F gs_0 rfl dX11_judge_156 ?_
        refine z_iconst F dX11_judge_159 ?_
        refine zw_v (rest := []) F (k_X7_load_35_42 l M114 ⟨hI, hW⟩ 0 (by omega) (by omega) (by omega)) cs_X11_275 (T := TX7) (N := 7) (ci := 7) rfl gs_35 (by decide) (by decide) ⟨by decide, by decide⟩ rfl rfl rfl (Nat.le_of_ble_eq_true rfl) dX11_judge_160 (fun M151 hI p152 => ?_)
        obtain ⟨hI, hW⟩ := hI
        have fp152 := p152
        have hF := hF.call fp152 (by decide)
        refine z_iload F dX11_judge_163 (q := 0) rfl ?_
        exact zxr_i F hQ hr hlk dX11_judge_165 ⟨by decide, by decide⟩ (by omega) ⟨hI, hW⟩ ⟨⟨by omega, by omega⟩, hF⟩
      · refine z_tabOut (tgt := 142) F dX11_judge_57 (by omega) (by omega) (by decide +kernel) ?_
        refine z_aload_n F dX11_judge_142 rfl (q := 4) rfl ?_
        refine rf_X11_34 F gs_0 rfl dX11_judge_143 ?_
        refine zw_i (rest := []) F (k_X7_clashCount_35 l M114 ⟨hI, hW⟩) cs_X11_193 (T := TX7) (N := 7) (ci := 7) rfl gs_35 (by decide) (by decide) ⟨by decide, by decide⟩ rfl rfl rfl (Nat.le_of_ble_eq_true rfl) dX11_judge_146 (fun v153 M154 rv153 hI p155 => ?_)
        obtain ⟨hI, hW⟩ := hI
        obtain ⟨⟨av153, bv153⟩, rfl⟩ := p155
        refine z_istore F dX11_judge_149 (by decide) (ls' := [(7, ii v153), (6, ii 1), (5, ii v113), (4, ii v110), (3, .ref (ad 127)), (0, .ref (ad 0)), (1, ii x0), (2, ii x1)]) rfl ?_
        refine z_aload_n F dX11_judge_151 rfl (q := 5) rfl ?_
        refine rf_X11_34 F gs_0 rfl dX11_judge_152 ?_
        refine z_aload_n F dX11_judge_155 rfl (q := 5) rfl ?_
        refine rf_X11_45 F gs_0 rfl dX11_judge_156 ?_
        refine z_iconst F dX11_judge_159 ?_
        refine zw_v (rest := []) F (k_X7_load_35_42 l M114 ⟨hI, hW⟩ 0 (by omega) (by omega) (by omega)) cs_X11_275 (T := TX7) (N := 7) (ci := 7) rfl gs_35 (by decide) (by decide) ⟨by decide, by decide⟩ rfl rfl rfl (Nat.le_of_ble_eq_true rfl) dX11_judge_160 (fun M156 hI p157 => ?_)
        obtain ⟨hI, hW⟩ := hI
        have fp157 := p157
        have hF := hF.call fp157 (by decide)
        refine z_iload F dX11_judge_163 (q := 0) rfl ?_
        exact zxr_i F hQ hr hlk dX11_judge_165 ⟨by decide, by decide⟩ (by omega) ⟨hI, hW⟩ ⟨⟨by omega, by omega⟩, hF⟩
  · refine zy_r (rest := []) F (k_X11_filledTray_t3 l hlT M ⟨hI, hW⟩ x0 (by omega) (by omega)) cs_X11_248 (T := TX11) (N := 14) (ci := 11) rfl gs_0 (by decide) (by decide) ⟨by decide, by decide⟩ rfl rfl rfl (Nat.le_of_ble_eq_true rfl) dX11_judge_2 (fun E M9 hJ9 hx => by rcases hx with ⟨h9, g9, rfl⟩ | ⟨h9, g9, rfl⟩ <;> first | (exact zx_out hQ hlk hex ⟨by decide, by decide⟩ hJ9 (Or.inr (Or.inl ⟨h9, trivial, hF⟩))) | (exact zx_out hQ hlk hex ⟨by decide, by decide⟩ hJ9 (Or.inr (Or.inr (⟨h9, trivial, hF⟩))))) (fun M158 hI p159 => ?_)
    obtain ⟨hI, hW⟩ := hI
    obtain rfl := p159
    refine z_astore_n F dX11_judge_5 rfl (by decide) (ls' := [(3, .ref (ad 129)), (0, .ref (ad 0)), (1, ii x0), (2, ii x1)]) rfl ?_
    refine z_iload_n F dX11_judge_6 rfl (q := 3) rfl ?_
    refine z_iconst F dX11_judge_7 ?_
    refine zz_v (rest := []) F (k_X11_needWhat l hlT M ⟨hI, hW⟩ x1 (by omega) (by omega) 3 (by omega) (by omega)) cs_X11_252 (by decide) (by decide) ⟨by decide, by decide⟩ rfl rfl rfl (Nat.le_of_ble_eq_true rfl) dX11_judge_8 (fun E M9 hJ9 hx => by obtain ⟨h9, g9, rfl⟩ := hx <;> first | (exact zx_out hQ hlk hex ⟨by decide, by decide⟩ hJ9 (Or.inl ⟨h9, trivial, hF⟩))) (fun M160 hI p161 => ?_)
    obtain ⟨hI, hW⟩ := hI
    obtain ⟨rfl, xp161⟩ := p161
    refine z_aload_n F dX11_judge_11 rfl (q := 1) rfl ?_
    refine rf_X11_34 F gs_0 rfl dX11_judge_12 ?_
    refine gf_X11_255 F hI gs_35 rfl bd_35_5 dX11_judge_15 (fun v162 ev162 av162 bv162 => ?_)
    refine z_istore F dX11_judge_18 (by decide) (ls' := [(4, ii v162), (3, .ref (ad 129)), (0, .ref (ad 0)), (1, ii x0), (2, ii x1)]) rfl ?_
    refine z_aload_n F dX11_judge_20 rfl (q := 2) rfl ?_
    refine rf_X11_34 F gs_0 rfl dX11_judge_21 ?_
    refine z_aload_n F dX11_judge_24 rfl (q := 2) rfl ?_
    refine rf_X11_45 F gs_0 rfl dX11_judge_25 ?_
    refine z_iconst F dX11_judge_28 ?_
    refine zw_v (rest := []) F (k_X7_save_35_42 l M ⟨hI, hW⟩ 0 (by omega) (by omega) (by omega)) cs_X11_258 (T := TX7) (N := 7) (ci := 7) rfl gs_35 (by decide) (by decide) ⟨by decide, by decide⟩ rfl rfl rfl (Nat.le_of_ble_eq_true rfl) dX11_judge_29 (fun M163 hI p164 => ?_)
    obtain ⟨hI, hW⟩ := hI
    have fp164 := p164
    have hF := hF.call fp164 (by decide)
    refine z_aload_n F dX11_judge_32 rfl (q := 2) rfl ?_
    refine z_aload_n F dX11_judge_33 rfl (q := 1) rfl ?_
    refine z_iconst F dX11_judge_34 ?_
    refine zw_i (rest := []) F (k_X11_carryOut_0_129 l M163 ⟨hI, hW⟩ 0 (by omega) (by omega)) cs_X11_262 (T := TX11) (N := 14) (ci := 11) rfl gs_0 (by decide) (by decide) ⟨by decide, by decide⟩ rfl rfl rfl (Nat.le_of_ble_eq_true rfl) dX11_judge_35 (fun v165 M166 rv165 hI p167 => ?_)
    obtain ⟨hI, hW⟩ := hI
    obtain ⟨⟨av165, bv165⟩, fp167⟩ := p167
    have hF := hF.call fp167 (by decide)
    refine z_istore F dX11_judge_38 (by decide) (ls' := [(5, ii v165), (4, ii v162), (3, .ref (ad 129)), (0, .ref (ad 0)), (1, ii x0), (2, ii x1)]) rfl ?_
    refine z_iload F dX11_judge_40 (q := 0) rfl ?_
    refine z_aload_n F dX11_judge_42 rfl (q := 2) rfl ?_
    refine gf_X11_266 F hI gs_129 rfl bd_129_0 dX11_judge_43 (fun v168 ev168 av168 bv168 => ?_)
    refine z_icmp_ne (tgt := 53) F dX11_judge_46 (by decide +kernel) (by omega) (by omega) (fun c169 => ?_) (fun c169 => ?_)
    · refine z_iconst F dX11_judge_53 ?_
      refine z_istore F dX11_judge_54 (by decide) (ls' := [(6, ii 0), (5, ii v165), (4, ii v162), (3, .ref (ad 129)), (0, .ref (ad 0)), (1, ii x0), (2, ii x1)]) rfl ?_
      refine z_iload_n F dX11_judge_56 rfl (q := 6) rfl ?_
      rcases (show x1 = 0 ∨ x1 = 1 ∨ x1 = 2 ∨ (¬ x1 = 0 ∧ ¬ x1 = 1 ∧ ¬ x1 = 2) by omega) with c170 | c170 | c170 | c170
      · refine z_tabIn (tgt := 84) (off := 27) F dX11_judge_57 (by omega) (by omega) (by omega) (by rw [c170]; rfl) (by decide +kernel) ?_
        refine z_iload F dX11_judge_84 (q := 0) rfl ?_
        refine z_if_eq (tgt := 93) F dX11_judge_86 (by decide +kernel) (by omega) (fun c171 => ?_) (fun c171 => by exfalso; omega)
        refine z_iload F dX11_judge_93 (q := 1) rfl ?_
        refine z_istore F dX11_judge_95 (by decide) (ls' := [(7, ii v165), (6, ii 0), (5, ii v165), (4, ii v162), (3, .ref (ad 129)), (0, .ref (ad 0)), (1, ii x0), (2, ii x1)]) rfl ?_
        refine z_goto (tgt := 151) F dX11_judge_97 (by decide +kernel) ?_
        refine z_aload_n F dX11_judge_151 rfl (q := 5) rfl ?_
        refine rf_X11_34 F gs_0 rfl dX11_judge_152 ?_
        refine z_aload_n F dX11_judge_155 rfl (q := 5) rfl ?_
        refine rf_X11_45 F gs_0 rfl dX11_judge_156 ?_
        refine z_iconst F dX11_judge_159 ?_
        refine zw_v (rest := []) F (k_X7_load_35_42 l M166 ⟨hI, hW⟩ 0 (by omega) (by omega) (by omega)) cs_X11_275 (T := TX7) (N := 7) (ci := 7) rfl gs_35 (by decide) (by decide) ⟨by decide, by decide⟩ rfl rfl rfl (Nat.le_of_ble_eq_true rfl) dX11_judge_160 (fun M172 hI p173 => ?_)
        obtain ⟨hI, hW⟩ := hI
        have fp173 := p173
        have hF := hF.call fp173 (by decide)
        refine z_iload F dX11_judge_163 (q := 0) rfl ?_
        exact zxr_i F hQ hr hlk dX11_judge_165 ⟨by decide, by decide⟩ (by omega) ⟨hI, hW⟩ ⟨⟨by omega, by omega⟩, hF⟩
      · refine z_tabIn (tgt := 100) (off := 43) F dX11_judge_57 (by omega) (by omega) (by omega) (by rw [c170]; rfl) (by decide +kernel) ?_
        refine z_iload F dX11_judge_100 (q := 0) rfl ?_
        refine z_if_eq (tgt := 109) F dX11_judge_102 (by decide +kernel) (by omega) (fun c174 => ?_) (fun c174 => by exfalso; omega)
        refine z_aload_n F dX11_judge_109 rfl (q := 4) rfl ?_
        refine rf_X11_34 F gs_0 rfl dX11_judge_110 ?_
        refine z_aload_n F dX11_judge_113 rfl (q := 3) rfl ?_
        refine z_iload F dX11_judge_114 (q := 1) rfl ?_
        refine zw_l (rest := [.ref (ad 35)]) F (k_X10_numberAt_129 l M166 ⟨hI, hW⟩ v165 (by omega) (by omega)) cs_X11_267 (T := TX10) (N := 3) (ci := 10) rfl gs_129 (by decide) (by decide) ⟨by decide, by decide⟩ rfl rfl rfl (Nat.le_of_ble_eq_true rfl) dX11_judge_116 (fun v175 M176 rv175 hI p177 => ?_)
        obtain ⟨hI, hW⟩ := hI
        obtain ⟨⟨av175, bv175⟩, rfl⟩ := p177
        refine zw_i (rest := []) F (k_X7_obstacleOf_35 l M166 ⟨hI, hW⟩ v175 (by omega) (by omega)) cs_X11_271 (T := TX7) (N := 7) (ci := 7) rfl gs_35 (by decide) (by decide) ⟨by decide, by decide⟩ rfl rfl rfl (Nat.le_of_ble_eq_true rfl) dX11_judge_119 (fun v178 M179 rv178 hI p180 => ?_)
        obtain ⟨hI, hW⟩ := hI
        obtain ⟨⟨av178, bv178⟩, rfl, xp180⟩ := p180
        refine z_istore F dX11_judge_122 (by decide) (ls' := [(7, ii v178), (6, ii 0), (5, ii v165), (4, ii v162), (3, .ref (ad 129)), (0, .ref (ad 0)), (1, ii x0), (2, ii x1)]) rfl ?_
        refine z_goto (tgt := 151) F dX11_judge_124 (by decide +kernel) ?_
        refine z_aload_n F dX11_judge_151 rfl (q := 5) rfl ?_
        refine rf_X11_34 F gs_0 rfl dX11_judge_152 ?_
        refine z_aload_n F dX11_judge_155 rfl (q := 5) rfl ?_
        refine rf_X11_45 F gs_0 rfl dX11_judge_156 ?_
        refine z_iconst F dX11_judge_159 ?_
        refine zw_v (rest := []) F (k_X7_load_35_42 l M166 ⟨hI, hW⟩ 0 (by omega) (by omega) (by omega)) cs_X11_275 (T := TX7) (N := 7) (ci := 7) rfl gs_35 (by decide) (by decide) ⟨by decide, by decide⟩ rfl rfl rfl (Nat.le_of_ble_eq_true rfl) dX11_judge_160 (fun M181 hI p182 => ?_)
        obtain ⟨hI, hW⟩ := hI
        have fp182 := p182
        have hF := hF.call fp182 (by decide)
        refine z_iload F dX11_judge_163 (q := 0) rfl ?_
        exact zxr_i F hQ hr hlk dX11_judge_165 ⟨by decide, by decide⟩ (by omega) ⟨hI, hW⟩ ⟨⟨by omega, by omega⟩, hF⟩
      · refine z_tabIn (tgt := 127) (off := 70) F dX11_judge_57 (by omega) (by omega) (by omega) (by rw [c170]; rfl) (by decide +kernel) ?_
        refine z_aload_n F dX11_judge_127 rfl (q := 4) rfl ?_
        refine rf_X11_34 F gs_0 rfl dX11_judge_128 ?_
        refine gf_X11_255 F hI gs_35 rfl bd_35_5 dX11_judge_131 (fun v183 ev183 av183 bv183 => ?_)
        have q184 : v162 = M163 35 5 := ev162.trans ((fp164.at (by decide)) : M163 35 5 = _).symm
        refine z_iload F dX11_judge_134 (q := 2) rfl ?_
        refine z_isub F dX11_judge_136 ?_
        refine z_wrap (fun v185 rv185 wv185 => ?_)
        refine z_istore F dX11_judge_137 (by decide) (ls' := [(7, ii v185), (6, ii 0), (5, ii v165), (4, ii v162), (3, .ref (ad 129)), (0, .ref (ad 0)), (1, ii x0), (2, ii x1)]) rfl ?_
        refine z_goto (tgt := 151) F dX11_judge_139 (by decide +kernel) ?_
        refine z_aload_n F dX11_judge_151 rfl (q := 5) rfl ?_
        refine rf_X11_34 F gs_0 rfl dX11_judge_152 ?_
        refine z_aload_n F dX11_judge_155 rfl (q := 5) rfl ?_
        refine rf_X11_45 F gs_0 rfl dX11_judge_156 ?_
        refine z_iconst F dX11_judge_159 ?_
        refine zw_v (rest := []) F (k_X7_load_35_42 l M166 ⟨hI, hW⟩ 0 (by omega) (by omega) (by omega)) cs_X11_275 (T := TX7) (N := 7) (ci := 7) rfl gs_35 (by decide) (by decide) ⟨by decide, by decide⟩ rfl rfl rfl (Nat.le_of_ble_eq_true rfl) dX11_judge_160 (fun M186 hI p187 => ?_)
        obtain ⟨hI, hW⟩ := hI
        have fp187 := p187
        have hF := hF.call fp187 (by decide)
        refine z_iload F dX11_judge_163 (q := 0) rfl ?_
        exact zxr_i F hQ hr hlk dX11_judge_165 ⟨by decide, by decide⟩ (by omega) ⟨hI, hW⟩ ⟨⟨by omega, by omega⟩, hF⟩
      · refine z_tabOut (tgt := 142) F dX11_judge_57 (by omega) (by omega) (by decide +kernel) ?_
        refine z_aload_n F dX11_judge_142 rfl (q := 4) rfl ?_
        refine rf_X11_34 F gs_0 rfl dX11_judge_143 ?_
        refine zw_i (rest := []) F (k_X7_clashCount_35 l M166 ⟨hI, hW⟩) cs_X11_193 (T := TX7) (N := 7) (ci := 7) rfl gs_35 (by decide) (by decide) ⟨by decide, by decide⟩ rfl rfl rfl (Nat.le_of_ble_eq_true rfl) dX11_judge_146 (fun v188 M189 rv188 hI p190 => ?_)
        obtain ⟨hI, hW⟩ := hI
        obtain ⟨⟨av188, bv188⟩, rfl⟩ := p190
        refine z_istore F dX11_judge_149 (by decide) (ls' := [(7, ii v188), (6, ii 0), (5, ii v165), (4, ii v162), (3, .ref (ad 129)), (0, .ref (ad 0)), (1, ii x0), (2, ii x1)]) rfl ?_
        refine z_aload_n F dX11_judge_151 rfl (q := 5) rfl ?_
        refine rf_X11_34 F gs_0 rfl dX11_judge_152 ?_
        refine z_aload_n F dX11_judge_155 rfl (q := 5) rfl ?_
        refine rf_X11_45 F gs_0 rfl dX11_judge_156 ?_
        refine z_iconst F dX11_judge_159 ?_
        refine zw_v (rest := []) F (k_X7_load_35_42 l M166 ⟨hI, hW⟩ 0 (by omega) (by omega) (by omega)) cs_X11_275 (T := TX7) (N := 7) (ci := 7) rfl gs_35 (by decide) (by decide) ⟨by decide, by decide⟩ rfl rfl rfl (Nat.le_of_ble_eq_true rfl) dX11_judge_160 (fun M191 hI p192 => ?_)
        obtain ⟨hI, hW⟩ := hI
        have fp192 := p192
        have hF := hF.call fp192 (by decide)
        refine z_iload F dX11_judge_163 (q := 0) rfl ?_
        exact zxr_i F hQ hr hlk dX11_judge_165 ⟨by decide, by decide⟩ (by omega) ⟨hI, hW⟩ ⟨⟨by omega, by omega⟩, hF⟩
    · refine z_iconst F dX11_judge_49 ?_
      refine z_goto (tgt := 54) F dX11_judge_50 (by decide +kernel) ?_
      refine z_istore F dX11_judge_54 (by decide) (ls' := [(6, ii 1), (5, ii v165), (4, ii v162), (3, .ref (ad 129)), (0, .ref (ad 0)), (1, ii x0), (2, ii x1)]) rfl ?_
      refine z_iload_n F dX11_judge_56 rfl (q := 6) rfl ?_
      rcases (show x1 = 0 ∨ x1 = 1 ∨ x1 = 2 ∨ (¬ x1 = 0 ∧ ¬ x1 = 1 ∧ ¬ x1 = 2) by omega) with c193 | c193 | c193 | c193
      · refine z_tabIn (tgt := 84) (off := 27) F dX11_judge_57 (by omega) (by omega) (by omega) (by rw [c193]; rfl) (by decide +kernel) ?_
        refine z_iload F dX11_judge_84 (q := 0) rfl ?_
        refine z_if_eq (tgt := 93) F dX11_judge_86 (by decide +kernel) (by omega) (fun c194 => by exfalso; omega) (fun c194 => ?_)
        refine z_iconst F dX11_judge_89 ?_
        refine z_goto (tgt := 95) F dX11_judge_90 (by decide +kernel) ?_
        refine z_istore F dX11_judge_95 (by decide) (ls' := [(7, ii (-1)), (6, ii 1), (5, ii v165), (4, ii v162), (3, .ref (ad 129)), (0, .ref (ad 0)), (1, ii x0), (2, ii x1)]) rfl ?_
        refine z_goto (tgt := 151) F dX11_judge_97 (by decide +kernel) ?_
        refine z_aload_n F dX11_judge_151 rfl (q := 5) rfl ?_
        refine rf_X11_34 F gs_0 rfl dX11_judge_152 ?_
        refine z_aload_n F dX11_judge_155 rfl (q := 5) rfl ?_
        refine rf_X11_45 F gs_0 rfl dX11_judge_156 ?_
        refine z_iconst F dX11_judge_159 ?_
        refine zw_v (rest := []) F (k_X7_load_35_42 l M166 ⟨hI, hW⟩ 0 (by omega) (by omega) (by omega)) cs_X11_275 (T := TX7) (N := 7) (ci := 7) rfl gs_35 (by decide) (by decide) ⟨by decide, by decide⟩ rfl rfl rfl (Nat.le_of_ble_eq_true rfl) dX11_judge_160 (fun M195 hI p196 => ?_)
        obtain ⟨hI, hW⟩ := hI
        have fp196 := p196
        have hF := hF.call fp196 (by decide)
        refine z_iload F dX11_judge_163 (q := 0) rfl ?_
        exact zxr_i F hQ hr hlk dX11_judge_165 ⟨by decide, by decide⟩ (by omega) ⟨hI, hW⟩ ⟨⟨by omega, by omega⟩, hF⟩
      · refine z_tabIn (tgt := 100) (off := 43) F dX11_judge_57 (by omega) (by omega) (by omega) (by rw [c193]; rfl) (by decide +kernel) ?_
        refine z_iload F dX11_judge_100 (q := 0) rfl ?_
        refine z_if_eq (tgt := 109) F dX11_judge_102 (by decide +kernel) (by omega) (fun c197 => by exfalso; omega) (fun c197 => ?_)
        refine z_iconst F dX11_judge_105 ?_
        refine z_goto (tgt := 122) F dX11_judge_106 (by decide +kernel) ?_
        refine z_istore F dX11_judge_122 (by decide) (ls' := [(7, ii 0), (6, ii 1), (5, ii v165), (4, ii v162), (3, .ref (ad 129)), (0, .ref (ad 0)), (1, ii x0), (2, ii x1)]) rfl ?_
        refine z_goto (tgt := 151) F dX11_judge_124 (by decide +kernel) ?_
        refine z_aload_n F dX11_judge_151 rfl (q := 5) rfl ?_
        refine rf_X11_34 F gs_0 rfl dX11_judge_152 ?_
        refine z_aload_n F dX11_judge_155 rfl (q := 5) rfl ?_
        refine rf_X11_45 F gs_0 rfl dX11_judge_156 ?_
        refine z_iconst F dX11_judge_159 ?_
        refine zw_v (rest := []) F (k_X7_load_35_42 l M166 ⟨hI, hW⟩ 0 (by omega) (by omega) (by omega)) cs_X11_275 (T := TX7) (N := 7) (ci := 7) rfl gs_35 (by decide) (by decide) ⟨by decide, by decide⟩ rfl rfl rfl (Nat.le_of_ble_eq_true rfl) dX11_judge_160 (fun M198 hI p199 => ?_)
        obtain ⟨hI, hW⟩ := hI
        have fp199 := p199
        have hF := hF.call fp199 (by decide)
        refine z_iload F dX11_judge_163 (q := 0) rfl ?_
        exact zxr_i F hQ hr hlk dX11_judge_165 ⟨by decide, by decide⟩ (by omega) ⟨hI, hW⟩ ⟨⟨by omega, by omega⟩, hF⟩
      · refine z_tabIn (tgt := 127) (off := 70) F dX11_judge_57 (by omega) (by omega) (by omega) (by rw [c193]; rfl) (by decide +kernel) ?_
        refine z_aload_n F dX11_judge_127 rfl (q := 4) rfl ?_
        refine rf_X11_34 F gs_0 rfl dX11_judge_128 ?_
        refine gf_X11_255 F hI gs_35 rfl bd_35_5 dX11_judge_131 (fun v200 ev200 av200 bv200 => ?_)
        have q201 : v162 = M163 35 5 := ev162.trans ((fp164.at (by decide)) : M163 35 5 = _).symm
        refine z_iload F dX11_judge_134 (q := 2) rfl ?_
        refine z_isub F dX11_judge_136 ?_
        refine z_wrap (fun v202 rv202 wv202 => ?_)
        refine z_istore F dX11_judge_137 (by decide) (ls' := [(7, ii v202), (6, ii 1), (5, ii v165), (4, ii v162), (3, .ref (ad 129)), (0, .ref (ad 0)), (1, ii x0), (2, ii x1)]) rfl ?_
        refine z_goto (tgt := 151) F dX11_judge_139 (by decide +kernel) ?_
        refine z_aload_n F dX11_judge_151 rfl (q := 5) rfl ?_
        refine rf_X11_34 F gs_0 rfl dX11_judge_152 ?_
        refine z_aload_n F dX11_judge_155 rfl (q := 5) rfl ?_
        refine rf_X11_45 F gs_0 rfl dX11_judge_156 ?_
        refine z_iconst F dX11_judge_159 ?_
        refine zw_v (rest := []) F (k_X7_load_35_42 l M166 ⟨hI, hW⟩ 0 (by omega) (by omega) (by omega)) cs_X11_275 (T := TX7) (N := 7) (ci := 7) rfl gs_35 (by decide) (by decide) ⟨by decide, by decide⟩ rfl rfl rfl (Nat.le_of_ble_eq_true rfl) dX11_judge_160 (fun M203 hI p204 => ?_)
        obtain ⟨hI, hW⟩ := hI
        have fp204 := p204
        have hF := hF.call fp204 (by decide)
        refine z_iload F dX11_judge_163 (q := 0) rfl ?_
        exact zxr_i F hQ hr hlk dX11_judge_165 ⟨by decide, by decide⟩ (by omega) ⟨hI, hW⟩ ⟨⟨by omega, by omega⟩, hF⟩
      · refine z_tabOut (tgt := 142) F dX11_judge_57 (by omega) (by omega) (by decide +kernel) ?_
        refine z_aload_n F dX11_judge_142 rfl (q := 4) rfl ?_
        refine rf_X11_34 F gs_0 rfl dX11_judge_143 ?_
        refine zw_i (rest := []) F (k_X7_clashCount_35 l M166 ⟨hI, hW⟩) cs_X11_193 (T := TX7) (N := 7) (ci := 7) rfl gs_35 (by decide) (by decide) ⟨by decide, by decide⟩ rfl rfl rfl (Nat.le_of_ble_eq_true rfl) dX11_judge_146 (fun v205 M206 rv205 hI p207 => ?_)
        obtain ⟨hI, hW⟩ := hI
        obtain ⟨⟨av205, bv205⟩, rfl⟩ := p207
        refine z_istore F dX11_judge_149 (by decide) (ls' := [(7, ii v205), (6, ii 1), (5, ii v165), (4, ii v162), (3, .ref (ad 129)), (0, .ref (ad 0)), (1, ii x0), (2, ii x1)]) rfl ?_
        refine z_aload_n F dX11_judge_151 rfl (q := 5) rfl ?_
        refine rf_X11_34 F gs_0 rfl dX11_judge_152 ?_
        refine z_aload_n F dX11_judge_155 rfl (q := 5) rfl ?_
        refine rf_X11_45 F gs_0 rfl dX11_judge_156 ?_
        refine z_iconst F dX11_judge_159 ?_
        refine zw_v (rest := []) F (k_X7_load_35_42 l M166 ⟨hI, hW⟩ 0 (by omega) (by omega) (by omega)) cs_X11_275 (T := TX7) (N := 7) (ci := 7) rfl gs_35 (by decide) (by decide) ⟨by decide, by decide⟩ rfl rfl rfl (Nat.le_of_ble_eq_true rfl) dX11_judge_160 (fun M208 hI p209 => ?_)
        obtain ⟨hI, hW⟩ := hI
        have fp209 := p209
        have hF := hF.call fp209 (by decide)
        refine z_iload F dX11_judge_163 (q := 0) rfl ?_
        exact zxr_i F hQ hr hlk dX11_judge_165 ⟨by decide, by decide⟩ (by omega) ⟨hI, hW⟩ ⟨⟨by omega, by omega⟩, hF⟩
  · refine zy_r (rest := []) F (k_X11_filledTray_to l hlT M ⟨hI, hW⟩ x0 (by omega) (by omega) (by omega)) cs_X11_248 (T := TX11) (N := 14) (ci := 11) rfl gs_0 (by decide) (by decide) ⟨by decide, by decide⟩ rfl rfl rfl (Nat.le_of_ble_eq_true rfl) dX11_judge_2 (fun E M9 hJ9 hx => by obtain ⟨h9, g9, rfl⟩ := hx <;> first | (exact zx_out hQ hlk hex ⟨by decide, by decide⟩ hJ9 (Or.inr (Or.inr (⟨h9, trivial, hF⟩))))) (fun M210 hI p211 => ?_)
    obtain ⟨hI, hW⟩ := hI
    obtain ⟨rfl, xp211⟩ := p211
    exact xp211.elim
set_option maxRecDepth 4000 in
theorem k_X11_perform (l : Launch) (hlT : l.stackTraces = false) (M : Mem) (hJ : Iw M) (x0 : Int) (hx0a : (-2147483648) ≤ x0) (hx0b : x0 ≤ 2147483647) : CIX l yX11_perform cX11_perform 2 (some .int) 8 2 (fun ad => [.ref (ad 0), ii x0]) M (fun z M' => ((-1) ≤ z ∧ z ≤ 30) ∧ Fr [16, 17, 35, 36, 37, 38, 39, 40, 41] M M') (fun E M' => (E = "java/lang/IllegalStateException" ∧ True ∧ Fr [16, 17, 35, 36, 37, 38, 39, 40, 41] M M') ∨ (E = "java/util/NoSuchElementException" ∧ True ∧ Fr [16, 17, 35, 36, 37, 38, 39, 40, 41] M M')) := by
  obtain ⟨hI, hW⟩ := hJ
  have hF : Fr [16, 17, 35, 36, 37, 38, 39, 40, 41] M M := Fr.rf
  refine enx_i (by decide +kernel) (fun ad => by exact Nat.le_of_ble_eq_true rfl) (fun D cy ad A p e s m args below meth c Q F hQ hr hlk hex => ?_)
  refine z_eq (ls' := [(0, .ref (ad 0)), (1, ii x0)]) rfl rfl rfl ?_
  refine z_aload_n F dX11_perform_0 rfl (q := 0) rfl ?_
  refine z_aload_n F dX11_perform_1 rfl (q := 0) rfl ?_
  refine z_iload_n F dX11_perform_2 rfl (q := 1) rfl ?_
  rcases (show x0 = 0 ∨ x0 = 1 ∨ x0 = 2 ∨ x0 = 3 ∨ (x0 < 0 ∨ 3 < x0) by omega) with c1 | c1 | c1 | c1 | c1
  · refine zy_r (rest := [.ref (ad 0)]) F (k_X11_filledTray_t0 l hlT M ⟨hI, hW⟩ x0 (by omega) (by omega)) cs_X11_248 (T := TX11) (N := 14) (ci := 11) rfl gs_0 (by decide) (by decide) ⟨by decide, by decide⟩ rfl rfl rfl (Nat.le_of_ble_eq_true rfl) dX11_perform_3 (fun E M9 hJ9 hx => by rcases hx with ⟨h9, g9, rfl⟩ | ⟨h9, g9, rfl⟩ <;> first | (exact zx_out hQ hlk hex ⟨by decide, by decide⟩ hJ9 (Or.inl ⟨h9, trivial, hF⟩)) | (exact zx_out hQ hlk hex ⟨by decide, by decide⟩ hJ9 (Or.inr (⟨h9, trivial, hF⟩)))) (fun M2 hI p3 => ?_)
    obtain ⟨hI, hW⟩ := hI
    obtain rfl := p3
    refine z_iconst F dX11_perform_6 ?_
    refine zw_i (rest := []) F (k_X11_carryOut_0_123 l M ⟨hI, hW⟩ 1 (by omega) (by omega)) cs_X11_262 (T := TX11) (N := 14) (ci := 11) rfl gs_0 (by decide) (by decide) ⟨by decide, by decide⟩ rfl rfl rfl (Nat.le_of_ble_eq_true rfl) dX11_perform_7 (fun v4 M5 rv4 hI p6 => ?_)
    obtain ⟨hI, hW⟩ := hI
    obtain ⟨⟨av4, bv4⟩, fp6⟩ := p6
    have hF := hF.call fp6 (by decide)
    exact zxr_i F hQ hr hlk dX11_perform_10 ⟨by decide, by decide⟩ (by omega) ⟨hI, hW⟩ ⟨⟨by omega, by omega⟩, hF⟩
  · refine zy_r (rest := [.ref (ad 0)]) F (k_X11_filledTray_t1 l hlT M ⟨hI, hW⟩ x0 (by omega) (by omega)) cs_X11_248 (T := TX11) (N := 14) (ci := 11) rfl gs_0 (by decide) (by decide) ⟨by decide, by decide⟩ rfl rfl rfl (Nat.le_of_ble_eq_true rfl) dX11_perform_3 (fun E M9 hJ9 hx => by rcases hx with ⟨h9, g9, rfl⟩ | ⟨h9, g9, rfl⟩ <;> first | (exact zx_out hQ hlk hex ⟨by decide, by decide⟩ hJ9 (Or.inl ⟨h9, trivial, hF⟩)) | (exact zx_out hQ hlk hex ⟨by decide, by decide⟩ hJ9 (Or.inr (⟨h9, trivial, hF⟩)))) (fun M7 hI p8 => ?_)
    obtain ⟨hI, hW⟩ := hI
    obtain rfl := p8
    refine z_iconst F dX11_perform_6 ?_
    refine zw_i (rest := []) F (k_X11_carryOut_0_125 l M ⟨hI, hW⟩ 1 (by omega) (by omega)) cs_X11_262 (T := TX11) (N := 14) (ci := 11) rfl gs_0 (by decide) (by decide) ⟨by decide, by decide⟩ rfl rfl rfl (Nat.le_of_ble_eq_true rfl) dX11_perform_7 (fun v9 M10 rv9 hI p11 => ?_)
    obtain ⟨hI, hW⟩ := hI
    obtain ⟨⟨av9, bv9⟩, fp11⟩ := p11
    have hF := hF.call fp11 (by decide)
    exact zxr_i F hQ hr hlk dX11_perform_10 ⟨by decide, by decide⟩ (by omega) ⟨hI, hW⟩ ⟨⟨by omega, by omega⟩, hF⟩
  · refine zy_r (rest := [.ref (ad 0)]) F (k_X11_filledTray_t2 l hlT M ⟨hI, hW⟩ x0 (by omega) (by omega)) cs_X11_248 (T := TX11) (N := 14) (ci := 11) rfl gs_0 (by decide) (by decide) ⟨by decide, by decide⟩ rfl rfl rfl (Nat.le_of_ble_eq_true rfl) dX11_perform_3 (fun E M9 hJ9 hx => by rcases hx with ⟨h9, g9, rfl⟩ | ⟨h9, g9, rfl⟩ <;> first | (exact zx_out hQ hlk hex ⟨by decide, by decide⟩ hJ9 (Or.inl ⟨h9, trivial, hF⟩)) | (exact zx_out hQ hlk hex ⟨by decide, by decide⟩ hJ9 (Or.inr (⟨h9, trivial, hF⟩)))) (fun M12 hI p13 => ?_)
    obtain ⟨hI, hW⟩ := hI
    obtain rfl := p13
    refine z_iconst F dX11_perform_6 ?_
    refine zw_i (rest := []) F (k_X11_carryOut_0_127 l M ⟨hI, hW⟩ 1 (by omega) (by omega)) cs_X11_262 (T := TX11) (N := 14) (ci := 11) rfl gs_0 (by decide) (by decide) ⟨by decide, by decide⟩ rfl rfl rfl (Nat.le_of_ble_eq_true rfl) dX11_perform_7 (fun v14 M15 rv14 hI p16 => ?_)
    obtain ⟨hI, hW⟩ := hI
    obtain ⟨⟨av14, bv14⟩, fp16⟩ := p16
    have hF := hF.call fp16 (by decide)
    exact zxr_i F hQ hr hlk dX11_perform_10 ⟨by decide, by decide⟩ (by omega) ⟨hI, hW⟩ ⟨⟨by omega, by omega⟩, hF⟩
  · refine zy_r (rest := [.ref (ad 0)]) F (k_X11_filledTray_t3 l hlT M ⟨hI, hW⟩ x0 (by omega) (by omega)) cs_X11_248 (T := TX11) (N := 14) (ci := 11) rfl gs_0 (by decide) (by decide) ⟨by decide, by decide⟩ rfl rfl rfl (Nat.le_of_ble_eq_true rfl) dX11_perform_3 (fun E M9 hJ9 hx => by rcases hx with ⟨h9, g9, rfl⟩ | ⟨h9, g9, rfl⟩ <;> first | (exact zx_out hQ hlk hex ⟨by decide, by decide⟩ hJ9 (Or.inl ⟨h9, trivial, hF⟩)) | (exact zx_out hQ hlk hex ⟨by decide, by decide⟩ hJ9 (Or.inr (⟨h9, trivial, hF⟩)))) (fun M17 hI p18 => ?_)
    obtain ⟨hI, hW⟩ := hI
    obtain rfl := p18
    refine z_iconst F dX11_perform_6 ?_
    refine zw_i (rest := []) F (k_X11_carryOut_0_129 l M ⟨hI, hW⟩ 1 (by omega) (by omega)) cs_X11_262 (T := TX11) (N := 14) (ci := 11) rfl gs_0 (by decide) (by decide) ⟨by decide, by decide⟩ rfl rfl rfl (Nat.le_of_ble_eq_true rfl) dX11_perform_7 (fun v19 M20 rv19 hI p21 => ?_)
    obtain ⟨hI, hW⟩ := hI
    obtain ⟨⟨av19, bv19⟩, fp21⟩ := p21
    have hF := hF.call fp21 (by decide)
    exact zxr_i F hQ hr hlk dX11_perform_10 ⟨by decide, by decide⟩ (by omega) ⟨hI, hW⟩ ⟨⟨by omega, by omega⟩, hF⟩
  · refine zy_r (rest := [.ref (ad 0)]) F (k_X11_filledTray_to l hlT M ⟨hI, hW⟩ x0 (by omega) (by omega) (by omega)) cs_X11_248 (T := TX11) (N := 14) (ci := 11) rfl gs_0 (by decide) (by decide) ⟨by decide, by decide⟩ rfl rfl rfl (Nat.le_of_ble_eq_true rfl) dX11_perform_3 (fun E M9 hJ9 hx => by obtain ⟨h9, g9, rfl⟩ := hx <;> first | (exact zx_out hQ hlk hex ⟨by decide, by decide⟩ hJ9 (Or.inr (⟨h9, trivial, hF⟩)))) (fun M22 hI p23 => ?_)
    obtain ⟨hI, hW⟩ := hI
    obtain ⟨rfl, xp23⟩ := p23
    exact xp23.elim
set_option maxRecDepth 4000 in
theorem k_X11_drawBelow (l : Launch) (M : Mem) (hJ : Iw M) (x0 : Int) (hx0a : 0 ≤ x0) (hx0b : x0 ≤ 10) : CI l yX11_drawBelow cX11_drawBelow 2 (some .int) 1 (fun ad => [.ref (ad 0), ii x0]) M (fun z M' => (0 ≤ z ∧ z ≤ 9) ∧ Fr [0] M M' ∧ (x0 = 0 ∧ z = 0 ∨ 0 ≤ z ∧ z < x0)) := by
  obtain ⟨hI, hW⟩ := hJ
  have hF : Fr [0] M M := Fr.rf
  refine en_i (by decide +kernel) (fun ad => by exact Nat.le_of_ble_eq_true rfl) (fun D cy ad A p e s m args below meth c Q F hret => ?_)
  refine z_eq (ls' := [(0, .ref (ad 0)), (1, ii x0)]) rfl rfl rfl ?_
  refine z_aload_n F dX11_drawBelow_0 rfl (q := 0) rfl ?_
  refine z_ldcw (x := 1103515245) F dX11_drawBelow_1 (gin lm_569 rfl) (by decide +kernel) ?_
  refine z_aload_n F dX11_drawBelow_4 rfl (q := 0) rfl ?_
  refine gf_X11_294 F hI gs_0 rfl bd_0_13 dX11_drawBelow_5 (fun v1 ev1 av1 bv1 => ?_)
  refine z_imul F dX11_drawBelow_8 ?_
  refine z_wrap (fun v2 rv2 wv2 => ?_)
  refine z_sipush F dX11_drawBelow_9 (by decide +kernel) ?_
  refine z_iadd F dX11_drawBelow_12 ?_
  refine z_wrap (fun v3 rv3 wv3 => ?_)
  refine pf_X11_294 F hI gs_0 rfl bd_0_13 rfl rfl dX11_drawBelow_13 (by omega) (by omega) (fun M5 hI sf4 f4 => ?_)
  have hF := hF.wrz f4 (by decide) (by decide)
  have hW : WFk M5 := hW.site f4 (by decide)
  refine z_iload_n F dX11_drawBelow_16 rfl (q := 1) rfl ?_
  refine z_if_le (tgt := 32) F dX11_drawBelow_17 (by decide +kernel) (by omega) (fun c6 => ?_) (fun c6 => ?_)
  · refine z_iconst F dX11_drawBelow_32 ?_
    exact hret _ _ 33 _ (by omega) ⟨hI, hW⟩ ⟨⟨by omega, by omega⟩, hF, (by omega)⟩ dX11_drawBelow_33
  · refine z_aload_n F dX11_drawBelow_20 rfl (q := 0) rfl ?_
    refine gf_X11_294 F hI gs_0 rfl bd_0_13 dX11_drawBelow_21 (fun v7 ev7 av7 bv7 => ?_)
    have zv7 : v3 = v7 := sf4.symm.trans ev7.symm
    subst zv7
    refine z_bipush F dX11_drawBelow_24 (by decide +kernel) ?_
    refine z_iushr_k (k := 16) F dX11_drawBelow_26 (by decide) (by decide +kernel) (fun v8 av8 bv8 => ?_)
    refine z_iload_n F dX11_drawBelow_27 rfl (q := 1) rfl ?_
    refine z_irem_v F dX11_drawBelow_28 (by omega) (by omega) (by omega) (by omega) (fun v9 av9 bv9 => ?_)
    refine z_goto (tgt := 33) F dX11_drawBelow_29 (by decide +kernel) ?_
    exact hret _ _ 33 _ (by omega) ⟨hI, hW⟩ ⟨⟨by omega, by omega⟩, hF, (by omega)⟩ dX11_drawBelow_33
