theorem dX0_countStories_0 : decode cX0_countStories 0 = .ok (.aload_n 0, 1) := by decide +kernel
theorem dX0_countStories_1 : decode cX0_countStories 1 = .ok (.aload_n 0, 1) := by decide +kernel
theorem dX0_countStories_10 : decode cX0_countStories 10 = .ok (.putfield 126, 3) := by decide +kernel
theorem dX0_countStories_13 : decode cX0_countStories 13 = .ok (.aload_n 0, 1) := by decide +kernel
theorem dX0_countStories_14 : decode cX0_countStories 14 = .ok (.bipush (-2), 2) := by decide +kernel
theorem dX0_countStories_16 : decode cX0_countStories 16 = .ok (.putfield 129, 3) := by decide +kernel
theorem dX0_countStories_19 : decode cX0_countStories 19 = .ok (.aload_n 0, 1) := by decide +kernel
theorem dX0_countStories_2 : decode cX0_countStories 2 = .ok (.getfield 123, 3) := by decide +kernel
theorem dX0_countStories_20 : decode cX0_countStories 20 = .ok (.iconst 0, 1) := by decide +kernel
theorem dX0_countStories_21 : decode cX0_countStories 21 = .ok (.iload_n 1, 1) := by decide +kernel
theorem dX0_countStories_22 : decode cX0_countStories 22 = .ok (.invokevirtual 132, 3) := by decide +kernel
theorem dX0_countStories_25 : decode cX0_countStories 25 = .ok (.aload_n 0, 1) := by decide +kernel
theorem dX0_countStories_26 : decode cX0_countStories 26 = .ok (.getfield 126, 3) := by decide +kernel
theorem dX0_countStories_29 : decode cX0_countStories 29 = .ok (.ireturn, 1) := by decide +kernel
theorem dX0_countStories_5 : decode cX0_countStories 5 = .ok (.invokevirtual 94, 3) := by decide +kernel
theorem dX0_countStories_8 : decode cX0_countStories 8 = .ok (.aload_n 0, 1) := by decide +kernel
theorem dX0_countStories_9 : decode cX0_countStories 9 = .ok (.iconst 0, 1) := by decide +kernel
theorem dX0_follow_0 : decode cX0_follow 0 = .ok (.iload_n 1, 1) := by decide +kernel
theorem dX0_follow_1 : decode cX0_follow 1 = .ok (.aload_n 0, 1) := by decide +kernel
theorem dX0_follow_10 : decode cX0_follow 10 = .ok (.if_icmp .lt 9, 3) := by decide +kernel
theorem dX0_follow_13 : decode cX0_follow 13 = .ok (.aload_n 0, 1) := by decide +kernel
theorem dX0_follow_14 : decode cX0_follow 14 = .ok (.iload_n 2, 1) := by decide +kernel
theorem dX0_follow_15 : decode cX0_follow 15 = .ok (.invokevirtual 136, 3) := by decide +kernel
theorem dX0_follow_18 : decode cX0_follow 18 = .ok (.return_, 1) := by decide +kernel
theorem dX0_follow_19 : decode cX0_follow 19 = .ok (.iconst (-1), 1) := by decide +kernel
theorem dX0_follow_2 : decode cX0_follow 2 = .ok (.getfield 123, 3) := by decide +kernel
theorem dX0_follow_20 : decode cX0_follow 20 = .ok (.istore_n 3, 1) := by decide +kernel
theorem dX0_follow_21 : decode cX0_follow 21 = .ok (.iload_n 3, 1) := by decide +kernel
theorem dX0_follow_22 : decode cX0_follow 22 = .ok (.aload_n 0, 1) := by decide +kernel
theorem dX0_follow_23 : decode cX0_follow 23 = .ok (.getfield 34, 3) := by decide +kernel
theorem dX0_follow_26 : decode cX0_follow 26 = .ok (.getfield 72, 3) := by decide +kernel
theorem dX0_follow_29 : decode cX0_follow 29 = .ok (.if_icmp .ge 64, 3) := by decide +kernel
theorem dX0_follow_32 : decode cX0_follow 32 = .ok (.aload_n 0, 1) := by decide +kernel
theorem dX0_follow_33 : decode cX0_follow 33 = .ok (.getfield 22, 3) := by decide +kernel
theorem dX0_follow_36 : decode cX0_follow 36 = .ok (.iload_n 1, 1) := by decide +kernel
theorem dX0_follow_37 : decode cX0_follow 37 = .ok (.iload_n 3, 1) := by decide +kernel
theorem dX0_follow_38 : decode cX0_follow 38 = .ok (.iastore, 1) := by decide +kernel
theorem dX0_follow_39 : decode cX0_follow 39 = .ok (.aload_n 0, 1) := by decide +kernel
theorem dX0_follow_40 : decode cX0_follow 40 = .ok (.iload_n 3, 1) := by decide +kernel
theorem dX0_follow_41 : decode cX0_follow 41 = .ok (.iconst 1, 1) := by decide +kernel
theorem dX0_follow_42 : decode cX0_follow 42 = .ok (.invokevirtual 139, 3) := by decide +kernel
theorem dX0_follow_45 : decode cX0_follow 45 = .ok (.aload_n 0, 1) := by decide +kernel
theorem dX0_follow_46 : decode cX0_follow 46 = .ok (.getfield 18, 3) := by decide +kernel
theorem dX0_follow_49 : decode cX0_follow 49 = .ok (.iload_n 1, 1) := by decide +kernel
theorem dX0_follow_5 : decode cX0_follow 5 = .ok (.if_icmp .ge 8, 3) := by decide +kernel
theorem dX0_follow_50 : decode cX0_follow 50 = .ok (.laload, 1) := by decide +kernel
theorem dX0_follow_51 : decode cX0_follow 51 = .ok (.ldc2_w 121, 3) := by decide +kernel
theorem dX0_follow_54 : decode cX0_follow 54 = .ok (.lcmp, 1) := by decide +kernel
theorem dX0_follow_55 : decode cX0_follow 55 = .ok (.ifCond .eq 18, 3) := by decide +kernel
theorem dX0_follow_58 : decode cX0_follow 58 = .ok (.aload_n 0, 1) := by decide +kernel
theorem dX0_follow_59 : decode cX0_follow 59 = .ok (.getfield 18, 3) := by decide +kernel
theorem dX0_follow_62 : decode cX0_follow 62 = .ok (.iload_n 1, 1) := by decide +kernel
theorem dX0_follow_63 : decode cX0_follow 63 = .ok (.laload, 1) := by decide +kernel
theorem dX0_follow_64 : decode cX0_follow 64 = .ok (.aload_n 0, 1) := by decide +kernel
theorem dX0_follow_65 : decode cX0_follow 65 = .ok (.invokevirtual 108, 3) := by decide +kernel
theorem dX0_follow_68 : decode cX0_follow 68 = .ok (.i2l, 1) := by decide +kernel
theorem dX0_follow_69 : decode cX0_follow 69 = .ok (.lcmp, 1) := by decide +kernel
theorem dX0_follow_70 : decode cX0_follow 70 = .ok (.ifCond .ne 11, 3) := by decide +kernel
theorem dX0_follow_73 : decode cX0_follow 73 = .ok (.aload_n 0, 1) := by decide +kernel
theorem dX0_follow_74 : decode cX0_follow 74 = .ok (.iload_n 1, 1) := by decide +kernel
theorem dX0_follow_75 : decode cX0_follow 75 = .ok (.iconst 1, 1) := by decide +kernel
theorem dX0_follow_76 : decode cX0_follow 76 = .ok (.iadd, 1) := by decide +kernel
theorem dX0_follow_77 : decode cX0_follow 77 = .ok (.iload_n 2, 1) := by decide +kernel
theorem dX0_follow_78 : decode cX0_follow 78 = .ok (.invokevirtual 132, 3) := by decide +kernel
theorem dX0_follow_8 : decode cX0_follow 8 = .ok (.iload_n 1, 1) := by decide +kernel
theorem dX0_follow_81 : decode cX0_follow 81 = .ok (.aload_n 0, 1) := by decide +kernel
theorem dX0_follow_82 : decode cX0_follow 82 = .ok (.iload_n 3, 1) := by decide +kernel
theorem dX0_follow_83 : decode cX0_follow 83 = .ok (.iconst (-1), 1) := by decide +kernel
theorem dX0_follow_84 : decode cX0_follow 84 = .ok (.invokevirtual 139, 3) := by decide +kernel
theorem dX0_follow_87 : decode cX0_follow 87 = .ok (.iinc 3 1, 3) := by decide +kernel
theorem dX0_follow_9 : decode cX0_follow 9 = .ok (.iconst 4, 1) := by decide +kernel
theorem dX0_follow_90 : decode cX0_follow 90 = .ok (.goto (-69), 3) := by decide +kernel
theorem dX0_follow_93 : decode cX0_follow 93 = .ok (.return_, 1) := by decide +kernel
theorem dX0_look_0 : decode cX0_look 0 = .ok (.aload_n 1, 1) := by decide +kernel
theorem dX0_look_1 : decode cX0_look 1 = .ok (.getfield 112, 3) := by decide +kernel
theorem dX0_look_12 : decode cX0_look 12 = .ok (.iconst 4, 1) := by decide +kernel
theorem dX0_look_13 : decode cX0_look 13 = .ok (.if_icmp .le 5, 3) := by decide +kernel
theorem dX0_look_16 : decode cX0_look 16 = .ok (.iconst 0, 1) := by decide +kernel
theorem dX0_look_17 : decode cX0_look 17 = .ok (.ireturn, 1) := by decide +kernel
theorem dX0_look_18 : decode cX0_look 18 = .ok (.iconst 0, 1) := by decide +kernel
theorem dX0_look_19 : decode cX0_look 19 = .ok (.istore_n 2, 1) := by decide +kernel
theorem dX0_look_20 : decode cX0_look 20 = .ok (.iload_n 2, 1) := by decide +kernel
theorem dX0_look_21 : decode cX0_look 21 = .ok (.aload_n 1, 1) := by decide +kernel
theorem dX0_look_22 : decode cX0_look 22 = .ok (.getfield 112, 3) := by decide +kernel
theorem dX0_look_25 : decode cX0_look 25 = .ok (.if_icmp .ge 34, 3) := by decide +kernel
theorem dX0_look_28 : decode cX0_look 28 = .ok (.aload_n 1, 1) := by decide +kernel
theorem dX0_look_29 : decode cX0_look 29 = .ok (.iload_n 2, 1) := by decide +kernel
theorem dX0_look_30 : decode cX0_look 30 = .ok (.invokevirtual 117, 3) := by decide +kernel
theorem dX0_look_33 : decode cX0_look 33 = .ok (.ldc2_w 121, 3) := by decide +kernel
theorem dX0_look_36 : decode cX0_look 36 = .ok (.lcmp, 1) := by decide +kernel
theorem dX0_look_37 : decode cX0_look 37 = .ok (.ifCond .ge 5, 3) := by decide +kernel
theorem dX0_look_4 : decode cX0_look 4 = .ok (.iconst 1, 1) := by decide +kernel
theorem dX0_look_40 : decode cX0_look 40 = .ok (.iconst 0, 1) := by decide +kernel
theorem dX0_look_41 : decode cX0_look 41 = .ok (.ireturn, 1) := by decide +kernel
theorem dX0_look_42 : decode cX0_look 42 = .ok (.aload_n 0, 1) := by decide +kernel
theorem dX0_look_43 : decode cX0_look 43 = .ok (.getfield 18, 3) := by decide +kernel
theorem dX0_look_46 : decode cX0_look 46 = .ok (.iload_n 2, 1) := by decide +kernel
theorem dX0_look_47 : decode cX0_look 47 = .ok (.aload_n 1, 1) := by decide +kernel
theorem dX0_look_48 : decode cX0_look 48 = .ok (.iload_n 2, 1) := by decide +kernel
theorem dX0_look_49 : decode cX0_look 49 = .ok (.invokevirtual 117, 3) := by decide +kernel
theorem dX0_look_5 : decode cX0_look 5 = .ok (.if_icmp .lt 11, 3) := by decide +kernel
theorem dX0_look_52 : decode cX0_look 52 = .ok (.lastore, 1) := by decide +kernel
theorem dX0_look_53 : decode cX0_look 53 = .ok (.iinc 2 1, 3) := by decide +kernel
theorem dX0_look_56 : decode cX0_look 56 = .ok (.goto (-36), 3) := by decide +kernel
theorem dX0_look_59 : decode cX0_look 59 = .ok (.aload_n 0, 1) := by decide +kernel
theorem dX0_look_60 : decode cX0_look 60 = .ok (.aload_n 1, 1) := by decide +kernel
theorem dX0_look_61 : decode cX0_look 61 = .ok (.getfield 112, 3) := by decide +kernel
theorem dX0_look_64 : decode cX0_look 64 = .ok (.putfield 123, 3) := by decide +kernel
theorem dX0_look_67 : decode cX0_look 67 = .ok (.iconst 1, 1) := by decide +kernel
theorem dX0_look_68 : decode cX0_look 68 = .ok (.ireturn, 1) := by decide +kernel
theorem dX0_look_8 : decode cX0_look 8 = .ok (.aload_n 1, 1) := by decide +kernel
theorem dX0_look_9 : decode cX0_look 9 = .ok (.getfield 112, 3) := by decide +kernel
theorem dX0_noteStory_0 : decode cX0_noteStory 0 = .ok (.aload_n 0, 1) := by decide +kernel
theorem dX0_noteStory_1 : decode cX0_noteStory 1 = .ok (.dup, 1) := by decide +kernel
theorem dX0_noteStory_10 : decode cX0_noteStory 10 = .ok (.aload_n 0, 1) := by decide +kernel
theorem dX0_noteStory_11 : decode cX0_noteStory 11 = .ok (.getfield 126, 3) := by decide +kernel
theorem dX0_noteStory_14 : decode cX0_noteStory 14 = .ok (.iconst 1, 1) := by decide +kernel
theorem dX0_noteStory_15 : decode cX0_noteStory 15 = .ok (.if_icmp .ne 16, 3) := by decide +kernel
theorem dX0_noteStory_18 : decode cX0_noteStory 18 = .ok (.aload_n 0, 1) := by decide +kernel
theorem dX0_noteStory_19 : decode cX0_noteStory 19 = .ok (.aload_n 0, 1) := by decide +kernel
theorem dX0_noteStory_2 : decode cX0_noteStory 2 = .ok (.getfield 126, 3) := by decide +kernel
theorem dX0_noteStory_20 : decode cX0_noteStory 20 = .ok (.getfield 22, 3) := by decide +kernel
theorem dX0_noteStory_23 : decode cX0_noteStory 23 = .ok (.iload_n 1, 1) := by decide +kernel
theorem dX0_noteStory_24 : decode cX0_noteStory 24 = .ok (.iaload, 1) := by decide +kernel
theorem dX0_noteStory_25 : decode cX0_noteStory 25 = .ok (.putfield 129, 3) := by decide +kernel
theorem dX0_noteStory_28 : decode cX0_noteStory 28 = .ok (.goto 22, 3) := by decide +kernel
theorem dX0_noteStory_31 : decode cX0_noteStory 31 = .ok (.aload_n 0, 1) := by decide +kernel
theorem dX0_noteStory_32 : decode cX0_noteStory 32 = .ok (.getfield 129, 3) := by decide +kernel
theorem dX0_noteStory_35 : decode cX0_noteStory 35 = .ok (.aload_n 0, 1) := by decide +kernel
theorem dX0_noteStory_36 : decode cX0_noteStory 36 = .ok (.getfield 22, 3) := by decide +kernel
theorem dX0_noteStory_39 : decode cX0_noteStory 39 = .ok (.iload_n 1, 1) := by decide +kernel
theorem dX0_noteStory_40 : decode cX0_noteStory 40 = .ok (.iaload, 1) := by decide +kernel
theorem dX0_noteStory_41 : decode cX0_noteStory 41 = .ok (.if_icmp .eq 9, 3) := by decide +kernel
theorem dX0_noteStory_44 : decode cX0_noteStory 44 = .ok (.aload_n 0, 1) := by decide +kernel
theorem dX0_noteStory_45 : decode cX0_noteStory 45 = .ok (.bipush (-2), 2) := by decide +kernel
theorem dX0_noteStory_47 : decode cX0_noteStory 47 = .ok (.putfield 129, 3) := by decide +kernel
theorem dX0_noteStory_5 : decode cX0_noteStory 5 = .ok (.iconst 1, 1) := by decide +kernel
theorem dX0_noteStory_50 : decode cX0_noteStory 50 = .ok (.return_, 1) := by decide +kernel
theorem dX0_noteStory_6 : decode cX0_noteStory 6 = .ok (.iadd, 1) := by decide +kernel
theorem dX0_noteStory_7 : decode cX0_noteStory 7 = .ok (.putfield 126, 3) := by decide +kernel
theorem dX0_turn_0 : decode cX0_turn 0 = .ok (.iload_n 1, 1) := by decide +kernel
theorem dX0_turn_1 : decode cX0_turn 1 = .ok (.iconst (-1), 1) := by decide +kernel
theorem dX0_turn_10 : decode cX0_turn 10 = .ok (.dup2, 1) := by decide +kernel
theorem dX0_turn_11 : decode cX0_turn 11 = .ok (.iaload, 1) := by decide +kernel
theorem dX0_turn_12 : decode cX0_turn 12 = .ok (.iload_n 2, 1) := by decide +kernel
theorem dX0_turn_13 : decode cX0_turn 13 = .ok (.iadd, 1) := by decide +kernel
theorem dX0_turn_14 : decode cX0_turn 14 = .ok (.iastore, 1) := by decide +kernel
theorem dX0_turn_15 : decode cX0_turn 15 = .ok (.return_, 1) := by decide +kernel
theorem dX0_turn_2 : decode cX0_turn 2 = .ok (.if_icmp .eq 13, 3) := by decide +kernel
theorem dX0_turn_5 : decode cX0_turn 5 = .ok (.aload_n 0, 1) := by decide +kernel
theorem dX0_turn_6 : decode cX0_turn 6 = .ok (.getfield 15, 3) := by decide +kernel
theorem dX0_turn_9 : decode cX0_turn 9 = .ok (.iload_n 1, 1) := by decide +kernel
theorem dX10_lay_0 : decode cX10_lay 0 = .ok (.aload_n 0, 1) := by decide +kernel
theorem dX10_lay_1 : decode cX10_lay 1 = .ok (.iload_n 1, 1) := by decide +kernel
theorem dX10_lay_12 : decode cX10_lay 12 = .ok (.arraylength, 1) := by decide +kernel
theorem dX10_lay_13 : decode cX10_lay 13 = .ok (.invokestatic 22, 3) := by decide +kernel
theorem dX10_lay_16 : decode cX10_lay 16 = .ok (.putfield 9, 3) := by decide +kernel
theorem dX10_lay_19 : decode cX10_lay 19 = .ok (.iconst 0, 1) := by decide +kernel
theorem dX10_lay_2 : decode cX10_lay 2 = .ok (.putfield 19, 3) := by decide +kernel
theorem dX10_lay_20 : decode cX10_lay 20 = .ok (.istore_n 3, 1) := by decide +kernel
theorem dX10_lay_21 : decode cX10_lay 21 = .ok (.iload_n 3, 1) := by decide +kernel
theorem dX10_lay_22 : decode cX10_lay 22 = .ok (.aload_n 0, 1) := by decide +kernel
theorem dX10_lay_23 : decode cX10_lay 23 = .ok (.getfield 9, 3) := by decide +kernel
theorem dX10_lay_26 : decode cX10_lay 26 = .ok (.if_icmp .ge 16, 3) := by decide +kernel
theorem dX10_lay_29 : decode cX10_lay 29 = .ok (.aload_n 0, 1) := by decide +kernel
theorem dX10_lay_30 : decode cX10_lay 30 = .ok (.getfield 15, 3) := by decide +kernel
theorem dX10_lay_33 : decode cX10_lay 33 = .ok (.iload_n 3, 1) := by decide +kernel
theorem dX10_lay_34 : decode cX10_lay 34 = .ok (.lconst 0, 1) := by decide +kernel
theorem dX10_lay_35 : decode cX10_lay 35 = .ok (.lastore, 1) := by decide +kernel
theorem dX10_lay_36 : decode cX10_lay 36 = .ok (.iinc 3 1, 3) := by decide +kernel
theorem dX10_lay_39 : decode cX10_lay 39 = .ok (.goto (-18), 3) := by decide +kernel
theorem dX10_lay_42 : decode cX10_lay 42 = .ok (.return_, 1) := by decide +kernel
theorem dX10_lay_5 : decode cX10_lay 5 = .ok (.aload_n 0, 1) := by decide +kernel
theorem dX10_lay_6 : decode cX10_lay 6 = .ok (.iload_n 2, 1) := by decide +kernel
theorem dX10_lay_7 : decode cX10_lay 7 = .ok (.iconst 0, 1) := by decide +kernel
theorem dX10_lay_8 : decode cX10_lay 8 = .ok (.aload_n 0, 1) := by decide +kernel
theorem dX10_lay_9 : decode cX10_lay 9 = .ok (.getfield 15, 3) := by decide +kernel
theorem dX11_atRest_0 : decode cX11_atRest 0 = .ok (.aload_n 0, 1) := by decide +kernel
theorem dX11_atRest_1 : decode cX11_atRest 1 = .ok (.getfield 80, 3) := by decide +kernel
theorem dX11_atRest_4 : decode cX11_atRest 4 = .ok (.invokevirtual 424, 3) := by decide +kernel
theorem dX11_atRest_7 : decode cX11_atRest 7 = .ok (.ireturn, 1) := by decide +kernel
theorem dX11_drift_0 : decode cX11_drift 0 = .ok (.aload_n 0, 1) := by decide +kernel
theorem dX11_drift_1 : decode cX11_drift 1 = .ok (.getfield 41, 3) := by decide +kernel
theorem dX11_drift_11 : decode cX11_drift 11 = .ok (.aload_n 0, 1) := by decide +kernel
theorem dX11_drift_12 : decode cX11_drift 12 = .ok (.getfield 80, 3) := by decide +kernel
theorem dX11_drift_15 : decode cX11_drift 15 = .ok (.invokevirtual 427, 3) := by decide +kernel
theorem dX11_drift_18 : decode cX11_drift 18 = .ok (.ireturn, 1) := by decide +kernel
theorem dX11_drift_4 : decode cX11_drift 4 = .ok (.aload_n 0, 1) := by decide +kernel
theorem dX11_drift_5 : decode cX11_drift 5 = .ok (.getfield 34, 3) := by decide +kernel
theorem dX11_drift_8 : decode cX11_drift 8 = .ok (.invokevirtual 217, 3) := by decide +kernel
theorem dX11_needSights_0 : decode cX11_needSights 0 = .ok (.aload_n 0, 1) := by decide +kernel
theorem dX11_needSights_1 : decode cX11_needSights 1 = .ok (.getfield 73, 3) := by decide +kernel
theorem dX11_needSights_11 : decode cX11_needSights 11 = .ok (.new 101, 3) := by decide +kernel
theorem dX11_needSights_14 : decode cX11_needSights 14 = .ok (.dup, 1) := by decide +kernel
theorem dX11_needSights_15 : decode cX11_needSights 15 = .ok (.ldc_w 444, 3) := by decide +kernel
theorem dX11_needSights_18 : decode cX11_needSights 18 = .ok (.invokespecial 105, 3) := by decide +kernel
theorem dX11_needSights_21 : decode cX11_needSights 21 = .ok (.athrow, 1) := by decide +kernel
theorem dX11_needSights_22 : decode cX11_needSights 22 = .ok (.return_, 1) := by decide +kernel
theorem dX11_needSights_4 : decode cX11_needSights 4 = .ok (.aload_n 1, 1) := by decide +kernel
theorem dX11_needSights_5 : decode cX11_needSights 5 = .ok (.invokevirtual 441, 3) := by decide +kernel
theorem dX11_needSights_8 : decode cX11_needSights 8 = .ok (.ifCond .ne 14, 3) := by decide +kernel
theorem dX11_pleasure_0 : decode cX11_pleasure 0 = .ok (.aload_n 0, 1) := by decide +kernel
theorem dX11_pleasure_1 : decode cX11_pleasure 1 = .ok (.iload_n 1, 1) := by decide +kernel
theorem dX11_pleasure_10 : decode cX11_pleasure 10 = .ok (.aload_n 0, 1) := by decide +kernel
theorem dX11_pleasure_11 : decode cX11_pleasure 11 = .ok (.getfield 34, 3) := by decide +kernel
theorem dX11_pleasure_14 : decode cX11_pleasure 14 = .ok (.iload_n 2, 1) := by decide +kernel
theorem dX11_pleasure_15 : decode cX11_pleasure 15 = .ok (.invokevirtual 172, 3) := by decide +kernel
theorem dX11_pleasure_18 : decode cX11_pleasure 18 = .ok (.istore_n 3, 1) := by decide +kernel
theorem dX11_pleasure_19 : decode cX11_pleasure 19 = .ok (.iload_n 3, 1) := by decide +kernel
theorem dX11_pleasure_2 : decode cX11_pleasure 2 = .ok (.invokevirtual 132, 3) := by decide +kernel
theorem dX11_pleasure_20 : decode cX11_pleasure 20 = .ok (.iconst (-1), 1) := by decide +kernel
theorem dX11_pleasure_21 : decode cX11_pleasure 21 = .ok (.if_icmp .eq 19, 3) := by decide +kernel
theorem dX11_pleasure_24 : decode cX11_pleasure 24 = .ok (.iload_n 3, 1) := by decide +kernel
theorem dX11_pleasure_25 : decode cX11_pleasure 25 = .ok (.iload_n 1, 1) := by decide +kernel
theorem dX11_pleasure_26 : decode cX11_pleasure 26 = .ok (.if_icmp .eq 14, 3) := by decide +kernel
theorem dX11_pleasure_29 : decode cX11_pleasure 29 = .ok (.new 289, 3) := by decide +kernel
theorem dX11_pleasure_32 : decode cX11_pleasure 32 = .ok (.dup, 1) := by decide +kernel
theorem dX11_pleasure_33 : decode cX11_pleasure 33 = .ok (.ldc_w 419, 3) := by decide +kernel
theorem dX11_pleasure_36 : decode cX11_pleasure 36 = .ok (.invokespecial 293, 3) := by decide +kernel
theorem dX11_pleasure_39 : decode cX11_pleasure 39 = .ok (.athrow, 1) := by decide +kernel
theorem dX11_pleasure_40 : decode cX11_pleasure 40 = .ok (.aload_n 0, 1) := by decide +kernel
theorem dX11_pleasure_41 : decode cX11_pleasure 41 = .ok (.getfield 80, 3) := by decide +kernel
theorem dX11_pleasure_44 : decode cX11_pleasure 44 = .ok (.iload_n 1, 1) := by decide +kernel
theorem dX11_pleasure_45 : decode cX11_pleasure 45 = .ok (.iload_n 2, 1) := by decide +kernel
theorem dX11_pleasure_46 : decode cX11_pleasure 46 = .ok (.invokevirtual 421, 3) := by decide +kernel
theorem dX11_pleasure_49 : decode cX11_pleasure 49 = .ok (.ireturn, 1) := by decide +kernel
theorem dX11_pleasure_5 : decode cX11_pleasure 5 = .ok (.aload_n 0, 1) := by decide +kernel
theorem dX11_pleasure_6 : decode cX11_pleasure 6 = .ok (.iload_n 2, 1) := by decide +kernel
theorem dX11_pleasure_7 : decode cX11_pleasure 7 = .ok (.invokevirtual 169, 3) := by decide +kernel
theorem dX11_seen_0 : decode cX11_seen 0 = .ok (.aload_n 0, 1) := by decide +kernel
theorem dX11_seen_1 : decode cX11_seen 1 = .ok (.aload_n 0, 1) := by decide +kernel
theorem dX11_seen_10 : decode cX11_seen 10 = .ok (.getfield 73, 3) := by decide +kernel
theorem dX11_seen_13 : decode cX11_seen 13 = .ok (.iconst 0, 1) := by decide +kernel
theorem dX11_seen_14 : decode cX11_seen 14 = .ok (.invokevirtual 433, 3) := by decide +kernel
theorem dX11_seen_17 : decode cX11_seen 17 = .ok (.ireturn, 1) := by decide +kernel
theorem dX11_seen_2 : decode cX11_seen 2 = .ok (.iload_n 1, 1) := by decide +kernel
theorem dX11_seen_3 : decode cX11_seen 3 = .ok (.invokevirtual 248, 3) := by decide +kernel
theorem dX11_seen_6 : decode cX11_seen 6 = .ok (.invokevirtual 430, 3) := by decide +kernel
theorem dX11_seen_9 : decode cX11_seen 9 = .ok (.aload_n 0, 1) := by decide +kernel
theorem dX11_sure_0 : decode cX11_sure 0 = .ok (.aload_n 0, 1) := by decide +kernel
theorem dX11_sure_1 : decode cX11_sure 1 = .ok (.iload_n 1, 1) := by decide +kernel
theorem dX11_sure_11 : decode cX11_sure 11 = .ok (.iload_n 2, 1) := by decide +kernel
theorem dX11_sure_12 : decode cX11_sure 12 = .ok (.ifCond .lt 11, 3) := by decide +kernel
theorem dX11_sure_15 : decode cX11_sure 15 = .ok (.iload_n 2, 1) := by decide +kernel
theorem dX11_sure_16 : decode cX11_sure 16 = .ok (.aload_n 3, 1) := by decide +kernel
theorem dX11_sure_17 : decode cX11_sure 17 = .ok (.getfield 266, 3) := by decide +kernel
theorem dX11_sure_2 : decode cX11_sure 2 = .ok (.invokevirtual 248, 3) := by decide +kernel
theorem dX11_sure_20 : decode cX11_sure 20 = .ok (.if_icmp .lt 14, 3) := by decide +kernel
theorem dX11_sure_23 : decode cX11_sure 23 = .ok (.new 101, 3) := by decide +kernel
theorem dX11_sure_26 : decode cX11_sure 26 = .ok (.dup, 1) := by decide +kernel
theorem dX11_sure_27 : decode cX11_sure 27 = .ok (.ldc_w 436, 3) := by decide +kernel
theorem dX11_sure_30 : decode cX11_sure 30 = .ok (.invokespecial 105, 3) := by decide +kernel
theorem dX11_sure_33 : decode cX11_sure 33 = .ok (.athrow, 1) := by decide +kernel
theorem dX11_sure_34 : decode cX11_sure 34 = .ok (.aload_n 0, 1) := by decide +kernel
theorem dX11_sure_35 : decode cX11_sure 35 = .ok (.getfield 73, 3) := by decide +kernel
theorem dX11_sure_38 : decode cX11_sure 38 = .ok (.iload_n 2, 1) := by decide +kernel
theorem dX11_sure_39 : decode cX11_sure 39 = .ok (.invokevirtual 433, 3) := by decide +kernel
theorem dX11_sure_42 : decode cX11_sure 42 = .ok (.pop, 1) := by decide +kernel
theorem dX11_sure_43 : decode cX11_sure 43 = .ok (.aload_n 0, 1) := by decide +kernel
theorem dX11_sure_44 : decode cX11_sure 44 = .ok (.getfield 73, 3) := by decide +kernel
theorem dX11_sure_47 : decode cX11_sure 47 = .ok (.getfield 438, 3) := by decide +kernel
theorem dX11_sure_5 : decode cX11_sure 5 = .ok (.astore_n 3, 1) := by decide +kernel
theorem dX11_sure_50 : decode cX11_sure 50 = .ok (.ireturn, 1) := by decide +kernel
theorem dX11_sure_6 : decode cX11_sure 6 = .ok (.aload_n 0, 1) := by decide +kernel
theorem dX11_sure_7 : decode cX11_sure 7 = .ok (.aload_n 3, 1) := by decide +kernel
theorem dX11_sure_8 : decode cX11_sure 8 = .ok (.invokevirtual 430, 3) := by decide +kernel
theorem dX3_allRest_0 : decode cX3_allRest 0 = .ok (.iconst 0, 1) := by decide +kernel
theorem dX3_allRest_1 : decode cX3_allRest 1 = .ok (.istore_n 1, 1) := by decide +kernel
theorem dX3_allRest_10 : decode cX3_allRest 10 = .ok (.if_icmp .ge 20, 3) := by decide +kernel
theorem dX3_allRest_13 : decode cX3_allRest 13 = .ok (.aload_n 0, 1) := by decide +kernel
theorem dX3_allRest_14 : decode cX3_allRest 14 = .ok (.iload_n 1, 1) := by decide +kernel
theorem dX3_allRest_15 : decode cX3_allRest 15 = .ok (.invokevirtual 87, 3) := by decide +kernel
theorem dX3_allRest_18 : decode cX3_allRest 18 = .ok (.iconst (-1), 1) := by decide +kernel
theorem dX3_allRest_19 : decode cX3_allRest 19 = .ok (.if_icmp .eq 5, 3) := by decide +kernel
theorem dX3_allRest_2 : decode cX3_allRest 2 = .ok (.iload_n 1, 1) := by decide +kernel
theorem dX3_allRest_22 : decode cX3_allRest 22 = .ok (.iconst 0, 1) := by decide +kernel
theorem dX3_allRest_23 : decode cX3_allRest 23 = .ok (.ireturn, 1) := by decide +kernel
theorem dX3_allRest_24 : decode cX3_allRest 24 = .ok (.iinc 1 1, 3) := by decide +kernel
theorem dX3_allRest_27 : decode cX3_allRest 27 = .ok (.goto (-25), 3) := by decide +kernel
theorem dX3_allRest_3 : decode cX3_allRest 3 = .ok (.aload_n 0, 1) := by decide +kernel
theorem dX3_allRest_30 : decode cX3_allRest 30 = .ok (.iconst 1, 1) := by decide +kernel
theorem dX3_allRest_31 : decode cX3_allRest 31 = .ok (.ireturn, 1) := by decide +kernel
theorem dX3_allRest_4 : decode cX3_allRest 4 = .ok (.getfield 9, 3) := by decide +kernel
theorem dX3_allRest_7 : decode cX3_allRest 7 = .ok (.getfield 84, 3) := by decide +kernel
theorem dX3_favouriteOf_0 : decode cX3_favouriteOf 0 = .ok (.iconst (-1), 1) := by decide +kernel
theorem dX3_favouriteOf_1 : decode cX3_favouriteOf 1 = .ok (.istore_n 2, 1) := by decide +kernel
theorem dX3_favouriteOf_11 : decode cX3_favouriteOf 11 = .ok (.iload_n 1, 1) := by decide +kernel
theorem dX3_favouriteOf_12 : decode cX3_favouriteOf 12 = .ok (.iaload, 1) := by decide +kernel
theorem dX3_favouriteOf_13 : decode cX3_favouriteOf 13 = .ok (.invokevirtual 81, 3) := by decide +kernel
theorem dX3_favouriteOf_16 : decode cX3_favouriteOf 16 = .ok (.istore_n 3, 1) := by decide +kernel
theorem dX3_favouriteOf_17 : decode cX3_favouriteOf 17 = .ok (.iconst 0, 1) := by decide +kernel
theorem dX3_favouriteOf_18 : decode cX3_favouriteOf 18 = .ok (.istore 4, 2) := by decide +kernel
theorem dX3_favouriteOf_2 : decode cX3_favouriteOf 2 = .ok (.aload_n 0, 1) := by decide +kernel
theorem dX3_favouriteOf_20 : decode cX3_favouriteOf 20 = .ok (.iload 4, 2) := by decide +kernel
theorem dX3_favouriteOf_22 : decode cX3_favouriteOf 22 = .ok (.aload_n 0, 1) := by decide +kernel
theorem dX3_favouriteOf_23 : decode cX3_favouriteOf 23 = .ok (.getfield 9, 3) := by decide +kernel
theorem dX3_favouriteOf_26 : decode cX3_favouriteOf 26 = .ok (.getfield 60, 3) := by decide +kernel
theorem dX3_favouriteOf_29 : decode cX3_favouriteOf 29 = .ok (.if_icmp .ge 44, 3) := by decide +kernel
theorem dX3_favouriteOf_3 : decode cX3_favouriteOf 3 = .ok (.iload_n 1, 1) := by decide +kernel
theorem dX3_favouriteOf_32 : decode cX3_favouriteOf 32 = .ok (.aload_n 0, 1) := by decide +kernel
theorem dX3_favouriteOf_33 : decode cX3_favouriteOf 33 = .ok (.getfield 15, 3) := by decide +kernel
theorem dX3_favouriteOf_36 : decode cX3_favouriteOf 36 = .ok (.iload_n 1, 1) := by decide +kernel
theorem dX3_favouriteOf_37 : decode cX3_favouriteOf 37 = .ok (.iload 4, 2) := by decide +kernel
theorem dX3_favouriteOf_39 : decode cX3_favouriteOf 39 = .ok (.invokevirtual 64, 3) := by decide +kernel
theorem dX3_favouriteOf_4 : decode cX3_favouriteOf 4 = .ok (.aload_n 0, 1) := by decide +kernel
theorem dX3_favouriteOf_42 : decode cX3_favouriteOf 42 = .ok (.ifCond .ne 25, 3) := by decide +kernel
theorem dX3_favouriteOf_45 : decode cX3_favouriteOf 45 = .ok (.aload_n 0, 1) := by decide +kernel
theorem dX3_favouriteOf_46 : decode cX3_favouriteOf 46 = .ok (.iload_n 1, 1) := by decide +kernel
theorem dX3_favouriteOf_47 : decode cX3_favouriteOf 47 = .ok (.iload 4, 2) := by decide +kernel
theorem dX3_favouriteOf_49 : decode cX3_favouriteOf 49 = .ok (.invokevirtual 81, 3) := by decide +kernel
theorem dX3_favouriteOf_5 : decode cX3_favouriteOf 5 = .ok (.getfield 15, 3) := by decide +kernel
theorem dX3_favouriteOf_52 : decode cX3_favouriteOf 52 = .ok (.iload_n 3, 1) := by decide +kernel
theorem dX3_favouriteOf_53 : decode cX3_favouriteOf 53 = .ok (.if_icmp .le 14, 3) := by decide +kernel
theorem dX3_favouriteOf_56 : decode cX3_favouriteOf 56 = .ok (.iload 4, 2) := by decide +kernel
theorem dX3_favouriteOf_58 : decode cX3_favouriteOf 58 = .ok (.istore_n 2, 1) := by decide +kernel
theorem dX3_favouriteOf_59 : decode cX3_favouriteOf 59 = .ok (.aload_n 0, 1) := by decide +kernel
theorem dX3_favouriteOf_60 : decode cX3_favouriteOf 60 = .ok (.iload_n 1, 1) := by decide +kernel
theorem dX3_favouriteOf_61 : decode cX3_favouriteOf 61 = .ok (.iload 4, 2) := by decide +kernel
theorem dX3_favouriteOf_63 : decode cX3_favouriteOf 63 = .ok (.invokevirtual 81, 3) := by decide +kernel
theorem dX3_favouriteOf_66 : decode cX3_favouriteOf 66 = .ok (.istore_n 3, 1) := by decide +kernel
theorem dX3_favouriteOf_67 : decode cX3_favouriteOf 67 = .ok (.iinc 4 1, 3) := by decide +kernel
theorem dX3_favouriteOf_70 : decode cX3_favouriteOf 70 = .ok (.goto (-50), 3) := by decide +kernel
theorem dX3_favouriteOf_73 : decode cX3_favouriteOf 73 = .ok (.iload_n 2, 1) := by decide +kernel
theorem dX3_favouriteOf_74 : decode cX3_favouriteOf 74 = .ok (.ireturn, 1) := by decide +kernel
theorem dX3_favouriteOf_8 : decode cX3_favouriteOf 8 = .ok (.getfield 78, 3) := by decide +kernel
theorem dX3_joyAt_0 : decode cX3_joyAt 0 = .ok (.iconst 2, 1) := by decide +kernel
theorem dX3_joyAt_1 : decode cX3_joyAt 1 = .ok (.aload_n 0, 1) := by decide +kernel
theorem dX3_joyAt_10 : decode cX3_joyAt 10 = .ok (.invokestatic 73, 3) := by decide +kernel
theorem dX3_joyAt_13 : decode cX3_joyAt 13 = .ok (.imul, 1) := by decide +kernel
theorem dX3_joyAt_14 : decode cX3_joyAt 14 = .ok (.iconst 5, 1) := by decide +kernel
theorem dX3_joyAt_15 : decode cX3_joyAt 15 = .ok (.aload_n 0, 1) := by decide +kernel
theorem dX3_joyAt_16 : decode cX3_joyAt 16 = .ok (.getfield 15, 3) := by decide +kernel
theorem dX3_joyAt_19 : decode cX3_joyAt 19 = .ok (.iload_n 1, 1) := by decide +kernel
theorem dX3_joyAt_2 : decode cX3_joyAt 2 = .ok (.getfield 15, 3) := by decide +kernel
theorem dX3_joyAt_20 : decode cX3_joyAt 20 = .ok (.iload_n 2, 1) := by decide +kernel
theorem dX3_joyAt_21 : decode cX3_joyAt 21 = .ok (.invokevirtual 67, 3) := by decide +kernel
theorem dX3_joyAt_24 : decode cX3_joyAt 24 = .ok (.invokestatic 73, 3) := by decide +kernel
theorem dX3_joyAt_27 : decode cX3_joyAt 27 = .ok (.imul, 1) := by decide +kernel
theorem dX3_joyAt_28 : decode cX3_joyAt 28 = .ok (.isub, 1) := by decide +kernel
theorem dX3_joyAt_29 : decode cX3_joyAt 29 = .ok (.ireturn, 1) := by decide +kernel
theorem dX3_joyAt_5 : decode cX3_joyAt 5 = .ok (.iload_n 1, 1) := by decide +kernel
theorem dX3_joyAt_6 : decode cX3_joyAt 6 = .ok (.iload_n 2, 1) := by decide +kernel
theorem dX3_joyAt_7 : decode cX3_joyAt 7 = .ok (.invokevirtual 70, 3) := by decide +kernel
theorem dX3_runDrift_0 : decode cX3_runDrift 0 = .ok (.iconst 0, 1) := by decide +kernel
theorem dX3_runDrift_1 : decode cX3_runDrift 1 = .ok (.istore_n 1, 1) := by decide +kernel
theorem dX3_runDrift_10 : decode cX3_runDrift 10 = .ok (.iload_n 1, 1) := by decide +kernel
theorem dX3_runDrift_11 : decode cX3_runDrift 11 = .ok (.istore_n 3, 1) := by decide +kernel
theorem dX3_runDrift_12 : decode cX3_runDrift 12 = .ok (.iconst 0, 1) := by decide +kernel
theorem dX3_runDrift_13 : decode cX3_runDrift 13 = .ok (.istore 4, 2) := by decide +kernel
theorem dX3_runDrift_15 : decode cX3_runDrift 15 = .ok (.iload 4, 2) := by decide +kernel
theorem dX3_runDrift_17 : decode cX3_runDrift 17 = .ok (.aload_n 0, 1) := by decide +kernel
theorem dX3_runDrift_18 : decode cX3_runDrift 18 = .ok (.getfield 9, 3) := by decide +kernel
theorem dX3_runDrift_2 : decode cX3_runDrift 2 = .ok (.iconst 0, 1) := by decide +kernel
theorem dX3_runDrift_21 : decode cX3_runDrift 21 = .ok (.getfield 84, 3) := by decide +kernel
theorem dX3_runDrift_24 : decode cX3_runDrift 24 = .ok (.if_icmp .ge 38, 3) := by decide +kernel
theorem dX3_runDrift_27 : decode cX3_runDrift 27 = .ok (.aload_n 0, 1) := by decide +kernel
theorem dX3_runDrift_28 : decode cX3_runDrift 28 = .ok (.iload 4, 2) := by decide +kernel
theorem dX3_runDrift_3 : decode cX3_runDrift 3 = .ok (.istore_n 2, 1) := by decide +kernel
theorem dX3_runDrift_30 : decode cX3_runDrift 30 = .ok (.invokevirtual 87, 3) := by decide +kernel
theorem dX3_runDrift_33 : decode cX3_runDrift 33 = .ok (.istore 5, 2) := by decide +kernel
theorem dX3_runDrift_35 : decode cX3_runDrift 35 = .ok (.iload 5, 2) := by decide +kernel
theorem dX3_runDrift_37 : decode cX3_runDrift 37 = .ok (.iconst (-1), 1) := by decide +kernel
theorem dX3_runDrift_38 : decode cX3_runDrift 38 = .ok (.if_icmp .eq 18, 3) := by decide +kernel
theorem dX3_runDrift_4 : decode cX3_runDrift 4 = .ok (.iload_n 2, 1) := by decide +kernel
theorem dX3_runDrift_41 : decode cX3_runDrift 41 = .ok (.aload_n 0, 1) := by decide +kernel
theorem dX3_runDrift_42 : decode cX3_runDrift 42 = .ok (.getfield 15, 3) := by decide +kernel
theorem dX3_runDrift_45 : decode cX3_runDrift 45 = .ok (.getfield 78, 3) := by decide +kernel
theorem dX3_runDrift_48 : decode cX3_runDrift 48 = .ok (.iload 4, 2) := by decide +kernel
theorem dX3_runDrift_5 : decode cX3_runDrift 5 = .ok (.bipush 20, 2) := by decide +kernel
theorem dX3_runDrift_50 : decode cX3_runDrift 50 = .ok (.iload 5, 2) := by decide +kernel
theorem dX3_runDrift_52 : decode cX3_runDrift 52 = .ok (.iastore, 1) := by decide +kernel
theorem dX3_runDrift_53 : decode cX3_runDrift 53 = .ok (.iinc 1 1, 3) := by decide +kernel
theorem dX3_runDrift_56 : decode cX3_runDrift 56 = .ok (.iinc 4 1, 3) := by decide +kernel
theorem dX3_runDrift_59 : decode cX3_runDrift 59 = .ok (.goto (-44), 3) := by decide +kernel
theorem dX3_runDrift_62 : decode cX3_runDrift 62 = .ok (.iload_n 1, 1) := by decide +kernel
theorem dX3_runDrift_63 : decode cX3_runDrift 63 = .ok (.iload_n 3, 1) := by decide +kernel
theorem dX3_runDrift_64 : decode cX3_runDrift 64 = .ok (.if_icmp .ne 5, 3) := by decide +kernel
theorem dX3_runDrift_67 : decode cX3_runDrift 67 = .ok (.iload_n 1, 1) := by decide +kernel
theorem dX3_runDrift_68 : decode cX3_runDrift 68 = .ok (.ireturn, 1) := by decide +kernel
theorem dX3_runDrift_69 : decode cX3_runDrift 69 = .ok (.iinc 2 1, 3) := by decide +kernel
theorem dX3_runDrift_7 : decode cX3_runDrift 7 = .ok (.if_icmp .ge 68, 3) := by decide +kernel
theorem dX3_runDrift_72 : decode cX3_runDrift 72 = .ok (.goto (-68), 3) := by decide +kernel
theorem dX3_runDrift_75 : decode cX3_runDrift 75 = .ok (.iload_n 1, 1) := by decide +kernel
theorem dX3_runDrift_76 : decode cX3_runDrift 76 = .ok (.ireturn, 1) := by decide +kernel
set_option maxRecDepth 4000 in
theorem k_X3_joyAt_57 (l : Launch) (M : Mem) (hJ : Iw M) (x0 : Int) (hx0a : 0 ≤ x0) (hx0b : x0 ≤ 7) (x1 : Int) (hx1a : 0 ≤ x1) (hx1b : x1 ≤ 9) : CI l yX3_joyAt cX3_joyAt 3 (some .int) 3 (fun ad => [.ref (ad 57), ii x0, ii x1]) M (fun z M' => ((-40) ≤ z ∧ z ≤ 16) ∧ M = M') := by
  obtain ⟨hI, hW⟩ := hJ
  refine en_i (by decide +kernel) (fun ad => by exact Nat.le_of_ble_eq_true rfl) (fun D cy ad A p e s m args below meth c Q F hret => ?_)
  refine z_eq (ls' := [(0, .ref (ad 57)), (1, ii x0), (2, ii x1)]) rfl rfl rfl ?_
  refine z_iconst F dX3_joyAt_0 ?_
  refine z_aload_n F dX3_joyAt_1 rfl (q := 0) rfl ?_
  refine rf_X3_15 F gs_57 rfl dX3_joyAt_2 ?_
  refine z_iload_n F dX3_joyAt_5 rfl (q := 1) rfl ?_
  refine z_iload_n F dX3_joyAt_6 rfl (q := 2) rfl ?_
  refine zv_i (rest := [ii 2]) F (k_X7_neighboursAt_35 l M ⟨hI, hW⟩ x0 (by omega) (by omega) x1 (by omega) (by omega)) cs_X3_70 (T := TX7) (N := 7) (ci := 7) rfl gs_35 (by decide) (by decide) rfl rfl rfl (Nat.le_of_ble_eq_true rfl) dX3_joyAt_7 (fun v1 M2 rv1 hI p3 => ?_)
  obtain ⟨hI, hW⟩ := hI
  obtain ⟨⟨av1, bv1⟩, rfl⟩ := p3
  refine zs_i (rest := [ii 2]) F (k_J6_bitCount_0f7a4_s l M ⟨hI, hW⟩ v1 (by omega) (by omega)) cs_X3_73 (by decide) (by decide) rfl rfl rfl (Nat.le_of_ble_eq_true rfl) dX3_joyAt_10 (fun v4 M5 rv4 hI p6 => ?_)
  obtain ⟨hI, hW⟩ := hI
  obtain ⟨⟨av4, bv4⟩, rfl, xp6⟩ := p6
  have hp8 := pcn_8 (s := v1) (by omega) (by omega)
  have hb8v4 : 0 ≤ v4 ∧ v4 ≤ 8 := by omega
  refine z_imul F dX3_joyAt_13 ?_
  refine z_iconst F dX3_joyAt_14 ?_
  refine z_aload_n F dX3_joyAt_15 rfl (q := 0) rfl ?_
  refine rf_X3_15 F gs_57 rfl dX3_joyAt_16 ?_
  refine z_iload_n F dX3_joyAt_19 rfl (q := 1) rfl ?_
  refine z_iload_n F dX3_joyAt_20 rfl (q := 2) rfl ?_
  refine zv_i (rest := [ii 5, ii (2 * v4)]) F (k_X7_foesAt_35 l M ⟨hI, hW⟩ x0 (by omega) (by omega) x1 (by omega) (by omega)) cs_X3_67 (T := TX7) (N := 7) (ci := 7) rfl gs_35 (by decide) (by decide) rfl rfl rfl (Nat.le_of_ble_eq_true rfl) dX3_joyAt_21 (fun v7 M8 rv7 hI p9 => ?_)
  obtain ⟨hI, hW⟩ := hI
  obtain ⟨⟨av7, bv7⟩, rfl⟩ := p9
  refine zs_i (rest := [ii 5, ii (2 * v4)]) F (k_J6_bitCount_0f7a4_s l M ⟨hI, hW⟩ v7 (by omega) (by omega)) cs_X3_73 (by decide) (by decide) rfl rfl rfl (Nat.le_of_ble_eq_true rfl) dX3_joyAt_24 (fun v10 M11 rv10 hI p12 => ?_)
  obtain ⟨hI, hW⟩ := hI
  obtain ⟨⟨av10, bv10⟩, rfl, xp12⟩ := p12
  have hp8 := pcn_8 (s := v7) (by omega) (by omega)
  have hb8v10 : 0 ≤ v10 ∧ v10 ≤ 8 := by omega
  refine z_imul F dX3_joyAt_27 ?_
  refine z_isub F dX3_joyAt_28 ?_
  exact hret _ _ 29 _ (by omega) ⟨hI, hW⟩ ⟨⟨by omega, by omega⟩, rfl⟩ dX3_joyAt_29
set_option maxRecDepth 4000 in
theorem k_X11_pleasure (l : Launch) (hlT : l.stackTraces = false) (M : Mem) (hJ : Iw M) (x0 : Int) (hx0a : (-2147483648) ≤ x0) (hx0b : x0 ≤ 2147483647) (x1 : Int) (hx1a : (-2147483648) ≤ x1) (hx1b : x1 ≤ 2147483647) : CIX l yX11_pleasure cX11_pleasure 4 (some .int) 4 3 (fun ad => [.ref (ad 0), ii x0, ii x1]) M (fun z M' => ((-40) ≤ z ∧ z ≤ 16) ∧ M = M') (fun E M' => (E = "java/lang/IllegalStateException" ∧ True ∧ M = M') ∨ (E = "java/util/NoSuchElementException" ∧ True ∧ M = M')) := by
  obtain ⟨hI, hW⟩ := hJ
  refine enx_i (by decide +kernel) (fun ad => by exact Nat.le_of_ble_eq_true rfl) (fun D cy ad A p e s m args below meth c Q F hQ hr hlk hex => ?_)
  refine z_eq (ls' := [(0, .ref (ad 0)), (1, ii x0), (2, ii x1)]) rfl rfl rfl ?_
  refine z_aload_n F dX11_pleasure_0 rfl (q := 0) rfl ?_
  refine z_iload_n F dX11_pleasure_1 rfl (q := 1) rfl ?_
  refine zy_v (rest := []) F (k_X11_needThing l hlT M ⟨hI, hW⟩ x0 (by omega) (by omega)) cs_X11_132 (T := TX11) (N := 14) (ci := 11) rfl gs_0 (by decide) (by decide) ⟨by decide, by decide⟩ rfl rfl rfl (Nat.le_of_ble_eq_true rfl) dX11_pleasure_2 (fun E M9 hJ9 hx => by obtain ⟨h9, g9, rfl⟩ := hx <;> first | (exact zx_out hQ hlk hex ⟨by decide, by decide⟩ hJ9 (Or.inr (⟨h9, trivial, rfl⟩)))) (fun M1 hI p2 => ?_)
  obtain ⟨hI, hW⟩ := hI
  obtain ⟨rfl, xp2⟩ := p2
  refine z_aload_n F dX11_pleasure_5 rfl (q := 0) rfl ?_
  refine z_iload_n F dX11_pleasure_6 rfl (q := 2) rfl ?_
  refine zy_v (rest := []) F (k_X11_needPlace l hlT M ⟨hI, hW⟩ x1 (by omega) (by omega)) cs_X11_169 (T := TX11) (N := 14) (ci := 11) rfl gs_0 (by decide) (by decide) ⟨by decide, by decide⟩ rfl rfl rfl (Nat.le_of_ble_eq_true rfl) dX11_pleasure_7 (fun E M9 hJ9 hx => by obtain ⟨h9, g9, rfl⟩ := hx <;> first | (exact zx_out hQ hlk hex ⟨by decide, by decide⟩ hJ9 (Or.inr (⟨h9, trivial, rfl⟩)))) (fun M3 hI p4 => ?_)
  obtain ⟨hI, hW⟩ := hI
  obtain ⟨rfl, xp4⟩ := p4
  refine z_aload_n F dX11_pleasure_10 rfl (q := 0) rfl ?_
  refine rf_X11_34 F gs_0 rfl dX11_pleasure_11 ?_
  refine z_iload_n F dX11_pleasure_14 rfl (q := 2) rfl ?_
  refine zw_i (rest := []) F (k_X7_whoIsAt_35 l M ⟨hI, hW⟩ x1 (by omega) (by omega)) cs_X11_172 (T := TX7) (N := 7) (ci := 7) rfl gs_35 (by decide) (by decide) ⟨by decide, by decide⟩ rfl rfl rfl (Nat.le_of_ble_eq_true rfl) dX11_pleasure_15 (fun v5 M6 rv5 hI p7 => ?_)
  obtain ⟨hI, hW⟩ := hI
  obtain ⟨⟨av5, bv5⟩, rfl⟩ := p7
  refine z_istore_n F dX11_pleasure_18 rfl (by decide) (ls' := [(3, ii v5), (0, .ref (ad 0)), (1, ii x0), (2, ii x1)]) rfl ?_
  refine z_iload_n F dX11_pleasure_19 rfl (q := 0) rfl ?_
  refine z_iconst F dX11_pleasure_20 ?_
  refine z_icmp_eq (tgt := 40) F dX11_pleasure_21 (by decide +kernel) (by omega) (by omega) (fun c8 => ?_) (fun c8 => ?_)
  · refine z_aload_n F dX11_pleasure_40 rfl (q := 1) rfl ?_
    refine rf_X11_80 F gs_0 rfl dX11_pleasure_41 ?_
    refine z_iload_n F dX11_pleasure_44 rfl (q := 2) rfl ?_
    refine z_iload_n F dX11_pleasure_45 rfl (q := 3) rfl ?_
    refine zw_i (rest := []) F (k_X3_joyAt_57 l M ⟨hI, hW⟩ x0 (by omega) (by omega) x1 (by omega) (by omega)) cs_X11_421 (T := TX3) (N := 2) (ci := 3) rfl gs_57 (by decide) (by decide) ⟨by decide, by decide⟩ rfl rfl rfl (Nat.le_of_ble_eq_true rfl) dX11_pleasure_46 (fun v9 M10 rv9 hI p11 => ?_)
    obtain ⟨hI, hW⟩ := hI
    obtain ⟨⟨av9, bv9⟩, rfl⟩ := p11
    exact zxr_i F hQ hr hlk dX11_pleasure_49 ⟨by decide, by decide⟩ (by omega) ⟨hI, hW⟩ ⟨⟨by omega, by omega⟩, rfl⟩
  · refine z_iload_n F dX11_pleasure_24 rfl (q := 0) rfl ?_
    refine z_iload_n F dX11_pleasure_25 rfl (q := 2) rfl ?_
    refine z_icmp_eq (tgt := 40) F dX11_pleasure_26 (by decide +kernel) (by omega) (by omega) (fun c12 => ?_) (fun c12 => ?_)
    · refine z_aload_n F dX11_pleasure_40 rfl (q := 1) rfl ?_
      refine rf_X11_80 F gs_0 rfl dX11_pleasure_41 ?_
      refine z_iload_n F dX11_pleasure_44 rfl (q := 2) rfl ?_
      refine z_iload_n F dX11_pleasure_45 rfl (q := 3) rfl ?_
      refine zw_i (rest := []) F (k_X3_joyAt_57 l M ⟨hI, hW⟩ x0 (by omega) (by omega) x1 (by omega) (by omega)) cs_X11_421 (T := TX3) (N := 2) (ci := 3) rfl gs_57 (by decide) (by decide) ⟨by decide, by decide⟩ rfl rfl rfl (Nat.le_of_ble_eq_true rfl) dX11_pleasure_46 (fun v13 M14 rv13 hI p15 => ?_)
      obtain ⟨hI, hW⟩ := hI
      obtain ⟨⟨av13, bv13⟩, rfl⟩ := p15
      exact zxr_i F hQ hr hlk dX11_pleasure_49 ⟨by decide, by decide⟩ (by omega) ⟨hI, hW⟩ ⟨⟨by omega, by omega⟩, rfl⟩
    · exact z_thrSW (cls := "java/lang/IllegalStateException") (names := ["java/lang/RuntimeException", "java/lang/Exception"]) (j := 49) F hlT hQ hlk hex (by decide +kernel) (by decide +kernel) (by decide) (gin lm_530 rfl) (gin lm_531 rfl) at_X11_293 bad_X11_293 (by decide +kernel) ot_X11_293 rfl rfl rfl dX11_pleasure_29 dX11_pleasure_32 dX11_pleasure_33 dX11_pleasure_36 dX11_pleasure_39 ⟨by decide, by decide⟩ (Nat.le_of_ble_eq_true rfl) ⟨hI, hW⟩ (Or.inl ⟨rfl, trivial, rfl⟩)
set_option maxRecDepth 4000 in
theorem k_X3_favouriteOf_57 (l : Launch) (M : Mem) (hJ : Iw M) (x0 : Int) (hx0a : 0 ≤ x0) (hx0b : x0 ≤ 7) : CI l yX3_favouriteOf cX3_favouriteOf 5 (some .int) 4 (fun ad => [.ref (ad 57), ii x0]) M (fun z M' => ((-1) ≤ z ∧ z ≤ 9) ∧ M = M') := by
  obtain ⟨hI, hW⟩ := hJ
  refine en_i (by decide +kernel) (fun ad => by exact Nat.le_of_ble_eq_true rfl) (fun D cy ad A p e s m args below meth c Q F hret => ?_)
  refine z_eq (ls' := [(0, .ref (ad 57)), (1, ii x0)]) rfl rfl rfl ?_
  refine z_iconst F dX3_favouriteOf_0 ?_
  refine z_istore_n F dX3_favouriteOf_1 rfl (by decide) (ls' := [(2, ii (-1)), (0, .ref (ad 57)), (1, ii x0)]) rfl ?_
  refine z_aload_n F dX3_favouriteOf_2 rfl (q := 1) rfl ?_
  refine z_iload_n F dX3_favouriteOf_3 rfl (q := 2) rfl ?_
  refine z_aload_n F dX3_favouriteOf_4 rfl (q := 1) rfl ?_
  refine rf_X3_15 F gs_57 rfl dX3_favouriteOf_5 ?_
  refine rf_X3_78 F gs_35 rfl dX3_favouriteOf_8 ?_
  refine z_iload_n F dX3_favouriteOf_11 rfl (q := 2) rfl ?_
  refine z_iald F hI gs_36 (by omega) (by omega) (by decide) bd_36 dX3_favouriteOf_12 (fun v1 (ev1 : v1 = M 36 _) av1 bv1 => ?_)
  refine zv_i (rest := []) F (k_X3_joyAt_57 l M ⟨hI, hW⟩ x0 (by omega) (by omega) v1 (by omega) (by omega)) cs_X3_81 (T := TX3) (N := 2) (ci := 3) rfl gs_57 (by decide) (by decide) rfl rfl rfl (Nat.le_of_ble_eq_true rfl) dX3_favouriteOf_13 (fun v2 M3 rv2 hI p4 => ?_)
  obtain ⟨hI, hW⟩ := hI
  obtain ⟨⟨av2, bv2⟩, rfl⟩ := p4
  refine z_istore_n F dX3_favouriteOf_16 rfl (by decide) (ls' := [(3, ii v2), (2, ii (-1)), (0, .ref (ad 57)), (1, ii x0)]) rfl ?_
  refine z_iconst F dX3_favouriteOf_17 ?_
  refine z_istore F dX3_favouriteOf_18 (by decide) (ls' := [(4, ii 0), (3, ii v2), (2, ii (-1)), (0, .ref (ad 57)), (1, ii x0)]) rfl ?_
  refine z_loc [3, 4, 2, 1, 0] (ls' := [(0, .ref (ad 57)), (1, ii x0), (2, ii (-1)), (3, ii v2), (4, ii 0)]) rfl ?_
  suffices key20 : ∀ (n : Nat) (y6 : Int) (y7 : Int) (y8 : Int), (-1) ≤ y6 → y6 ≤ 9 → (-40) ≤ y7 → y7 ≤ 16 → 0 ≤ y8 → y8 ≤ 10 → 10 - y8 < (n : Int) → Z D cy ad p l e (RMh 4) s m args below meth c A 5 0 0 Q 20 [(0, .ref (ad 57)), (1, ii x0), (2, ii y6), (3, ii y7), (4, ii y8)] [] M from key20 11 (-1) v2 0 (by omega) (by omega) (by omega) (by omega) (by omega) (by omega) (by omega)
  intro n20
  induction n20 with
  | zero => intro y6 y7 y8 ay6 by6 ay7 by7 ay8 by8 hn20; exfalso; omega
  | succ n20 ih20 =>
    intro y6 y7 y8 ay6 by6 ay7 by7 ay8 by8 hn20
    refine z_iload F dX3_favouriteOf_20 (q := 4) rfl ?_
    refine z_aload_n F dX3_favouriteOf_22 rfl (q := 0) rfl ?_
    refine rf_X3_9 F gs_57 rfl dX3_favouriteOf_23 ?_
    refine gf_X3_60 F hI gs_2 rfl bd_2_1 dX3_favouriteOf_26 (fun v9 ev9 av9 bv9 => ?_)
    refine z_icmp_ge (tgt := 73) F dX3_favouriteOf_29 (by decide +kernel) (by omega) (by omega) (fun c10 => ?_) (fun c10 => ?_)
    · refine z_iload_n F dX3_favouriteOf_73 rfl (q := 2) rfl ?_
      exact hret _ _ 74 _ (by omega) ⟨hI, hW⟩ ⟨⟨by omega, by omega⟩, rfl⟩ dX3_favouriteOf_74
    · refine z_aload_n F dX3_favouriteOf_32 rfl (q := 0) rfl ?_
      refine rf_X3_15 F gs_57 rfl dX3_favouriteOf_33 ?_
      refine z_iload_n F dX3_favouriteOf_36 rfl (q := 1) rfl ?_
      refine z_iload F dX3_favouriteOf_37 (q := 4) rfl ?_
      refine zv_i (rest := []) F (k_X7_obstacle_35 l M ⟨hI, hW⟩ x0 (by omega) (by omega) y8 (by omega) (by omega)) cs_X3_64 (T := TX7) (N := 7) (ci := 7) rfl gs_35 (by decide) (by decide) rfl rfl rfl (Nat.le_of_ble_eq_true rfl) dX3_favouriteOf_39 (fun v11 M12 rv11 hI p13 => ?_)
      obtain ⟨hI, hW⟩ := hI
      obtain ⟨⟨av11, bv11⟩, rfl, xp13⟩ := p13
      refine z_if_ne (tgt := 67) F dX3_favouriteOf_42 (by decide +kernel) (by omega) (fun c14 => ?_) (fun c14 => ?_)
      · refine z_iincN F dX3_favouriteOf_67 (q := 4) rfl (by decide) (fun v15 ev15 => ?_)
        refine z_eq (ls' := [(4, ii v15), (0, .ref (ad 57)), (1, ii x0), (2, ii y6), (3, ii y7)]) rfl rfl rfl ?_
        refine z_goto (tgt := 20) F dX3_favouriteOf_70 (by decide +kernel) ?_
        refine z_loc [1, 2, 3, 4, 0] (ls' := [(0, .ref (ad 57)), (1, ii x0), (2, ii y6), (3, ii y7), (4, ii v15)]) rfl ?_
        exact ih20 y6 y7 v15 (by omega) (by omega) (by omega) (by omega) (by omega) (by omega) (by omega)
      · refine z_aload_n F dX3_favouriteOf_45 rfl (q := 0) rfl ?_
        refine z_iload_n F dX3_favouriteOf_46 rfl (q := 1) rfl ?_
        refine z_iload F dX3_favouriteOf_47 (q := 4) rfl ?_
        refine zv_i (rest := []) F (k_X3_joyAt_57 l M ⟨hI, hW⟩ x0 (by omega) (by omega) y8 (by omega) (by omega)) cs_X3_81 (T := TX3) (N := 2) (ci := 3) rfl gs_57 (by decide) (by decide) rfl rfl rfl (Nat.le_of_ble_eq_true rfl) dX3_favouriteOf_49 (fun v16 M17 rv16 hI p18 => ?_)
        obtain ⟨hI, hW⟩ := hI
        obtain ⟨⟨av16, bv16⟩, rfl⟩ := p18
        refine z_iload_n F dX3_favouriteOf_52 rfl (q := 3) rfl ?_
        refine z_icmp_le (tgt := 67) F dX3_favouriteOf_53 (by decide +kernel) (by omega) (by omega) (fun c19 => ?_) (fun c19 => ?_)
        · refine z_iincN F dX3_favouriteOf_67 (q := 4) rfl (by decide) (fun v20 ev20 => ?_)
          refine z_eq (ls' := [(4, ii v20), (0, .ref (ad 57)), (1, ii x0), (2, ii y6), (3, ii y7)]) rfl rfl rfl ?_
          refine z_goto (tgt := 20) F dX3_favouriteOf_70 (by decide +kernel) ?_
          refine z_loc [1, 2, 3, 4, 0] (ls' := [(0, .ref (ad 57)), (1, ii x0), (2, ii y6), (3, ii y7), (4, ii v20)]) rfl ?_
          exact ih20 y6 y7 v20 (by omega) (by omega) (by omega) (by omega) (by omega) (by omega) (by omega)
        · refine z_iload F dX3_favouriteOf_56 (q := 4) rfl ?_
          refine z_istore_n F dX3_favouriteOf_58 rfl (by decide) (ls' := [(2, ii y8), (0, .ref (ad 57)), (1, ii x0), (3, ii y7), (4, ii y8)]) rfl ?_
          refine z_aload_n F dX3_favouriteOf_59 rfl (q := 1) rfl ?_
          refine z_iload_n F dX3_favouriteOf_60 rfl (q := 2) rfl ?_
          refine z_iload F dX3_favouriteOf_61 (q := 4) rfl ?_
          refine zv_i (rest := []) F (k_X3_joyAt_57 l M ⟨hI, hW⟩ x0 (by omega) (by omega) y8 (by omega) (by omega)) cs_X3_81 (T := TX3) (N := 2) (ci := 3) rfl gs_57 (by decide) (by decide) rfl rfl rfl (Nat.le_of_ble_eq_true rfl) dX3_favouriteOf_63 (fun v21 M22 rv21 hI p23 => ?_)
          obtain ⟨hI, hW⟩ := hI
          obtain ⟨⟨av21, bv21⟩, rfl⟩ := p23
          refine z_istore_n F dX3_favouriteOf_66 rfl (by decide) (ls' := [(3, ii v21), (2, ii y8), (0, .ref (ad 57)), (1, ii x0), (4, ii y8)]) rfl ?_
          refine z_iincN F dX3_favouriteOf_67 (q := 4) rfl (by decide) (fun v24 ev24 => ?_)
          refine z_eq (ls' := [(4, ii v24), (3, ii v21), (2, ii y8), (0, .ref (ad 57)), (1, ii x0)]) rfl rfl rfl ?_
          refine z_goto (tgt := 20) F dX3_favouriteOf_70 (by decide +kernel) ?_
          refine z_loc [3, 4, 2, 1, 0] (ls' := [(0, .ref (ad 57)), (1, ii x0), (2, ii y8), (3, ii v21), (4, ii v24)]) rfl ?_
          exact ih20 y8 v21 v24 (by omega) (by omega) (by omega) (by omega) (by omega) (by omega) (by omega)
set_option maxRecDepth 4000 in
theorem k_X3_allRest_57 (l : Launch) (M : Mem) (hJ : Iw M) : CI l yX3_allRest cX3_allRest 2 (some .boolean) 5 (fun ad => [.ref (ad 57)]) M (fun z M' => (0 ≤ z ∧ z ≤ 1) ∧ M = M') := by
  obtain ⟨hI, hW⟩ := hJ
  refine en_z (by decide +kernel) (fun ad => by exact Nat.le_of_ble_eq_true rfl) (fun D cy ad A p e s m args below meth c Q F hret => ?_)
  refine z_eq (ls' := [(0, .ref (ad 57))]) rfl rfl rfl ?_
  refine z_iconst F dX3_allRest_0 ?_
  refine z_istore_n F dX3_allRest_1 rfl (by decide) (ls' := [(1, ii 0), (0, .ref (ad 57))]) rfl ?_
  refine z_loc [1, 0] (ls' := [(0, .ref (ad 57)), (1, ii 0)]) rfl ?_
  suffices key2 : ∀ (n : Nat) (y2 : Int), 0 ≤ y2 → y2 ≤ 8 → 8 - y2 < (n : Int) → Z D cy ad p l e (RMh 5) s m args below meth c A 2 0 0 Q 2 [(0, .ref (ad 57)), (1, ii y2)] [] M from key2 9 0 (by omega) (by omega) (by omega)
  intro n2
  induction n2 with
  | zero => intro y2 ay2 by2 hn2; exfalso; omega
  | succ n2 ih2 =>
    intro y2 ay2 by2 hn2
    refine z_iload_n F dX3_allRest_2 rfl (q := 1) rfl ?_
    refine z_aload_n F dX3_allRest_3 rfl (q := 0) rfl ?_
    refine rf_X3_9 F gs_57 rfl dX3_allRest_4 ?_
    refine gf_X3_84 F hI gs_2 rfl bd_2_3 dX3_allRest_7 (fun v3 ev3 av3 bv3 => ?_)
    refine z_icmp_ge (tgt := 30) F dX3_allRest_10 (by decide +kernel) (by omega) (by omega) (fun c4 => ?_) (fun c4 => ?_)
    · refine z_iconst F dX3_allRest_30 ?_
      exact hret _ _ 31 _ ⟨by omega, by omega⟩ ⟨hI, hW⟩ ⟨⟨by omega, by omega⟩, rfl⟩ dX3_allRest_31
    · refine z_aload_n F dX3_allRest_13 rfl (q := 0) rfl ?_
      refine z_iload_n F dX3_allRest_14 rfl (q := 1) rfl ?_
      refine zv_i (rest := []) F (k_X3_favouriteOf_57 l M ⟨hI, hW⟩ y2 (by omega) (by omega)) cs_X3_87 (T := TX3) (N := 2) (ci := 3) rfl gs_57 (by decide) (by decide) rfl rfl rfl (Nat.le_of_ble_eq_true rfl) dX3_allRest_15 (fun v5 M6 rv5 hI p7 => ?_)
      obtain ⟨hI, hW⟩ := hI
      obtain ⟨⟨av5, bv5⟩, rfl⟩ := p7
      refine z_iconst F dX3_allRest_18 ?_
      refine z_icmp_eq (tgt := 24) F dX3_allRest_19 (by decide +kernel) (by omega) (by omega) (fun c8 => ?_) (fun c8 => ?_)
      · refine z_iincN F dX3_allRest_24 (q := 1) rfl (by decide) (fun v9 ev9 => ?_)
        refine z_eq (ls' := [(1, ii v9), (0, .ref (ad 57))]) rfl rfl rfl ?_
        refine z_goto (tgt := 2) F dX3_allRest_27 (by decide +kernel) ?_
        refine z_loc [1, 0] (ls' := [(0, .ref (ad 57)), (1, ii v9)]) rfl ?_
        exact ih2 v9 (by omega) (by omega) (by omega)
      · refine z_iconst F dX3_allRest_22 ?_
        exact hret _ _ 23 _ ⟨by omega, by omega⟩ ⟨hI, hW⟩ ⟨⟨by omega, by omega⟩, rfl⟩ dX3_allRest_23
set_option maxRecDepth 4000 in
theorem k_X11_atRest (l : Launch) (M : Mem) (hJ : Iw M) : CI l yX11_atRest cX11_atRest 1 (some .boolean) 6 (fun ad => [.ref (ad 0)]) M (fun z M' => (0 ≤ z ∧ z ≤ 1) ∧ M = M') := by
  obtain ⟨hI, hW⟩ := hJ
  refine en_z (by decide +kernel) (fun ad => by exact Nat.le_of_ble_eq_true rfl) (fun D cy ad A p e s m args below meth c Q F hret => ?_)
  refine z_eq (ls' := [(0, .ref (ad 0))]) rfl rfl rfl ?_
  refine z_aload_n F dX11_atRest_0 rfl (q := 0) rfl ?_
  refine rf_X11_80 F gs_0 rfl dX11_atRest_1 ?_
  refine zv_i (rest := []) F (k_X3_allRest_57 l M ⟨hI, hW⟩) cs_X11_424 (T := TX3) (N := 2) (ci := 3) rfl gs_57 (by decide) (by decide) rfl rfl rfl (Nat.le_of_ble_eq_true rfl) dX11_atRest_4 (fun v1 M2 rv1 hI p3 => ?_)
  obtain ⟨hI, hW⟩ := hI
  obtain ⟨⟨av1, bv1⟩, rfl⟩ := p3
  exact hret _ _ 7 _ ⟨by omega, by omega⟩ ⟨hI, hW⟩ ⟨⟨by omega, by omega⟩, rfl⟩ dX11_atRest_7
set_option maxRecDepth 4000 in
theorem k_X3_runDrift_57 (l : Launch) (M : Mem) (hJ : Iw M) : CI l yX3_runDrift cX3_runDrift 6 (some .int) 5 (fun ad => [.ref (ad 57)]) M (fun z M' => ((-2147483648) ≤ z ∧ z ≤ 2147483647) ∧ Fr [36] M M') := by
  obtain ⟨hI, hW⟩ := hJ
  have hF : Fr [36] M M := Fr.rf
  refine en_i (by decide +kernel) (fun ad => by exact Nat.le_of_ble_eq_true rfl) (fun D cy ad A p e s m args below meth c Q F hret => ?_)
  refine z_eq (ls' := [(0, .ref (ad 57))]) rfl rfl rfl ?_
  refine z_iconst F dX3_runDrift_0 ?_
  refine z_istore_n F dX3_runDrift_1 rfl (by decide) (ls' := [(1, ii 0), (0, .ref (ad 57))]) rfl ?_
  refine z_iconst F dX3_runDrift_2 ?_
  refine z_istore_n F dX3_runDrift_3 rfl (by decide) (ls' := [(2, ii 0), (1, ii 0), (0, .ref (ad 57))]) rfl ?_
  refine z_loc [2, 1, 0] (ls' := [(0, .ref (ad 57)), (1, ii 0), (2, ii 0)]) rfl ?_
  suffices key4 : ∀ (n : Nat) (y2 : Int) (y3 : Int) (M1 : Mem), Inv M1 → WFk M1 → Fr [36] M M1 → (-2147483648) ≤ y2 → y2 ≤ 2147483647 → 0 ≤ y3 → y3 ≤ 20 → 20 - y3 < (n : Int) → Z D cy ad p l e (RMh 5) s m args below meth c A 6 0 0 Q 4 [(0, .ref (ad 57)), (1, ii y2), (2, ii y3)] [] M1 from key4 21 0 0 M hI hW hF (by omega) (by omega) (by omega) (by omega) (by omega)
  intro n4
  induction n4 with
  | zero => intro y2 y3 M1 hI hW hF ay2 by2 ay3 by3 hn4; exfalso; omega
  | succ n4 ih4 =>
    intro y2 y3 M1 hI hW hF ay2 by2 ay3 by3 hn4
    refine z_iload_n F dX3_runDrift_4 rfl (q := 2) rfl ?_
    refine z_bipush F dX3_runDrift_5 (by decide +kernel) ?_
    refine z_icmp_ge (tgt := 75) F dX3_runDrift_7 (by decide +kernel) (by omega) (by omega) (fun c4 => ?_) (fun c4 => ?_)
    · refine z_iload_n F dX3_runDrift_75 rfl (q := 1) rfl ?_
      exact hret _ _ 76 _ (by omega) ⟨hI, hW⟩ ⟨⟨by omega, by omega⟩, hF⟩ dX3_runDrift_76
    · refine z_iload_n F dX3_runDrift_10 rfl (q := 1) rfl ?_
      refine z_istore_n F dX3_runDrift_11 rfl (by decide) (ls' := [(3, ii y2), (0, .ref (ad 57)), (1, ii y2), (2, ii y3)]) rfl ?_
      refine z_iconst F dX3_runDrift_12 ?_
      refine z_istore F dX3_runDrift_13 (by decide) (ls' := [(4, ii 0), (3, ii y2), (0, .ref (ad 57)), (1, ii y2), (2, ii y3)]) rfl ?_
      refine z_loc [2, 3, 4, 1, 0] (ls' := [(0, .ref (ad 57)), (1, ii y2), (2, ii y3), (3, ii y2), (4, ii 0)]) rfl ?_
      suffices key15 : ∀ (n : Nat) (y6 : Int) (y7 : Int) (M5 : Mem), Inv M5 → WFk M5 → Fr [36] M M5 → (-2147483648) ≤ y6 → y6 ≤ 2147483647 → 0 ≤ y7 → y7 ≤ 8 → 8 - y7 < (n : Int) → Z D cy ad p l e (RMh 5) s m args below meth c A 6 0 0 Q 15 [(0, .ref (ad 57)), (1, ii y6), (2, ii y3), (3, ii y2), (4, ii y7)] [] M5 from key15 9 y2 0 M1 hI hW hF (by omega) (by omega) (by omega) (by omega) (by omega)
      intro n15
      induction n15 with
      | zero => intro y6 y7 M5 hI hW hF ay6 by6 ay7 by7 hn15; exfalso; omega
      | succ n15 ih15 =>
        intro y6 y7 M5 hI hW hF ay6 by6 ay7 by7 hn15
        refine z_iload F dX3_runDrift_15 (q := 4) rfl ?_
        refine z_aload_n F dX3_runDrift_17 rfl (q := 0) rfl ?_
        refine rf_X3_9 F gs_57 rfl dX3_runDrift_18 ?_
        refine gf_X3_84 F hI gs_2 rfl bd_2_3 dX3_runDrift_21 (fun v8 ev8 av8 bv8 => ?_)
        refine z_icmp_ge (tgt := 62) F dX3_runDrift_24 (by decide +kernel) (by omega) (by omega) (fun c9 => ?_) (fun c9 => ?_)
        · refine z_iload_n F dX3_runDrift_62 rfl (q := 1) rfl ?_
          refine z_iload_n F dX3_runDrift_63 rfl (q := 3) rfl ?_
          refine z_icmp_ne (tgt := 69) F dX3_runDrift_64 (by decide +kernel) (by omega) (by omega) (fun c10 => ?_) (fun c10 => ?_)
          · refine z_iincN F dX3_runDrift_69 (q := 2) rfl (by decide) (fun v11 ev11 => ?_)
            refine z_eq (ls' := [(2, ii v11), (0, .ref (ad 57)), (1, ii y6), (3, ii y2), (4, ii y7)]) rfl rfl rfl ?_
            refine z_goto (tgt := 4) F dX3_runDrift_72 (by decide +kernel) ?_
            refine z_loc [1, 2, 0] (ls' := [(0, .ref (ad 57)), (1, ii y6), (2, ii v11)]) rfl ?_
            exact ih4 y6 v11 M5 hI hW hF (by omega) (by omega) (by omega) (by omega) (by omega)
          · refine z_iload_n F dX3_runDrift_67 rfl (q := 1) rfl ?_
            exact hret _ _ 68 _ (by omega) ⟨hI, hW⟩ ⟨⟨by omega, by omega⟩, hF⟩ dX3_runDrift_68
        · refine z_aload_n F dX3_runDrift_27 rfl (q := 0) rfl ?_
          refine z_iload F dX3_runDrift_28 (q := 4) rfl ?_
          refine zv_i (rest := []) F (k_X3_favouriteOf_57 l M5 ⟨hI, hW⟩ y7 (by omega) (by omega)) cs_X3_87 (T := TX3) (N := 2) (ci := 3) rfl gs_57 (by decide) (by decide) rfl rfl rfl (Nat.le_of_ble_eq_true rfl) dX3_runDrift_30 (fun v12 M13 rv12 hI p14 => ?_)
          obtain ⟨hI, hW⟩ := hI
          obtain ⟨⟨av12, bv12⟩, rfl⟩ := p14
          refine z_istore F dX3_runDrift_33 (by decide) (ls' := [(5, ii v12), (0, .ref (ad 57)), (1, ii y6), (2, ii y3), (3, ii y2), (4, ii y7)]) rfl ?_
          refine z_iload F dX3_runDrift_35 (q := 0) rfl ?_
          refine z_iconst F dX3_runDrift_37 ?_
          refine z_icmp_eq (tgt := 56) F dX3_runDrift_38 (by decide +kernel) (by omega) (by omega) (fun c15 => ?_) (fun c15 => ?_)
          · refine z_iincN F dX3_runDrift_56 (q := 5) rfl (by decide) (fun v16 ev16 => ?_)
            refine z_eq (ls' := [(4, ii v16), (5, ii v12), (0, .ref (ad 57)), (1, ii y6), (2, ii y3), (3, ii y2)]) rfl rfl rfl ?_
            refine z_goto (tgt := 15) F dX3_runDrift_59 (by decide +kernel) ?_
            refine z_loc [2, 3, 4, 5, 0] (ls' := [(0, .ref (ad 57)), (1, ii y6), (2, ii y3), (3, ii y2), (4, ii v16)]) rfl ?_
            exact ih15 y6 v16 M5 hI hW hF (by omega) (by omega) (by omega) (by omega) (by omega)
          · refine z_aload_n F dX3_runDrift_41 rfl (q := 1) rfl ?_
            refine rf_X3_15 F gs_57 rfl dX3_runDrift_42 ?_
            refine rf_X3_78 F gs_35 rfl dX3_runDrift_45 ?_
            refine z_iload F dX3_runDrift_48 (q := 5) rfl ?_
            refine z_iload F dX3_runDrift_50 (q := 0) rfl ?_
            refine z_iast F hI gs_36 (by omega) (by omega) (by decide) bd_36 dX3_runDrift_52 (by omega) (by omega) (fun M18 hI sf17 f17 => ?_)
            have hF := hF.wr f17 (by decide) (by decide)
            have hW : WFk M18 := hW.site f17 (by decide)
            refine z_iincW F dX3_runDrift_53 (q := 2) rfl (by decide) (fun v19 rv19 wv19 => ?_)
            refine z_eq (ls' := [(1, ii v19), (5, ii v12), (0, .ref (ad 57)), (2, ii y3), (3, ii y2), (4, ii y7)]) rfl rfl rfl ?_
            refine z_iincN F dX3_runDrift_56 (q := 5) rfl (by decide) (fun v20 ev20 => ?_)
            refine z_eq (ls' := [(4, ii v20), (1, ii v19), (5, ii v12), (0, .ref (ad 57)), (2, ii y3), (3, ii y2)]) rfl rfl rfl ?_
            refine z_goto (tgt := 15) F dX3_runDrift_59 (by decide +kernel) ?_
            refine z_loc [3, 1, 4, 5, 0] (ls' := [(0, .ref (ad 57)), (1, ii v19), (2, ii y3), (3, ii y2), (4, ii v20)]) rfl ?_
            exact ih15 v19 v20 M18 hI hW hF (by omega) (by omega) (by omega) (by omega) (by omega)
set_option maxRecDepth 4000 in
theorem k_X11_drift (l : Launch) (M : Mem) (hJ : Iw M) : CI l yX11_drift cX11_drift 1 (some .int) 6 (fun ad => [.ref (ad 0)]) M (fun z M' => ((-2147483648) ≤ z ∧ z ≤ 2147483647) ∧ Fr [36, 40, 41] M M') := by
  obtain ⟨hI, hW⟩ := hJ
  have hF : Fr [36, 40, 41] M M := Fr.rf
  refine en_i (by decide +kernel) (fun ad => by exact Nat.le_of_ble_eq_true rfl) (fun D cy ad A p e s m args below meth c Q F hret => ?_)
  refine z_eq (ls' := [(0, .ref (ad 0))]) rfl rfl rfl ?_
  refine z_aload_n F dX11_drift_0 rfl (q := 0) rfl ?_
  refine rf_X11_41 F gs_0 rfl dX11_drift_1 ?_
  refine z_aload_n F dX11_drift_4 rfl (q := 0) rfl ?_
  refine rf_X11_34 F gs_0 rfl dX11_drift_5 ?_
  refine zv_v (rest := []) F (k_X4_keep_40_35 l M ⟨hI, hW⟩) cs_X11_217 (T := TX4) (N := 3) (ci := 4) rfl gs_40 (by decide) (by decide) rfl rfl rfl (Nat.le_of_ble_eq_true rfl) dX11_drift_8 (fun M1 hI p2 => ?_)
  obtain ⟨hI, hW⟩ := hI
  have fp2 := p2
  have hF := hF.call fp2 (by decide)
  refine z_aload_n F dX11_drift_11 rfl (q := 0) rfl ?_
  refine rf_X11_80 F gs_0 rfl dX11_drift_12 ?_
  refine zv_i (rest := []) F (k_X3_runDrift_57 l M1 ⟨hI, hW⟩) cs_X11_427 (T := TX3) (N := 2) (ci := 3) rfl gs_57 (by decide) (by decide) rfl rfl rfl (Nat.le_of_ble_eq_true rfl) dX11_drift_15 (fun v3 M4 rv3 hI p5 => ?_)
  obtain ⟨hI, hW⟩ := hI
  obtain ⟨⟨av3, bv3⟩, fp5⟩ := p5
  have hF := hF.call fp5 (by decide)
  exact hret _ _ 18 _ (by omega) ⟨hI, hW⟩ ⟨⟨by omega, by omega⟩, hF⟩ dX11_drift_18
set_option maxRecDepth 4000 in
theorem k_X0_look_49_123 (l : Launch) (M : Mem) (hJ : Iw M) : CI l yX0_look cX0_look 3 (some .boolean) 2 (fun ad => [.ref (ad 49), .ref (ad 123)]) M (fun z M' => (0 ≤ z ∧ z ≤ 1) ∧ Fr [49, 52] M M' ∧ (z = 1 → 1 ≤ M 123 0 ∧ M 123 0 ≤ 4)) := by
  obtain ⟨hI, hW⟩ := hJ
  have hF : Fr [49, 52] M M := Fr.rf
  refine en_z (by decide +kernel) (fun ad => by exact Nat.le_of_ble_eq_true rfl) (fun D cy ad A p e s m args below meth c Q F hret => ?_)
  refine z_eq (ls' := [(0, .ref (ad 49)), (1, .ref (ad 123))]) rfl rfl rfl ?_
  refine z_aload_n F dX0_look_0 rfl (q := 1) rfl ?_
  refine gf_X0_112 F hI gs_123 rfl bd_123_0 dX0_look_1 (fun v1 ev1 av1 bv1 => ?_)
  refine z_iconst F dX0_look_4 ?_
  refine z_icmp_lt (tgt := 16) F dX0_look_5 (by decide +kernel) (by omega) (by omega) (fun c2 => ?_) (fun c2 => ?_)
  · refine z_iconst F dX0_look_16 ?_
    exact hret _ _ 17 _ ⟨by omega, by omega⟩ ⟨hI, hW⟩ ⟨⟨by omega, by omega⟩, hF, (by omega)⟩ dX0_look_17
  · refine z_aload_n F dX0_look_8 rfl (q := 1) rfl ?_
    refine gf_X0_112 F hI gs_123 rfl bd_123_0 dX0_look_9 (fun v3 ev3 av3 bv3 => ?_)
    have zv3 : v1 = v3 := ev1.trans ev3.symm
    subst zv3
    refine z_iconst F dX0_look_12 ?_
    refine z_icmp_le (tgt := 18) F dX0_look_13 (by decide +kernel) (by omega) (by omega) (fun c4 => ?_) (fun c4 => ?_)
    · refine z_iconst F dX0_look_18 ?_
      refine z_istore_n F dX0_look_19 rfl (by decide) (ls' := [(2, ii 0), (0, .ref (ad 49)), (1, .ref (ad 123))]) rfl ?_
      refine z_loc [1, 2, 0] (ls' := [(0, .ref (ad 49)), (1, .ref (ad 123)), (2, ii 0)]) rfl ?_
      suffices key20 : ∀ (n : Nat) (y6 : Int) (M5 : Mem), Inv M5 → WFk M5 → Fr [49, 52] M M5 → 0 ≤ y6 → y6 ≤ 4 → (1 ≤ M5 123 0) → (M5 123 0 ≤ 4) → (M5 123 0 = M 123 0) → 4 - y6 < (n : Int) → Z D cy ad p l e (RMh 2) s m args below meth c A 3 0 0 Q 20 [(0, .ref (ad 49)), (1, .ref (ad 123)), (2, ii y6)] [] M5 from key20 5 0 M hI hW hF (by omega) (by omega) (by omega) (by omega) (by omega) (by omega)
      intro n20
      induction n20 with
      | zero => intro y6 M5 hI hW hF ay6 by6 i20_0 i20_1 i20_2 hn20; exfalso; omega
      | succ n20 ih20 =>
        intro y6 M5 hI hW hF ay6 by6 i20_0 i20_1 i20_2 hn20
        obtain ⟨u7, eu7⟩ : ∃ v : Int, v = M5 123 0 := ⟨_, rfl⟩
        have ku7 : 1 ≤ u7 ∧ u7 ≤ 4 := by have := hI.at (show Bd 123 0 = (-1, 30) from rfl); omega
        refine z_iload_n F dX0_look_20 rfl (q := 2) rfl ?_
        refine z_aload_n F dX0_look_21 rfl (q := 1) rfl ?_
        refine gf_X0_112 F hI gs_123 rfl bd_123_0 dX0_look_22 (fun v8 ev8 av8 bv8 => ?_)
        have zv8 : u7 = v8 := eu7.trans ev8.symm
        subst zv8
        refine z_icmp_ge (tgt := 59) F dX0_look_25 (by decide +kernel) (by omega) (by omega) (fun c9 => ?_) (fun c9 => ?_)
        · refine z_aload_n F dX0_look_59 rfl (q := 0) rfl ?_
          refine z_aload_n F dX0_look_60 rfl (q := 1) rfl ?_
          refine gf_X0_112 F hI gs_123 rfl bd_123_0 dX0_look_61 (fun v10 ev10 av10 bv10 => ?_)
          have zv10 : u7 = v10 := eu7.trans ev10.symm
          subst zv10
          refine pf_X0_123 F hI gs_49 rfl bd_49_5 rfl rfl dX0_look_64 (by omega) (by omega) (fun M12 hI sf11 f11 => ?_)
          have hF := hF.wr f11 (by decide) (by decide)
          have hW : WFk M12 := hW.site f11 (by decide)
          refine z_iconst F dX0_look_67 ?_
          exact hret _ _ 68 _ ⟨by omega, by omega⟩ ⟨hI, hW⟩ ⟨⟨by omega, by omega⟩, hF, (by omega)⟩ dX0_look_68
        · refine z_aload_n F dX0_look_28 rfl (q := 1) rfl ?_
          refine z_iload_n F dX0_look_29 rfl (q := 2) rfl ?_
          refine zv_l (rest := []) F (k_X10_numberAt_123 l M5 ⟨hI, hW⟩ y6 (by omega) (by omega)) cs_X0_117 (T := TX10) (N := 3) (ci := 10) rfl gs_123 (by decide) (by decide) rfl rfl rfl (Nat.le_of_ble_eq_true rfl) dX0_look_30 (fun v13 M14 rv13 hI p15 => ?_)
          obtain ⟨hI, hW⟩ := hI
          obtain ⟨⟨av13, bv13⟩, rfl⟩ := p15
          refine z_ldc2 (x := (-1)) F dX0_look_33 (gin lm_893 rfl) (by decide +kernel) ?_
          refine z_lcmp F dX0_look_36 (by omega) (by omega) (fun v16 ev16 => ?_)
          refine z_if_ge (tgt := 42) F dX0_look_37 (by decide +kernel) (by omega) (fun c17 => ?_) (fun c17 => ?_)
          · refine z_aload_n F dX0_look_42 rfl (q := 0) rfl ?_
            refine rf_X0_18 F gs_49 rfl dX0_look_43 ?_
            refine z_iload_n F dX0_look_46 rfl (q := 2) rfl ?_
            refine z_aload_n F dX0_look_47 rfl (q := 1) rfl ?_
            refine z_iload_n F dX0_look_48 rfl (q := 2) rfl ?_
            refine zv_l (rest := [ii y6, .ref (ad 52)]) F (k_X10_numberAt_123 l M5 ⟨hI, hW⟩ y6 (by omega) (by omega)) cs_X0_117 (T := TX10) (N := 3) (ci := 10) rfl gs_123 (by decide) (by decide) rfl rfl rfl (Nat.le_of_ble_eq_true rfl) dX0_look_49 (fun v18 M19 rv18 hI p20 => ?_)
            obtain ⟨hI, hW⟩ := hI
            obtain ⟨⟨av18, bv18⟩, rfl⟩ := p20
            refine z_last F hI gs_52 (by omega) (by omega) (by decide) bd_52 dX0_look_52 (by omega) (by omega) (fun M22 hI sf21 f21 => ?_)
            have hF := hF.wr f21 (by decide) (by decide)
            have hW : WFk M22 := hW.site f21 (by decide)
            refine z_iincN F dX0_look_53 (q := 2) rfl (by decide) (fun v23 ev23 => ?_)
            refine z_eq (ls' := [(2, ii v23), (0, .ref (ad 49)), (1, .ref (ad 123))]) rfl rfl rfl ?_
            refine z_goto (tgt := 20) F dX0_look_56 (by decide +kernel) ?_
            refine z_loc [1, 2, 0] (ls' := [(0, .ref (ad 49)), (1, .ref (ad 123)), (2, ii v23)]) rfl ?_
            have q24 : u7 = M22 123 0 := eu7.trans (f21 123 0 (fun q => absurd q.1 (by decide))).symm
            exact ih20 v23 M22 hI hW hF (by omega) (by omega) (by omega) (by omega) (by omega) (by omega)
          · refine z_iconst F dX0_look_40 ?_
            exact hret _ _ 41 _ ⟨by omega, by omega⟩ ⟨hI, hW⟩ ⟨⟨by omega, by omega⟩, hF, (by omega)⟩ dX0_look_41
    · refine z_iconst F dX0_look_16 ?_
      exact hret _ _ 17 _ ⟨by omega, by omega⟩ ⟨hI, hW⟩ ⟨⟨by omega, by omega⟩, hF, (by omega)⟩ dX0_look_17
set_option maxRecDepth 4000 in
theorem k_X11_needSights_0_123 (l : Launch) (hlT : l.stackTraces = false) (M : Mem) (hJ : Iw M) : CVX l yX11_needSights cX11_needSights 2 none 3 1 (fun ad => [.ref (ad 0), .ref (ad 123)]) M (fun M' => Fr [49, 52] M M' ∧ (1 ≤ M 123 0 ∧ M 123 0 ≤ 4)) (fun E M' => (E = "java/lang/IllegalArgumentException" ∧ True ∧ Fr [49, 52] M M')) := by
  obtain ⟨hI, hW⟩ := hJ
  have hF : Fr [49, 52] M M := Fr.rf
  refine enx_v (by decide +kernel) (fun ad => by exact Nat.le_of_ble_eq_true rfl) (fun D cy ad A p e s m args below meth c Q F hQ hr hlk hex => ?_)
  refine z_eq (ls' := [(0, .ref (ad 0)), (1, .ref (ad 123))]) rfl rfl rfl ?_
  refine z_aload_n F dX11_needSights_0 rfl (q := 0) rfl ?_
  refine rf_X11_73 F gs_0 rfl dX11_needSights_1 ?_
  refine z_aload_n F dX11_needSights_4 rfl (q := 1) rfl ?_
  refine zw_i (rest := []) F (k_X0_look_49_123 l M ⟨hI, hW⟩) cs_X11_441 (T := TX0) (N := 13) (ci := 0) rfl gs_49 (by decide) (by decide) ⟨by decide, by decide⟩ rfl rfl rfl (Nat.le_of_ble_eq_true rfl) dX11_needSights_5 (fun v1 M2 rv1 hI p3 => ?_)
  obtain ⟨hI, hW⟩ := hI
  obtain ⟨⟨av1, bv1⟩, fp3, xp3⟩ := p3
  have hF := hF.call fp3 (by decide)
  refine z_if_ne (tgt := 22) F dX11_needSights_8 (by decide +kernel) (by omega) (fun c4 => ?_) (fun c4 => ?_)
  · exact zxr_v F hQ hr hlk dX11_needSights_22 ⟨by decide, by decide⟩ ⟨hI, hW⟩ ⟨hF, (by omega)⟩
  · exact z_thrSW (cls := "java/lang/IllegalArgumentException") (names := ["java/lang/RuntimeException", "java/lang/Exception"]) (j := 50) F hlT hQ hlk hex (by decide +kernel) (by decide +kernel) (by decide) (gin lm_360 rfl) (gin lm_361 rfl) at_X11_105 bad_X11_105 (by decide +kernel) ot_X11_105 rfl rfl rfl dX11_needSights_11 dX11_needSights_14 dX11_needSights_15 dX11_needSights_18 dX11_needSights_21 ⟨by decide, by decide⟩ (Nat.le_of_ble_eq_true rfl) ⟨hI, hW⟩ (⟨rfl, trivial, hF⟩)
set_option maxRecDepth 4000 in
theorem k_X0_noteStory_49 (l : Launch) (M : Mem) (hJ : Iw M) (x0 : Int) (hx0a : 0 ≤ x0) (hx0b : x0 ≤ 3) : CV l yX0_noteStory cX0_noteStory 2 none 1 (fun ad => [.ref (ad 49), ii x0]) M (fun M' => Fr [49] M M') := by
  obtain ⟨hI, hW⟩ := hJ
  have hF : Fr [49] M M := Fr.rf
  refine en_v (by decide +kernel) (fun ad => by exact Nat.le_of_ble_eq_true rfl) (fun D cy ad A p e s m args below meth c Q F hret => ?_)
  refine z_eq (ls' := [(0, .ref (ad 49)), (1, ii x0)]) rfl rfl rfl ?_
  refine z_aload_n F dX0_noteStory_0 rfl (q := 0) rfl ?_
  refine z_dup F dX0_noteStory_1 rfl ?_
  refine gf_X0_126 F hI gs_49 rfl bd_49_7 dX0_noteStory_2 (fun v1 ev1 av1 bv1 => ?_)
  refine z_iconst F dX0_noteStory_5 ?_
  refine z_iadd F dX0_noteStory_6 ?_
  refine z_wrap (fun v2 rv2 wv2 => ?_)
  refine pf_X0_126 F hI gs_49 rfl bd_49_7 rfl rfl dX0_noteStory_7 (by omega) (by omega) (fun M4 hI sf3 f3 => ?_)
  have hF := hF.wr f3 (by decide) (by decide)
  have hW : WFk M4 := hW.site f3 (by decide)
  refine z_aload_n F dX0_noteStory_10 rfl (q := 0) rfl ?_
  refine gf_X0_126 F hI gs_49 rfl bd_49_7 dX0_noteStory_11 (fun v5 ev5 av5 bv5 => ?_)
  have zv5 : v2 = v5 := sf3.symm.trans ev5.symm
  subst zv5
  refine z_iconst F dX0_noteStory_14 ?_
  refine z_icmp_ne (tgt := 31) F dX0_noteStory_15 (by decide +kernel) (by omega) (by omega) (fun c6 => ?_) (fun c6 => ?_)
  · refine z_aload_n F dX0_noteStory_31 rfl (q := 0) rfl ?_
    refine gf_X0_129 F hI gs_49 rfl bd_49_8 dX0_noteStory_32 (fun v7 ev7 av7 bv7 => ?_)
    refine z_aload_n F dX0_noteStory_35 rfl (q := 0) rfl ?_
    refine rf_X0_22 F gs_49 rfl dX0_noteStory_36 ?_
    refine z_iload_n F dX0_noteStory_39 rfl (q := 1) rfl ?_
    refine z_iald F hI gs_53 (by omega) (by omega) (by decide) bd_53 dX0_noteStory_40 (fun v8 (ev8 : v8 = M4 53 _) av8 bv8 => ?_)
    refine z_icmp_eq (tgt := 50) F dX0_noteStory_41 (by decide +kernel) (by omega) (by omega) (fun c9 => ?_) (fun c9 => ?_)
    · exact hret _ 50 _ ⟨hI, hW⟩ hF dX0_noteStory_50
    · refine z_aload_n F dX0_noteStory_44 rfl (q := 0) rfl ?_
      refine z_bipush F dX0_noteStory_45 (by decide +kernel) ?_
      refine pf_X0_129 F hI gs_49 rfl bd_49_8 rfl rfl dX0_noteStory_47 (by omega) (by omega) (fun M11 hI sf10 f10 => ?_)
      have hF := hF.wr f10 (by decide) (by decide)
      have hW : WFk M11 := hW.site f10 (by decide)
      exact hret _ 50 _ ⟨hI, hW⟩ hF dX0_noteStory_50
  · refine z_aload_n F dX0_noteStory_18 rfl (q := 0) rfl ?_
    refine z_aload_n F dX0_noteStory_19 rfl (q := 0) rfl ?_
    refine rf_X0_22 F gs_49 rfl dX0_noteStory_20 ?_
    refine z_iload_n F dX0_noteStory_23 rfl (q := 1) rfl ?_
    refine z_iald F hI gs_53 (by omega) (by omega) (by decide) bd_53 dX0_noteStory_24 (fun v12 (ev12 : v12 = M4 53 _) av12 bv12 => ?_)
    refine pf_X0_129 F hI gs_49 rfl bd_49_8 rfl rfl dX0_noteStory_25 (by omega) (by omega) (fun M14 hI sf13 f13 => ?_)
    have hF := hF.wr f13 (by decide) (by decide)
    have hW : WFk M14 := hW.site f13 (by decide)
    refine z_goto (tgt := 50) F dX0_noteStory_28 (by decide +kernel) ?_
    exact hret _ 50 _ ⟨hI, hW⟩ hF dX0_noteStory_50
set_option maxRecDepth 4000 in
theorem k_X0_turn_49 (l : Launch) (M : Mem) (hJ : Iw M) (x0 : Int) (hx0a : (-1) ≤ x0) (hx0b : x0 ≤ 7) (x1 : Int) (hx1a : (-2147483648) ≤ x1) (hx1b : x1 ≤ 2147483647) : CV l yX0_turn cX0_turn 3 none 1 (fun ad => [.ref (ad 49), ii x0, ii x1]) M (fun M' => Fr [51] M M') := by
  obtain ⟨hI, hW⟩ := hJ
  have hF : Fr [51] M M := Fr.rf
  refine en_v (by decide +kernel) (fun ad => by exact Nat.le_of_ble_eq_true rfl) (fun D cy ad A p e s m args below meth c Q F hret => ?_)
  refine z_eq (ls' := [(0, .ref (ad 49)), (1, ii x0), (2, ii x1)]) rfl rfl rfl ?_
  refine z_iload_n F dX0_turn_0 rfl (q := 1) rfl ?_
  refine z_iconst F dX0_turn_1 ?_
  refine z_icmp_eq (tgt := 15) F dX0_turn_2 (by decide +kernel) (by omega) (by omega) (fun c1 => ?_) (fun c1 => ?_)
  · exact hret _ 15 _ ⟨hI, hW⟩ hF dX0_turn_15
  · refine z_aload_n F dX0_turn_5 rfl (q := 0) rfl ?_
    refine rf_X0_15 F gs_49 rfl dX0_turn_6 ?_
    refine z_iload_n F dX0_turn_9 rfl (q := 1) rfl ?_
    refine z_dup2 F dX0_turn_10 rfl rfl ?_
    refine z_iald F hI gs_51 (by omega) (by omega) (by decide) bd_51 dX0_turn_11 (fun v2 (ev2 : v2 = M 51 _) av2 bv2 => ?_)
    refine z_iload_n F dX0_turn_12 rfl (q := 2) rfl ?_
    refine z_iadd F dX0_turn_13 ?_
    refine z_wrap (fun v3 rv3 wv3 => ?_)
    refine z_iast F hI gs_51 (by omega) (by omega) (by decide) bd_51 dX0_turn_14 (by omega) (by omega) (fun M5 hI sf4 f4 => ?_)
    have hF := hF.wr f4 (by decide) (by decide)
    have hW : WFk M5 := hW.site f4 (by decide)
    exact hret _ 15 _ ⟨hI, hW⟩ hF dX0_turn_15
set_option maxRecDepth 4000 in
theorem k_X0_follow_49 (l : Launch) : ∀ (nr : Nat) (M : Mem) (hJ : Iw M) (x0 : Int) (hx0a : 0 ≤ x0) (hx0b : x0 ≤ 4) (x1 : Int) (hx1a : 0 ≤ x1) (hx1b : x1 ≤ 3) (hmu : 4 - x0 < (nr : Int)), CV l yX0_follow cX0_follow 4 none (2 + nr) (fun ad => [.ref (ad 49), ii x0, ii x1]) M (fun M' => Fr [49, 51, 53] M M') := by
  intro nr
  induction nr with
  | zero => intro M hJ x0 hx0a hx0b x1 hx1a hx1b hmu; exfalso; omega
  | succ nr ih =>
  intro M hJ x0 hx0a hx0b x1 hx1a hx1b hmu
  obtain ⟨hI, hW⟩ := hJ
  have hF : Fr [49, 51, 53] M M := Fr.rf
  refine en_v (by decide +kernel) (fun ad => by exact Nat.le_of_ble_eq_true rfl) (fun D cy ad A p e s m args below meth c Q F hret => ?_)
  refine z_eq (ls' := [(0, .ref (ad 49)), (1, ii x0), (2, ii x1)]) rfl rfl rfl ?_
  refine z_iload_n F dX0_follow_0 rfl (q := 1) rfl ?_
  refine z_aload_n F dX0_follow_1 rfl (q := 0) rfl ?_
  refine gf_X0_123 F hI gs_49 rfl bd_49_5 dX0_follow_2 (fun v1 ev1 av1 bv1 => ?_)
  refine z_icmp_ge (tgt := 13) F dX0_follow_5 (by decide +kernel) (by omega) (by omega) (fun c2 => ?_) (fun c2 => ?_)
  · refine z_aload_n F dX0_follow_13 rfl (q := 0) rfl ?_
    refine z_iload_n F dX0_follow_14 rfl (q := 2) rfl ?_
    refine zv_v (rest := []) F (k_X0_noteStory_49 l M ⟨hI, hW⟩ x1 (by omega) (by omega)) cs_X0_136 (T := TX0) (N := 13) (ci := 0) rfl gs_49 (by omega) (by decide) rfl rfl rfl (Nat.le_of_ble_eq_true rfl) dX0_follow_15 (fun M3 hI p4 => ?_)
    obtain ⟨hI, hW⟩ := hI
    have fp4 := p4
    have hF := hF.call fp4 (by decide)
    exact hret _ 18 _ ⟨hI, hW⟩ hF dX0_follow_18
  · refine z_iload_n F dX0_follow_8 rfl (q := 1) rfl ?_
    refine z_iconst F dX0_follow_9 ?_
    refine z_icmp_lt (tgt := 19) F dX0_follow_10 (by decide +kernel) (by omega) (by omega) (fun c5 => ?_) (fun c5 => by exfalso; omega)
    refine z_iconst F dX0_follow_19 ?_
    refine z_istore_n F dX0_follow_20 rfl (by decide) (ls' := [(3, ii (-1)), (0, .ref (ad 49)), (1, ii x0), (2, ii x1)]) rfl ?_
    refine z_loc [1, 2, 3, 0] (ls' := [(0, .ref (ad 49)), (1, ii x0), (2, ii x1), (3, ii (-1))]) rfl ?_
    suffices key21 : ∀ (n : Nat) (y7 : Int) (M6 : Mem), Inv M6 → WFk M6 → Fr [49, 51, 53] M M6 → (-1) ≤ y7 → y7 ≤ 8 → 8 - y7 < (n : Int) → Z D cy ad p l e (RMh (2 + (nr + 1))) s m args below meth c A 4 0 0 Q 21 [(0, .ref (ad 49)), (1, ii x0), (2, ii x1), (3, ii y7)] [] M6 from key21 10 (-1) M hI hW hF (by omega) (by omega) (by omega)
    intro n21
    induction n21 with
    | zero => intro y7 M6 hI hW hF ay7 by7 hn21; exfalso; omega
    | succ n21 ih21 =>
      intro y7 M6 hI hW hF ay7 by7 hn21
      refine z_iload_n F dX0_follow_21 rfl (q := 3) rfl ?_
      refine z_aload_n F dX0_follow_22 rfl (q := 0) rfl ?_
      refine rf_X0_34 F gs_49 rfl dX0_follow_23 ?_
      refine gf_X0_72 F hI gs_2 rfl bd_2_3 dX0_follow_26 (fun v8 ev8 av8 bv8 => ?_)
      refine z_icmp_ge (tgt := 93) F dX0_follow_29 (by decide +kernel) (by omega) (by omega) (fun c9 => ?_) (fun c9 => ?_)
      · exact hret _ 93 _ ⟨hI, hW⟩ hF dX0_follow_93
      · refine z_aload_n F dX0_follow_32 rfl (q := 0) rfl ?_
        refine rf_X0_22 F gs_49 rfl dX0_follow_33 ?_
        refine z_iload_n F dX0_follow_36 rfl (q := 1) rfl ?_
        refine z_iload_n F dX0_follow_37 rfl (q := 3) rfl ?_
        refine z_iast F hI gs_53 (by omega) (by omega) (by decide) bd_53 dX0_follow_38 (by omega) (by omega) (fun M11 hI sf10 f10 => ?_)
        have hF := hF.wr f10 (by decide) (by decide)
        have hW : WFk M11 := hW.site f10 (by decide)
        refine z_aload_n F dX0_follow_39 rfl (q := 0) rfl ?_
        refine z_iload_n F dX0_follow_40 rfl (q := 3) rfl ?_
        refine z_iconst F dX0_follow_41 ?_
        refine zv_v (rest := []) F (k_X0_turn_49 l M11 ⟨hI, hW⟩ y7 (by omega) (by omega) 1 (by omega) (by omega)) cs_X0_139 (T := TX0) (N := 13) (ci := 0) rfl gs_49 (by omega) (by decide) rfl rfl rfl (Nat.le_of_ble_eq_true rfl) dX0_follow_42 (fun M12 hI p13 => ?_)
        obtain ⟨hI, hW⟩ := hI
        have fp13 := p13
        have hF := hF.call fp13 (by decide)
        refine z_aload_n F dX0_follow_45 rfl (q := 0) rfl ?_
        refine rf_X0_18 F gs_49 rfl dX0_follow_46 ?_
        refine z_iload_n F dX0_follow_49 rfl (q := 1) rfl ?_
        refine z_lald F hI gs_52 (by omega) (by omega) (by decide) bd_52 dX0_follow_50 (fun v14 (ev14 : v14 = M12 52 _) av14 bv14 => ?_)
        refine z_ldc2 (x := (-1)) F dX0_follow_51 (gin lm_893 rfl) (by decide +kernel) ?_
        refine z_lcmp F dX0_follow_54 (by omega) (by omega) (fun v15 ev15 => ?_)
        refine z_if_eq (tgt := 73) F dX0_follow_55 (by decide +kernel) (by omega) (fun c16 => ?_) (fun c16 => ?_)
        · refine z_aload_n F dX0_follow_73 rfl (q := 0) rfl ?_
          refine z_iload_n F dX0_follow_74 rfl (q := 1) rfl ?_
          refine z_iconst F dX0_follow_75 ?_
          refine z_iadd F dX0_follow_76 ?_
          refine z_iload_n F dX0_follow_77 rfl (q := 2) rfl ?_
          refine zv_v (rest := []) F (ih M12 ⟨hI, hW⟩ (x0 + 1) (by omega) (by omega) x1 (by omega) (by omega) (by omega)) cs_X0_132 (T := TX0) (N := 13) (ci := 0) rfl gs_49 (by omega) (by decide) rfl rfl rfl (Nat.le_of_ble_eq_true rfl) dX0_follow_78 (fun M17 hI p18 => ?_)
          obtain ⟨hI, hW⟩ := hI
          have fp18 := p18
          have hF := hF.call fp18 (by decide)
          refine z_aload_n F dX0_follow_81 rfl (q := 0) rfl ?_
          refine z_iload_n F dX0_follow_82 rfl (q := 3) rfl ?_
          refine z_iconst F dX0_follow_83 ?_
          refine zv_v (rest := []) F (k_X0_turn_49 l M17 ⟨hI, hW⟩ y7 (by omega) (by omega) (-1) (by omega) (by omega)) cs_X0_139 (T := TX0) (N := 13) (ci := 0) rfl gs_49 (by omega) (by decide) rfl rfl rfl (Nat.le_of_ble_eq_true rfl) dX0_follow_84 (fun M19 hI p20 => ?_)
          obtain ⟨hI, hW⟩ := hI
          have fp20 := p20
          have hF := hF.call fp20 (by decide)
          refine z_iincN F dX0_follow_87 (q := 3) rfl (by decide) (fun v21 ev21 => ?_)
          refine z_eq (ls' := [(3, ii v21), (0, .ref (ad 49)), (1, ii x0), (2, ii x1)]) rfl rfl rfl ?_
          refine z_goto (tgt := 21) F dX0_follow_90 (by decide +kernel) ?_
          refine z_loc [1, 2, 3, 0] (ls' := [(0, .ref (ad 49)), (1, ii x0), (2, ii x1), (3, ii v21)]) rfl ?_
          exact ih21 v21 M19 hI hW hF (by omega) (by omega) (by omega)
        · refine z_aload_n F dX0_follow_58 rfl (q := 0) rfl ?_
          refine rf_X0_18 F gs_49 rfl dX0_follow_59 ?_
          refine z_iload_n F dX0_follow_62 rfl (q := 1) rfl ?_
          refine z_lald F hI gs_52 (by omega) (by omega) (by decide) bd_52 dX0_follow_63 (fun v22 (ev22 : v22 = M12 52 _) av22 bv22 => ?_)
          have zv22 : v14 = v22 := ev14.trans ev22.symm
          subst zv22
          refine z_aload_n F dX0_follow_64 rfl (q := 0) rfl ?_
          refine zv_i (rest := [ll v14]) F (k_X0_turnedClashes_49 l M12 ⟨hI, hW⟩) cs_X0_108 (T := TX0) (N := 13) (ci := 0) rfl gs_49 (by omega) (by decide) rfl rfl rfl (Nat.le_of_ble_eq_true rfl) dX0_follow_65 (fun v23 M24 rv23 hI p25 => ?_)
          obtain ⟨hI, hW⟩ := hI
          obtain ⟨⟨av23, bv23⟩, rfl⟩ := p25
          refine z_i2l F dX0_follow_68 (by omega) ?_
          refine z_lcmp F dX0_follow_69 (by omega) (by omega) (fun v26 ev26 => ?_)
          refine z_if_ne (tgt := 81) F dX0_follow_70 (by decide +kernel) (by omega) (fun c27 => ?_) (fun c27 => ?_)
          · refine z_aload_n F dX0_follow_81 rfl (q := 0) rfl ?_
            refine z_iload_n F dX0_follow_82 rfl (q := 3) rfl ?_
            refine z_iconst F dX0_follow_83 ?_
            refine zv_v (rest := []) F (k_X0_turn_49 l M12 ⟨hI, hW⟩ y7 (by omega) (by omega) (-1) (by omega) (by omega)) cs_X0_139 (T := TX0) (N := 13) (ci := 0) rfl gs_49 (by omega) (by decide) rfl rfl rfl (Nat.le_of_ble_eq_true rfl) dX0_follow_84 (fun M28 hI p29 => ?_)
            obtain ⟨hI, hW⟩ := hI
            have fp29 := p29
            have hF := hF.call fp29 (by decide)
            refine z_iincN F dX0_follow_87 (q := 3) rfl (by decide) (fun v30 ev30 => ?_)
            refine z_eq (ls' := [(3, ii v30), (0, .ref (ad 49)), (1, ii x0), (2, ii x1)]) rfl rfl rfl ?_
            refine z_goto (tgt := 21) F dX0_follow_90 (by decide +kernel) ?_
            refine z_loc [1, 2, 3, 0] (ls' := [(0, .ref (ad 49)), (1, ii x0), (2, ii x1), (3, ii v30)]) rfl ?_
            exact ih21 v30 M28 hI hW hF (by omega) (by omega) (by omega)
          · refine z_aload_n F dX0_follow_73 rfl (q := 0) rfl ?_
            refine z_iload_n F dX0_follow_74 rfl (q := 1) rfl ?_
            refine z_iconst F dX0_follow_75 ?_
            refine z_iadd F dX0_follow_76 ?_
            refine z_iload_n F dX0_follow_77 rfl (q := 2) rfl ?_
            refine zv_v (rest := []) F (ih M12 ⟨hI, hW⟩ (x0 + 1) (by omega) (by omega) x1 (by omega) (by omega) (by omega)) cs_X0_132 (T := TX0) (N := 13) (ci := 0) rfl gs_49 (by omega) (by decide) rfl rfl rfl (Nat.le_of_ble_eq_true rfl) dX0_follow_78 (fun M31 hI p32 => ?_)
            obtain ⟨hI, hW⟩ := hI
            have fp32 := p32
            have hF := hF.call fp32 (by decide)
            refine z_aload_n F dX0_follow_81 rfl (q := 0) rfl ?_
            refine z_iload_n F dX0_follow_82 rfl (q := 3) rfl ?_
            refine z_iconst F dX0_follow_83 ?_
            refine zv_v (rest := []) F (k_X0_turn_49 l M31 ⟨hI, hW⟩ y7 (by omega) (by omega) (-1) (by omega) (by omega)) cs_X0_139 (T := TX0) (N := 13) (ci := 0) rfl gs_49 (by omega) (by decide) rfl rfl rfl (Nat.le_of_ble_eq_true rfl) dX0_follow_84 (fun M33 hI p34 => ?_)
            obtain ⟨hI, hW⟩ := hI
            have fp34 := p34
            have hF := hF.call fp34 (by decide)
            refine z_iincN F dX0_follow_87 (q := 3) rfl (by decide) (fun v35 ev35 => ?_)
            refine z_eq (ls' := [(3, ii v35), (0, .ref (ad 49)), (1, ii x0), (2, ii x1)]) rfl rfl rfl ?_
            refine z_goto (tgt := 21) F dX0_follow_90 (by decide +kernel) ?_
            refine z_loc [1, 2, 3, 0] (ls' := [(0, .ref (ad 49)), (1, ii x0), (2, ii x1), (3, ii v35)]) rfl ?_
            exact ih21 v35 M33 hI hW hF (by omega) (by omega) (by omega)
set_option maxRecDepth 4000 in
theorem k_X0_countStories_49 (l : Launch) (M : Mem) (hJ : Iw M) (x0 : Int) (hx0a : 0 ≤ x0) (hx0b : x0 ≤ 3) : CI l yX0_countStories cX0_countStories 2 (some .int) 8 (fun ad => [.ref (ad 49), ii x0]) M (fun z M' => ((-2147483648) ≤ z ∧ z ≤ 2147483647) ∧ Fr [16, 17, 49, 50, 51, 53] M M') := by
  obtain ⟨hI, hW⟩ := hJ
  have hF : Fr [16, 17, 49, 50, 51, 53] M M := Fr.rf
  refine en_i (by decide +kernel) (fun ad => by exact Nat.le_of_ble_eq_true rfl) (fun D cy ad A p e s m args below meth c Q F hret => ?_)
  refine z_eq (ls' := [(0, .ref (ad 49)), (1, ii x0)]) rfl rfl rfl ?_
  refine z_aload_n F dX0_countStories_0 rfl (q := 0) rfl ?_
  refine z_aload_n F dX0_countStories_1 rfl (q := 0) rfl ?_
  refine gf_X0_123 F hI gs_49 rfl bd_49_5 dX0_countStories_2 (fun v1 ev1 av1 bv1 => ?_)
  refine zv_v (rest := []) F (k_X0_foresee_49 l M ⟨hI, hW⟩ v1 (by omega) (by omega)) cs_X0_94 (T := TX0) (N := 13) (ci := 0) rfl gs_49 (by decide) (by decide) rfl rfl rfl (Nat.le_of_ble_eq_true rfl) dX0_countStories_5 (fun M2 hI p3 => ?_)
  obtain ⟨hI, hW⟩ := hI
  have fp3 := p3
  have hF := hF.call fp3 (by decide)
  refine z_aload_n F dX0_countStories_8 rfl (q := 0) rfl ?_
  refine z_iconst F dX0_countStories_9 ?_
  refine pf_X0_126 F hI gs_49 rfl bd_49_7 rfl rfl dX0_countStories_10 (by omega) (by omega) (fun M5 hI sf4 f4 => ?_)
  have hF := hF.wr f4 (by decide) (by decide)
  have hW : WFk M5 := hW.site f4 (by decide)
  refine z_aload_n F dX0_countStories_13 rfl (q := 0) rfl ?_
  refine z_bipush F dX0_countStories_14 (by decide +kernel) ?_
  refine pf_X0_129 F hI gs_49 rfl bd_49_8 rfl rfl dX0_countStories_16 (by omega) (by omega) (fun M7 hI sf6 f6 => ?_)
  have hF := hF.wr f6 (by decide) (by decide)
  have hW : WFk M7 := hW.site f6 (by decide)
  refine z_aload_n F dX0_countStories_19 rfl (q := 0) rfl ?_
  refine z_iconst F dX0_countStories_20 ?_
  refine z_iload_n F dX0_countStories_21 rfl (q := 1) rfl ?_
  refine zv_v (rest := []) F (k_X0_follow_49 l 5 M7 ⟨hI, hW⟩ 0 (by omega) (by omega) x0 (by omega) (by omega) (by omega)) cs_X0_132 (T := TX0) (N := 13) (ci := 0) rfl gs_49 (by decide) (by decide) rfl rfl rfl (Nat.le_of_ble_eq_true rfl) dX0_countStories_22 (fun M8 hI p9 => ?_)
  obtain ⟨hI, hW⟩ := hI
  have fp9 := p9
  have hF := hF.call fp9 (by decide)
  refine z_aload_n F dX0_countStories_25 rfl (q := 0) rfl ?_
  refine gf_X0_126 F hI gs_49 rfl bd_49_7 dX0_countStories_26 (fun v10 ev10 av10 bv10 => ?_)
  have q11 : 0 = M7 49 7 := sf4.symm.trans (f6 49 7 (fun q => absurd q.2 (by decide))).symm
  exact hret _ _ 29 _ (by omega) ⟨hI, hW⟩ ⟨⟨by omega, by omega⟩, hF⟩ dX0_countStories_29
set_option maxRecDepth 4000 in
theorem k_X0_look_49_125 (l : Launch) (M : Mem) (hJ : Iw M) : CI l yX0_look cX0_look 3 (some .boolean) 2 (fun ad => [.ref (ad 49), .ref (ad 125)]) M (fun z M' => (0 ≤ z ∧ z ≤ 1) ∧ Fr [49, 52] M M' ∧ (z = 1 → 1 ≤ M 125 0 ∧ M 125 0 ≤ 4)) := by
  obtain ⟨hI, hW⟩ := hJ
  have hF : Fr [49, 52] M M := Fr.rf
  refine en_z (by decide +kernel) (fun ad => by exact Nat.le_of_ble_eq_true rfl) (fun D cy ad A p e s m args below meth c Q F hret => ?_)
  refine z_eq (ls' := [(0, .ref (ad 49)), (1, .ref (ad 125))]) rfl rfl rfl ?_
  refine z_aload_n F dX0_look_0 rfl (q := 1) rfl ?_
  refine gf_X0_112 F hI gs_125 rfl bd_125_0 dX0_look_1 (fun v1 ev1 av1 bv1 => ?_)
  refine z_iconst F dX0_look_4 ?_
  refine z_icmp_lt (tgt := 16) F dX0_look_5 (by decide +kernel) (by omega) (by omega) (fun c2 => ?_) (fun c2 => ?_)
  · refine z_iconst F dX0_look_16 ?_
    exact hret _ _ 17 _ ⟨by omega, by omega⟩ ⟨hI, hW⟩ ⟨⟨by omega, by omega⟩, hF, (by omega)⟩ dX0_look_17
  · refine z_aload_n F dX0_look_8 rfl (q := 1) rfl ?_
    refine gf_X0_112 F hI gs_125 rfl bd_125_0 dX0_look_9 (fun v3 ev3 av3 bv3 => ?_)
    have zv3 : v1 = v3 := ev1.trans ev3.symm
    subst zv3
    refine z_iconst F dX0_look_12 ?_
    refine z_icmp_le (tgt := 18) F dX0_look_13 (by decide +kernel) (by omega) (by omega) (fun c4 => ?_) (fun c4 => ?_)
    · refine z_iconst F dX0_look_18 ?_
      refine z_istore_n F dX0_look_19 rfl (by decide) (ls' := [(2, ii 0), (0, .ref (ad 49)), (1, .ref (ad 125))]) rfl ?_
      refine z_loc [1, 2, 0] (ls' := [(0, .ref (ad 49)), (1, .ref (ad 125)), (2, ii 0)]) rfl ?_
      suffices key20 : ∀ (n : Nat) (y6 : Int) (M5 : Mem), Inv M5 → WFk M5 → Fr [49, 52] M M5 → 0 ≤ y6 → y6 ≤ 4 → (1 ≤ M5 125 0) → (M5 125 0 ≤ 4) → (M5 125 0 = M 125 0) → 4 - y6 < (n : Int) → Z D cy ad p l e (RMh 2) s m args below meth c A 3 0 0 Q 20 [(0, .ref (ad 49)), (1, .ref (ad 125)), (2, ii y6)] [] M5 from key20 5 0 M hI hW hF (by omega) (by omega) (by omega) (by omega) (by omega) (by omega)
      intro n20
      induction n20 with
      | zero => intro y6 M5 hI hW hF ay6 by6 i20_0 i20_1 i20_2 hn20; exfalso; omega
      | succ n20 ih20 =>
        intro y6 M5 hI hW hF ay6 by6 i20_0 i20_1 i20_2 hn20
        obtain ⟨u7, eu7⟩ : ∃ v : Int, v = M5 125 0 := ⟨_, rfl⟩
        have ku7 : 1 ≤ u7 ∧ u7 ≤ 4 := by have := hI.at (show Bd 125 0 = (-1, 30) from rfl); omega
        refine z_iload_n F dX0_look_20 rfl (q := 2) rfl ?_
        refine z_aload_n F dX0_look_21 rfl (q := 1) rfl ?_
        refine gf_X0_112 F hI gs_125 rfl bd_125_0 dX0_look_22 (fun v8 ev8 av8 bv8 => ?_)
        have zv8 : u7 = v8 := eu7.trans ev8.symm
        subst zv8
        refine z_icmp_ge (tgt := 59) F dX0_look_25 (by decide +kernel) (by omega) (by omega) (fun c9 => ?_) (fun c9 => ?_)
        · refine z_aload_n F dX0_look_59 rfl (q := 0) rfl ?_
          refine z_aload_n F dX0_look_60 rfl (q := 1) rfl ?_
          refine gf_X0_112 F hI gs_125 rfl bd_125_0 dX0_look_61 (fun v10 ev10 av10 bv10 => ?_)
          have zv10 : u7 = v10 := eu7.trans ev10.symm
          subst zv10
          refine pf_X0_123 F hI gs_49 rfl bd_49_5 rfl rfl dX0_look_64 (by omega) (by omega) (fun M12 hI sf11 f11 => ?_)
          have hF := hF.wr f11 (by decide) (by decide)
          have hW : WFk M12 := hW.site f11 (by decide)
          refine z_iconst F dX0_look_67 ?_
          exact hret _ _ 68 _ ⟨by omega, by omega⟩ ⟨hI, hW⟩ ⟨⟨by omega, by omega⟩, hF, (by omega)⟩ dX0_look_68
        · refine z_aload_n F dX0_look_28 rfl (q := 1) rfl ?_
          refine z_iload_n F dX0_look_29 rfl (q := 2) rfl ?_
          refine zv_l (rest := []) F (k_X10_numberAt_125 l M5 ⟨hI, hW⟩ y6 (by omega) (by omega)) cs_X0_117 (T := TX10) (N := 3) (ci := 10) rfl gs_125 (by decide) (by decide) rfl rfl rfl (Nat.le_of_ble_eq_true rfl) dX0_look_30 (fun v13 M14 rv13 hI p15 => ?_)
          obtain ⟨hI, hW⟩ := hI
          obtain ⟨⟨av13, bv13⟩, rfl⟩ := p15
          refine z_ldc2 (x := (-1)) F dX0_look_33 (gin lm_893 rfl) (by decide +kernel) ?_
          refine z_lcmp F dX0_look_36 (by omega) (by omega) (fun v16 ev16 => ?_)
          refine z_if_ge (tgt := 42) F dX0_look_37 (by decide +kernel) (by omega) (fun c17 => ?_) (fun c17 => ?_)
          · refine z_aload_n F dX0_look_42 rfl (q := 0) rfl ?_
            refine rf_X0_18 F gs_49 rfl dX0_look_43 ?_
            refine z_iload_n F dX0_look_46 rfl (q := 2) rfl ?_
            refine z_aload_n F dX0_look_47 rfl (q := 1) rfl ?_
            refine z_iload_n F dX0_look_48 rfl (q := 2) rfl ?_
            refine zv_l (rest := [ii y6, .ref (ad 52)]) F (k_X10_numberAt_125 l M5 ⟨hI, hW⟩ y6 (by omega) (by omega)) cs_X0_117 (T := TX10) (N := 3) (ci := 10) rfl gs_125 (by decide) (by decide) rfl rfl rfl (Nat.le_of_ble_eq_true rfl) dX0_look_49 (fun v18 M19 rv18 hI p20 => ?_)
            obtain ⟨hI, hW⟩ := hI
            obtain ⟨⟨av18, bv18⟩, rfl⟩ := p20
            refine z_last F hI gs_52 (by omega) (by omega) (by decide) bd_52 dX0_look_52 (by omega) (by omega) (fun M22 hI sf21 f21 => ?_)
            have hF := hF.wr f21 (by decide) (by decide)
            have hW : WFk M22 := hW.site f21 (by decide)
            refine z_iincN F dX0_look_53 (q := 2) rfl (by decide) (fun v23 ev23 => ?_)
            refine z_eq (ls' := [(2, ii v23), (0, .ref (ad 49)), (1, .ref (ad 125))]) rfl rfl rfl ?_
            refine z_goto (tgt := 20) F dX0_look_56 (by decide +kernel) ?_
            refine z_loc [1, 2, 0] (ls' := [(0, .ref (ad 49)), (1, .ref (ad 125)), (2, ii v23)]) rfl ?_
            have q24 : u7 = M22 125 0 := eu7.trans (f21 125 0 (fun q => absurd q.1 (by decide))).symm
            exact ih20 v23 M22 hI hW hF (by omega) (by omega) (by omega) (by omega) (by omega) (by omega)
          · refine z_iconst F dX0_look_40 ?_
            exact hret _ _ 41 _ ⟨by omega, by omega⟩ ⟨hI, hW⟩ ⟨⟨by omega, by omega⟩, hF, (by omega)⟩ dX0_look_41
    · refine z_iconst F dX0_look_16 ?_
      exact hret _ _ 17 _ ⟨by omega, by omega⟩ ⟨hI, hW⟩ ⟨⟨by omega, by omega⟩, hF, (by omega)⟩ dX0_look_17
set_option maxRecDepth 4000 in
theorem k_X11_needSights_0_125 (l : Launch) (hlT : l.stackTraces = false) (M : Mem) (hJ : Iw M) : CVX l yX11_needSights cX11_needSights 2 none 3 1 (fun ad => [.ref (ad 0), .ref (ad 125)]) M (fun M' => Fr [49, 52] M M' ∧ (1 ≤ M 125 0 ∧ M 125 0 ≤ 4)) (fun E M' => (E = "java/lang/IllegalArgumentException" ∧ True ∧ Fr [49, 52] M M')) := by
  obtain ⟨hI, hW⟩ := hJ
  have hF : Fr [49, 52] M M := Fr.rf
  refine enx_v (by decide +kernel) (fun ad => by exact Nat.le_of_ble_eq_true rfl) (fun D cy ad A p e s m args below meth c Q F hQ hr hlk hex => ?_)
  refine z_eq (ls' := [(0, .ref (ad 0)), (1, .ref (ad 125))]) rfl rfl rfl ?_
  refine z_aload_n F dX11_needSights_0 rfl (q := 0) rfl ?_
  refine rf_X11_73 F gs_0 rfl dX11_needSights_1 ?_
  refine z_aload_n F dX11_needSights_4 rfl (q := 1) rfl ?_
  refine zw_i (rest := []) F (k_X0_look_49_125 l M ⟨hI, hW⟩) cs_X11_441 (T := TX0) (N := 13) (ci := 0) rfl gs_49 (by decide) (by decide) ⟨by decide, by decide⟩ rfl rfl rfl (Nat.le_of_ble_eq_true rfl) dX11_needSights_5 (fun v1 M2 rv1 hI p3 => ?_)
  obtain ⟨hI, hW⟩ := hI
  obtain ⟨⟨av1, bv1⟩, fp3, xp3⟩ := p3
  have hF := hF.call fp3 (by decide)
  refine z_if_ne (tgt := 22) F dX11_needSights_8 (by decide +kernel) (by omega) (fun c4 => ?_) (fun c4 => ?_)
  · exact zxr_v F hQ hr hlk dX11_needSights_22 ⟨by decide, by decide⟩ ⟨hI, hW⟩ ⟨hF, (by omega)⟩
  · exact z_thrSW (cls := "java/lang/IllegalArgumentException") (names := ["java/lang/RuntimeException", "java/lang/Exception"]) (j := 50) F hlT hQ hlk hex (by decide +kernel) (by decide +kernel) (by decide) (gin lm_360 rfl) (gin lm_361 rfl) at_X11_105 bad_X11_105 (by decide +kernel) ot_X11_105 rfl rfl rfl dX11_needSights_11 dX11_needSights_14 dX11_needSights_15 dX11_needSights_18 dX11_needSights_21 ⟨by decide, by decide⟩ (Nat.le_of_ble_eq_true rfl) ⟨hI, hW⟩ (⟨rfl, trivial, hF⟩)
set_option maxRecDepth 4000 in
theorem k_X0_look_49_127 (l : Launch) (M : Mem) (hJ : Iw M) : CI l yX0_look cX0_look 3 (some .boolean) 2 (fun ad => [.ref (ad 49), .ref (ad 127)]) M (fun z M' => (0 ≤ z ∧ z ≤ 1) ∧ Fr [49, 52] M M' ∧ (z = 1 → 1 ≤ M 127 0 ∧ M 127 0 ≤ 4)) := by
  obtain ⟨hI, hW⟩ := hJ
  have hF : Fr [49, 52] M M := Fr.rf
  refine en_z (by decide +kernel) (fun ad => by exact Nat.le_of_ble_eq_true rfl) (fun D cy ad A p e s m args below meth c Q F hret => ?_)
  refine z_eq (ls' := [(0, .ref (ad 49)), (1, .ref (ad 127))]) rfl rfl rfl ?_
  refine z_aload_n F dX0_look_0 rfl (q := 1) rfl ?_
  refine gf_X0_112 F hI gs_127 rfl bd_127_0 dX0_look_1 (fun v1 ev1 av1 bv1 => ?_)
  refine z_iconst F dX0_look_4 ?_
  refine z_icmp_lt (tgt := 16) F dX0_look_5 (by decide +kernel) (by omega) (by omega) (fun c2 => ?_) (fun c2 => ?_)
  · refine z_iconst F dX0_look_16 ?_
    exact hret _ _ 17 _ ⟨by omega, by omega⟩ ⟨hI, hW⟩ ⟨⟨by omega, by omega⟩, hF, (by omega)⟩ dX0_look_17
  · refine z_aload_n F dX0_look_8 rfl (q := 1) rfl ?_
    refine gf_X0_112 F hI gs_127 rfl bd_127_0 dX0_look_9 (fun v3 ev3 av3 bv3 => ?_)
    have zv3 : v1 = v3 := ev1.trans ev3.symm
    subst zv3
    refine z_iconst F dX0_look_12 ?_
    refine z_icmp_le (tgt := 18) F dX0_look_13 (by decide +kernel) (by omega) (by omega) (fun c4 => ?_) (fun c4 => ?_)
    · refine z_iconst F dX0_look_18 ?_
      refine z_istore_n F dX0_look_19 rfl (by decide) (ls' := [(2, ii 0), (0, .ref (ad 49)), (1, .ref (ad 127))]) rfl ?_
      refine z_loc [1, 2, 0] (ls' := [(0, .ref (ad 49)), (1, .ref (ad 127)), (2, ii 0)]) rfl ?_
      suffices key20 : ∀ (n : Nat) (y6 : Int) (M5 : Mem), Inv M5 → WFk M5 → Fr [49, 52] M M5 → 0 ≤ y6 → y6 ≤ 4 → (1 ≤ M5 127 0) → (M5 127 0 ≤ 4) → (M5 127 0 = M 127 0) → 4 - y6 < (n : Int) → Z D cy ad p l e (RMh 2) s m args below meth c A 3 0 0 Q 20 [(0, .ref (ad 49)), (1, .ref (ad 127)), (2, ii y6)] [] M5 from key20 5 0 M hI hW hF (by omega) (by omega) (by omega) (by omega) (by omega) (by omega)
      intro n20
      induction n20 with
      | zero => intro y6 M5 hI hW hF ay6 by6 i20_0 i20_1 i20_2 hn20; exfalso; omega
      | succ n20 ih20 =>
        intro y6 M5 hI hW hF ay6 by6 i20_0 i20_1 i20_2 hn20
        obtain ⟨u7, eu7⟩ : ∃ v : Int, v = M5 127 0 := ⟨_, rfl⟩
        have ku7 : 1 ≤ u7 ∧ u7 ≤ 4 := by have := hI.at (show Bd 127 0 = (-1, 30) from rfl); omega
        refine z_iload_n F dX0_look_20 rfl (q := 2) rfl ?_
        refine z_aload_n F dX0_look_21 rfl (q := 1) rfl ?_
        refine gf_X0_112 F hI gs_127 rfl bd_127_0 dX0_look_22 (fun v8 ev8 av8 bv8 => ?_)
        have zv8 : u7 = v8 := eu7.trans ev8.symm
        subst zv8
        refine z_icmp_ge (tgt := 59) F dX0_look_25 (by decide +kernel) (by omega) (by omega) (fun c9 => ?_) (fun c9 => ?_)
        · refine z_aload_n F dX0_look_59 rfl (q := 0) rfl ?_
          refine z_aload_n F dX0_look_60 rfl (q := 1) rfl ?_
          refine gf_X0_112 F hI gs_127 rfl bd_127_0 dX0_look_61 (fun v10 ev10 av10 bv10 => ?_)
          have zv10 : u7 = v10 := eu7.trans ev10.symm
          subst zv10
          refine pf_X0_123 F hI gs_49 rfl bd_49_5 rfl rfl dX0_look_64 (by omega) (by omega) (fun M12 hI sf11 f11 => ?_)
          have hF := hF.wr f11 (by decide) (by decide)
          have hW : WFk M12 := hW.site f11 (by decide)
          refine z_iconst F dX0_look_67 ?_
          exact hret _ _ 68 _ ⟨by omega, by omega⟩ ⟨hI, hW⟩ ⟨⟨by omega, by omega⟩, hF, (by omega)⟩ dX0_look_68
        · refine z_aload_n F dX0_look_28 rfl (q := 1) rfl ?_
          refine z_iload_n F dX0_look_29 rfl (q := 2) rfl ?_
          refine zv_l (rest := []) F (k_X10_numberAt_127 l M5 ⟨hI, hW⟩ y6 (by omega) (by omega)) cs_X0_117 (T := TX10) (N := 3) (ci := 10) rfl gs_127 (by decide) (by decide) rfl rfl rfl (Nat.le_of_ble_eq_true rfl) dX0_look_30 (fun v13 M14 rv13 hI p15 => ?_)
          obtain ⟨hI, hW⟩ := hI
          obtain ⟨⟨av13, bv13⟩, rfl⟩ := p15
          refine z_ldc2 (x := (-1)) F dX0_look_33 (gin lm_893 rfl) (by decide +kernel) ?_
          refine z_lcmp F dX0_look_36 (by omega) (by omega) (fun v16 ev16 => ?_)
          refine z_if_ge (tgt := 42) F dX0_look_37 (by decide +kernel) (by omega) (fun c17 => ?_) (fun c17 => ?_)
          · refine z_aload_n F dX0_look_42 rfl (q := 0) rfl ?_
            refine rf_X0_18 F gs_49 rfl dX0_look_43 ?_
            refine z_iload_n F dX0_look_46 rfl (q := 2) rfl ?_
            refine z_aload_n F dX0_look_47 rfl (q := 1) rfl ?_
            refine z_iload_n F dX0_look_48 rfl (q := 2) rfl ?_
            refine zv_l (rest := [ii y6, .ref (ad 52)]) F (k_X10_numberAt_127 l M5 ⟨hI, hW⟩ y6 (by omega) (by omega)) cs_X0_117 (T := TX10) (N := 3) (ci := 10) rfl gs_127 (by decide) (by decide) rfl rfl rfl (Nat.le_of_ble_eq_true rfl) dX0_look_49 (fun v18 M19 rv18 hI p20 => ?_)
            obtain ⟨hI, hW⟩ := hI
            obtain ⟨⟨av18, bv18⟩, rfl⟩ := p20
            refine z_last F hI gs_52 (by omega) (by omega) (by decide) bd_52 dX0_look_52 (by omega) (by omega) (fun M22 hI sf21 f21 => ?_)
            have hF := hF.wr f21 (by decide) (by decide)
            have hW : WFk M22 := hW.site f21 (by decide)
            refine z_iincN F dX0_look_53 (q := 2) rfl (by decide) (fun v23 ev23 => ?_)
            refine z_eq (ls' := [(2, ii v23), (0, .ref (ad 49)), (1, .ref (ad 127))]) rfl rfl rfl ?_
            refine z_goto (tgt := 20) F dX0_look_56 (by decide +kernel) ?_
            refine z_loc [1, 2, 0] (ls' := [(0, .ref (ad 49)), (1, .ref (ad 127)), (2, ii v23)]) rfl ?_
            have q24 : u7 = M22 127 0 := eu7.trans (f21 127 0 (fun q => absurd q.1 (by decide))).symm
            exact ih20 v23 M22 hI hW hF (by omega) (by omega) (by omega) (by omega) (by omega) (by omega)
          · refine z_iconst F dX0_look_40 ?_
            exact hret _ _ 41 _ ⟨by omega, by omega⟩ ⟨hI, hW⟩ ⟨⟨by omega, by omega⟩, hF, (by omega)⟩ dX0_look_41
    · refine z_iconst F dX0_look_16 ?_
      exact hret _ _ 17 _ ⟨by omega, by omega⟩ ⟨hI, hW⟩ ⟨⟨by omega, by omega⟩, hF, (by omega)⟩ dX0_look_17
set_option maxRecDepth 4000 in
theorem k_X11_needSights_0_127 (l : Launch) (hlT : l.stackTraces = false) (M : Mem) (hJ : Iw M) : CVX l yX11_needSights cX11_needSights 2 none 3 1 (fun ad => [.ref (ad 0), .ref (ad 127)]) M (fun M' => Fr [49, 52] M M' ∧ (1 ≤ M 127 0 ∧ M 127 0 ≤ 4)) (fun E M' => (E = "java/lang/IllegalArgumentException" ∧ True ∧ Fr [49, 52] M M')) := by
  obtain ⟨hI, hW⟩ := hJ
  have hF : Fr [49, 52] M M := Fr.rf
  refine enx_v (by decide +kernel) (fun ad => by exact Nat.le_of_ble_eq_true rfl) (fun D cy ad A p e s m args below meth c Q F hQ hr hlk hex => ?_)
  refine z_eq (ls' := [(0, .ref (ad 0)), (1, .ref (ad 127))]) rfl rfl rfl ?_
  refine z_aload_n F dX11_needSights_0 rfl (q := 0) rfl ?_
  refine rf_X11_73 F gs_0 rfl dX11_needSights_1 ?_
  refine z_aload_n F dX11_needSights_4 rfl (q := 1) rfl ?_
  refine zw_i (rest := []) F (k_X0_look_49_127 l M ⟨hI, hW⟩) cs_X11_441 (T := TX0) (N := 13) (ci := 0) rfl gs_49 (by decide) (by decide) ⟨by decide, by decide⟩ rfl rfl rfl (Nat.le_of_ble_eq_true rfl) dX11_needSights_5 (fun v1 M2 rv1 hI p3 => ?_)
  obtain ⟨hI, hW⟩ := hI
  obtain ⟨⟨av1, bv1⟩, fp3, xp3⟩ := p3
  have hF := hF.call fp3 (by decide)
  refine z_if_ne (tgt := 22) F dX11_needSights_8 (by decide +kernel) (by omega) (fun c4 => ?_) (fun c4 => ?_)
  · exact zxr_v F hQ hr hlk dX11_needSights_22 ⟨by decide, by decide⟩ ⟨hI, hW⟩ ⟨hF, (by omega)⟩
  · exact z_thrSW (cls := "java/lang/IllegalArgumentException") (names := ["java/lang/RuntimeException", "java/lang/Exception"]) (j := 50) F hlT hQ hlk hex (by decide +kernel) (by decide +kernel) (by decide) (gin lm_360 rfl) (gin lm_361 rfl) at_X11_105 bad_X11_105 (by decide +kernel) ot_X11_105 rfl rfl rfl dX11_needSights_11 dX11_needSights_14 dX11_needSights_15 dX11_needSights_18 dX11_needSights_21 ⟨by decide, by decide⟩ (Nat.le_of_ble_eq_true rfl) ⟨hI, hW⟩ (⟨rfl, trivial, hF⟩)
set_option maxRecDepth 4000 in
theorem k_X0_look_49_129 (l : Launch) (M : Mem) (hJ : Iw M) : CI l yX0_look cX0_look 3 (some .boolean) 2 (fun ad => [.ref (ad 49), .ref (ad 129)]) M (fun z M' => (0 ≤ z ∧ z ≤ 1) ∧ Fr [49, 52] M M' ∧ (z = 1 → 1 ≤ M 129 0 ∧ M 129 0 ≤ 4)) := by
  obtain ⟨hI, hW⟩ := hJ
  have hF : Fr [49, 52] M M := Fr.rf
  refine en_z (by decide +kernel) (fun ad => by exact Nat.le_of_ble_eq_true rfl) (fun D cy ad A p e s m args below meth c Q F hret => ?_)
  refine z_eq (ls' := [(0, .ref (ad 49)), (1, .ref (ad 129))]) rfl rfl rfl ?_
  refine z_aload_n F dX0_look_0 rfl (q := 1) rfl ?_
  refine gf_X0_112 F hI gs_129 rfl bd_129_0 dX0_look_1 (fun v1 ev1 av1 bv1 => ?_)
  refine z_iconst F dX0_look_4 ?_
  refine z_icmp_lt (tgt := 16) F dX0_look_5 (by decide +kernel) (by omega) (by omega) (fun c2 => ?_) (fun c2 => ?_)
  · refine z_iconst F dX0_look_16 ?_
    exact hret _ _ 17 _ ⟨by omega, by omega⟩ ⟨hI, hW⟩ ⟨⟨by omega, by omega⟩, hF, (by omega)⟩ dX0_look_17
  · refine z_aload_n F dX0_look_8 rfl (q := 1) rfl ?_
    refine gf_X0_112 F hI gs_129 rfl bd_129_0 dX0_look_9 (fun v3 ev3 av3 bv3 => ?_)
    have zv3 : v1 = v3 := ev1.trans ev3.symm
    subst zv3
    refine z_iconst F dX0_look_12 ?_
    refine z_icmp_le (tgt := 18) F dX0_look_13 (by decide +kernel) (by omega) (by omega) (fun c4 => ?_) (fun c4 => ?_)
    · refine z_iconst F dX0_look_18 ?_
      refine z_istore_n F dX0_look_19 rfl (by decide) (ls' := [(2, ii 0), (0, .ref (ad 49)), (1, .ref (ad 129))]) rfl ?_
      refine z_loc [1, 2, 0] (ls' := [(0, .ref (ad 49)), (1, .ref (ad 129)), (2, ii 0)]) rfl ?_
      suffices key20 : ∀ (n : Nat) (y6 : Int) (M5 : Mem), Inv M5 → WFk M5 → Fr [49, 52] M M5 → 0 ≤ y6 → y6 ≤ 4 → (1 ≤ M5 129 0) → (M5 129 0 ≤ 4) → (M5 129 0 = M 129 0) → 4 - y6 < (n : Int) → Z D cy ad p l e (RMh 2) s m args below meth c A 3 0 0 Q 20 [(0, .ref (ad 49)), (1, .ref (ad 129)), (2, ii y6)] [] M5 from key20 5 0 M hI hW hF (by omega) (by omega) (by omega) (by omega) (by omega) (by omega)
      intro n20
      induction n20 with
      | zero => intro y6 M5 hI hW hF ay6 by6 i20_0 i20_1 i20_2 hn20; exfalso; omega
      | succ n20 ih20 =>
        intro y6 M5 hI hW hF ay6 by6 i20_0 i20_1 i20_2 hn20
        obtain ⟨u7, eu7⟩ : ∃ v : Int, v = M5 129 0 := ⟨_, rfl⟩
        have ku7 : 1 ≤ u7 ∧ u7 ≤ 4 := by have := hI.at (show Bd 129 0 = (-1, 30) from rfl); omega
        refine z_iload_n F dX0_look_20 rfl (q := 2) rfl ?_
        refine z_aload_n F dX0_look_21 rfl (q := 1) rfl ?_
        refine gf_X0_112 F hI gs_129 rfl bd_129_0 dX0_look_22 (fun v8 ev8 av8 bv8 => ?_)
        have zv8 : u7 = v8 := eu7.trans ev8.symm
        subst zv8
        refine z_icmp_ge (tgt := 59) F dX0_look_25 (by decide +kernel) (by omega) (by omega) (fun c9 => ?_) (fun c9 => ?_)
        · refine z_aload_n F dX0_look_59 rfl (q := 0) rfl ?_
          refine z_aload_n F dX0_look_60 rfl (q := 1) rfl ?_
          refine gf_X0_112 F hI gs_129 rfl bd_129_0 dX0_look_61 (fun v10 ev10 av10 bv10 => ?_)
          have zv10 : u7 = v10 := eu7.trans ev10.symm
          subst zv10
          refine pf_X0_123 F hI gs_49 rfl bd_49_5 rfl rfl dX0_look_64 (by omega) (by omega) (fun M12 hI sf11 f11 => ?_)
          have hF := hF.wr f11 (by decide) (by decide)
          have hW : WFk M12 := hW.site f11 (by decide)
          refine z_iconst F dX0_look_67 ?_
          exact hret _ _ 68 _ ⟨by omega, by omega⟩ ⟨hI, hW⟩ ⟨⟨by omega, by omega⟩, hF, (by omega)⟩ dX0_look_68
        · refine z_aload_n F dX0_look_28 rfl (q := 1) rfl ?_
          refine z_iload_n F dX0_look_29 rfl (q := 2) rfl ?_
          refine zv_l (rest := []) F (k_X10_numberAt_129 l M5 ⟨hI, hW⟩ y6 (by omega) (by omega)) cs_X0_117 (T := TX10) (N := 3) (ci := 10) rfl gs_129 (by decide) (by decide) rfl rfl rfl (Nat.le_of_ble_eq_true rfl) dX0_look_30 (fun v13 M14 rv13 hI p15 => ?_)
          obtain ⟨hI, hW⟩ := hI
          obtain ⟨⟨av13, bv13⟩, rfl⟩ := p15
          refine z_ldc2 (x := (-1)) F dX0_look_33 (gin lm_893 rfl) (by decide +kernel) ?_
          refine z_lcmp F dX0_look_36 (by omega) (by omega) (fun v16 ev16 => ?_)
          refine z_if_ge (tgt := 42) F dX0_look_37 (by decide +kernel) (by omega) (fun c17 => ?_) (fun c17 => ?_)
          · refine z_aload_n F dX0_look_42 rfl (q := 0) rfl ?_
            refine rf_X0_18 F gs_49 rfl dX0_look_43 ?_
            refine z_iload_n F dX0_look_46 rfl (q := 2) rfl ?_
            refine z_aload_n F dX0_look_47 rfl (q := 1) rfl ?_
            refine z_iload_n F dX0_look_48 rfl (q := 2) rfl ?_
            refine zv_l (rest := [ii y6, .ref (ad 52)]) F (k_X10_numberAt_129 l M5 ⟨hI, hW⟩ y6 (by omega) (by omega)) cs_X0_117 (T := TX10) (N := 3) (ci := 10) rfl gs_129 (by decide) (by decide) rfl rfl rfl (Nat.le_of_ble_eq_true rfl) dX0_look_49 (fun v18 M19 rv18 hI p20 => ?_)
            obtain ⟨hI, hW⟩ := hI
            obtain ⟨⟨av18, bv18⟩, rfl⟩ := p20
            refine z_last F hI gs_52 (by omega) (by omega) (by decide) bd_52 dX0_look_52 (by omega) (by omega) (fun M22 hI sf21 f21 => ?_)
            have hF := hF.wr f21 (by decide) (by decide)
            have hW : WFk M22 := hW.site f21 (by decide)
            refine z_iincN F dX0_look_53 (q := 2) rfl (by decide) (fun v23 ev23 => ?_)
            refine z_eq (ls' := [(2, ii v23), (0, .ref (ad 49)), (1, .ref (ad 129))]) rfl rfl rfl ?_
            refine z_goto (tgt := 20) F dX0_look_56 (by decide +kernel) ?_
            refine z_loc [1, 2, 0] (ls' := [(0, .ref (ad 49)), (1, .ref (ad 129)), (2, ii v23)]) rfl ?_
            have q24 : u7 = M22 129 0 := eu7.trans (f21 129 0 (fun q => absurd q.1 (by decide))).symm
            exact ih20 v23 M22 hI hW hF (by omega) (by omega) (by omega) (by omega) (by omega) (by omega)
          · refine z_iconst F dX0_look_40 ?_
            exact hret _ _ 41 _ ⟨by omega, by omega⟩ ⟨hI, hW⟩ ⟨⟨by omega, by omega⟩, hF, (by omega)⟩ dX0_look_41
    · refine z_iconst F dX0_look_16 ?_
      exact hret _ _ 17 _ ⟨by omega, by omega⟩ ⟨hI, hW⟩ ⟨⟨by omega, by omega⟩, hF, (by omega)⟩ dX0_look_17
set_option maxRecDepth 4000 in
theorem k_X11_needSights_0_129 (l : Launch) (hlT : l.stackTraces = false) (M : Mem) (hJ : Iw M) : CVX l yX11_needSights cX11_needSights 2 none 3 1 (fun ad => [.ref (ad 0), .ref (ad 129)]) M (fun M' => Fr [49, 52] M M' ∧ (1 ≤ M 129 0 ∧ M 129 0 ≤ 4)) (fun E M' => (E = "java/lang/IllegalArgumentException" ∧ True ∧ Fr [49, 52] M M')) := by
  obtain ⟨hI, hW⟩ := hJ
  have hF : Fr [49, 52] M M := Fr.rf
  refine enx_v (by decide +kernel) (fun ad => by exact Nat.le_of_ble_eq_true rfl) (fun D cy ad A p e s m args below meth c Q F hQ hr hlk hex => ?_)
  refine z_eq (ls' := [(0, .ref (ad 0)), (1, .ref (ad 129))]) rfl rfl rfl ?_
  refine z_aload_n F dX11_needSights_0 rfl (q := 0) rfl ?_
  refine rf_X11_73 F gs_0 rfl dX11_needSights_1 ?_
  refine z_aload_n F dX11_needSights_4 rfl (q := 1) rfl ?_
  refine zw_i (rest := []) F (k_X0_look_49_129 l M ⟨hI, hW⟩) cs_X11_441 (T := TX0) (N := 13) (ci := 0) rfl gs_49 (by decide) (by decide) ⟨by decide, by decide⟩ rfl rfl rfl (Nat.le_of_ble_eq_true rfl) dX11_needSights_5 (fun v1 M2 rv1 hI p3 => ?_)
  obtain ⟨hI, hW⟩ := hI
  obtain ⟨⟨av1, bv1⟩, fp3, xp3⟩ := p3
  have hF := hF.call fp3 (by decide)
  refine z_if_ne (tgt := 22) F dX11_needSights_8 (by decide +kernel) (by omega) (fun c4 => ?_) (fun c4 => ?_)
  · exact zxr_v F hQ hr hlk dX11_needSights_22 ⟨by decide, by decide⟩ ⟨hI, hW⟩ ⟨hF, (by omega)⟩
  · exact z_thrSW (cls := "java/lang/IllegalArgumentException") (names := ["java/lang/RuntimeException", "java/lang/Exception"]) (j := 50) F hlT hQ hlk hex (by decide +kernel) (by decide +kernel) (by decide) (gin lm_360 rfl) (gin lm_361 rfl) at_X11_105 bad_X11_105 (by decide +kernel) ot_X11_105 rfl rfl rfl dX11_needSights_11 dX11_needSights_14 dX11_needSights_15 dX11_needSights_18 dX11_needSights_21 ⟨by decide, by decide⟩ (Nat.le_of_ble_eq_true rfl) ⟨hI, hW⟩ (⟨rfl, trivial, hF⟩)
set_option maxRecDepth 4000 in
theorem k_X11_seen (l : Launch) (hlT : l.stackTraces = false) (M : Mem) (hJ : Iw M) (x0 : Int) (hx0a : (-2147483648) ≤ x0) (hx0b : x0 ≤ 2147483647) : CIX l yX11_seen cX11_seen 2 (some .int) 9 3 (fun ad => [.ref (ad 0), ii x0]) M (fun z M' => ((-2147483648) ≤ z ∧ z ≤ 2147483647) ∧ Fr [16, 17, 49, 50, 51, 52, 53] M M') (fun E M' => (E = "java/lang/IllegalArgumentException" ∧ True ∧ Fr [16, 17, 49, 50, 51, 52, 53] M M') ∨ (E = "java/lang/IllegalStateException" ∧ True ∧ Fr [16, 17, 49, 50, 51, 52, 53] M M') ∨ (E = "java/util/NoSuchElementException" ∧ True ∧ Fr [16, 17, 49, 50, 51, 52, 53] M M')) := by
  obtain ⟨hI, hW⟩ := hJ
  have hF : Fr [16, 17, 49, 50, 51, 52, 53] M M := Fr.rf
  refine enx_i (by decide +kernel) (fun ad => by exact Nat.le_of_ble_eq_true rfl) (fun D cy ad A p e s m args below meth c Q F hQ hr hlk hex => ?_)
  refine z_eq (ls' := [(0, .ref (ad 0)), (1, ii x0)]) rfl rfl rfl ?_
  refine z_aload_n F dX11_seen_0 rfl (q := 0) rfl ?_
  refine z_aload_n F dX11_seen_1 rfl (q := 0) rfl ?_
  refine z_iload_n F dX11_seen_2 rfl (q := 1) rfl ?_
  rcases (show x0 = 0 ∨ x0 = 1 ∨ x0 = 2 ∨ x0 = 3 ∨ (x0 < 0 ∨ 3 < x0) by omega) with c1 | c1 | c1 | c1 | c1
  · refine zy_r (rest := [.ref (ad 0)]) F (k_X11_filledTray_t0 l hlT M ⟨hI, hW⟩ x0 (by omega) (by omega)) cs_X11_248 (T := TX11) (N := 14) (ci := 11) rfl gs_0 (by decide) (by decide) ⟨by decide, by decide⟩ rfl rfl rfl (Nat.le_of_ble_eq_true rfl) dX11_seen_3 (fun E M9 hJ9 hx => by rcases hx with ⟨h9, g9, rfl⟩ | ⟨h9, g9, rfl⟩ <;> first | (exact zx_out hQ hlk hex ⟨by decide, by decide⟩ hJ9 (Or.inr (Or.inl ⟨h9, trivial, hF⟩))) | (exact zx_out hQ hlk hex ⟨by decide, by decide⟩ hJ9 (Or.inr (Or.inr (⟨h9, trivial, hF⟩))))) (fun M2 hI p3 => ?_)
    obtain ⟨hI, hW⟩ := hI
    obtain rfl := p3
    refine zy_v (rest := []) F (k_X11_needSights_0_123 l hlT M ⟨hI, hW⟩) cs_X11_430 (T := TX11) (N := 14) (ci := 11) rfl gs_0 (by decide) (by decide) ⟨by decide, by decide⟩ rfl rfl rfl (Nat.le_of_ble_eq_true rfl) dX11_seen_6 (fun E M9 hJ9 hx => by obtain ⟨h9, g9, f9⟩ := hx <;> first | (exact zx_out hQ hlk hex ⟨by decide, by decide⟩ hJ9 (Or.inl ⟨h9, trivial, (hF.call f9 (by decide))⟩))) (fun M4 hI p5 => ?_)
    obtain ⟨hI, hW⟩ := hI
    obtain ⟨fp5, xp5⟩ := p5
    have hF := hF.call fp5 (by decide)
    refine z_aload_n F dX11_seen_9 rfl (q := 0) rfl ?_
    refine rf_X11_73 F gs_0 rfl dX11_seen_10 ?_
    refine z_iconst F dX11_seen_13 ?_
    refine zw_i (rest := []) F (k_X0_countStories_49 l M4 ⟨hI, hW⟩ 0 (by omega) (by omega)) cs_X11_433 (T := TX0) (N := 13) (ci := 0) rfl gs_49 (by decide) (by decide) ⟨by decide, by decide⟩ rfl rfl rfl (Nat.le_of_ble_eq_true rfl) dX11_seen_14 (fun v6 M7 rv6 hI p8 => ?_)
    obtain ⟨hI, hW⟩ := hI
    obtain ⟨⟨av6, bv6⟩, fp8⟩ := p8
    have hF := hF.call fp8 (by decide)
    exact zxr_i F hQ hr hlk dX11_seen_17 ⟨by decide, by decide⟩ (by omega) ⟨hI, hW⟩ ⟨⟨by omega, by omega⟩, hF⟩
  · refine zy_r (rest := [.ref (ad 0)]) F (k_X11_filledTray_t1 l hlT M ⟨hI, hW⟩ x0 (by omega) (by omega)) cs_X11_248 (T := TX11) (N := 14) (ci := 11) rfl gs_0 (by decide) (by decide) ⟨by decide, by decide⟩ rfl rfl rfl (Nat.le_of_ble_eq_true rfl) dX11_seen_3 (fun E M9 hJ9 hx => by rcases hx with ⟨h9, g9, rfl⟩ | ⟨h9, g9, rfl⟩ <;> first | (exact zx_out hQ hlk hex ⟨by decide, by decide⟩ hJ9 (Or.inr (Or.inl ⟨h9, trivial, hF⟩))) | (exact zx_out hQ hlk hex ⟨by decide, by decide⟩ hJ9 (Or.inr (Or.inr (⟨h9, trivial, hF⟩))))) (fun M9 hI p10 => ?_)
    obtain ⟨hI, hW⟩ := hI
    obtain rfl := p10
    refine zy_v (rest := []) F (k_X11_needSights_0_125 l hlT M ⟨hI, hW⟩) cs_X11_430 (T := TX11) (N := 14) (ci := 11) rfl gs_0 (by decide) (by decide) ⟨by decide, by decide⟩ rfl rfl rfl (Nat.le_of_ble_eq_true rfl) dX11_seen_6 (fun E M9 hJ9 hx => by obtain ⟨h9, g9, f9⟩ := hx <;> first | (exact zx_out hQ hlk hex ⟨by decide, by decide⟩ hJ9 (Or.inl ⟨h9, trivial, (hF.call f9 (by decide))⟩))) (fun M11 hI p12 => ?_)
    obtain ⟨hI, hW⟩ := hI
    obtain ⟨fp12, xp12⟩ := p12
    have hF := hF.call fp12 (by decide)
    refine z_aload_n F dX11_seen_9 rfl (q := 0) rfl ?_
    refine rf_X11_73 F gs_0 rfl dX11_seen_10 ?_
    refine z_iconst F dX11_seen_13 ?_
    refine zw_i (rest := []) F (k_X0_countStories_49 l M11 ⟨hI, hW⟩ 0 (by omega) (by omega)) cs_X11_433 (T := TX0) (N := 13) (ci := 0) rfl gs_49 (by decide) (by decide) ⟨by decide, by decide⟩ rfl rfl rfl (Nat.le_of_ble_eq_true rfl) dX11_seen_14 (fun v13 M14 rv13 hI p15 => ?_)
    obtain ⟨hI, hW⟩ := hI
    obtain ⟨⟨av13, bv13⟩, fp15⟩ := p15
    have hF := hF.call fp15 (by decide)
    exact zxr_i F hQ hr hlk dX11_seen_17 ⟨by decide, by decide⟩ (by omega) ⟨hI, hW⟩ ⟨⟨by omega, by omega⟩, hF⟩
  · refine zy_r (rest := [.ref (ad 0)]) F (k_X11_filledTray_t2 l hlT M ⟨hI, hW⟩ x0 (by omega) (by omega)) cs_X11_248 (T := TX11) (N := 14) (ci := 11) rfl gs_0 (by decide) (by decide) ⟨by decide, by decide⟩ rfl rfl rfl (Nat.le_of_ble_eq_true rfl) dX11_seen_3 (fun E M9 hJ9 hx => by rcases hx with ⟨h9, g9, rfl⟩ | ⟨h9, g9, rfl⟩ <;> first | (exact zx_out hQ hlk hex ⟨by decide, by decide⟩ hJ9 (Or.inr (Or.inl ⟨h9, trivial, hF⟩))) | (exact zx_out hQ hlk hex ⟨by decide, by decide⟩ hJ9 (Or.inr (Or.inr (⟨h9, trivial, hF⟩))))) (fun M16 hI p17 => ?_)
    obtain ⟨hI, hW⟩ := hI
    obtain rfl := p17
    refine zy_v (rest := []) F (k_X11_needSights_0_127 l hlT M ⟨hI, hW⟩) cs_X11_430 (T := TX11) (N := 14) (ci := 11) rfl gs_0 (by decide) (by decide) ⟨by decide, by decide⟩ rfl rfl rfl (Nat.le_of_ble_eq_true rfl) dX11_seen_6 (fun E M9 hJ9 hx => by obtain ⟨h9, g9, f9⟩ := hx <;> first | (exact zx_out hQ hlk hex ⟨by decide, by decide⟩ hJ9 (Or.inl ⟨h9, trivial, (hF.call f9 (by decide))⟩))) (fun M18 hI p19 => ?_)
    obtain ⟨hI, hW⟩ := hI
    obtain ⟨fp19, xp19⟩ := p19
    have hF := hF.call fp19 (by decide)
    refine z_aload_n F dX11_seen_9 rfl (q := 0) rfl ?_
    refine rf_X11_73 F gs_0 rfl dX11_seen_10 ?_
    refine z_iconst F dX11_seen_13 ?_
    refine zw_i (rest := []) F (k_X0_countStories_49 l M18 ⟨hI, hW⟩ 0 (by omega) (by omega)) cs_X11_433 (T := TX0) (N := 13) (ci := 0) rfl gs_49 (by decide) (by decide) ⟨by decide, by decide⟩ rfl rfl rfl (Nat.le_of_ble_eq_true rfl) dX11_seen_14 (fun v20 M21 rv20 hI p22 => ?_)
    obtain ⟨hI, hW⟩ := hI
    obtain ⟨⟨av20, bv20⟩, fp22⟩ := p22
    have hF := hF.call fp22 (by decide)
    exact zxr_i F hQ hr hlk dX11_seen_17 ⟨by decide, by decide⟩ (by omega) ⟨hI, hW⟩ ⟨⟨by omega, by omega⟩, hF⟩
  · refine zy_r (rest := [.ref (ad 0)]) F (k_X11_filledTray_t3 l hlT M ⟨hI, hW⟩ x0 (by omega) (by omega)) cs_X11_248 (T := TX11) (N := 14) (ci := 11) rfl gs_0 (by decide) (by decide) ⟨by decide, by decide⟩ rfl rfl rfl (Nat.le_of_ble_eq_true rfl) dX11_seen_3 (fun E M9 hJ9 hx => by rcases hx with ⟨h9, g9, rfl⟩ | ⟨h9, g9, rfl⟩ <;> first | (exact zx_out hQ hlk hex ⟨by decide, by decide⟩ hJ9 (Or.inr (Or.inl ⟨h9, trivial, hF⟩))) | (exact zx_out hQ hlk hex ⟨by decide, by decide⟩ hJ9 (Or.inr (Or.inr (⟨h9, trivial, hF⟩))))) (fun M23 hI p24 => ?_)
    obtain ⟨hI, hW⟩ := hI
    obtain rfl := p24
    refine zy_v (rest := []) F (k_X11_needSights_0_129 l hlT M ⟨hI, hW⟩) cs_X11_430 (T := TX11) (N := 14) (ci := 11) rfl gs_0 (by decide) (by decide) ⟨by decide, by decide⟩ rfl rfl rfl (Nat.le_of_ble_eq_true rfl) dX11_seen_6 (fun E M9 hJ9 hx => by obtain ⟨h9, g9, f9⟩ := hx <;> first | (exact zx_out hQ hlk hex ⟨by decide, by decide⟩ hJ9 (Or.inl ⟨h9, trivial, (hF.call f9 (by decide))⟩))) (fun M25 hI p26 => ?_)
    obtain ⟨hI, hW⟩ := hI
    obtain ⟨fp26, xp26⟩ := p26
    have hF := hF.call fp26 (by decide)
    refine z_aload_n F dX11_seen_9 rfl (q := 0) rfl ?_
    refine rf_X11_73 F gs_0 rfl dX11_seen_10 ?_
    refine z_iconst F dX11_seen_13 ?_
    refine zw_i (rest := []) F (k_X0_countStories_49 l M25 ⟨hI, hW⟩ 0 (by omega) (by omega)) cs_X11_433 (T := TX0) (N := 13) (ci := 0) rfl gs_49 (by decide) (by decide) ⟨by decide, by decide⟩ rfl rfl rfl (Nat.le_of_ble_eq_true rfl) dX11_seen_14 (fun v27 M28 rv27 hI p29 => ?_)
    obtain ⟨hI, hW⟩ := hI
    obtain ⟨⟨av27, bv27⟩, fp29⟩ := p29
    have hF := hF.call fp29 (by decide)
    exact zxr_i F hQ hr hlk dX11_seen_17 ⟨by decide, by decide⟩ (by omega) ⟨hI, hW⟩ ⟨⟨by omega, by omega⟩, hF⟩
  · refine zy_r (rest := [.ref (ad 0)]) F (k_X11_filledTray_to l hlT M ⟨hI, hW⟩ x0 (by omega) (by omega) (by omega)) cs_X11_248 (T := TX11) (N := 14) (ci := 11) rfl gs_0 (by decide) (by decide) ⟨by decide, by decide⟩ rfl rfl rfl (Nat.le_of_ble_eq_true rfl) dX11_seen_3 (fun E M9 hJ9 hx => by obtain ⟨h9, g9, rfl⟩ := hx <;> first | (exact zx_out hQ hlk hex ⟨by decide, by decide⟩ hJ9 (Or.inr (Or.inr (⟨h9, trivial, hF⟩))))) (fun M30 hI p31 => ?_)
    obtain ⟨hI, hW⟩ := hI
    obtain ⟨rfl, xp31⟩ := p31
    exact xp31.elim
set_option maxRecDepth 4000 in
theorem k_X11_sure (l : Launch) (hlT : l.stackTraces = false) (M : Mem) (hJ : Iw M) (x0 : Int) (hx0a : (-2147483648) ≤ x0) (hx0b : x0 ≤ 2147483647) (x1 : Int) (hx1a : (-2147483648) ≤ x1) (hx1b : x1 ≤ 2147483647) : CIX l yX11_sure cX11_sure 4 (some .int) 9 4 (fun ad => [.ref (ad 0), ii x0, ii x1]) M (fun z M' => ((-2147483648) ≤ z ∧ z ≤ 2147483647) ∧ Fr [16, 17, 49, 50, 51, 52, 53] M M') (fun E M' => (E = "java/lang/IllegalArgumentException" ∧ True ∧ Fr [16, 17, 49, 50, 51, 52, 53] M M') ∨ (E = "java/lang/IllegalStateException" ∧ True ∧ Fr [16, 17, 49, 50, 51, 52, 53] M M') ∨ (E = "java/util/NoSuchElementException" ∧ True ∧ Fr [16, 17, 49, 50, 51, 52, 53] M M')) := by
  obtain ⟨hI, hW⟩ := hJ
  have hF : Fr [16, 17, 49, 50, 51, 52, 53] M M := Fr.rf
  refine enx_i (by decide +kernel) (fun ad => by exact Nat.le_of_ble_eq_true rfl) (fun D cy ad A p e s m args below meth c Q F hQ hr hlk hex => ?_)
  refine z_eq (ls' := [(0, .ref (ad 0)), (1, ii x0), (2, ii x1)]) rfl rfl rfl ?_
  refine z_aload_n F dX11_sure_0 rfl (q := 0) rfl ?_
  refine z_iload_n F dX11_sure_1 rfl (q := 1) rfl ?_
  rcases (show x0 = 0 ∨ x0 = 1 ∨ x0 = 2 ∨ x0 = 3 ∨ (x0 < 0 ∨ 3 < x0) by omega) with c1 | c1 | c1 | c1 | c1
  · refine zy_r (rest := []) F (k_X11_filledTray_t0 l hlT M ⟨hI, hW⟩ x0 (by omega) (by omega)) cs_X11_248 (T := TX11) (N := 14) (ci := 11) rfl gs_0 (by decide) (by decide) ⟨by decide, by decide⟩ rfl rfl rfl (Nat.le_of_ble_eq_true rfl) dX11_sure_2 (fun E M9 hJ9 hx => by rcases hx with ⟨h9, g9, rfl⟩ | ⟨h9, g9, rfl⟩ <;> first | (exact zx_out hQ hlk hex ⟨by decide, by decide⟩ hJ9 (Or.inr (Or.inl ⟨h9, trivial, hF⟩))) | (exact zx_out hQ hlk hex ⟨by decide, by decide⟩ hJ9 (Or.inr (Or.inr (⟨h9, trivial, hF⟩))))) (fun M2 hI p3 => ?_)
    obtain ⟨hI, hW⟩ := hI
    obtain rfl := p3
    refine z_astore_n F dX11_sure_5 rfl (by decide) (ls' := [(3, .ref (ad 123)), (0, .ref (ad 0)), (1, ii x0), (2, ii x1)]) rfl ?_
    refine z_aload_n F dX11_sure_6 rfl (q := 1) rfl ?_
    refine z_aload_n F dX11_sure_7 rfl (q := 0) rfl ?_
    refine zy_v (rest := []) F (k_X11_needSights_0_123 l hlT M ⟨hI, hW⟩) cs_X11_430 (T := TX11) (N := 14) (ci := 11) rfl gs_0 (by decide) (by decide) ⟨by decide, by decide⟩ rfl rfl rfl (Nat.le_of_ble_eq_true rfl) dX11_sure_8 (fun E M9 hJ9 hx => by obtain ⟨h9, g9, f9⟩ := hx <;> first | (exact zx_out hQ hlk hex ⟨by decide, by decide⟩ hJ9 (Or.inl ⟨h9, trivial, (hF.call f9 (by decide))⟩))) (fun M4 hI p5 => ?_)
    obtain ⟨hI, hW⟩ := hI
    obtain ⟨fp5, xp5⟩ := p5
    have hF := hF.call fp5 (by decide)
    refine z_iload_n F dX11_sure_11 rfl (q := 3) rfl ?_
    refine z_if_lt (tgt := 23) F dX11_sure_12 (by decide +kernel) (by omega) (fun c6 => ?_) (fun c6 => ?_)
    · exact z_thrSW (cls := "java/lang/IllegalArgumentException") (names := ["java/lang/RuntimeException", "java/lang/Exception"]) (j := 51) F hlT hQ hlk hex (by decide +kernel) (by decide +kernel) (by decide) (gin lm_360 rfl) (gin lm_361 rfl) at_X11_105 bad_X11_105 (by decide +kernel) ot_X11_105 rfl rfl rfl dX11_sure_23 dX11_sure_26 dX11_sure_27 dX11_sure_30 dX11_sure_33 ⟨by decide, by decide⟩ (Nat.le_of_ble_eq_true rfl) ⟨hI, hW⟩ (Or.inl ⟨rfl, trivial, hF⟩)
    · refine z_iload_n F dX11_sure_15 rfl (q := 3) rfl ?_
      refine z_aload_n F dX11_sure_16 rfl (q := 0) rfl ?_
      refine gf_X11_266 F hI gs_123 rfl bd_123_0 dX11_sure_17 (fun v7 ev7 av7 bv7 => ?_)
      refine z_icmp_lt (tgt := 34) F dX11_sure_20 (by decide +kernel) (by omega) (by omega) (fun c8 => ?_) (fun c8 => ?_)
      · refine z_aload_n F dX11_sure_34 rfl (q := 1) rfl ?_
        refine rf_X11_73 F gs_0 rfl dX11_sure_35 ?_
        refine z_iload_n F dX11_sure_38 rfl (q := 3) rfl ?_
        have hmt := hF.at (a := 123) (b := 0) (by decide)
        have k9 : 0 ≤ x1 ∧ x1 ≤ 3 := by omega
        refine zw_i (rest := []) F (k_X0_countStories_49 l M4 ⟨hI, hW⟩ x1 (by omega) (by omega)) cs_X11_433 (T := TX0) (N := 13) (ci := 0) rfl gs_49 (by decide) (by decide) ⟨by decide, by decide⟩ rfl rfl rfl (Nat.le_of_ble_eq_true rfl) dX11_sure_39 (fun v10 M11 rv10 hI p12 => ?_)
        obtain ⟨hI, hW⟩ := hI
        obtain ⟨⟨av10, bv10⟩, fp12⟩ := p12
        have hF := hF.call fp12 (by decide)
        refine z_pop F dX11_sure_42 rfl ?_
        refine z_aload_n F dX11_sure_43 rfl (q := 1) rfl ?_
        refine rf_X11_73 F gs_0 rfl dX11_sure_44 ?_
        refine gf_X11_438 F hI gs_49 rfl bd_49_8 dX11_sure_47 (fun v13 ev13 av13 bv13 => ?_)
        exact zxr_i F hQ hr hlk dX11_sure_50 ⟨by decide, by decide⟩ (by omega) ⟨hI, hW⟩ ⟨⟨by omega, by omega⟩, hF⟩
      · exact z_thrSW (cls := "java/lang/IllegalArgumentException") (names := ["java/lang/RuntimeException", "java/lang/Exception"]) (j := 51) F hlT hQ hlk hex (by decide +kernel) (by decide +kernel) (by decide) (gin lm_360 rfl) (gin lm_361 rfl) at_X11_105 bad_X11_105 (by decide +kernel) ot_X11_105 rfl rfl rfl dX11_sure_23 dX11_sure_26 dX11_sure_27 dX11_sure_30 dX11_sure_33 ⟨by decide, by decide⟩ (Nat.le_of_ble_eq_true rfl) ⟨hI, hW⟩ (Or.inl ⟨rfl, trivial, hF⟩)
  · refine zy_r (rest := []) F (k_X11_filledTray_t1 l hlT M ⟨hI, hW⟩ x0 (by omega) (by omega)) cs_X11_248 (T := TX11) (N := 14) (ci := 11) rfl gs_0 (by decide) (by decide) ⟨by decide, by decide⟩ rfl rfl rfl (Nat.le_of_ble_eq_true rfl) dX11_sure_2 (fun E M9 hJ9 hx => by rcases hx with ⟨h9, g9, rfl⟩ | ⟨h9, g9, rfl⟩ <;> first | (exact zx_out hQ hlk hex ⟨by decide, by decide⟩ hJ9 (Or.inr (Or.inl ⟨h9, trivial, hF⟩))) | (exact zx_out hQ hlk hex ⟨by decide, by decide⟩ hJ9 (Or.inr (Or.inr (⟨h9, trivial, hF⟩))))) (fun M14 hI p15 => ?_)
    obtain ⟨hI, hW⟩ := hI
    obtain rfl := p15
    refine z_astore_n F dX11_sure_5 rfl (by decide) (ls' := [(3, .ref (ad 125)), (0, .ref (ad 0)), (1, ii x0), (2, ii x1)]) rfl ?_
    refine z_aload_n F dX11_sure_6 rfl (q := 1) rfl ?_
    refine z_aload_n F dX11_sure_7 rfl (q := 0) rfl ?_
    refine zy_v (rest := []) F (k_X11_needSights_0_125 l hlT M ⟨hI, hW⟩) cs_X11_430 (T := TX11) (N := 14) (ci := 11) rfl gs_0 (by decide) (by decide) ⟨by decide, by decide⟩ rfl rfl rfl (Nat.le_of_ble_eq_true rfl) dX11_sure_8 (fun E M9 hJ9 hx => by obtain ⟨h9, g9, f9⟩ := hx <;> first | (exact zx_out hQ hlk hex ⟨by decide, by decide⟩ hJ9 (Or.inl ⟨h9, trivial, (hF.call f9 (by decide))⟩))) (fun M16 hI p17 => ?_)
    obtain ⟨hI, hW⟩ := hI
    obtain ⟨fp17, xp17⟩ := p17
    have hF := hF.call fp17 (by decide)
    refine z_iload_n F dX11_sure_11 rfl (q := 3) rfl ?_
    refine z_if_lt (tgt := 23) F dX11_sure_12 (by decide +kernel) (by omega) (fun c18 => ?_) (fun c18 => ?_)
    · exact z_thrSW (cls := "java/lang/IllegalArgumentException") (names := ["java/lang/RuntimeException", "java/lang/Exception"]) (j := 51) F hlT hQ hlk hex (by decide +kernel) (by decide +kernel) (by decide) (gin lm_360 rfl) (gin lm_361 rfl) at_X11_105 bad_X11_105 (by decide +kernel) ot_X11_105 rfl rfl rfl dX11_sure_23 dX11_sure_26 dX11_sure_27 dX11_sure_30 dX11_sure_33 ⟨by decide, by decide⟩ (Nat.le_of_ble_eq_true rfl) ⟨hI, hW⟩ (Or.inl ⟨rfl, trivial, hF⟩)
    · refine z_iload_n F dX11_sure_15 rfl (q := 3) rfl ?_
      refine z_aload_n F dX11_sure_16 rfl (q := 0) rfl ?_
      refine gf_X11_266 F hI gs_125 rfl bd_125_0 dX11_sure_17 (fun v19 ev19 av19 bv19 => ?_)
      refine z_icmp_lt (tgt := 34) F dX11_sure_20 (by decide +kernel) (by omega) (by omega) (fun c20 => ?_) (fun c20 => ?_)
      · refine z_aload_n F dX11_sure_34 rfl (q := 1) rfl ?_
        refine rf_X11_73 F gs_0 rfl dX11_sure_35 ?_
        refine z_iload_n F dX11_sure_38 rfl (q := 3) rfl ?_
        have hmt := hF.at (a := 125) (b := 0) (by decide)
        have k21 : 0 ≤ x1 ∧ x1 ≤ 3 := by omega
        refine zw_i (rest := []) F (k_X0_countStories_49 l M16 ⟨hI, hW⟩ x1 (by omega) (by omega)) cs_X11_433 (T := TX0) (N := 13) (ci := 0) rfl gs_49 (by decide) (by decide) ⟨by decide, by decide⟩ rfl rfl rfl (Nat.le_of_ble_eq_true rfl) dX11_sure_39 (fun v22 M23 rv22 hI p24 => ?_)
        obtain ⟨hI, hW⟩ := hI
        obtain ⟨⟨av22, bv22⟩, fp24⟩ := p24
        have hF := hF.call fp24 (by decide)
        refine z_pop F dX11_sure_42 rfl ?_
        refine z_aload_n F dX11_sure_43 rfl (q := 1) rfl ?_
        refine rf_X11_73 F gs_0 rfl dX11_sure_44 ?_
        refine gf_X11_438 F hI gs_49 rfl bd_49_8 dX11_sure_47 (fun v25 ev25 av25 bv25 => ?_)
        exact zxr_i F hQ hr hlk dX11_sure_50 ⟨by decide, by decide⟩ (by omega) ⟨hI, hW⟩ ⟨⟨by omega, by omega⟩, hF⟩
      · exact z_thrSW (cls := "java/lang/IllegalArgumentException") (names := ["java/lang/RuntimeException", "java/lang/Exception"]) (j := 51) F hlT hQ hlk hex (by decide +kernel) (by decide +kernel) (by decide) (gin lm_360 rfl) (gin lm_361 rfl) at_X11_105 bad_X11_105 (by decide +kernel) ot_X11_105 rfl rfl rfl dX11_sure_23 dX11_sure_26 dX11_sure_27 dX11_sure_30 dX11_sure_33 ⟨by decide, by decide⟩ (Nat.le_of_ble_eq_true rfl) ⟨hI, hW⟩ (Or.inl ⟨rfl, trivial, hF⟩)
  · refine zy_r (rest := []) F (k_X11_filledTray_t2 l hlT M ⟨hI, hW⟩ x0 (by omega) (by omega)) cs_X11_248 (T := TX11) (N := 14) (ci := 11) rfl gs_0 (by decide) (by decide) ⟨by decide, by decide⟩ rfl rfl rfl (Nat.le_of_ble_eq_true rfl) dX11_sure_2 (fun E M9 hJ9 hx => by rcases hx with ⟨h9, g9, rfl⟩ | ⟨h9, g9, rfl⟩ <;> first | (exact zx_out hQ hlk hex ⟨by decide, by decide⟩ hJ9 (Or.inr (Or.inl ⟨h9, trivial, hF⟩))) | (exact zx_out hQ hlk hex ⟨by decide, by decide⟩ hJ9 (Or.inr (Or.inr (⟨h9, trivial, hF⟩))))) (fun M26 hI p27 => ?_)
    obtain ⟨hI, hW⟩ := hI
    obtain rfl := p27
    refine z_astore_n F dX11_sure_5 rfl (by decide) (ls' := [(3, .ref (ad 127)), (0, .ref (ad 0)), (1, ii x0), (2, ii x1)]) rfl ?_
    refine z_aload_n F dX11_sure_6 rfl (q := 1) rfl ?_
    refine z_aload_n F dX11_sure_7 rfl (q := 0) rfl ?_
    refine zy_v (rest := []) F (k_X11_needSights_0_127 l hlT M ⟨hI, hW⟩) cs_X11_430 (T := TX11) (N := 14) (ci := 11) rfl gs_0 (by decide) (by decide) ⟨by decide, by decide⟩ rfl rfl rfl (Nat.le_of_ble_eq_true rfl) dX11_sure_8 (fun E M9 hJ9 hx => by obtain ⟨h9, g9, f9⟩ := hx <;> first | (exact zx_out hQ hlk hex ⟨by decide, by decide⟩ hJ9 (Or.inl ⟨h9, trivial, (hF.call f9 (by decide))⟩))) (fun M28 hI p29 => ?_)
    obtain ⟨hI, hW⟩ := hI
    obtain ⟨fp29, xp29⟩ := p29
    have hF := hF.call fp29 (by decide)
    refine z_iload_n F dX11_sure_11 rfl (q := 3) rfl ?_
    refine z_if_lt (tgt := 23) F dX11_sure_12 (by decide +kernel) (by omega) (fun c30 => ?_) (fun c30 => ?_)
    · exact z_thrSW (cls := "java/lang/IllegalArgumentException") (names := ["java/lang/RuntimeException", "java/lang/Exception"]) (j := 51) F hlT hQ hlk hex (by decide +kernel) (by decide +kernel) (by decide) (gin lm_360 rfl) (gin lm_361 rfl) at_X11_105 bad_X11_105 (by decide +kernel) ot_X11_105 rfl rfl rfl dX11_sure_23 dX11_sure_26 dX11_sure_27 dX11_sure_30 dX11_sure_33 ⟨by decide, by decide⟩ (Nat.le_of_ble_eq_true rfl) ⟨hI, hW⟩ (Or.inl ⟨rfl, trivial, hF⟩)
    · refine z_iload_n F dX11_sure_15 rfl (q := 3) rfl ?_
      refine z_aload_n F dX11_sure_16 rfl (q := 0) rfl ?_
      refine gf_X11_266 F hI gs_127 rfl bd_127_0 dX11_sure_17 (fun v31 ev31 av31 bv31 => ?_)
      refine z_icmp_lt (tgt := 34) F dX11_sure_20 (by decide +kernel) (by omega) (by omega) (fun c32 => ?_) (fun c32 => ?_)
      · refine z_aload_n F dX11_sure_34 rfl (q := 1) rfl ?_
        refine rf_X11_73 F gs_0 rfl dX11_sure_35 ?_
        refine z_iload_n F dX11_sure_38 rfl (q := 3) rfl ?_
        have hmt := hF.at (a := 127) (b := 0) (by decide)
        have k33 : 0 ≤ x1 ∧ x1 ≤ 3 := by omega
        refine zw_i (rest := []) F (k_X0_countStories_49 l M28 ⟨hI, hW⟩ x1 (by omega) (by omega)) cs_X11_433 (T := TX0) (N := 13) (ci := 0) rfl gs_49 (by decide) (by decide) ⟨by decide, by decide⟩ rfl rfl rfl (Nat.le_of_ble_eq_true rfl) dX11_sure_39 (fun v34 M35 rv34 hI p36 => ?_)
        obtain ⟨hI, hW⟩ := hI
        obtain ⟨⟨av34, bv34⟩, fp36⟩ := p36
        have hF := hF.call fp36 (by decide)
        refine z_pop F dX11_sure_42 rfl ?_
        refine z_aload_n F dX11_sure_43 rfl (q := 1) rfl ?_
        refine rf_X11_73 F gs_0 rfl dX11_sure_44 ?_
        refine gf_X11_438 F hI gs_49 rfl bd_49_8 dX11_sure_47 (fun v37 ev37 av37 bv37 => ?_)
        exact zxr_i F hQ hr hlk dX11_sure_50 ⟨by decide, by decide⟩ (by omega) ⟨hI, hW⟩ ⟨⟨by omega, by omega⟩, hF⟩
      · exact z_thrSW (cls := "java/lang/IllegalArgumentException") (names := ["java/lang/RuntimeException", "java/lang/Exception"]) (j := 51) F hlT hQ hlk hex (by decide +kernel) (by decide +kernel) (by decide) (gin lm_360 rfl) (gin lm_361 rfl) at_X11_105 bad_X11_105 (by decide +kernel) ot_X11_105 rfl rfl rfl dX11_sure_23 dX11_sure_26 dX11_sure_27 dX11_sure_30 dX11_sure_33 ⟨by decide, by decide⟩ (Nat.le_of_ble_eq_true rfl) ⟨hI, hW⟩ (Or.inl ⟨rfl, trivial, hF⟩)
  · refine zy_r (rest := []) F (k_X11_filledTray_t3 l hlT M ⟨hI, hW⟩ x0 (by omega) (by omega)) cs_X11_248 (T := TX11) (N := 14) (ci := 11) rfl gs_0 (by decide) (by decide) ⟨by decide, by decide⟩ rfl rfl rfl (Nat.le_of_ble_eq_true rfl) dX11_sure_2 (fun E M9 hJ9 hx => by rcases hx with ⟨h9, g9, rfl⟩ | ⟨h9, g9, rfl⟩ <;> first | (exact zx_out hQ hlk hex ⟨by decide, by decide⟩ hJ9 (Or.inr (Or.inl ⟨h9, trivial, hF⟩))) | (exact zx_out hQ hlk hex ⟨by decide, by decide⟩ hJ9 (Or.inr (Or.inr (⟨h9, trivial, hF⟩))))) (fun M38 hI p39 => ?_)
    obtain ⟨hI, hW⟩ := hI
    obtain rfl := p39
    refine z_astore_n F dX11_sure_5 rfl (by decide) (ls' := [(3, .ref (ad 129)), (0, .ref (ad 0)), (1, ii x0), (2, ii x1)]) rfl ?_
    refine z_aload_n F dX11_sure_6 rfl (q := 1) rfl ?_
    refine z_aload_n F dX11_sure_7 rfl (q := 0) rfl ?_
    refine zy_v (rest := []) F (k_X11_needSights_0_129 l hlT M ⟨hI, hW⟩) cs_X11_430 (T := TX11) (N := 14) (ci := 11) rfl gs_0 (by decide) (by decide) ⟨by decide, by decide⟩ rfl rfl rfl (Nat.le_of_ble_eq_true rfl) dX11_sure_8 (fun E M9 hJ9 hx => by obtain ⟨h9, g9, f9⟩ := hx <;> first | (exact zx_out hQ hlk hex ⟨by decide, by decide⟩ hJ9 (Or.inl ⟨h9, trivial, (hF.call f9 (by decide))⟩))) (fun M40 hI p41 => ?_)
    obtain ⟨hI, hW⟩ := hI
    obtain ⟨fp41, xp41⟩ := p41
    have hF := hF.call fp41 (by decide)
    refine z_iload_n F dX11_sure_11 rfl (q := 3) rfl ?_
    refine z_if_lt (tgt := 23) F dX11_sure_12 (by decide +kernel) (by omega) (fun c42 => ?_) (fun c42 => ?_)
    · exact z_thrSW (cls := "java/lang/IllegalArgumentException") (names := ["java/lang/RuntimeException", "java/lang/Exception"]) (j := 51) F hlT hQ hlk hex (by decide +kernel) (by decide +kernel) (by decide) (gin lm_360 rfl) (gin lm_361 rfl) at_X11_105 bad_X11_105 (by decide +kernel) ot_X11_105 rfl rfl rfl dX11_sure_23 dX11_sure_26 dX11_sure_27 dX11_sure_30 dX11_sure_33 ⟨by decide, by decide⟩ (Nat.le_of_ble_eq_true rfl) ⟨hI, hW⟩ (Or.inl ⟨rfl, trivial, hF⟩)
    · refine z_iload_n F dX11_sure_15 rfl (q := 3) rfl ?_
      refine z_aload_n F dX11_sure_16 rfl (q := 0) rfl ?_
      refine gf_X11_266 F hI gs_129 rfl bd_129_0 dX11_sure_17 (fun v43 ev43 av43 bv43 => ?_)
      refine z_icmp_lt (tgt := 34) F dX11_sure_20 (by decide +kernel) (by omega) (by omega) (fun c44 => ?_) (fun c44 => ?_)
      · refine z_aload_n F dX11_sure_34 rfl (q := 1) rfl ?_
        refine rf_X11_73 F gs_0 rfl dX11_sure_35 ?_
        refine z_iload_n F dX11_sure_38 rfl (q := 3) rfl ?_
        have hmt := hF.at (a := 129) (b := 0) (by decide)
        have k45 : 0 ≤ x1 ∧ x1 ≤ 3 := by omega
        refine zw_i (rest := []) F (k_X0_countStories_49 l M40 ⟨hI, hW⟩ x1 (by omega) (by omega)) cs_X11_433 (T := TX0) (N := 13) (ci := 0) rfl gs_49 (by decide) (by decide) ⟨by decide, by decide⟩ rfl rfl rfl (Nat.le_of_ble_eq_true rfl) dX11_sure_39 (fun v46 M47 rv46 hI p48 => ?_)
        obtain ⟨hI, hW⟩ := hI
        obtain ⟨⟨av46, bv46⟩, fp48⟩ := p48
        have hF := hF.call fp48 (by decide)
        refine z_pop F dX11_sure_42 rfl ?_
        refine z_aload_n F dX11_sure_43 rfl (q := 1) rfl ?_
        refine rf_X11_73 F gs_0 rfl dX11_sure_44 ?_
        refine gf_X11_438 F hI gs_49 rfl bd_49_8 dX11_sure_47 (fun v49 ev49 av49 bv49 => ?_)
        exact zxr_i F hQ hr hlk dX11_sure_50 ⟨by decide, by decide⟩ (by omega) ⟨hI, hW⟩ ⟨⟨by omega, by omega⟩, hF⟩
      · exact z_thrSW (cls := "java/lang/IllegalArgumentException") (names := ["java/lang/RuntimeException", "java/lang/Exception"]) (j := 51) F hlT hQ hlk hex (by decide +kernel) (by decide +kernel) (by decide) (gin lm_360 rfl) (gin lm_361 rfl) at_X11_105 bad_X11_105 (by decide +kernel) ot_X11_105 rfl rfl rfl dX11_sure_23 dX11_sure_26 dX11_sure_27 dX11_sure_30 dX11_sure_33 ⟨by decide, by decide⟩ (Nat.le_of_ble_eq_true rfl) ⟨hI, hW⟩ (Or.inl ⟨rfl, trivial, hF⟩)
  · refine zy_r (rest := []) F (k_X11_filledTray_to l hlT M ⟨hI, hW⟩ x0 (by omega) (by omega) (by omega)) cs_X11_248 (T := TX11) (N := 14) (ci := 11) rfl gs_0 (by decide) (by decide) ⟨by decide, by decide⟩ rfl rfl rfl (Nat.le_of_ble_eq_true rfl) dX11_sure_2 (fun E M9 hJ9 hx => by obtain ⟨h9, g9, rfl⟩ := hx <;> first | (exact zx_out hQ hlk hex ⟨by decide, by decide⟩ hJ9 (Or.inr (Or.inr (⟨h9, trivial, hF⟩))))) (fun M50 hI p51 => ?_)
    obtain ⟨hI, hW⟩ := hI
    obtain ⟨rfl, xp51⟩ := p51
    exact xp51.elim
set_option maxRecDepth 4000 in
theorem k_X10_lay_123 (l : Launch) (M : Mem) (hJ : Iw M) (x0 : Int) (hx0a : 0 ≤ x0) (hx0b : x0 ≤ 3) (x1 : Int) (hx1a : 0 ≤ x1) (hx1b : x1 ≤ 30) : CV l yX10_lay cX10_lay 4 none 2 (fun ad => [.ref (ad 123), ii x0, ii x1]) M (fun M' => Fr [123, 124] M M') := by
  obtain ⟨hI, hW⟩ := hJ
  have hF : Fr [123, 124] M M := Fr.rf
  refine en_v (by decide +kernel) (fun ad => by exact Nat.le_of_ble_eq_true rfl) (fun D cy ad A p e s m args below meth c Q F hret => ?_)
  refine z_eq (ls' := [(0, .ref (ad 123)), (1, ii x0), (2, ii x1)]) rfl rfl rfl ?_
  refine z_aload_n F dX10_lay_0 rfl (q := 0) rfl ?_
  refine z_iload_n F dX10_lay_1 rfl (q := 1) rfl ?_
  refine pf_X10_19 F hI gs_123 rfl bd_123_1 rfl rfl dX10_lay_2 (by omega) (by omega) (fun M2 hI sf1 f1 => ?_)
  have hF := hF.wr f1 (by decide) (by decide)
  have hW : WFk M2 := hW.site f1 (by decide)
  refine z_aload_n F dX10_lay_5 rfl (q := 0) rfl ?_
  refine z_iload_n F dX10_lay_6 rfl (q := 2) rfl ?_
  refine z_iconst F dX10_lay_7 ?_
  refine z_aload_n F dX10_lay_8 rfl (q := 0) rfl ?_
  refine rf_X10_15 F gs_123 rfl dX10_lay_9 ?_
  refine z_alen (x := 30) F gs_124 rfl rfl dX10_lay_12 ?_
  refine zn_i (rest := [.ref (ad 123)]) F (k_X11_keptWithin l M2 ⟨hI, hW⟩ x1 (by omega) (by omega) 0 (by omega) (by omega) 30 (by omega) (by omega)) cs_X10_22 (by decide) (by decide) rfl rfl rfl (Nat.le_of_ble_eq_true rfl) dX10_lay_13 (fun v3 M4 rv3 hI p5 => ?_)
  obtain ⟨hI, hW⟩ := hI
  obtain ⟨⟨av3, bv3⟩, rfl, xp5⟩ := p5
  have hkv3 : 0 ≤ v3 ∧ v3 ≤ 30 := by omega
  refine pf_X10_9 F hI gs_123 rfl bd_123_0 rfl rfl dX10_lay_16 (by omega) (by omega) (fun M7 hI sf6 f6 => ?_)
  have hF := hF.wr f6 (by decide) (by decide)
  have hW : WFk M7 := hW.site f6 (by decide)
  refine z_iconst F dX10_lay_19 ?_
  refine z_istore_n F dX10_lay_20 rfl (by decide) (ls' := [(3, ii 0), (0, .ref (ad 123)), (1, ii x0), (2, ii x1)]) rfl ?_
  refine z_loc [1, 0] (ls' := [(0, .ref (ad 123)), (3, ii 0)]) rfl ?_
  suffices key21 : ∀ (n : Nat) (y9 : Int) (M8 : Mem), Inv M8 → WFk M8 → Fr [123, 124] M M8 → 0 ≤ y9 → y9 ≤ 30 → 30 - y9 < (n : Int) → Z D cy ad p l e (RMh 2) s m args below meth c A 4 0 0 Q 21 [(0, .ref (ad 123)), (3, ii y9)] [] M8 from key21 31 0 M7 hI hW hF (by omega) (by omega) (by omega)
  intro n21
  induction n21 with
  | zero => intro y9 M8 hI hW hF ay9 by9 hn21; exfalso; omega
  | succ n21 ih21 =>
    intro y9 M8 hI hW hF ay9 by9 hn21
    refine z_iload_n F dX10_lay_21 rfl (q := 1) rfl ?_
    refine z_aload_n F dX10_lay_22 rfl (q := 0) rfl ?_
    refine gf_X10_9 F hI gs_123 rfl bd_123_0 dX10_lay_23 (fun v10 ev10 av10 bv10 => ?_)
    refine z_icmp_ge (tgt := 42) F dX10_lay_26 (by decide +kernel) (by omega) (by omega) (fun c11 => ?_) (fun c11 => ?_)
    · exact hret _ 42 _ ⟨hI, hW⟩ hF dX10_lay_42
    · refine z_aload_n F dX10_lay_29 rfl (q := 0) rfl ?_
      refine rf_X10_15 F gs_123 rfl dX10_lay_30 ?_
      refine z_iload_n F dX10_lay_33 rfl (q := 1) rfl ?_
      refine z_lconst (x := 0) F dX10_lay_34 (by decide +kernel) ?_
      refine z_last F hI gs_124 (by omega) (by omega) (by decide) bd_124 dX10_lay_35 (by omega) (by omega) (fun M13 hI sf12 f12 => ?_)
      have hF := hF.wr f12 (by decide) (by decide)
      have hW : WFk M13 := hW.site f12 (by decide)
      refine z_iincN F dX10_lay_36 (q := 1) rfl (by decide) (fun v14 ev14 => ?_)
      refine z_eq (ls' := [(3, ii v14), (0, .ref (ad 123))]) rfl rfl rfl ?_
      refine z_goto (tgt := 21) F dX10_lay_39 (by decide +kernel) ?_
      refine z_loc [1, 0] (ls' := [(0, .ref (ad 123)), (3, ii v14)]) rfl ?_
      exact ih21 v14 M13 hI hW hF (by omega) (by omega) (by omega)
set_option maxRecDepth 4000 in
theorem k_X10_lay_125 (l : Launch) (M : Mem) (hJ : Iw M) (x0 : Int) (hx0a : 0 ≤ x0) (hx0b : x0 ≤ 3) (x1 : Int) (hx1a : 0 ≤ x1) (hx1b : x1 ≤ 30) : CV l yX10_lay cX10_lay 4 none 2 (fun ad => [.ref (ad 125), ii x0, ii x1]) M (fun M' => Fr [125, 126] M M') := by
  obtain ⟨hI, hW⟩ := hJ
  have hF : Fr [125, 126] M M := Fr.rf
  refine en_v (by decide +kernel) (fun ad => by exact Nat.le_of_ble_eq_true rfl) (fun D cy ad A p e s m args below meth c Q F hret => ?_)
  refine z_eq (ls' := [(0, .ref (ad 125)), (1, ii x0), (2, ii x1)]) rfl rfl rfl ?_
  refine z_aload_n F dX10_lay_0 rfl (q := 0) rfl ?_
  refine z_iload_n F dX10_lay_1 rfl (q := 1) rfl ?_
  refine pf_X10_19 F hI gs_125 rfl bd_125_1 rfl rfl dX10_lay_2 (by omega) (by omega) (fun M2 hI sf1 f1 => ?_)
  have hF := hF.wr f1 (by decide) (by decide)
  have hW : WFk M2 := hW.site f1 (by decide)
  refine z_aload_n F dX10_lay_5 rfl (q := 0) rfl ?_
  refine z_iload_n F dX10_lay_6 rfl (q := 2) rfl ?_
  refine z_iconst F dX10_lay_7 ?_
  refine z_aload_n F dX10_lay_8 rfl (q := 0) rfl ?_
  refine rf_X10_15 F gs_125 rfl dX10_lay_9 ?_
  refine z_alen (x := 30) F gs_126 rfl rfl dX10_lay_12 ?_
  refine zn_i (rest := [.ref (ad 125)]) F (k_X11_keptWithin l M2 ⟨hI, hW⟩ x1 (by omega) (by omega) 0 (by omega) (by omega) 30 (by omega) (by omega)) cs_X10_22 (by decide) (by decide) rfl rfl rfl (Nat.le_of_ble_eq_true rfl) dX10_lay_13 (fun v3 M4 rv3 hI p5 => ?_)
  obtain ⟨hI, hW⟩ := hI
  obtain ⟨⟨av3, bv3⟩, rfl, xp5⟩ := p5
  have hkv3 : 0 ≤ v3 ∧ v3 ≤ 30 := by omega
  refine pf_X10_9 F hI gs_125 rfl bd_125_0 rfl rfl dX10_lay_16 (by omega) (by omega) (fun M7 hI sf6 f6 => ?_)
  have hF := hF.wr f6 (by decide) (by decide)
  have hW : WFk M7 := hW.site f6 (by decide)
  refine z_iconst F dX10_lay_19 ?_
  refine z_istore_n F dX10_lay_20 rfl (by decide) (ls' := [(3, ii 0), (0, .ref (ad 125)), (1, ii x0), (2, ii x1)]) rfl ?_
  refine z_loc [1, 0] (ls' := [(0, .ref (ad 125)), (3, ii 0)]) rfl ?_
  suffices key21 : ∀ (n : Nat) (y9 : Int) (M8 : Mem), Inv M8 → WFk M8 → Fr [125, 126] M M8 → 0 ≤ y9 → y9 ≤ 30 → 30 - y9 < (n : Int) → Z D cy ad p l e (RMh 2) s m args below meth c A 4 0 0 Q 21 [(0, .ref (ad 125)), (3, ii y9)] [] M8 from key21 31 0 M7 hI hW hF (by omega) (by omega) (by omega)
  intro n21
  induction n21 with
  | zero => intro y9 M8 hI hW hF ay9 by9 hn21; exfalso; omega
  | succ n21 ih21 =>
    intro y9 M8 hI hW hF ay9 by9 hn21
    refine z_iload_n F dX10_lay_21 rfl (q := 1) rfl ?_
    refine z_aload_n F dX10_lay_22 rfl (q := 0) rfl ?_
    refine gf_X10_9 F hI gs_125 rfl bd_125_0 dX10_lay_23 (fun v10 ev10 av10 bv10 => ?_)
    refine z_icmp_ge (tgt := 42) F dX10_lay_26 (by decide +kernel) (by omega) (by omega) (fun c11 => ?_) (fun c11 => ?_)
    · exact hret _ 42 _ ⟨hI, hW⟩ hF dX10_lay_42
    · refine z_aload_n F dX10_lay_29 rfl (q := 0) rfl ?_
      refine rf_X10_15 F gs_125 rfl dX10_lay_30 ?_
      refine z_iload_n F dX10_lay_33 rfl (q := 1) rfl ?_
      refine z_lconst (x := 0) F dX10_lay_34 (by decide +kernel) ?_
      refine z_last F hI gs_126 (by omega) (by omega) (by decide) bd_126 dX10_lay_35 (by omega) (by omega) (fun M13 hI sf12 f12 => ?_)
      have hF := hF.wr f12 (by decide) (by decide)
      have hW : WFk M13 := hW.site f12 (by decide)
      refine z_iincN F dX10_lay_36 (q := 1) rfl (by decide) (fun v14 ev14 => ?_)
      refine z_eq (ls' := [(3, ii v14), (0, .ref (ad 125))]) rfl rfl rfl ?_
      refine z_goto (tgt := 21) F dX10_lay_39 (by decide +kernel) ?_
      refine z_loc [1, 0] (ls' := [(0, .ref (ad 125)), (3, ii v14)]) rfl ?_
      exact ih21 v14 M13 hI hW hF (by omega) (by omega) (by omega)
set_option maxRecDepth 4000 in
theorem k_X10_lay_127 (l : Launch) (M : Mem) (hJ : Iw M) (x0 : Int) (hx0a : 0 ≤ x0) (hx0b : x0 ≤ 3) (x1 : Int) (hx1a : 0 ≤ x1) (hx1b : x1 ≤ 30) : CV l yX10_lay cX10_lay 4 none 2 (fun ad => [.ref (ad 127), ii x0, ii x1]) M (fun M' => Fr [127, 128] M M') := by
  obtain ⟨hI, hW⟩ := hJ
  have hF : Fr [127, 128] M M := Fr.rf
  refine en_v (by decide +kernel) (fun ad => by exact Nat.le_of_ble_eq_true rfl) (fun D cy ad A p e s m args below meth c Q F hret => ?_)
  refine z_eq (ls' := [(0, .ref (ad 127)), (1, ii x0), (2, ii x1)]) rfl rfl rfl ?_
  refine z_aload_n F dX10_lay_0 rfl (q := 0) rfl ?_
  refine z_iload_n F dX10_lay_1 rfl (q := 1) rfl ?_
  refine pf_X10_19 F hI gs_127 rfl bd_127_1 rfl rfl dX10_lay_2 (by omega) (by omega) (fun M2 hI sf1 f1 => ?_)
  have hF := hF.wr f1 (by decide) (by decide)
  have hW : WFk M2 := hW.site f1 (by decide)
  refine z_aload_n F dX10_lay_5 rfl (q := 0) rfl ?_
  refine z_iload_n F dX10_lay_6 rfl (q := 2) rfl ?_
  refine z_iconst F dX10_lay_7 ?_
  refine z_aload_n F dX10_lay_8 rfl (q := 0) rfl ?_
  refine rf_X10_15 F gs_127 rfl dX10_lay_9 ?_
  refine z_alen (x := 30) F gs_128 rfl rfl dX10_lay_12 ?_
  refine zn_i (rest := [.ref (ad 127)]) F (k_X11_keptWithin l M2 ⟨hI, hW⟩ x1 (by omega) (by omega) 0 (by omega) (by omega) 30 (by omega) (by omega)) cs_X10_22 (by decide) (by decide) rfl rfl rfl (Nat.le_of_ble_eq_true rfl) dX10_lay_13 (fun v3 M4 rv3 hI p5 => ?_)
  obtain ⟨hI, hW⟩ := hI
  obtain ⟨⟨av3, bv3⟩, rfl, xp5⟩ := p5
  have hkv3 : 0 ≤ v3 ∧ v3 ≤ 30 := by omega
  refine pf_X10_9 F hI gs_127 rfl bd_127_0 rfl rfl dX10_lay_16 (by omega) (by omega) (fun M7 hI sf6 f6 => ?_)
  have hF := hF.wr f6 (by decide) (by decide)
  have hW : WFk M7 := hW.site f6 (by decide)
  refine z_iconst F dX10_lay_19 ?_
  refine z_istore_n F dX10_lay_20 rfl (by decide) (ls' := [(3, ii 0), (0, .ref (ad 127)), (1, ii x0), (2, ii x1)]) rfl ?_
  refine z_loc [1, 0] (ls' := [(0, .ref (ad 127)), (3, ii 0)]) rfl ?_
  suffices key21 : ∀ (n : Nat) (y9 : Int) (M8 : Mem), Inv M8 → WFk M8 → Fr [127, 128] M M8 → 0 ≤ y9 → y9 ≤ 30 → 30 - y9 < (n : Int) → Z D cy ad p l e (RMh 2) s m args below meth c A 4 0 0 Q 21 [(0, .ref (ad 127)), (3, ii y9)] [] M8 from key21 31 0 M7 hI hW hF (by omega) (by omega) (by omega)
  intro n21
  induction n21 with
  | zero => intro y9 M8 hI hW hF ay9 by9 hn21; exfalso; omega
  | succ n21 ih21 =>
    intro y9 M8 hI hW hF ay9 by9 hn21
    refine z_iload_n F dX10_lay_21 rfl (q := 1) rfl ?_
    refine z_aload_n F dX10_lay_22 rfl (q := 0) rfl ?_
    refine gf_X10_9 F hI gs_127 rfl bd_127_0 dX10_lay_23 (fun v10 ev10 av10 bv10 => ?_)
    refine z_icmp_ge (tgt := 42) F dX10_lay_26 (by decide +kernel) (by omega) (by omega) (fun c11 => ?_) (fun c11 => ?_)
    · exact hret _ 42 _ ⟨hI, hW⟩ hF dX10_lay_42
    · refine z_aload_n F dX10_lay_29 rfl (q := 0) rfl ?_
      refine rf_X10_15 F gs_127 rfl dX10_lay_30 ?_
      refine z_iload_n F dX10_lay_33 rfl (q := 1) rfl ?_
      refine z_lconst (x := 0) F dX10_lay_34 (by decide +kernel) ?_
      refine z_last F hI gs_128 (by omega) (by omega) (by decide) bd_128 dX10_lay_35 (by omega) (by omega) (fun M13 hI sf12 f12 => ?_)
      have hF := hF.wr f12 (by decide) (by decide)
      have hW : WFk M13 := hW.site f12 (by decide)
      refine z_iincN F dX10_lay_36 (q := 1) rfl (by decide) (fun v14 ev14 => ?_)
      refine z_eq (ls' := [(3, ii v14), (0, .ref (ad 127))]) rfl rfl rfl ?_
      refine z_goto (tgt := 21) F dX10_lay_39 (by decide +kernel) ?_
      refine z_loc [1, 0] (ls' := [(0, .ref (ad 127)), (3, ii v14)]) rfl ?_
      exact ih21 v14 M13 hI hW hF (by omega) (by omega) (by omega)
