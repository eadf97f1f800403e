theorem dL_bestRow_0 : decode cL_bestRow 0 = .ok (.aload 4, 2) := by decide +kernel
theorem dL_bestRow_10 : decode cL_bestRow 10 = .ok (.i2l, 1) := by decide +kernel
theorem dL_bestRow_11 : decode cL_bestRow 11 = .ok (.lastore, 1) := by decide +kernel
theorem dL_bestRow_12 : decode cL_bestRow 12 = .ok (.goto 7, 3) := by decide +kernel
theorem dL_bestRow_15 : decode cL_bestRow 15 = .ok (.astore 5, 2) := by decide +kernel
theorem dL_bestRow_17 : decode cL_bestRow 17 = .ok (.iconst 1, 1) := by decide +kernel
theorem dL_bestRow_18 : decode cL_bestRow 18 = .ok (.ireturn, 1) := by decide +kernel
theorem dL_bestRow_19 : decode cL_bestRow 19 = .ok (.iconst 0, 1) := by decide +kernel
theorem dL_bestRow_2 : decode cL_bestRow 2 = .ok (.iconst 0, 1) := by decide +kernel
theorem dL_bestRow_20 : decode cL_bestRow 20 = .ok (.ireturn, 1) := by decide +kernel
theorem dL_bestRow_3 : decode cL_bestRow 3 = .ok (.aload_n 0, 1) := by decide +kernel
theorem dL_bestRow_4 : decode cL_bestRow 4 = .ok (.iload_n 1, 1) := by decide +kernel
theorem dL_bestRow_5 : decode cL_bestRow 5 = .ok (.iload_n 2, 1) := by decide +kernel
theorem dL_bestRow_6 : decode cL_bestRow 6 = .ok (.iload_n 3, 1) := by decide +kernel
theorem dL_bestRow_7 : decode cL_bestRow 7 = .ok (.invokevirtual 80, 3) := by decide +kernel
theorem dL_calm_0 : decode cL_calm 0 = .ok (.aload_n 2, 1) := by decide +kernel
theorem dL_calm_1 : decode cL_calm 1 = .ok (.iconst 0, 1) := by decide +kernel
theorem dL_calm_12 : decode cL_calm 12 = .ok (.astore_n 3, 1) := by decide +kernel
theorem dL_calm_13 : decode cL_calm 13 = .ok (.iconst 1, 1) := by decide +kernel
theorem dL_calm_14 : decode cL_calm 14 = .ok (.ireturn, 1) := by decide +kernel
theorem dL_calm_15 : decode cL_calm 15 = .ok (.iconst 0, 1) := by decide +kernel
theorem dL_calm_16 : decode cL_calm 16 = .ok (.ireturn, 1) := by decide +kernel
theorem dL_calm_2 : decode cL_calm 2 = .ok (.aload_n 0, 1) := by decide +kernel
theorem dL_calm_3 : decode cL_calm 3 = .ok (.iload_n 1, 1) := by decide +kernel
theorem dL_calm_4 : decode cL_calm 4 = .ok (.invokevirtual 70, 3) := by decide +kernel
theorem dL_calm_7 : decode cL_calm 7 = .ok (.i2l, 1) := by decide +kernel
theorem dL_calm_8 : decode cL_calm 8 = .ok (.lastore, 1) := by decide +kernel
theorem dL_calm_9 : decode cL_calm 9 = .ok (.goto 6, 3) := by decide +kernel
theorem dL_change_0 : decode cL_change 0 = .ok (.aload_n 3, 1) := by decide +kernel
theorem dL_change_1 : decode cL_change 1 = .ok (.iconst 0, 1) := by decide +kernel
theorem dL_change_10 : decode cL_change 10 = .ok (.goto 11, 3) := by decide +kernel
theorem dL_change_13 : decode cL_change 13 = .ok (.astore 4, 2) := by decide +kernel
theorem dL_change_15 : decode cL_change 15 = .ok (.iconst 1, 1) := by decide +kernel
theorem dL_change_16 : decode cL_change 16 = .ok (.ireturn, 1) := by decide +kernel
theorem dL_change_17 : decode cL_change 17 = .ok (.astore 4, 2) := by decide +kernel
theorem dL_change_19 : decode cL_change 19 = .ok (.iconst 2, 1) := by decide +kernel
theorem dL_change_2 : decode cL_change 2 = .ok (.aload_n 0, 1) := by decide +kernel
theorem dL_change_20 : decode cL_change 20 = .ok (.ireturn, 1) := by decide +kernel
theorem dL_change_21 : decode cL_change 21 = .ok (.iconst 0, 1) := by decide +kernel
theorem dL_change_22 : decode cL_change 22 = .ok (.ireturn, 1) := by decide +kernel
theorem dL_change_3 : decode cL_change 3 = .ok (.iload_n 1, 1) := by decide +kernel
theorem dL_change_4 : decode cL_change 4 = .ok (.iload_n 2, 1) := by decide +kernel
theorem dL_change_5 : decode cL_change 5 = .ok (.invokevirtual 31, 3) := by decide +kernel
theorem dL_change_8 : decode cL_change 8 = .ok (.i2l, 1) := by decide +kernel
theorem dL_change_9 : decode cL_change 9 = .ok (.lastore, 1) := by decide +kernel
theorem dL_clash_0 : decode cL_clash 0 = .ok (.aload 4, 2) := by decide +kernel
theorem dL_clash_10 : decode cL_clash 10 = .ok (.ifCond .eq 7, 3) := by decide +kernel
theorem dL_clash_13 : decode cL_clash 13 = .ok (.lconst 1, 1) := by decide +kernel
theorem dL_clash_14 : decode cL_clash 14 = .ok (.goto 4, 3) := by decide +kernel
theorem dL_clash_17 : decode cL_clash 17 = .ok (.lconst 0, 1) := by decide +kernel
theorem dL_clash_18 : decode cL_clash 18 = .ok (.lastore, 1) := by decide +kernel
theorem dL_clash_19 : decode cL_clash 19 = .ok (.goto 11, 3) := by decide +kernel
theorem dL_clash_2 : decode cL_clash 2 = .ok (.iconst 0, 1) := by decide +kernel
theorem dL_clash_22 : decode cL_clash 22 = .ok (.astore 5, 2) := by decide +kernel
theorem dL_clash_24 : decode cL_clash 24 = .ok (.iconst 1, 1) := by decide +kernel
theorem dL_clash_25 : decode cL_clash 25 = .ok (.ireturn, 1) := by decide +kernel
theorem dL_clash_26 : decode cL_clash 26 = .ok (.astore 5, 2) := by decide +kernel
theorem dL_clash_28 : decode cL_clash 28 = .ok (.iconst 2, 1) := by decide +kernel
theorem dL_clash_29 : decode cL_clash 29 = .ok (.ireturn, 1) := by decide +kernel
theorem dL_clash_3 : decode cL_clash 3 = .ok (.aload_n 0, 1) := by decide +kernel
theorem dL_clash_30 : decode cL_clash 30 = .ok (.iconst 0, 1) := by decide +kernel
theorem dL_clash_31 : decode cL_clash 31 = .ok (.ireturn, 1) := by decide +kernel
theorem dL_clash_4 : decode cL_clash 4 = .ok (.iload_n 1, 1) := by decide +kernel
theorem dL_clash_5 : decode cL_clash 5 = .ok (.iload_n 2, 1) := by decide +kernel
theorem dL_clash_6 : decode cL_clash 6 = .ok (.iload_n 3, 1) := by decide +kernel
theorem dL_clash_7 : decode cL_clash 7 = .ok (.invokevirtual 27, 3) := by decide +kernel
theorem dL_days_0 : decode cL_days 0 = .ok (.aload_n 2, 1) := by decide +kernel
theorem dL_days_1 : decode cL_days 1 = .ok (.iconst 0, 1) := by decide +kernel
theorem dL_days_12 : decode cL_days 12 = .ok (.astore_n 3, 1) := by decide +kernel
theorem dL_days_13 : decode cL_days 13 = .ok (.iconst 1, 1) := by decide +kernel
theorem dL_days_14 : decode cL_days 14 = .ok (.ireturn, 1) := by decide +kernel
theorem dL_days_15 : decode cL_days 15 = .ok (.iconst 0, 1) := by decide +kernel
theorem dL_days_16 : decode cL_days 16 = .ok (.ireturn, 1) := by decide +kernel
theorem dL_days_2 : decode cL_days 2 = .ok (.aload_n 0, 1) := by decide +kernel
theorem dL_days_3 : decode cL_days 3 = .ok (.iload_n 1, 1) := by decide +kernel
theorem dL_days_4 : decode cL_days 4 = .ok (.invokevirtual 34, 3) := by decide +kernel
theorem dL_days_7 : decode cL_days 7 = .ok (.i2l, 1) := by decide +kernel
theorem dL_days_8 : decode cL_days 8 = .ok (.lastore, 1) := by decide +kernel
theorem dL_days_9 : decode cL_days 9 = .ok (.goto 6, 3) := by decide +kernel
theorem dL_event_0 : decode cL_event 0 = .ok (.aload_n 3, 1) := by decide +kernel
theorem dL_event_1 : decode cL_event 1 = .ok (.iconst 0, 1) := by decide +kernel
theorem dL_event_10 : decode cL_event 10 = .ok (.goto 11, 3) := by decide +kernel
theorem dL_event_13 : decode cL_event 13 = .ok (.astore 4, 2) := by decide +kernel
theorem dL_event_15 : decode cL_event 15 = .ok (.iconst 1, 1) := by decide +kernel
theorem dL_event_16 : decode cL_event 16 = .ok (.ireturn, 1) := by decide +kernel
theorem dL_event_17 : decode cL_event 17 = .ok (.astore 4, 2) := by decide +kernel
theorem dL_event_19 : decode cL_event 19 = .ok (.iconst 2, 1) := by decide +kernel
theorem dL_event_2 : decode cL_event 2 = .ok (.aload_n 0, 1) := by decide +kernel
theorem dL_event_20 : decode cL_event 20 = .ok (.ireturn, 1) := by decide +kernel
theorem dL_event_21 : decode cL_event 21 = .ok (.iconst 0, 1) := by decide +kernel
theorem dL_event_22 : decode cL_event 22 = .ok (.ireturn, 1) := by decide +kernel
theorem dL_event_3 : decode cL_event 3 = .ok (.iload_n 1, 1) := by decide +kernel
theorem dL_event_4 : decode cL_event 4 = .ok (.iload_n 2, 1) := by decide +kernel
theorem dL_event_5 : decode cL_event 5 = .ok (.invokevirtual 73, 3) := by decide +kernel
theorem dL_event_8 : decode cL_event 8 = .ok (.i2l, 1) := by decide +kernel
theorem dL_event_9 : decode cL_event 9 = .ok (.lastore, 1) := by decide +kernel
theorem dL_flips_0 : decode cL_flips 0 = .ok (.aload_n 2, 1) := by decide +kernel
theorem dL_flips_1 : decode cL_flips 1 = .ok (.iconst 0, 1) := by decide +kernel
theorem dL_flips_12 : decode cL_flips 12 = .ok (.astore_n 3, 1) := by decide +kernel
theorem dL_flips_13 : decode cL_flips 13 = .ok (.iconst 1, 1) := by decide +kernel
theorem dL_flips_14 : decode cL_flips 14 = .ok (.ireturn, 1) := by decide +kernel
theorem dL_flips_15 : decode cL_flips 15 = .ok (.iconst 0, 1) := by decide +kernel
theorem dL_flips_16 : decode cL_flips 16 = .ok (.ireturn, 1) := by decide +kernel
theorem dL_flips_2 : decode cL_flips 2 = .ok (.aload_n 0, 1) := by decide +kernel
theorem dL_flips_3 : decode cL_flips 3 = .ok (.iload_n 1, 1) := by decide +kernel
theorem dL_flips_4 : decode cL_flips 4 = .ok (.invokevirtual 64, 3) := by decide +kernel
theorem dL_flips_7 : decode cL_flips 7 = .ok (.i2l, 1) := by decide +kernel
theorem dL_flips_8 : decode cL_flips 8 = .ok (.lastore, 1) := by decide +kernel
theorem dL_flips_9 : decode cL_flips 9 = .ok (.goto 6, 3) := by decide +kernel
theorem dL_goats_0 : decode cL_goats 0 = .ok (.aload_n 3, 1) := by decide +kernel
theorem dL_goats_1 : decode cL_goats 1 = .ok (.iconst 0, 1) := by decide +kernel
theorem dL_goats_10 : decode cL_goats 10 = .ok (.goto 15, 3) := by decide +kernel
theorem dL_goats_13 : decode cL_goats 13 = .ok (.astore 4, 2) := by decide +kernel
theorem dL_goats_15 : decode cL_goats 15 = .ok (.iconst 1, 1) := by decide +kernel
theorem dL_goats_16 : decode cL_goats 16 = .ok (.ireturn, 1) := by decide +kernel
theorem dL_goats_17 : decode cL_goats 17 = .ok (.astore 4, 2) := by decide +kernel
theorem dL_goats_19 : decode cL_goats 19 = .ok (.iconst 2, 1) := by decide +kernel
theorem dL_goats_2 : decode cL_goats 2 = .ok (.aload_n 0, 1) := by decide +kernel
theorem dL_goats_20 : decode cL_goats 20 = .ok (.ireturn, 1) := by decide +kernel
theorem dL_goats_21 : decode cL_goats 21 = .ok (.astore 4, 2) := by decide +kernel
theorem dL_goats_23 : decode cL_goats 23 = .ok (.iconst 3, 1) := by decide +kernel
theorem dL_goats_24 : decode cL_goats 24 = .ok (.ireturn, 1) := by decide +kernel
theorem dL_goats_25 : decode cL_goats 25 = .ok (.iconst 0, 1) := by decide +kernel
theorem dL_goats_26 : decode cL_goats 26 = .ok (.ireturn, 1) := by decide +kernel
theorem dL_goats_3 : decode cL_goats 3 = .ok (.iload_n 1, 1) := by decide +kernel
theorem dL_goats_4 : decode cL_goats 4 = .ok (.iload_n 2, 1) := by decide +kernel
theorem dL_goats_5 : decode cL_goats 5 = .ok (.invokevirtual 76, 3) := by decide +kernel
theorem dL_goats_8 : decode cL_goats 8 = .ok (.i2l, 1) := by decide +kernel
theorem dL_goats_9 : decode cL_goats 9 = .ok (.lastore, 1) := by decide +kernel
theorem dL_image_0 : decode cL_image 0 = .ok (.aload_n 0, 1) := by decide +kernel
theorem dL_image_1 : decode cL_image 1 = .ok (.iload_n 1, 1) := by decide +kernel
theorem dL_image_10 : decode cL_image 10 = .ok (.ireturn, 1) := by decide +kernel
theorem dL_image_11 : decode cL_image 11 = .ok (.iconst 0, 1) := by decide +kernel
theorem dL_image_12 : decode cL_image 12 = .ok (.ireturn, 1) := by decide +kernel
theorem dL_image_2 : decode cL_image 2 = .ok (.invokevirtual 110, 3) := by decide +kernel
theorem dL_image_5 : decode cL_image 5 = .ok (.goto 6, 3) := by decide +kernel
theorem dL_image_8 : decode cL_image 8 = .ok (.astore_n 2, 1) := by decide +kernel
theorem dL_image_9 : decode cL_image 9 = .ok (.iconst 1, 1) := by decide +kernel
theorem dL_judge_0 : decode cL_judge 0 = .ok (.aload_n 3, 1) := by decide +kernel
theorem dL_judge_1 : decode cL_judge 1 = .ok (.iconst 0, 1) := by decide +kernel
theorem dL_judge_10 : decode cL_judge 10 = .ok (.goto 15, 3) := by decide +kernel
theorem dL_judge_13 : decode cL_judge 13 = .ok (.astore 4, 2) := by decide +kernel
theorem dL_judge_15 : decode cL_judge 15 = .ok (.iconst 1, 1) := by decide +kernel
theorem dL_judge_16 : decode cL_judge 16 = .ok (.ireturn, 1) := by decide +kernel
theorem dL_judge_17 : decode cL_judge 17 = .ok (.astore 4, 2) := by decide +kernel
theorem dL_judge_19 : decode cL_judge 19 = .ok (.iconst 2, 1) := by decide +kernel
theorem dL_judge_2 : decode cL_judge 2 = .ok (.aload_n 0, 1) := by decide +kernel
theorem dL_judge_20 : decode cL_judge 20 = .ok (.ireturn, 1) := by decide +kernel
theorem dL_judge_21 : decode cL_judge 21 = .ok (.astore 4, 2) := by decide +kernel
theorem dL_judge_23 : decode cL_judge 23 = .ok (.iconst 3, 1) := by decide +kernel
theorem dL_judge_24 : decode cL_judge 24 = .ok (.ireturn, 1) := by decide +kernel
theorem dL_judge_25 : decode cL_judge 25 = .ok (.iconst 0, 1) := by decide +kernel
theorem dL_judge_26 : decode cL_judge 26 = .ok (.ireturn, 1) := by decide +kernel
theorem dL_judge_3 : decode cL_judge 3 = .ok (.iload_n 1, 1) := by decide +kernel
theorem dL_judge_4 : decode cL_judge 4 = .ok (.iload_n 2, 1) := by decide +kernel
theorem dL_judge_5 : decode cL_judge 5 = .ok (.invokevirtual 40, 3) := by decide +kernel
theorem dL_judge_8 : decode cL_judge 8 = .ok (.i2l, 1) := by decide +kernel
theorem dL_judge_9 : decode cL_judge 9 = .ok (.lastore, 1) := by decide +kernel
theorem dL_mend_0 : decode cL_mend 0 = .ok (.aload_n 1, 1) := by decide +kernel
theorem dL_mend_1 : decode cL_mend 1 = .ok (.iconst 0, 1) := by decide +kernel
theorem dL_mend_11 : decode cL_mend 11 = .ok (.astore_n 2, 1) := by decide +kernel
theorem dL_mend_12 : decode cL_mend 12 = .ok (.iconst 1, 1) := by decide +kernel
theorem dL_mend_13 : decode cL_mend 13 = .ok (.ireturn, 1) := by decide +kernel
theorem dL_mend_14 : decode cL_mend 14 = .ok (.iconst 0, 1) := by decide +kernel
theorem dL_mend_15 : decode cL_mend 15 = .ok (.ireturn, 1) := by decide +kernel
theorem dL_mend_2 : decode cL_mend 2 = .ok (.aload_n 0, 1) := by decide +kernel
theorem dL_mend_3 : decode cL_mend 3 = .ok (.invokevirtual 60, 3) := by decide +kernel
theorem dL_mend_6 : decode cL_mend 6 = .ok (.i2l, 1) := by decide +kernel
theorem dL_mend_7 : decode cL_mend 7 = .ok (.lastore, 1) := by decide +kernel
theorem dL_mend_8 : decode cL_mend 8 = .ok (.goto 6, 3) := by decide +kernel
theorem dL_mending_0 : decode cL_mending 0 = .ok (.aload_n 2, 1) := by decide +kernel
theorem dL_mending_1 : decode cL_mending 1 = .ok (.iconst 0, 1) := by decide +kernel
theorem dL_mending_12 : decode cL_mending 12 = .ok (.astore_n 3, 1) := by decide +kernel
theorem dL_mending_13 : decode cL_mending 13 = .ok (.iconst 1, 1) := by decide +kernel
theorem dL_mending_14 : decode cL_mending 14 = .ok (.ireturn, 1) := by decide +kernel
theorem dL_mending_15 : decode cL_mending 15 = .ok (.iconst 0, 1) := by decide +kernel
theorem dL_mending_16 : decode cL_mending 16 = .ok (.ireturn, 1) := by decide +kernel
theorem dL_mending_2 : decode cL_mending 2 = .ok (.aload_n 0, 1) := by decide +kernel
theorem dL_mending_3 : decode cL_mending 3 = .ok (.iload_n 1, 1) := by decide +kernel
theorem dL_mending_4 : decode cL_mending 4 = .ok (.invokevirtual 57, 3) := by decide +kernel
theorem dL_mending_7 : decode cL_mending 7 = .ok (.i2l, 1) := by decide +kernel
theorem dL_mending_8 : decode cL_mending 8 = .ok (.lastore, 1) := by decide +kernel
theorem dL_mending_9 : decode cL_mending 9 = .ok (.goto 6, 3) := by decide +kernel
theorem dL_oddRing_0 : decode cL_oddRing 0 = .ok (.aload_n 2, 1) := by decide +kernel
theorem dL_oddRing_1 : decode cL_oddRing 1 = .ok (.iconst 0, 1) := by decide +kernel
theorem dL_oddRing_12 : decode cL_oddRing 12 = .ok (.astore_n 3, 1) := by decide +kernel
theorem dL_oddRing_13 : decode cL_oddRing 13 = .ok (.iconst 1, 1) := by decide +kernel
theorem dL_oddRing_14 : decode cL_oddRing 14 = .ok (.ireturn, 1) := by decide +kernel
theorem dL_oddRing_15 : decode cL_oddRing 15 = .ok (.iconst 0, 1) := by decide +kernel
theorem dL_oddRing_16 : decode cL_oddRing 16 = .ok (.ireturn, 1) := by decide +kernel
theorem dL_oddRing_2 : decode cL_oddRing 2 = .ok (.aload_n 0, 1) := by decide +kernel
theorem dL_oddRing_3 : decode cL_oddRing 3 = .ok (.iload_n 1, 1) := by decide +kernel
theorem dL_oddRing_4 : decode cL_oddRing 4 = .ok (.invokevirtual 51, 3) := by decide +kernel
theorem dL_oddRing_7 : decode cL_oddRing 7 = .ok (.i2l, 1) := by decide +kernel
theorem dL_oddRing_8 : decode cL_oddRing 8 = .ok (.lastore, 1) := by decide +kernel
theorem dL_oddRing_9 : decode cL_oddRing 9 = .ok (.goto 6, 3) := by decide +kernel
theorem dL_perform_0 : decode cL_perform 0 = .ok (.aload_n 2, 1) := by decide +kernel
theorem dL_perform_1 : decode cL_perform 1 = .ok (.iconst 0, 1) := by decide +kernel
theorem dL_perform_12 : decode cL_perform 12 = .ok (.astore_n 3, 1) := by decide +kernel
theorem dL_perform_13 : decode cL_perform 13 = .ok (.iconst 1, 1) := by decide +kernel
theorem dL_perform_14 : decode cL_perform 14 = .ok (.ireturn, 1) := by decide +kernel
theorem dL_perform_15 : decode cL_perform 15 = .ok (.astore_n 3, 1) := by decide +kernel
theorem dL_perform_16 : decode cL_perform 16 = .ok (.iconst 2, 1) := by decide +kernel
theorem dL_perform_17 : decode cL_perform 17 = .ok (.ireturn, 1) := by decide +kernel
theorem dL_perform_18 : decode cL_perform 18 = .ok (.iconst 0, 1) := by decide +kernel
theorem dL_perform_19 : decode cL_perform 19 = .ok (.ireturn, 1) := by decide +kernel
theorem dL_perform_2 : decode cL_perform 2 = .ok (.aload_n 0, 1) := by decide +kernel
theorem dL_perform_3 : decode cL_perform 3 = .ok (.iload_n 1, 1) := by decide +kernel
theorem dL_perform_4 : decode cL_perform 4 = .ok (.invokevirtual 45, 3) := by decide +kernel
theorem dL_perform_7 : decode cL_perform 7 = .ok (.i2l, 1) := by decide +kernel
theorem dL_perform_8 : decode cL_perform 8 = .ok (.lastore, 1) := by decide +kernel
theorem dL_perform_9 : decode cL_perform 9 = .ok (.goto 9, 3) := by decide +kernel
theorem dL_place_0 : decode cL_place 0 = .ok (.aload_n 3, 1) := by decide +kernel
theorem dL_place_1 : decode cL_place 1 = .ok (.iconst 0, 1) := by decide +kernel
theorem dL_place_10 : decode cL_place 10 = .ok (.goto 11, 3) := by decide +kernel
theorem dL_place_13 : decode cL_place 13 = .ok (.astore 4, 2) := by decide +kernel
theorem dL_place_15 : decode cL_place 15 = .ok (.iconst 1, 1) := by decide +kernel
theorem dL_place_16 : decode cL_place 16 = .ok (.ireturn, 1) := by decide +kernel
theorem dL_place_17 : decode cL_place 17 = .ok (.astore 4, 2) := by decide +kernel
theorem dL_place_19 : decode cL_place 19 = .ok (.iconst 2, 1) := by decide +kernel
theorem dL_place_2 : decode cL_place 2 = .ok (.aload_n 0, 1) := by decide +kernel
theorem dL_place_20 : decode cL_place 20 = .ok (.ireturn, 1) := by decide +kernel
theorem dL_place_21 : decode cL_place 21 = .ok (.iconst 0, 1) := by decide +kernel
theorem dL_place_22 : decode cL_place 22 = .ok (.ireturn, 1) := by decide +kernel
theorem dL_place_3 : decode cL_place 3 = .ok (.iload_n 1, 1) := by decide +kernel
theorem dL_place_4 : decode cL_place 4 = .ok (.iload_n 2, 1) := by decide +kernel
theorem dL_place_5 : decode cL_place 5 = .ok (.invokevirtual 21, 3) := by decide +kernel
theorem dL_place_8 : decode cL_place 8 = .ok (.i2l, 1) := by decide +kernel
theorem dL_place_9 : decode cL_place 9 = .ok (.lastore, 1) := by decide +kernel
theorem dL_placing_0 : decode cL_placing 0 = .ok (.aload_n 3, 1) := by decide +kernel
theorem dL_placing_1 : decode cL_placing 1 = .ok (.iconst 0, 1) := by decide +kernel
theorem dL_placing_10 : decode cL_placing 10 = .ok (.goto 11, 3) := by decide +kernel
theorem dL_placing_13 : decode cL_placing 13 = .ok (.astore 4, 2) := by decide +kernel
theorem dL_placing_15 : decode cL_placing 15 = .ok (.iconst 1, 1) := by decide +kernel
theorem dL_placing_16 : decode cL_placing 16 = .ok (.ireturn, 1) := by decide +kernel
theorem dL_placing_17 : decode cL_placing 17 = .ok (.astore 4, 2) := by decide +kernel
theorem dL_placing_19 : decode cL_placing 19 = .ok (.iconst 2, 1) := by decide +kernel
theorem dL_placing_2 : decode cL_placing 2 = .ok (.aload_n 0, 1) := by decide +kernel
theorem dL_placing_20 : decode cL_placing 20 = .ok (.ireturn, 1) := by decide +kernel
theorem dL_placing_21 : decode cL_placing 21 = .ok (.iconst 0, 1) := by decide +kernel
theorem dL_placing_22 : decode cL_placing 22 = .ok (.ireturn, 1) := by decide +kernel
theorem dL_placing_3 : decode cL_placing 3 = .ok (.iload_n 1, 1) := by decide +kernel
theorem dL_placing_4 : decode cL_placing 4 = .ok (.iload_n 2, 1) := by decide +kernel
theorem dL_placing_5 : decode cL_placing 5 = .ok (.invokevirtual 54, 3) := by decide +kernel
theorem dL_placing_8 : decode cL_placing 8 = .ok (.i2l, 1) := by decide +kernel
theorem dL_placing_9 : decode cL_placing 9 = .ok (.lastore, 1) := by decide +kernel
theorem dL_pleasure_0 : decode cL_pleasure 0 = .ok (.aload_n 3, 1) := by decide +kernel
theorem dL_pleasure_1 : decode cL_pleasure 1 = .ok (.iconst 0, 1) := by decide +kernel
theorem dL_pleasure_10 : decode cL_pleasure 10 = .ok (.goto 11, 3) := by decide +kernel
theorem dL_pleasure_13 : decode cL_pleasure 13 = .ok (.astore 4, 2) := by decide +kernel
theorem dL_pleasure_15 : decode cL_pleasure 15 = .ok (.iconst 1, 1) := by decide +kernel
theorem dL_pleasure_16 : decode cL_pleasure 16 = .ok (.ireturn, 1) := by decide +kernel
theorem dL_pleasure_17 : decode cL_pleasure 17 = .ok (.astore 4, 2) := by decide +kernel
theorem dL_pleasure_19 : decode cL_pleasure 19 = .ok (.iconst 2, 1) := by decide +kernel
theorem dL_pleasure_2 : decode cL_pleasure 2 = .ok (.aload_n 0, 1) := by decide +kernel
theorem dL_pleasure_20 : decode cL_pleasure 20 = .ok (.ireturn, 1) := by decide +kernel
theorem dL_pleasure_21 : decode cL_pleasure 21 = .ok (.iconst 0, 1) := by decide +kernel
theorem dL_pleasure_22 : decode cL_pleasure 22 = .ok (.ireturn, 1) := by decide +kernel
theorem dL_pleasure_3 : decode cL_pleasure 3 = .ok (.iload_n 1, 1) := by decide +kernel
theorem dL_pleasure_4 : decode cL_pleasure 4 = .ok (.iload_n 2, 1) := by decide +kernel
theorem dL_pleasure_5 : decode cL_pleasure 5 = .ok (.invokevirtual 88, 3) := by decide +kernel
theorem dL_pleasure_8 : decode cL_pleasure 8 = .ok (.i2l, 1) := by decide +kernel
theorem dL_pleasure_9 : decode cL_pleasure 9 = .ok (.lastore, 1) := by decide +kernel
theorem dL_pour_0 : decode cL_pour 0 = .ok (.aload_n 2, 1) := by decide +kernel
theorem dL_pour_1 : decode cL_pour 1 = .ok (.iconst 0, 1) := by decide +kernel
theorem dL_pour_12 : decode cL_pour 12 = .ok (.astore_n 3, 1) := by decide +kernel
theorem dL_pour_13 : decode cL_pour 13 = .ok (.iconst 1, 1) := by decide +kernel
theorem dL_pour_14 : decode cL_pour 14 = .ok (.ireturn, 1) := by decide +kernel
theorem dL_pour_15 : decode cL_pour 15 = .ok (.astore_n 3, 1) := by decide +kernel
theorem dL_pour_16 : decode cL_pour 16 = .ok (.iconst 2, 1) := by decide +kernel
theorem dL_pour_17 : decode cL_pour 17 = .ok (.ireturn, 1) := by decide +kernel
theorem dL_pour_18 : decode cL_pour 18 = .ok (.iconst 0, 1) := by decide +kernel
theorem dL_pour_19 : decode cL_pour 19 = .ok (.ireturn, 1) := by decide +kernel
theorem dL_pour_2 : decode cL_pour 2 = .ok (.aload_n 0, 1) := by decide +kernel
theorem dL_pour_3 : decode cL_pour 3 = .ok (.iload_n 1, 1) := by decide +kernel
theorem dL_pour_4 : decode cL_pour 4 = .ok (.invokevirtual 107, 3) := by decide +kernel
theorem dL_pour_7 : decode cL_pour 7 = .ok (.i2l, 1) := by decide +kernel
theorem dL_pour_8 : decode cL_pour 8 = .ok (.lastore, 1) := by decide +kernel
theorem dL_pour_9 : decode cL_pour 9 = .ok (.goto 9, 3) := by decide +kernel
theorem dL_restore_0 : decode cL_restore 0 = .ok (.aload_n 0, 1) := by decide +kernel
theorem dL_restore_1 : decode cL_restore 1 = .ok (.iload_n 1, 1) := by decide +kernel
theorem dL_restore_10 : decode cL_restore 10 = .ok (.ireturn, 1) := by decide +kernel
theorem dL_restore_11 : decode cL_restore 11 = .ok (.astore_n 2, 1) := by decide +kernel
theorem dL_restore_12 : decode cL_restore 12 = .ok (.iconst 2, 1) := by decide +kernel
theorem dL_restore_13 : decode cL_restore 13 = .ok (.ireturn, 1) := by decide +kernel
theorem dL_restore_14 : decode cL_restore 14 = .ok (.iconst 0, 1) := by decide +kernel
theorem dL_restore_15 : decode cL_restore 15 = .ok (.ireturn, 1) := by decide +kernel
theorem dL_restore_2 : decode cL_restore 2 = .ok (.invokevirtual 114, 3) := by decide +kernel
theorem dL_restore_5 : decode cL_restore 5 = .ok (.goto 9, 3) := by decide +kernel
theorem dL_restore_8 : decode cL_restore 8 = .ok (.astore_n 2, 1) := by decide +kernel
theorem dL_restore_9 : decode cL_restore 9 = .ok (.iconst 1, 1) := by decide +kernel
theorem dL_season_0 : decode cL_season 0 = .ok (.aload_n 3, 1) := by decide +kernel
theorem dL_season_1 : decode cL_season 1 = .ok (.iconst 0, 1) := by decide +kernel
theorem dL_season_10 : decode cL_season 10 = .ok (.goto 11, 3) := by decide +kernel
theorem dL_season_13 : decode cL_season 13 = .ok (.astore 4, 2) := by decide +kernel
theorem dL_season_15 : decode cL_season 15 = .ok (.iconst 1, 1) := by decide +kernel
theorem dL_season_16 : decode cL_season 16 = .ok (.ireturn, 1) := by decide +kernel
theorem dL_season_17 : decode cL_season 17 = .ok (.astore 4, 2) := by decide +kernel
theorem dL_season_19 : decode cL_season 19 = .ok (.iconst 2, 1) := by decide +kernel
theorem dL_season_2 : decode cL_season 2 = .ok (.aload_n 0, 1) := by decide +kernel
theorem dL_season_20 : decode cL_season 20 = .ok (.ireturn, 1) := by decide +kernel
theorem dL_season_21 : decode cL_season 21 = .ok (.iconst 0, 1) := by decide +kernel
theorem dL_season_22 : decode cL_season 22 = .ok (.ireturn, 1) := by decide +kernel
theorem dL_season_3 : decode cL_season 3 = .ok (.iload_n 1, 1) := by decide +kernel
theorem dL_season_4 : decode cL_season 4 = .ok (.iload_n 2, 1) := by decide +kernel
theorem dL_season_5 : decode cL_season 5 = .ok (.invokevirtual 48, 3) := by decide +kernel
theorem dL_season_8 : decode cL_season 8 = .ok (.i2l, 1) := by decide +kernel
theorem dL_season_9 : decode cL_season 9 = .ok (.lastore, 1) := by decide +kernel
theorem dL_seats_0 : decode cL_seats 0 = .ok (.aload 4, 2) := by decide +kernel
theorem dL_seats_10 : decode cL_seats 10 = .ok (.i2l, 1) := by decide +kernel
theorem dL_seats_11 : decode cL_seats 11 = .ok (.lastore, 1) := by decide +kernel
theorem dL_seats_12 : decode cL_seats 12 = .ok (.goto 15, 3) := by decide +kernel
theorem dL_seats_15 : decode cL_seats 15 = .ok (.astore 5, 2) := by decide +kernel
theorem dL_seats_17 : decode cL_seats 17 = .ok (.iconst 1, 1) := by decide +kernel
theorem dL_seats_18 : decode cL_seats 18 = .ok (.ireturn, 1) := by decide +kernel
theorem dL_seats_19 : decode cL_seats 19 = .ok (.astore 5, 2) := by decide +kernel
theorem dL_seats_2 : decode cL_seats 2 = .ok (.iconst 0, 1) := by decide +kernel
theorem dL_seats_21 : decode cL_seats 21 = .ok (.iconst 2, 1) := by decide +kernel
theorem dL_seats_22 : decode cL_seats 22 = .ok (.ireturn, 1) := by decide +kernel
theorem dL_seats_23 : decode cL_seats 23 = .ok (.astore 5, 2) := by decide +kernel
theorem dL_seats_25 : decode cL_seats 25 = .ok (.iconst 3, 1) := by decide +kernel
theorem dL_seats_26 : decode cL_seats 26 = .ok (.ireturn, 1) := by decide +kernel
theorem dL_seats_27 : decode cL_seats 27 = .ok (.iconst 0, 1) := by decide +kernel
theorem dL_seats_28 : decode cL_seats 28 = .ok (.ireturn, 1) := by decide +kernel
theorem dL_seats_3 : decode cL_seats 3 = .ok (.aload_n 0, 1) := by decide +kernel
theorem dL_seats_4 : decode cL_seats 4 = .ok (.iload_n 1, 1) := by decide +kernel
theorem dL_seats_5 : decode cL_seats 5 = .ok (.iload_n 2, 1) := by decide +kernel
theorem dL_seats_6 : decode cL_seats 6 = .ok (.iload_n 3, 1) := by decide +kernel
theorem dL_seats_7 : decode cL_seats 7 = .ok (.invokevirtual 84, 3) := by decide +kernel
theorem dL_seen_0 : decode cL_seen 0 = .ok (.aload_n 2, 1) := by decide +kernel
theorem dL_seen_1 : decode cL_seen 1 = .ok (.iconst 0, 1) := by decide +kernel
theorem dL_seen_12 : decode cL_seen 12 = .ok (.astore_n 3, 1) := by decide +kernel
theorem dL_seen_13 : decode cL_seen 13 = .ok (.iconst 1, 1) := by decide +kernel
theorem dL_seen_14 : decode cL_seen 14 = .ok (.ireturn, 1) := by decide +kernel
theorem dL_seen_15 : decode cL_seen 15 = .ok (.astore_n 3, 1) := by decide +kernel
theorem dL_seen_16 : decode cL_seen 16 = .ok (.iconst 2, 1) := by decide +kernel
theorem dL_seen_17 : decode cL_seen 17 = .ok (.ireturn, 1) := by decide +kernel
theorem dL_seen_18 : decode cL_seen 18 = .ok (.astore_n 3, 1) := by decide +kernel
theorem dL_seen_19 : decode cL_seen 19 = .ok (.iconst 3, 1) := by decide +kernel
theorem dL_seen_2 : decode cL_seen 2 = .ok (.aload_n 0, 1) := by decide +kernel
theorem dL_seen_20 : decode cL_seen 20 = .ok (.ireturn, 1) := by decide +kernel
theorem dL_seen_21 : decode cL_seen 21 = .ok (.iconst 0, 1) := by decide +kernel
theorem dL_seen_22 : decode cL_seen 22 = .ok (.ireturn, 1) := by decide +kernel
theorem dL_seen_3 : decode cL_seen 3 = .ok (.iload_n 1, 1) := by decide +kernel
theorem dL_seen_4 : decode cL_seen 4 = .ok (.invokevirtual 91, 3) := by decide +kernel
theorem dL_seen_7 : decode cL_seen 7 = .ok (.i2l, 1) := by decide +kernel
theorem dL_seen_8 : decode cL_seen 8 = .ok (.lastore, 1) := by decide +kernel
theorem dL_seen_9 : decode cL_seen 9 = .ok (.goto 12, 3) := by decide +kernel
theorem dL_steps_0 : decode cL_steps 0 = .ok (.aload_n 3, 1) := by decide +kernel
theorem dL_steps_1 : decode cL_steps 1 = .ok (.iconst 0, 1) := by decide +kernel
theorem dL_steps_10 : decode cL_steps 10 = .ok (.goto 7, 3) := by decide +kernel
theorem dL_steps_13 : decode cL_steps 13 = .ok (.astore 4, 2) := by decide +kernel
theorem dL_steps_15 : decode cL_steps 15 = .ok (.iconst 1, 1) := by decide +kernel
theorem dL_steps_16 : decode cL_steps 16 = .ok (.ireturn, 1) := by decide +kernel
theorem dL_steps_17 : decode cL_steps 17 = .ok (.iconst 0, 1) := by decide +kernel
theorem dL_steps_18 : decode cL_steps 18 = .ok (.ireturn, 1) := by decide +kernel
theorem dL_steps_2 : decode cL_steps 2 = .ok (.aload_n 0, 1) := by decide +kernel
theorem dL_steps_3 : decode cL_steps 3 = .ok (.iload_n 1, 1) := by decide +kernel
theorem dL_steps_4 : decode cL_steps 4 = .ok (.iload_n 2, 1) := by decide +kernel
theorem dL_steps_5 : decode cL_steps 5 = .ok (.invokevirtual 24, 3) := by decide +kernel
theorem dL_steps_8 : decode cL_steps 8 = .ok (.i2l, 1) := by decide +kernel
theorem dL_steps_9 : decode cL_steps 9 = .ok (.lastore, 1) := by decide +kernel
theorem dL_sure_0 : decode cL_sure 0 = .ok (.aload_n 3, 1) := by decide +kernel
theorem dL_sure_1 : decode cL_sure 1 = .ok (.iconst 0, 1) := by decide +kernel
theorem dL_sure_10 : decode cL_sure 10 = .ok (.goto 15, 3) := by decide +kernel
theorem dL_sure_13 : decode cL_sure 13 = .ok (.astore 4, 2) := by decide +kernel
theorem dL_sure_15 : decode cL_sure 15 = .ok (.iconst 1, 1) := by decide +kernel
theorem dL_sure_16 : decode cL_sure 16 = .ok (.ireturn, 1) := by decide +kernel
theorem dL_sure_17 : decode cL_sure 17 = .ok (.astore 4, 2) := by decide +kernel
theorem dL_sure_19 : decode cL_sure 19 = .ok (.iconst 2, 1) := by decide +kernel
theorem dL_sure_2 : decode cL_sure 2 = .ok (.aload_n 0, 1) := by decide +kernel
theorem dL_sure_20 : decode cL_sure 20 = .ok (.ireturn, 1) := by decide +kernel
theorem dL_sure_21 : decode cL_sure 21 = .ok (.astore 4, 2) := by decide +kernel
theorem dL_sure_23 : decode cL_sure 23 = .ok (.iconst 3, 1) := by decide +kernel
theorem dL_sure_24 : decode cL_sure 24 = .ok (.ireturn, 1) := by decide +kernel
theorem dL_sure_25 : decode cL_sure 25 = .ok (.iconst 0, 1) := by decide +kernel
theorem dL_sure_26 : decode cL_sure 26 = .ok (.ireturn, 1) := by decide +kernel
theorem dL_sure_3 : decode cL_sure 3 = .ok (.iload_n 1, 1) := by decide +kernel
theorem dL_sure_4 : decode cL_sure 4 = .ok (.iload_n 2, 1) := by decide +kernel
theorem dL_sure_5 : decode cL_sure 5 = .ok (.invokevirtual 94, 3) := by decide +kernel
theorem dL_sure_8 : decode cL_sure 8 = .ok (.i2l, 1) := by decide +kernel
theorem dL_sure_9 : decode cL_sure 9 = .ok (.lastore, 1) := by decide +kernel
theorem dL_thing_0 : decode cL_thing 0 = .ok (.aload_n 3, 1) := by decide +kernel
theorem dL_thing_1 : decode cL_thing 1 = .ok (.iconst 0, 1) := by decide +kernel
theorem dL_thing_10 : decode cL_thing 10 = .ok (.goto 11, 3) := by decide +kernel
theorem dL_thing_13 : decode cL_thing 13 = .ok (.astore 4, 2) := by decide +kernel
theorem dL_thing_15 : decode cL_thing 15 = .ok (.iconst 1, 1) := by decide +kernel
theorem dL_thing_16 : decode cL_thing 16 = .ok (.ireturn, 1) := by decide +kernel
theorem dL_thing_17 : decode cL_thing 17 = .ok (.astore 4, 2) := by decide +kernel
theorem dL_thing_19 : decode cL_thing 19 = .ok (.iconst 2, 1) := by decide +kernel
theorem dL_thing_2 : decode cL_thing 2 = .ok (.aload_n 0, 1) := by decide +kernel
theorem dL_thing_20 : decode cL_thing 20 = .ok (.ireturn, 1) := by decide +kernel
theorem dL_thing_21 : decode cL_thing 21 = .ok (.iconst 0, 1) := by decide +kernel
theorem dL_thing_22 : decode cL_thing 22 = .ok (.ireturn, 1) := by decide +kernel
theorem dL_thing_3 : decode cL_thing 3 = .ok (.iload_n 1, 1) := by decide +kernel
theorem dL_thing_4 : decode cL_thing 4 = .ok (.iload_n 2, 1) := by decide +kernel
theorem dL_thing_5 : decode cL_thing 5 = .ok (.invokevirtual 15, 3) := by decide +kernel
theorem dL_thing_8 : decode cL_thing 8 = .ok (.i2l, 1) := by decide +kernel
theorem dL_thing_9 : decode cL_thing 9 = .ok (.lastore, 1) := by decide +kernel
theorem dL_town_0 : decode cL_town 0 = .ok (.aload_n 2, 1) := by decide +kernel
theorem dL_town_1 : decode cL_town 1 = .ok (.iconst 0, 1) := by decide +kernel
theorem dL_town_12 : decode cL_town 12 = .ok (.astore_n 3, 1) := by decide +kernel
theorem dL_town_13 : decode cL_town 13 = .ok (.iconst 1, 1) := by decide +kernel
theorem dL_town_14 : decode cL_town 14 = .ok (.ireturn, 1) := by decide +kernel
theorem dL_town_15 : decode cL_town 15 = .ok (.iconst 0, 1) := by decide +kernel
theorem dL_town_16 : decode cL_town 16 = .ok (.ireturn, 1) := by decide +kernel
theorem dL_town_2 : decode cL_town 2 = .ok (.aload_n 0, 1) := by decide +kernel
theorem dL_town_3 : decode cL_town 3 = .ok (.iload_n 1, 1) := by decide +kernel
theorem dL_town_4 : decode cL_town 4 = .ok (.invokevirtual 7, 3) := by decide +kernel
theorem dL_town_7 : decode cL_town 7 = .ok (.i2l, 1) := by decide +kernel
theorem dL_town_8 : decode cL_town 8 = .ok (.lastore, 1) := by decide +kernel
theorem dL_town_9 : decode cL_town 9 = .ok (.goto 6, 3) := by decide +kernel
theorem dL_tray_0 : decode cL_tray 0 = .ok (.aload_n 0, 1) := by decide +kernel
theorem dL_tray_1 : decode cL_tray 1 = .ok (.iload_n 1, 1) := by decide +kernel
theorem dL_tray_10 : decode cL_tray 10 = .ok (.astore 4, 2) := by decide +kernel
theorem dL_tray_12 : decode cL_tray 12 = .ok (.iconst 1, 1) := by decide +kernel
theorem dL_tray_13 : decode cL_tray 13 = .ok (.ireturn, 1) := by decide +kernel
theorem dL_tray_14 : decode cL_tray 14 = .ok (.astore 4, 2) := by decide +kernel
theorem dL_tray_16 : decode cL_tray 16 = .ok (.iconst 2, 1) := by decide +kernel
theorem dL_tray_17 : decode cL_tray 17 = .ok (.ireturn, 1) := by decide +kernel
theorem dL_tray_18 : decode cL_tray 18 = .ok (.iconst 0, 1) := by decide +kernel
theorem dL_tray_19 : decode cL_tray 19 = .ok (.ireturn, 1) := by decide +kernel
theorem dL_tray_2 : decode cL_tray 2 = .ok (.iload_n 2, 1) := by decide +kernel
theorem dL_tray_3 : decode cL_tray 3 = .ok (.iload_n 3, 1) := by decide +kernel
theorem dL_tray_4 : decode cL_tray 4 = .ok (.invokevirtual 97, 3) := by decide +kernel
theorem dL_tray_7 : decode cL_tray 7 = .ok (.goto 11, 3) := by decide +kernel
theorem dL_undo_0 : decode cL_undo 0 = .ok (.aload_n 2, 1) := by decide +kernel
theorem dL_undo_1 : decode cL_undo 1 = .ok (.iconst 0, 1) := by decide +kernel
theorem dL_undo_12 : decode cL_undo 12 = .ok (.astore_n 3, 1) := by decide +kernel
theorem dL_undo_13 : decode cL_undo 13 = .ok (.iconst 1, 1) := by decide +kernel
theorem dL_undo_14 : decode cL_undo 14 = .ok (.ireturn, 1) := by decide +kernel
theorem dL_undo_15 : decode cL_undo 15 = .ok (.iconst 0, 1) := by decide +kernel
theorem dL_undo_16 : decode cL_undo 16 = .ok (.ireturn, 1) := by decide +kernel
theorem dL_undo_2 : decode cL_undo 2 = .ok (.aload_n 0, 1) := by decide +kernel
theorem dL_undo_3 : decode cL_undo 3 = .ok (.iload_n 1, 1) := by decide +kernel
theorem dL_undo_4 : decode cL_undo 4 = .ok (.invokevirtual 37, 3) := by decide +kernel
theorem dL_undo_7 : decode cL_undo 7 = .ok (.i2l, 1) := by decide +kernel
theorem dL_undo_8 : decode cL_undo 8 = .ok (.lastore, 1) := by decide +kernel
theorem dL_undo_9 : decode cL_undo 9 = .ok (.goto 6, 3) := by decide +kernel
theorem dL_wave_0 : decode cL_wave 0 = .ok (.aload_n 2, 1) := by decide +kernel
theorem dL_wave_1 : decode cL_wave 1 = .ok (.iconst 0, 1) := by decide +kernel
theorem dL_wave_12 : decode cL_wave 12 = .ok (.astore_n 3, 1) := by decide +kernel
theorem dL_wave_13 : decode cL_wave 13 = .ok (.iconst 1, 1) := by decide +kernel
theorem dL_wave_14 : decode cL_wave 14 = .ok (.ireturn, 1) := by decide +kernel
theorem dL_wave_15 : decode cL_wave 15 = .ok (.iconst 0, 1) := by decide +kernel
theorem dL_wave_16 : decode cL_wave 16 = .ok (.ireturn, 1) := by decide +kernel
theorem dL_wave_2 : decode cL_wave 2 = .ok (.aload_n 0, 1) := by decide +kernel
theorem dL_wave_3 : decode cL_wave 3 = .ok (.iload_n 1, 1) := by decide +kernel
theorem dL_wave_4 : decode cL_wave 4 = .ok (.invokevirtual 67, 3) := by decide +kernel
theorem dL_wave_7 : decode cL_wave 7 = .ok (.i2l, 1) := by decide +kernel
theorem dL_wave_8 : decode cL_wave 8 = .ok (.lastore, 1) := by decide +kernel
theorem dL_wave_9 : decode cL_wave 9 = .ok (.goto 6, 3) := by decide +kernel
theorem dL_write_0 : decode cL_write 0 = .ok (.aload 5, 2) := by decide +kernel
theorem dL_write_10 : decode cL_write 10 = .ok (.lastore, 1) := by decide +kernel
theorem dL_write_11 : decode cL_write 11 = .ok (.goto 15, 3) := by decide +kernel
theorem dL_write_14 : decode cL_write 14 = .ok (.astore 6, 2) := by decide +kernel
theorem dL_write_16 : decode cL_write 16 = .ok (.iconst 1, 1) := by decide +kernel
theorem dL_write_17 : decode cL_write 17 = .ok (.ireturn, 1) := by decide +kernel
theorem dL_write_18 : decode cL_write 18 = .ok (.astore 6, 2) := by decide +kernel
theorem dL_write_2 : decode cL_write 2 = .ok (.iconst 0, 1) := by decide +kernel
theorem dL_write_20 : decode cL_write 20 = .ok (.iconst 2, 1) := by decide +kernel
theorem dL_write_21 : decode cL_write 21 = .ok (.ireturn, 1) := by decide +kernel
theorem dL_write_22 : decode cL_write 22 = .ok (.astore 6, 2) := by decide +kernel
theorem dL_write_24 : decode cL_write 24 = .ok (.iconst 3, 1) := by decide +kernel
theorem dL_write_25 : decode cL_write 25 = .ok (.ireturn, 1) := by decide +kernel
theorem dL_write_26 : decode cL_write 26 = .ok (.iconst 0, 1) := by decide +kernel
theorem dL_write_27 : decode cL_write 27 = .ok (.ireturn, 1) := by decide +kernel
theorem dL_write_3 : decode cL_write 3 = .ok (.aload_n 0, 1) := by decide +kernel
theorem dL_write_4 : decode cL_write 4 = .ok (.iload_n 1, 1) := by decide +kernel
theorem dL_write_5 : decode cL_write 5 = .ok (.iload_n 2, 1) := by decide +kernel
theorem dL_write_6 : decode cL_write 6 = .ok (.lload_n 3, 1) := by decide +kernel
theorem dL_write_7 : decode cL_write 7 = .ok (.invokevirtual 101, 3) := by decide +kernel
set_option maxRecDepth 4000 in
theorem k_L_town (l : Launch) (hlT : l.stackTraces = false) (M : Mem) (hJ : Iw M) (x1 : Int) (hx1a : (-2147483648) ≤ x1) (hx1b : x1 ≤ 2147483647) : CIW l yL_town cL_town 4 (some .int) [(0, 9, 12, 13)] 77 1 (fun ad => [.ref (ad 0), ii x1, .ref (ad 151)]) M (fun z M' => Fr [0, 2, 3, 4, 5, 6, 7, 8, 9, 10, 11, 12, 13, 14, 15, 16, 17, 18, 19, 20, 21, 22, 23, 24, 25, 26, 27, 28, 29, 30, 31, 32, 35, 36, 37, 38, 39, 40, 151, 200] M M' ∧ (z = 0 ∧ 0 ≤ x1 ∧ x1 ≤ M 0 1 ∧ M' 0 1 = 0 ∧ TwG (townF (UTC M x1) x1) M M' ∨ z = 1 ∧ (x1 < 0 ∨ M 0 1 < x1) ∧ M' = M)) := by
  obtain ⟨hI, hW⟩ := hJ
  have hF : Fr [0, 2, 3, 4, 5, 6, 7, 8, 9, 10, 11, 12, 13, 14, 15, 16, 17, 18, 19, 20, 21, 22, 23, 24, 25, 26, 27, 28, 29, 30, 31, 32, 35, 36, 37, 38, 39, 40, 151, 200] M M := Fr.rf
  refine enh_i (by decide +kernel) (fun ad => by exact Nat.le_of_ble_eq_true rfl) (fun D cy ad A p e s m args below meth c Q F hex hret => ?_)
  refine z_eq (ls' := [(0, .ref (ad 0)), (1, ii x1), (2, .ref (ad 151))]) rfl rfl rfl ?_
  refine z_aload_n F dL_town_0 rfl (q := 2) rfl ?_
  refine z_iconst F dL_town_1 ?_
  refine z_aload_n F dL_town_2 rfl (q := 0) rfl ?_
  refine z_iload_n F dL_town_3 rfl (q := 1) rfl ?_
  refine zy_i (rest := [ii 0, .ref (ad 151)]) F (k_X11_town l hlT M ⟨hI, hW⟩ x1 (by omega) (by omega)) cs_L_7 (T := TX11) (N := 14) (ci := 11) rfl gs_0 (by decide) (by decide) ⟨by decide, by decide⟩ rfl rfl rfl (Nat.le_of_ble_eq_true rfl) dL_town_4 (fun E M29 hI hx => ?_) (fun v1 M2 rv1 hI p3 => ?_)
  · obtain ⟨hI, hW⟩ := hI
    obtain ⟨rfl, g9, f9⟩ := hx
    refine z_catch F hex [] ⟨0, 9, 12, 13⟩ [] rfl (fun z hz => absurd hz List.not_mem_nil) (by decide) (by decide) (by decide) (by decide) (fun q9 => ?_)
    have hF := hF.call f9 (by decide)
    refine z_astore_n F dL_town_12 rfl (by decide) (ls' := [(3, .ref q9), (0, .ref (ad 0)), (1, ii x1), (2, .ref (ad 151))]) rfl ?_
    refine z_iconst F dL_town_13 ?_
    exact hret _ _ 14 _ _ _ (by omega) ⟨hI, hW⟩ ⟨hF, Or.inr ⟨by omega, g9.1, g9.2⟩⟩ ⟨by decide, by decide⟩ dL_town_14
  · obtain ⟨hI, hW⟩ := hI
    obtain ⟨⟨av1, bv1⟩, fp3, xp3, yp3⟩ := p3
    have hF := hF.call fp3 (by decide)
    refine z_i2l F dL_town_7 (by omega) ?_
    refine z_last F hI gs_151 (by omega) (by omega) (by decide) bd_151 dL_town_8 (by omega) (by omega) (fun M5 hI sf4 f4 => ?_)
    have tM5_0_1 : M5 0 1 = M2 0 1 := f4 0 1 (fun q => absurd q.1 (by decide))
    have hF := hF.wr f4 (by decide) (by decide)
    have hW : WFk M5 := hW.site f4 (by decide)
    refine z_goto (tgt := 15) F dL_town_9 (by decide +kernel) ?_
    refine z_iconst F dL_town_15 ?_
    exact hret _ _ 16 _ _ _ (by omega) ⟨hI, hW⟩ ⟨hF, Or.inl ⟨by omega, by omega, by omega, by omega, tg_w (by have h9 := (p10 hI).1; rw [show M5 2 1 = M2 2 1 from f4 2 1 (fun q => absurd q.1 (by decide))] at h9; exact h9) yp3.2.2.2 (cp_ws f4 (by decide) (by decide) (by decide) (by decide) (by decide) (by decide))⟩⟩ ⟨by decide, by decide⟩ dL_town_16
set_option maxRecDepth 4000 in
theorem k_L_thing (l : Launch) (hlT : l.stackTraces = false) (M : Mem) (hJ : Iw M) (x1 : Int) (hx1a : (-2147483648) ≤ x1) (hx1b : x1 ≤ 2147483647) (x2 : Int) (hx2a : (-2147483648) ≤ x2) (hx2b : x2 ≤ 2147483647) : CIW l yL_thing cL_thing 5 (some .int) [(0, 10, 13, 19), (0, 10, 17, 13)] 4 2 (fun ad => [.ref (ad 0), ii x1, ii x2, .ref (ad 151)]) M (fun z M' => Fr [151] M M' ∧ (True)) := by
  obtain ⟨hI, hW⟩ := hJ
  have hF : Fr [151] M M := Fr.rf
  refine enh_i (by decide +kernel) (fun ad => by exact Nat.le_of_ble_eq_true rfl) (fun D cy ad A p e s m args below meth c Q F hex hret => ?_)
  refine z_eq (ls' := [(0, .ref (ad 0)), (1, ii x1), (2, ii x2), (3, .ref (ad 151))]) rfl rfl rfl ?_
  refine z_aload_n F dL_thing_0 rfl (q := 3) rfl ?_
  refine z_iconst F dL_thing_1 ?_
  refine z_aload_n F dL_thing_2 rfl (q := 0) rfl ?_
  refine z_iload_n F dL_thing_3 rfl (q := 1) rfl ?_
  refine z_iload_n F dL_thing_4 rfl (q := 2) rfl ?_
  refine zy_i (rest := [ii 0, .ref (ad 151)]) F (k_X11_thing l hlT M ⟨hI, hW⟩ x1 (by omega) (by omega) x2 (by omega) (by omega)) cs_L_15 (T := TX11) (N := 14) (ci := 11) rfl gs_0 (by decide) (by decide) ⟨by decide, by decide⟩ rfl rfl rfl (Nat.le_of_ble_eq_true rfl) dL_thing_5 (fun E M29 hI hx => ?_) (fun v1 M2 rv1 hI p3 => ?_)
  · obtain ⟨hI, hW⟩ := hI
    rcases hx with ⟨rfl, g9, rfl⟩ | ⟨rfl, g9, rfl⟩
    · refine z_catch F hex [⟨0, 10, 13, 19⟩] ⟨0, 10, 17, 13⟩ [] rfl (fun z hz => by rcases List.mem_cons.mp hz with rfl | hz; exact ⟨by decide, "java/util/NoSuchElementException", by decide, by decide, by decide⟩; exact absurd hz List.not_mem_nil) (by decide) (by decide) (by decide) (by decide) (fun q9 => ?_)
      refine z_astore F dL_thing_17 (by decide) (ls' := [(4, .ref q9), (0, .ref (ad 0)), (1, ii x1), (2, ii x2), (3, .ref (ad 151))]) rfl ?_
      refine z_iconst F dL_thing_19 ?_
      exact hret _ _ 20 _ _ _ (by omega) ⟨hI, hW⟩ ⟨hF, trivial⟩ ⟨by decide, by decide⟩ dL_thing_20
    · refine z_catch F hex [] ⟨0, 10, 13, 19⟩ [⟨0, 10, 17, 13⟩] rfl (fun z hz => absurd hz List.not_mem_nil) (by decide) (by decide) (by decide) (by decide) (fun q9 => ?_)
      refine z_astore F dL_thing_13 (by decide) (ls' := [(4, .ref q9), (0, .ref (ad 0)), (1, ii x1), (2, ii x2), (3, .ref (ad 151))]) rfl ?_
      refine z_iconst F dL_thing_15 ?_
      exact hret _ _ 16 _ _ _ (by omega) ⟨hI, hW⟩ ⟨hF, trivial⟩ ⟨by decide, by decide⟩ dL_thing_16
  · obtain ⟨hI, hW⟩ := hI
    obtain ⟨⟨av1, bv1⟩, rfl⟩ := p3
    refine z_i2l F dL_thing_8 (by omega) ?_
    refine z_last F hI gs_151 (by omega) (by omega) (by decide) bd_151 dL_thing_9 (by omega) (by omega) (fun M5 hI sf4 f4 => ?_)
    have hF := hF.wr f4 (by decide) (by decide)
    have hW : WFk M5 := hW.site f4 (by decide)
    refine z_goto (tgt := 21) F dL_thing_10 (by decide +kernel) ?_
    refine z_iconst F dL_thing_21 ?_
    exact hret _ _ 22 _ _ _ (by omega) ⟨hI, hW⟩ ⟨hF, trivial⟩ ⟨by decide, by decide⟩ dL_thing_22
set_option maxRecDepth 4000 in
theorem k_L_place (l : Launch) (hlT : l.stackTraces = false) (M : Mem) (hJ : Iw M) (x1 : Int) (hx1a : (-2147483648) ≤ x1) (hx1b : x1 ≤ 2147483647) (x2 : Int) (hx2a : (-2147483648) ≤ x2) (hx2b : x2 ≤ 2147483647) : CIW l yL_place cL_place 5 (some .int) [(0, 10, 13, 19), (0, 10, 17, 13)] 4 2 (fun ad => [.ref (ad 0), ii x1, ii x2, .ref (ad 151)]) M (fun z M' => Fr [151] M M' ∧ (True)) := by
  obtain ⟨hI, hW⟩ := hJ
  have hF : Fr [151] M M := Fr.rf
  refine enh_i (by decide +kernel) (fun ad => by exact Nat.le_of_ble_eq_true rfl) (fun D cy ad A p e s m args below meth c Q F hex hret => ?_)
  refine z_eq (ls' := [(0, .ref (ad 0)), (1, ii x1), (2, ii x2), (3, .ref (ad 151))]) rfl rfl rfl ?_
  refine z_aload_n F dL_place_0 rfl (q := 3) rfl ?_
  refine z_iconst F dL_place_1 ?_
  refine z_aload_n F dL_place_2 rfl (q := 0) rfl ?_
  refine z_iload_n F dL_place_3 rfl (q := 1) rfl ?_
  refine z_iload_n F dL_place_4 rfl (q := 2) rfl ?_
  refine zy_i (rest := [ii 0, .ref (ad 151)]) F (k_X11_place l hlT M ⟨hI, hW⟩ x1 (by omega) (by omega) x2 (by omega) (by omega)) cs_L_21 (T := TX11) (N := 14) (ci := 11) rfl gs_0 (by decide) (by decide) ⟨by decide, by decide⟩ rfl rfl rfl (Nat.le_of_ble_eq_true rfl) dL_place_5 (fun E M29 hI hx => ?_) (fun v1 M2 rv1 hI p3 => ?_)
  · obtain ⟨hI, hW⟩ := hI
    rcases hx with ⟨rfl, g9, rfl⟩ | ⟨rfl, g9, rfl⟩
    · refine z_catch F hex [⟨0, 10, 13, 19⟩] ⟨0, 10, 17, 13⟩ [] rfl (fun z hz => by rcases List.mem_cons.mp hz with rfl | hz; exact ⟨by decide, "java/util/NoSuchElementException", by decide, by decide, by decide⟩; exact absurd hz List.not_mem_nil) (by decide) (by decide) (by decide) (by decide) (fun q9 => ?_)
      refine z_astore F dL_place_17 (by decide) (ls' := [(4, .ref q9), (0, .ref (ad 0)), (1, ii x1), (2, ii x2), (3, .ref (ad 151))]) rfl ?_
      refine z_iconst F dL_place_19 ?_
      exact hret _ _ 20 _ _ _ (by omega) ⟨hI, hW⟩ ⟨hF, trivial⟩ ⟨by decide, by decide⟩ dL_place_20
    · refine z_catch F hex [] ⟨0, 10, 13, 19⟩ [⟨0, 10, 17, 13⟩] rfl (fun z hz => absurd hz List.not_mem_nil) (by decide) (by decide) (by decide) (by decide) (fun q9 => ?_)
      refine z_astore F dL_place_13 (by decide) (ls' := [(4, .ref q9), (0, .ref (ad 0)), (1, ii x1), (2, ii x2), (3, .ref (ad 151))]) rfl ?_
      refine z_iconst F dL_place_15 ?_
      exact hret _ _ 16 _ _ _ (by omega) ⟨hI, hW⟩ ⟨hF, trivial⟩ ⟨by decide, by decide⟩ dL_place_16
  · obtain ⟨hI, hW⟩ := hI
    obtain ⟨⟨av1, bv1⟩, rfl⟩ := p3
    refine z_i2l F dL_place_8 (by omega) ?_
    refine z_last F hI gs_151 (by omega) (by omega) (by decide) bd_151 dL_place_9 (by omega) (by omega) (fun M5 hI sf4 f4 => ?_)
    have hF := hF.wr f4 (by decide) (by decide)
    have hW : WFk M5 := hW.site f4 (by decide)
    refine z_goto (tgt := 21) F dL_place_10 (by decide +kernel) ?_
    refine z_iconst F dL_place_21 ?_
    exact hret _ _ 22 _ _ _ (by omega) ⟨hI, hW⟩ ⟨hF, trivial⟩ ⟨by decide, by decide⟩ dL_place_22
set_option maxRecDepth 4000 in
theorem k_L_steps (l : Launch) (hlT : l.stackTraces = false) (M : Mem) (hJ : Iw M) (x1 : Int) (hx1a : (-2147483648) ≤ x1) (hx1b : x1 ≤ 2147483647) (x2 : Int) (hx2a : (-2147483648) ≤ x2) (hx2b : x2 ≤ 2147483647) : CIW l yL_steps cL_steps 5 (some .int) [(0, 10, 13, 19)] 4 2 (fun ad => [.ref (ad 0), ii x1, ii x2, .ref (ad 151)]) M (fun z M' => Fr [151] M M' ∧ (True)) := by
  obtain ⟨hI, hW⟩ := hJ
  have hF : Fr [151] M M := Fr.rf
  refine enh_i (by decide +kernel) (fun ad => by exact Nat.le_of_ble_eq_true rfl) (fun D cy ad A p e s m args below meth c Q F hex hret => ?_)
  refine z_eq (ls' := [(0, .ref (ad 0)), (1, ii x1), (2, ii x2), (3, .ref (ad 151))]) rfl rfl rfl ?_
  refine z_aload_n F dL_steps_0 rfl (q := 3) rfl ?_
  refine z_iconst F dL_steps_1 ?_
  refine z_aload_n F dL_steps_2 rfl (q := 0) rfl ?_
  refine z_iload_n F dL_steps_3 rfl (q := 1) rfl ?_
  refine z_iload_n F dL_steps_4 rfl (q := 2) rfl ?_
  refine zy_i (rest := [ii 0, .ref (ad 151)]) F (k_X11_steps l hlT M ⟨hI, hW⟩ x1 (by omega) (by omega) x2 (by omega) (by omega)) cs_L_24 (T := TX11) (N := 14) (ci := 11) rfl gs_0 (by decide) (by decide) ⟨by decide, by decide⟩ rfl rfl rfl (Nat.le_of_ble_eq_true rfl) dL_steps_5 (fun E M29 hI hx => ?_) (fun v1 M2 rv1 hI p3 => ?_)
  · obtain ⟨hI, hW⟩ := hI
    obtain ⟨rfl, g9, rfl⟩ := hx
    refine z_catch F hex [] ⟨0, 10, 13, 19⟩ [] rfl (fun z hz => absurd hz List.not_mem_nil) (by decide) (by decide) (by decide) (by decide) (fun q9 => ?_)
    refine z_astore F dL_steps_13 (by decide) (ls' := [(4, .ref q9), (0, .ref (ad 0)), (1, ii x1), (2, ii x2), (3, .ref (ad 151))]) rfl ?_
    refine z_iconst F dL_steps_15 ?_
    exact hret _ _ 16 _ _ _ (by omega) ⟨hI, hW⟩ ⟨hF, trivial⟩ ⟨by decide, by decide⟩ dL_steps_16
  · obtain ⟨hI, hW⟩ := hI
    obtain ⟨⟨av1, bv1⟩, rfl⟩ := p3
    refine z_i2l F dL_steps_8 (by omega) ?_
    refine z_last F hI gs_151 (by omega) (by omega) (by decide) bd_151 dL_steps_9 (by omega) (by omega) (fun M5 hI sf4 f4 => ?_)
    have hF := hF.wr f4 (by decide) (by decide)
    have hW : WFk M5 := hW.site f4 (by decide)
    refine z_goto (tgt := 17) F dL_steps_10 (by decide +kernel) ?_
    refine z_iconst F dL_steps_17 ?_
    exact hret _ _ 18 _ _ _ (by omega) ⟨hI, hW⟩ ⟨hF, trivial⟩ ⟨by decide, by decide⟩ dL_steps_18
set_option maxRecDepth 4000 in
theorem k_L_clash (l : Launch) (hlT : l.stackTraces = false) (M : Mem) (hJ : Iw M) (x1 : Int) (hx1a : (-2147483648) ≤ x1) (hx1b : x1 ≤ 2147483647) (x2 : Int) (hx2a : (-2147483648) ≤ x2) (hx2b : x2 ≤ 2147483647) (x3 : Int) (hx3a : 0 ≤ x3) (hx3b : x3 ≤ 1) : CIW l yL_clash cL_clash 6 (some .int) [(0, 19, 22, 19), (0, 19, 26, 13)] 4 3 (fun ad => [.ref (ad 0), ii x1, ii x2, ii x3, .ref (ad 151)]) M (fun z M' => Fr [151] M M' ∧ (True)) := by
  obtain ⟨hI, hW⟩ := hJ
  have hF : Fr [151] M M := Fr.rf
  refine enh_i (by decide +kernel) (fun ad => by exact Nat.le_of_ble_eq_true rfl) (fun D cy ad A p e s m args below meth c Q F hex hret => ?_)
  refine z_eq (ls' := [(0, .ref (ad 0)), (1, ii x1), (2, ii x2), (3, ii x3), (4, .ref (ad 151))]) rfl rfl rfl ?_
  refine z_aload F dL_clash_0 (q := 4) rfl ?_
  refine z_iconst F dL_clash_2 ?_
  refine z_aload_n F dL_clash_3 rfl (q := 0) rfl ?_
  refine z_iload_n F dL_clash_4 rfl (q := 1) rfl ?_
  refine z_iload_n F dL_clash_5 rfl (q := 2) rfl ?_
  refine z_iload_n F dL_clash_6 rfl (q := 3) rfl ?_
  refine zy_i (rest := [ii 0, .ref (ad 151)]) F (k_X11_clash l hlT M ⟨hI, hW⟩ x1 (by omega) (by omega) x2 (by omega) (by omega) x3 (by omega) (by omega)) cs_L_27 (T := TX11) (N := 14) (ci := 11) rfl gs_0 (by decide) (by decide) ⟨by decide, by decide⟩ rfl rfl rfl (Nat.le_of_ble_eq_true rfl) dL_clash_7 (fun E M29 hI hx => ?_) (fun v1 M2 rv1 hI p3 => ?_)
  · obtain ⟨hI, hW⟩ := hI
    rcases hx with ⟨rfl, g9, rfl⟩ | ⟨rfl, g9, rfl⟩
    · refine z_catch F hex [⟨0, 19, 22, 19⟩] ⟨0, 19, 26, 13⟩ [] rfl (fun z hz => by rcases List.mem_cons.mp hz with rfl | hz; exact ⟨by decide, "java/util/NoSuchElementException", by decide, by decide, by decide⟩; exact absurd hz List.not_mem_nil) (by decide) (by decide) (by decide) (by decide) (fun q9 => ?_)
      refine z_astore F dL_clash_26 (by decide) (ls' := [(5, .ref q9), (0, .ref (ad 0)), (1, ii x1), (2, ii x2), (3, ii x3), (4, .ref (ad 151))]) rfl ?_
      refine z_iconst F dL_clash_28 ?_
      exact hret _ _ 29 _ _ _ (by omega) ⟨hI, hW⟩ ⟨hF, trivial⟩ ⟨by decide, by decide⟩ dL_clash_29
    · refine z_catch F hex [] ⟨0, 19, 22, 19⟩ [⟨0, 19, 26, 13⟩] rfl (fun z hz => absurd hz List.not_mem_nil) (by decide) (by decide) (by decide) (by decide) (fun q9 => ?_)
      refine z_astore F dL_clash_22 (by decide) (ls' := [(5, .ref q9), (0, .ref (ad 0)), (1, ii x1), (2, ii x2), (3, ii x3), (4, .ref (ad 151))]) rfl ?_
      refine z_iconst F dL_clash_24 ?_
      exact hret _ _ 25 _ _ _ (by omega) ⟨hI, hW⟩ ⟨hF, trivial⟩ ⟨by decide, by decide⟩ dL_clash_25
  · obtain ⟨hI, hW⟩ := hI
    obtain ⟨⟨av1, bv1⟩, rfl⟩ := p3
    refine z_if_eq (tgt := 17) F dL_clash_10 (by decide +kernel) (by omega) (fun c4 => ?_) (fun c4 => ?_)
    · refine z_lconst (x := 0) F dL_clash_17 (by decide +kernel) ?_
      refine z_last F hI gs_151 (by omega) (by omega) (by decide) bd_151 dL_clash_18 (by omega) (by omega) (fun M6 hI sf5 f5 => ?_)
      have hF := hF.wr f5 (by decide) (by decide)
      have hW : WFk M6 := hW.site f5 (by decide)
      refine z_goto (tgt := 30) F dL_clash_19 (by decide +kernel) ?_
      refine z_iconst F dL_clash_30 ?_
      exact hret _ _ 31 _ _ _ (by omega) ⟨hI, hW⟩ ⟨hF, trivial⟩ ⟨by decide, by decide⟩ dL_clash_31
    · refine z_lconst (x := 1) F dL_clash_13 (by decide +kernel) ?_
      refine z_goto (tgt := 18) F dL_clash_14 (by decide +kernel) ?_
      refine z_last F hI gs_151 (by omega) (by omega) (by decide) bd_151 dL_clash_18 (by omega) (by omega) (fun M8 hI sf7 f7 => ?_)
      have hF := hF.wr f7 (by decide) (by decide)
      have hW : WFk M8 := hW.site f7 (by decide)
      refine z_goto (tgt := 30) F dL_clash_19 (by decide +kernel) ?_
      refine z_iconst F dL_clash_30 ?_
      exact hret _ _ 31 _ _ _ (by omega) ⟨hI, hW⟩ ⟨hF, trivial⟩ ⟨by decide, by decide⟩ dL_clash_31
set_option maxRecDepth 4000 in
theorem k_L_change (l : Launch) (hlT : l.stackTraces = false) (M : Mem) (hJ : Iw M) (x1 : Int) (hx1a : (-2147483648) ≤ x1) (hx1b : x1 ≤ 2147483647) (x2 : Int) (hx2a : (-2147483648) ≤ x2) (hx2b : x2 ≤ 2147483647) : CIW l yL_change cL_change 5 (some .int) [(0, 10, 13, 19), (0, 10, 17, 13)] 7 2 (fun ad => [.ref (ad 0), ii x1, ii x2, .ref (ad 151)]) M (fun z M' => Fr [16, 17, 37, 38, 39, 40, 41, 151] M M' ∧ (True)) := by
  obtain ⟨hI, hW⟩ := hJ
  have hF : Fr [16, 17, 37, 38, 39, 40, 41, 151] M M := Fr.rf
  refine enh_i (by decide +kernel) (fun ad => by exact Nat.le_of_ble_eq_true rfl) (fun D cy ad A p e s m args below meth c Q F hex hret => ?_)
  refine z_eq (ls' := [(0, .ref (ad 0)), (1, ii x1), (2, ii x2), (3, .ref (ad 151))]) rfl rfl rfl ?_
  refine z_aload_n F dL_change_0 rfl (q := 3) rfl ?_
  refine z_iconst F dL_change_1 ?_
  refine z_aload_n F dL_change_2 rfl (q := 0) rfl ?_
  refine z_iload_n F dL_change_3 rfl (q := 1) rfl ?_
  refine z_iload_n F dL_change_4 rfl (q := 2) rfl ?_
  refine zy_i (rest := [ii 0, .ref (ad 151)]) F (k_X11_change l hlT M ⟨hI, hW⟩ x1 (by omega) (by omega) x2 (by omega) (by omega)) cs_L_31 (T := TX11) (N := 14) (ci := 11) rfl gs_0 (by decide) (by decide) ⟨by decide, by decide⟩ rfl rfl rfl (Nat.le_of_ble_eq_true rfl) dL_change_5 (fun E M29 hI hx => ?_) (fun v1 M2 rv1 hI p3 => ?_)
  · obtain ⟨hI, hW⟩ := hI
    rcases hx with ⟨rfl, g9, f9⟩ | ⟨rfl, g9, f9⟩
    · refine z_catch F hex [⟨0, 10, 13, 19⟩] ⟨0, 10, 17, 13⟩ [] rfl (fun z hz => by rcases List.mem_cons.mp hz with rfl | hz; exact ⟨by decide, "java/util/NoSuchElementException", by decide, by decide, by decide⟩; exact absurd hz List.not_mem_nil) (by decide) (by decide) (by decide) (by decide) (fun q9 => ?_)
      have hF := hF.call f9 (by decide)
      refine z_astore F dL_change_17 (by decide) (ls' := [(4, .ref q9), (0, .ref (ad 0)), (1, ii x1), (2, ii x2), (3, .ref (ad 151))]) rfl ?_
      refine z_iconst F dL_change_19 ?_
      exact hret _ _ 20 _ _ _ (by omega) ⟨hI, hW⟩ ⟨hF, trivial⟩ ⟨by decide, by decide⟩ dL_change_20
    · refine z_catch F hex [] ⟨0, 10, 13, 19⟩ [⟨0, 10, 17, 13⟩] rfl (fun z hz => absurd hz List.not_mem_nil) (by decide) (by decide) (by decide) (by decide) (fun q9 => ?_)
      have hF := hF.call f9 (by decide)
      refine z_astore F dL_change_13 (by decide) (ls' := [(4, .ref q9), (0, .ref (ad 0)), (1, ii x1), (2, ii x2), (3, .ref (ad 151))]) rfl ?_
      refine z_iconst F dL_change_15 ?_
      exact hret _ _ 16 _ _ _ (by omega) ⟨hI, hW⟩ ⟨hF, trivial⟩ ⟨by decide, by decide⟩ dL_change_16
  · obtain ⟨hI, hW⟩ := hI
    obtain ⟨⟨av1, bv1⟩, fp3⟩ := p3
    have hF := hF.call fp3 (by decide)
    refine z_i2l F dL_change_8 (by omega) ?_
    refine z_last F hI gs_151 (by omega) (by omega) (by decide) bd_151 dL_change_9 (by omega) (by omega) (fun M5 hI sf4 f4 => ?_)
    have hF := hF.wr f4 (by decide) (by decide)
    have hW : WFk M5 := hW.site f4 (by decide)
    refine z_goto (tgt := 21) F dL_change_10 (by decide +kernel) ?_
    refine z_iconst F dL_change_21 ?_
    exact hret _ _ 22 _ _ _ (by omega) ⟨hI, hW⟩ ⟨hF, trivial⟩ ⟨by decide, by decide⟩ dL_change_22
set_option maxRecDepth 4000 in
theorem k_L_days (l : Launch) (hlT : l.stackTraces = false) (M : Mem) (hJ : Iw M) (x1 : Int) (hx1a : (-2147483648) ≤ x1) (hx1b : x1 ≤ 2147483647) : CIW l yL_days cL_days 4 (some .int) [(0, 9, 12, 13)] 8 1 (fun ad => [.ref (ad 0), ii x1, .ref (ad 151)]) M (fun z M' => Fr [16, 17, 35, 37, 38, 39, 40, 41, 151] M M' ∧ (True)) := by
  obtain ⟨hI, hW⟩ := hJ
  have hF : Fr [16, 17, 35, 37, 38, 39, 40, 41, 151] M M := Fr.rf
  refine enh_i (by decide +kernel) (fun ad => by exact Nat.le_of_ble_eq_true rfl) (fun D cy ad A p e s m args below meth c Q F hex hret => ?_)
  refine z_eq (ls' := [(0, .ref (ad 0)), (1, ii x1), (2, .ref (ad 151))]) rfl rfl rfl ?_
  refine z_aload_n F dL_days_0 rfl (q := 2) rfl ?_
  refine z_iconst F dL_days_1 ?_
  refine z_aload_n F dL_days_2 rfl (q := 0) rfl ?_
  refine z_iload_n F dL_days_3 rfl (q := 1) rfl ?_
  refine zy_i (rest := [ii 0, .ref (ad 151)]) F (k_X11_days l hlT M ⟨hI, hW⟩ x1 (by omega) (by omega)) cs_L_34 (T := TX11) (N := 14) (ci := 11) rfl gs_0 (by decide) (by decide) ⟨by decide, by decide⟩ rfl rfl rfl (Nat.le_of_ble_eq_true rfl) dL_days_4 (fun E M29 hI hx => ?_) (fun v1 M2 rv1 hI p3 => ?_)
  · obtain ⟨hI, hW⟩ := hI
    obtain ⟨rfl, g9, f9⟩ := hx
    refine z_catch F hex [] ⟨0, 9, 12, 13⟩ [] rfl (fun z hz => absurd hz List.not_mem_nil) (by decide) (by decide) (by decide) (by decide) (fun q9 => ?_)
    have hF := hF.call f9 (by decide)
    refine z_astore_n F dL_days_12 rfl (by decide) (ls' := [(3, .ref q9), (0, .ref (ad 0)), (1, ii x1), (2, .ref (ad 151))]) rfl ?_
    refine z_iconst F dL_days_13 ?_
    exact hret _ _ 14 _ _ _ (by omega) ⟨hI, hW⟩ ⟨hF, trivial⟩ ⟨by decide, by decide⟩ dL_days_14
  · obtain ⟨hI, hW⟩ := hI
    obtain ⟨⟨av1, bv1⟩, fp3⟩ := p3
    have hF := hF.call fp3 (by decide)
    refine z_i2l F dL_days_7 (by omega) ?_
    refine z_last F hI gs_151 (by omega) (by omega) (by decide) bd_151 dL_days_8 (by omega) (by omega) (fun M5 hI sf4 f4 => ?_)
    have hF := hF.wr f4 (by decide) (by decide)
    have hW : WFk M5 := hW.site f4 (by decide)
    refine z_goto (tgt := 15) F dL_days_9 (by decide +kernel) ?_
    refine z_iconst F dL_days_15 ?_
    exact hret _ _ 16 _ _ _ (by omega) ⟨hI, hW⟩ ⟨hF, trivial⟩ ⟨by decide, by decide⟩ dL_days_16
set_option maxRecDepth 4000 in
theorem k_L_undo (l : Launch) (hlT : l.stackTraces = false) (M : Mem) (hJ : Iw M) (x1 : Int) (hx1a : (-2147483648) ≤ x1) (hx1b : x1 ≤ 2147483647) : CIW l yL_undo cL_undo 4 (some .int) [(0, 9, 12, 13)] 4 1 (fun ad => [.ref (ad 0), ii x1, .ref (ad 151)]) M (fun z M' => Fr [35, 36, 37, 38, 39, 40, 151] M M' ∧ (True)) := by
  obtain ⟨hI, hW⟩ := hJ
  have hF : Fr [35, 36, 37, 38, 39, 40, 151] M M := Fr.rf
  refine enh_i (by decide +kernel) (fun ad => by exact Nat.le_of_ble_eq_true rfl) (fun D cy ad A p e s m args below meth c Q F hex hret => ?_)
  refine z_eq (ls' := [(0, .ref (ad 0)), (1, ii x1), (2, .ref (ad 151))]) rfl rfl rfl ?_
  refine z_aload_n F dL_undo_0 rfl (q := 2) rfl ?_
  refine z_iconst F dL_undo_1 ?_
  refine z_aload_n F dL_undo_2 rfl (q := 0) rfl ?_
  refine z_iload_n F dL_undo_3 rfl (q := 1) rfl ?_
  refine zy_i (rest := [ii 0, .ref (ad 151)]) F (k_X11_undo l hlT M ⟨hI, hW⟩ x1 (by omega) (by omega)) cs_L_37 (T := TX11) (N := 14) (ci := 11) rfl gs_0 (by decide) (by decide) ⟨by decide, by decide⟩ rfl rfl rfl (Nat.le_of_ble_eq_true rfl) dL_undo_4 (fun E M29 hI hx => ?_) (fun v1 M2 rv1 hI p3 => ?_)
  · obtain ⟨hI, hW⟩ := hI
    obtain ⟨rfl, g9, f9⟩ := hx
    refine z_catch F hex [] ⟨0, 9, 12, 13⟩ [] rfl (fun z hz => absurd hz List.not_mem_nil) (by decide) (by decide) (by decide) (by decide) (fun q9 => ?_)
    have hF := hF.call f9 (by decide)
    refine z_astore_n F dL_undo_12 rfl (by decide) (ls' := [(3, .ref q9), (0, .ref (ad 0)), (1, ii x1), (2, .ref (ad 151))]) rfl ?_
    refine z_iconst F dL_undo_13 ?_
    exact hret _ _ 14 _ _ _ (by omega) ⟨hI, hW⟩ ⟨hF, trivial⟩ ⟨by decide, by decide⟩ dL_undo_14
  · obtain ⟨hI, hW⟩ := hI
    obtain ⟨⟨av1, bv1⟩, fp3⟩ := p3
    have hF := hF.call fp3 (by decide)
    refine z_i2l F dL_undo_7 (by omega) ?_
    refine z_last F hI gs_151 (by omega) (by omega) (by decide) bd_151 dL_undo_8 (by omega) (by omega) (fun M5 hI sf4 f4 => ?_)
    have hF := hF.wr f4 (by decide) (by decide)
    have hW : WFk M5 := hW.site f4 (by decide)
    refine z_goto (tgt := 15) F dL_undo_9 (by decide +kernel) ?_
    refine z_iconst F dL_undo_15 ?_
    exact hret _ _ 16 _ _ _ (by omega) ⟨hI, hW⟩ ⟨hF, trivial⟩ ⟨by decide, by decide⟩ dL_undo_16
set_option maxRecDepth 4000 in
theorem k_L_judge (l : Launch) (hlT : l.stackTraces = false) (M : Mem) (hJ : Iw M) (x1 : Int) (hx1a : (-2147483648) ≤ x1) (hx1b : x1 ≤ 2147483647) (x2 : Int) (hx2a : (-2147483648) ≤ x2) (hx2b : x2 ≤ 2147483647) : CIW l yL_judge cL_judge 5 (some .int) [(0, 10, 13, 19), (0, 10, 17, 43), (0, 10, 21, 13)] 9 3 (fun ad => [.ref (ad 0), ii x1, ii x2, .ref (ad 151)]) M (fun z M' => Fr [16, 17, 35, 36, 37, 38, 39, 40, 41, 42, 151] M M' ∧ (True)) := by
  obtain ⟨hI, hW⟩ := hJ
  have hF : Fr [16, 17, 35, 36, 37, 38, 39, 40, 41, 42, 151] M M := Fr.rf
  refine enh_i (by decide +kernel) (fun ad => by exact Nat.le_of_ble_eq_true rfl) (fun D cy ad A p e s m args below meth c Q F hex hret => ?_)
  refine z_eq (ls' := [(0, .ref (ad 0)), (1, ii x1), (2, ii x2), (3, .ref (ad 151))]) rfl rfl rfl ?_
  refine z_aload_n F dL_judge_0 rfl (q := 3) rfl ?_
  refine z_iconst F dL_judge_1 ?_
  refine z_aload_n F dL_judge_2 rfl (q := 0) rfl ?_
  refine z_iload_n F dL_judge_3 rfl (q := 1) rfl ?_
  refine z_iload_n F dL_judge_4 rfl (q := 2) rfl ?_
  refine zy_i (rest := [ii 0, .ref (ad 151)]) F (k_X11_judge l hlT M ⟨hI, hW⟩ x1 (by omega) (by omega) x2 (by omega) (by omega)) cs_L_40 (T := TX11) (N := 14) (ci := 11) rfl gs_0 (by decide) (by decide) ⟨by decide, by decide⟩ rfl rfl rfl (Nat.le_of_ble_eq_true rfl) dL_judge_5 (fun E M29 hI hx => ?_) (fun v1 M2 rv1 hI p3 => ?_)
  · obtain ⟨hI, hW⟩ := hI
    rcases hx with ⟨rfl, g9, f9⟩ | ⟨rfl, g9, f9⟩ | ⟨rfl, g9, f9⟩
    · refine z_catch F hex [⟨0, 10, 13, 19⟩, ⟨0, 10, 17, 43⟩] ⟨0, 10, 21, 13⟩ [] rfl (fun z hz => by rcases List.mem_cons.mp hz with rfl | hz; exact ⟨by decide, "java/util/NoSuchElementException", by decide, by decide, by decide⟩; rcases List.mem_cons.mp hz with rfl | hz; exact ⟨by decide, "java/lang/IllegalStateException", by decide, by decide, by decide⟩; exact absurd hz List.not_mem_nil) (by decide) (by decide) (by decide) (by decide) (fun q9 => ?_)
      have hF := hF.call f9 (by decide)
      refine z_astore F dL_judge_21 (by decide) (ls' := [(4, .ref q9), (0, .ref (ad 0)), (1, ii x1), (2, ii x2), (3, .ref (ad 151))]) rfl ?_
      refine z_iconst F dL_judge_23 ?_
      exact hret _ _ 24 _ _ _ (by omega) ⟨hI, hW⟩ ⟨hF, trivial⟩ ⟨by decide, by decide⟩ dL_judge_24
    · refine z_catch F hex [⟨0, 10, 13, 19⟩] ⟨0, 10, 17, 43⟩ [⟨0, 10, 21, 13⟩] rfl (fun z hz => by rcases List.mem_cons.mp hz with rfl | hz; exact ⟨by decide, "java/util/NoSuchElementException", by decide, by decide, by decide⟩; exact absurd hz List.not_mem_nil) (by decide) (by decide) (by decide) (by decide) (fun q9 => ?_)
      have hF := hF.call f9 (by decide)
      refine z_astore F dL_judge_17 (by decide) (ls' := [(4, .ref q9), (0, .ref (ad 0)), (1, ii x1), (2, ii x2), (3, .ref (ad 151))]) rfl ?_
      refine z_iconst F dL_judge_19 ?_
      exact hret _ _ 20 _ _ _ (by omega) ⟨hI, hW⟩ ⟨hF, trivial⟩ ⟨by decide, by decide⟩ dL_judge_20
    · refine z_catch F hex [] ⟨0, 10, 13, 19⟩ [⟨0, 10, 17, 43⟩, ⟨0, 10, 21, 13⟩] rfl (fun z hz => absurd hz List.not_mem_nil) (by decide) (by decide) (by decide) (by decide) (fun q9 => ?_)
      have hF := hF.call f9 (by decide)
      refine z_astore F dL_judge_13 (by decide) (ls' := [(4, .ref q9), (0, .ref (ad 0)), (1, ii x1), (2, ii x2), (3, .ref (ad 151))]) rfl ?_
      refine z_iconst F dL_judge_15 ?_
      exact hret _ _ 16 _ _ _ (by omega) ⟨hI, hW⟩ ⟨hF, trivial⟩ ⟨by decide, by decide⟩ dL_judge_16
  · obtain ⟨hI, hW⟩ := hI
    obtain ⟨⟨av1, bv1⟩, fp3⟩ := p3
    have hF := hF.call fp3 (by decide)
    refine z_i2l F dL_judge_8 (by omega) ?_
    refine z_last F hI gs_151 (by omega) (by omega) (by decide) bd_151 dL_judge_9 (by omega) (by omega) (fun M5 hI sf4 f4 => ?_)
    have hF := hF.wr f4 (by decide) (by decide)
    have hW : WFk M5 := hW.site f4 (by decide)
    refine z_goto (tgt := 25) F dL_judge_10 (by decide +kernel) ?_
    refine z_iconst F dL_judge_25 ?_
    exact hret _ _ 26 _ _ _ (by omega) ⟨hI, hW⟩ ⟨hF, trivial⟩ ⟨by decide, by decide⟩ dL_judge_26
set_option maxRecDepth 4000 in
theorem k_L_perform (l : Launch) (hlT : l.stackTraces = false) (M : Mem) (hJ : Iw M) (x1 : Int) (hx1a : (-2147483648) ≤ x1) (hx1b : x1 ≤ 2147483647) : CIW l yL_perform cL_perform 4 (some .int) [(0, 9, 12, 19), (0, 9, 15, 43)] 9 2 (fun ad => [.ref (ad 0), ii x1, .ref (ad 151)]) M (fun z M' => Fr [16, 17, 35, 36, 37, 38, 39, 40, 41, 151] M M' ∧ (True)) := by
  obtain ⟨hI, hW⟩ := hJ
  have hF : Fr [16, 17, 35, 36, 37, 38, 39, 40, 41, 151] M M := Fr.rf
  refine enh_i (by decide +kernel) (fun ad => by exact Nat.le_of_ble_eq_true rfl) (fun D cy ad A p e s m args below meth c Q F hex hret => ?_)
  refine z_eq (ls' := [(0, .ref (ad 0)), (1, ii x1), (2, .ref (ad 151))]) rfl rfl rfl ?_
  refine z_aload_n F dL_perform_0 rfl (q := 2) rfl ?_
  refine z_iconst F dL_perform_1 ?_
  refine z_aload_n F dL_perform_2 rfl (q := 0) rfl ?_
  refine z_iload_n F dL_perform_3 rfl (q := 1) rfl ?_
  refine zy_i (rest := [ii 0, .ref (ad 151)]) F (k_X11_perform l hlT M ⟨hI, hW⟩ x1 (by omega) (by omega)) cs_L_45 (T := TX11) (N := 14) (ci := 11) rfl gs_0 (by decide) (by decide) ⟨by decide, by decide⟩ rfl rfl rfl (Nat.le_of_ble_eq_true rfl) dL_perform_4 (fun E M29 hI hx => ?_) (fun v1 M2 rv1 hI p3 => ?_)
  · obtain ⟨hI, hW⟩ := hI
    rcases hx with ⟨rfl, g9, f9⟩ | ⟨rfl, g9, f9⟩
    · refine z_catch F hex [⟨0, 9, 12, 19⟩] ⟨0, 9, 15, 43⟩ [] rfl (fun z hz => by rcases List.mem_cons.mp hz with rfl | hz; exact ⟨by decide, "java/util/NoSuchElementException", by decide, by decide, by decide⟩; exact absurd hz List.not_mem_nil) (by decide) (by decide) (by decide) (by decide) (fun q9 => ?_)
      have hF := hF.call f9 (by decide)
      refine z_astore_n F dL_perform_15 rfl (by decide) (ls' := [(3, .ref q9), (0, .ref (ad 0)), (1, ii x1), (2, .ref (ad 151))]) rfl ?_
      refine z_iconst F dL_perform_16 ?_
      exact hret _ _ 17 _ _ _ (by omega) ⟨hI, hW⟩ ⟨hF, trivial⟩ ⟨by decide, by decide⟩ dL_perform_17
    · refine z_catch F hex [] ⟨0, 9, 12, 19⟩ [⟨0, 9, 15, 43⟩] rfl (fun z hz => absurd hz List.not_mem_nil) (by decide) (by decide) (by decide) (by decide) (fun q9 => ?_)
      have hF := hF.call f9 (by decide)
      refine z_astore_n F dL_perform_12 rfl (by decide) (ls' := [(3, .ref q9), (0, .ref (ad 0)), (1, ii x1), (2, .ref (ad 151))]) rfl ?_
      refine z_iconst F dL_perform_13 ?_
      exact hret _ _ 14 _ _ _ (by omega) ⟨hI, hW⟩ ⟨hF, trivial⟩ ⟨by decide, by decide⟩ dL_perform_14
  · obtain ⟨hI, hW⟩ := hI
    obtain ⟨⟨av1, bv1⟩, fp3⟩ := p3
    have hF := hF.call fp3 (by decide)
    refine z_i2l F dL_perform_7 (by omega) ?_
    refine z_last F hI gs_151 (by omega) (by omega) (by decide) bd_151 dL_perform_8 (by omega) (by omega) (fun M5 hI sf4 f4 => ?_)
    have hF := hF.wr f4 (by decide) (by decide)
    have hW : WFk M5 := hW.site f4 (by decide)
    refine z_goto (tgt := 18) F dL_perform_9 (by decide +kernel) ?_
    refine z_iconst F dL_perform_18 ?_
    exact hret _ _ 19 _ _ _ (by omega) ⟨hI, hW⟩ ⟨hF, trivial⟩ ⟨by decide, by decide⟩ dL_perform_19
set_option maxRecDepth 4000 in
theorem k_L_season (l : Launch) (hlT : l.stackTraces = false) (M : Mem) (hJ : Iw M) (x1 : Int) (hx1a : (-2147483648) ≤ x1) (hx1b : x1 ≤ 2147483647) (x2 : Int) (hx2a : (-2147483648) ≤ x2) (hx2b : x2 ≤ 2147483647) : CIW l yL_season cL_season 5 (some .int) [(0, 10, 13, 13), (0, 10, 17, 43)] 9 1 (fun ad => [.ref (ad 0), ii x1, ii x2, .ref (ad 151)]) M (fun z M' => Fr [0, 16, 17, 35, 36, 37, 38, 39, 40, 41, 151] M M' ∧ (True)) := by
  obtain ⟨hI, hW⟩ := hJ
  have hF : Fr [0, 16, 17, 35, 36, 37, 38, 39, 40, 41, 151] M M := Fr.rf
  refine enh_i (by decide +kernel) (fun ad => by exact Nat.le_of_ble_eq_true rfl) (fun D cy ad A p e s m args below meth c Q F hex hret => ?_)
  refine z_eq (ls' := [(0, .ref (ad 0)), (1, ii x1), (2, ii x2), (3, .ref (ad 151))]) rfl rfl rfl ?_
  refine z_aload_n F dL_season_0 rfl (q := 3) rfl ?_
  refine z_iconst F dL_season_1 ?_
  refine z_aload_n F dL_season_2 rfl (q := 0) rfl ?_
  refine z_iload_n F dL_season_3 rfl (q := 1) rfl ?_
  refine z_iload_n F dL_season_4 rfl (q := 2) rfl ?_
  refine zy_i (rest := [ii 0, .ref (ad 151)]) F (k_X11_season l hlT M ⟨hI, hW⟩ x1 (by omega) (by omega) x2 (by omega) (by omega)) cs_L_48 (T := TX11) (N := 14) (ci := 11) rfl gs_0 (by decide) (by decide) ⟨by decide, by decide⟩ rfl rfl rfl (Nat.le_of_ble_eq_true rfl) dL_season_5 (fun E M29 hI hx => ?_) (fun v1 M2 rv1 hI p3 => ?_)
  · obtain ⟨hI, hW⟩ := hI
    rcases hx with ⟨rfl, g9, f9⟩ | ⟨rfl, g9, f9⟩
    · refine z_catch F hex [] ⟨0, 10, 13, 13⟩ [⟨0, 10, 17, 43⟩] rfl (fun z hz => absurd hz List.not_mem_nil) (by decide) (by decide) (by decide) (by decide) (fun q9 => ?_)
      have hF := hF.call f9 (by decide)
      refine z_astore F dL_season_13 (by decide) (ls' := [(4, .ref q9), (0, .ref (ad 0)), (1, ii x1), (2, ii x2), (3, .ref (ad 151))]) rfl ?_
      refine z_iconst F dL_season_15 ?_
      exact hret _ _ 16 _ _ _ (by omega) ⟨hI, hW⟩ ⟨hF, trivial⟩ ⟨by decide, by decide⟩ dL_season_16
    · refine z_catch F hex [⟨0, 10, 13, 13⟩] ⟨0, 10, 17, 43⟩ [] rfl (fun z hz => by rcases List.mem_cons.mp hz with rfl | hz; exact ⟨by decide, "java/lang/IllegalArgumentException", by decide, by decide, by decide⟩; exact absurd hz List.not_mem_nil) (by decide) (by decide) (by decide) (by decide) (fun q9 => ?_)
      have hF := hF.call f9 (by decide)
      refine z_astore F dL_season_17 (by decide) (ls' := [(4, .ref q9), (0, .ref (ad 0)), (1, ii x1), (2, ii x2), (3, .ref (ad 151))]) rfl ?_
      refine z_iconst F dL_season_19 ?_
      exact hret _ _ 20 _ _ _ (by omega) ⟨hI, hW⟩ ⟨hF, trivial⟩ ⟨by decide, by decide⟩ dL_season_20
  · obtain ⟨hI, hW⟩ := hI
    obtain ⟨⟨av1, bv1⟩, fp3⟩ := p3
    have hF := hF.call fp3 (by decide)
    refine z_i2l F dL_season_8 (by omega) ?_
    refine z_last F hI gs_151 (by omega) (by omega) (by decide) bd_151 dL_season_9 (by omega) (by omega) (fun M5 hI sf4 f4 => ?_)
    have hF := hF.wr f4 (by decide) (by decide)
    have hW : WFk M5 := hW.site f4 (by decide)
    refine z_goto (tgt := 21) F dL_season_10 (by decide +kernel) ?_
    refine z_iconst F dL_season_21 ?_
    exact hret _ _ 22 _ _ _ (by omega) ⟨hI, hW⟩ ⟨hF, trivial⟩ ⟨by decide, by decide⟩ dL_season_22
set_option maxRecDepth 4000 in
theorem k_L_oddRing (l : Launch) (hlT : l.stackTraces = false) (M : Mem) (hJ : Iw M) (x1 : Int) (hx1a : (-2147483648) ≤ x1) (hx1b : x1 ≤ 2147483647) : CIW l yL_oddRing cL_oddRing 4 (some .int) [(0, 9, 12, 13)] 5 1 (fun ad => [.ref (ad 0), ii x1, .ref (ad 151)]) M (fun z M' => Fr [151] M M' ∧ (z = 0 ∧ 0 ≤ x1 ∧ x1 ≤ 1 ∧ OdZ (M 2 1).toNat (RegS (aCx 2 M)) x1 (M' 151 0) ∨ z = 1 ∧ (x1 < 0 ∨ 1 < x1))) := by
  obtain ⟨hI, hW⟩ := hJ
  have hF : Fr [151] M M := Fr.rf
  refine enh_i (by decide +kernel) (fun ad => by exact Nat.le_of_ble_eq_true rfl) (fun D cy ad A p e s m args below meth c Q F hex hret => ?_)
  refine z_eq (ls' := [(0, .ref (ad 0)), (1, ii x1), (2, .ref (ad 151))]) rfl rfl rfl ?_
  refine z_aload_n F dL_oddRing_0 rfl (q := 2) rfl ?_
  refine z_iconst F dL_oddRing_1 ?_
  refine z_aload_n F dL_oddRing_2 rfl (q := 0) rfl ?_
  refine z_iload_n F dL_oddRing_3 rfl (q := 1) rfl ?_
  refine zy_i (rest := [ii 0, .ref (ad 151)]) F (k_X11_oddRing l hlT M ⟨hI, hW⟩ x1 (by omega) (by omega)) cs_L_51 (T := TX11) (N := 14) (ci := 11) rfl gs_0 (by decide) (by decide) ⟨by decide, by decide⟩ rfl rfl rfl (Nat.le_of_ble_eq_true rfl) dL_oddRing_4 (fun E M29 hI hx => ?_) (fun v1 M2 rv1 hI p3 => ?_)
  · obtain ⟨hI, hW⟩ := hI
    obtain ⟨rfl, g9, rfl⟩ := hx
    refine z_catch F hex [] ⟨0, 9, 12, 13⟩ [] rfl (fun z hz => absurd hz List.not_mem_nil) (by decide) (by decide) (by decide) (by decide) (fun q9 => ?_)
    refine z_astore_n F dL_oddRing_12 rfl (by decide) (ls' := [(3, .ref q9), (0, .ref (ad 0)), (1, ii x1), (2, .ref (ad 151))]) rfl ?_
    refine z_iconst F dL_oddRing_13 ?_
    exact hret _ _ 14 _ _ _ (by omega) ⟨hI, hW⟩ ⟨hF, by omega⟩ ⟨by decide, by decide⟩ dL_oddRing_14
  · obtain ⟨hI, hW⟩ := hI
    obtain ⟨⟨av1, bv1⟩, rfl, xp3, yp3⟩ := p3
    refine z_i2l F dL_oddRing_7 (by omega) ?_
    refine z_last F hI gs_151 (by omega) (by omega) (by decide) bd_151 dL_oddRing_8 (by omega) (by omega) (fun M5 hI sf4 f4 => ?_)
    have hF := hF.wr f4 (by decide) (by decide)
    have hW : WFk M5 := hW.site f4 (by decide)
    refine z_goto (tgt := 15) F dL_oddRing_9 (by decide +kernel) ?_
    refine z_iconst F dL_oddRing_15 ?_
    exact hret _ _ 16 _ _ _ (by omega) ⟨hI, hW⟩ ⟨hF, Or.inl ⟨by omega, by omega, by omega, (by have h9 : M5 151 0 = v1 := sf4; rw [h9]; exact yp3)⟩⟩ ⟨by decide, by decide⟩ dL_oddRing_16
set_option maxRecDepth 4000 in
theorem k_L_placing (l : Launch) (hlT : l.stackTraces = false) (M : Mem) (hJ : Iw M) (x1 : Int) (hx1a : (-2147483648) ≤ x1) (hx1b : x1 ≤ 2147483647) (x2 : Int) (hx2a : (-2147483648) ≤ x2) (hx2b : x2 ≤ 2147483647) : CIW l yL_placing cL_placing 5 (some .int) [(0, 10, 13, 19), (0, 10, 17, 13)] 18 2 (fun ad => [.ref (ad 0), ii x1, ii x2, .ref (ad 151)]) M (fun z M' => Fr [45, 46, 47, 151] M M' ∧ (True)) := by
  obtain ⟨hI, hW⟩ := hJ
  have hF : Fr [45, 46, 47, 151] M M := Fr.rf
  refine enh_i (by decide +kernel) (fun ad => by exact Nat.le_of_ble_eq_true rfl) (fun D cy ad A p e s m args below meth c Q F hex hret => ?_)
  refine z_eq (ls' := [(0, .ref (ad 0)), (1, ii x1), (2, ii x2), (3, .ref (ad 151))]) rfl rfl rfl ?_
  refine z_aload_n F dL_placing_0 rfl (q := 3) rfl ?_
  refine z_iconst F dL_placing_1 ?_
  refine z_aload_n F dL_placing_2 rfl (q := 0) rfl ?_
  refine z_iload_n F dL_placing_3 rfl (q := 1) rfl ?_
  refine z_iload_n F dL_placing_4 rfl (q := 2) rfl ?_
  refine zy_i (rest := [ii 0, .ref (ad 151)]) F (k_X11_placing l hlT M ⟨hI, hW⟩ x1 (by omega) (by omega) x2 (by omega) (by omega)) cs_L_54 (T := TX11) (N := 14) (ci := 11) rfl gs_0 (by decide) (by decide) ⟨by decide, by decide⟩ rfl rfl rfl (Nat.le_of_ble_eq_true rfl) dL_placing_5 (fun E M29 hI hx => ?_) (fun v1 M2 rv1 hI p3 => ?_)
  · obtain ⟨hI, hW⟩ := hI
    rcases hx with ⟨rfl, g9, f9⟩ | ⟨rfl, g9, f9⟩
    · refine z_catch F hex [⟨0, 10, 13, 19⟩] ⟨0, 10, 17, 13⟩ [] rfl (fun z hz => by rcases List.mem_cons.mp hz with rfl | hz; exact ⟨by decide, "java/util/NoSuchElementException", by decide, by decide, by decide⟩; exact absurd hz List.not_mem_nil) (by decide) (by decide) (by decide) (by decide) (fun q9 => ?_)
      have hF := hF.call f9 (by decide)
      refine z_astore F dL_placing_17 (by decide) (ls' := [(4, .ref q9), (0, .ref (ad 0)), (1, ii x1), (2, ii x2), (3, .ref (ad 151))]) rfl ?_
      refine z_iconst F dL_placing_19 ?_
      exact hret _ _ 20 _ _ _ (by omega) ⟨hI, hW⟩ ⟨hF, trivial⟩ ⟨by decide, by decide⟩ dL_placing_20
    · refine z_catch F hex [] ⟨0, 10, 13, 19⟩ [⟨0, 10, 17, 13⟩] rfl (fun z hz => absurd hz List.not_mem_nil) (by decide) (by decide) (by decide) (by decide) (fun q9 => ?_)
      have hF := hF.call f9 (by decide)
      refine z_astore F dL_placing_13 (by decide) (ls' := [(4, .ref q9), (0, .ref (ad 0)), (1, ii x1), (2, ii x2), (3, .ref (ad 151))]) rfl ?_
      refine z_iconst F dL_placing_15 ?_
      exact hret _ _ 16 _ _ _ (by omega) ⟨hI, hW⟩ ⟨hF, trivial⟩ ⟨by decide, by decide⟩ dL_placing_16
  · obtain ⟨hI, hW⟩ := hI
    obtain ⟨⟨av1, bv1⟩, fp3⟩ := p3
    have hF := hF.call fp3 (by decide)
    refine z_i2l F dL_placing_8 (by omega) ?_
    refine z_last F hI gs_151 (by omega) (by omega) (by decide) bd_151 dL_placing_9 (by omega) (by omega) (fun M5 hI sf4 f4 => ?_)
    have hF := hF.wr f4 (by decide) (by decide)
    have hW : WFk M5 := hW.site f4 (by decide)
    refine z_goto (tgt := 21) F dL_placing_10 (by decide +kernel) ?_
    refine z_iconst F dL_placing_21 ?_
    exact hret _ _ 22 _ _ _ (by omega) ⟨hI, hW⟩ ⟨hF, trivial⟩ ⟨by decide, by decide⟩ dL_placing_22
set_option maxRecDepth 4000 in
theorem k_L_mending (l : Launch) (hlT : l.stackTraces = false) (M : Mem) (hJ : Iw M) (x1 : Int) (hx1a : (-2147483648) ≤ x1) (hx1b : x1 ≤ 2147483647) : CIW l yL_mending cL_mending 4 (some .int) [(0, 9, 12, 13)] 17 1 (fun ad => [.ref (ad 0), ii x1, .ref (ad 151)]) M (fun z M' => Fr [45, 46, 47, 48, 151] M M' ∧ (True)) := by
  obtain ⟨hI, hW⟩ := hJ
  have hF : Fr [45, 46, 47, 48, 151] M M := Fr.rf
  refine enh_i (by decide +kernel) (fun ad => by exact Nat.le_of_ble_eq_true rfl) (fun D cy ad A p e s m args below meth c Q F hex hret => ?_)
  refine z_eq (ls' := [(0, .ref (ad 0)), (1, ii x1), (2, .ref (ad 151))]) rfl rfl rfl ?_
  refine z_aload_n F dL_mending_0 rfl (q := 2) rfl ?_
  refine z_iconst F dL_mending_1 ?_
  refine z_aload_n F dL_mending_2 rfl (q := 0) rfl ?_
  refine z_iload_n F dL_mending_3 rfl (q := 1) rfl ?_
  refine zy_i (rest := [ii 0, .ref (ad 151)]) F (k_X11_mending l hlT M ⟨hI, hW⟩ x1 (by omega) (by omega)) cs_L_57 (T := TX11) (N := 14) (ci := 11) rfl gs_0 (by decide) (by decide) ⟨by decide, by decide⟩ rfl rfl rfl (Nat.le_of_ble_eq_true rfl) dL_mending_4 (fun E M29 hI hx => ?_) (fun v1 M2 rv1 hI p3 => ?_)
  · obtain ⟨hI, hW⟩ := hI
    obtain ⟨rfl, g9, f9⟩ := hx
    refine z_catch F hex [] ⟨0, 9, 12, 13⟩ [] rfl (fun z hz => absurd hz List.not_mem_nil) (by decide) (by decide) (by decide) (by decide) (fun q9 => ?_)
    have hF := hF.call f9 (by decide)
    refine z_astore_n F dL_mending_12 rfl (by decide) (ls' := [(3, .ref q9), (0, .ref (ad 0)), (1, ii x1), (2, .ref (ad 151))]) rfl ?_
    refine z_iconst F dL_mending_13 ?_
    exact hret _ _ 14 _ _ _ (by omega) ⟨hI, hW⟩ ⟨hF, trivial⟩ ⟨by decide, by decide⟩ dL_mending_14
  · obtain ⟨hI, hW⟩ := hI
    obtain ⟨⟨av1, bv1⟩, fp3⟩ := p3
    have hF := hF.call fp3 (by decide)
    refine z_i2l F dL_mending_7 (by omega) ?_
    refine z_last F hI gs_151 (by omega) (by omega) (by decide) bd_151 dL_mending_8 (by omega) (by omega) (fun M5 hI sf4 f4 => ?_)
    have hF := hF.wr f4 (by decide) (by decide)
    have hW : WFk M5 := hW.site f4 (by decide)
    refine z_goto (tgt := 15) F dL_mending_9 (by decide +kernel) ?_
    refine z_iconst F dL_mending_15 ?_
    exact hret _ _ 16 _ _ _ (by omega) ⟨hI, hW⟩ ⟨hF, trivial⟩ ⟨by decide, by decide⟩ dL_mending_16
set_option maxRecDepth 4000 in
theorem k_L_mend (l : Launch) (hlT : l.stackTraces = false) (M : Mem) (hJ : Iw M) : CIW l yL_mend cL_mend 3 (some .int) [(0, 8, 11, 43)] 17 1 (fun ad => [.ref (ad 0), .ref (ad 151)]) M (fun z M' => Fr [36, 40, 41, 45, 46, 47, 48, 151] M M' ∧ (True)) := by
  obtain ⟨hI, hW⟩ := hJ
  have hF : Fr [36, 40, 41, 45, 46, 47, 48, 151] M M := Fr.rf
  refine enh_i (by decide +kernel) (fun ad => by exact Nat.le_of_ble_eq_true rfl) (fun D cy ad A p e s m args below meth c Q F hex hret => ?_)
  refine z_eq (ls' := [(0, .ref (ad 0)), (1, .ref (ad 151))]) rfl rfl rfl ?_
  refine z_aload_n F dL_mend_0 rfl (q := 1) rfl ?_
  refine z_iconst F dL_mend_1 ?_
  refine z_aload_n F dL_mend_2 rfl (q := 0) rfl ?_
  refine zy_i (rest := [ii 0, .ref (ad 151)]) F (k_X11_mend l hlT M ⟨hI, hW⟩) cs_L_60 (T := TX11) (N := 14) (ci := 11) rfl gs_0 (by decide) (by decide) ⟨by decide, by decide⟩ rfl rfl rfl (Nat.le_of_ble_eq_true rfl) dL_mend_3 (fun E M29 hI hx => ?_) (fun v1 M2 rv1 hI p3 => ?_)
  · obtain ⟨hI, hW⟩ := hI
    obtain ⟨rfl, g9, f9⟩ := hx
    refine z_catch F hex [] ⟨0, 8, 11, 43⟩ [] rfl (fun z hz => absurd hz List.not_mem_nil) (by decide) (by decide) (by decide) (by decide) (fun q9 => ?_)
    have hF := hF.call f9 (by decide)
    refine z_astore_n F dL_mend_11 rfl (by decide) (ls' := [(2, .ref q9), (0, .ref (ad 0)), (1, .ref (ad 151))]) rfl ?_
    refine z_iconst F dL_mend_12 ?_
    exact hret _ _ 13 _ _ _ (by omega) ⟨hI, hW⟩ ⟨hF, trivial⟩ ⟨by decide, by decide⟩ dL_mend_13
  · obtain ⟨hI, hW⟩ := hI
    obtain ⟨⟨av1, bv1⟩, fp3⟩ := p3
    have hF := hF.call fp3 (by decide)
    refine z_i2l F dL_mend_6 (by omega) ?_
    refine z_last F hI gs_151 (by omega) (by omega) (by decide) bd_151 dL_mend_7 (by omega) (by omega) (fun M5 hI sf4 f4 => ?_)
    have hF := hF.wr f4 (by decide) (by decide)
    have hW : WFk M5 := hW.site f4 (by decide)
    refine z_goto (tgt := 14) F dL_mend_8 (by decide +kernel) ?_
    refine z_iconst F dL_mend_14 ?_
    exact hret _ _ 15 _ _ _ (by omega) ⟨hI, hW⟩ ⟨hF, trivial⟩ ⟨by decide, by decide⟩ dL_mend_15
set_option maxRecDepth 4000 in
theorem k_L_flips (l : Launch) (hlT : l.stackTraces = false) (M : Mem) (hJ : Iw M) (x1 : Int) (hx1a : (-2147483648) ≤ x1) (hx1b : x1 ≤ 2147483647) : CIW l yL_flips cL_flips 4 (some .int) [(0, 9, 12, 13)] 9 1 (fun ad => [.ref (ad 0), ii x1, .ref (ad 151)]) M (fun z M' => Fr [16, 17, 50, 51, 151] M M' ∧ (True)) := by
  obtain ⟨hI, hW⟩ := hJ
  have hF : Fr [16, 17, 50, 51, 151] M M := Fr.rf
  refine enh_i (by decide +kernel) (fun ad => by exact Nat.le_of_ble_eq_true rfl) (fun D cy ad A p e s m args below meth c Q F hex hret => ?_)
  refine z_eq (ls' := [(0, .ref (ad 0)), (1, ii x1), (2, .ref (ad 151))]) rfl rfl rfl ?_
  refine z_aload_n F dL_flips_0 rfl (q := 2) rfl ?_
  refine z_iconst F dL_flips_1 ?_
  refine z_aload_n F dL_flips_2 rfl (q := 0) rfl ?_
  refine z_iload_n F dL_flips_3 rfl (q := 1) rfl ?_
  refine zy_i (rest := [ii 0, .ref (ad 151)]) F (k_X11_flips l hlT M ⟨hI, hW⟩ x1 (by omega) (by omega)) cs_L_64 (T := TX11) (N := 14) (ci := 11) rfl gs_0 (by decide) (by decide) ⟨by decide, by decide⟩ rfl rfl rfl (Nat.le_of_ble_eq_true rfl) dL_flips_4 (fun E M29 hI hx => ?_) (fun v1 M2 rv1 hI p3 => ?_)
  · obtain ⟨hI, hW⟩ := hI
    obtain ⟨rfl, g9, f9⟩ := hx
    refine z_catch F hex [] ⟨0, 9, 12, 13⟩ [] rfl (fun z hz => absurd hz List.not_mem_nil) (by decide) (by decide) (by decide) (by decide) (fun q9 => ?_)
    have hF := hF.call f9 (by decide)
    refine z_astore_n F dL_flips_12 rfl (by decide) (ls' := [(3, .ref q9), (0, .ref (ad 0)), (1, ii x1), (2, .ref (ad 151))]) rfl ?_
    refine z_iconst F dL_flips_13 ?_
    exact hret _ _ 14 _ _ _ (by omega) ⟨hI, hW⟩ ⟨hF, trivial⟩ ⟨by decide, by decide⟩ dL_flips_14
  · obtain ⟨hI, hW⟩ := hI
    obtain ⟨⟨av1, bv1⟩, fp3⟩ := p3
    have hF := hF.call fp3 (by decide)
    refine z_i2l F dL_flips_7 (by omega) ?_
    refine z_last F hI gs_151 (by omega) (by omega) (by decide) bd_151 dL_flips_8 (by omega) (by omega) (fun M5 hI sf4 f4 => ?_)
    have hF := hF.wr f4 (by decide) (by decide)
    have hW : WFk M5 := hW.site f4 (by decide)
    refine z_goto (tgt := 15) F dL_flips_9 (by decide +kernel) ?_
    refine z_iconst F dL_flips_15 ?_
    exact hret _ _ 16 _ _ _ (by omega) ⟨hI, hW⟩ ⟨hF, trivial⟩ ⟨by decide, by decide⟩ dL_flips_16
set_option maxRecDepth 4000 in
theorem k_L_wave (l : Launch) (hlT : l.stackTraces = false) (M : Mem) (hJ : Iw M) (x1 : Int) (hx1a : (-2147483648) ≤ x1) (hx1b : x1 ≤ 2147483647) : CIW l yL_wave cL_wave 4 (some .int) [(0, 9, 12, 13)] 9 1 (fun ad => [.ref (ad 0), ii x1, .ref (ad 151)]) M (fun z M' => Fr [35, 36, 37, 38, 39, 42, 151] M M' ∧ (True)) := by
  obtain ⟨hI, hW⟩ := hJ
  have hF : Fr [35, 36, 37, 38, 39, 42, 151] M M := Fr.rf
  refine enh_i (by decide +kernel) (fun ad => by exact Nat.le_of_ble_eq_true rfl) (fun D cy ad A p e s m args below meth c Q F hex hret => ?_)
  refine z_eq (ls' := [(0, .ref (ad 0)), (1, ii x1), (2, .ref (ad 151))]) rfl rfl rfl ?_
  refine z_aload_n F dL_wave_0 rfl (q := 2) rfl ?_
  refine z_iconst F dL_wave_1 ?_
  refine z_aload_n F dL_wave_2 rfl (q := 0) rfl ?_
  refine z_iload_n F dL_wave_3 rfl (q := 1) rfl ?_
  refine zy_i (rest := [ii 0, .ref (ad 151)]) F (k_X11_wave l hlT M ⟨hI, hW⟩ x1 (by omega) (by omega)) cs_L_67 (T := TX11) (N := 14) (ci := 11) rfl gs_0 (by decide) (by decide) ⟨by decide, by decide⟩ rfl rfl rfl (Nat.le_of_ble_eq_true rfl) dL_wave_4 (fun E M29 hI hx => ?_) (fun v1 M2 rv1 hI p3 => ?_)
  · obtain ⟨hI, hW⟩ := hI
    obtain ⟨rfl, g9, f9⟩ := hx
    refine z_catch F hex [] ⟨0, 9, 12, 13⟩ [] rfl (fun z hz => absurd hz List.not_mem_nil) (by decide) (by decide) (by decide) (by decide) (fun q9 => ?_)
    have hF := hF.call f9 (by decide)
    refine z_astore_n F dL_wave_12 rfl (by decide) (ls' := [(3, .ref q9), (0, .ref (ad 0)), (1, ii x1), (2, .ref (ad 151))]) rfl ?_
    refine z_iconst F dL_wave_13 ?_
    exact hret _ _ 14 _ _ _ (by omega) ⟨hI, hW⟩ ⟨hF, trivial⟩ ⟨by decide, by decide⟩ dL_wave_14
  · obtain ⟨hI, hW⟩ := hI
    obtain ⟨⟨av1, bv1⟩, fp3⟩ := p3
    have hF := hF.call fp3 (by decide)
    refine z_i2l F dL_wave_7 (by omega) ?_
    refine z_last F hI gs_151 (by omega) (by omega) (by decide) bd_151 dL_wave_8 (by omega) (by omega) (fun M5 hI sf4 f4 => ?_)
    have hF := hF.wr f4 (by decide) (by decide)
    have hW : WFk M5 := hW.site f4 (by decide)
    refine z_goto (tgt := 15) F dL_wave_9 (by decide +kernel) ?_
    refine z_iconst F dL_wave_15 ?_
    exact hret _ _ 16 _ _ _ (by omega) ⟨hI, hW⟩ ⟨hF, trivial⟩ ⟨by decide, by decide⟩ dL_wave_16
set_option maxRecDepth 4000 in
theorem k_L_calm (l : Launch) (hlT : l.stackTraces = false) (M : Mem) (hJ : Iw M) (x1 : Int) (hx1a : (-2147483648) ≤ x1) (hx1b : x1 ≤ 2147483647) : CIW l yL_calm cL_calm 4 (some .int) [(0, 9, 12, 13)] 16 1 (fun ad => [.ref (ad 0), ii x1, .ref (ad 151)]) M (fun z M' => Fr [14, 15, 16, 17, 49, 54, 55, 56, 151] M M' ∧ (True)) := by
  obtain ⟨hI, hW⟩ := hJ
  have hF : Fr [14, 15, 16, 17, 49, 54, 55, 56, 151] M M := Fr.rf
  refine enh_i (by decide +kernel) (fun ad => by exact Nat.le_of_ble_eq_true rfl) (fun D cy ad A p e s m args below meth c Q F hex hret => ?_)
  refine z_eq (ls' := [(0, .ref (ad 0)), (1, ii x1), (2, .ref (ad 151))]) rfl rfl rfl ?_
  refine z_aload_n F dL_calm_0 rfl (q := 2) rfl ?_
  refine z_iconst F dL_calm_1 ?_
  refine z_aload_n F dL_calm_2 rfl (q := 0) rfl ?_
  refine z_iload_n F dL_calm_3 rfl (q := 1) rfl ?_
  refine zy_i (rest := [ii 0, .ref (ad 151)]) F (k_X11_calm l hlT M ⟨hI, hW⟩ x1 (by omega) (by omega)) cs_L_70 (T := TX11) (N := 14) (ci := 11) rfl gs_0 (by decide) (by decide) ⟨by decide, by decide⟩ rfl rfl rfl (Nat.le_of_ble_eq_true rfl) dL_calm_4 (fun E M29 hI hx => ?_) (fun v1 M2 rv1 hI p3 => ?_)
  · obtain ⟨hI, hW⟩ := hI
    obtain ⟨rfl, g9, f9⟩ := hx
    refine z_catch F hex [] ⟨0, 9, 12, 13⟩ [] rfl (fun z hz => absurd hz List.not_mem_nil) (by decide) (by decide) (by decide) (by decide) (fun q9 => ?_)
    have hF := hF.call f9 (by decide)
    refine z_astore_n F dL_calm_12 rfl (by decide) (ls' := [(3, .ref q9), (0, .ref (ad 0)), (1, ii x1), (2, .ref (ad 151))]) rfl ?_
    refine z_iconst F dL_calm_13 ?_
    exact hret _ _ 14 _ _ _ (by omega) ⟨hI, hW⟩ ⟨hF, trivial⟩ ⟨by decide, by decide⟩ dL_calm_14
  · obtain ⟨hI, hW⟩ := hI
    obtain ⟨⟨av1, bv1⟩, fp3⟩ := p3
    have hF := hF.call fp3 (by decide)
    refine z_i2l F dL_calm_7 (by omega) ?_
    refine z_last F hI gs_151 (by omega) (by omega) (by decide) bd_151 dL_calm_8 (by omega) (by omega) (fun M5 hI sf4 f4 => ?_)
    have hF := hF.wr f4 (by decide) (by decide)
    have hW : WFk M5 := hW.site f4 (by decide)
    refine z_goto (tgt := 15) F dL_calm_9 (by decide +kernel) ?_
    refine z_iconst F dL_calm_15 ?_
    exact hret _ _ 16 _ _ _ (by omega) ⟨hI, hW⟩ ⟨hF, trivial⟩ ⟨by decide, by decide⟩ dL_calm_16
set_option maxRecDepth 4000 in
theorem k_L_event (l : Launch) (hlT : l.stackTraces = false) (M : Mem) (hJ : Iw M) (x1 : Int) (hx1a : (-2147483648) ≤ x1) (hx1b : x1 ≤ 2147483647) (x2 : Int) (hx2a : (-2147483648) ≤ x2) (hx2b : x2 ≤ 2147483647) : CIW l yL_event cL_event 5 (some .int) [(0, 10, 13, 19), (0, 10, 17, 13)] 2 1 (fun ad => [.ref (ad 0), ii x1, ii x2, .ref (ad 151)]) M (fun z M' => Fr [151] M M' ∧ (True)) := by
  obtain ⟨hI, hW⟩ := hJ
  have hF : Fr [151] M M := Fr.rf
  refine enh_i (by decide +kernel) (fun ad => by exact Nat.le_of_ble_eq_true rfl) (fun D cy ad A p e s m args below meth c Q F hex hret => ?_)
  refine z_eq (ls' := [(0, .ref (ad 0)), (1, ii x1), (2, ii x2), (3, .ref (ad 151))]) rfl rfl rfl ?_
  refine z_aload_n F dL_event_0 rfl (q := 3) rfl ?_
  refine z_iconst F dL_event_1 ?_
  refine z_aload_n F dL_event_2 rfl (q := 0) rfl ?_
  refine z_iload_n F dL_event_3 rfl (q := 1) rfl ?_
  refine z_iload_n F dL_event_4 rfl (q := 2) rfl ?_
  refine zy_i (rest := [ii 0, .ref (ad 151)]) F (k_X11_event l hlT M ⟨hI, hW⟩ x1 (by omega) (by omega) x2 (by omega) (by omega)) cs_L_73 (T := TX11) (N := 14) (ci := 11) rfl gs_0 (by decide) (by decide) ⟨by decide, by decide⟩ rfl rfl rfl (Nat.le_of_ble_eq_true rfl) dL_event_5 (fun E M29 hI hx => ?_) (fun v1 M2 rv1 hI p3 => ?_)
  · obtain ⟨hI, hW⟩ := hI
    rcases hx with ⟨rfl, g9, rfl⟩ | ⟨rfl, g9, rfl⟩
    · refine z_catch F hex [⟨0, 10, 13, 19⟩] ⟨0, 10, 17, 13⟩ [] rfl (fun z hz => by rcases List.mem_cons.mp hz with rfl | hz; exact ⟨by decide, "java/util/NoSuchElementException", by decide, by decide, by decide⟩; exact absurd hz List.not_mem_nil) (by decide) (by decide) (by decide) (by decide) (fun q9 => ?_)
      refine z_astore F dL_event_17 (by decide) (ls' := [(4, .ref q9), (0, .ref (ad 0)), (1, ii x1), (2, ii x2), (3, .ref (ad 151))]) rfl ?_
      refine z_iconst F dL_event_19 ?_
      exact hret _ _ 20 _ _ _ (by omega) ⟨hI, hW⟩ ⟨hF, trivial⟩ ⟨by decide, by decide⟩ dL_event_20
    · refine z_catch F hex [] ⟨0, 10, 13, 19⟩ [⟨0, 10, 17, 13⟩] rfl (fun z hz => absurd hz List.not_mem_nil) (by decide) (by decide) (by decide) (by decide) (fun q9 => ?_)
      refine z_astore F dL_event_13 (by decide) (ls' := [(4, .ref q9), (0, .ref (ad 0)), (1, ii x1), (2, ii x2), (3, .ref (ad 151))]) rfl ?_
      refine z_iconst F dL_event_15 ?_
      exact hret _ _ 16 _ _ _ (by omega) ⟨hI, hW⟩ ⟨hF, trivial⟩ ⟨by decide, by decide⟩ dL_event_16
  · obtain ⟨hI, hW⟩ := hI
    obtain ⟨⟨av1, bv1⟩, rfl⟩ := p3
    refine z_i2l F dL_event_8 (by omega) ?_
    refine z_last F hI gs_151 (by omega) (by omega) (by decide) bd_151 dL_event_9 (by omega) (by omega) (fun M5 hI sf4 f4 => ?_)
    have hF := hF.wr f4 (by decide) (by decide)
    have hW : WFk M5 := hW.site f4 (by decide)
    refine z_goto (tgt := 21) F dL_event_10 (by decide +kernel) ?_
    refine z_iconst F dL_event_21 ?_
    exact hret _ _ 22 _ _ _ (by omega) ⟨hI, hW⟩ ⟨hF, trivial⟩ ⟨by decide, by decide⟩ dL_event_22
set_option maxRecDepth 4000 in
theorem k_L_goats (l : Launch) (hlT : l.stackTraces = false) (M : Mem) (hJ : Iw M) (x1 : Int) (hx1a : (-2147483648) ≤ x1) (hx1b : x1 ≤ 2147483647) (x2 : Int) (hx2a : 0 ≤ x2) (hx2b : x2 ≤ 1) : CIW l yL_goats cL_goats 5 (some .int) [(0, 10, 13, 19), (0, 10, 17, 43), (0, 10, 21, 13)] 6 3 (fun ad => [.ref (ad 0), ii x1, ii x2, .ref (ad 151)]) M (fun z M' => Fr [58, 59, 151] M M' ∧ (True)) := by
  obtain ⟨hI, hW⟩ := hJ
  have hF : Fr [58, 59, 151] M M := Fr.rf
  refine enh_i (by decide +kernel) (fun ad => by exact Nat.le_of_ble_eq_true rfl) (fun D cy ad A p e s m args below meth c Q F hex hret => ?_)
  refine z_eq (ls' := [(0, .ref (ad 0)), (1, ii x1), (2, ii x2), (3, .ref (ad 151))]) rfl rfl rfl ?_
  refine z_aload_n F dL_goats_0 rfl (q := 3) rfl ?_
  refine z_iconst F dL_goats_1 ?_
  refine z_aload_n F dL_goats_2 rfl (q := 0) rfl ?_
  refine z_iload_n F dL_goats_3 rfl (q := 1) rfl ?_
  refine z_iload_n F dL_goats_4 rfl (q := 2) rfl ?_
  refine zy_i (rest := [ii 0, .ref (ad 151)]) F (k_X11_goats l hlT M ⟨hI, hW⟩ x1 (by omega) (by omega) x2 (by omega) (by omega)) cs_L_76 (T := TX11) (N := 14) (ci := 11) rfl gs_0 (by decide) (by decide) ⟨by decide, by decide⟩ rfl rfl rfl (Nat.le_of_ble_eq_true rfl) dL_goats_5 (fun E M29 hI hx => ?_) (fun v1 M2 rv1 hI p3 => ?_)
  · obtain ⟨hI, hW⟩ := hI
    rcases hx with ⟨rfl, g9, f9⟩ | ⟨rfl, g9, f9⟩ | ⟨rfl, g9, f9⟩
    · refine z_catch F hex [⟨0, 10, 13, 19⟩, ⟨0, 10, 17, 43⟩] ⟨0, 10, 21, 13⟩ [] rfl (fun z hz => by rcases List.mem_cons.mp hz with rfl | hz; exact ⟨by decide, "java/util/NoSuchElementException", by decide, by decide, by decide⟩; rcases List.mem_cons.mp hz with rfl | hz; exact ⟨by decide, "java/lang/IllegalStateException", by decide, by decide, by decide⟩; exact absurd hz List.not_mem_nil) (by decide) (by decide) (by decide) (by decide) (fun q9 => ?_)
      have hF := hF.call f9 (by decide)
      refine z_astore F dL_goats_21 (by decide) (ls' := [(4, .ref q9), (0, .ref (ad 0)), (1, ii x1), (2, ii x2), (3, .ref (ad 151))]) rfl ?_
      refine z_iconst F dL_goats_23 ?_
      exact hret _ _ 24 _ _ _ (by omega) ⟨hI, hW⟩ ⟨hF, trivial⟩ ⟨by decide, by decide⟩ dL_goats_24
    · refine z_catch F hex [⟨0, 10, 13, 19⟩] ⟨0, 10, 17, 43⟩ [⟨0, 10, 21, 13⟩] rfl (fun z hz => by rcases List.mem_cons.mp hz with rfl | hz; exact ⟨by decide, "java/util/NoSuchElementException", by decide, by decide, by decide⟩; exact absurd hz List.not_mem_nil) (by decide) (by decide) (by decide) (by decide) (fun q9 => ?_)
      have hF := hF.call f9 (by decide)
      refine z_astore F dL_goats_17 (by decide) (ls' := [(4, .ref q9), (0, .ref (ad 0)), (1, ii x1), (2, ii x2), (3, .ref (ad 151))]) rfl ?_
      refine z_iconst F dL_goats_19 ?_
      exact hret _ _ 20 _ _ _ (by omega) ⟨hI, hW⟩ ⟨hF, trivial⟩ ⟨by decide, by decide⟩ dL_goats_20
    · refine z_catch F hex [] ⟨0, 10, 13, 19⟩ [⟨0, 10, 17, 43⟩, ⟨0, 10, 21, 13⟩] rfl (fun z hz => absurd hz List.not_mem_nil) (by decide) (by decide) (by decide) (by decide) (fun q9 => ?_)
      have hF := hF.call f9 (by decide)
      refine z_astore F dL_goats_13 (by decide) (ls' := [(4, .ref q9), (0, .ref (ad 0)), (1, ii x1), (2, ii x2), (3, .ref (ad 151))]) rfl ?_
      refine z_iconst F dL_goats_15 ?_
      exact hret _ _ 16 _ _ _ (by omega) ⟨hI, hW⟩ ⟨hF, trivial⟩ ⟨by decide, by decide⟩ dL_goats_16
  · obtain ⟨hI, hW⟩ := hI
    obtain ⟨⟨av1, bv1⟩, fp3⟩ := p3
    have hF := hF.call fp3 (by decide)
    refine z_i2l F dL_goats_8 (by omega) ?_
    refine z_last F hI gs_151 (by omega) (by omega) (by decide) bd_151 dL_goats_9 (by omega) (by omega) (fun M5 hI sf4 f4 => ?_)
    have hF := hF.wr f4 (by decide) (by decide)
    have hW : WFk M5 := hW.site f4 (by decide)
    refine z_goto (tgt := 25) F dL_goats_10 (by decide +kernel) ?_
    refine z_iconst F dL_goats_25 ?_
    exact hret _ _ 26 _ _ _ (by omega) ⟨hI, hW⟩ ⟨hF, trivial⟩ ⟨by decide, by decide⟩ dL_goats_26
set_option maxRecDepth 4000 in
theorem k_L_bestRow (l : Launch) (hlT : l.stackTraces = false) (M : Mem) (hJ : Iw M) (x1 : Int) (hx1a : (-2147483648) ≤ x1) (hx1b : x1 ≤ 2147483647) (x2 : Int) (hx2a : 0 ≤ x2) (hx2b : x2 ≤ 1) (x3 : Int) (hx3a : (-2147483648) ≤ x3) (hx3b : x3 ≤ 2147483647) : CIW l yL_bestRow cL_bestRow 6 (some .int) [(0, 12, 15, 13)] 9 1 (fun ad => [.ref (ad 0), ii x1, ii x2, ii x3, .ref (ad 151)]) M (fun z M' => Fr [58, 61, 62, 151] M M' ∧ (True)) := by
  obtain ⟨hI, hW⟩ := hJ
  have hF : Fr [58, 61, 62, 151] M M := Fr.rf
  refine enh_i (by decide +kernel) (fun ad => by exact Nat.le_of_ble_eq_true rfl) (fun D cy ad A p e s m args below meth c Q F hex hret => ?_)
  refine z_eq (ls' := [(0, .ref (ad 0)), (1, ii x1), (2, ii x2), (3, ii x3), (4, .ref (ad 151))]) rfl rfl rfl ?_
  refine z_aload F dL_bestRow_0 (q := 4) rfl ?_
  refine z_iconst F dL_bestRow_2 ?_
  refine z_aload_n F dL_bestRow_3 rfl (q := 0) rfl ?_
  refine z_iload_n F dL_bestRow_4 rfl (q := 1) rfl ?_
  refine z_iload_n F dL_bestRow_5 rfl (q := 2) rfl ?_
  refine z_iload_n F dL_bestRow_6 rfl (q := 3) rfl ?_
  refine zy_i (rest := [ii 0, .ref (ad 151)]) F (k_X11_bestRow l hlT M ⟨hI, hW⟩ x1 (by omega) (by omega) x2 (by omega) (by omega) x3 (by omega) (by omega)) cs_L_80 (T := TX11) (N := 14) (ci := 11) rfl gs_0 (by decide) (by decide) ⟨by decide, by decide⟩ rfl rfl rfl (Nat.le_of_ble_eq_true rfl) dL_bestRow_7 (fun E M29 hI hx => ?_) (fun v1 M2 rv1 hI p3 => ?_)
  · obtain ⟨hI, hW⟩ := hI
    obtain ⟨rfl, g9, f9⟩ := hx
    refine z_catch F hex [] ⟨0, 12, 15, 13⟩ [] rfl (fun z hz => absurd hz List.not_mem_nil) (by decide) (by decide) (by decide) (by decide) (fun q9 => ?_)
    have hF := hF.call f9 (by decide)
    refine z_astore F dL_bestRow_15 (by decide) (ls' := [(5, .ref q9), (0, .ref (ad 0)), (1, ii x1), (2, ii x2), (3, ii x3), (4, .ref (ad 151))]) rfl ?_
    refine z_iconst F dL_bestRow_17 ?_
    exact hret _ _ 18 _ _ _ (by omega) ⟨hI, hW⟩ ⟨hF, trivial⟩ ⟨by decide, by decide⟩ dL_bestRow_18
  · obtain ⟨hI, hW⟩ := hI
    obtain ⟨⟨av1, bv1⟩, fp3⟩ := p3
    have hF := hF.call fp3 (by decide)
    refine z_i2l F dL_bestRow_10 (by omega) ?_
    refine z_last F hI gs_151 (by omega) (by omega) (by decide) bd_151 dL_bestRow_11 (by omega) (by omega) (fun M5 hI sf4 f4 => ?_)
    have hF := hF.wr f4 (by decide) (by decide)
    have hW : WFk M5 := hW.site f4 (by decide)
    refine z_goto (tgt := 19) F dL_bestRow_12 (by decide +kernel) ?_
    refine z_iconst F dL_bestRow_19 ?_
    exact hret _ _ 20 _ _ _ (by omega) ⟨hI, hW⟩ ⟨hF, trivial⟩ ⟨by decide, by decide⟩ dL_bestRow_20
set_option maxRecDepth 4000 in
theorem k_L_seats (l : Launch) (hlT : l.stackTraces = false) (M : Mem) (hJ : Iw M) (x1 : Int) (hx1a : (-2147483648) ≤ x1) (hx1b : x1 ≤ 2147483647) (x2 : Int) (hx2a : (-2147483648) ≤ x2) (hx2b : x2 ≤ 2147483647) (x3 : Int) (hx3a : (-2147483648) ≤ x3) (hx3b : x3 ≤ 2147483647) : CIW l yL_seats cL_seats 6 (some .int) [(0, 12, 15, 19), (0, 12, 19, 43), (0, 12, 23, 13)] 7 4 (fun ad => [.ref (ad 0), ii x1, ii x2, ii x3, .ref (ad 151)]) M (fun z M' => Fr [58, 59, 60, 151] M M' ∧ (True)) := by
  obtain ⟨hI, hW⟩ := hJ
  have hF : Fr [58, 59, 60, 151] M M := Fr.rf
  refine enh_i (by decide +kernel) (fun ad => by exact Nat.le_of_ble_eq_true rfl) (fun D cy ad A p e s m args below meth c Q F hex hret => ?_)
  refine z_eq (ls' := [(0, .ref (ad 0)), (1, ii x1), (2, ii x2), (3, ii x3), (4, .ref (ad 151))]) rfl rfl rfl ?_
  refine z_aload F dL_seats_0 (q := 4) rfl ?_
  refine z_iconst F dL_seats_2 ?_
  refine z_aload_n F dL_seats_3 rfl (q := 0) rfl ?_
  refine z_iload_n F dL_seats_4 rfl (q := 1) rfl ?_
  refine z_iload_n F dL_seats_5 rfl (q := 2) rfl ?_
  refine z_iload_n F dL_seats_6 rfl (q := 3) rfl ?_
  refine zy_i (rest := [ii 0, .ref (ad 151)]) F (k_X11_seats l hlT M ⟨hI, hW⟩ x1 (by omega) (by omega) x2 (by omega) (by omega) x3 (by omega) (by omega)) cs_L_84 (T := TX11) (N := 14) (ci := 11) rfl gs_0 (by decide) (by decide) ⟨by decide, by decide⟩ rfl rfl rfl (Nat.le_of_ble_eq_true rfl) dL_seats_7 (fun E M29 hI hx => ?_) (fun v1 M2 rv1 hI p3 => ?_)
  · obtain ⟨hI, hW⟩ := hI
    rcases hx with ⟨rfl, g9, f9⟩ | ⟨rfl, g9, f9⟩ | ⟨rfl, g9, f9⟩
    · refine z_catch F hex [⟨0, 12, 15, 19⟩, ⟨0, 12, 19, 43⟩] ⟨0, 12, 23, 13⟩ [] rfl (fun z hz => by rcases List.mem_cons.mp hz with rfl | hz; exact ⟨by decide, "java/util/NoSuchElementException", by decide, by decide, by decide⟩; rcases List.mem_cons.mp hz with rfl | hz; exact ⟨by decide, "java/lang/IllegalStateException", by decide, by decide, by decide⟩; exact absurd hz List.not_mem_nil) (by decide) (by decide) (by decide) (by decide) (fun q9 => ?_)
      have hF := hF.call f9 (by decide)
      refine z_astore F dL_seats_23 (by decide) (ls' := [(5, .ref q9), (0, .ref (ad 0)), (1, ii x1), (2, ii x2), (3, ii x3), (4, .ref (ad 151))]) rfl ?_
      refine z_iconst F dL_seats_25 ?_
      exact hret _ _ 26 _ _ _ (by omega) ⟨hI, hW⟩ ⟨hF, trivial⟩ ⟨by decide, by decide⟩ dL_seats_26
    · refine z_catch F hex [⟨0, 12, 15, 19⟩] ⟨0, 12, 19, 43⟩ [⟨0, 12, 23, 13⟩] rfl (fun z hz => by rcases List.mem_cons.mp hz with rfl | hz; exact ⟨by decide, "java/util/NoSuchElementException", by decide, by decide, by decide⟩; exact absurd hz List.not_mem_nil) (by decide) (by decide) (by decide) (by decide) (fun q9 => ?_)
      have hF := hF.call f9 (by decide)
      refine z_astore F dL_seats_19 (by decide) (ls' := [(5, .ref q9), (0, .ref (ad 0)), (1, ii x1), (2, ii x2), (3, ii x3), (4, .ref (ad 151))]) rfl ?_
      refine z_iconst F dL_seats_21 ?_
      exact hret _ _ 22 _ _ _ (by omega) ⟨hI, hW⟩ ⟨hF, trivial⟩ ⟨by decide, by decide⟩ dL_seats_22
    · refine z_catch F hex [] ⟨0, 12, 15, 19⟩ [⟨0, 12, 19, 43⟩, ⟨0, 12, 23, 13⟩] rfl (fun z hz => absurd hz List.not_mem_nil) (by decide) (by decide) (by decide) (by decide) (fun q9 => ?_)
      have hF := hF.call f9 (by decide)
      refine z_astore F dL_seats_15 (by decide) (ls' := [(5, .ref q9), (0, .ref (ad 0)), (1, ii x1), (2, ii x2), (3, ii x3), (4, .ref (ad 151))]) rfl ?_
      refine z_iconst F dL_seats_17 ?_
      exact hret _ _ 18 _ _ _ (by omega) ⟨hI, hW⟩ ⟨hF, trivial⟩ ⟨by decide, by decide⟩ dL_seats_18
  · obtain ⟨hI, hW⟩ := hI
    obtain ⟨⟨av1, bv1⟩, fp3⟩ := p3
    have hF := hF.call fp3 (by decide)
    refine z_i2l F dL_seats_10 (by omega) ?_
    refine z_last F hI gs_151 (by omega) (by omega) (by decide) bd_151 dL_seats_11 (by omega) (by omega) (fun M5 hI sf4 f4 => ?_)
    have hF := hF.wr f4 (by decide) (by decide)
    have hW : WFk M5 := hW.site f4 (by decide)
    refine z_goto (tgt := 27) F dL_seats_12 (by decide +kernel) ?_
    refine z_iconst F dL_seats_27 ?_
    exact hret _ _ 28 _ _ _ (by omega) ⟨hI, hW⟩ ⟨hF, trivial⟩ ⟨by decide, by decide⟩ dL_seats_28
set_option maxRecDepth 4000 in
theorem k_L_pleasure (l : Launch) (hlT : l.stackTraces = false) (M : Mem) (hJ : Iw M) (x1 : Int) (hx1a : (-2147483648) ≤ x1) (hx1b : x1 ≤ 2147483647) (x2 : Int) (hx2a : (-2147483648) ≤ x2) (hx2b : x2 ≤ 2147483647) : CIW l yL_pleasure cL_pleasure 5 (some .int) [(0, 10, 13, 19), (0, 10, 17, 43)] 5 3 (fun ad => [.ref (ad 0), ii x1, ii x2, .ref (ad 151)]) M (fun z M' => Fr [151] M M' ∧ (True)) := by
  obtain ⟨hI, hW⟩ := hJ
  have hF : Fr [151] M M := Fr.rf
  refine enh_i (by decide +kernel) (fun ad => by exact Nat.le_of_ble_eq_true rfl) (fun D cy ad A p e s m args below meth c Q F hex hret => ?_)
  refine z_eq (ls' := [(0, .ref (ad 0)), (1, ii x1), (2, ii x2), (3, .ref (ad 151))]) rfl rfl rfl ?_
  refine z_aload_n F dL_pleasure_0 rfl (q := 3) rfl ?_
  refine z_iconst F dL_pleasure_1 ?_
  refine z_aload_n F dL_pleasure_2 rfl (q := 0) rfl ?_
  refine z_iload_n F dL_pleasure_3 rfl (q := 1) rfl ?_
  refine z_iload_n F dL_pleasure_4 rfl (q := 2) rfl ?_
  refine zy_i (rest := [ii 0, .ref (ad 151)]) F (k_X11_pleasure l hlT M ⟨hI, hW⟩ x1 (by omega) (by omega) x2 (by omega) (by omega)) cs_L_88 (T := TX11) (N := 14) (ci := 11) rfl gs_0 (by decide) (by decide) ⟨by decide, by decide⟩ rfl rfl rfl (Nat.le_of_ble_eq_true rfl) dL_pleasure_5 (fun E M29 hI hx => ?_) (fun v1 M2 rv1 hI p3 => ?_)
  · obtain ⟨hI, hW⟩ := hI
    rcases hx with ⟨rfl, g9, rfl⟩ | ⟨rfl, g9, rfl⟩
    · refine z_catch F hex [⟨0, 10, 13, 19⟩] ⟨0, 10, 17, 43⟩ [] rfl (fun z hz => by rcases List.mem_cons.mp hz with rfl | hz; exact ⟨by decide, "java/util/NoSuchElementException", by decide, by decide, by decide⟩; exact absurd hz List.not_mem_nil) (by decide) (by decide) (by decide) (by decide) (fun q9 => ?_)
      refine z_astore F dL_pleasure_17 (by decide) (ls' := [(4, .ref q9), (0, .ref (ad 0)), (1, ii x1), (2, ii x2), (3, .ref (ad 151))]) rfl ?_
      refine z_iconst F dL_pleasure_19 ?_
      exact hret _ _ 20 _ _ _ (by omega) ⟨hI, hW⟩ ⟨hF, trivial⟩ ⟨by decide, by decide⟩ dL_pleasure_20
    · refine z_catch F hex [] ⟨0, 10, 13, 19⟩ [⟨0, 10, 17, 43⟩] rfl (fun z hz => absurd hz List.not_mem_nil) (by decide) (by decide) (by decide) (by decide) (fun q9 => ?_)
      refine z_astore F dL_pleasure_13 (by decide) (ls' := [(4, .ref q9), (0, .ref (ad 0)), (1, ii x1), (2, ii x2), (3, .ref (ad 151))]) rfl ?_
      refine z_iconst F dL_pleasure_15 ?_
      exact hret _ _ 16 _ _ _ (by omega) ⟨hI, hW⟩ ⟨hF, trivial⟩ ⟨by decide, by decide⟩ dL_pleasure_16
  · obtain ⟨hI, hW⟩ := hI
    obtain ⟨⟨av1, bv1⟩, rfl⟩ := p3
    refine z_i2l F dL_pleasure_8 (by omega) ?_
    refine z_last F hI gs_151 (by omega) (by omega) (by decide) bd_151 dL_pleasure_9 (by omega) (by omega) (fun M5 hI sf4 f4 => ?_)
    have hF := hF.wr f4 (by decide) (by decide)
    have hW : WFk M5 := hW.site f4 (by decide)
    refine z_goto (tgt := 21) F dL_pleasure_10 (by decide +kernel) ?_
    refine z_iconst F dL_pleasure_21 ?_
    exact hret _ _ 22 _ _ _ (by omega) ⟨hI, hW⟩ ⟨hF, trivial⟩ ⟨by decide, by decide⟩ dL_pleasure_22
set_option maxRecDepth 4000 in
theorem k_L_seen (l : Launch) (hlT : l.stackTraces = false) (M : Mem) (hJ : Iw M) (x1 : Int) (hx1a : (-2147483648) ≤ x1) (hx1b : x1 ≤ 2147483647) : CIW l yL_seen cL_seen 4 (some .int) [(0, 9, 12, 19), (0, 9, 15, 43), (0, 9, 18, 13)] 10 3 (fun ad => [.ref (ad 0), ii x1, .ref (ad 151)]) M (fun z M' => Fr [16, 17, 49, 50, 51, 52, 53, 151] M M' ∧ (True)) := by
  obtain ⟨hI, hW⟩ := hJ
  have hF : Fr [16, 17, 49, 50, 51, 52, 53, 151] M M := Fr.rf
  refine enh_i (by decide +kernel) (fun ad => by exact Nat.le_of_ble_eq_true rfl) (fun D cy ad A p e s m args below meth c Q F hex hret => ?_)
  refine z_eq (ls' := [(0, .ref (ad 0)), (1, ii x1), (2, .ref (ad 151))]) rfl rfl rfl ?_
  refine z_aload_n F dL_seen_0 rfl (q := 2) rfl ?_
  refine z_iconst F dL_seen_1 ?_
  refine z_aload_n F dL_seen_2 rfl (q := 0) rfl ?_
  refine z_iload_n F dL_seen_3 rfl (q := 1) rfl ?_
  refine zy_i (rest := [ii 0, .ref (ad 151)]) F (k_X11_seen l hlT M ⟨hI, hW⟩ x1 (by omega) (by omega)) cs_L_91 (T := TX11) (N := 14) (ci := 11) rfl gs_0 (by decide) (by decide) ⟨by decide, by decide⟩ rfl rfl rfl (Nat.le_of_ble_eq_true rfl) dL_seen_4 (fun E M29 hI hx => ?_) (fun v1 M2 rv1 hI p3 => ?_)
  · obtain ⟨hI, hW⟩ := hI
    rcases hx with ⟨rfl, g9, f9⟩ | ⟨rfl, g9, f9⟩ | ⟨rfl, g9, f9⟩
    · refine z_catch F hex [⟨0, 9, 12, 19⟩, ⟨0, 9, 15, 43⟩] ⟨0, 9, 18, 13⟩ [] rfl (fun z hz => by rcases List.mem_cons.mp hz with rfl | hz; exact ⟨by decide, "java/util/NoSuchElementException", by decide, by decide, by decide⟩; rcases List.mem_cons.mp hz with rfl | hz; exact ⟨by decide, "java/lang/IllegalStateException", by decide, by decide, by decide⟩; exact absurd hz List.not_mem_nil) (by decide) (by decide) (by decide) (by decide) (fun q9 => ?_)
      have hF := hF.call f9 (by decide)
      refine z_astore_n F dL_seen_18 rfl (by decide) (ls' := [(3, .ref q9), (0, .ref (ad 0)), (1, ii x1), (2, .ref (ad 151))]) rfl ?_
      refine z_iconst F dL_seen_19 ?_
      exact hret _ _ 20 _ _ _ (by omega) ⟨hI, hW⟩ ⟨hF, trivial⟩ ⟨by decide, by decide⟩ dL_seen_20
    · refine z_catch F hex [⟨0, 9, 12, 19⟩] ⟨0, 9, 15, 43⟩ [⟨0, 9, 18, 13⟩] rfl (fun z hz => by rcases List.mem_cons.mp hz with rfl | hz; exact ⟨by decide, "java/util/NoSuchElementException", by decide, by decide, by decide⟩; exact absurd hz List.not_mem_nil) (by decide) (by decide) (by decide) (by decide) (fun q9 => ?_)
      have hF := hF.call f9 (by decide)
      refine z_astore_n F dL_seen_15 rfl (by decide) (ls' := [(3, .ref q9), (0, .ref (ad 0)), (1, ii x1), (2, .ref (ad 151))]) rfl ?_
      refine z_iconst F dL_seen_16 ?_
      exact hret _ _ 17 _ _ _ (by omega) ⟨hI, hW⟩ ⟨hF, trivial⟩ ⟨by decide, by decide⟩ dL_seen_17
    · refine z_catch F hex [] ⟨0, 9, 12, 19⟩ [⟨0, 9, 15, 43⟩, ⟨0, 9, 18, 13⟩] rfl (fun z hz => absurd hz List.not_mem_nil) (by decide) (by decide) (by decide) (by decide) (fun q9 => ?_)
      have hF := hF.call f9 (by decide)
      refine z_astore_n F dL_seen_12 rfl (by decide) (ls' := [(3, .ref q9), (0, .ref (ad 0)), (1, ii x1), (2, .ref (ad 151))]) rfl ?_
      refine z_iconst F dL_seen_13 ?_
      exact hret _ _ 14 _ _ _ (by omega) ⟨hI, hW⟩ ⟨hF, trivial⟩ ⟨by decide, by decide⟩ dL_seen_14
  · obtain ⟨hI, hW⟩ := hI
    obtain ⟨⟨av1, bv1⟩, fp3⟩ := p3
    have hF := hF.call fp3 (by decide)
    refine z_i2l F dL_seen_7 (by omega) ?_
    refine z_last F hI gs_151 (by omega) (by omega) (by decide) bd_151 dL_seen_8 (by omega) (by omega) (fun M5 hI sf4 f4 => ?_)
    have hF := hF.wr f4 (by decide) (by decide)
    have hW : WFk M5 := hW.site f4 (by decide)
    refine z_goto (tgt := 21) F dL_seen_9 (by decide +kernel) ?_
    refine z_iconst F dL_seen_21 ?_
    exact hret _ _ 22 _ _ _ (by omega) ⟨hI, hW⟩ ⟨hF, trivial⟩ ⟨by decide, by decide⟩ dL_seen_22
set_option maxRecDepth 4000 in
theorem k_L_sure (l : Launch) (hlT : l.stackTraces = false) (M : Mem) (hJ : Iw M) (x1 : Int) (hx1a : (-2147483648) ≤ x1) (hx1b : x1 ≤ 2147483647) (x2 : Int) (hx2a : (-2147483648) ≤ x2) (hx2b : x2 ≤ 2147483647) : CIW l yL_sure cL_sure 5 (some .int) [(0, 10, 13, 19), (0, 10, 17, 43), (0, 10, 21, 13)] 10 4 (fun ad => [.ref (ad 0), ii x1, ii x2, .ref (ad 151)]) M (fun z M' => Fr [16, 17, 49, 50, 51, 52, 53, 151] M M' ∧ (True)) := by
  obtain ⟨hI, hW⟩ := hJ
  have hF : Fr [16, 17, 49, 50, 51, 52, 53, 151] M M := Fr.rf
  refine enh_i (by decide +kernel) (fun ad => by exact Nat.le_of_ble_eq_true rfl) (fun D cy ad A p e s m args below meth c Q F hex hret => ?_)
  refine z_eq (ls' := [(0, .ref (ad 0)), (1, ii x1), (2, ii x2), (3, .ref (ad 151))]) rfl rfl rfl ?_
  refine z_aload_n F dL_sure_0 rfl (q := 3) rfl ?_
  refine z_iconst F dL_sure_1 ?_
  refine z_aload_n F dL_sure_2 rfl (q := 0) rfl ?_
  refine z_iload_n F dL_sure_3 rfl (q := 1) rfl ?_
  refine z_iload_n F dL_sure_4 rfl (q := 2) rfl ?_
  refine zy_i (rest := [ii 0, .ref (ad 151)]) F (k_X11_sure l hlT M ⟨hI, hW⟩ x1 (by omega) (by omega) x2 (by omega) (by omega)) cs_L_94 (T := TX11) (N := 14) (ci := 11) rfl gs_0 (by decide) (by decide) ⟨by decide, by decide⟩ rfl rfl rfl (Nat.le_of_ble_eq_true rfl) dL_sure_5 (fun E M29 hI hx => ?_) (fun v1 M2 rv1 hI p3 => ?_)
  · obtain ⟨hI, hW⟩ := hI
    rcases hx with ⟨rfl, g9, f9⟩ | ⟨rfl, g9, f9⟩ | ⟨rfl, g9, f9⟩
    · refine z_catch F hex [⟨0, 10, 13, 19⟩, ⟨0, 10, 17, 43⟩] ⟨0, 10, 21, 13⟩ [] rfl (fun z hz => by rcases List.mem_cons.mp hz with rfl | hz; exact ⟨by decide, "java/util/NoSuchElementException", by decide, by decide, by decide⟩; rcases List.mem_cons.mp hz with rfl | hz; exact ⟨by decide, "java/lang/IllegalStateException", by decide, by decide, by decide⟩; exact absurd hz List.not_mem_nil) (by decide) (by decide) (by decide) (by decide) (fun q9 => ?_)
      have hF := hF.call f9 (by decide)
      refine z_astore F dL_sure_21 (by decide) (ls' := [(4, .ref q9), (0, .ref (ad 0)), (1, ii x1), (2, ii x2), (3, .ref (ad 151))]) rfl ?_
      refine z_iconst F dL_sure_23 ?_
      exact hret _ _ 24 _ _ _ (by omega) ⟨hI, hW⟩ ⟨hF, trivial⟩ ⟨by decide, by decide⟩ dL_sure_24
    · refine z_catch F hex [⟨0, 10, 13, 19⟩] ⟨0, 10, 17, 43⟩ [⟨0, 10, 21, 13⟩] rfl (fun z hz => by rcases List.mem_cons.mp hz with rfl | hz; exact ⟨by decide, "java/util/NoSuchElementException", by decide, by decide, by decide⟩; exact absurd hz List.not_mem_nil) (by decide) (by decide) (by decide) (by decide) (fun q9 => ?_)
      have hF := hF.call f9 (by decide)
      refine z_astore F dL_sure_17 (by decide) (ls' := [(4, .ref q9), (0, .ref (ad 0)), (1, ii x1), (2, ii x2), (3, .ref (ad 151))]) rfl ?_
      refine z_iconst F dL_sure_19 ?_
      exact hret _ _ 20 _ _ _ (by omega) ⟨hI, hW⟩ ⟨hF, trivial⟩ ⟨by decide, by decide⟩ dL_sure_20
    · refine z_catch F hex [] ⟨0, 10, 13, 19⟩ [⟨0, 10, 17, 43⟩, ⟨0, 10, 21, 13⟩] rfl (fun z hz => absurd hz List.not_mem_nil) (by decide) (by decide) (by decide) (by decide) (fun q9 => ?_)
      have hF := hF.call f9 (by decide)
      refine z_astore F dL_sure_13 (by decide) (ls' := [(4, .ref q9), (0, .ref (ad 0)), (1, ii x1), (2, ii x2), (3, .ref (ad 151))]) rfl ?_
      refine z_iconst F dL_sure_15 ?_
      exact hret _ _ 16 _ _ _ (by omega) ⟨hI, hW⟩ ⟨hF, trivial⟩ ⟨by decide, by decide⟩ dL_sure_16
  · obtain ⟨hI, hW⟩ := hI
    obtain ⟨⟨av1, bv1⟩, fp3⟩ := p3
    have hF := hF.call fp3 (by decide)
    refine z_i2l F dL_sure_8 (by omega) ?_
    refine z_last F hI gs_151 (by omega) (by omega) (by decide) bd_151 dL_sure_9 (by omega) (by omega) (fun M5 hI sf4 f4 => ?_)
    have hF := hF.wr f4 (by decide) (by decide)
    have hW : WFk M5 := hW.site f4 (by decide)
    refine z_goto (tgt := 25) F dL_sure_10 (by decide +kernel) ?_
    refine z_iconst F dL_sure_25 ?_
    exact hret _ _ 26 _ _ _ (by omega) ⟨hI, hW⟩ ⟨hF, trivial⟩ ⟨by decide, by decide⟩ dL_sure_26
set_option maxRecDepth 4000 in
theorem k_L_tray (l : Launch) (hlT : l.stackTraces = false) (M : Mem) (hJ : Iw M) (x1 : Int) (hx1a : (-2147483648) ≤ x1) (hx1b : x1 ≤ 2147483647) (x2 : Int) (hx2a : (-2147483648) ≤ x2) (hx2b : x2 ≤ 2147483647) (x3 : Int) (hx3a : (-2147483648) ≤ x3) (hx3b : x3 ≤ 2147483647) : CIW l yL_tray cL_tray 5 (some .int) [(0, 7, 10, 19), (0, 7, 14, 13)] 4 2 (fun ad => [.ref (ad 0), ii x1, ii x2, ii x3]) M (fun z M' => Fr [123, 124, 125, 126, 127, 128, 129, 130] M M' ∧ (True)) := by
  obtain ⟨hI, hW⟩ := hJ
  have hF : Fr [123, 124, 125, 126, 127, 128, 129, 130] M M := Fr.rf
  refine enh_i (by decide +kernel) (fun ad => by exact Nat.le_of_ble_eq_true rfl) (fun D cy ad A p e s m args below meth c Q F hex hret => ?_)
  refine z_eq (ls' := [(0, .ref (ad 0)), (1, ii x1), (2, ii x2), (3, ii x3)]) rfl rfl rfl ?_
  refine z_aload_n F dL_tray_0 rfl (q := 0) rfl ?_
  refine z_iload_n F dL_tray_1 rfl (q := 1) rfl ?_
  refine z_iload_n F dL_tray_2 rfl (q := 2) rfl ?_
  refine z_iload_n F dL_tray_3 rfl (q := 3) rfl ?_
  refine zy_v (rest := []) F (k_X11_tray l hlT M ⟨hI, hW⟩ x1 (by omega) (by omega) x2 (by omega) (by omega) x3 (by omega) (by omega)) cs_L_97 (T := TX11) (N := 14) (ci := 11) rfl gs_0 (by decide) (by decide) ⟨by decide, by decide⟩ rfl rfl rfl (Nat.le_of_ble_eq_true rfl) dL_tray_4 (fun E M19 hI hx => ?_) (fun M1 hI p2 => ?_)
  · obtain ⟨hI, hW⟩ := hI
    rcases hx with ⟨rfl, g9, f9⟩ | ⟨rfl, g9, f9⟩
    · refine z_catch F hex [⟨0, 7, 10, 19⟩] ⟨0, 7, 14, 13⟩ [] rfl (fun z hz => by rcases List.mem_cons.mp hz with rfl | hz; exact ⟨by decide, "java/util/NoSuchElementException", by decide, by decide, by decide⟩; exact absurd hz List.not_mem_nil) (by decide) (by decide) (by decide) (by decide) (fun q9 => ?_)
      have hF := hF.call f9 (by decide)
      refine z_astore F dL_tray_14 (by decide) (ls' := [(4, .ref q9), (0, .ref (ad 0)), (1, ii x1), (2, ii x2), (3, ii x3)]) rfl ?_
      refine z_iconst F dL_tray_16 ?_
      exact hret _ _ 17 _ _ _ (by omega) ⟨hI, hW⟩ ⟨hF, trivial⟩ ⟨by decide, by decide⟩ dL_tray_17
    · refine z_catch F hex [] ⟨0, 7, 10, 19⟩ [⟨0, 7, 14, 13⟩] rfl (fun z hz => absurd hz List.not_mem_nil) (by decide) (by decide) (by decide) (by decide) (fun q9 => ?_)
      have hF := hF.call f9 (by decide)
      refine z_astore F dL_tray_10 (by decide) (ls' := [(4, .ref q9), (0, .ref (ad 0)), (1, ii x1), (2, ii x2), (3, ii x3)]) rfl ?_
      refine z_iconst F dL_tray_12 ?_
      exact hret _ _ 13 _ _ _ (by omega) ⟨hI, hW⟩ ⟨hF, trivial⟩ ⟨by decide, by decide⟩ dL_tray_13
  · obtain ⟨hI, hW⟩ := hI
    obtain ⟨fp2, xp2⟩ := p2
    have hF := hF.call fp2 (by decide)
    refine z_goto (tgt := 18) F dL_tray_7 (by decide +kernel) ?_
    refine z_iconst F dL_tray_18 ?_
    exact hret _ _ 19 _ _ _ (by omega) ⟨hI, hW⟩ ⟨hF, trivial⟩ ⟨by decide, by decide⟩ dL_tray_19
set_option maxRecDepth 4000 in
theorem k_L_write (l : Launch) (hlT : l.stackTraces = false) (M : Mem) (hJ : Iw M) (x1 : Int) (hx1a : (-2147483648) ≤ x1) (hx1b : x1 ≤ 2147483647) (x2 : Int) (hx2a : (-2147483648) ≤ x2) (hx2b : x2 ≤ 2147483647) (x3 : Int) (hx3a : (-9223372036854775808) ≤ x3) (hx3b : x3 ≤ 9223372036854775807) : CIW l yL_write cL_write 7 (some .int) [(0, 11, 14, 19), (0, 11, 18, 43), (0, 11, 22, 105)] 4 3 (fun ad => [.ref (ad 0), ii x1, ii x2, ll x3, .ref (ad 151)]) M (fun z M' => Fr [124, 126, 128, 130, 151] M M' ∧ (True)) := by
  obtain ⟨hI, hW⟩ := hJ
  have hF : Fr [124, 126, 128, 130, 151] M M := Fr.rf
  refine enh_i (by decide +kernel) (fun ad => by exact Nat.le_of_ble_eq_true rfl) (fun D cy ad A p e s m args below meth c Q F hex hret => ?_)
  refine z_eq (ls' := [(0, .ref (ad 0)), (1, ii x1), (2, ii x2), (3, ll x3), (5, .ref (ad 151))]) rfl rfl rfl ?_
  refine z_aload F dL_write_0 (q := 4) rfl ?_
  refine z_iconst F dL_write_2 ?_
  refine z_aload_n F dL_write_3 rfl (q := 0) rfl ?_
  refine z_iload_n F dL_write_4 rfl (q := 1) rfl ?_
  refine z_iload_n F dL_write_5 rfl (q := 2) rfl ?_
  refine z_lload_n F dL_write_6 rfl (q := 3) rfl ?_
  refine zy_l (rest := [ii 0, .ref (ad 151)]) F (k_X11_write l hlT M ⟨hI, hW⟩ x1 (by omega) (by omega) x2 (by omega) (by omega) x3 (by omega) (by omega)) cs_L_101 (T := TX11) (N := 14) (ci := 11) rfl gs_0 (by decide) (by decide) ⟨by decide, by decide⟩ rfl rfl rfl (Nat.le_of_ble_eq_true rfl) dL_write_7 (fun E M29 hI hx => ?_) (fun v1 M2 rv1 hI p3 => ?_)
  · obtain ⟨hI, hW⟩ := hI
    rcases hx with ⟨rfl, g9, f9⟩ | ⟨rfl, g9, f9⟩ | ⟨rfl, g9, f9⟩
    · refine z_catch F hex [⟨0, 11, 14, 19⟩] ⟨0, 11, 18, 43⟩ [⟨0, 11, 22, 105⟩] rfl (fun z hz => by rcases List.mem_cons.mp hz with rfl | hz; exact ⟨by decide, "java/util/NoSuchElementException", by decide, by decide, by decide⟩; exact absurd hz List.not_mem_nil) (by decide) (by decide) (by decide) (by decide) (fun q9 => ?_)
      have hF := hF.call f9 (by decide)
      refine z_astore F dL_write_18 (by decide) (ls' := [(6, .ref q9), (0, .ref (ad 0)), (1, ii x1), (2, ii x2), (3, ll x3), (5, .ref (ad 151))]) rfl ?_
      refine z_iconst F dL_write_20 ?_
      exact hret _ _ 21 _ _ _ (by omega) ⟨hI, hW⟩ ⟨hF, trivial⟩ ⟨by decide, by decide⟩ dL_write_21
    · refine z_catch F hex [⟨0, 11, 14, 19⟩, ⟨0, 11, 18, 43⟩] ⟨0, 11, 22, 105⟩ [] rfl (fun z hz => by rcases List.mem_cons.mp hz with rfl | hz; exact ⟨by decide, "java/util/NoSuchElementException", by decide, by decide, by decide⟩; rcases List.mem_cons.mp hz with rfl | hz; exact ⟨by decide, "java/lang/IllegalStateException", by decide, by decide, by decide⟩; exact absurd hz List.not_mem_nil) (by decide) (by decide) (by decide) (by decide) (fun q9 => ?_)
      have hF := hF.call f9 (by decide)
      refine z_astore F dL_write_22 (by decide) (ls' := [(6, .ref q9), (0, .ref (ad 0)), (1, ii x1), (2, ii x2), (3, ll x3), (5, .ref (ad 151))]) rfl ?_
      refine z_iconst F dL_write_24 ?_
      exact hret _ _ 25 _ _ _ (by omega) ⟨hI, hW⟩ ⟨hF, trivial⟩ ⟨by decide, by decide⟩ dL_write_25
    · refine z_catch F hex [] ⟨0, 11, 14, 19⟩ [⟨0, 11, 18, 43⟩, ⟨0, 11, 22, 105⟩] rfl (fun z hz => absurd hz List.not_mem_nil) (by decide) (by decide) (by decide) (by decide) (fun q9 => ?_)
      have hF := hF.call f9 (by decide)
      refine z_astore F dL_write_14 (by decide) (ls' := [(6, .ref q9), (0, .ref (ad 0)), (1, ii x1), (2, ii x2), (3, ll x3), (5, .ref (ad 151))]) rfl ?_
      refine z_iconst F dL_write_16 ?_
      exact hret _ _ 17 _ _ _ (by omega) ⟨hI, hW⟩ ⟨hF, trivial⟩ ⟨by decide, by decide⟩ dL_write_17
  · obtain ⟨hI, hW⟩ := hI
    obtain ⟨⟨av1, bv1⟩, fp3⟩ := p3
    have hF := hF.call fp3 (by decide)
    refine z_last F hI gs_151 (by omega) (by omega) (by decide) bd_151 dL_write_10 (by omega) (by omega) (fun M5 hI sf4 f4 => ?_)
    have hF := hF.wr f4 (by decide) (by decide)
    have hW : WFk M5 := hW.site f4 (by decide)
    refine z_goto (tgt := 26) F dL_write_11 (by decide +kernel) ?_
    refine z_iconst F dL_write_26 ?_
    exact hret _ _ 27 _ _ _ (by omega) ⟨hI, hW⟩ ⟨hF, trivial⟩ ⟨by decide, by decide⟩ dL_write_27
set_option maxRecDepth 4000 in
theorem k_L_pour (l : Launch) (hlT : l.stackTraces = false) (M : Mem) (hJ : Iw M) (x1 : Int) (hx1a : (-2147483648) ≤ x1) (hx1b : x1 ≤ 2147483647) : CIW l yL_pour cL_pour 4 (some .int) [(0, 9, 12, 19), (0, 9, 15, 43)] 4 2 (fun ad => [.ref (ad 0), ii x1, .ref (ad 151)]) M (fun z M' => Fr [124, 126, 128, 130, 151] M M' ∧ (True)) := by
  obtain ⟨hI, hW⟩ := hJ
  have hF : Fr [124, 126, 128, 130, 151] M M := Fr.rf
  refine enh_i (by decide +kernel) (fun ad => by exact Nat.le_of_ble_eq_true rfl) (fun D cy ad A p e s m args below meth c Q F hex hret => ?_)
  refine z_eq (ls' := [(0, .ref (ad 0)), (1, ii x1), (2, .ref (ad 151))]) rfl rfl rfl ?_
  refine z_aload_n F dL_pour_0 rfl (q := 2) rfl ?_
  refine z_iconst F dL_pour_1 ?_
  refine z_aload_n F dL_pour_2 rfl (q := 0) rfl ?_
  refine z_iload_n F dL_pour_3 rfl (q := 1) rfl ?_
  refine zy_i (rest := [ii 0, .ref (ad 151)]) F (k_X11_pour l hlT M ⟨hI, hW⟩ x1 (by omega) (by omega)) cs_L_107 (T := TX11) (N := 14) (ci := 11) rfl gs_0 (by decide) (by decide) ⟨by decide, by decide⟩ rfl rfl rfl (Nat.le_of_ble_eq_true rfl) dL_pour_4 (fun E M29 hI hx => ?_) (fun v1 M2 rv1 hI p3 => ?_)
  · obtain ⟨hI, hW⟩ := hI
    rcases hx with ⟨rfl, g9, f9⟩ | ⟨rfl, g9, f9⟩
    · refine z_catch F hex [⟨0, 9, 12, 19⟩] ⟨0, 9, 15, 43⟩ [] rfl (fun z hz => by rcases List.mem_cons.mp hz with rfl | hz; exact ⟨by decide, "java/util/NoSuchElementException", by decide, by decide, by decide⟩; exact absurd hz List.not_mem_nil) (by decide) (by decide) (by decide) (by decide) (fun q9 => ?_)
      have hF := hF.call f9 (by decide)
      refine z_astore_n F dL_pour_15 rfl (by decide) (ls' := [(3, .ref q9), (0, .ref (ad 0)), (1, ii x1), (2, .ref (ad 151))]) rfl ?_
      refine z_iconst F dL_pour_16 ?_
      exact hret _ _ 17 _ _ _ (by omega) ⟨hI, hW⟩ ⟨hF, trivial⟩ ⟨by decide, by decide⟩ dL_pour_17
    · refine z_catch F hex [] ⟨0, 9, 12, 19⟩ [⟨0, 9, 15, 43⟩] rfl (fun z hz => absurd hz List.not_mem_nil) (by decide) (by decide) (by decide) (by decide) (fun q9 => ?_)
      have hF := hF.call f9 (by decide)
      refine z_astore_n F dL_pour_12 rfl (by decide) (ls' := [(3, .ref q9), (0, .ref (ad 0)), (1, ii x1), (2, .ref (ad 151))]) rfl ?_
      refine z_iconst F dL_pour_13 ?_
      exact hret _ _ 14 _ _ _ (by omega) ⟨hI, hW⟩ ⟨hF, trivial⟩ ⟨by decide, by decide⟩ dL_pour_14
  · obtain ⟨hI, hW⟩ := hI
    obtain ⟨⟨av1, bv1⟩, fp3⟩ := p3
    have hF := hF.call fp3 (by decide)
    refine z_i2l F dL_pour_7 (by omega) ?_
    refine z_last F hI gs_151 (by omega) (by omega) (by decide) bd_151 dL_pour_8 (by omega) (by omega) (fun M5 hI sf4 f4 => ?_)
    have hF := hF.wr f4 (by decide) (by decide)
    have hW : WFk M5 := hW.site f4 (by decide)
    refine z_goto (tgt := 18) F dL_pour_9 (by decide +kernel) ?_
    refine z_iconst F dL_pour_18 ?_
    exact hret _ _ 19 _ _ _ (by omega) ⟨hI, hW⟩ ⟨hF, trivial⟩ ⟨by decide, by decide⟩ dL_pour_19
set_option maxRecDepth 4000 in
theorem k_L_image (l : Launch) (hlT : l.stackTraces = false) (M : Mem) (hJ : Iw M) (x1 : Int) (hx1a : (-2147483648) ≤ x1) (hx1b : x1 ≤ 2147483647) : CIW l yL_image cL_image 3 (some .int) [(0, 5, 8, 19)] 5 1 (fun ad => [.ref (ad 0), ii x1]) M (fun z M' => Fr [63, 64, 65, 66, 67, 68, 69, 70, 71, 72, 73, 74, 75, 76, 77, 80, 81, 82, 83, 84, 85, 86, 87, 88, 89, 90, 91, 92, 93, 94, 95, 96, 97, 100, 101, 102, 103, 104, 105, 106, 107, 108, 109, 110, 111, 112, 113, 114, 115, 116, 117, 120, 121, 122] M M' ∧ (z = 0 ∧ ImC x1 M M' ∨ z = 1 ∧ (x1 < 0 ∨ 2 < x1) ∧ M' = M)) := by
  obtain ⟨hI, hW⟩ := hJ
  have hF : Fr [63, 64, 65, 66, 67, 68, 69, 70, 71, 72, 73, 74, 75, 76, 77, 80, 81, 82, 83, 84, 85, 86, 87, 88, 89, 90, 91, 92, 93, 94, 95, 96, 97, 100, 101, 102, 103, 104, 105, 106, 107, 108, 109, 110, 111, 112, 113, 114, 115, 116, 117, 120, 121, 122] M M := Fr.rf
  refine enh_i (by decide +kernel) (fun ad => by exact Nat.le_of_ble_eq_true rfl) (fun D cy ad A p e s m args below meth c Q F hex hret => ?_)
  refine z_eq (ls' := [(0, .ref (ad 0)), (1, ii x1)]) rfl rfl rfl ?_
  refine z_aload_n F dL_image_0 rfl (q := 0) rfl ?_
  refine z_iload_n F dL_image_1 rfl (q := 1) rfl ?_
  refine zy_v (rest := []) F (k_X11_image l hlT M ⟨hI, hW⟩ x1 (by omega) (by omega)) cs_L_110 (T := TX11) (N := 14) (ci := 11) rfl gs_0 (by decide) (by decide) ⟨by decide, by decide⟩ rfl rfl rfl (Nat.le_of_ble_eq_true rfl) dL_image_2 (fun E M19 hI hx => ?_) (fun M1 hI p2 => ?_)
  · obtain ⟨hI, hW⟩ := hI
    obtain ⟨rfl, g9, f9⟩ := hx
    refine z_catch F hex [] ⟨0, 5, 8, 19⟩ [] rfl (fun z hz => absurd hz List.not_mem_nil) (by decide) (by decide) (by decide) (by decide) (fun q9 => ?_)
    have hF := hF.call f9 (by decide)
    refine z_astore_n F dL_image_8 rfl (by decide) (ls' := [(2, .ref q9), (0, .ref (ad 0)), (1, ii x1)]) rfl ?_
    refine z_iconst F dL_image_9 ?_
    exact hret _ _ 10 _ _ _ (by omega) ⟨hI, hW⟩ ⟨hF, Or.inr ⟨by omega, g9.1, g9.2⟩⟩ ⟨by decide, by decide⟩ dL_image_10
  · obtain ⟨hI, hW⟩ := hI
    obtain ⟨fp2, xp2, yp2⟩ := p2
    have hF := hF.call fp2 (by decide)
    refine z_goto (tgt := 11) F dL_image_5 (by decide +kernel) ?_
    refine z_iconst F dL_image_11 ?_
    exact hret _ _ 12 _ _ _ (by omega) ⟨hI, hW⟩ ⟨hF, Or.inl ⟨by omega, yp2⟩⟩ ⟨by decide, by decide⟩ dL_image_12
set_option maxRecDepth 4000 in
theorem k_L_restore (l : Launch) (hlT : l.stackTraces = false) (M : Mem) (hJ : Iw M) (x1 : Int) (hx1a : (-2147483648) ≤ x1) (hx1b : x1 ≤ 2147483647) : CIW l yL_restore cL_restore 3 (some .int) [(0, 5, 8, 19), (0, 5, 11, 43)] 5 2 (fun ad => [.ref (ad 0), ii x1]) M (fun z M' => Fr [2, 3, 4, 5, 6, 7, 8, 9, 10, 11, 12, 13, 14, 15, 35, 36, 37, 38, 39, 40, 41] M M' ∧ (z = 0 ∧ ReC x1 M M' ∨ ¬ z = 0 ∧ (x1 < 0 ∨ 2 < x1 ∨ x1 = 0 ∧ M 63 0 = 0 ∨ x1 = 1 ∧ M 83 0 = 0 ∨ x1 = 2 ∧ M 103 0 = 0) ∧ M' = M)) := by
  obtain ⟨hI, hW⟩ := hJ
  have hF : Fr [2, 3, 4, 5, 6, 7, 8, 9, 10, 11, 12, 13, 14, 15, 35, 36, 37, 38, 39, 40, 41] M M := Fr.rf
  refine enh_i (by decide +kernel) (fun ad => by exact Nat.le_of_ble_eq_true rfl) (fun D cy ad A p e s m args below meth c Q F hex hret => ?_)
  refine z_eq (ls' := [(0, .ref (ad 0)), (1, ii x1)]) rfl rfl rfl ?_
  refine z_aload_n F dL_restore_0 rfl (q := 0) rfl ?_
  refine z_iload_n F dL_restore_1 rfl (q := 1) rfl ?_
  refine zy_v (rest := []) F (k_X11_restore l hlT M ⟨hI, hW⟩ x1 (by omega) (by omega)) cs_L_114 (T := TX11) (N := 14) (ci := 11) rfl gs_0 (by decide) (by decide) ⟨by decide, by decide⟩ rfl rfl rfl (Nat.le_of_ble_eq_true rfl) dL_restore_2 (fun E M19 hI hx => ?_) (fun M1 hI p2 => ?_)
  · obtain ⟨hI, hW⟩ := hI
    rcases hx with ⟨rfl, g9, f9⟩ | ⟨rfl, g9, f9⟩
    · refine z_catch F hex [⟨0, 5, 8, 19⟩] ⟨0, 5, 11, 43⟩ [] rfl (fun z hz => by rcases List.mem_cons.mp hz with rfl | hz; exact ⟨by decide, "java/util/NoSuchElementException", by decide, by decide, by decide⟩; exact absurd hz List.not_mem_nil) (by decide) (by decide) (by decide) (by decide) (fun q9 => ?_)
      have hF := hF.call f9 (by decide)
      refine z_astore_n F dL_restore_11 rfl (by decide) (ls' := [(2, .ref q9), (0, .ref (ad 0)), (1, ii x1)]) rfl ?_
      refine z_iconst F dL_restore_12 ?_
      exact hret _ _ 13 _ _ _ (by omega) ⟨hI, hW⟩ ⟨hF, Or.inr ⟨by omega, (by have h9 := g9.1; omega), g9.2⟩⟩ ⟨by decide, by decide⟩ dL_restore_13
    · refine z_catch F hex [] ⟨0, 5, 8, 19⟩ [⟨0, 5, 11, 43⟩] rfl (fun z hz => absurd hz List.not_mem_nil) (by decide) (by decide) (by decide) (by decide) (fun q9 => ?_)
      have hF := hF.call f9 (by decide)
      refine z_astore_n F dL_restore_8 rfl (by decide) (ls' := [(2, .ref q9), (0, .ref (ad 0)), (1, ii x1)]) rfl ?_
      refine z_iconst F dL_restore_9 ?_
      exact hret _ _ 10 _ _ _ (by omega) ⟨hI, hW⟩ ⟨hF, Or.inr ⟨by omega, (by have h9 := g9.1; omega), g9.2⟩⟩ ⟨by decide, by decide⟩ dL_restore_10
  · obtain ⟨hI, hW⟩ := hI
    obtain ⟨fp2, xp2, yp2⟩ := p2
    have hF := hF.call fp2 (by decide)
    refine z_goto (tgt := 14) F dL_restore_5 (by decide +kernel) ?_
    refine z_iconst F dL_restore_14 ?_
    exact hret _ _ 15 _ _ _ (by omega) ⟨hI, hW⟩ ⟨hF, Or.inl ⟨by omega, yp2⟩⟩ ⟨by decide, by decide⟩ dL_restore_15
