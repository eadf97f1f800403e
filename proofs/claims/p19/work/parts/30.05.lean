theorem dX0_findCalmest_0 : decode cX0_findCalmest 0 = .ok (.aload_n 0, 1) := by decide +kernel
theorem dX0_findCalmest_1 : decode cX0_findCalmest 1 = .ok (.getfield 38, 3) := by decide +kernel
theorem dX0_findCalmest_12 : decode cX0_findCalmest 12 = .ok (.iconst 0, 1) := by decide +kernel
theorem dX0_findCalmest_13 : decode cX0_findCalmest 13 = .ok (.bipush 8, 2) := by decide +kernel
theorem dX0_findCalmest_15 : decode cX0_findCalmest 15 = .ok (.invokestatic 142, 3) := by decide +kernel
theorem dX0_findCalmest_18 : decode cX0_findCalmest 18 = .ok (.aload_n 0, 1) := by decide +kernel
theorem dX0_findCalmest_19 : decode cX0_findCalmest 19 = .ok (.ldc 148, 2) := by decide +kernel
theorem dX0_findCalmest_21 : decode cX0_findCalmest 21 = .ok (.putfield 149, 3) := by decide +kernel
theorem dX0_findCalmest_24 : decode cX0_findCalmest 24 = .ok (.aload_n 0, 1) := by decide +kernel
theorem dX0_findCalmest_25 : decode cX0_findCalmest 25 = .ok (.iconst 0, 1) := by decide +kernel
theorem dX0_findCalmest_26 : decode cX0_findCalmest 26 = .ok (.iconst 0, 1) := by decide +kernel
theorem dX0_findCalmest_27 : decode cX0_findCalmest 27 = .ok (.aload_n 0, 1) := by decide +kernel
theorem dX0_findCalmest_28 : decode cX0_findCalmest 28 = .ok (.getfield 38, 3) := by decide +kernel
theorem dX0_findCalmest_31 : decode cX0_findCalmest 31 = .ok (.invokevirtual 152, 3) := by decide +kernel
theorem dX0_findCalmest_34 : decode cX0_findCalmest 34 = .ok (.iconst 0, 1) := by decide +kernel
theorem dX0_findCalmest_35 : decode cX0_findCalmest 35 = .ok (.invokevirtual 155, 3) := by decide +kernel
theorem dX0_findCalmest_38 : decode cX0_findCalmest 38 = .ok (.return_, 1) := by decide +kernel
theorem dX0_findCalmest_4 : decode cX0_findCalmest 4 = .ok (.getfield 83, 3) := by decide +kernel
theorem dX0_findCalmest_7 : decode cX0_findCalmest 7 = .ok (.iconst 0, 1) := by decide +kernel
theorem dX0_findCalmest_8 : decode cX0_findCalmest 8 = .ok (.aload_n 0, 1) := by decide +kernel
theorem dX0_findCalmest_9 : decode cX0_findCalmest 9 = .ok (.getfield 25, 3) := by decide +kernel
theorem dX11_bestRow_0 : decode cX11_bestRow 0 = .ok (.iload_n 1, 1) := by decide +kernel
theorem dX11_bestRow_1 : decode cX11_bestRow 1 = .ok (.ifCond .lt 16, 3) := by decide +kernel
theorem dX11_bestRow_10 : decode cX11_bestRow 10 = .ok (.getfield 286, 3) := by decide +kernel
theorem dX11_bestRow_13 : decode cX11_bestRow 13 = .ok (.ishl, 1) := by decide +kernel
theorem dX11_bestRow_14 : decode cX11_bestRow 14 = .ok (.if_icmp .lt 14, 3) := by decide +kernel
theorem dX11_bestRow_17 : decode cX11_bestRow 17 = .ok (.new 101, 3) := by decide +kernel
theorem dX11_bestRow_20 : decode cX11_bestRow 20 = .ok (.dup, 1) := by decide +kernel
theorem dX11_bestRow_21 : decode cX11_bestRow 21 = .ok (.ldc_w 390, 3) := by decide +kernel
theorem dX11_bestRow_24 : decode cX11_bestRow 24 = .ok (.invokespecial 105, 3) := by decide +kernel
theorem dX11_bestRow_27 : decode cX11_bestRow 27 = .ok (.athrow, 1) := by decide +kernel
theorem dX11_bestRow_28 : decode cX11_bestRow 28 = .ok (.iload_n 3, 1) := by decide +kernel
theorem dX11_bestRow_29 : decode cX11_bestRow 29 = .ok (.bipush 8, 2) := by decide +kernel
theorem dX11_bestRow_31 : decode cX11_bestRow 31 = .ok (.invokestatic 330, 3) := by decide +kernel
theorem dX11_bestRow_34 : decode cX11_bestRow 34 = .ok (.aload_n 0, 1) := by decide +kernel
theorem dX11_bestRow_35 : decode cX11_bestRow 35 = .ok (.getfield 87, 3) := by decide +kernel
theorem dX11_bestRow_38 : decode cX11_bestRow 38 = .ok (.iload_n 1, 1) := by decide +kernel
theorem dX11_bestRow_39 : decode cX11_bestRow 39 = .ok (.iload_n 2, 1) := by decide +kernel
theorem dX11_bestRow_4 : decode cX11_bestRow 4 = .ok (.iload_n 1, 1) := by decide +kernel
theorem dX11_bestRow_40 : decode cX11_bestRow 40 = .ok (.invokevirtual 392, 3) := by decide +kernel
theorem dX11_bestRow_43 : decode cX11_bestRow 43 = .ok (.iload_n 3, 1) := by decide +kernel
theorem dX11_bestRow_44 : decode cX11_bestRow 44 = .ok (.ifCond .ne 11, 3) := by decide +kernel
theorem dX11_bestRow_47 : decode cX11_bestRow 47 = .ok (.aload_n 0, 1) := by decide +kernel
theorem dX11_bestRow_48 : decode cX11_bestRow 48 = .ok (.getfield 87, 3) := by decide +kernel
theorem dX11_bestRow_5 : decode cX11_bestRow 5 = .ok (.iconst 1, 1) := by decide +kernel
theorem dX11_bestRow_51 : decode cX11_bestRow 51 = .ok (.getfield 396, 3) := by decide +kernel
theorem dX11_bestRow_54 : decode cX11_bestRow 54 = .ok (.ireturn, 1) := by decide +kernel
theorem dX11_bestRow_55 : decode cX11_bestRow 55 = .ok (.iload_n 3, 1) := by decide +kernel
theorem dX11_bestRow_56 : decode cX11_bestRow 56 = .ok (.bipush 10, 2) := by decide +kernel
theorem dX11_bestRow_58 : decode cX11_bestRow 58 = .ok (.isub, 1) := by decide +kernel
theorem dX11_bestRow_59 : decode cX11_bestRow 59 = .ok (.aload_n 0, 1) := by decide +kernel
theorem dX11_bestRow_6 : decode cX11_bestRow 6 = .ok (.aload_n 0, 1) := by decide +kernel
theorem dX11_bestRow_60 : decode cX11_bestRow 60 = .ok (.getfield 87, 3) := by decide +kernel
theorem dX11_bestRow_63 : decode cX11_bestRow 63 = .ok (.getfield 399, 3) := by decide +kernel
theorem dX11_bestRow_66 : decode cX11_bestRow 66 = .ok (.if_icmp .ge 18, 3) := by decide +kernel
theorem dX11_bestRow_69 : decode cX11_bestRow 69 = .ok (.aload_n 0, 1) := by decide +kernel
theorem dX11_bestRow_7 : decode cX11_bestRow 7 = .ok (.getfield 16, 3) := by decide +kernel
theorem dX11_bestRow_70 : decode cX11_bestRow 70 = .ok (.getfield 87, 3) := by decide +kernel
theorem dX11_bestRow_73 : decode cX11_bestRow 73 = .ok (.getfield 402, 3) := by decide +kernel
theorem dX11_bestRow_76 : decode cX11_bestRow 76 = .ok (.iload_n 3, 1) := by decide +kernel
theorem dX11_bestRow_77 : decode cX11_bestRow 77 = .ok (.bipush 10, 2) := by decide +kernel
theorem dX11_bestRow_79 : decode cX11_bestRow 79 = .ok (.isub, 1) := by decide +kernel
theorem dX11_bestRow_80 : decode cX11_bestRow 80 = .ok (.iaload, 1) := by decide +kernel
theorem dX11_bestRow_81 : decode cX11_bestRow 81 = .ok (.goto 4, 3) := by decide +kernel
theorem dX11_bestRow_84 : decode cX11_bestRow 84 = .ok (.iconst (-1), 1) := by decide +kernel
theorem dX11_bestRow_85 : decode cX11_bestRow 85 = .ok (.ireturn, 1) := by decide +kernel
theorem dX11_calm_0 : decode cX11_calm 0 = .ok (.iload_n 1, 1) := by decide +kernel
theorem dX11_calm_1 : decode cX11_calm 1 = .ok (.bipush 6, 2) := by decide +kernel
theorem dX11_calm_10 : decode cX11_calm 10 = .ok (.invokevirtual 357, 3) := by decide +kernel
theorem dX11_calm_13 : decode cX11_calm 13 = .ok (.iload_n 1, 1) := by decide +kernel
theorem dX11_calm_14 : decode cX11_calm 14 = .ok (.ifCond .ne 11, 3) := by decide +kernel
theorem dX11_calm_17 : decode cX11_calm 17 = .ok (.aload_n 0, 1) := by decide +kernel
theorem dX11_calm_18 : decode cX11_calm 18 = .ok (.getfield 73, 3) := by decide +kernel
theorem dX11_calm_21 : decode cX11_calm 21 = .ok (.getfield 360, 3) := by decide +kernel
theorem dX11_calm_24 : decode cX11_calm 24 = .ok (.ireturn, 1) := by decide +kernel
theorem dX11_calm_25 : decode cX11_calm 25 = .ok (.iload_n 1, 1) := by decide +kernel
theorem dX11_calm_26 : decode cX11_calm 26 = .ok (.bipush 10, 2) := by decide +kernel
theorem dX11_calm_28 : decode cX11_calm 28 = .ok (.isub, 1) := by decide +kernel
theorem dX11_calm_29 : decode cX11_calm 29 = .ok (.aload_n 0, 1) := by decide +kernel
theorem dX11_calm_3 : decode cX11_calm 3 = .ok (.invokestatic 330, 3) := by decide +kernel
theorem dX11_calm_30 : decode cX11_calm 30 = .ok (.getfield 16, 3) := by decide +kernel
theorem dX11_calm_33 : decode cX11_calm 33 = .ok (.getfield 363, 3) := by decide +kernel
theorem dX11_calm_36 : decode cX11_calm 36 = .ok (.if_icmp .ge 18, 3) := by decide +kernel
theorem dX11_calm_39 : decode cX11_calm 39 = .ok (.aload_n 0, 1) := by decide +kernel
theorem dX11_calm_40 : decode cX11_calm 40 = .ok (.getfield 73, 3) := by decide +kernel
theorem dX11_calm_43 : decode cX11_calm 43 = .ok (.getfield 366, 3) := by decide +kernel
theorem dX11_calm_46 : decode cX11_calm 46 = .ok (.iload_n 1, 1) := by decide +kernel
theorem dX11_calm_47 : decode cX11_calm 47 = .ok (.bipush 10, 2) := by decide +kernel
theorem dX11_calm_49 : decode cX11_calm 49 = .ok (.isub, 1) := by decide +kernel
theorem dX11_calm_50 : decode cX11_calm 50 = .ok (.iaload, 1) := by decide +kernel
theorem dX11_calm_51 : decode cX11_calm 51 = .ok (.goto 4, 3) := by decide +kernel
theorem dX11_calm_54 : decode cX11_calm 54 = .ok (.iconst (-1), 1) := by decide +kernel
theorem dX11_calm_55 : decode cX11_calm 55 = .ok (.ireturn, 1) := by decide +kernel
theorem dX11_calm_6 : decode cX11_calm 6 = .ok (.aload_n 0, 1) := by decide +kernel
theorem dX11_calm_7 : decode cX11_calm 7 = .ok (.getfield 73, 3) := by decide +kernel
theorem dX11_event_0 : decode cX11_event 0 = .ok (.iload_n 1, 1) := by decide +kernel
theorem dX11_event_1 : decode cX11_event 1 = .ok (.ifCond .lt 14, 3) := by decide +kernel
theorem dX11_event_12 : decode cX11_event 12 = .ok (.if_icmp .lt 14, 3) := by decide +kernel
theorem dX11_event_15 : decode cX11_event 15 = .ok (.new 203, 3) := by decide +kernel
theorem dX11_event_18 : decode cX11_event 18 = .ok (.dup, 1) := by decide +kernel
theorem dX11_event_19 : decode cX11_event 19 = .ok (.ldc_w 369, 3) := by decide +kernel
theorem dX11_event_22 : decode cX11_event 22 = .ok (.invokespecial 207, 3) := by decide +kernel
theorem dX11_event_25 : decode cX11_event 25 = .ok (.athrow, 1) := by decide +kernel
theorem dX11_event_26 : decode cX11_event 26 = .ok (.iload_n 2, 1) := by decide +kernel
theorem dX11_event_27 : decode cX11_event 27 = .ok (.tableswitch 55 0 2 #[25, 35, 45], 25) := by decide +kernel
theorem dX11_event_4 : decode cX11_event 4 = .ok (.iload_n 1, 1) := by decide +kernel
theorem dX11_event_5 : decode cX11_event 5 = .ok (.aload_n 0, 1) := by decide +kernel
theorem dX11_event_52 : decode cX11_event 52 = .ok (.aload_n 0, 1) := by decide +kernel
theorem dX11_event_53 : decode cX11_event 53 = .ok (.getfield 16, 3) := by decide +kernel
theorem dX11_event_56 : decode cX11_event 56 = .ok (.getfield 371, 3) := by decide +kernel
theorem dX11_event_59 : decode cX11_event 59 = .ok (.iload_n 1, 1) := by decide +kernel
theorem dX11_event_6 : decode cX11_event 6 = .ok (.getfield 16, 3) := by decide +kernel
theorem dX11_event_60 : decode cX11_event 60 = .ok (.iaload, 1) := by decide +kernel
theorem dX11_event_61 : decode cX11_event 61 = .ok (.ireturn, 1) := by decide +kernel
theorem dX11_event_62 : decode cX11_event 62 = .ok (.aload_n 0, 1) := by decide +kernel
theorem dX11_event_63 : decode cX11_event 63 = .ok (.getfield 16, 3) := by decide +kernel
theorem dX11_event_66 : decode cX11_event 66 = .ok (.getfield 374, 3) := by decide +kernel
theorem dX11_event_69 : decode cX11_event 69 = .ok (.iload_n 1, 1) := by decide +kernel
theorem dX11_event_70 : decode cX11_event 70 = .ok (.iaload, 1) := by decide +kernel
theorem dX11_event_71 : decode cX11_event 71 = .ok (.ireturn, 1) := by decide +kernel
theorem dX11_event_72 : decode cX11_event 72 = .ok (.aload_n 0, 1) := by decide +kernel
theorem dX11_event_73 : decode cX11_event 73 = .ok (.getfield 16, 3) := by decide +kernel
theorem dX11_event_76 : decode cX11_event 76 = .ok (.getfield 377, 3) := by decide +kernel
theorem dX11_event_79 : decode cX11_event 79 = .ok (.iload_n 1, 1) := by decide +kernel
theorem dX11_event_80 : decode cX11_event 80 = .ok (.iaload, 1) := by decide +kernel
theorem dX11_event_81 : decode cX11_event 81 = .ok (.ireturn, 1) := by decide +kernel
theorem dX11_event_82 : decode cX11_event 82 = .ok (.new 101, 3) := by decide +kernel
theorem dX11_event_85 : decode cX11_event 85 = .ok (.dup, 1) := by decide +kernel
theorem dX11_event_86 : decode cX11_event 86 = .ok (.ldc_w 380, 3) := by decide +kernel
theorem dX11_event_89 : decode cX11_event 89 = .ok (.invokespecial 105, 3) := by decide +kernel
theorem dX11_event_9 : decode cX11_event 9 = .ok (.getfield 363, 3) := by decide +kernel
theorem dX11_event_92 : decode cX11_event 92 = .ok (.athrow, 1) := by decide +kernel
theorem dX11_goats_0 : decode cX11_goats 0 = .ok (.aload_n 0, 1) := by decide +kernel
theorem dX11_goats_1 : decode cX11_goats 1 = .ok (.aload_n 0, 1) := by decide +kernel
theorem dX11_goats_10 : decode cX11_goats 10 = .ok (.getfield 87, 3) := by decide +kernel
theorem dX11_goats_13 : decode cX11_goats 13 = .ok (.iload_n 2, 1) := by decide +kernel
theorem dX11_goats_14 : decode cX11_goats 14 = .ok (.invokevirtual 386, 3) := by decide +kernel
theorem dX11_goats_17 : decode cX11_goats 17 = .ok (.ireturn, 1) := by decide +kernel
theorem dX11_goats_2 : decode cX11_goats 2 = .ok (.iload_n 1, 1) := by decide +kernel
theorem dX11_goats_3 : decode cX11_goats 3 = .ok (.invokevirtual 248, 3) := by decide +kernel
theorem dX11_goats_6 : decode cX11_goats 6 = .ok (.invokevirtual 382, 3) := by decide +kernel
theorem dX11_goats_9 : decode cX11_goats 9 = .ok (.aload_n 0, 1) := by decide +kernel
theorem dX11_needGuests_0 : decode cX11_needGuests 0 = .ok (.aload_n 0, 1) := by decide +kernel
theorem dX11_needGuests_1 : decode cX11_needGuests 1 = .ok (.getfield 87, 3) := by decide +kernel
theorem dX11_needGuests_11 : decode cX11_needGuests 11 = .ok (.new 101, 3) := by decide +kernel
theorem dX11_needGuests_14 : decode cX11_needGuests 14 = .ok (.dup, 1) := by decide +kernel
theorem dX11_needGuests_15 : decode cX11_needGuests 15 = .ok (.ldc_w 417, 3) := by decide +kernel
theorem dX11_needGuests_18 : decode cX11_needGuests 18 = .ok (.invokespecial 105, 3) := by decide +kernel
theorem dX11_needGuests_21 : decode cX11_needGuests 21 = .ok (.athrow, 1) := by decide +kernel
theorem dX11_needGuests_22 : decode cX11_needGuests 22 = .ok (.return_, 1) := by decide +kernel
theorem dX11_needGuests_4 : decode cX11_needGuests 4 = .ok (.aload_n 1, 1) := by decide +kernel
theorem dX11_needGuests_5 : decode cX11_needGuests 5 = .ok (.invokevirtual 413, 3) := by decide +kernel
theorem dX11_needGuests_8 : decode cX11_needGuests 8 = .ok (.ifCond .ne 14, 3) := by decide +kernel
theorem dX11_seats_0 : decode cX11_seats 0 = .ok (.aload_n 0, 1) := by decide +kernel
theorem dX11_seats_1 : decode cX11_seats 1 = .ok (.aload_n 0, 1) := by decide +kernel
theorem dX11_seats_10 : decode cX11_seats 10 = .ok (.iconst 1, 1) := by decide +kernel
theorem dX11_seats_11 : decode cX11_seats 11 = .ok (.if_icmp .lt 9, 3) := by decide +kernel
theorem dX11_seats_14 : decode cX11_seats 14 = .ok (.iload_n 2, 1) := by decide +kernel
theorem dX11_seats_15 : decode cX11_seats 15 = .ok (.bipush 10, 2) := by decide +kernel
theorem dX11_seats_17 : decode cX11_seats 17 = .ok (.if_icmp .le 14, 3) := by decide +kernel
theorem dX11_seats_2 : decode cX11_seats 2 = .ok (.iload_n 1, 1) := by decide +kernel
theorem dX11_seats_20 : decode cX11_seats 20 = .ok (.new 101, 3) := by decide +kernel
theorem dX11_seats_23 : decode cX11_seats 23 = .ok (.dup, 1) := by decide +kernel
theorem dX11_seats_24 : decode cX11_seats 24 = .ok (.ldc_w 405, 3) := by decide +kernel
theorem dX11_seats_27 : decode cX11_seats 27 = .ok (.invokespecial 105, 3) := by decide +kernel
theorem dX11_seats_3 : decode cX11_seats 3 = .ok (.invokevirtual 248, 3) := by decide +kernel
theorem dX11_seats_30 : decode cX11_seats 30 = .ok (.athrow, 1) := by decide +kernel
theorem dX11_seats_31 : decode cX11_seats 31 = .ok (.iload_n 3, 1) := by decide +kernel
theorem dX11_seats_32 : decode cX11_seats 32 = .ok (.bipush 10, 2) := by decide +kernel
theorem dX11_seats_34 : decode cX11_seats 34 = .ok (.invokestatic 330, 3) := by decide +kernel
theorem dX11_seats_37 : decode cX11_seats 37 = .ok (.aload_n 0, 1) := by decide +kernel
theorem dX11_seats_38 : decode cX11_seats 38 = .ok (.getfield 87, 3) := by decide +kernel
theorem dX11_seats_41 : decode cX11_seats 41 = .ok (.iload_n 2, 1) := by decide +kernel
theorem dX11_seats_42 : decode cX11_seats 42 = .ok (.invokevirtual 407, 3) := by decide +kernel
theorem dX11_seats_45 : decode cX11_seats 45 = .ok (.istore 4, 2) := by decide +kernel
theorem dX11_seats_47 : decode cX11_seats 47 = .ok (.iload_n 3, 1) := by decide +kernel
theorem dX11_seats_48 : decode cX11_seats 48 = .ok (.ifCond .ne 6, 3) := by decide +kernel
theorem dX11_seats_51 : decode cX11_seats 51 = .ok (.iload 4, 2) := by decide +kernel
theorem dX11_seats_53 : decode cX11_seats 53 = .ok (.ireturn, 1) := by decide +kernel
theorem dX11_seats_54 : decode cX11_seats 54 = .ok (.iload_n 3, 1) := by decide +kernel
theorem dX11_seats_55 : decode cX11_seats 55 = .ok (.bipush 10, 2) := by decide +kernel
theorem dX11_seats_57 : decode cX11_seats 57 = .ok (.isub, 1) := by decide +kernel
theorem dX11_seats_58 : decode cX11_seats 58 = .ok (.iload_n 2, 1) := by decide +kernel
theorem dX11_seats_59 : decode cX11_seats 59 = .ok (.if_icmp .ge 18, 3) := by decide +kernel
theorem dX11_seats_6 : decode cX11_seats 6 = .ok (.invokevirtual 382, 3) := by decide +kernel
theorem dX11_seats_62 : decode cX11_seats 62 = .ok (.aload_n 0, 1) := by decide +kernel
theorem dX11_seats_63 : decode cX11_seats 63 = .ok (.getfield 87, 3) := by decide +kernel
theorem dX11_seats_66 : decode cX11_seats 66 = .ok (.getfield 410, 3) := by decide +kernel
theorem dX11_seats_69 : decode cX11_seats 69 = .ok (.iload_n 3, 1) := by decide +kernel
theorem dX11_seats_70 : decode cX11_seats 70 = .ok (.bipush 10, 2) := by decide +kernel
theorem dX11_seats_72 : decode cX11_seats 72 = .ok (.isub, 1) := by decide +kernel
theorem dX11_seats_73 : decode cX11_seats 73 = .ok (.iaload, 1) := by decide +kernel
theorem dX11_seats_74 : decode cX11_seats 74 = .ok (.goto 4, 3) := by decide +kernel
theorem dX11_seats_77 : decode cX11_seats 77 = .ok (.iconst (-1), 1) := by decide +kernel
theorem dX11_seats_78 : decode cX11_seats 78 = .ok (.ireturn, 1) := by decide +kernel
theorem dX11_seats_9 : decode cX11_seats 9 = .ok (.iload_n 2, 1) := by decide +kernel
theorem dX7_neighboursAt_0 : decode cX7_neighboursAt 0 = .ok (.iconst 0, 1) := by decide +kernel
theorem dX7_neighboursAt_1 : decode cX7_neighboursAt 1 = .ok (.istore_n 3, 1) := by decide +kernel
theorem dX7_neighboursAt_11 : decode cX7_neighboursAt 11 = .ok (.getfield 28, 3) := by decide +kernel
theorem dX7_neighboursAt_14 : decode cX7_neighboursAt 14 = .ok (.if_icmp .ge 44, 3) := by decide +kernel
theorem dX7_neighboursAt_17 : decode cX7_neighboursAt 17 = .ok (.iload 4, 2) := by decide +kernel
theorem dX7_neighboursAt_19 : decode cX7_neighboursAt 19 = .ok (.iload_n 1, 1) := by decide +kernel
theorem dX7_neighboursAt_2 : decode cX7_neighboursAt 2 = .ok (.iconst 0, 1) := by decide +kernel
theorem dX7_neighboursAt_20 : decode cX7_neighboursAt 20 = .ok (.if_icmp .eq 32, 3) := by decide +kernel
theorem dX7_neighboursAt_23 : decode cX7_neighboursAt 23 = .ok (.aload_n 0, 1) := by decide +kernel
theorem dX7_neighboursAt_24 : decode cX7_neighboursAt 24 = .ok (.getfield 24, 3) := by decide +kernel
theorem dX7_neighboursAt_27 : decode cX7_neighboursAt 27 = .ok (.getfield 86, 3) := by decide +kernel
theorem dX7_neighboursAt_3 : decode cX7_neighboursAt 3 = .ok (.istore 4, 2) := by decide +kernel
theorem dX7_neighboursAt_30 : decode cX7_neighboursAt 30 = .ok (.iload_n 2, 1) := by decide +kernel
theorem dX7_neighboursAt_31 : decode cX7_neighboursAt 31 = .ok (.iaload, 1) := by decide +kernel
theorem dX7_neighboursAt_32 : decode cX7_neighboursAt 32 = .ok (.aload_n 0, 1) := by decide +kernel
theorem dX7_neighboursAt_33 : decode cX7_neighboursAt 33 = .ok (.getfield 9, 3) := by decide +kernel
theorem dX7_neighboursAt_36 : decode cX7_neighboursAt 36 = .ok (.iload 4, 2) := by decide +kernel
theorem dX7_neighboursAt_38 : decode cX7_neighboursAt 38 = .ok (.iaload, 1) := by decide +kernel
theorem dX7_neighboursAt_39 : decode cX7_neighboursAt 39 = .ok (.invokestatic 82, 3) := by decide +kernel
theorem dX7_neighboursAt_42 : decode cX7_neighboursAt 42 = .ok (.ifCond .eq 10, 3) := by decide +kernel
theorem dX7_neighboursAt_45 : decode cX7_neighboursAt 45 = .ok (.iload_n 3, 1) := by decide +kernel
theorem dX7_neighboursAt_46 : decode cX7_neighboursAt 46 = .ok (.iconst 1, 1) := by decide +kernel
theorem dX7_neighboursAt_47 : decode cX7_neighboursAt 47 = .ok (.iload 4, 2) := by decide +kernel
theorem dX7_neighboursAt_49 : decode cX7_neighboursAt 49 = .ok (.ishl, 1) := by decide +kernel
theorem dX7_neighboursAt_5 : decode cX7_neighboursAt 5 = .ok (.iload 4, 2) := by decide +kernel
theorem dX7_neighboursAt_50 : decode cX7_neighboursAt 50 = .ok (.ior, 1) := by decide +kernel
theorem dX7_neighboursAt_51 : decode cX7_neighboursAt 51 = .ok (.istore_n 3, 1) := by decide +kernel
theorem dX7_neighboursAt_52 : decode cX7_neighboursAt 52 = .ok (.iinc 4 1, 3) := by decide +kernel
theorem dX7_neighboursAt_55 : decode cX7_neighboursAt 55 = .ok (.goto (-50), 3) := by decide +kernel
theorem dX7_neighboursAt_58 : decode cX7_neighboursAt 58 = .ok (.iload_n 3, 1) := by decide +kernel
theorem dX7_neighboursAt_59 : decode cX7_neighboursAt 59 = .ok (.ireturn, 1) := by decide +kernel
theorem dX7_neighboursAt_7 : decode cX7_neighboursAt 7 = .ok (.aload_n 0, 1) := by decide +kernel
theorem dX7_neighboursAt_8 : decode cX7_neighboursAt 8 = .ok (.getfield 24, 3) := by decide +kernel
theorem dX8_bestNext_0 : decode cX8_bestNext 0 = .ok (.iload_n 1, 1) := by decide +kernel
theorem dX8_bestNext_1 : decode cX8_bestNext 1 = .ok (.invokestatic 82, 3) := by decide +kernel
theorem dX8_bestNext_10 : decode cX8_bestNext 10 = .ok (.iload 4, 2) := by decide +kernel
theorem dX8_bestNext_12 : decode cX8_bestNext 12 = .ok (.aload_n 0, 1) := by decide +kernel
theorem dX8_bestNext_13 : decode cX8_bestNext 13 = .ok (.getfield 24, 3) := by decide +kernel
theorem dX8_bestNext_16 : decode cX8_bestNext 16 = .ok (.getfield 42, 3) := by decide +kernel
theorem dX8_bestNext_19 : decode cX8_bestNext 19 = .ok (.if_icmp .ge 39, 3) := by decide +kernel
theorem dX8_bestNext_22 : decode cX8_bestNext 22 = .ok (.iload_n 1, 1) := by decide +kernel
theorem dX8_bestNext_23 : decode cX8_bestNext 23 = .ok (.iload 4, 2) := by decide +kernel
theorem dX8_bestNext_25 : decode cX8_bestNext 25 = .ok (.invokestatic 47, 3) := by decide +kernel
theorem dX8_bestNext_28 : decode cX8_bestNext 28 = .ok (.ifCond .eq 24, 3) := by decide +kernel
theorem dX8_bestNext_31 : decode cX8_bestNext 31 = .ok (.aload_n 0, 1) := by decide +kernel
theorem dX8_bestNext_32 : decode cX8_bestNext 32 = .ok (.iload_n 1, 1) := by decide +kernel
theorem dX8_bestNext_33 : decode cX8_bestNext 33 = .ok (.iload_n 2, 1) := by decide +kernel
theorem dX8_bestNext_34 : decode cX8_bestNext 34 = .ok (.iload 4, 2) := by decide +kernel
theorem dX8_bestNext_36 : decode cX8_bestNext 36 = .ok (.invokevirtual 92, 3) := by decide +kernel
theorem dX8_bestNext_39 : decode cX8_bestNext 39 = .ok (.aload_n 0, 1) := by decide +kernel
theorem dX8_bestNext_4 : decode cX8_bestNext 4 = .ok (.istore_n 3, 1) := by decide +kernel
theorem dX8_bestNext_40 : decode cX8_bestNext 40 = .ok (.iload_n 1, 1) := by decide +kernel
theorem dX8_bestNext_41 : decode cX8_bestNext 41 = .ok (.iload_n 2, 1) := by decide +kernel
theorem dX8_bestNext_42 : decode cX8_bestNext 42 = .ok (.iload_n 3, 1) := by decide +kernel
theorem dX8_bestNext_43 : decode cX8_bestNext 43 = .ok (.invokevirtual 92, 3) := by decide +kernel
theorem dX8_bestNext_46 : decode cX8_bestNext 46 = .ok (.if_icmp .ge 6, 3) := by decide +kernel
theorem dX8_bestNext_49 : decode cX8_bestNext 49 = .ok (.iload 4, 2) := by decide +kernel
theorem dX8_bestNext_5 : decode cX8_bestNext 5 = .ok (.iload_n 3, 1) := by decide +kernel
theorem dX8_bestNext_51 : decode cX8_bestNext 51 = .ok (.istore_n 3, 1) := by decide +kernel
theorem dX8_bestNext_52 : decode cX8_bestNext 52 = .ok (.iinc 4 1, 3) := by decide +kernel
theorem dX8_bestNext_55 : decode cX8_bestNext 55 = .ok (.goto (-45), 3) := by decide +kernel
theorem dX8_bestNext_58 : decode cX8_bestNext 58 = .ok (.iload_n 3, 1) := by decide +kernel
theorem dX8_bestNext_59 : decode cX8_bestNext 59 = .ok (.ireturn, 1) := by decide +kernel
theorem dX8_bestNext_6 : decode cX8_bestNext 6 = .ok (.iconst 1, 1) := by decide +kernel
theorem dX8_bestNext_7 : decode cX8_bestNext 7 = .ok (.iadd, 1) := by decide +kernel
theorem dX8_bestNext_8 : decode cX8_bestNext 8 = .ok (.istore 4, 2) := by decide +kernel
theorem dX8_firstQuietSeat_0 : decode cX8_firstQuietSeat 0 = .ok (.iconst 0, 1) := by decide +kernel
theorem dX8_firstQuietSeat_1 : decode cX8_firstQuietSeat 1 = .ok (.istore_n 3, 1) := by decide +kernel
theorem dX8_firstQuietSeat_11 : decode cX8_firstQuietSeat 11 = .ok (.iload_n 2, 1) := by decide +kernel
theorem dX8_firstQuietSeat_12 : decode cX8_firstQuietSeat 12 = .ok (.iconst 1, 1) := by decide +kernel
theorem dX8_firstQuietSeat_13 : decode cX8_firstQuietSeat 13 = .ok (.isub, 1) := by decide +kernel
theorem dX8_firstQuietSeat_14 : decode cX8_firstQuietSeat 14 = .ok (.goto 6, 3) := by decide +kernel
theorem dX8_firstQuietSeat_17 : decode cX8_firstQuietSeat 17 = .ok (.iload_n 3, 1) := by decide +kernel
theorem dX8_firstQuietSeat_18 : decode cX8_firstQuietSeat 18 = .ok (.iconst 1, 1) := by decide +kernel
theorem dX8_firstQuietSeat_19 : decode cX8_firstQuietSeat 19 = .ok (.isub, 1) := by decide +kernel
theorem dX8_firstQuietSeat_2 : decode cX8_firstQuietSeat 2 = .ok (.iload_n 3, 1) := by decide +kernel
theorem dX8_firstQuietSeat_20 : decode cX8_firstQuietSeat 20 = .ok (.istore 4, 2) := by decide +kernel
theorem dX8_firstQuietSeat_22 : decode cX8_firstQuietSeat 22 = .ok (.iload_n 3, 1) := by decide +kernel
theorem dX8_firstQuietSeat_23 : decode cX8_firstQuietSeat 23 = .ok (.iload_n 2, 1) := by decide +kernel
theorem dX8_firstQuietSeat_24 : decode cX8_firstQuietSeat 24 = .ok (.iconst 1, 1) := by decide +kernel
theorem dX8_firstQuietSeat_25 : decode cX8_firstQuietSeat 25 = .ok (.isub, 1) := by decide +kernel
theorem dX8_firstQuietSeat_26 : decode cX8_firstQuietSeat 26 = .ok (.if_icmp .ne 7, 3) := by decide +kernel
theorem dX8_firstQuietSeat_29 : decode cX8_firstQuietSeat 29 = .ok (.iconst 0, 1) := by decide +kernel
theorem dX8_firstQuietSeat_3 : decode cX8_firstQuietSeat 3 = .ok (.iload_n 2, 1) := by decide +kernel
theorem dX8_firstQuietSeat_30 : decode cX8_firstQuietSeat 30 = .ok (.goto 6, 3) := by decide +kernel
theorem dX8_firstQuietSeat_33 : decode cX8_firstQuietSeat 33 = .ok (.iload_n 3, 1) := by decide +kernel
theorem dX8_firstQuietSeat_34 : decode cX8_firstQuietSeat 34 = .ok (.iconst 1, 1) := by decide +kernel
theorem dX8_firstQuietSeat_35 : decode cX8_firstQuietSeat 35 = .ok (.iadd, 1) := by decide +kernel
theorem dX8_firstQuietSeat_36 : decode cX8_firstQuietSeat 36 = .ok (.istore 5, 2) := by decide +kernel
theorem dX8_firstQuietSeat_38 : decode cX8_firstQuietSeat 38 = .ok (.aload_n 0, 1) := by decide +kernel
theorem dX8_firstQuietSeat_39 : decode cX8_firstQuietSeat 39 = .ok (.getfield 15, 3) := by decide +kernel
theorem dX8_firstQuietSeat_4 : decode cX8_firstQuietSeat 4 = .ok (.if_icmp .ge 72, 3) := by decide +kernel
theorem dX8_firstQuietSeat_42 : decode cX8_firstQuietSeat 42 = .ok (.iload_n 3, 1) := by decide +kernel
theorem dX8_firstQuietSeat_43 : decode cX8_firstQuietSeat 43 = .ok (.iaload, 1) := by decide +kernel
theorem dX8_firstQuietSeat_44 : decode cX8_firstQuietSeat 44 = .ok (.iconst (-1), 1) := by decide +kernel
theorem dX8_firstQuietSeat_45 : decode cX8_firstQuietSeat 45 = .ok (.if_icmp .ne 25, 3) := by decide +kernel
theorem dX8_firstQuietSeat_48 : decode cX8_firstQuietSeat 48 = .ok (.aload_n 0, 1) := by decide +kernel
theorem dX8_firstQuietSeat_49 : decode cX8_firstQuietSeat 49 = .ok (.iload_n 1, 1) := by decide +kernel
theorem dX8_firstQuietSeat_50 : decode cX8_firstQuietSeat 50 = .ok (.iload 4, 2) := by decide +kernel
theorem dX8_firstQuietSeat_52 : decode cX8_firstQuietSeat 52 = .ok (.invokevirtual 67, 3) := by decide +kernel
theorem dX8_firstQuietSeat_55 : decode cX8_firstQuietSeat 55 = .ok (.ifCond .eq 15, 3) := by decide +kernel
theorem dX8_firstQuietSeat_58 : decode cX8_firstQuietSeat 58 = .ok (.aload_n 0, 1) := by decide +kernel
theorem dX8_firstQuietSeat_59 : decode cX8_firstQuietSeat 59 = .ok (.iload_n 1, 1) := by decide +kernel
theorem dX8_firstQuietSeat_60 : decode cX8_firstQuietSeat 60 = .ok (.iload 5, 2) := by decide +kernel
theorem dX8_firstQuietSeat_62 : decode cX8_firstQuietSeat 62 = .ok (.invokevirtual 67, 3) := by decide +kernel
theorem dX8_firstQuietSeat_65 : decode cX8_firstQuietSeat 65 = .ok (.ifCond .eq 5, 3) := by decide +kernel
theorem dX8_firstQuietSeat_68 : decode cX8_firstQuietSeat 68 = .ok (.iload_n 3, 1) := by decide +kernel
theorem dX8_firstQuietSeat_69 : decode cX8_firstQuietSeat 69 = .ok (.ireturn, 1) := by decide +kernel
theorem dX8_firstQuietSeat_7 : decode cX8_firstQuietSeat 7 = .ok (.iload_n 3, 1) := by decide +kernel
theorem dX8_firstQuietSeat_70 : decode cX8_firstQuietSeat 70 = .ok (.iinc 3 1, 3) := by decide +kernel
theorem dX8_firstQuietSeat_73 : decode cX8_firstQuietSeat 73 = .ok (.goto (-71), 3) := by decide +kernel
theorem dX8_firstQuietSeat_76 : decode cX8_firstQuietSeat 76 = .ok (.iconst (-1), 1) := by decide +kernel
theorem dX8_firstQuietSeat_77 : decode cX8_firstQuietSeat 77 = .ok (.ireturn, 1) := by decide +kernel
theorem dX8_firstQuietSeat_8 : decode cX8_firstQuietSeat 8 = .ok (.ifCond .ne 9, 3) := by decide +kernel
theorem dX8_goatBetween_0 : decode cX8_goatBetween 0 = .ok (.aload_n 0, 1) := by decide +kernel
theorem dX8_goatBetween_1 : decode cX8_goatBetween 1 = .ok (.getfield 28, 3) := by decide +kernel
theorem dX8_goatBetween_10 : decode cX8_goatBetween 10 = .ok (.ifCond .eq 7, 3) := by decide +kernel
theorem dX8_goatBetween_13 : decode cX8_goatBetween 13 = .ok (.iconst 1, 1) := by decide +kernel
theorem dX8_goatBetween_14 : decode cX8_goatBetween 14 = .ok (.goto 4, 3) := by decide +kernel
theorem dX8_goatBetween_17 : decode cX8_goatBetween 17 = .ok (.iconst 0, 1) := by decide +kernel
theorem dX8_goatBetween_18 : decode cX8_goatBetween 18 = .ok (.ireturn, 1) := by decide +kernel
theorem dX8_goatBetween_4 : decode cX8_goatBetween 4 = .ok (.iload_n 1, 1) := by decide +kernel
theorem dX8_goatBetween_5 : decode cX8_goatBetween 5 = .ok (.iload_n 2, 1) := by decide +kernel
theorem dX8_goatBetween_6 : decode cX8_goatBetween 6 = .ok (.iconst 0, 1) := by decide +kernel
theorem dX8_goatBetween_7 : decode cX8_goatBetween 7 = .ok (.invokevirtual 54, 3) := by decide +kernel
theorem dX8_goatsBy_0 : decode cX8_goatsBy 0 = .ok (.aload_n 0, 1) := by decide +kernel
theorem dX8_goatsBy_1 : decode cX8_goatsBy 1 = .ok (.getfield 18, 3) := by decide +kernel
theorem dX8_goatsBy_10 : decode cX8_goatsBy 10 = .ok (.iand, 1) := by decide +kernel
theorem dX8_goatsBy_11 : decode cX8_goatsBy 11 = .ok (.bipush 8, 2) := by decide +kernel
theorem dX8_goatsBy_13 : decode cX8_goatsBy 13 = .ok (.imul, 1) := by decide +kernel
theorem dX8_goatsBy_14 : decode cX8_goatsBy 14 = .ok (.iload_n 3, 1) := by decide +kernel
theorem dX8_goatsBy_15 : decode cX8_goatsBy 15 = .ok (.iadd, 1) := by decide +kernel
theorem dX8_goatsBy_16 : decode cX8_goatsBy 16 = .ok (.iaload, 1) := by decide +kernel
theorem dX8_goatsBy_17 : decode cX8_goatsBy 17 = .ok (.istore 4, 2) := by decide +kernel
theorem dX8_goatsBy_19 : decode cX8_goatsBy 19 = .ok (.iload 4, 2) := by decide +kernel
theorem dX8_goatsBy_21 : decode cX8_goatsBy 21 = .ok (.iload_n 2, 1) := by decide +kernel
theorem dX8_goatsBy_22 : decode cX8_goatsBy 22 = .ok (.iconst (-1), 1) := by decide +kernel
theorem dX8_goatsBy_23 : decode cX8_goatsBy 23 = .ok (.if_icmp .ne 7, 3) := by decide +kernel
theorem dX8_goatsBy_26 : decode cX8_goatsBy 26 = .ok (.iconst 0, 1) := by decide +kernel
theorem dX8_goatsBy_27 : decode cX8_goatsBy 27 = .ok (.goto 9, 3) := by decide +kernel
theorem dX8_goatsBy_30 : decode cX8_goatsBy 30 = .ok (.aload_n 0, 1) := by decide +kernel
theorem dX8_goatsBy_31 : decode cX8_goatsBy 31 = .ok (.iload_n 2, 1) := by decide +kernel
theorem dX8_goatsBy_32 : decode cX8_goatsBy 32 = .ok (.iload_n 3, 1) := by decide +kernel
theorem dX8_goatsBy_33 : decode cX8_goatsBy 33 = .ok (.invokevirtual 60, 3) := by decide +kernel
theorem dX8_goatsBy_36 : decode cX8_goatsBy 36 = .ok (.iadd, 1) := by decide +kernel
theorem dX8_goatsBy_37 : decode cX8_goatsBy 37 = .ok (.ireturn, 1) := by decide +kernel
theorem dX8_goatsBy_4 : decode cX8_goatsBy 4 = .ok (.iload_n 1, 1) := by decide +kernel
theorem dX8_goatsBy_5 : decode cX8_goatsBy 5 = .ok (.iconst 1, 1) := by decide +kernel
theorem dX8_goatsBy_6 : decode cX8_goatsBy 6 = .ok (.iload_n 3, 1) := by decide +kernel
theorem dX8_goatsBy_7 : decode cX8_goatsBy 7 = .ok (.ishl, 1) := by decide +kernel
theorem dX8_goatsBy_8 : decode cX8_goatsBy 8 = .ok (.iconst (-1), 1) := by decide +kernel
theorem dX8_goatsBy_9 : decode cX8_goatsBy 9 = .ok (.ixor, 1) := by decide +kernel
theorem dX8_goatsOfGuests_0 : decode cX8_goatsOfGuests 0 = .ok (.iconst 0, 1) := by decide +kernel
theorem dX8_goatsOfGuests_1 : decode cX8_goatsOfGuests 1 = .ok (.istore_n 2, 1) := by decide +kernel
theorem dX8_goatsOfGuests_12 : decode cX8_goatsOfGuests 12 = .ok (.iload_n 2, 1) := by decide +kernel
theorem dX8_goatsOfGuests_13 : decode cX8_goatsOfGuests 13 = .ok (.aload_n 0, 1) := by decide +kernel
theorem dX8_goatsOfGuests_14 : decode cX8_goatsOfGuests 14 = .ok (.aload_n 0, 1) := by decide +kernel
theorem dX8_goatsOfGuests_15 : decode cX8_goatsOfGuests 15 = .ok (.getfield 11, 3) := by decide +kernel
theorem dX8_goatsOfGuests_18 : decode cX8_goatsOfGuests 18 = .ok (.iload_n 3, 1) := by decide +kernel
theorem dX8_goatsOfGuests_19 : decode cX8_goatsOfGuests 19 = .ok (.iconst 1, 1) := by decide +kernel
theorem dX8_goatsOfGuests_2 : decode cX8_goatsOfGuests 2 = .ok (.iconst 1, 1) := by decide +kernel
theorem dX8_goatsOfGuests_20 : decode cX8_goatsOfGuests 20 = .ok (.isub, 1) := by decide +kernel
theorem dX8_goatsOfGuests_21 : decode cX8_goatsOfGuests 21 = .ok (.iaload, 1) := by decide +kernel
theorem dX8_goatsOfGuests_22 : decode cX8_goatsOfGuests 22 = .ok (.aload_n 0, 1) := by decide +kernel
theorem dX8_goatsOfGuests_23 : decode cX8_goatsOfGuests 23 = .ok (.getfield 11, 3) := by decide +kernel
theorem dX8_goatsOfGuests_26 : decode cX8_goatsOfGuests 26 = .ok (.iload_n 3, 1) := by decide +kernel
theorem dX8_goatsOfGuests_27 : decode cX8_goatsOfGuests 27 = .ok (.iaload, 1) := by decide +kernel
theorem dX8_goatsOfGuests_28 : decode cX8_goatsOfGuests 28 = .ok (.invokevirtual 60, 3) := by decide +kernel
theorem dX8_goatsOfGuests_3 : decode cX8_goatsOfGuests 3 = .ok (.istore_n 3, 1) := by decide +kernel
theorem dX8_goatsOfGuests_31 : decode cX8_goatsOfGuests 31 = .ok (.iadd, 1) := by decide +kernel
theorem dX8_goatsOfGuests_32 : decode cX8_goatsOfGuests 32 = .ok (.istore_n 2, 1) := by decide +kernel
theorem dX8_goatsOfGuests_33 : decode cX8_goatsOfGuests 33 = .ok (.iinc 3 1, 3) := by decide +kernel
theorem dX8_goatsOfGuests_36 : decode cX8_goatsOfGuests 36 = .ok (.goto (-32), 3) := by decide +kernel
theorem dX8_goatsOfGuests_39 : decode cX8_goatsOfGuests 39 = .ok (.iload_n 1, 1) := by decide +kernel
theorem dX8_goatsOfGuests_4 : decode cX8_goatsOfGuests 4 = .ok (.iload_n 3, 1) := by decide +kernel
theorem dX8_goatsOfGuests_40 : decode cX8_goatsOfGuests 40 = .ok (.ifCond .eq 35, 3) := by decide +kernel
theorem dX8_goatsOfGuests_43 : decode cX8_goatsOfGuests 43 = .ok (.aload_n 0, 1) := by decide +kernel
theorem dX8_goatsOfGuests_44 : decode cX8_goatsOfGuests 44 = .ok (.getfield 51, 3) := by decide +kernel
theorem dX8_goatsOfGuests_47 : decode cX8_goatsOfGuests 47 = .ok (.iconst 2, 1) := by decide +kernel
theorem dX8_goatsOfGuests_48 : decode cX8_goatsOfGuests 48 = .ok (.if_icmp .le 27, 3) := by decide +kernel
theorem dX8_goatsOfGuests_5 : decode cX8_goatsOfGuests 5 = .ok (.aload_n 0, 1) := by decide +kernel
theorem dX8_goatsOfGuests_51 : decode cX8_goatsOfGuests 51 = .ok (.iload_n 2, 1) := by decide +kernel
theorem dX8_goatsOfGuests_52 : decode cX8_goatsOfGuests 52 = .ok (.aload_n 0, 1) := by decide +kernel
theorem dX8_goatsOfGuests_53 : decode cX8_goatsOfGuests 53 = .ok (.aload_n 0, 1) := by decide +kernel
theorem dX8_goatsOfGuests_54 : decode cX8_goatsOfGuests 54 = .ok (.getfield 11, 3) := by decide +kernel
theorem dX8_goatsOfGuests_57 : decode cX8_goatsOfGuests 57 = .ok (.aload_n 0, 1) := by decide +kernel
theorem dX8_goatsOfGuests_58 : decode cX8_goatsOfGuests 58 = .ok (.getfield 51, 3) := by decide +kernel
theorem dX8_goatsOfGuests_6 : decode cX8_goatsOfGuests 6 = .ok (.getfield 51, 3) := by decide +kernel
theorem dX8_goatsOfGuests_61 : decode cX8_goatsOfGuests 61 = .ok (.iconst 1, 1) := by decide +kernel
theorem dX8_goatsOfGuests_62 : decode cX8_goatsOfGuests 62 = .ok (.isub, 1) := by decide +kernel
theorem dX8_goatsOfGuests_63 : decode cX8_goatsOfGuests 63 = .ok (.iaload, 1) := by decide +kernel
theorem dX8_goatsOfGuests_64 : decode cX8_goatsOfGuests 64 = .ok (.aload_n 0, 1) := by decide +kernel
theorem dX8_goatsOfGuests_65 : decode cX8_goatsOfGuests 65 = .ok (.getfield 11, 3) := by decide +kernel
theorem dX8_goatsOfGuests_68 : decode cX8_goatsOfGuests 68 = .ok (.iconst 0, 1) := by decide +kernel
theorem dX8_goatsOfGuests_69 : decode cX8_goatsOfGuests 69 = .ok (.iaload, 1) := by decide +kernel
theorem dX8_goatsOfGuests_70 : decode cX8_goatsOfGuests 70 = .ok (.invokevirtual 60, 3) := by decide +kernel
theorem dX8_goatsOfGuests_73 : decode cX8_goatsOfGuests 73 = .ok (.iadd, 1) := by decide +kernel
theorem dX8_goatsOfGuests_74 : decode cX8_goatsOfGuests 74 = .ok (.istore_n 2, 1) := by decide +kernel
theorem dX8_goatsOfGuests_75 : decode cX8_goatsOfGuests 75 = .ok (.iload_n 2, 1) := by decide +kernel
theorem dX8_goatsOfGuests_76 : decode cX8_goatsOfGuests 76 = .ok (.ireturn, 1) := by decide +kernel
theorem dX8_goatsOfGuests_9 : decode cX8_goatsOfGuests 9 = .ok (.if_icmp .ge 30, 3) := by decide +kernel
theorem dX8_invite_0 : decode cX8_invite 0 = .ok (.aload_n 1, 1) := by decide +kernel
theorem dX8_invite_1 : decode cX8_invite 1 = .ok (.getfield 32, 3) := by decide +kernel
theorem dX8_invite_102 : decode cX8_invite 102 = .ok (.iconst 1, 1) := by decide +kernel
theorem dX8_invite_103 : decode cX8_invite 103 = .ok (.ireturn, 1) := by decide +kernel
theorem dX8_invite_12 : decode cX8_invite 12 = .ok (.bipush 10, 2) := by decide +kernel
theorem dX8_invite_14 : decode cX8_invite 14 = .ok (.if_icmp .le 5, 3) := by decide +kernel
theorem dX8_invite_17 : decode cX8_invite 17 = .ok (.iconst 0, 1) := by decide +kernel
theorem dX8_invite_18 : decode cX8_invite 18 = .ok (.ireturn, 1) := by decide +kernel
theorem dX8_invite_19 : decode cX8_invite 19 = .ok (.iconst 0, 1) := by decide +kernel
theorem dX8_invite_20 : decode cX8_invite 20 = .ok (.istore_n 2, 1) := by decide +kernel
theorem dX8_invite_21 : decode cX8_invite 21 = .ok (.iconst 0, 1) := by decide +kernel
theorem dX8_invite_22 : decode cX8_invite 22 = .ok (.istore_n 3, 1) := by decide +kernel
theorem dX8_invite_23 : decode cX8_invite 23 = .ok (.iload_n 3, 1) := by decide +kernel
theorem dX8_invite_24 : decode cX8_invite 24 = .ok (.aload_n 1, 1) := by decide +kernel
theorem dX8_invite_25 : decode cX8_invite 25 = .ok (.getfield 32, 3) := by decide +kernel
theorem dX8_invite_28 : decode cX8_invite 28 = .ok (.if_icmp .ge 66, 3) := by decide +kernel
theorem dX8_invite_31 : decode cX8_invite 31 = .ok (.aload_n 1, 1) := by decide +kernel
theorem dX8_invite_32 : decode cX8_invite 32 = .ok (.iload_n 3, 1) := by decide +kernel
theorem dX8_invite_33 : decode cX8_invite 33 = .ok (.invokevirtual 38, 3) := by decide +kernel
theorem dX8_invite_36 : decode cX8_invite 36 = .ok (.lstore 4, 2) := by decide +kernel
theorem dX8_invite_38 : decode cX8_invite 38 = .ok (.lload 4, 2) := by decide +kernel
theorem dX8_invite_4 : decode cX8_invite 4 = .ok (.iconst 1, 1) := by decide +kernel
theorem dX8_invite_40 : decode cX8_invite 40 = .ok (.lconst 0, 1) := by decide +kernel
theorem dX8_invite_41 : decode cX8_invite 41 = .ok (.lcmp, 1) := by decide +kernel
theorem dX8_invite_42 : decode cX8_invite 42 = .ok (.ifCond .lt 27, 3) := by decide +kernel
theorem dX8_invite_45 : decode cX8_invite 45 = .ok (.lload 4, 2) := by decide +kernel
theorem dX8_invite_47 : decode cX8_invite 47 = .ok (.aload_n 0, 1) := by decide +kernel
theorem dX8_invite_48 : decode cX8_invite 48 = .ok (.getfield 24, 3) := by decide +kernel
theorem dX8_invite_5 : decode cX8_invite 5 = .ok (.if_icmp .lt 12, 3) := by decide +kernel
theorem dX8_invite_51 : decode cX8_invite 51 = .ok (.getfield 42, 3) := by decide +kernel
theorem dX8_invite_54 : decode cX8_invite 54 = .ok (.i2l, 1) := by decide +kernel
theorem dX8_invite_55 : decode cX8_invite 55 = .ok (.lcmp, 1) := by decide +kernel
theorem dX8_invite_56 : decode cX8_invite 56 = .ok (.ifCond .ge 13, 3) := by decide +kernel
theorem dX8_invite_59 : decode cX8_invite 59 = .ok (.iload_n 2, 1) := by decide +kernel
theorem dX8_invite_60 : decode cX8_invite 60 = .ok (.lload 4, 2) := by decide +kernel
theorem dX8_invite_62 : decode cX8_invite 62 = .ok (.l2i, 1) := by decide +kernel
theorem dX8_invite_63 : decode cX8_invite 63 = .ok (.invokestatic 47, 3) := by decide +kernel
theorem dX8_invite_66 : decode cX8_invite 66 = .ok (.ifCond .eq 5, 3) := by decide +kernel
theorem dX8_invite_69 : decode cX8_invite 69 = .ok (.iconst 0, 1) := by decide +kernel
theorem dX8_invite_70 : decode cX8_invite 70 = .ok (.ireturn, 1) := by decide +kernel
theorem dX8_invite_71 : decode cX8_invite 71 = .ok (.iload_n 2, 1) := by decide +kernel
theorem dX8_invite_72 : decode cX8_invite 72 = .ok (.iconst 1, 1) := by decide +kernel
theorem dX8_invite_73 : decode cX8_invite 73 = .ok (.lload 4, 2) := by decide +kernel
theorem dX8_invite_75 : decode cX8_invite 75 = .ok (.l2i, 1) := by decide +kernel
theorem dX8_invite_76 : decode cX8_invite 76 = .ok (.ishl, 1) := by decide +kernel
theorem dX8_invite_77 : decode cX8_invite 77 = .ok (.ior, 1) := by decide +kernel
theorem dX8_invite_78 : decode cX8_invite 78 = .ok (.istore_n 2, 1) := by decide +kernel
theorem dX8_invite_79 : decode cX8_invite 79 = .ok (.aload_n 0, 1) := by decide +kernel
theorem dX8_invite_8 : decode cX8_invite 8 = .ok (.aload_n 1, 1) := by decide +kernel
theorem dX8_invite_80 : decode cX8_invite 80 = .ok (.getfield 11, 3) := by decide +kernel
theorem dX8_invite_83 : decode cX8_invite 83 = .ok (.iload_n 3, 1) := by decide +kernel
theorem dX8_invite_84 : decode cX8_invite 84 = .ok (.lload 4, 2) := by decide +kernel
theorem dX8_invite_86 : decode cX8_invite 86 = .ok (.l2i, 1) := by decide +kernel
theorem dX8_invite_87 : decode cX8_invite 87 = .ok (.iastore, 1) := by decide +kernel
theorem dX8_invite_88 : decode cX8_invite 88 = .ok (.iinc 3 1, 3) := by decide +kernel
theorem dX8_invite_9 : decode cX8_invite 9 = .ok (.getfield 32, 3) := by decide +kernel
theorem dX8_invite_91 : decode cX8_invite 91 = .ok (.goto (-68), 3) := by decide +kernel
theorem dX8_invite_94 : decode cX8_invite 94 = .ok (.aload_n 0, 1) := by decide +kernel
theorem dX8_invite_95 : decode cX8_invite 95 = .ok (.aload_n 1, 1) := by decide +kernel
theorem dX8_invite_96 : decode cX8_invite 96 = .ok (.getfield 32, 3) := by decide +kernel
theorem dX8_invite_99 : decode cX8_invite 99 = .ok (.putfield 51, 3) := by decide +kernel
theorem dX8_isQuietBeside_0 : decode cX8_isQuietBeside 0 = .ok (.aload_n 0, 1) := by decide +kernel
theorem dX8_isQuietBeside_1 : decode cX8_isQuietBeside 1 = .ok (.getfield 15, 3) := by decide +kernel
theorem dX8_isQuietBeside_10 : decode cX8_isQuietBeside 10 = .ok (.aload_n 0, 1) := by decide +kernel
theorem dX8_isQuietBeside_11 : decode cX8_isQuietBeside 11 = .ok (.getfield 28, 3) := by decide +kernel
theorem dX8_isQuietBeside_14 : decode cX8_isQuietBeside 14 = .ok (.iload_n 1, 1) := by decide +kernel
theorem dX8_isQuietBeside_15 : decode cX8_isQuietBeside 15 = .ok (.aload_n 0, 1) := by decide +kernel
theorem dX8_isQuietBeside_16 : decode cX8_isQuietBeside 16 = .ok (.getfield 15, 3) := by decide +kernel
theorem dX8_isQuietBeside_19 : decode cX8_isQuietBeside 19 = .ok (.iload_n 2, 1) := by decide +kernel
theorem dX8_isQuietBeside_20 : decode cX8_isQuietBeside 20 = .ok (.iaload, 1) := by decide +kernel
theorem dX8_isQuietBeside_21 : decode cX8_isQuietBeside 21 = .ok (.iconst 0, 1) := by decide +kernel
theorem dX8_isQuietBeside_22 : decode cX8_isQuietBeside 22 = .ok (.invokevirtual 54, 3) := by decide +kernel
theorem dX8_isQuietBeside_25 : decode cX8_isQuietBeside 25 = .ok (.ifCond .ne 7, 3) := by decide +kernel
theorem dX8_isQuietBeside_28 : decode cX8_isQuietBeside 28 = .ok (.iconst 1, 1) := by decide +kernel
theorem dX8_isQuietBeside_29 : decode cX8_isQuietBeside 29 = .ok (.goto 4, 3) := by decide +kernel
theorem dX8_isQuietBeside_32 : decode cX8_isQuietBeside 32 = .ok (.iconst 0, 1) := by decide +kernel
theorem dX8_isQuietBeside_33 : decode cX8_isQuietBeside 33 = .ok (.ireturn, 1) := by decide +kernel
theorem dX8_isQuietBeside_4 : decode cX8_isQuietBeside 4 = .ok (.iload_n 2, 1) := by decide +kernel
theorem dX8_isQuietBeside_5 : decode cX8_isQuietBeside 5 = .ok (.iaload, 1) := by decide +kernel
theorem dX8_isQuietBeside_6 : decode cX8_isQuietBeside 6 = .ok (.iconst (-1), 1) := by decide +kernel
theorem dX8_isQuietBeside_7 : decode cX8_isQuietBeside 7 = .ok (.if_icmp .eq 21, 3) := by decide +kernel
theorem dX8_lineUp_0 : decode cX8_lineUp 0 = .ok (.aload_n 0, 1) := by decide +kernel
theorem dX8_lineUp_1 : decode cX8_lineUp 1 = .ok (.iload_n 1, 1) := by decide +kernel
theorem dX8_lineUp_10 : decode cX8_lineUp 10 = .ok (.putfield 79, 3) := by decide +kernel
theorem dX8_lineUp_101 : decode cX8_lineUp 101 = .ok (.goto 11, 3) := by decide +kernel
theorem dX8_lineUp_104 : decode cX8_lineUp 104 = .ok (.aload_n 0, 1) := by decide +kernel
theorem dX8_lineUp_105 : decode cX8_lineUp 105 = .ok (.iload 5, 2) := by decide +kernel
theorem dX8_lineUp_107 : decode cX8_lineUp 107 = .ok (.iload 6, 2) := by decide +kernel
theorem dX8_lineUp_109 : decode cX8_lineUp 109 = .ok (.invokevirtual 89, 3) := by decide +kernel
theorem dX8_lineUp_112 : decode cX8_lineUp 112 = .ok (.istore 8, 2) := by decide +kernel
theorem dX8_lineUp_114 : decode cX8_lineUp 114 = .ok (.aload_n 0, 1) := by decide +kernel
theorem dX8_lineUp_115 : decode cX8_lineUp 115 = .ok (.dup, 1) := by decide +kernel
theorem dX8_lineUp_116 : decode cX8_lineUp 116 = .ok (.getfield 79, 3) := by decide +kernel
theorem dX8_lineUp_119 : decode cX8_lineUp 119 = .ok (.iload 6, 2) := by decide +kernel
theorem dX8_lineUp_121 : decode cX8_lineUp 121 = .ok (.iconst (-1), 1) := by decide +kernel
theorem dX8_lineUp_122 : decode cX8_lineUp 122 = .ok (.if_icmp .ne 7, 3) := by decide +kernel
theorem dX8_lineUp_125 : decode cX8_lineUp 125 = .ok (.iconst 0, 1) := by decide +kernel
theorem dX8_lineUp_126 : decode cX8_lineUp 126 = .ok (.goto 11, 3) := by decide +kernel
theorem dX8_lineUp_129 : decode cX8_lineUp 129 = .ok (.aload_n 0, 1) := by decide +kernel
theorem dX8_lineUp_13 : decode cX8_lineUp 13 = .ok (.iload_n 1, 1) := by decide +kernel
theorem dX8_lineUp_130 : decode cX8_lineUp 130 = .ok (.iload 6, 2) := by decide +kernel
theorem dX8_lineUp_132 : decode cX8_lineUp 132 = .ok (.iload 8, 2) := by decide +kernel
theorem dX8_lineUp_134 : decode cX8_lineUp 134 = .ok (.invokevirtual 60, 3) := by decide +kernel
theorem dX8_lineUp_137 : decode cX8_lineUp 137 = .ok (.iadd, 1) := by decide +kernel
theorem dX8_lineUp_138 : decode cX8_lineUp 138 = .ok (.putfield 79, 3) := by decide +kernel
theorem dX8_lineUp_14 : decode cX8_lineUp 14 = .ok (.invokestatic 82, 3) := by decide +kernel
theorem dX8_lineUp_141 : decode cX8_lineUp 141 = .ok (.aload_n 0, 1) := by decide +kernel
theorem dX8_lineUp_142 : decode cX8_lineUp 142 = .ok (.getfield 21, 3) := by decide +kernel
theorem dX8_lineUp_145 : decode cX8_lineUp 145 = .ok (.iload 7, 2) := by decide +kernel
theorem dX8_lineUp_147 : decode cX8_lineUp 147 = .ok (.iload 8, 2) := by decide +kernel
theorem dX8_lineUp_149 : decode cX8_lineUp 149 = .ok (.iastore, 1) := by decide +kernel
theorem dX8_lineUp_150 : decode cX8_lineUp 150 = .ok (.iload 5, 2) := by decide +kernel
theorem dX8_lineUp_152 : decode cX8_lineUp 152 = .ok (.iconst 1, 1) := by decide +kernel
theorem dX8_lineUp_153 : decode cX8_lineUp 153 = .ok (.iload 8, 2) := by decide +kernel
theorem dX8_lineUp_155 : decode cX8_lineUp 155 = .ok (.ishl, 1) := by decide +kernel
theorem dX8_lineUp_156 : decode cX8_lineUp 156 = .ok (.iconst (-1), 1) := by decide +kernel
theorem dX8_lineUp_157 : decode cX8_lineUp 157 = .ok (.ixor, 1) := by decide +kernel
theorem dX8_lineUp_158 : decode cX8_lineUp 158 = .ok (.iand, 1) := by decide +kernel
theorem dX8_lineUp_159 : decode cX8_lineUp 159 = .ok (.istore 5, 2) := by decide +kernel
theorem dX8_lineUp_161 : decode cX8_lineUp 161 = .ok (.iload 8, 2) := by decide +kernel
theorem dX8_lineUp_163 : decode cX8_lineUp 163 = .ok (.istore 6, 2) := by decide +kernel
theorem dX8_lineUp_165 : decode cX8_lineUp 165 = .ok (.iinc 7 1, 3) := by decide +kernel
theorem dX8_lineUp_168 : decode cX8_lineUp 168 = .ok (.goto (-89), 3) := by decide +kernel
theorem dX8_lineUp_17 : decode cX8_lineUp 17 = .ok (.istore_n 3, 1) := by decide +kernel
theorem dX8_lineUp_171 : decode cX8_lineUp 171 = .ok (.iload 4, 2) := by decide +kernel
theorem dX8_lineUp_173 : decode cX8_lineUp 173 = .ok (.iconst (-1), 1) := by decide +kernel
theorem dX8_lineUp_174 : decode cX8_lineUp 174 = .ok (.if_icmp .eq 20, 3) := by decide +kernel
theorem dX8_lineUp_177 : decode cX8_lineUp 177 = .ok (.aload_n 0, 1) := by decide +kernel
theorem dX8_lineUp_178 : decode cX8_lineUp 178 = .ok (.dup, 1) := by decide +kernel
theorem dX8_lineUp_179 : decode cX8_lineUp 179 = .ok (.getfield 79, 3) := by decide +kernel
theorem dX8_lineUp_18 : decode cX8_lineUp 18 = .ok (.iload_n 2, 1) := by decide +kernel
theorem dX8_lineUp_182 : decode cX8_lineUp 182 = .ok (.aload_n 0, 1) := by decide +kernel
theorem dX8_lineUp_183 : decode cX8_lineUp 183 = .ok (.iload 6, 2) := by decide +kernel
theorem dX8_lineUp_185 : decode cX8_lineUp 185 = .ok (.iload 4, 2) := by decide +kernel
theorem dX8_lineUp_187 : decode cX8_lineUp 187 = .ok (.invokevirtual 60, 3) := by decide +kernel
theorem dX8_lineUp_19 : decode cX8_lineUp 19 = .ok (.ifCond .eq 15, 3) := by decide +kernel
theorem dX8_lineUp_190 : decode cX8_lineUp 190 = .ok (.iadd, 1) := by decide +kernel
theorem dX8_lineUp_191 : decode cX8_lineUp 191 = .ok (.putfield 79, 3) := by decide +kernel
theorem dX8_lineUp_194 : decode cX8_lineUp 194 = .ok (.return_, 1) := by decide +kernel
theorem dX8_lineUp_2 : decode cX8_lineUp 2 = .ok (.invokestatic 70, 3) := by decide +kernel
theorem dX8_lineUp_22 : decode cX8_lineUp 22 = .ok (.aload_n 0, 1) := by decide +kernel
theorem dX8_lineUp_23 : decode cX8_lineUp 23 = .ok (.getfield 76, 3) := by decide +kernel
theorem dX8_lineUp_26 : decode cX8_lineUp 26 = .ok (.iconst 2, 1) := by decide +kernel
theorem dX8_lineUp_27 : decode cX8_lineUp 27 = .ok (.if_icmp .le 7, 3) := by decide +kernel
theorem dX8_lineUp_30 : decode cX8_lineUp 30 = .ok (.iload_n 3, 1) := by decide +kernel
theorem dX8_lineUp_31 : decode cX8_lineUp 31 = .ok (.goto 4, 3) := by decide +kernel
theorem dX8_lineUp_34 : decode cX8_lineUp 34 = .ok (.iconst (-1), 1) := by decide +kernel
theorem dX8_lineUp_35 : decode cX8_lineUp 35 = .ok (.istore 4, 2) := by decide +kernel
theorem dX8_lineUp_37 : decode cX8_lineUp 37 = .ok (.iconst 0, 1) := by decide +kernel
theorem dX8_lineUp_38 : decode cX8_lineUp 38 = .ok (.istore 5, 2) := by decide +kernel
theorem dX8_lineUp_40 : decode cX8_lineUp 40 = .ok (.iload 5, 2) := by decide +kernel
theorem dX8_lineUp_42 : decode cX8_lineUp 42 = .ok (.iload_n 1, 1) := by decide +kernel
theorem dX8_lineUp_43 : decode cX8_lineUp 43 = .ok (.if_icmp .ge 27, 3) := by decide +kernel
theorem dX8_lineUp_46 : decode cX8_lineUp 46 = .ok (.iload 5, 2) := by decide +kernel
theorem dX8_lineUp_48 : decode cX8_lineUp 48 = .ok (.iload_n 1, 1) := by decide +kernel
theorem dX8_lineUp_49 : decode cX8_lineUp 49 = .ok (.iconst (-1), 1) := by decide +kernel
theorem dX8_lineUp_5 : decode cX8_lineUp 5 = .ok (.putfield 76, 3) := by decide +kernel
theorem dX8_lineUp_50 : decode cX8_lineUp 50 = .ok (.ixor, 1) := by decide +kernel
theorem dX8_lineUp_51 : decode cX8_lineUp 51 = .ok (.iand, 1) := by decide +kernel
theorem dX8_lineUp_52 : decode cX8_lineUp 52 = .ok (.ifCond .ne 12, 3) := by decide +kernel
theorem dX8_lineUp_55 : decode cX8_lineUp 55 = .ok (.aload_n 0, 1) := by decide +kernel
theorem dX8_lineUp_56 : decode cX8_lineUp 56 = .ok (.iload_n 1, 1) := by decide +kernel
theorem dX8_lineUp_57 : decode cX8_lineUp 57 = .ok (.iload 5, 2) := by decide +kernel
theorem dX8_lineUp_59 : decode cX8_lineUp 59 = .ok (.iload 4, 2) := by decide +kernel
theorem dX8_lineUp_61 : decode cX8_lineUp 61 = .ok (.invokevirtual 85, 3) := by decide +kernel
theorem dX8_lineUp_64 : decode cX8_lineUp 64 = .ok (.iinc 5 1, 3) := by decide +kernel
theorem dX8_lineUp_67 : decode cX8_lineUp 67 = .ok (.goto (-27), 3) := by decide +kernel
theorem dX8_lineUp_70 : decode cX8_lineUp 70 = .ok (.iload_n 1, 1) := by decide +kernel
theorem dX8_lineUp_71 : decode cX8_lineUp 71 = .ok (.istore 5, 2) := by decide +kernel
theorem dX8_lineUp_73 : decode cX8_lineUp 73 = .ok (.iconst (-1), 1) := by decide +kernel
theorem dX8_lineUp_74 : decode cX8_lineUp 74 = .ok (.istore 6, 2) := by decide +kernel
theorem dX8_lineUp_76 : decode cX8_lineUp 76 = .ok (.iconst 0, 1) := by decide +kernel
theorem dX8_lineUp_77 : decode cX8_lineUp 77 = .ok (.istore 7, 2) := by decide +kernel
theorem dX8_lineUp_79 : decode cX8_lineUp 79 = .ok (.iload 7, 2) := by decide +kernel
theorem dX8_lineUp_8 : decode cX8_lineUp 8 = .ok (.aload_n 0, 1) := by decide +kernel
theorem dX8_lineUp_81 : decode cX8_lineUp 81 = .ok (.aload_n 0, 1) := by decide +kernel
theorem dX8_lineUp_82 : decode cX8_lineUp 82 = .ok (.getfield 76, 3) := by decide +kernel
theorem dX8_lineUp_85 : decode cX8_lineUp 85 = .ok (.if_icmp .ge 86, 3) := by decide +kernel
theorem dX8_lineUp_88 : decode cX8_lineUp 88 = .ok (.iload 7, 2) := by decide +kernel
theorem dX8_lineUp_9 : decode cX8_lineUp 9 = .ok (.iconst 0, 1) := by decide +kernel
theorem dX8_lineUp_90 : decode cX8_lineUp 90 = .ok (.ifCond .ne 14, 3) := by decide +kernel
theorem dX8_lineUp_93 : decode cX8_lineUp 93 = .ok (.iload 4, 2) := by decide +kernel
theorem dX8_lineUp_95 : decode cX8_lineUp 95 = .ok (.iconst (-1), 1) := by decide +kernel
theorem dX8_lineUp_96 : decode cX8_lineUp 96 = .ok (.if_icmp .eq 8, 3) := by decide +kernel
theorem dX8_lineUp_99 : decode cX8_lineUp 99 = .ok (.iload 4, 2) := by decide +kernel
theorem dX8_seatGuests_0 : decode cX8_seatGuests 0 = .ok (.iconst 0, 1) := by decide +kernel
theorem dX8_seatGuests_1 : decode cX8_seatGuests 1 = .ok (.istore_n 2, 1) := by decide +kernel
theorem dX8_seatGuests_11 : decode cX8_seatGuests 11 = .ok (.iload_n 2, 1) := by decide +kernel
theorem dX8_seatGuests_12 : decode cX8_seatGuests 12 = .ok (.iconst (-1), 1) := by decide +kernel
theorem dX8_seatGuests_13 : decode cX8_seatGuests 13 = .ok (.iastore, 1) := by decide +kernel
theorem dX8_seatGuests_14 : decode cX8_seatGuests 14 = .ok (.iinc 2 1, 3) := by decide +kernel
theorem dX8_seatGuests_17 : decode cX8_seatGuests 17 = .ok (.goto (-15), 3) := by decide +kernel
theorem dX8_seatGuests_2 : decode cX8_seatGuests 2 = .ok (.iload_n 2, 1) := by decide +kernel
theorem dX8_seatGuests_20 : decode cX8_seatGuests 20 = .ok (.iconst 0, 1) := by decide +kernel
theorem dX8_seatGuests_21 : decode cX8_seatGuests 21 = .ok (.istore_n 2, 1) := by decide +kernel
theorem dX8_seatGuests_22 : decode cX8_seatGuests 22 = .ok (.iconst 0, 1) := by decide +kernel
theorem dX8_seatGuests_23 : decode cX8_seatGuests 23 = .ok (.istore_n 3, 1) := by decide +kernel
theorem dX8_seatGuests_24 : decode cX8_seatGuests 24 = .ok (.iload_n 3, 1) := by decide +kernel
theorem dX8_seatGuests_25 : decode cX8_seatGuests 25 = .ok (.aload_n 0, 1) := by decide +kernel
theorem dX8_seatGuests_26 : decode cX8_seatGuests 26 = .ok (.getfield 51, 3) := by decide +kernel
theorem dX8_seatGuests_29 : decode cX8_seatGuests 29 = .ok (.if_icmp .ge 44, 3) := by decide +kernel
theorem dX8_seatGuests_3 : decode cX8_seatGuests 3 = .ok (.iload_n 1, 1) := by decide +kernel
theorem dX8_seatGuests_32 : decode cX8_seatGuests 32 = .ok (.aload_n 0, 1) := by decide +kernel
theorem dX8_seatGuests_33 : decode cX8_seatGuests 33 = .ok (.aload_n 0, 1) := by decide +kernel
theorem dX8_seatGuests_34 : decode cX8_seatGuests 34 = .ok (.getfield 11, 3) := by decide +kernel
theorem dX8_seatGuests_37 : decode cX8_seatGuests 37 = .ok (.iload_n 3, 1) := by decide +kernel
theorem dX8_seatGuests_38 : decode cX8_seatGuests 38 = .ok (.iaload, 1) := by decide +kernel
theorem dX8_seatGuests_39 : decode cX8_seatGuests 39 = .ok (.iload_n 1, 1) := by decide +kernel
theorem dX8_seatGuests_4 : decode cX8_seatGuests 4 = .ok (.if_icmp .ge 16, 3) := by decide +kernel
theorem dX8_seatGuests_40 : decode cX8_seatGuests 40 = .ok (.invokevirtual 64, 3) := by decide +kernel
theorem dX8_seatGuests_43 : decode cX8_seatGuests 43 = .ok (.istore 4, 2) := by decide +kernel
theorem dX8_seatGuests_45 : decode cX8_seatGuests 45 = .ok (.iload 4, 2) := by decide +kernel
theorem dX8_seatGuests_47 : decode cX8_seatGuests 47 = .ok (.iconst (-1), 1) := by decide +kernel
theorem dX8_seatGuests_48 : decode cX8_seatGuests 48 = .ok (.if_icmp .eq 19, 3) := by decide +kernel
theorem dX8_seatGuests_51 : decode cX8_seatGuests 51 = .ok (.aload_n 0, 1) := by decide +kernel
theorem dX8_seatGuests_52 : decode cX8_seatGuests 52 = .ok (.getfield 15, 3) := by decide +kernel
theorem dX8_seatGuests_55 : decode cX8_seatGuests 55 = .ok (.iload 4, 2) := by decide +kernel
theorem dX8_seatGuests_57 : decode cX8_seatGuests 57 = .ok (.aload_n 0, 1) := by decide +kernel
theorem dX8_seatGuests_58 : decode cX8_seatGuests 58 = .ok (.getfield 11, 3) := by decide +kernel
theorem dX8_seatGuests_61 : decode cX8_seatGuests 61 = .ok (.iload_n 3, 1) := by decide +kernel
theorem dX8_seatGuests_62 : decode cX8_seatGuests 62 = .ok (.iaload, 1) := by decide +kernel
theorem dX8_seatGuests_63 : decode cX8_seatGuests 63 = .ok (.iastore, 1) := by decide +kernel
theorem dX8_seatGuests_64 : decode cX8_seatGuests 64 = .ok (.iinc 2 1, 3) := by decide +kernel
theorem dX8_seatGuests_67 : decode cX8_seatGuests 67 = .ok (.iinc 3 1, 3) := by decide +kernel
theorem dX8_seatGuests_7 : decode cX8_seatGuests 7 = .ok (.aload_n 0, 1) := by decide +kernel
theorem dX8_seatGuests_70 : decode cX8_seatGuests 70 = .ok (.goto (-46), 3) := by decide +kernel
theorem dX8_seatGuests_73 : decode cX8_seatGuests 73 = .ok (.iload_n 2, 1) := by decide +kernel
theorem dX8_seatGuests_74 : decode cX8_seatGuests 74 = .ok (.ireturn, 1) := by decide +kernel
theorem dX8_seatGuests_8 : decode cX8_seatGuests 8 = .ok (.getfield 15, 3) := by decide +kernel
theorem dX8_weigh_0 : decode cX8_weigh 0 = .ok (.iconst 0, 1) := by decide +kernel
theorem dX8_weigh_1 : decode cX8_weigh 1 = .ok (.istore 4, 2) := by decide +kernel
theorem dX8_weigh_12 : decode cX8_weigh 12 = .ok (.if_icmp .ge 80, 3) := by decide +kernel
theorem dX8_weigh_15 : decode cX8_weigh 15 = .ok (.iload_n 1, 1) := by decide +kernel
theorem dX8_weigh_16 : decode cX8_weigh 16 = .ok (.iload_n 2, 1) := by decide +kernel
theorem dX8_weigh_17 : decode cX8_weigh 17 = .ok (.iconst (-1), 1) := by decide +kernel
theorem dX8_weigh_18 : decode cX8_weigh 18 = .ok (.ixor, 1) := by decide +kernel
theorem dX8_weigh_19 : decode cX8_weigh 19 = .ok (.iand, 1) := by decide +kernel
theorem dX8_weigh_20 : decode cX8_weigh 20 = .ok (.iload 4, 2) := by decide +kernel
theorem dX8_weigh_22 : decode cX8_weigh 22 = .ok (.invokestatic 47, 3) := by decide +kernel
theorem dX8_weigh_25 : decode cX8_weigh 25 = .ok (.ifCond .eq 61, 3) := by decide +kernel
theorem dX8_weigh_28 : decode cX8_weigh 28 = .ok (.iload_n 3, 1) := by decide +kernel
theorem dX8_weigh_29 : decode cX8_weigh 29 = .ok (.iconst (-1), 1) := by decide +kernel
theorem dX8_weigh_3 : decode cX8_weigh 3 = .ok (.iload 4, 2) := by decide +kernel
theorem dX8_weigh_30 : decode cX8_weigh 30 = .ok (.if_icmp .eq 9, 3) := by decide +kernel
theorem dX8_weigh_33 : decode cX8_weigh 33 = .ok (.iload_n 3, 1) := by decide +kernel
theorem dX8_weigh_34 : decode cX8_weigh 34 = .ok (.iload 4, 2) := by decide +kernel
theorem dX8_weigh_36 : decode cX8_weigh 36 = .ok (.if_icmp .ne 7, 3) := by decide +kernel
theorem dX8_weigh_39 : decode cX8_weigh 39 = .ok (.iconst 0, 1) := by decide +kernel
theorem dX8_weigh_40 : decode cX8_weigh 40 = .ok (.goto 10, 3) := by decide +kernel
theorem dX8_weigh_43 : decode cX8_weigh 43 = .ok (.aload_n 0, 1) := by decide +kernel
theorem dX8_weigh_44 : decode cX8_weigh 44 = .ok (.iload 4, 2) := by decide +kernel
theorem dX8_weigh_46 : decode cX8_weigh 46 = .ok (.iload_n 3, 1) := by decide +kernel
theorem dX8_weigh_47 : decode cX8_weigh 47 = .ok (.invokevirtual 60, 3) := by decide +kernel
theorem dX8_weigh_5 : decode cX8_weigh 5 = .ok (.aload_n 0, 1) := by decide +kernel
theorem dX8_weigh_50 : decode cX8_weigh 50 = .ok (.istore 5, 2) := by decide +kernel
theorem dX8_weigh_52 : decode cX8_weigh 52 = .ok (.iload_n 2, 1) := by decide +kernel
theorem dX8_weigh_53 : decode cX8_weigh 53 = .ok (.ifCond .eq 19, 3) := by decide +kernel
theorem dX8_weigh_56 : decode cX8_weigh 56 = .ok (.aload_n 0, 1) := by decide +kernel
theorem dX8_weigh_57 : decode cX8_weigh 57 = .ok (.iload_n 2, 1) := by decide +kernel
theorem dX8_weigh_58 : decode cX8_weigh 58 = .ok (.iload 4, 2) := by decide +kernel
theorem dX8_weigh_6 : decode cX8_weigh 6 = .ok (.getfield 24, 3) := by decide +kernel
theorem dX8_weigh_60 : decode cX8_weigh 60 = .ok (.aload_n 0, 1) := by decide +kernel
theorem dX8_weigh_61 : decode cX8_weigh 61 = .ok (.iload_n 2, 1) := by decide +kernel
theorem dX8_weigh_62 : decode cX8_weigh 62 = .ok (.iload 4, 2) := by decide +kernel
theorem dX8_weigh_64 : decode cX8_weigh 64 = .ok (.invokevirtual 89, 3) := by decide +kernel
theorem dX8_weigh_67 : decode cX8_weigh 67 = .ok (.invokevirtual 92, 3) := by decide +kernel
theorem dX8_weigh_70 : decode cX8_weigh 70 = .ok (.istore 5, 2) := by decide +kernel
theorem dX8_weigh_72 : decode cX8_weigh 72 = .ok (.aload_n 0, 1) := by decide +kernel
theorem dX8_weigh_73 : decode cX8_weigh 73 = .ok (.getfield 18, 3) := by decide +kernel
theorem dX8_weigh_76 : decode cX8_weigh 76 = .ok (.iload_n 2, 1) := by decide +kernel
theorem dX8_weigh_77 : decode cX8_weigh 77 = .ok (.bipush 8, 2) := by decide +kernel
theorem dX8_weigh_79 : decode cX8_weigh 79 = .ok (.imul, 1) := by decide +kernel
theorem dX8_weigh_80 : decode cX8_weigh 80 = .ok (.iload 4, 2) := by decide +kernel
theorem dX8_weigh_82 : decode cX8_weigh 82 = .ok (.iadd, 1) := by decide +kernel
theorem dX8_weigh_83 : decode cX8_weigh 83 = .ok (.iload 5, 2) := by decide +kernel
theorem dX8_weigh_85 : decode cX8_weigh 85 = .ok (.iastore, 1) := by decide +kernel
theorem dX8_weigh_86 : decode cX8_weigh 86 = .ok (.iinc 4 1, 3) := by decide +kernel
theorem dX8_weigh_89 : decode cX8_weigh 89 = .ok (.goto (-86), 3) := by decide +kernel
theorem dX8_weigh_9 : decode cX8_weigh 9 = .ok (.getfield 42, 3) := by decide +kernel
theorem dX8_weigh_92 : decode cX8_weigh 92 = .ok (.return_, 1) := by decide +kernel
set_option maxRecDepth 4000 in
theorem k_X0_findCalmest_49 (l : Launch) (M : Mem) (hJ : Iw M) : CV l yX0_findCalmest cX0_findCalmest 1 none 14 (fun ad => [.ref (ad 49)]) M (fun M' => Fr [14, 15, 16, 17, 49, 54, 55, 56] M M') := by
  obtain ⟨hI, hW⟩ := hJ
  have hF : Fr [14, 15, 16, 17, 49, 54, 55, 56] M M := Fr.rf
  refine en_v (by decide +kernel) (fun ad => by exact Nat.le_of_ble_eq_true rfl) (fun D cy ad A p e s m args below meth c Q F hret => ?_)
  refine z_eq (ls' := [(0, .ref (ad 49))]) rfl rfl rfl ?_
  refine z_aload_n F dX0_findCalmest_0 rfl (q := 0) rfl ?_
  refine rf_X0_38 F gs_49 rfl dX0_findCalmest_1 ?_
  refine rf_X0_83 F gs_35 rfl dX0_findCalmest_4 ?_
  refine z_iconst F dX0_findCalmest_7 ?_
  refine z_aload_n F dX0_findCalmest_8 rfl (q := 0) rfl ?_
  refine rf_X0_25 F gs_49 rfl dX0_findCalmest_9 ?_
  refine z_iconst F dX0_findCalmest_12 ?_
  refine z_bipush F dX0_findCalmest_13 (by decide +kernel) ?_
  refine z_copy F (by decide) ac_X0_142 hI gs_37 gs_54 (by omega) (by omega) (by omega) (by omega) (by omega) (by decide) (by decide) (fun i hi => rfl) (Nat.le_of_ble_eq_true rfl) dX0_findCalmest_15 (fun M2 hI g1 => ?_)
  have hF := hF.call g1 (by decide)
  have hW : WFk M2 := hW.fr g1 (by decide) (by decide)
  refine z_aload_n F dX0_findCalmest_18 rfl (q := 0) rfl ?_
  refine z_ldc (x := 1000000) F dX0_findCalmest_19 (gin lm_789 rfl) (by decide +kernel) ?_
  refine pf_X0_149 F hI gs_49 rfl bd_49_12 rfl rfl dX0_findCalmest_21 (by omega) (by omega) (fun M4 hI sf3 f3 => ?_)
  have hF := hF.wr f3 (by decide) (by decide)
  have hW : WFk M4 := hW.site f3 (by decide)
  refine z_aload_n F dX0_findCalmest_24 rfl (q := 0) rfl ?_
  refine z_iconst F dX0_findCalmest_25 ?_
  refine z_iconst F dX0_findCalmest_26 ?_
  refine z_aload_n F dX0_findCalmest_27 rfl (q := 0) rfl ?_
  refine rf_X0_38 F gs_49 rfl dX0_findCalmest_28 ?_
  refine zv_i (rest := [ii 0, ii 0, .ref (ad 49)]) F (k_X7_clashCount_35 l M4 ⟨hI, hW⟩) cs_X0_152 (T := TX7) (N := 7) (ci := 7) rfl gs_35 (by decide) (by decide) rfl rfl rfl (Nat.le_of_ble_eq_true rfl) dX0_findCalmest_31 (fun v5 M6 rv5 hI p7 => ?_)
  obtain ⟨hI, hW⟩ := hI
  obtain ⟨⟨av5, bv5⟩, rfl⟩ := p7
  refine z_iconst F dX0_findCalmest_34 ?_
  refine zv_v (rest := []) F (k_X0_arrange_49 l 7 M4 ⟨hI, hW⟩ 0 (by omega) (by omega) 0 (by omega) (by omega) v5 (by omega) (by omega) 0 (by omega) (by omega) (by omega)) cs_X0_155 (T := TX0) (N := 13) (ci := 0) rfl gs_49 (by decide) (by decide) rfl rfl rfl (Nat.le_of_ble_eq_true rfl) dX0_findCalmest_35 (fun M8 hI p9 => ?_)
  obtain ⟨hI, hW⟩ := hI
  have fp9 := p9
  have hF := hF.call fp9 (by decide)
  exact hret _ 38 _ ⟨hI, hW⟩ hF dX0_findCalmest_38
set_option maxRecDepth 4000 in
theorem k_X11_calm (l : Launch) (hlT : l.stackTraces = false) (M : Mem) (hJ : Iw M) (x0 : Int) (hx0a : (-2147483648) ≤ x0) (hx0b : x0 ≤ 2147483647) : CIX l yX11_calm cX11_calm 2 (some .int) 15 1 (fun ad => [.ref (ad 0), ii x0]) M (fun z M' => ((-2147483648) ≤ z ∧ z ≤ 2147483647) ∧ Fr [14, 15, 16, 17, 49, 54, 55, 56] M M') (fun E M' => (E = "java/lang/IllegalArgumentException" ∧ True ∧ Fr [14, 15, 16, 17, 49, 54, 55, 56] M M')) := by
  obtain ⟨hI, hW⟩ := hJ
  have hF : Fr [14, 15, 16, 17, 49, 54, 55, 56] M M := Fr.rf
  refine enx_i (by decide +kernel) (fun ad => by exact Nat.le_of_ble_eq_true rfl) (fun D cy ad A p e s m args below meth c Q F hQ hr hlk hex => ?_)
  refine z_eq (ls' := [(0, .ref (ad 0)), (1, ii x0)]) rfl rfl rfl ?_
  refine z_iload_n F dX11_calm_0 rfl (q := 1) rfl ?_
  refine z_bipush F dX11_calm_1 (by decide +kernel) ?_
  refine zz_v (rest := []) F (k_X11_needWhatOrPart l hlT M ⟨hI, hW⟩ x0 (by omega) (by omega) 6 (by omega) (by omega)) cs_X11_330 (by decide) (by decide) ⟨by decide, by decide⟩ rfl rfl rfl (Nat.le_of_ble_eq_true rfl) dX11_calm_3 (fun E M9 hJ9 hx => by obtain ⟨h9, g9, rfl⟩ := hx <;> first | (exact zx_out hQ hlk hex ⟨by decide, by decide⟩ hJ9 (⟨h9, trivial, hF⟩))) (fun M1 hI p2 => ?_)
  obtain ⟨hI, hW⟩ := hI
  obtain ⟨rfl, xp2⟩ := p2
  refine z_aload_n F dX11_calm_6 rfl (q := 0) rfl ?_
  refine rf_X11_73 F gs_0 rfl dX11_calm_7 ?_
  refine zw_v (rest := []) F (k_X0_findCalmest_49 l M ⟨hI, hW⟩) cs_X11_357 (T := TX0) (N := 13) (ci := 0) rfl gs_49 (by decide) (by decide) ⟨by decide, by decide⟩ rfl rfl rfl (Nat.le_of_ble_eq_true rfl) dX11_calm_10 (fun M3 hI p4 => ?_)
  obtain ⟨hI, hW⟩ := hI
  have fp4 := p4
  have hF := hF.call fp4 (by decide)
  refine z_iload_n F dX11_calm_13 rfl (q := 1) rfl ?_
  refine z_if_ne (tgt := 25) F dX11_calm_14 (by decide +kernel) (by omega) (fun c5 => ?_) (fun c5 => ?_)
  · refine z_iload_n F dX11_calm_25 rfl (q := 1) rfl ?_
    refine z_bipush F dX11_calm_26 (by decide +kernel) ?_
    refine z_isub F dX11_calm_28 ?_
    refine z_wrap (fun v6 rv6 wv6 => ?_)
    refine z_aload_n F dX11_calm_29 rfl (q := 0) rfl ?_
    refine rf_X11_16 F gs_0 rfl dX11_calm_30 ?_
    refine gf_X11_363 F hI gs_2 rfl bd_2_4 dX11_calm_33 (fun v7 ev7 av7 bv7 => ?_)
    refine z_icmp_ge (tgt := 54) F dX11_calm_36 (by decide +kernel) (by omega) (by omega) (fun c8 => ?_) (fun c8 => ?_)
    · refine z_iconst F dX11_calm_54 ?_
      exact zxr_i F hQ hr hlk dX11_calm_55 ⟨by decide, by decide⟩ (by omega) ⟨hI, hW⟩ ⟨⟨by omega, by omega⟩, hF⟩
    · refine z_aload_n F dX11_calm_39 rfl (q := 0) rfl ?_
      refine rf_X11_73 F gs_0 rfl dX11_calm_40 ?_
      refine rf_X11_366 F gs_49 rfl dX11_calm_43 ?_
      refine z_iload_n F dX11_calm_46 rfl (q := 1) rfl ?_
      refine z_bipush F dX11_calm_47 (by decide +kernel) ?_
      refine z_isub F dX11_calm_49 ?_
      refine z_wrap (fun v9 rv9 wv9 => ?_)
      have k10 : 0 ≤ v9 ∧ v9 ≤ 5 := by omega
      refine z_iald F hI gs_56 (by omega) (by omega) (by decide) bd_56 dX11_calm_50 (fun v11 (ev11 : v11 = M3 56 _) av11 bv11 => ?_)
      refine z_goto (tgt := 55) F dX11_calm_51 (by decide +kernel) ?_
      exact zxr_i F hQ hr hlk dX11_calm_55 ⟨by decide, by decide⟩ (by omega) ⟨hI, hW⟩ ⟨⟨by omega, by omega⟩, hF⟩
  · refine z_aload_n F dX11_calm_17 rfl (q := 0) rfl ?_
    refine rf_X11_73 F gs_0 rfl dX11_calm_18 ?_
    refine gf_X11_360 F hI gs_49 rfl bd_49_12 dX11_calm_21 (fun v12 ev12 av12 bv12 => ?_)
    exact zxr_i F hQ hr hlk dX11_calm_24 ⟨by decide, by decide⟩ (by omega) ⟨hI, hW⟩ ⟨⟨by omega, by omega⟩, hF⟩
set_option maxRecDepth 4000 in
theorem k_X11_event (l : Launch) (hlT : l.stackTraces = false) (M : Mem) (hJ : Iw M) (x0 : Int) (hx0a : (-2147483648) ≤ x0) (hx0b : x0 ≤ 2147483647) (x1 : Int) (hx1a : (-2147483648) ≤ x1) (hx1b : x1 ≤ 2147483647) : CIX l yX11_event cX11_event 3 (some .int) 1 1 (fun ad => [.ref (ad 0), ii x0, ii x1]) M (fun z M' => ((-2147483648) ≤ z ∧ z ≤ 2147483647) ∧ M = M') (fun E M' => (E = "java/lang/IllegalArgumentException" ∧ True ∧ M = M') ∨ (E = "java/util/NoSuchElementException" ∧ True ∧ M = M')) := by
  obtain ⟨hI, hW⟩ := hJ
  refine enx_i (by decide +kernel) (fun ad => by exact Nat.le_of_ble_eq_true rfl) (fun D cy ad A p e s m args below meth c Q F hQ hr hlk hex => ?_)
  refine z_eq (ls' := [(0, .ref (ad 0)), (1, ii x0), (2, ii x1)]) rfl rfl rfl ?_
  refine z_iload_n F dX11_event_0 rfl (q := 1) rfl ?_
  refine z_if_lt (tgt := 15) F dX11_event_1 (by decide +kernel) (by omega) (fun c1 => ?_) (fun c1 => ?_)
  · exact z_thrNW (j := 44) F hlT hQ hlk hex (gin lm_319 rfl) (gin lm_320 rfl) at_X11_207 bad_X11_207 (by decide +kernel) ot_X11_207 rfl rfl rfl dX11_event_15 dX11_event_18 dX11_event_19 dX11_event_22 dX11_event_25 ⟨by decide, by decide⟩ (Nat.le_of_ble_eq_true rfl) ⟨hI, hW⟩ (Or.inr (⟨rfl, trivial, rfl⟩))
  · refine z_iload_n F dX11_event_4 rfl (q := 1) rfl ?_
    refine z_aload_n F dX11_event_5 rfl (q := 0) rfl ?_
    refine rf_X11_16 F gs_0 rfl dX11_event_6 ?_
    refine gf_X11_363 F hI gs_2 rfl bd_2_4 dX11_event_9 (fun v2 ev2 av2 bv2 => ?_)
    refine z_icmp_lt (tgt := 26) F dX11_event_12 (by decide +kernel) (by omega) (by omega) (fun c3 => ?_) (fun c3 => ?_)
    · refine z_iload_n F dX11_event_26 rfl (q := 2) rfl ?_
      rcases (show x1 = 0 ∨ x1 = 1 ∨ x1 = 2 ∨ (¬ x1 = 0 ∧ ¬ x1 = 1 ∧ ¬ x1 = 2) by omega) with c4 | c4 | c4 | c4
      · refine z_tabIn (tgt := 52) (off := 25) F dX11_event_27 (by omega) (by omega) (by omega) (by rw [c4]; rfl) (by decide +kernel) ?_
        refine z_aload_n F dX11_event_52 rfl (q := 0) rfl ?_
        refine rf_X11_16 F gs_0 rfl dX11_event_53 ?_
        refine rf_X11_371 F gs_2 rfl dX11_event_56 ?_
        refine z_iload_n F dX11_event_59 rfl (q := 1) rfl ?_
        refine z_iald F hI gs_10 (by omega) (by omega) (by decide) bd_10 dX11_event_60 (fun v5 (ev5 : v5 = M 10 _) av5 bv5 => ?_)
        exact zxr_i F hQ hr hlk dX11_event_61 ⟨by decide, by decide⟩ (by omega) ⟨hI, hW⟩ ⟨⟨by omega, by omega⟩, rfl⟩
      · refine z_tabIn (tgt := 62) (off := 35) F dX11_event_27 (by omega) (by omega) (by omega) (by rw [c4]; rfl) (by decide +kernel) ?_
        refine z_aload_n F dX11_event_62 rfl (q := 0) rfl ?_
        refine rf_X11_16 F gs_0 rfl dX11_event_63 ?_
        refine rf_X11_374 F gs_2 rfl dX11_event_66 ?_
        refine z_iload_n F dX11_event_69 rfl (q := 1) rfl ?_
        refine z_iald F hI gs_11 (by omega) (by omega) (by decide) bd_11 dX11_event_70 (fun v6 (ev6 : v6 = M 11 _) av6 bv6 => ?_)
        exact zxr_i F hQ hr hlk dX11_event_71 ⟨by decide, by decide⟩ (by omega) ⟨hI, hW⟩ ⟨⟨by omega, by omega⟩, rfl⟩
      · refine z_tabIn (tgt := 72) (off := 45) F dX11_event_27 (by omega) (by omega) (by omega) (by rw [c4]; rfl) (by decide +kernel) ?_
        refine z_aload_n F dX11_event_72 rfl (q := 0) rfl ?_
        refine rf_X11_16 F gs_0 rfl dX11_event_73 ?_
        refine rf_X11_377 F gs_2 rfl dX11_event_76 ?_
        refine z_iload_n F dX11_event_79 rfl (q := 1) rfl ?_
        refine z_iald F hI gs_12 (by omega) (by omega) (by decide) bd_12 dX11_event_80 (fun v7 (ev7 : v7 = M 12 _) av7 bv7 => ?_)
        exact zxr_i F hQ hr hlk dX11_event_81 ⟨by decide, by decide⟩ (by omega) ⟨hI, hW⟩ ⟨⟨by omega, by omega⟩, rfl⟩
      · refine z_tabOut (tgt := 82) F dX11_event_27 (by omega) (by omega) (by decide +kernel) ?_
        exact z_thrSW (cls := "java/lang/IllegalArgumentException") (names := ["java/lang/RuntimeException", "java/lang/Exception"]) (j := 45) F hlT hQ hlk hex (by decide +kernel) (by decide +kernel) (by decide) (gin lm_360 rfl) (gin lm_361 rfl) at_X11_105 bad_X11_105 (by decide +kernel) ot_X11_105 rfl rfl rfl dX11_event_82 dX11_event_85 dX11_event_86 dX11_event_89 dX11_event_92 ⟨by decide, by decide⟩ (Nat.le_of_ble_eq_true rfl) ⟨hI, hW⟩ (Or.inl ⟨rfl, trivial, rfl⟩)
    · exact z_thrNW (j := 44) F hlT hQ hlk hex (gin lm_319 rfl) (gin lm_320 rfl) at_X11_207 bad_X11_207 (by decide +kernel) ot_X11_207 rfl rfl rfl dX11_event_15 dX11_event_18 dX11_event_19 dX11_event_22 dX11_event_25 ⟨by decide, by decide⟩ (Nat.le_of_ble_eq_true rfl) ⟨hI, hW⟩ (Or.inr (⟨rfl, trivial, rfl⟩))
set_option maxRecDepth 4000 in
theorem k_X8_invite_58_123 (l : Launch) (M : Mem) (hJ : Iw M) : CI l yX8_invite cX8_invite 6 (some .boolean) 2 (fun ad => [.ref (ad 58), .ref (ad 123)]) M (fun z M' => (0 ≤ z ∧ z ≤ 1) ∧ Fr [58, 59] M M' ∧ (z = 1 → 1 ≤ M 123 0 ∧ M 123 0 ≤ 10)) := by
  obtain ⟨hI, hW⟩ := hJ
  have hF : Fr [58, 59] M M := Fr.rf
  refine en_z (by decide +kernel) (fun ad => by exact Nat.le_of_ble_eq_true rfl) (fun D cy ad A p e s m args below meth c Q F hret => ?_)
  refine z_eq (ls' := [(0, .ref (ad 58)), (1, .ref (ad 123))]) rfl rfl rfl ?_
  refine z_aload_n F dX8_invite_0 rfl (q := 1) rfl ?_
  refine gf_X8_32 F hI gs_123 rfl bd_123_0 dX8_invite_1 (fun v1 ev1 av1 bv1 => ?_)
  refine z_iconst F dX8_invite_4 ?_
  refine z_icmp_lt (tgt := 17) F dX8_invite_5 (by decide +kernel) (by omega) (by omega) (fun c2 => ?_) (fun c2 => ?_)
  · refine z_iconst F dX8_invite_17 ?_
    exact hret _ _ 18 _ ⟨by omega, by omega⟩ ⟨hI, hW⟩ ⟨⟨by omega, by omega⟩, hF, (by omega)⟩ dX8_invite_18
  · refine z_aload_n F dX8_invite_8 rfl (q := 1) rfl ?_
    refine gf_X8_32 F hI gs_123 rfl bd_123_0 dX8_invite_9 (fun v3 ev3 av3 bv3 => ?_)
    have zv3 : v1 = v3 := ev1.trans ev3.symm
    subst zv3
    refine z_bipush F dX8_invite_12 (by decide +kernel) ?_
    refine z_icmp_le (tgt := 19) F dX8_invite_14 (by decide +kernel) (by omega) (by omega) (fun c4 => ?_) (fun c4 => ?_)
    · refine z_iconst F dX8_invite_19 ?_
      refine z_istore_n F dX8_invite_20 rfl (by decide) (ls' := [(2, ii 0), (0, .ref (ad 58)), (1, .ref (ad 123))]) rfl ?_
      refine z_iconst F dX8_invite_21 ?_
      refine z_istore_n F dX8_invite_22 rfl (by decide) (ls' := [(3, ii 0), (2, ii 0), (0, .ref (ad 58)), (1, .ref (ad 123))]) rfl ?_
      refine z_loc [2, 3, 1, 0] (ls' := [(0, .ref (ad 58)), (1, .ref (ad 123)), (2, ii 0), (3, ii 0)]) rfl ?_
      suffices key23 : ∀ (n : Nat) (y6 : Int) (y7 : Int) (M5 : Mem), Inv M5 → WFk M5 → Fr [58, 59] M M5 → 0 ≤ y6 → y6 ≤ 255 → 0 ≤ y7 → y7 ≤ 10 → (1 ≤ M5 123 0) → (M5 123 0 ≤ 10) → (M5 123 0 = M 123 0) → 10 - y7 < (n : Int) → Z D cy ad p l e (RMh 2) s m args below meth c A 6 0 0 Q 23 [(0, .ref (ad 58)), (1, .ref (ad 123)), (2, ii y6), (3, ii y7)] [] M5 from key23 11 0 0 M hI hW hF (by omega) (by omega) (by omega) (by omega) (by omega) (by omega) (by omega) (by omega)
      intro n23
      induction n23 with
      | zero => intro y6 y7 M5 hI hW hF ay6 by6 ay7 by7 i23_0 i23_1 i23_2 hn23; exfalso; omega
      | succ n23 ih23 =>
        intro y6 y7 M5 hI hW hF ay6 by6 ay7 by7 i23_0 i23_1 i23_2 hn23
        obtain ⟨u8, eu8⟩ : ∃ v : Int, v = M5 123 0 := ⟨_, rfl⟩
        have ku8 : 1 ≤ u8 ∧ u8 ≤ 10 := by have := hI.at (show Bd 123 0 = (-1, 30) from rfl); omega
        refine z_iload_n F dX8_invite_23 rfl (q := 3) rfl ?_
        refine z_aload_n F dX8_invite_24 rfl (q := 1) rfl ?_
        refine gf_X8_32 F hI gs_123 rfl bd_123_0 dX8_invite_25 (fun v9 ev9 av9 bv9 => ?_)
        have zv9 : u8 = v9 := eu8.trans ev9.symm
        subst zv9
        refine z_icmp_ge (tgt := 94) F dX8_invite_28 (by decide +kernel) (by omega) (by omega) (fun c10 => ?_) (fun c10 => ?_)
        · refine z_aload_n F dX8_invite_94 rfl (q := 0) rfl ?_
          refine z_aload_n F dX8_invite_95 rfl (q := 1) rfl ?_
          refine gf_X8_32 F hI gs_123 rfl bd_123_0 dX8_invite_96 (fun v11 ev11 av11 bv11 => ?_)
          have zv11 : u8 = v11 := eu8.trans ev11.symm
          subst zv11
          refine pf_X8_51 F hI gs_58 rfl bd_58_3 rfl rfl dX8_invite_99 (by omega) (by omega) (fun M13 hI sf12 f12 => ?_)
          have hF := hF.wr f12 (by decide) (by decide)
          have hW : WFk M13 := hW.site f12 (by decide)
          refine z_iconst F dX8_invite_102 ?_
          exact hret _ _ 103 _ ⟨by omega, by omega⟩ ⟨hI, hW⟩ ⟨⟨by omega, by omega⟩, hF, (by omega)⟩ dX8_invite_103
        · refine z_aload_n F dX8_invite_31 rfl (q := 1) rfl ?_
          refine z_iload_n F dX8_invite_32 rfl (q := 3) rfl ?_
          refine zv_l (rest := []) F (k_X10_numberAt_123 l M5 ⟨hI, hW⟩ y7 (by omega) (by omega)) cs_X8_38 (T := TX10) (N := 3) (ci := 10) rfl gs_123 (by decide) (by decide) rfl rfl rfl (Nat.le_of_ble_eq_true rfl) dX8_invite_33 (fun v14 M15 rv14 hI p16 => ?_)
          obtain ⟨hI, hW⟩ := hI
          obtain ⟨⟨av14, bv14⟩, rfl⟩ := p16
          refine z_lstore F dX8_invite_36 (by decide) (ls' := [(4, ll v14), (0, .ref (ad 58)), (1, .ref (ad 123)), (2, ii y6), (3, ii y7)]) rfl ?_
          refine z_lload F dX8_invite_38 (q := 0) rfl ?_
          refine z_lconst (x := 0) F dX8_invite_40 (by decide +kernel) ?_
          refine z_lcmp F dX8_invite_41 (by omega) (by omega) (fun v17 ev17 => ?_)
          refine z_if_lt (tgt := 69) F dX8_invite_42 (by decide +kernel) (by omega) (fun c18 => ?_) (fun c18 => ?_)
          · refine z_iconst F dX8_invite_69 ?_
            exact hret _ _ 70 _ ⟨by omega, by omega⟩ ⟨hI, hW⟩ ⟨⟨by omega, by omega⟩, hF, (by omega)⟩ dX8_invite_70
          · refine z_lload F dX8_invite_45 (q := 0) rfl ?_
            refine z_aload_n F dX8_invite_47 rfl (q := 1) rfl ?_
            refine rf_X8_24 F gs_58 rfl dX8_invite_48 ?_
            refine gf_X8_42 F hI gs_2 rfl bd_2_3 dX8_invite_51 (fun v19 ev19 av19 bv19 => ?_)
            refine z_i2l F dX8_invite_54 (by omega) ?_
            refine z_lcmp F dX8_invite_55 (by omega) (by omega) (fun v20 ev20 => ?_)
            refine z_if_ge (tgt := 69) F dX8_invite_56 (by decide +kernel) (by omega) (fun c21 => ?_) (fun c21 => ?_)
            · refine z_iconst F dX8_invite_69 ?_
              exact hret _ _ 70 _ ⟨by omega, by omega⟩ ⟨hI, hW⟩ ⟨⟨by omega, by omega⟩, hF, (by omega)⟩ dX8_invite_70
            · refine z_iload_n F dX8_invite_59 rfl (q := 3) rfl ?_
              refine z_lload F dX8_invite_60 (q := 0) rfl ?_
              refine z_l2i F dX8_invite_62 (by omega) ?_
              refine zn_i (rest := []) F (k_X11_isIn l M5 ⟨hI, hW⟩ y6 (by omega) (by omega) v14 (by omega) (by omega)) cs_X8_47 (by decide) (by decide) rfl rfl rfl (Nat.le_of_ble_eq_true rfl) dX8_invite_63 (fun v22 M23 rv22 hI p24 => ?_)
              obtain ⟨hI, hW⟩ := hI
              obtain ⟨⟨av22, bv22⟩, rfl, xp24⟩ := p24
              have hbqv14 := xp24
              refine z_if_eq (tgt := 71) F dX8_invite_66 (by decide +kernel) (by omega) (fun c25 => ?_) (fun c25 => ?_)
              · refine z_iload_n F dX8_invite_71 rfl (q := 3) rfl ?_
                refine z_iconst F dX8_invite_72 ?_
                refine z_lload F dX8_invite_73 (q := 0) rfl ?_
                refine z_l2i F dX8_invite_75 (by omega) ?_
                refine z_shl1 (k := 7) F dX8_invite_76 (by decide) (by omega) (by omega) (fun v26 ev26 av26 bv26 => ?_)
                refine z_ior_k (k := 8) F dX8_invite_77 (by decide) (by omega) (by omega) (by omega) (by omega) (fun v27 av27 bv27 => ?_)
                refine z_istore_n F dX8_invite_78 rfl (by decide) (ls' := [(2, ii v27), (4, ll v14), (0, .ref (ad 58)), (1, .ref (ad 123)), (3, ii y7)]) rfl ?_
                refine z_aload_n F dX8_invite_79 rfl (q := 2) rfl ?_
                refine rf_X8_11 F gs_58 rfl dX8_invite_80 ?_
                refine z_iload_n F dX8_invite_83 rfl (q := 4) rfl ?_
                refine z_lload F dX8_invite_84 (q := 1) rfl ?_
                refine z_l2i F dX8_invite_86 (by omega) ?_
                refine z_iast F hI gs_59 (by omega) (by omega) (by decide) bd_59 dX8_invite_87 (by omega) (by omega) (fun M29 hI sf28 f28 => ?_)
                have hF := hF.wr f28 (by decide) (by decide)
                have hW : WFk M29 := hW.site f28 (by decide)
                refine z_iincN F dX8_invite_88 (q := 4) rfl (by decide) (fun v30 ev30 => ?_)
                refine z_eq (ls' := [(3, ii v30), (2, ii v27), (4, ll v14), (0, .ref (ad 58)), (1, .ref (ad 123))]) rfl rfl rfl ?_
                refine z_goto (tgt := 23) F dX8_invite_91 (by decide +kernel) ?_
                refine z_loc [3, 4, 1, 0] (ls' := [(0, .ref (ad 58)), (1, .ref (ad 123)), (2, ii v27), (3, ii v30)]) rfl ?_
                have q31 : u8 = M29 123 0 := eu8.trans (f28 123 0 (fun q => absurd q.1 (by decide))).symm
                exact ih23 v27 v30 M29 hI hW hF (by omega) (by omega) (by omega) (by omega) (by omega) (by omega) (by omega) (by omega)
              · refine z_iconst F dX8_invite_69 ?_
                exact hret _ _ 70 _ ⟨by omega, by omega⟩ ⟨hI, hW⟩ ⟨⟨by omega, by omega⟩, hF, (by omega)⟩ dX8_invite_70
    · refine z_iconst F dX8_invite_17 ?_
      exact hret _ _ 18 _ ⟨by omega, by omega⟩ ⟨hI, hW⟩ ⟨⟨by omega, by omega⟩, hF, (by omega)⟩ dX8_invite_18
set_option maxRecDepth 4000 in
theorem k_X11_needGuests_0_123 (l : Launch) (hlT : l.stackTraces = false) (M : Mem) (hJ : Iw M) : CVX l yX11_needGuests cX11_needGuests 2 none 3 1 (fun ad => [.ref (ad 0), .ref (ad 123)]) M (fun M' => Fr [58, 59] M M' ∧ (1 ≤ M 123 0 ∧ M 123 0 ≤ 10)) (fun E M' => (E = "java/lang/IllegalArgumentException" ∧ True ∧ Fr [58, 59] M M')) := by
  obtain ⟨hI, hW⟩ := hJ
  have hF : Fr [58, 59] M M := Fr.rf
  refine enx_v (by decide +kernel) (fun ad => by exact Nat.le_of_ble_eq_true rfl) (fun D cy ad A p e s m args below meth c Q F hQ hr hlk hex => ?_)
  refine z_eq (ls' := [(0, .ref (ad 0)), (1, .ref (ad 123))]) rfl rfl rfl ?_
  refine z_aload_n F dX11_needGuests_0 rfl (q := 0) rfl ?_
  refine rf_X11_87 F gs_0 rfl dX11_needGuests_1 ?_
  refine z_aload_n F dX11_needGuests_4 rfl (q := 1) rfl ?_
  refine zw_i (rest := []) F (k_X8_invite_58_123 l M ⟨hI, hW⟩) cs_X11_413 (T := TX8) (N := 9) (ci := 8) rfl gs_58 (by decide) (by decide) ⟨by decide, by decide⟩ rfl rfl rfl (Nat.le_of_ble_eq_true rfl) dX11_needGuests_5 (fun v1 M2 rv1 hI p3 => ?_)
  obtain ⟨hI, hW⟩ := hI
  obtain ⟨⟨av1, bv1⟩, fp3, xp3⟩ := p3
  have hF := hF.call fp3 (by decide)
  refine z_if_ne (tgt := 22) F dX11_needGuests_8 (by decide +kernel) (by omega) (fun c4 => ?_) (fun c4 => ?_)
  · exact zxr_v F hQ hr hlk dX11_needGuests_22 ⟨by decide, by decide⟩ ⟨hI, hW⟩ ⟨hF, (by omega)⟩
  · exact z_thrSW (cls := "java/lang/IllegalArgumentException") (names := ["java/lang/RuntimeException", "java/lang/Exception"]) (j := 46) F hlT hQ hlk hex (by decide +kernel) (by decide +kernel) (by decide) (gin lm_360 rfl) (gin lm_361 rfl) at_X11_105 bad_X11_105 (by decide +kernel) ot_X11_105 rfl rfl rfl dX11_needGuests_11 dX11_needGuests_14 dX11_needGuests_15 dX11_needGuests_18 dX11_needGuests_21 ⟨by decide, by decide⟩ (Nat.le_of_ble_eq_true rfl) ⟨hI, hW⟩ (⟨rfl, trivial, hF⟩)
set_option maxRecDepth 4000 in
theorem k_X8_goatBetween_58 (l : Launch) (M : Mem) (hJ : Iw M) (x0 : Int) (hx0a : 0 ≤ x0) (hx0b : x0 ≤ 7) (x1 : Int) (hx1a : (-2147483648) ≤ x1) (hx1b : x1 ≤ 2147483647) : CI l yX8_goatBetween cX8_goatBetween 3 (some .int) 3 (fun ad => [.ref (ad 58), ii x0, ii x1]) M (fun z M' => (0 ≤ z ∧ z ≤ 1) ∧ M = M') := by
  obtain ⟨hI, hW⟩ := hJ
  refine en_i (by decide +kernel) (fun ad => by exact Nat.le_of_ble_eq_true rfl) (fun D cy ad A p e s m args below meth c Q F hret => ?_)
  refine z_eq (ls' := [(0, .ref (ad 58)), (1, ii x0), (2, ii x1)]) rfl rfl rfl ?_
  refine z_aload_n F dX8_goatBetween_0 rfl (q := 0) rfl ?_
  refine rf_X8_28 F gs_58 rfl dX8_goatBetween_1 ?_
  refine z_iload_n F dX8_goatBetween_4 rfl (q := 1) rfl ?_
  refine z_iload_n F dX8_goatBetween_5 rfl (q := 2) rfl ?_
  refine z_iconst F dX8_goatBetween_6 ?_
  refine zv_i (rest := []) F (k_X7_wouldClash_35 l M ⟨hI, hW⟩ x0 (by omega) (by omega) x1 (by omega) (by omega) 0 (by omega) (by omega)) cs_X8_54 (T := TX7) (N := 7) (ci := 7) rfl gs_35 (by decide) (by decide) rfl rfl rfl (Nat.le_of_ble_eq_true rfl) dX8_goatBetween_7 (fun v1 M2 rv1 hI p3 => ?_)
  obtain ⟨hI, hW⟩ := hI
  obtain ⟨⟨av1, bv1⟩, rfl⟩ := p3
  refine z_if_eq (tgt := 17) F dX8_goatBetween_10 (by decide +kernel) (by omega) (fun c4 => ?_) (fun c4 => ?_)
  · refine z_iconst F dX8_goatBetween_17 ?_
    exact hret _ _ 18 _ (by omega) ⟨hI, hW⟩ ⟨⟨by omega, by omega⟩, rfl⟩ dX8_goatBetween_18
  · refine z_iconst F dX8_goatBetween_13 ?_
    refine z_goto (tgt := 18) F dX8_goatBetween_14 (by decide +kernel) ?_
    exact hret _ _ 18 _ (by omega) ⟨hI, hW⟩ ⟨⟨by omega, by omega⟩, rfl⟩ dX8_goatBetween_18
set_option maxRecDepth 4000 in
theorem k_X8_goatsOfGuests_58 (l : Launch) (M : Mem) (hJ : Iw M) (x0 : Int) (hx0a : 0 ≤ x0) (hx0b : x0 ≤ 1) : CI l yX8_goatsOfGuests cX8_goatsOfGuests 4 (some .int) 4 (fun ad => [.ref (ad 58), ii x0]) M (fun z M' => ((-2147483648) ≤ z ∧ z ≤ 2147483647) ∧ M = M') := by
  obtain ⟨hI, hW⟩ := hJ
  refine en_i (by decide +kernel) (fun ad => by exact Nat.le_of_ble_eq_true rfl) (fun D cy ad A p e s m args below meth c Q F hret => ?_)
  refine z_eq (ls' := [(0, .ref (ad 58)), (1, ii x0)]) rfl rfl rfl ?_
  refine z_iconst F dX8_goatsOfGuests_0 ?_
  refine z_istore_n F dX8_goatsOfGuests_1 rfl (by decide) (ls' := [(2, ii 0), (0, .ref (ad 58)), (1, ii x0)]) rfl ?_
  refine z_iconst F dX8_goatsOfGuests_2 ?_
  refine z_istore_n F dX8_goatsOfGuests_3 rfl (by decide) (ls' := [(3, ii 1), (2, ii 0), (0, .ref (ad 58)), (1, ii x0)]) rfl ?_
  refine z_loc [2, 3, 1, 0] (ls' := [(0, .ref (ad 58)), (1, ii x0), (2, ii 0), (3, ii 1)]) rfl ?_
  suffices key4 : ∀ (n : Nat) (y2 : Int) (y3 : Int), (-2147483648) ≤ y2 → y2 ≤ 2147483647 → 1 ≤ y3 → y3 ≤ 10 → 10 - y3 < (n : Int) → Z D cy ad p l e (RMh 4) s m args below meth c A 4 0 0 Q 4 [(0, .ref (ad 58)), (1, ii x0), (2, ii y2), (3, ii y3)] [] M from key4 10 0 1 (by omega) (by omega) (by omega) (by omega) (by omega)
  intro n4
  induction n4 with
  | zero => intro y2 y3 ay2 by2 ay3 by3 hn4; exfalso; omega
  | succ n4 ih4 =>
    intro y2 y3 ay2 by2 ay3 by3 hn4
    refine z_iload_n F dX8_goatsOfGuests_4 rfl (q := 3) rfl ?_
    refine z_aload_n F dX8_goatsOfGuests_5 rfl (q := 0) rfl ?_
    refine gf_X8_51 F hI gs_58 rfl bd_58_3 dX8_goatsOfGuests_6 (fun v4 ev4 av4 bv4 => ?_)
    refine z_icmp_ge (tgt := 39) F dX8_goatsOfGuests_9 (by decide +kernel) (by omega) (by omega) (fun c5 => ?_) (fun c5 => ?_)
    · refine z_iload_n F dX8_goatsOfGuests_39 rfl (q := 1) rfl ?_
      refine z_if_eq (tgt := 75) F dX8_goatsOfGuests_40 (by decide +kernel) (by omega) (fun c6 => ?_) (fun c6 => ?_)
      · refine z_iload_n F dX8_goatsOfGuests_75 rfl (q := 2) rfl ?_
        exact hret _ _ 76 _ (by omega) ⟨hI, hW⟩ ⟨⟨by omega, by omega⟩, rfl⟩ dX8_goatsOfGuests_76
      · refine z_aload_n F dX8_goatsOfGuests_43 rfl (q := 0) rfl ?_
        refine gf_X8_51 F hI gs_58 rfl bd_58_3 dX8_goatsOfGuests_44 (fun v7 ev7 av7 bv7 => ?_)
        have zv7 : v4 = v7 := ev4.trans ev7.symm
        subst zv7
        refine z_iconst F dX8_goatsOfGuests_47 ?_
        refine z_icmp_le (tgt := 75) F dX8_goatsOfGuests_48 (by decide +kernel) (by omega) (by omega) (fun c8 => ?_) (fun c8 => ?_)
        · refine z_iload_n F dX8_goatsOfGuests_75 rfl (q := 2) rfl ?_
          exact hret _ _ 76 _ (by omega) ⟨hI, hW⟩ ⟨⟨by omega, by omega⟩, rfl⟩ dX8_goatsOfGuests_76
        · refine z_iload_n F dX8_goatsOfGuests_51 rfl (q := 2) rfl ?_
          refine z_aload_n F dX8_goatsOfGuests_52 rfl (q := 0) rfl ?_
          refine z_aload_n F dX8_goatsOfGuests_53 rfl (q := 0) rfl ?_
          refine rf_X8_11 F gs_58 rfl dX8_goatsOfGuests_54 ?_
          refine z_aload_n F dX8_goatsOfGuests_57 rfl (q := 0) rfl ?_
          refine gf_X8_51 F hI gs_58 rfl bd_58_3 dX8_goatsOfGuests_58 (fun v9 ev9 av9 bv9 => ?_)
          have zv9 : v4 = v9 := ev4.trans ev9.symm
          subst zv9
          refine z_iconst F dX8_goatsOfGuests_61 ?_
          refine z_isub F dX8_goatsOfGuests_62 ?_
          refine z_iald F hI gs_59 (by omega) (by omega) (by decide) bd_59 dX8_goatsOfGuests_63 (fun v10 (ev10 : v10 = M 59 _) av10 bv10 => ?_)
          refine z_aload_n F dX8_goatsOfGuests_64 rfl (q := 0) rfl ?_
          refine rf_X8_11 F gs_58 rfl dX8_goatsOfGuests_65 ?_
          refine z_iconst F dX8_goatsOfGuests_68 ?_
          refine z_iald F hI gs_59 (by omega) (by omega) (by decide) bd_59 dX8_goatsOfGuests_69 (fun v11 (ev11 : v11 = M 59 0) av11 bv11 => ?_)
          refine zv_i (rest := [ii y2]) F (k_X8_goatBetween_58 l M ⟨hI, hW⟩ v10 (by omega) (by omega) v11 (by omega) (by omega)) cs_X8_60 (T := TX8) (N := 9) (ci := 8) rfl gs_58 (by decide) (by decide) rfl rfl rfl (Nat.le_of_ble_eq_true rfl) dX8_goatsOfGuests_70 (fun v12 M13 rv12 hI p14 => ?_)
          obtain ⟨hI, hW⟩ := hI
          obtain ⟨⟨av12, bv12⟩, rfl⟩ := p14
          refine z_iadd F dX8_goatsOfGuests_73 ?_
          refine z_wrap (fun v15 rv15 wv15 => ?_)
          refine z_istore_n F dX8_goatsOfGuests_74 rfl (by decide) (ls' := [(2, ii v15), (0, .ref (ad 58)), (1, ii x0), (3, ii y3)]) rfl ?_
          refine z_iload_n F dX8_goatsOfGuests_75 rfl (q := 0) rfl ?_
          exact hret _ _ 76 _ (by omega) ⟨hI, hW⟩ ⟨⟨by omega, by omega⟩, rfl⟩ dX8_goatsOfGuests_76
    · refine z_iload_n F dX8_goatsOfGuests_12 rfl (q := 2) rfl ?_
      refine z_aload_n F dX8_goatsOfGuests_13 rfl (q := 0) rfl ?_
      refine z_aload_n F dX8_goatsOfGuests_14 rfl (q := 0) rfl ?_
      refine rf_X8_11 F gs_58 rfl dX8_goatsOfGuests_15 ?_
      refine z_iload_n F dX8_goatsOfGuests_18 rfl (q := 3) rfl ?_
      refine z_iconst F dX8_goatsOfGuests_19 ?_
      refine z_isub F dX8_goatsOfGuests_20 ?_
      refine z_iald F hI gs_59 (by omega) (by omega) (by decide) bd_59 dX8_goatsOfGuests_21 (fun v16 (ev16 : v16 = M 59 _) av16 bv16 => ?_)
      refine z_aload_n F dX8_goatsOfGuests_22 rfl (q := 0) rfl ?_
      refine rf_X8_11 F gs_58 rfl dX8_goatsOfGuests_23 ?_
      refine z_iload_n F dX8_goatsOfGuests_26 rfl (q := 3) rfl ?_
      refine z_iald F hI gs_59 (by omega) (by omega) (by decide) bd_59 dX8_goatsOfGuests_27 (fun v17 (ev17 : v17 = M 59 _) av17 bv17 => ?_)
      refine zv_i (rest := [ii y2]) F (k_X8_goatBetween_58 l M ⟨hI, hW⟩ v16 (by omega) (by omega) v17 (by omega) (by omega)) cs_X8_60 (T := TX8) (N := 9) (ci := 8) rfl gs_58 (by decide) (by decide) rfl rfl rfl (Nat.le_of_ble_eq_true rfl) dX8_goatsOfGuests_28 (fun v18 M19 rv18 hI p20 => ?_)
      obtain ⟨hI, hW⟩ := hI
      obtain ⟨⟨av18, bv18⟩, rfl⟩ := p20
      refine z_iadd F dX8_goatsOfGuests_31 ?_
      refine z_wrap (fun v21 rv21 wv21 => ?_)
      refine z_istore_n F dX8_goatsOfGuests_32 rfl (by decide) (ls' := [(2, ii v21), (0, .ref (ad 58)), (1, ii x0), (3, ii y3)]) rfl ?_
      refine z_iincN F dX8_goatsOfGuests_33 (q := 3) rfl (by decide) (fun v22 ev22 => ?_)
      refine z_eq (ls' := [(3, ii v22), (2, ii v21), (0, .ref (ad 58)), (1, ii x0)]) rfl rfl rfl ?_
      refine z_goto (tgt := 4) F dX8_goatsOfGuests_36 (by decide +kernel) ?_
      refine z_loc [2, 3, 1, 0] (ls' := [(0, .ref (ad 58)), (1, ii x0), (2, ii v21), (3, ii v22)]) rfl ?_
      exact ih4 v21 v22 (by omega) (by omega) (by omega) (by omega) (by omega)
set_option maxRecDepth 4000 in
theorem k_X8_invite_58_125 (l : Launch) (M : Mem) (hJ : Iw M) : CI l yX8_invite cX8_invite 6 (some .boolean) 2 (fun ad => [.ref (ad 58), .ref (ad 125)]) M (fun z M' => (0 ≤ z ∧ z ≤ 1) ∧ Fr [58, 59] M M' ∧ (z = 1 → 1 ≤ M 125 0 ∧ M 125 0 ≤ 10)) := by
  obtain ⟨hI, hW⟩ := hJ
  have hF : Fr [58, 59] M M := Fr.rf
  refine en_z (by decide +kernel) (fun ad => by exact Nat.le_of_ble_eq_true rfl) (fun D cy ad A p e s m args below meth c Q F hret => ?_)
  refine z_eq (ls' := [(0, .ref (ad 58)), (1, .ref (ad 125))]) rfl rfl rfl ?_
  refine z_aload_n F dX8_invite_0 rfl (q := 1) rfl ?_
  refine gf_X8_32 F hI gs_125 rfl bd_125_0 dX8_invite_1 (fun v1 ev1 av1 bv1 => ?_)
  refine z_iconst F dX8_invite_4 ?_
  refine z_icmp_lt (tgt := 17) F dX8_invite_5 (by decide +kernel) (by omega) (by omega) (fun c2 => ?_) (fun c2 => ?_)
  · refine z_iconst F dX8_invite_17 ?_
    exact hret _ _ 18 _ ⟨by omega, by omega⟩ ⟨hI, hW⟩ ⟨⟨by omega, by omega⟩, hF, (by omega)⟩ dX8_invite_18
  · refine z_aload_n F dX8_invite_8 rfl (q := 1) rfl ?_
    refine gf_X8_32 F hI gs_125 rfl bd_125_0 dX8_invite_9 (fun v3 ev3 av3 bv3 => ?_)
    have zv3 : v1 = v3 := ev1.trans ev3.symm
    subst zv3
    refine z_bipush F dX8_invite_12 (by decide +kernel) ?_
    refine z_icmp_le (tgt := 19) F dX8_invite_14 (by decide +kernel) (by omega) (by omega) (fun c4 => ?_) (fun c4 => ?_)
    · refine z_iconst F dX8_invite_19 ?_
      refine z_istore_n F dX8_invite_20 rfl (by decide) (ls' := [(2, ii 0), (0, .ref (ad 58)), (1, .ref (ad 125))]) rfl ?_
      refine z_iconst F dX8_invite_21 ?_
      refine z_istore_n F dX8_invite_22 rfl (by decide) (ls' := [(3, ii 0), (2, ii 0), (0, .ref (ad 58)), (1, .ref (ad 125))]) rfl ?_
      refine z_loc [2, 3, 1, 0] (ls' := [(0, .ref (ad 58)), (1, .ref (ad 125)), (2, ii 0), (3, ii 0)]) rfl ?_
      suffices key23 : ∀ (n : Nat) (y6 : Int) (y7 : Int) (M5 : Mem), Inv M5 → WFk M5 → Fr [58, 59] M M5 → 0 ≤ y6 → y6 ≤ 255 → 0 ≤ y7 → y7 ≤ 10 → (1 ≤ M5 125 0) → (M5 125 0 ≤ 10) → (M5 125 0 = M 125 0) → 10 - y7 < (n : Int) → Z D cy ad p l e (RMh 2) s m args below meth c A 6 0 0 Q 23 [(0, .ref (ad 58)), (1, .ref (ad 125)), (2, ii y6), (3, ii y7)] [] M5 from key23 11 0 0 M hI hW hF (by omega) (by omega) (by omega) (by omega) (by omega) (by omega) (by omega) (by omega)
      intro n23
      induction n23 with
      | zero => intro y6 y7 M5 hI hW hF ay6 by6 ay7 by7 i23_0 i23_1 i23_2 hn23; exfalso; omega
      | succ n23 ih23 =>
        intro y6 y7 M5 hI hW hF ay6 by6 ay7 by7 i23_0 i23_1 i23_2 hn23
        obtain ⟨u8, eu8⟩ : ∃ v : Int, v = M5 125 0 := ⟨_, rfl⟩
        have ku8 : 1 ≤ u8 ∧ u8 ≤ 10 := by have := hI.at (show Bd 125 0 = (-1, 30) from rfl); omega
        refine z_iload_n F dX8_invite_23 rfl (q := 3) rfl ?_
        refine z_aload_n F dX8_invite_24 rfl (q := 1) rfl ?_
        refine gf_X8_32 F hI gs_125 rfl bd_125_0 dX8_invite_25 (fun v9 ev9 av9 bv9 => ?_)
        have zv9 : u8 = v9 := eu8.trans ev9.symm
        subst zv9
        refine z_icmp_ge (tgt := 94) F dX8_invite_28 (by decide +kernel) (by omega) (by omega) (fun c10 => ?_) (fun c10 => ?_)
        · refine z_aload_n F dX8_invite_94 rfl (q := 0) rfl ?_
          refine z_aload_n F dX8_invite_95 rfl (q := 1) rfl ?_
          refine gf_X8_32 F hI gs_125 rfl bd_125_0 dX8_invite_96 (fun v11 ev11 av11 bv11 => ?_)
          have zv11 : u8 = v11 := eu8.trans ev11.symm
          subst zv11
          refine pf_X8_51 F hI gs_58 rfl bd_58_3 rfl rfl dX8_invite_99 (by omega) (by omega) (fun M13 hI sf12 f12 => ?_)
          have hF := hF.wr f12 (by decide) (by decide)
          have hW : WFk M13 := hW.site f12 (by decide)
          refine z_iconst F dX8_invite_102 ?_
          exact hret _ _ 103 _ ⟨by omega, by omega⟩ ⟨hI, hW⟩ ⟨⟨by omega, by omega⟩, hF, (by omega)⟩ dX8_invite_103
        · refine z_aload_n F dX8_invite_31 rfl (q := 1) rfl ?_
          refine z_iload_n F dX8_invite_32 rfl (q := 3) rfl ?_
          refine zv_l (rest := []) F (k_X10_numberAt_125 l M5 ⟨hI, hW⟩ y7 (by omega) (by omega)) cs_X8_38 (T := TX10) (N := 3) (ci := 10) rfl gs_125 (by decide) (by decide) rfl rfl rfl (Nat.le_of_ble_eq_true rfl) dX8_invite_33 (fun v14 M15 rv14 hI p16 => ?_)
          obtain ⟨hI, hW⟩ := hI
          obtain ⟨⟨av14, bv14⟩, rfl⟩ := p16
          refine z_lstore F dX8_invite_36 (by decide) (ls' := [(4, ll v14), (0, .ref (ad 58)), (1, .ref (ad 125)), (2, ii y6), (3, ii y7)]) rfl ?_
          refine z_lload F dX8_invite_38 (q := 0) rfl ?_
          refine z_lconst (x := 0) F dX8_invite_40 (by decide +kernel) ?_
          refine z_lcmp F dX8_invite_41 (by omega) (by omega) (fun v17 ev17 => ?_)
          refine z_if_lt (tgt := 69) F dX8_invite_42 (by decide +kernel) (by omega) (fun c18 => ?_) (fun c18 => ?_)
          · refine z_iconst F dX8_invite_69 ?_
            exact hret _ _ 70 _ ⟨by omega, by omega⟩ ⟨hI, hW⟩ ⟨⟨by omega, by omega⟩, hF, (by omega)⟩ dX8_invite_70
          · refine z_lload F dX8_invite_45 (q := 0) rfl ?_
            refine z_aload_n F dX8_invite_47 rfl (q := 1) rfl ?_
            refine rf_X8_24 F gs_58 rfl dX8_invite_48 ?_
            refine gf_X8_42 F hI gs_2 rfl bd_2_3 dX8_invite_51 (fun v19 ev19 av19 bv19 => ?_)
            refine z_i2l F dX8_invite_54 (by omega) ?_
            refine z_lcmp F dX8_invite_55 (by omega) (by omega) (fun v20 ev20 => ?_)
            refine z_if_ge (tgt := 69) F dX8_invite_56 (by decide +kernel) (by omega) (fun c21 => ?_) (fun c21 => ?_)
            · refine z_iconst F dX8_invite_69 ?_
              exact hret _ _ 70 _ ⟨by omega, by omega⟩ ⟨hI, hW⟩ ⟨⟨by omega, by omega⟩, hF, (by omega)⟩ dX8_invite_70
            · refine z_iload_n F dX8_invite_59 rfl (q := 3) rfl ?_
              refine z_lload F dX8_invite_60 (q := 0) rfl ?_
              refine z_l2i F dX8_invite_62 (by omega) ?_
              refine zn_i (rest := []) F (k_X11_isIn l M5 ⟨hI, hW⟩ y6 (by omega) (by omega) v14 (by omega) (by omega)) cs_X8_47 (by decide) (by decide) rfl rfl rfl (Nat.le_of_ble_eq_true rfl) dX8_invite_63 (fun v22 M23 rv22 hI p24 => ?_)
              obtain ⟨hI, hW⟩ := hI
              obtain ⟨⟨av22, bv22⟩, rfl, xp24⟩ := p24
              have hbqv14 := xp24
              refine z_if_eq (tgt := 71) F dX8_invite_66 (by decide +kernel) (by omega) (fun c25 => ?_) (fun c25 => ?_)
              · refine z_iload_n F dX8_invite_71 rfl (q := 3) rfl ?_
                refine z_iconst F dX8_invite_72 ?_
                refine z_lload F dX8_invite_73 (q := 0) rfl ?_
                refine z_l2i F dX8_invite_75 (by omega) ?_
                refine z_shl1 (k := 7) F dX8_invite_76 (by decide) (by omega) (by omega) (fun v26 ev26 av26 bv26 => ?_)
                refine z_ior_k (k := 8) F dX8_invite_77 (by decide) (by omega) (by omega) (by omega) (by omega) (fun v27 av27 bv27 => ?_)
                refine z_istore_n F dX8_invite_78 rfl (by decide) (ls' := [(2, ii v27), (4, ll v14), (0, .ref (ad 58)), (1, .ref (ad 125)), (3, ii y7)]) rfl ?_
                refine z_aload_n F dX8_invite_79 rfl (q := 2) rfl ?_
                refine rf_X8_11 F gs_58 rfl dX8_invite_80 ?_
                refine z_iload_n F dX8_invite_83 rfl (q := 4) rfl ?_
                refine z_lload F dX8_invite_84 (q := 1) rfl ?_
                refine z_l2i F dX8_invite_86 (by omega) ?_
                refine z_iast F hI gs_59 (by omega) (by omega) (by decide) bd_59 dX8_invite_87 (by omega) (by omega) (fun M29 hI sf28 f28 => ?_)
                have hF := hF.wr f28 (by decide) (by decide)
                have hW : WFk M29 := hW.site f28 (by decide)
                refine z_iincN F dX8_invite_88 (q := 4) rfl (by decide) (fun v30 ev30 => ?_)
                refine z_eq (ls' := [(3, ii v30), (2, ii v27), (4, ll v14), (0, .ref (ad 58)), (1, .ref (ad 125))]) rfl rfl rfl ?_
                refine z_goto (tgt := 23) F dX8_invite_91 (by decide +kernel) ?_
                refine z_loc [3, 4, 1, 0] (ls' := [(0, .ref (ad 58)), (1, .ref (ad 125)), (2, ii v27), (3, ii v30)]) rfl ?_
                have q31 : u8 = M29 125 0 := eu8.trans (f28 125 0 (fun q => absurd q.1 (by decide))).symm
                exact ih23 v27 v30 M29 hI hW hF (by omega) (by omega) (by omega) (by omega) (by omega) (by omega) (by omega) (by omega)
              · refine z_iconst F dX8_invite_69 ?_
                exact hret _ _ 70 _ ⟨by omega, by omega⟩ ⟨hI, hW⟩ ⟨⟨by omega, by omega⟩, hF, (by omega)⟩ dX8_invite_70
    · refine z_iconst F dX8_invite_17 ?_
      exact hret _ _ 18 _ ⟨by omega, by omega⟩ ⟨hI, hW⟩ ⟨⟨by omega, by omega⟩, hF, (by omega)⟩ dX8_invite_18
set_option maxRecDepth 4000 in
theorem k_X11_needGuests_0_125 (l : Launch) (hlT : l.stackTraces = false) (M : Mem) (hJ : Iw M) : CVX l yX11_needGuests cX11_needGuests 2 none 3 1 (fun ad => [.ref (ad 0), .ref (ad 125)]) M (fun M' => Fr [58, 59] M M' ∧ (1 ≤ M 125 0 ∧ M 125 0 ≤ 10)) (fun E M' => (E = "java/lang/IllegalArgumentException" ∧ True ∧ Fr [58, 59] M M')) := by
  obtain ⟨hI, hW⟩ := hJ
  have hF : Fr [58, 59] M M := Fr.rf
  refine enx_v (by decide +kernel) (fun ad => by exact Nat.le_of_ble_eq_true rfl) (fun D cy ad A p e s m args below meth c Q F hQ hr hlk hex => ?_)
  refine z_eq (ls' := [(0, .ref (ad 0)), (1, .ref (ad 125))]) rfl rfl rfl ?_
  refine z_aload_n F dX11_needGuests_0 rfl (q := 0) rfl ?_
  refine rf_X11_87 F gs_0 rfl dX11_needGuests_1 ?_
  refine z_aload_n F dX11_needGuests_4 rfl (q := 1) rfl ?_
  refine zw_i (rest := []) F (k_X8_invite_58_125 l M ⟨hI, hW⟩) cs_X11_413 (T := TX8) (N := 9) (ci := 8) rfl gs_58 (by decide) (by decide) ⟨by decide, by decide⟩ rfl rfl rfl (Nat.le_of_ble_eq_true rfl) dX11_needGuests_5 (fun v1 M2 rv1 hI p3 => ?_)
  obtain ⟨hI, hW⟩ := hI
  obtain ⟨⟨av1, bv1⟩, fp3, xp3⟩ := p3
  have hF := hF.call fp3 (by decide)
  refine z_if_ne (tgt := 22) F dX11_needGuests_8 (by decide +kernel) (by omega) (fun c4 => ?_) (fun c4 => ?_)
  · exact zxr_v F hQ hr hlk dX11_needGuests_22 ⟨by decide, by decide⟩ ⟨hI, hW⟩ ⟨hF, (by omega)⟩
  · exact z_thrSW (cls := "java/lang/IllegalArgumentException") (names := ["java/lang/RuntimeException", "java/lang/Exception"]) (j := 46) F hlT hQ hlk hex (by decide +kernel) (by decide +kernel) (by decide) (gin lm_360 rfl) (gin lm_361 rfl) at_X11_105 bad_X11_105 (by decide +kernel) ot_X11_105 rfl rfl rfl dX11_needGuests_11 dX11_needGuests_14 dX11_needGuests_15 dX11_needGuests_18 dX11_needGuests_21 ⟨by decide, by decide⟩ (Nat.le_of_ble_eq_true rfl) ⟨hI, hW⟩ (⟨rfl, trivial, hF⟩)
set_option maxRecDepth 4000 in
theorem k_X8_invite_58_127 (l : Launch) (M : Mem) (hJ : Iw M) : CI l yX8_invite cX8_invite 6 (some .boolean) 2 (fun ad => [.ref (ad 58), .ref (ad 127)]) M (fun z M' => (0 ≤ z ∧ z ≤ 1) ∧ Fr [58, 59] M M' ∧ (z = 1 → 1 ≤ M 127 0 ∧ M 127 0 ≤ 10)) := by
  obtain ⟨hI, hW⟩ := hJ
  have hF : Fr [58, 59] M M := Fr.rf
  refine en_z (by decide +kernel) (fun ad => by exact Nat.le_of_ble_eq_true rfl) (fun D cy ad A p e s m args below meth c Q F hret => ?_)
  refine z_eq (ls' := [(0, .ref (ad 58)), (1, .ref (ad 127))]) rfl rfl rfl ?_
  refine z_aload_n F dX8_invite_0 rfl (q := 1) rfl ?_
  refine gf_X8_32 F hI gs_127 rfl bd_127_0 dX8_invite_1 (fun v1 ev1 av1 bv1 => ?_)
  refine z_iconst F dX8_invite_4 ?_
  refine z_icmp_lt (tgt := 17) F dX8_invite_5 (by decide +kernel) (by omega) (by omega) (fun c2 => ?_) (fun c2 => ?_)
  · refine z_iconst F dX8_invite_17 ?_
    exact hret _ _ 18 _ ⟨by omega, by omega⟩ ⟨hI, hW⟩ ⟨⟨by omega, by omega⟩, hF, (by omega)⟩ dX8_invite_18
  · refine z_aload_n F dX8_invite_8 rfl (q := 1) rfl ?_
    refine gf_X8_32 F hI gs_127 rfl bd_127_0 dX8_invite_9 (fun v3 ev3 av3 bv3 => ?_)
    have zv3 : v1 = v3 := ev1.trans ev3.symm
    subst zv3
    refine z_bipush F dX8_invite_12 (by decide +kernel) ?_
    refine z_icmp_le (tgt := 19) F dX8_invite_14 (by decide +kernel) (by omega) (by omega) (fun c4 => ?_) (fun c4 => ?_)
    · refine z_iconst F dX8_invite_19 ?_
      refine z_istore_n F dX8_invite_20 rfl (by decide) (ls' := [(2, ii 0), (0, .ref (ad 58)), (1, .ref (ad 127))]) rfl ?_
      refine z_iconst F dX8_invite_21 ?_
      refine z_istore_n F dX8_invite_22 rfl (by decide) (ls' := [(3, ii 0), (2, ii 0), (0, .ref (ad 58)), (1, .ref (ad 127))]) rfl ?_
      refine z_loc [2, 3, 1, 0] (ls' := [(0, .ref (ad 58)), (1, .ref (ad 127)), (2, ii 0), (3, ii 0)]) rfl ?_
      suffices key23 : ∀ (n : Nat) (y6 : Int) (y7 : Int) (M5 : Mem), Inv M5 → WFk M5 → Fr [58, 59] M M5 → 0 ≤ y6 → y6 ≤ 255 → 0 ≤ y7 → y7 ≤ 10 → (1 ≤ M5 127 0) → (M5 127 0 ≤ 10) → (M5 127 0 = M 127 0) → 10 - y7 < (n : Int) → Z D cy ad p l e (RMh 2) s m args below meth c A 6 0 0 Q 23 [(0, .ref (ad 58)), (1, .ref (ad 127)), (2, ii y6), (3, ii y7)] [] M5 from key23 11 0 0 M hI hW hF (by omega) (by omega) (by omega) (by omega) (by omega) (by omega) (by omega) (by omega)
      intro n23
      induction n23 with
      | zero => intro y6 y7 M5 hI hW hF ay6 by6 ay7 by7 i23_0 i23_1 i23_2 hn23; exfalso; omega
      | succ n23 ih23 =>
        intro y6 y7 M5 hI hW hF ay6 by6 ay7 by7 i23_0 i23_1 i23_2 hn23
        obtain ⟨u8, eu8⟩ : ∃ v : Int, v = M5 127 0 := ⟨_, rfl⟩
        have ku8 : 1 ≤ u8 ∧ u8 ≤ 10 := by have := hI.at (show Bd 127 0 = (-1, 30) from rfl); omega
        refine z_iload_n F dX8_invite_23 rfl (q := 3) rfl ?_
        refine z_aload_n F dX8_invite_24 rfl (q := 1) rfl ?_
        refine gf_X8_32 F hI gs_127 rfl bd_127_0 dX8_invite_25 (fun v9 ev9 av9 bv9 => ?_)
        have zv9 : u8 = v9 := eu8.trans ev9.symm
        subst zv9
        refine z_icmp_ge (tgt := 94) F dX8_invite_28 (by decide +kernel) (by omega) (by omega) (fun c10 => ?_) (fun c10 => ?_)
        · refine z_aload_n F dX8_invite_94 rfl (q := 0) rfl ?_
          refine z_aload_n F dX8_invite_95 rfl (q := 1) rfl ?_
          refine gf_X8_32 F hI gs_127 rfl bd_127_0 dX8_invite_96 (fun v11 ev11 av11 bv11 => ?_)
          have zv11 : u8 = v11 := eu8.trans ev11.symm
          subst zv11
          refine pf_X8_51 F hI gs_58 rfl bd_58_3 rfl rfl dX8_invite_99 (by omega) (by omega) (fun M13 hI sf12 f12 => ?_)
          have hF := hF.wr f12 (by decide) (by decide)
          have hW : WFk M13 := hW.site f12 (by decide)
          refine z_iconst F dX8_invite_102 ?_
          exact hret _ _ 103 _ ⟨by omega, by omega⟩ ⟨hI, hW⟩ ⟨⟨by omega, by omega⟩, hF, (by omega)⟩ dX8_invite_103
        · refine z_aload_n F dX8_invite_31 rfl (q := 1) rfl ?_
          refine z_iload_n F dX8_invite_32 rfl (q := 3) rfl ?_
          refine zv_l (rest := []) F (k_X10_numberAt_127 l M5 ⟨hI, hW⟩ y7 (by omega) (by omega)) cs_X8_38 (T := TX10) (N := 3) (ci := 10) rfl gs_127 (by decide) (by decide) rfl rfl rfl (Nat.le_of_ble_eq_true rfl) dX8_invite_33 (fun v14 M15 rv14 hI p16 => ?_)
          obtain ⟨hI, hW⟩ := hI
          obtain ⟨⟨av14, bv14⟩, rfl⟩ := p16
          refine z_lstore F dX8_invite_36 (by decide) (ls' := [(4, ll v14), (0, .ref (ad 58)), (1, .ref (ad 127)), (2, ii y6), (3, ii y7)]) rfl ?_
          refine z_lload F dX8_invite_38 (q := 0) rfl ?_
          refine z_lconst (x := 0) F dX8_invite_40 (by decide +kernel) ?_
          refine z_lcmp F dX8_invite_41 (by omega) (by omega) (fun v17 ev17 => ?_)
          refine z_if_lt (tgt := 69) F dX8_invite_42 (by decide +kernel) (by omega) (fun c18 => ?_) (fun c18 => ?_)
          · refine z_iconst F dX8_invite_69 ?_
            exact hret _ _ 70 _ ⟨by omega, by omega⟩ ⟨hI, hW⟩ ⟨⟨by omega, by omega⟩, hF, (by omega)⟩ dX8_invite_70
          · refine z_lload F dX8_invite_45 (q := 0) rfl ?_
            refine z_aload_n F dX8_invite_47 rfl (q := 1) rfl ?_
            refine rf_X8_24 F gs_58 rfl dX8_invite_48 ?_
            refine gf_X8_42 F hI gs_2 rfl bd_2_3 dX8_invite_51 (fun v19 ev19 av19 bv19 => ?_)
            refine z_i2l F dX8_invite_54 (by omega) ?_
            refine z_lcmp F dX8_invite_55 (by omega) (by omega) (fun v20 ev20 => ?_)
            refine z_if_ge (tgt := 69) F dX8_invite_56 (by decide +kernel) (by omega) (fun c21 => ?_) (fun c21 => ?_)
            · refine z_iconst F dX8_invite_69 ?_
              exact hret _ _ 70 _ ⟨by omega, by omega⟩ ⟨hI, hW⟩ ⟨⟨by omega, by omega⟩, hF, (by omega)⟩ dX8_invite_70
            · refine z_iload_n F dX8_invite_59 rfl (q := 3) rfl ?_
              refine z_lload F dX8_invite_60 (q := 0) rfl ?_
              refine z_l2i F dX8_invite_62 (by omega) ?_
              refine zn_i (rest := []) F (k_X11_isIn l M5 ⟨hI, hW⟩ y6 (by omega) (by omega) v14 (by omega) (by omega)) cs_X8_47 (by decide) (by decide) rfl rfl rfl (Nat.le_of_ble_eq_true rfl) dX8_invite_63 (fun v22 M23 rv22 hI p24 => ?_)
              obtain ⟨hI, hW⟩ := hI
              obtain ⟨⟨av22, bv22⟩, rfl, xp24⟩ := p24
              have hbqv14 := xp24
              refine z_if_eq (tgt := 71) F dX8_invite_66 (by decide +kernel) (by omega) (fun c25 => ?_) (fun c25 => ?_)
              · refine z_iload_n F dX8_invite_71 rfl (q := 3) rfl ?_
                refine z_iconst F dX8_invite_72 ?_
                refine z_lload F dX8_invite_73 (q := 0) rfl ?_
                refine z_l2i F dX8_invite_75 (by omega) ?_
                refine z_shl1 (k := 7) F dX8_invite_76 (by decide) (by omega) (by omega) (fun v26 ev26 av26 bv26 => ?_)
                refine z_ior_k (k := 8) F dX8_invite_77 (by decide) (by omega) (by omega) (by omega) (by omega) (fun v27 av27 bv27 => ?_)
                refine z_istore_n F dX8_invite_78 rfl (by decide) (ls' := [(2, ii v27), (4, ll v14), (0, .ref (ad 58)), (1, .ref (ad 127)), (3, ii y7)]) rfl ?_
                refine z_aload_n F dX8_invite_79 rfl (q := 2) rfl ?_
                refine rf_X8_11 F gs_58 rfl dX8_invite_80 ?_
                refine z_iload_n F dX8_invite_83 rfl (q := 4) rfl ?_
                refine z_lload F dX8_invite_84 (q := 1) rfl ?_
                refine z_l2i F dX8_invite_86 (by omega) ?_
                refine z_iast F hI gs_59 (by omega) (by omega) (by decide) bd_59 dX8_invite_87 (by omega) (by omega) (fun M29 hI sf28 f28 => ?_)
                have hF := hF.wr f28 (by decide) (by decide)
                have hW : WFk M29 := hW.site f28 (by decide)
                refine z_iincN F dX8_invite_88 (q := 4) rfl (by decide) (fun v30 ev30 => ?_)
                refine z_eq (ls' := [(3, ii v30), (2, ii v27), (4, ll v14), (0, .ref (ad 58)), (1, .ref (ad 127))]) rfl rfl rfl ?_
                refine z_goto (tgt := 23) F dX8_invite_91 (by decide +kernel) ?_
                refine z_loc [3, 4, 1, 0] (ls' := [(0, .ref (ad 58)), (1, .ref (ad 127)), (2, ii v27), (3, ii v30)]) rfl ?_
                have q31 : u8 = M29 127 0 := eu8.trans (f28 127 0 (fun q => absurd q.1 (by decide))).symm
                exact ih23 v27 v30 M29 hI hW hF (by omega) (by omega) (by omega) (by omega) (by omega) (by omega) (by omega) (by omega)
              · refine z_iconst F dX8_invite_69 ?_
                exact hret _ _ 70 _ ⟨by omega, by omega⟩ ⟨hI, hW⟩ ⟨⟨by omega, by omega⟩, hF, (by omega)⟩ dX8_invite_70
    · refine z_iconst F dX8_invite_17 ?_
      exact hret _ _ 18 _ ⟨by omega, by omega⟩ ⟨hI, hW⟩ ⟨⟨by omega, by omega⟩, hF, (by omega)⟩ dX8_invite_18
set_option maxRecDepth 4000 in
theorem k_X11_needGuests_0_127 (l : Launch) (hlT : l.stackTraces = false) (M : Mem) (hJ : Iw M) : CVX l yX11_needGuests cX11_needGuests 2 none 3 1 (fun ad => [.ref (ad 0), .ref (ad 127)]) M (fun M' => Fr [58, 59] M M' ∧ (1 ≤ M 127 0 ∧ M 127 0 ≤ 10)) (fun E M' => (E = "java/lang/IllegalArgumentException" ∧ True ∧ Fr [58, 59] M M')) := by
  obtain ⟨hI, hW⟩ := hJ
  have hF : Fr [58, 59] M M := Fr.rf
  refine enx_v (by decide +kernel) (fun ad => by exact Nat.le_of_ble_eq_true rfl) (fun D cy ad A p e s m args below meth c Q F hQ hr hlk hex => ?_)
  refine z_eq (ls' := [(0, .ref (ad 0)), (1, .ref (ad 127))]) rfl rfl rfl ?_
  refine z_aload_n F dX11_needGuests_0 rfl (q := 0) rfl ?_
  refine rf_X11_87 F gs_0 rfl dX11_needGuests_1 ?_
  refine z_aload_n F dX11_needGuests_4 rfl (q := 1) rfl ?_
  refine zw_i (rest := []) F (k_X8_invite_58_127 l M ⟨hI, hW⟩) cs_X11_413 (T := TX8) (N := 9) (ci := 8) rfl gs_58 (by decide) (by decide) ⟨by decide, by decide⟩ rfl rfl rfl (Nat.le_of_ble_eq_true rfl) dX11_needGuests_5 (fun v1 M2 rv1 hI p3 => ?_)
  obtain ⟨hI, hW⟩ := hI
  obtain ⟨⟨av1, bv1⟩, fp3, xp3⟩ := p3
  have hF := hF.call fp3 (by decide)
  refine z_if_ne (tgt := 22) F dX11_needGuests_8 (by decide +kernel) (by omega) (fun c4 => ?_) (fun c4 => ?_)
  · exact zxr_v F hQ hr hlk dX11_needGuests_22 ⟨by decide, by decide⟩ ⟨hI, hW⟩ ⟨hF, (by omega)⟩
  · exact z_thrSW (cls := "java/lang/IllegalArgumentException") (names := ["java/lang/RuntimeException", "java/lang/Exception"]) (j := 46) F hlT hQ hlk hex (by decide +kernel) (by decide +kernel) (by decide) (gin lm_360 rfl) (gin lm_361 rfl) at_X11_105 bad_X11_105 (by decide +kernel) ot_X11_105 rfl rfl rfl dX11_needGuests_11 dX11_needGuests_14 dX11_needGuests_15 dX11_needGuests_18 dX11_needGuests_21 ⟨by decide, by decide⟩ (Nat.le_of_ble_eq_true rfl) ⟨hI, hW⟩ (⟨rfl, trivial, hF⟩)
set_option maxRecDepth 4000 in
theorem k_X8_invite_58_129 (l : Launch) (M : Mem) (hJ : Iw M) : CI l yX8_invite cX8_invite 6 (some .boolean) 2 (fun ad => [.ref (ad 58), .ref (ad 129)]) M (fun z M' => (0 ≤ z ∧ z ≤ 1) ∧ Fr [58, 59] M M' ∧ (z = 1 → 1 ≤ M 129 0 ∧ M 129 0 ≤ 10)) := by
  obtain ⟨hI, hW⟩ := hJ
  have hF : Fr [58, 59] M M := Fr.rf
  refine en_z (by decide +kernel) (fun ad => by exact Nat.le_of_ble_eq_true rfl) (fun D cy ad A p e s m args below meth c Q F hret => ?_)
  refine z_eq (ls' := [(0, .ref (ad 58)), (1, .ref (ad 129))]) rfl rfl rfl ?_
  refine z_aload_n F dX8_invite_0 rfl (q := 1) rfl ?_
  refine gf_X8_32 F hI gs_129 rfl bd_129_0 dX8_invite_1 (fun v1 ev1 av1 bv1 => ?_)
  refine z_iconst F dX8_invite_4 ?_
  refine z_icmp_lt (tgt := 17) F dX8_invite_5 (by decide +kernel) (by omega) (by omega) (fun c2 => ?_) (fun c2 => ?_)
  · refine z_iconst F dX8_invite_17 ?_
    exact hret _ _ 18 _ ⟨by omega, by omega⟩ ⟨hI, hW⟩ ⟨⟨by omega, by omega⟩, hF, (by omega)⟩ dX8_invite_18
  · refine z_aload_n F dX8_invite_8 rfl (q := 1) rfl ?_
    refine gf_X8_32 F hI gs_129 rfl bd_129_0 dX8_invite_9 (fun v3 ev3 av3 bv3 => ?_)
    have zv3 : v1 = v3 := ev1.trans ev3.symm
    subst zv3
    refine z_bipush F dX8_invite_12 (by decide +kernel) ?_
    refine z_icmp_le (tgt := 19) F dX8_invite_14 (by decide +kernel) (by omega) (by omega) (fun c4 => ?_) (fun c4 => ?_)
    · refine z_iconst F dX8_invite_19 ?_
      refine z_istore_n F dX8_invite_20 rfl (by decide) (ls' := [(2, ii 0), (0, .ref (ad 58)), (1, .ref (ad 129))]) rfl ?_
      refine z_iconst F dX8_invite_21 ?_
      refine z_istore_n F dX8_invite_22 rfl (by decide) (ls' := [(3, ii 0), (2, ii 0), (0, .ref (ad 58)), (1, .ref (ad 129))]) rfl ?_
      refine z_loc [2, 3, 1, 0] (ls' := [(0, .ref (ad 58)), (1, .ref (ad 129)), (2, ii 0), (3, ii 0)]) rfl ?_
      suffices key23 : ∀ (n : Nat) (y6 : Int) (y7 : Int) (M5 : Mem), Inv M5 → WFk M5 → Fr [58, 59] M M5 → 0 ≤ y6 → y6 ≤ 255 → 0 ≤ y7 → y7 ≤ 10 → (1 ≤ M5 129 0) → (M5 129 0 ≤ 10) → (M5 129 0 = M 129 0) → 10 - y7 < (n : Int) → Z D cy ad p l e (RMh 2) s m args below meth c A 6 0 0 Q 23 [(0, .ref (ad 58)), (1, .ref (ad 129)), (2, ii y6), (3, ii y7)] [] M5 from key23 11 0 0 M hI hW hF (by omega) (by omega) (by omega) (by omega) (by omega) (by omega) (by omega) (by omega)
      intro n23
      induction n23 with
      | zero => intro y6 y7 M5 hI hW hF ay6 by6 ay7 by7 i23_0 i23_1 i23_2 hn23; exfalso; omega
      | succ n23 ih23 =>
        intro y6 y7 M5 hI hW hF ay6 by6 ay7 by7 i23_0 i23_1 i23_2 hn23
        obtain ⟨u8, eu8⟩ : ∃ v : Int, v = M5 129 0 := ⟨_, rfl⟩
        have ku8 : 1 ≤ u8 ∧ u8 ≤ 10 := by have := hI.at (show Bd 129 0 = (-1, 30) from rfl); omega
        refine z_iload_n F dX8_invite_23 rfl (q := 3) rfl ?_
        refine z_aload_n F dX8_invite_24 rfl (q := 1) rfl ?_
        refine gf_X8_32 F hI gs_129 rfl bd_129_0 dX8_invite_25 (fun v9 ev9 av9 bv9 => ?_)
        have zv9 : u8 = v9 := eu8.trans ev9.symm
        subst zv9
        refine z_icmp_ge (tgt := 94) F dX8_invite_28 (by decide +kernel) (by omega) (by omega) (fun c10 => ?_) (fun c10 => ?_)
        · refine z_aload_n F dX8_invite_94 rfl (q := 0) rfl ?_
          refine z_aload_n F dX8_invite_95 rfl (q := 1) rfl ?_
          refine gf_X8_32 F hI gs_129 rfl bd_129_0 dX8_invite_96 (fun v11 ev11 av11 bv11 => ?_)
          have zv11 : u8 = v11 := eu8.trans ev11.symm
          subst zv11
          refine pf_X8_51 F hI gs_58 rfl bd_58_3 rfl rfl dX8_invite_99 (by omega) (by omega) (fun M13 hI sf12 f12 => ?_)
          have hF := hF.wr f12 (by decide) (by decide)
          have hW : WFk M13 := hW.site f12 (by decide)
          refine z_iconst F dX8_invite_102 ?_
          exact hret _ _ 103 _ ⟨by omega, by omega⟩ ⟨hI, hW⟩ ⟨⟨by omega, by omega⟩, hF, (by omega)⟩ dX8_invite_103
        · refine z_aload_n F dX8_invite_31 rfl (q := 1) rfl ?_
          refine z_iload_n F dX8_invite_32 rfl (q := 3) rfl ?_
          refine zv_l (rest := []) F (k_X10_numberAt_129 l M5 ⟨hI, hW⟩ y7 (by omega) (by omega)) cs_X8_38 (T := TX10) (N := 3) (ci := 10) rfl gs_129 (by decide) (by decide) rfl rfl rfl (Nat.le_of_ble_eq_true rfl) dX8_invite_33 (fun v14 M15 rv14 hI p16 => ?_)
          obtain ⟨hI, hW⟩ := hI
          obtain ⟨⟨av14, bv14⟩, rfl⟩ := p16
          refine z_lstore F dX8_invite_36 (by decide) (ls' := [(4, ll v14), (0, .ref (ad 58)), (1, .ref (ad 129)), (2, ii y6), (3, ii y7)]) rfl ?_
          refine z_lload F dX8_invite_38 (q := 0) rfl ?_
          refine z_lconst (x := 0) F dX8_invite_40 (by decide +kernel) ?_
          refine z_lcmp F dX8_invite_41 (by omega) (by omega) (fun v17 ev17 => ?_)
          refine z_if_lt (tgt := 69) F dX8_invite_42 (by decide +kernel) (by omega) (fun c18 => ?_) (fun c18 => ?_)
          · refine z_iconst F dX8_invite_69 ?_
            exact hret _ _ 70 _ ⟨by omega, by omega⟩ ⟨hI, hW⟩ ⟨⟨by omega, by omega⟩, hF, (by omega)⟩ dX8_invite_70
          · refine z_lload F dX8_invite_45 (q := 0) rfl ?_
            refine z_aload_n F dX8_invite_47 rfl (q := 1) rfl ?_
            refine rf_X8_24 F gs_58 rfl dX8_invite_48 ?_
            refine gf_X8_42 F hI gs_2 rfl bd_2_3 dX8_invite_51 (fun v19 ev19 av19 bv19 => ?_)
            refine z_i2l F dX8_invite_54 (by omega) ?_
            refine z_lcmp F dX8_invite_55 (by omega) (by omega) (fun v20 ev20 => ?_)
            refine z_if_ge (tgt := 69) F dX8_invite_56 (by decide +kernel) (by omega) (fun c21 => ?_) (fun c21 => ?_)
            · refine z_iconst F dX8_invite_69 ?_
              exact hret _ _ 70 _ ⟨by omega, by omega⟩ ⟨hI, hW⟩ ⟨⟨by omega, by omega⟩, hF, (by omega)⟩ dX8_invite_70
            · refine z_iload_n F dX8_invite_59 rfl (q := 3) rfl ?_
              refine z_lload F dX8_invite_60 (q := 0) rfl ?_
              refine z_l2i F dX8_invite_62 (by omega) ?_
              refine zn_i (rest := []) F (k_X11_isIn l M5 ⟨hI, hW⟩ y6 (by omega) (by omega) v14 (by omega) (by omega)) cs_X8_47 (by decide) (by decide) rfl rfl rfl (Nat.le_of_ble_eq_true rfl) dX8_invite_63 (fun v22 M23 rv22 hI p24 => ?_)
              obtain ⟨hI, hW⟩ := hI
              obtain ⟨⟨av22, bv22⟩, rfl, xp24⟩ := p24
              have hbqv14 := xp24
              refine z_if_eq (tgt := 71) F dX8_invite_66 (by decide +kernel) (by omega) (fun c25 => ?_) (fun c25 => ?_)
              · refine z_iload_n F dX8_invite_71 rfl (q := 3) rfl ?_
                refine z_iconst F dX8_invite_72 ?_
                refine z_lload F dX8_invite_73 (q := 0) rfl ?_
                refine z_l2i F dX8_invite_75 (by omega) ?_
                refine z_shl1 (k := 7) F dX8_invite_76 (by decide) (by omega) (by omega) (fun v26 ev26 av26 bv26 => ?_)
                refine z_ior_k (k := 8) F dX8_invite_77 (by decide) (by omega) (by omega) (by omega) (by omega) (fun v27 av27 bv27 => ?_)
                refine z_istore_n F dX8_invite_78 rfl (by decide) (ls' := [(2, ii v27), (4, ll v14), (0, .ref (ad 58)), (1, .ref (ad 129)), (3, ii y7)]) rfl ?_
                refine z_aload_n F dX8_invite_79 rfl (q := 2) rfl ?_
                refine rf_X8_11 F gs_58 rfl dX8_invite_80 ?_
                refine z_iload_n F dX8_invite_83 rfl (q := 4) rfl ?_
                refine z_lload F dX8_invite_84 (q := 1) rfl ?_
                refine z_l2i F dX8_invite_86 (by omega) ?_
                refine z_iast F hI gs_59 (by omega) (by omega) (by decide) bd_59 dX8_invite_87 (by omega) (by omega) (fun M29 hI sf28 f28 => ?_)
                have hF := hF.wr f28 (by decide) (by decide)
                have hW : WFk M29 := hW.site f28 (by decide)
                refine z_iincN F dX8_invite_88 (q := 4) rfl (by decide) (fun v30 ev30 => ?_)
                refine z_eq (ls' := [(3, ii v30), (2, ii v27), (4, ll v14), (0, .ref (ad 58)), (1, .ref (ad 129))]) rfl rfl rfl ?_
                refine z_goto (tgt := 23) F dX8_invite_91 (by decide +kernel) ?_
                refine z_loc [3, 4, 1, 0] (ls' := [(0, .ref (ad 58)), (1, .ref (ad 129)), (2, ii v27), (3, ii v30)]) rfl ?_
                have q31 : u8 = M29 129 0 := eu8.trans (f28 129 0 (fun q => absurd q.1 (by decide))).symm
                exact ih23 v27 v30 M29 hI hW hF (by omega) (by omega) (by omega) (by omega) (by omega) (by omega) (by omega) (by omega)
              · refine z_iconst F dX8_invite_69 ?_
                exact hret _ _ 70 _ ⟨by omega, by omega⟩ ⟨hI, hW⟩ ⟨⟨by omega, by omega⟩, hF, (by omega)⟩ dX8_invite_70
    · refine z_iconst F dX8_invite_17 ?_
      exact hret _ _ 18 _ ⟨by omega, by omega⟩ ⟨hI, hW⟩ ⟨⟨by omega, by omega⟩, hF, (by omega)⟩ dX8_invite_18
set_option maxRecDepth 4000 in
theorem k_X11_needGuests_0_129 (l : Launch) (hlT : l.stackTraces = false) (M : Mem) (hJ : Iw M) : CVX l yX11_needGuests cX11_needGuests 2 none 3 1 (fun ad => [.ref (ad 0), .ref (ad 129)]) M (fun M' => Fr [58, 59] M M' ∧ (1 ≤ M 129 0 ∧ M 129 0 ≤ 10)) (fun E M' => (E = "java/lang/IllegalArgumentException" ∧ True ∧ Fr [58, 59] M M')) := by
  obtain ⟨hI, hW⟩ := hJ
  have hF : Fr [58, 59] M M := Fr.rf
  refine enx_v (by decide +kernel) (fun ad => by exact Nat.le_of_ble_eq_true rfl) (fun D cy ad A p e s m args below meth c Q F hQ hr hlk hex => ?_)
  refine z_eq (ls' := [(0, .ref (ad 0)), (1, .ref (ad 129))]) rfl rfl rfl ?_
  refine z_aload_n F dX11_needGuests_0 rfl (q := 0) rfl ?_
  refine rf_X11_87 F gs_0 rfl dX11_needGuests_1 ?_
  refine z_aload_n F dX11_needGuests_4 rfl (q := 1) rfl ?_
  refine zw_i (rest := []) F (k_X8_invite_58_129 l M ⟨hI, hW⟩) cs_X11_413 (T := TX8) (N := 9) (ci := 8) rfl gs_58 (by decide) (by decide) ⟨by decide, by decide⟩ rfl rfl rfl (Nat.le_of_ble_eq_true rfl) dX11_needGuests_5 (fun v1 M2 rv1 hI p3 => ?_)
  obtain ⟨hI, hW⟩ := hI
  obtain ⟨⟨av1, bv1⟩, fp3, xp3⟩ := p3
  have hF := hF.call fp3 (by decide)
  refine z_if_ne (tgt := 22) F dX11_needGuests_8 (by decide +kernel) (by omega) (fun c4 => ?_) (fun c4 => ?_)
  · exact zxr_v F hQ hr hlk dX11_needGuests_22 ⟨by decide, by decide⟩ ⟨hI, hW⟩ ⟨hF, (by omega)⟩
  · exact z_thrSW (cls := "java/lang/IllegalArgumentException") (names := ["java/lang/RuntimeException", "java/lang/Exception"]) (j := 46) F hlT hQ hlk hex (by decide +kernel) (by decide +kernel) (by decide) (gin lm_360 rfl) (gin lm_361 rfl) at_X11_105 bad_X11_105 (by decide +kernel) ot_X11_105 rfl rfl rfl dX11_needGuests_11 dX11_needGuests_14 dX11_needGuests_15 dX11_needGuests_18 dX11_needGuests_21 ⟨by decide, by decide⟩ (Nat.le_of_ble_eq_true rfl) ⟨hI, hW⟩ (⟨rfl, trivial, hF⟩)
set_option maxRecDepth 4000 in
theorem k_X11_goats (l : Launch) (hlT : l.stackTraces = false) (M : Mem) (hJ : Iw M) (x0 : Int) (hx0a : (-2147483648) ≤ x0) (hx0b : x0 ≤ 2147483647) (x1 : Int) (hx1a : 0 ≤ x1) (hx1b : x1 ≤ 1) : CIX l yX11_goats cX11_goats 3 (some .int) 5 3 (fun ad => [.ref (ad 0), ii x0, ii x1]) M (fun z M' => ((-2147483648) ≤ z ∧ z ≤ 2147483647) ∧ Fr [58, 59] M M') (fun E M' => (E = "java/lang/IllegalArgumentException" ∧ True ∧ Fr [58, 59] M M') ∨ (E = "java/lang/IllegalStateException" ∧ True ∧ Fr [58, 59] M M') ∨ (E = "java/util/NoSuchElementException" ∧ True ∧ Fr [58, 59] M M')) := by
  obtain ⟨hI, hW⟩ := hJ
  have hF : Fr [58, 59] M M := Fr.rf
  refine enx_i (by decide +kernel) (fun ad => by exact Nat.le_of_ble_eq_true rfl) (fun D cy ad A p e s m args below meth c Q F hQ hr hlk hex => ?_)
  refine z_eq (ls' := [(0, .ref (ad 0)), (1, ii x0), (2, ii x1)]) rfl rfl rfl ?_
  refine z_aload_n F dX11_goats_0 rfl (q := 0) rfl ?_
  refine z_aload_n F dX11_goats_1 rfl (q := 0) rfl ?_
  refine z_iload_n F dX11_goats_2 rfl (q := 1) rfl ?_
  rcases (show x0 = 0 ∨ x0 = 1 ∨ x0 = 2 ∨ x0 = 3 ∨ (x0 < 0 ∨ 3 < x0) by omega) with c1 | c1 | c1 | c1 | c1
  · refine zy_r (rest := [.ref (ad 0)]) F (k_X11_filledTray_t0 l hlT M ⟨hI, hW⟩ x0 (by omega) (by omega)) cs_X11_248 (T := TX11) (N := 14) (ci := 11) rfl gs_0 (by decide) (by decide) ⟨by decide, by decide⟩ rfl rfl rfl (Nat.le_of_ble_eq_true rfl) dX11_goats_3 (fun E M9 hJ9 hx => by rcases hx with ⟨h9, g9, rfl⟩ | ⟨h9, g9, rfl⟩ <;> first | (exact zx_out hQ hlk hex ⟨by decide, by decide⟩ hJ9 (Or.inr (Or.inl ⟨h9, trivial, hF⟩))) | (exact zx_out hQ hlk hex ⟨by decide, by decide⟩ hJ9 (Or.inr (Or.inr (⟨h9, trivial, hF⟩))))) (fun M2 hI p3 => ?_)
    obtain ⟨hI, hW⟩ := hI
    obtain rfl := p3
    refine zy_v (rest := []) F (k_X11_needGuests_0_123 l hlT M ⟨hI, hW⟩) cs_X11_382 (T := TX11) (N := 14) (ci := 11) rfl gs_0 (by decide) (by decide) ⟨by decide, by decide⟩ rfl rfl rfl (Nat.le_of_ble_eq_true rfl) dX11_goats_6 (fun E M9 hJ9 hx => by obtain ⟨h9, g9, f9⟩ := hx <;> first | (exact zx_out hQ hlk hex ⟨by decide, by decide⟩ hJ9 (Or.inl ⟨h9, trivial, (hF.call f9 (by decide))⟩))) (fun M4 hI p5 => ?_)
    obtain ⟨hI, hW⟩ := hI
    obtain ⟨fp5, xp5⟩ := p5
    have hF := hF.call fp5 (by decide)
    refine z_aload_n F dX11_goats_9 rfl (q := 0) rfl ?_
    refine rf_X11_87 F gs_0 rfl dX11_goats_10 ?_
    refine z_iload_n F dX11_goats_13 rfl (q := 2) rfl ?_
    refine zw_i (rest := []) F (k_X8_goatsOfGuests_58 l M4 ⟨hI, hW⟩ x1 (by omega) (by omega)) cs_X11_386 (T := TX8) (N := 9) (ci := 8) rfl gs_58 (by decide) (by decide) ⟨by decide, by decide⟩ rfl rfl rfl (Nat.le_of_ble_eq_true rfl) dX11_goats_14 (fun v6 M7 rv6 hI p8 => ?_)
    obtain ⟨hI, hW⟩ := hI
    obtain ⟨⟨av6, bv6⟩, rfl⟩ := p8
    exact zxr_i F hQ hr hlk dX11_goats_17 ⟨by decide, by decide⟩ (by omega) ⟨hI, hW⟩ ⟨⟨by omega, by omega⟩, hF⟩
  · refine zy_r (rest := [.ref (ad 0)]) F (k_X11_filledTray_t1 l hlT M ⟨hI, hW⟩ x0 (by omega) (by omega)) cs_X11_248 (T := TX11) (N := 14) (ci := 11) rfl gs_0 (by decide) (by decide) ⟨by decide, by decide⟩ rfl rfl rfl (Nat.le_of_ble_eq_true rfl) dX11_goats_3 (fun E M9 hJ9 hx => by rcases hx with ⟨h9, g9, rfl⟩ | ⟨h9, g9, rfl⟩ <;> first | (exact zx_out hQ hlk hex ⟨by decide, by decide⟩ hJ9 (Or.inr (Or.inl ⟨h9, trivial, hF⟩))) | (exact zx_out hQ hlk hex ⟨by decide, by decide⟩ hJ9 (Or.inr (Or.inr (⟨h9, trivial, hF⟩))))) (fun M9 hI p10 => ?_)
    obtain ⟨hI, hW⟩ := hI
    obtain rfl := p10
    refine zy_v (rest := []) F (k_X11_needGuests_0_125 l hlT M ⟨hI, hW⟩) cs_X11_382 (T := TX11) (N := 14) (ci := 11) rfl gs_0 (by decide) (by decide) ⟨by decide, by decide⟩ rfl rfl rfl (Nat.le_of_ble_eq_true rfl) dX11_goats_6 (fun E M9 hJ9 hx => by obtain ⟨h9, g9, f9⟩ := hx <;> first | (exact zx_out hQ hlk hex ⟨by decide, by decide⟩ hJ9 (Or.inl ⟨h9, trivial, (hF.call f9 (by decide))⟩))) (fun M11 hI p12 => ?_)
    obtain ⟨hI, hW⟩ := hI
    obtain ⟨fp12, xp12⟩ := p12
    have hF := hF.call fp12 (by decide)
    refine z_aload_n F dX11_goats_9 rfl (q := 0) rfl ?_
    refine rf_X11_87 F gs_0 rfl dX11_goats_10 ?_
    refine z_iload_n F dX11_goats_13 rfl (q := 2) rfl ?_
    refine zw_i (rest := []) F (k_X8_goatsOfGuests_58 l M11 ⟨hI, hW⟩ x1 (by omega) (by omega)) cs_X11_386 (T := TX8) (N := 9) (ci := 8) rfl gs_58 (by decide) (by decide) ⟨by decide, by decide⟩ rfl rfl rfl (Nat.le_of_ble_eq_true rfl) dX11_goats_14 (fun v13 M14 rv13 hI p15 => ?_)
    obtain ⟨hI, hW⟩ := hI
    obtain ⟨⟨av13, bv13⟩, rfl⟩ := p15
    exact zxr_i F hQ hr hlk dX11_goats_17 ⟨by decide, by decide⟩ (by omega) ⟨hI, hW⟩ ⟨⟨by omega, by omega⟩, hF⟩
  · refine zy_r (rest := [.ref (ad 0)]) F (k_X11_filledTray_t2 l hlT M ⟨hI, hW⟩ x0 (by omega) (by omega)) cs_X11_248 (T := TX11) (N := 14) (ci := 11) rfl gs_0 (by decide) (by decide) ⟨by decide, by decide⟩ rfl rfl rfl (Nat.le_of_ble_eq_true rfl) dX11_goats_3 (fun E M9 hJ9 hx => by rcases hx with ⟨h9, g9, rfl⟩ | ⟨h9, g9, rfl⟩ <;> first | (exact zx_out hQ hlk hex ⟨by decide, by decide⟩ hJ9 (Or.inr (Or.inl ⟨h9, trivial, hF⟩))) | (exact zx_out hQ hlk hex ⟨by decide, by decide⟩ hJ9 (Or.inr (Or.inr (⟨h9, trivial, hF⟩))))) (fun M16 hI p17 => ?_)
    obtain ⟨hI, hW⟩ := hI
    obtain rfl := p17
    refine zy_v (rest := []) F (k_X11_needGuests_0_127 l hlT M ⟨hI, hW⟩) cs_X11_382 (T := TX11) (N := 14) (ci := 11) rfl gs_0 (by decide) (by decide) ⟨by decide, by decide⟩ rfl rfl rfl (Nat.le_of_ble_eq_true rfl) dX11_goats_6 (fun E M9 hJ9 hx => by obtain ⟨h9, g9, f9⟩ := hx <;> first | (exact zx_out hQ hlk hex ⟨by decide, by decide⟩ hJ9 (Or.inl ⟨h9, trivial, (hF.call f9 (by decide))⟩))) (fun M18 hI p19 => ?_)
    obtain ⟨hI, hW⟩ := hI
    obtain ⟨fp19, xp19⟩ := p19
    have hF := hF.call fp19 (by decide)
    refine z_aload_n F dX11_goats_9 rfl (q := 0) rfl ?_
    refine rf_X11_87 F gs_0 rfl dX11_goats_10 ?_
    refine z_iload_n F dX11_goats_13 rfl (q := 2) rfl ?_
    refine zw_i (rest := []) F (k_X8_goatsOfGuests_58 l M18 ⟨hI, hW⟩ x1 (by omega) (by omega)) cs_X11_386 (T := TX8) (N := 9) (ci := 8) rfl gs_58 (by decide) (by decide) ⟨by decide, by decide⟩ rfl rfl rfl (Nat.le_of_ble_eq_true rfl) dX11_goats_14 (fun v20 M21 rv20 hI p22 => ?_)
    obtain ⟨hI, hW⟩ := hI
    obtain ⟨⟨av20, bv20⟩, rfl⟩ := p22
    exact zxr_i F hQ hr hlk dX11_goats_17 ⟨by decide, by decide⟩ (by omega) ⟨hI, hW⟩ ⟨⟨by omega, by omega⟩, hF⟩
  · refine zy_r (rest := [.ref (ad 0)]) F (k_X11_filledTray_t3 l hlT M ⟨hI, hW⟩ x0 (by omega) (by omega)) cs_X11_248 (T := TX11) (N := 14) (ci := 11) rfl gs_0 (by decide) (by decide) ⟨by decide, by decide⟩ rfl rfl rfl (Nat.le_of_ble_eq_true rfl) dX11_goats_3 (fun E M9 hJ9 hx => by rcases hx with ⟨h9, g9, rfl⟩ | ⟨h9, g9, rfl⟩ <;> first | (exact zx_out hQ hlk hex ⟨by decide, by decide⟩ hJ9 (Or.inr (Or.inl ⟨h9, trivial, hF⟩))) | (exact zx_out hQ hlk hex ⟨by decide, by decide⟩ hJ9 (Or.inr (Or.inr (⟨h9, trivial, hF⟩))))) (fun M23 hI p24 => ?_)
    obtain ⟨hI, hW⟩ := hI
    obtain rfl := p24
    refine zy_v (rest := []) F (k_X11_needGuests_0_129 l hlT M ⟨hI, hW⟩) cs_X11_382 (T := TX11) (N := 14) (ci := 11) rfl gs_0 (by decide) (by decide) ⟨by decide, by decide⟩ rfl rfl rfl (Nat.le_of_ble_eq_true rfl) dX11_goats_6 (fun E M9 hJ9 hx => by obtain ⟨h9, g9, f9⟩ := hx <;> first | (exact zx_out hQ hlk hex ⟨by decide, by decide⟩ hJ9 (Or.inl ⟨h9, trivial, (hF.call f9 (by decide))⟩))) (fun M25 hI p26 => ?_)
    obtain ⟨hI, hW⟩ := hI
    obtain ⟨fp26, xp26⟩ := p26
    have hF := hF.call fp26 (by decide)
    refine z_aload_n F dX11_goats_9 rfl (q := 0) rfl ?_
    refine rf_X11_87 F gs_0 rfl dX11_goats_10 ?_
    refine z_iload_n F dX11_goats_13 rfl (q := 2) rfl ?_
    refine zw_i (rest := []) F (k_X8_goatsOfGuests_58 l M25 ⟨hI, hW⟩ x1 (by omega) (by omega)) cs_X11_386 (T := TX8) (N := 9) (ci := 8) rfl gs_58 (by decide) (by decide) ⟨by decide, by decide⟩ rfl rfl rfl (Nat.le_of_ble_eq_true rfl) dX11_goats_14 (fun v27 M28 rv27 hI p29 => ?_)
    obtain ⟨hI, hW⟩ := hI
    obtain ⟨⟨av27, bv27⟩, rfl⟩ := p29
    exact zxr_i F hQ hr hlk dX11_goats_17 ⟨by decide, by decide⟩ (by omega) ⟨hI, hW⟩ ⟨⟨by omega, by omega⟩, hF⟩
  · refine zy_r (rest := [.ref (ad 0)]) F (k_X11_filledTray_to l hlT M ⟨hI, hW⟩ x0 (by omega) (by omega) (by omega)) cs_X11_248 (T := TX11) (N := 14) (ci := 11) rfl gs_0 (by decide) (by decide) ⟨by decide, by decide⟩ rfl rfl rfl (Nat.le_of_ble_eq_true rfl) dX11_goats_3 (fun E M9 hJ9 hx => by obtain ⟨h9, g9, rfl⟩ := hx <;> first | (exact zx_out hQ hlk hex ⟨by decide, by decide⟩ hJ9 (Or.inr (Or.inr (⟨h9, trivial, hF⟩))))) (fun M30 hI p31 => ?_)
    obtain ⟨hI, hW⟩ := hI
    obtain ⟨rfl, xp31⟩ := p31
    exact xp31.elim
set_option maxRecDepth 4000 in
theorem k_X8_goatsBy_58 (l : Launch) (M : Mem) (hJ : Iw M) (x0 : Int) (hx0a : 0 ≤ x0) (hx0b : x0 ≤ 255) (x1 : Int) (hx1a : (-1) ≤ x1) (hx1b : x1 ≤ 7) (x2 : Int) (hx2a : 0 ≤ x2) (hx2b : x2 ≤ 7) : CI l yX8_goatsBy cX8_goatsBy 5 (some .int) 4 (fun ad => [.ref (ad 58), ii x0, ii x1, ii x2]) M (fun z M' => ((-2147483648) ≤ z ∧ z ≤ 2147483647) ∧ M = M') := by
  obtain ⟨hI, hW⟩ := hJ
  refine en_i (by decide +kernel) (fun ad => by exact Nat.le_of_ble_eq_true rfl) (fun D cy ad A p e s m args below meth c Q F hret => ?_)
  refine z_eq (ls' := [(0, .ref (ad 58)), (1, ii x0), (2, ii x1), (3, ii x2)]) rfl rfl rfl ?_
  refine z_aload_n F dX8_goatsBy_0 rfl (q := 0) rfl ?_
  refine rf_X8_18 F gs_58 rfl dX8_goatsBy_1 ?_
  refine z_iload_n F dX8_goatsBy_4 rfl (q := 1) rfl ?_
  refine z_iconst F dX8_goatsBy_5 ?_
  refine z_iload_n F dX8_goatsBy_6 rfl (q := 3) rfl ?_
  refine z_shl1 (k := 7) F dX8_goatsBy_7 (by decide) (by omega) (by omega) (fun v1 ev1 av1 bv1 => ?_)
  refine z_iconst F dX8_goatsBy_8 ?_
  refine z_ixor0 F dX8_goatsBy_9 (fun v2 ev2 rv2 => ?_)
  refine z_iand_l F dX8_goatsBy_10 (by omega) (by omega) (fun v3 ev3 av3 bv3 => ?_)
  refine z_bipush F dX8_goatsBy_11 (by decide +kernel) ?_
  refine z_imul F dX8_goatsBy_13 ?_
  refine z_iload_n F dX8_goatsBy_14 rfl (q := 3) rfl ?_
  refine z_iadd F dX8_goatsBy_15 ?_
  refine z_iald F hI gs_61 (by omega) (by omega) (by decide) bd_61 dX8_goatsBy_16 (fun v4 (ev4 : v4 = M 61 _) av4 bv4 => ?_)
  refine z_istore F dX8_goatsBy_17 (by decide) (ls' := [(4, ii v4), (0, .ref (ad 58)), (1, ii x0), (2, ii x1), (3, ii x2)]) rfl ?_
  refine z_iload F dX8_goatsBy_19 (q := 0) rfl ?_
  refine z_iload_n F dX8_goatsBy_21 rfl (q := 3) rfl ?_
  refine z_iconst F dX8_goatsBy_22 ?_
  refine z_icmp_ne (tgt := 30) F dX8_goatsBy_23 (by decide +kernel) (by omega) (by omega) (fun c5 => ?_) (fun c5 => ?_)
  · refine z_aload_n F dX8_goatsBy_30 rfl (q := 1) rfl ?_
    refine z_iload_n F dX8_goatsBy_31 rfl (q := 3) rfl ?_
    refine z_iload_n F dX8_goatsBy_32 rfl (q := 4) rfl ?_
    refine zv_i (rest := [ii v4]) F (k_X8_goatBetween_58 l M ⟨hI, hW⟩ x1 (by omega) (by omega) x2 (by omega) (by omega)) cs_X8_60 (T := TX8) (N := 9) (ci := 8) rfl gs_58 (by decide) (by decide) rfl rfl rfl (Nat.le_of_ble_eq_true rfl) dX8_goatsBy_33 (fun v6 M7 rv6 hI p8 => ?_)
    obtain ⟨hI, hW⟩ := hI
    obtain ⟨⟨av6, bv6⟩, rfl⟩ := p8
    refine z_iadd F dX8_goatsBy_36 ?_
    refine z_wrap (fun v9 rv9 wv9 => ?_)
    exact hret _ _ 37 _ (by omega) ⟨hI, hW⟩ ⟨⟨by omega, by omega⟩, rfl⟩ dX8_goatsBy_37
  · refine z_iconst F dX8_goatsBy_26 ?_
    refine z_goto (tgt := 36) F dX8_goatsBy_27 (by decide +kernel) ?_
    refine z_iadd F dX8_goatsBy_36 ?_
    exact hret _ _ 37 _ (by omega) ⟨hI, hW⟩ ⟨⟨by omega, by omega⟩, rfl⟩ dX8_goatsBy_37
set_option maxRecDepth 4000 in
theorem k_X8_bestNext_58 (l : Launch) (M : Mem) (hJ : Iw M) (x0 : Int) (hx0a : 1 ≤ x0) (hx0b : x0 ≤ 255) (x1 : Int) (hx1a : (-1) ≤ x1) (hx1b : x1 ≤ 7) : CI l yX8_bestNext cX8_bestNext 5 (some .int) 5 (fun ad => [.ref (ad 58), ii x0, ii x1]) M (fun z M' => (0 ≤ z ∧ z ≤ 7) ∧ M = M' ∧ (0 ≤ z ∧ z ≤ 7 ∧ Bt x0 z)) := by
  obtain ⟨hI, hW⟩ := hJ
  refine en_i (by decide +kernel) (fun ad => by exact Nat.le_of_ble_eq_true rfl) (fun D cy ad A p e s m args below meth c Q F hret => ?_)
  refine z_eq (ls' := [(0, .ref (ad 58)), (1, ii x0), (2, ii x1)]) rfl rfl rfl ?_
  refine z_iload_n F dX8_bestNext_0 rfl (q := 1) rfl ?_
  refine zs_i (rest := []) F (k_J6_numberOfTrailingZeros_0f7a4 l M ⟨hI, hW⟩ x0 (by omega) (by omega)) cs_X8_82 (by decide) (by decide) rfl rfl rfl (Nat.le_of_ble_eq_true rfl) dX8_bestNext_1 (fun v1 M2 rv1 hI p3 => ?_)
  obtain ⟨hI, hW⟩ := hI
  obtain ⟨⟨av1, bv1⟩, rfl, xp3⟩ := p3
  have hnz := xp3 (by omega)
  have hzv1 : 0 ≤ v1 ∧ v1 ≤ 7 := by have := xp3 (by omega); omega
  refine z_istore_n F dX8_bestNext_4 rfl (by decide) (ls' := [(3, ii v1), (0, .ref (ad 58)), (1, ii x0), (2, ii x1)]) rfl ?_
  refine z_iload_n F dX8_bestNext_5 rfl (q := 0) rfl ?_
  refine z_iconst F dX8_bestNext_6 ?_
  refine z_iadd F dX8_bestNext_7 ?_
  refine z_nm (fun v4 ev4 => ?_)
  refine z_istore F dX8_bestNext_8 (by decide) (ls' := [(4, ii v4), (3, ii v1), (0, .ref (ad 58)), (1, ii x0), (2, ii x1)]) rfl ?_
  refine z_loc [2, 3, 4, 1, 0] (ls' := [(0, .ref (ad 58)), (1, ii x0), (2, ii x1), (3, ii v1), (4, ii v4)]) rfl ?_
  suffices key10 : ∀ (n : Nat) (y6 : Int) (y7 : Int), 0 ≤ y6 → y6 ≤ 7 → 1 ≤ y7 → y7 ≤ 8 → (Bt x0 y6) → 8 - y7 < (n : Int) → Z D cy ad p l e (RMh 5) s m args below meth c A 5 0 0 Q 10 [(0, .ref (ad 58)), (1, ii x0), (2, ii x1), (3, ii y6), (4, ii y7)] [] M from key10 8 v1 v4 (by omega) (by omega) (by omega) (by omega) hnz.2.2 (by omega)
  intro n10
  induction n10 with
  | zero => intro y6 y7 ay6 by6 ay7 by7 i10_0 hn10; exfalso; omega
  | succ n10 ih10 =>
    intro y6 y7 ay6 by6 ay7 by7 i10_0 hn10
    refine z_iload F dX8_bestNext_10 (q := 4) rfl ?_
    refine z_aload_n F dX8_bestNext_12 rfl (q := 0) rfl ?_
    refine rf_X8_24 F gs_58 rfl dX8_bestNext_13 ?_
    refine gf_X8_42 F hI gs_2 rfl bd_2_3 dX8_bestNext_16 (fun v8 ev8 av8 bv8 => ?_)
    refine z_icmp_ge (tgt := 58) F dX8_bestNext_19 (by decide +kernel) (by omega) (by omega) (fun c9 => ?_) (fun c9 => ?_)
    · refine z_iload_n F dX8_bestNext_58 rfl (q := 3) rfl ?_
      exact hret _ _ 59 _ (by omega) ⟨hI, hW⟩ ⟨⟨by omega, by omega⟩, rfl, ⟨by omega, by omega, by assumption⟩⟩ dX8_bestNext_59
    · refine z_iload_n F dX8_bestNext_22 rfl (q := 1) rfl ?_
      refine z_iload F dX8_bestNext_23 (q := 4) rfl ?_
      refine zn_i (rest := []) F (k_X11_isIn l M ⟨hI, hW⟩ x0 (by omega) (by omega) y7 (by omega) (by omega)) cs_X8_47 (by decide) (by decide) rfl rfl rfl (Nat.le_of_ble_eq_true rfl) dX8_bestNext_25 (fun v10 M11 rv10 hI p12 => ?_)
      obtain ⟨hI, hW⟩ := hI
      obtain ⟨⟨av10, bv10⟩, rfl, xp12⟩ := p12
      have hbqy7 := xp12
      refine z_if_eq (tgt := 52) F dX8_bestNext_28 (by decide +kernel) (by omega) (fun c13 => ?_) (fun c13 => ?_)
      · refine z_iincN F dX8_bestNext_52 (q := 4) rfl (by decide) (fun v14 ev14 => ?_)
        refine z_eq (ls' := [(4, ii v14), (0, .ref (ad 58)), (1, ii x0), (2, ii x1), (3, ii y6)]) rfl rfl rfl ?_
        refine z_goto (tgt := 10) F dX8_bestNext_55 (by decide +kernel) ?_
        refine z_loc [1, 2, 3, 4, 0] (ls' := [(0, .ref (ad 58)), (1, ii x0), (2, ii x1), (3, ii y6), (4, ii v14)]) rfl ?_
        exact ih10 y6 v14 (by omega) (by omega) (by omega) (by omega) i10_0 (by omega)
      · refine z_aload_n F dX8_bestNext_31 rfl (q := 0) rfl ?_
        refine z_iload_n F dX8_bestNext_32 rfl (q := 1) rfl ?_
        refine z_iload_n F dX8_bestNext_33 rfl (q := 2) rfl ?_
        refine z_iload F dX8_bestNext_34 (q := 4) rfl ?_
        refine zv_i (rest := []) F (k_X8_goatsBy_58 l M ⟨hI, hW⟩ x0 (by omega) (by omega) x1 (by omega) (by omega) y7 (by omega) (by omega)) cs_X8_92 (T := TX8) (N := 9) (ci := 8) rfl gs_58 (by decide) (by decide) rfl rfl rfl (Nat.le_of_ble_eq_true rfl) dX8_bestNext_36 (fun v15 M16 rv15 hI p17 => ?_)
        obtain ⟨hI, hW⟩ := hI
        obtain ⟨⟨av15, bv15⟩, rfl⟩ := p17
        refine z_aload_n F dX8_bestNext_39 rfl (q := 0) rfl ?_
        refine z_iload_n F dX8_bestNext_40 rfl (q := 1) rfl ?_
        refine z_iload_n F dX8_bestNext_41 rfl (q := 2) rfl ?_
        refine z_iload_n F dX8_bestNext_42 rfl (q := 3) rfl ?_
        refine zv_i (rest := [ii v15]) F (k_X8_goatsBy_58 l M ⟨hI, hW⟩ x0 (by omega) (by omega) x1 (by omega) (by omega) y6 (by omega) (by omega)) cs_X8_92 (T := TX8) (N := 9) (ci := 8) rfl gs_58 (by decide) (by decide) rfl rfl rfl (Nat.le_of_ble_eq_true rfl) dX8_bestNext_43 (fun v18 M19 rv18 hI p20 => ?_)
        obtain ⟨hI, hW⟩ := hI
        obtain ⟨⟨av18, bv18⟩, rfl⟩ := p20
        refine z_icmp_ge (tgt := 52) F dX8_bestNext_46 (by decide +kernel) (by omega) (by omega) (fun c21 => ?_) (fun c21 => ?_)
        · refine z_iincN F dX8_bestNext_52 (q := 4) rfl (by decide) (fun v22 ev22 => ?_)
          refine z_eq (ls' := [(4, ii v22), (0, .ref (ad 58)), (1, ii x0), (2, ii x1), (3, ii y6)]) rfl rfl rfl ?_
          refine z_goto (tgt := 10) F dX8_bestNext_55 (by decide +kernel) ?_
          refine z_loc [1, 2, 3, 4, 0] (ls' := [(0, .ref (ad 58)), (1, ii x0), (2, ii x1), (3, ii y6), (4, ii v22)]) rfl ?_
          exact ih10 y6 v22 (by omega) (by omega) (by omega) (by omega) i10_0 (by omega)
        · refine z_iload F dX8_bestNext_49 (q := 4) rfl ?_
          refine z_istore_n F dX8_bestNext_51 rfl (by decide) (ls' := [(3, ii y7), (0, .ref (ad 58)), (1, ii x0), (2, ii x1), (4, ii y7)]) rfl ?_
          refine z_iincN F dX8_bestNext_52 (q := 4) rfl (by decide) (fun v23 ev23 => ?_)
          refine z_eq (ls' := [(4, ii v23), (3, ii y7), (0, .ref (ad 58)), (1, ii x0), (2, ii x1)]) rfl rfl rfl ?_
          refine z_goto (tgt := 10) F dX8_bestNext_55 (by decide +kernel) ?_
          refine z_loc [2, 3, 4, 1, 0] (ls' := [(0, .ref (ad 58)), (1, ii x0), (2, ii x1), (3, ii y7), (4, ii v23)]) rfl ?_
          exact ih10 y7 v23 (by omega) (by omega) (by omega) (by omega) (hbqy7.mp (by omega)) (by omega)
set_option maxRecDepth 4000 in
theorem k_X8_weigh_58 (l : Launch) (M : Mem) (hJ : Iw M) (x0 : Int) (hx0a : 0 ≤ x0) (hx0b : x0 ≤ 255) (x1 : Int) (hx1a : 0 ≤ x1) (hx1b : x1 ≤ 255) (x2 : Int) (hx2a : (-1) ≤ x2) (hx2b : x2 ≤ 7) : CV l yX8_weigh cX8_weigh 6 none 6 (fun ad => [.ref (ad 58), ii x0, ii x1, ii x2]) M (fun M' => Fr [61] M M') := by
  obtain ⟨hI, hW⟩ := hJ
  have hF : Fr [61] M M := Fr.rf
  refine en_v (by decide +kernel) (fun ad => by exact Nat.le_of_ble_eq_true rfl) (fun D cy ad A p e s m args below meth c Q F hret => ?_)
  refine z_eq (ls' := [(0, .ref (ad 58)), (1, ii x0), (2, ii x1), (3, ii x2)]) rfl rfl rfl ?_
  refine z_iconst F dX8_weigh_0 ?_
  refine z_istore F dX8_weigh_1 (by decide) (ls' := [(4, ii 0), (0, .ref (ad 58)), (1, ii x0), (2, ii x1), (3, ii x2)]) rfl ?_
  refine z_loc [1, 2, 3, 4, 0] (ls' := [(0, .ref (ad 58)), (1, ii x0), (2, ii x1), (3, ii x2), (4, ii 0)]) rfl ?_
  suffices key3 : ∀ (n : Nat) (y2 : Int) (M1 : Mem), Inv M1 → WFk M1 → Fr [61] M M1 → 0 ≤ y2 → y2 ≤ 8 → 8 - y2 < (n : Int) → Z D cy ad p l e (RMh 6) s m args below meth c A 6 0 0 Q 3 [(0, .ref (ad 58)), (1, ii x0), (2, ii x1), (3, ii x2), (4, ii y2)] [] M1 from key3 9 0 M hI hW hF (by omega) (by omega) (by omega)
  intro n3
  induction n3 with
  | zero => intro y2 M1 hI hW hF ay2 by2 hn3; exfalso; omega
  | succ n3 ih3 =>
    intro y2 M1 hI hW hF ay2 by2 hn3
    refine z_iload F dX8_weigh_3 (q := 4) rfl ?_
    refine z_aload_n F dX8_weigh_5 rfl (q := 0) rfl ?_
    refine rf_X8_24 F gs_58 rfl dX8_weigh_6 ?_
    refine gf_X8_42 F hI gs_2 rfl bd_2_3 dX8_weigh_9 (fun v3 ev3 av3 bv3 => ?_)
    refine z_icmp_ge (tgt := 92) F dX8_weigh_12 (by decide +kernel) (by omega) (by omega) (fun c4 => ?_) (fun c4 => ?_)
    · exact hret _ 92 _ ⟨hI, hW⟩ hF dX8_weigh_92
    · refine z_iload_n F dX8_weigh_15 rfl (q := 1) rfl ?_
      refine z_iload_n F dX8_weigh_16 rfl (q := 2) rfl ?_
      refine z_iconst F dX8_weigh_17 ?_
      refine z_ixor0 F dX8_weigh_18 (fun v5 ev5 rv5 => ?_)
      refine z_iand_l F dX8_weigh_19 (by omega) (by omega) (fun v6 ev6 av6 bv6 => ?_)
      refine z_iload F dX8_weigh_20 (q := 4) rfl ?_
      refine zn_i (rest := []) F (k_X11_isIn l M1 ⟨hI, hW⟩ v6 (by omega) (by omega) y2 (by omega) (by omega)) cs_X8_47 (by decide) (by decide) rfl rfl rfl (Nat.le_of_ble_eq_true rfl) dX8_weigh_22 (fun v7 M8 rv7 hI p9 => ?_)
      obtain ⟨hI, hW⟩ := hI
      obtain ⟨⟨av7, bv7⟩, rfl, xp9⟩ := p9
      have hbqy2 := xp9
      refine z_if_eq (tgt := 86) F dX8_weigh_25 (by decide +kernel) (by omega) (fun c10 => ?_) (fun c10 => ?_)
      · refine z_iincN F dX8_weigh_86 (q := 4) rfl (by decide) (fun v11 ev11 => ?_)
        refine z_eq (ls' := [(4, ii v11), (0, .ref (ad 58)), (1, ii x0), (2, ii x1), (3, ii x2)]) rfl rfl rfl ?_
        refine z_goto (tgt := 3) F dX8_weigh_89 (by decide +kernel) ?_
        refine z_loc [1, 2, 3, 4, 0] (ls' := [(0, .ref (ad 58)), (1, ii x0), (2, ii x1), (3, ii x2), (4, ii v11)]) rfl ?_
        exact ih3 v11 M1 hI hW hF (by omega) (by omega) (by omega)
      · refine z_iload_n F dX8_weigh_28 rfl (q := 3) rfl ?_
        refine z_iconst F dX8_weigh_29 ?_
        refine z_icmp_eq (tgt := 39) F dX8_weigh_30 (by decide +kernel) (by omega) (by omega) (fun c12 => ?_) (fun c12 => ?_)
        · refine z_iconst F dX8_weigh_39 ?_
          refine z_goto (tgt := 50) F dX8_weigh_40 (by decide +kernel) ?_
          refine z_istore F dX8_weigh_50 (by decide) (ls' := [(5, ii 0), (0, .ref (ad 58)), (1, ii x0), (2, ii x1), (3, ii x2), (4, ii y2)]) rfl ?_
          refine z_iload_n F dX8_weigh_52 rfl (q := 3) rfl ?_
          refine z_if_eq (tgt := 72) F dX8_weigh_53 (by decide +kernel) (by omega) (fun c13 => ?_) (fun c13 => ?_)
          · refine z_aload_n F dX8_weigh_72 rfl (q := 1) rfl ?_
            refine rf_X8_18 F gs_58 rfl dX8_weigh_73 ?_
            refine z_iload_n F dX8_weigh_76 rfl (q := 3) rfl ?_
            refine z_bipush F dX8_weigh_77 (by decide +kernel) ?_
            refine z_imul F dX8_weigh_79 ?_
            refine z_iload F dX8_weigh_80 (q := 5) rfl ?_
            refine z_iadd F dX8_weigh_82 ?_
            refine z_iload F dX8_weigh_83 (q := 0) rfl ?_
            refine z_iast F hI gs_61 (by omega) (by omega) (by decide) bd_61 dX8_weigh_85 (by omega) (by omega) (fun M15 hI sf14 f14 => ?_)
            have hF := hF.wr f14 (by decide) (by decide)
            have hW : WFk M15 := hW.site f14 (by decide)
            refine z_iincN F dX8_weigh_86 (q := 5) rfl (by decide) (fun v16 ev16 => ?_)
            refine z_eq (ls' := [(4, ii v16), (5, ii 0), (0, .ref (ad 58)), (1, ii x0), (2, ii x1), (3, ii x2)]) rfl rfl rfl ?_
            refine z_goto (tgt := 3) F dX8_weigh_89 (by decide +kernel) ?_
            refine z_loc [2, 3, 4, 5, 0] (ls' := [(0, .ref (ad 58)), (1, ii x0), (2, ii x1), (3, ii x2), (4, ii v16)]) rfl ?_
            exact ih3 v16 M15 hI hW hF (by omega) (by omega) (by omega)
          · refine z_aload_n F dX8_weigh_56 rfl (q := 1) rfl ?_
            refine z_iload_n F dX8_weigh_57 rfl (q := 3) rfl ?_
            refine z_iload F dX8_weigh_58 (q := 5) rfl ?_
            refine z_aload_n F dX8_weigh_60 rfl (q := 1) rfl ?_
            refine z_iload_n F dX8_weigh_61 rfl (q := 3) rfl ?_
            refine z_iload F dX8_weigh_62 (q := 5) rfl ?_
            refine zv_i (rest := [ii y2, ii x1, .ref (ad 58)]) F (k_X8_bestNext_58 l M1 ⟨hI, hW⟩ x1 (by omega) (by omega) y2 (by omega) (by omega)) cs_X8_89 (T := TX8) (N := 9) (ci := 8) rfl gs_58 (by decide) (by decide) rfl rfl rfl (Nat.le_of_ble_eq_true rfl) dX8_weigh_64 (fun v17 M18 rv17 hI p19 => ?_)
            obtain ⟨hI, hW⟩ := hI
            obtain ⟨⟨av17, bv17⟩, rfl, xp19⟩ := p19
            have hnx := xp19
            have hnr : 0 ≤ v17 ∧ v17 ≤ 7 := by omega
            refine zv_i (rest := []) F (k_X8_goatsBy_58 l M1 ⟨hI, hW⟩ x1 (by omega) (by omega) y2 (by omega) (by omega) v17 (by omega) (by omega)) cs_X8_92 (T := TX8) (N := 9) (ci := 8) rfl gs_58 (by decide) (by decide) rfl rfl rfl (Nat.le_of_ble_eq_true rfl) dX8_weigh_67 (fun v20 M21 rv20 hI p22 => ?_)
            obtain ⟨hI, hW⟩ := hI
            obtain ⟨⟨av20, bv20⟩, rfl⟩ := p22
            refine z_istore F dX8_weigh_70 (by decide) (ls' := [(5, ii v20), (0, .ref (ad 58)), (1, ii x0), (2, ii x1), (3, ii x2), (4, ii y2)]) rfl ?_
            refine z_aload_n F dX8_weigh_72 rfl (q := 1) rfl ?_
            refine rf_X8_18 F gs_58 rfl dX8_weigh_73 ?_
            refine z_iload_n F dX8_weigh_76 rfl (q := 3) rfl ?_
            refine z_bipush F dX8_weigh_77 (by decide +kernel) ?_
            refine z_imul F dX8_weigh_79 ?_
            refine z_iload F dX8_weigh_80 (q := 5) rfl ?_
            refine z_iadd F dX8_weigh_82 ?_
            refine z_iload F dX8_weigh_83 (q := 0) rfl ?_
            refine z_iast F hI gs_61 (by omega) (by omega) (by decide) bd_61 dX8_weigh_85 (by omega) (by omega) (fun M24 hI sf23 f23 => ?_)
            have hF := hF.wr f23 (by decide) (by decide)
            have hW : WFk M24 := hW.site f23 (by decide)
            refine z_iincN F dX8_weigh_86 (q := 5) rfl (by decide) (fun v25 ev25 => ?_)
            refine z_eq (ls' := [(4, ii v25), (5, ii v20), (0, .ref (ad 58)), (1, ii x0), (2, ii x1), (3, ii x2)]) rfl rfl rfl ?_
            refine z_goto (tgt := 3) F dX8_weigh_89 (by decide +kernel) ?_
            refine z_loc [2, 3, 4, 5, 0] (ls' := [(0, .ref (ad 58)), (1, ii x0), (2, ii x1), (3, ii x2), (4, ii v25)]) rfl ?_
            exact ih3 v25 M24 hI hW hF (by omega) (by omega) (by omega)
        · refine z_iload_n F dX8_weigh_33 rfl (q := 3) rfl ?_
          refine z_iload F dX8_weigh_34 (q := 4) rfl ?_
          refine z_icmp_ne (tgt := 43) F dX8_weigh_36 (by decide +kernel) (by omega) (by omega) (fun c26 => ?_) (fun c26 => ?_)
          · refine z_aload_n F dX8_weigh_43 rfl (q := 0) rfl ?_
            refine z_iload F dX8_weigh_44 (q := 4) rfl ?_
            refine z_iload_n F dX8_weigh_46 rfl (q := 3) rfl ?_
            refine zv_i (rest := []) F (k_X8_goatBetween_58 l M1 ⟨hI, hW⟩ y2 (by omega) (by omega) x2 (by omega) (by omega)) cs_X8_60 (T := TX8) (N := 9) (ci := 8) rfl gs_58 (by decide) (by decide) rfl rfl rfl (Nat.le_of_ble_eq_true rfl) dX8_weigh_47 (fun v27 M28 rv27 hI p29 => ?_)
            obtain ⟨hI, hW⟩ := hI
            obtain ⟨⟨av27, bv27⟩, rfl⟩ := p29
            refine z_istore F dX8_weigh_50 (by decide) (ls' := [(5, ii v27), (0, .ref (ad 58)), (1, ii x0), (2, ii x1), (3, ii x2), (4, ii y2)]) rfl ?_
            refine z_iload_n F dX8_weigh_52 rfl (q := 3) rfl ?_
            refine z_if_eq (tgt := 72) F dX8_weigh_53 (by decide +kernel) (by omega) (fun c30 => ?_) (fun c30 => ?_)
            · refine z_aload_n F dX8_weigh_72 rfl (q := 1) rfl ?_
              refine rf_X8_18 F gs_58 rfl dX8_weigh_73 ?_
              refine z_iload_n F dX8_weigh_76 rfl (q := 3) rfl ?_
              refine z_bipush F dX8_weigh_77 (by decide +kernel) ?_
              refine z_imul F dX8_weigh_79 ?_
              refine z_iload F dX8_weigh_80 (q := 5) rfl ?_
              refine z_iadd F dX8_weigh_82 ?_
              refine z_iload F dX8_weigh_83 (q := 0) rfl ?_
              refine z_iast F hI gs_61 (by omega) (by omega) (by decide) bd_61 dX8_weigh_85 (by omega) (by omega) (fun M32 hI sf31 f31 => ?_)
              have hF := hF.wr f31 (by decide) (by decide)
              have hW : WFk M32 := hW.site f31 (by decide)
              refine z_iincN F dX8_weigh_86 (q := 5) rfl (by decide) (fun v33 ev33 => ?_)
              refine z_eq (ls' := [(4, ii v33), (5, ii v27), (0, .ref (ad 58)), (1, ii x0), (2, ii x1), (3, ii x2)]) rfl rfl rfl ?_
              refine z_goto (tgt := 3) F dX8_weigh_89 (by decide +kernel) ?_
              refine z_loc [2, 3, 4, 5, 0] (ls' := [(0, .ref (ad 58)), (1, ii x0), (2, ii x1), (3, ii x2), (4, ii v33)]) rfl ?_
              exact ih3 v33 M32 hI hW hF (by omega) (by omega) (by omega)
            · refine z_aload_n F dX8_weigh_56 rfl (q := 1) rfl ?_
              refine z_iload_n F dX8_weigh_57 rfl (q := 3) rfl ?_
              refine z_iload F dX8_weigh_58 (q := 5) rfl ?_
              refine z_aload_n F dX8_weigh_60 rfl (q := 1) rfl ?_
              refine z_iload_n F dX8_weigh_61 rfl (q := 3) rfl ?_
              refine z_iload F dX8_weigh_62 (q := 5) rfl ?_
              refine zv_i (rest := [ii y2, ii x1, .ref (ad 58)]) F (k_X8_bestNext_58 l M1 ⟨hI, hW⟩ x1 (by omega) (by omega) y2 (by omega) (by omega)) cs_X8_89 (T := TX8) (N := 9) (ci := 8) rfl gs_58 (by decide) (by decide) rfl rfl rfl (Nat.le_of_ble_eq_true rfl) dX8_weigh_64 (fun v34 M35 rv34 hI p36 => ?_)
              obtain ⟨hI, hW⟩ := hI
              obtain ⟨⟨av34, bv34⟩, rfl, xp36⟩ := p36
              have hnx := xp36
              have hnr : 0 ≤ v34 ∧ v34 ≤ 7 := by omega
              refine zv_i (rest := []) F (k_X8_goatsBy_58 l M1 ⟨hI, hW⟩ x1 (by omega) (by omega) y2 (by omega) (by omega) v34 (by omega) (by omega)) cs_X8_92 (T := TX8) (N := 9) (ci := 8) rfl gs_58 (by decide) (by decide) rfl rfl rfl (Nat.le_of_ble_eq_true rfl) dX8_weigh_67 (fun v37 M38 rv37 hI p39 => ?_)
              obtain ⟨hI, hW⟩ := hI
              obtain ⟨⟨av37, bv37⟩, rfl⟩ := p39
              refine z_istore F dX8_weigh_70 (by decide) (ls' := [(5, ii v37), (0, .ref (ad 58)), (1, ii x0), (2, ii x1), (3, ii x2), (4, ii y2)]) rfl ?_
              refine z_aload_n F dX8_weigh_72 rfl (q := 1) rfl ?_
              refine rf_X8_18 F gs_58 rfl dX8_weigh_73 ?_
              refine z_iload_n F dX8_weigh_76 rfl (q := 3) rfl ?_
              refine z_bipush F dX8_weigh_77 (by decide +kernel) ?_
              refine z_imul F dX8_weigh_79 ?_
              refine z_iload F dX8_weigh_80 (q := 5) rfl ?_
              refine z_iadd F dX8_weigh_82 ?_
              refine z_iload F dX8_weigh_83 (q := 0) rfl ?_
              refine z_iast F hI gs_61 (by omega) (by omega) (by decide) bd_61 dX8_weigh_85 (by omega) (by omega) (fun M41 hI sf40 f40 => ?_)
              have hF := hF.wr f40 (by decide) (by decide)
              have hW : WFk M41 := hW.site f40 (by decide)
              refine z_iincN F dX8_weigh_86 (q := 5) rfl (by decide) (fun v42 ev42 => ?_)
              refine z_eq (ls' := [(4, ii v42), (5, ii v37), (0, .ref (ad 58)), (1, ii x0), (2, ii x1), (3, ii x2)]) rfl rfl rfl ?_
              refine z_goto (tgt := 3) F dX8_weigh_89 (by decide +kernel) ?_
              refine z_loc [2, 3, 4, 5, 0] (ls' := [(0, .ref (ad 58)), (1, ii x0), (2, ii x1), (3, ii x2), (4, ii v42)]) rfl ?_
              exact ih3 v42 M41 hI hW hF (by omega) (by omega) (by omega)
          · refine z_iconst F dX8_weigh_39 ?_
            refine z_goto (tgt := 50) F dX8_weigh_40 (by decide +kernel) ?_
            refine z_istore F dX8_weigh_50 (by decide) (ls' := [(5, ii 0), (0, .ref (ad 58)), (1, ii x0), (2, ii x1), (3, ii x2), (4, ii y2)]) rfl ?_
            refine z_iload_n F dX8_weigh_52 rfl (q := 3) rfl ?_
            refine z_if_eq (tgt := 72) F dX8_weigh_53 (by decide +kernel) (by omega) (fun c43 => ?_) (fun c43 => ?_)
            · refine z_aload_n F dX8_weigh_72 rfl (q := 1) rfl ?_
              refine rf_X8_18 F gs_58 rfl dX8_weigh_73 ?_
              refine z_iload_n F dX8_weigh_76 rfl (q := 3) rfl ?_
              refine z_bipush F dX8_weigh_77 (by decide +kernel) ?_
              refine z_imul F dX8_weigh_79 ?_
              refine z_iload F dX8_weigh_80 (q := 5) rfl ?_
              refine z_iadd F dX8_weigh_82 ?_
              refine z_iload F dX8_weigh_83 (q := 0) rfl ?_
              refine z_iast F hI gs_61 (by omega) (by omega) (by decide) bd_61 dX8_weigh_85 (by omega) (by omega) (fun M45 hI sf44 f44 => ?_)
              have hF := hF.wr f44 (by decide) (by decide)
              have hW : WFk M45 := hW.site f44 (by decide)
              refine z_iincN F dX8_weigh_86 (q := 5) rfl (by decide) (fun v46 ev46 => ?_)
              refine z_eq (ls' := [(4, ii v46), (5, ii 0), (0, .ref (ad 58)), (1, ii x0), (2, ii x1), (3, ii x2)]) rfl rfl rfl ?_
              refine z_goto (tgt := 3) F dX8_weigh_89 (by decide +kernel) ?_
              refine z_loc [2, 3, 4, 5, 0] (ls' := [(0, .ref (ad 58)), (1, ii x0), (2, ii x1), (3, ii x2), (4, ii v46)]) rfl ?_
              exact ih3 v46 M45 hI hW hF (by omega) (by omega) (by omega)
            · refine z_aload_n F dX8_weigh_56 rfl (q := 1) rfl ?_
              refine z_iload_n F dX8_weigh_57 rfl (q := 3) rfl ?_
              refine z_iload F dX8_weigh_58 (q := 5) rfl ?_
              refine z_aload_n F dX8_weigh_60 rfl (q := 1) rfl ?_
              refine z_iload_n F dX8_weigh_61 rfl (q := 3) rfl ?_
              refine z_iload F dX8_weigh_62 (q := 5) rfl ?_
              refine zv_i (rest := [ii y2, ii x1, .ref (ad 58)]) F (k_X8_bestNext_58 l M1 ⟨hI, hW⟩ x1 (by omega) (by omega) y2 (by omega) (by omega)) cs_X8_89 (T := TX8) (N := 9) (ci := 8) rfl gs_58 (by decide) (by decide) rfl rfl rfl (Nat.le_of_ble_eq_true rfl) dX8_weigh_64 (fun v47 M48 rv47 hI p49 => ?_)
              obtain ⟨hI, hW⟩ := hI
              obtain ⟨⟨av47, bv47⟩, rfl, xp49⟩ := p49
              have hnx := xp49
              have hnr : 0 ≤ v47 ∧ v47 ≤ 7 := by omega
              refine zv_i (rest := []) F (k_X8_goatsBy_58 l M1 ⟨hI, hW⟩ x1 (by omega) (by omega) y2 (by omega) (by omega) v47 (by omega) (by omega)) cs_X8_92 (T := TX8) (N := 9) (ci := 8) rfl gs_58 (by decide) (by decide) rfl rfl rfl (Nat.le_of_ble_eq_true rfl) dX8_weigh_67 (fun v50 M51 rv50 hI p52 => ?_)
              obtain ⟨hI, hW⟩ := hI
              obtain ⟨⟨av50, bv50⟩, rfl⟩ := p52
              refine z_istore F dX8_weigh_70 (by decide) (ls' := [(5, ii v50), (0, .ref (ad 58)), (1, ii x0), (2, ii x1), (3, ii x2), (4, ii y2)]) rfl ?_
              refine z_aload_n F dX8_weigh_72 rfl (q := 1) rfl ?_
              refine rf_X8_18 F gs_58 rfl dX8_weigh_73 ?_
              refine z_iload_n F dX8_weigh_76 rfl (q := 3) rfl ?_
              refine z_bipush F dX8_weigh_77 (by decide +kernel) ?_
              refine z_imul F dX8_weigh_79 ?_
              refine z_iload F dX8_weigh_80 (q := 5) rfl ?_
              refine z_iadd F dX8_weigh_82 ?_
              refine z_iload F dX8_weigh_83 (q := 0) rfl ?_
              refine z_iast F hI gs_61 (by omega) (by omega) (by decide) bd_61 dX8_weigh_85 (by omega) (by omega) (fun M54 hI sf53 f53 => ?_)
              have hF := hF.wr f53 (by decide) (by decide)
              have hW : WFk M54 := hW.site f53 (by decide)
              refine z_iincN F dX8_weigh_86 (q := 5) rfl (by decide) (fun v55 ev55 => ?_)
              refine z_eq (ls' := [(4, ii v55), (5, ii v50), (0, .ref (ad 58)), (1, ii x0), (2, ii x1), (3, ii x2)]) rfl rfl rfl ?_
              refine z_goto (tgt := 3) F dX8_weigh_89 (by decide +kernel) ?_
              refine z_loc [2, 3, 4, 5, 0] (ls' := [(0, .ref (ad 58)), (1, ii x0), (2, ii x1), (3, ii x2), (4, ii v55)]) rfl ?_
              exact ih3 v55 M54 hI hW hF (by omega) (by omega) (by omega)
set_option maxRecDepth 4000 in
theorem k_X8_lineUp_58 (l : Launch) (M : Mem) (hJ : Iw M) (x0 : Int) (hx0a : 0 ≤ x0) (hx0b : x0 ≤ 255) (x1 : Int) (hx1a : 0 ≤ x1) (hx1b : x1 ≤ 1) : CV l yX8_lineUp cX8_lineUp 9 none 7 (fun ad => [.ref (ad 58), ii x0, ii x1]) M (fun M' => Fr [58, 61, 62] M M') := by
  obtain ⟨hI, hW⟩ := hJ
  have hF : Fr [58, 61, 62] M M := Fr.rf
  refine en_v (by decide +kernel) (fun ad => by exact Nat.le_of_ble_eq_true rfl) (fun D cy ad A p e s m args below meth c Q F hret => ?_)
  refine z_eq (ls' := [(0, .ref (ad 58)), (1, ii x0), (2, ii x1)]) rfl rfl rfl ?_
  refine z_aload_n F dX8_lineUp_0 rfl (q := 0) rfl ?_
  refine z_iload_n F dX8_lineUp_1 rfl (q := 1) rfl ?_
  refine zs_i (rest := [.ref (ad 58)]) F (k_J6_bitCount_0f7a4_s l M ⟨hI, hW⟩ x0 (by omega) (by omega)) cs_X8_70 (by decide) (by decide) rfl rfl rfl (Nat.le_of_ble_eq_true rfl) dX8_lineUp_2 (fun v1 M2 rv1 hI p3 => ?_)
  obtain ⟨hI, hW⟩ := hI
  obtain ⟨⟨av1, bv1⟩, rfl, xp3⟩ := p3
  have hp8 := pcn_8 (s := x0) (by omega) (by omega)
  have hb8v1 : 0 ≤ v1 ∧ v1 ≤ 8 := by omega
  refine pf_X8_76 F hI gs_58 rfl bd_58_7 rfl rfl dX8_lineUp_5 (by omega) (by omega) (fun M5 hI sf4 f4 => ?_)
  have hF := hF.wr f4 (by decide) (by decide)
  have hW : WFk M5 := hW.site f4 (by decide)
  refine z_aload_n F dX8_lineUp_8 rfl (q := 0) rfl ?_
  refine z_iconst F dX8_lineUp_9 ?_
  refine pf_X8_79 F hI gs_58 rfl bd_58_8 rfl rfl dX8_lineUp_10 (by omega) (by omega) (fun M7 hI sf6 f6 => ?_)
  have hF := hF.wr f6 (by decide) (by decide)
  have hW : WFk M7 := hW.site f6 (by decide)
  refine z_iload_n F dX8_lineUp_13 rfl (q := 1) rfl ?_
  refine zs_i (rest := []) F (k_J6_numberOfTrailingZeros_0f7a4 l M7 ⟨hI, hW⟩ x0 (by omega) (by omega)) cs_X8_82 (by decide) (by decide) rfl rfl rfl (Nat.le_of_ble_eq_true rfl) dX8_lineUp_14 (fun v8 M9 rv8 hI p10 => ?_)
  obtain ⟨hI, hW⟩ := hI
  obtain ⟨⟨av8, bv8⟩, rfl, xp10⟩ := p10
  have hlz : 1 ≤ x0 → 0 ≤ v8 ∧ v8 ≤ 7 ∧ Bt x0 v8 := by assumption
  refine z_istore_n F dX8_lineUp_17 rfl (by decide) (ls' := [(3, ii v8), (0, .ref (ad 58)), (1, ii x0), (2, ii x1)]) rfl ?_
  refine z_iload_n F dX8_lineUp_18 rfl (q := 3) rfl ?_
  refine z_if_eq (tgt := 34) F dX8_lineUp_19 (by decide +kernel) (by omega) (fun c11 => ?_) (fun c11 => ?_)
  · refine z_iconst F dX8_lineUp_34 ?_
    refine z_istore F dX8_lineUp_35 (by decide) (ls' := [(4, ii (-1)), (3, ii v8), (0, .ref (ad 58)), (1, ii x0), (2, ii x1)]) rfl ?_
    refine z_iconst F dX8_lineUp_37 ?_
    refine z_istore F dX8_lineUp_38 (by decide) (ls' := [(5, ii 0), (4, ii (-1)), (3, ii v8), (0, .ref (ad 58)), (1, ii x0), (2, ii x1)]) rfl ?_
    refine z_loc [3, 4, 1, 0] (ls' := [(0, .ref (ad 58)), (1, ii x0), (4, ii (-1)), (5, ii 0)]) rfl ?_
    have q14 : v1 = M7 58 7 := sf4.symm.trans (f6 58 7 (fun q => absurd q.2 (by decide))).symm
    suffices key40 : ∀ (n : Nat) (y13 : Int) (M12 : Mem), Inv M12 → WFk M12 → Fr [58, 61, 62] M M12 → 0 ≤ y13 → y13 ≤ 255 → (M12 58 7 = pcn x0.toNat) → 255 - y13 < (n : Int) → Z D cy ad p l e (RMh 7) s m args below meth c A 9 0 0 Q 40 [(0, .ref (ad 58)), (1, ii x0), (4, ii (-1)), (5, ii y13)] [] M12 from key40 256 0 M7 hI hW hF (by omega) (by omega) (by omega) (by omega)
    intro n40
    induction n40 with
    | zero => intro y13 M12 hI hW hF ay13 by13 i40_0 hn40; exfalso; omega
    | succ n40 ih40 =>
      intro y13 M12 hI hW hF ay13 by13 i40_0 hn40
      obtain ⟨u15, eu15⟩ : ∃ v : Int, v = M12 58 7 := ⟨_, rfl⟩
      have ku15 : 0 ≤ u15 ∧ u15 ≤ 8 := by have := hI.at (show Bd 58 7 = (0, 8) from rfl); omega
      refine z_iload F dX8_lineUp_40 (q := 3) rfl ?_
      refine z_iload_n F dX8_lineUp_42 rfl (q := 1) rfl ?_
      refine z_icmp_ge (tgt := 70) F dX8_lineUp_43 (by decide +kernel) (by omega) (by omega) (fun c16 => ?_) (fun c16 => ?_)
      · refine z_iload_n F dX8_lineUp_70 rfl (q := 1) rfl ?_
        refine z_istore F dX8_lineUp_71 (by decide) (ls' := [(5, ii x0), (0, .ref (ad 58)), (1, ii x0), (4, ii (-1))]) rfl ?_
        refine z_iconst F dX8_lineUp_73 ?_
        refine z_istore F dX8_lineUp_74 (by decide) (ls' := [(6, ii (-1)), (5, ii x0), (0, .ref (ad 58)), (1, ii x0), (4, ii (-1))]) rfl ?_
        refine z_iconst F dX8_lineUp_76 ?_
        refine z_istore F dX8_lineUp_77 (by decide) (ls' := [(7, ii 0), (6, ii (-1)), (5, ii x0), (0, .ref (ad 58)), (1, ii x0), (4, ii (-1))]) rfl ?_
        refine z_loc [3, 5, 2, 1, 0] (ls' := [(0, .ref (ad 58)), (4, ii (-1)), (5, ii x0), (6, ii (-1)), (7, ii 0)]) rfl ?_
        suffices key79 : ∀ (n : Nat) (y18 : Int) (y19 : Int) (y20 : Int) (M17 : Mem), Inv M17 → WFk M17 → Fr [58, 61, 62] M M17 → 0 ≤ y18 → y18 ≤ 255 → (-1) ≤ y19 → y19 ≤ 7 → 0 ≤ y20 → y20 ≤ 8 → (pcn y18.toNat + y20 = M17 58 7) → (y20 = 0 → y18 = x0) → (y20 = 0 ∨ 0 ≤ y19) → (M17 58 7 = pcn x0.toNat) → 8 - y20 < (n : Int) → Z D cy ad p l e (RMh 7) s m args below meth c A 9 0 0 Q 79 [(0, .ref (ad 58)), (4, ii (-1)), (5, ii y18), (6, ii y19), (7, ii y20)] [] M17 from key79 9 x0 (-1) 0 M12 hI hW hF (by omega) (by omega) (by omega) (by omega) (by omega) (by omega) (by omega) (by omega) (by omega) (by omega) (by omega)
        intro n79
        induction n79 with
        | zero => intro y18 y19 y20 M17 hI hW hF ay18 by18 ay19 by19 ay20 by20 i79_0 i79_1 i79_2 i79_3 hn79; exfalso; omega
        | succ n79 ih79 =>
          intro y18 y19 y20 M17 hI hW hF ay18 by18 ay19 by19 ay20 by20 i79_0 i79_1 i79_2 i79_3 hn79
          obtain ⟨u21, eu21⟩ : ∃ v : Int, v = M17 58 7 := ⟨_, rfl⟩
          have ku21 : 0 ≤ u21 ∧ u21 ≤ 8 := by have := hI.at (show Bd 58 7 = (0, 8) from rfl); omega
          refine z_iload F dX8_lineUp_79 (q := 4) rfl ?_
          refine z_aload_n F dX8_lineUp_81 rfl (q := 0) rfl ?_
          refine gf_X8_76 F hI gs_58 rfl bd_58_7 dX8_lineUp_82 (fun v22 ev22 av22 bv22 => ?_)
          have zv22 : u21 = v22 := eu21.trans ev22.symm
          subst zv22
          have hp0 : x0 = 0 → pcn x0.toNat = 0 := fun q => by rw [q]; rfl
          refine z_icmp_ge (tgt := 171) F dX8_lineUp_85 (by decide +kernel) (by omega) (by omega) (fun c23 => ?_) (fun c23 => ?_)
          · refine z_iload F dX8_lineUp_171 (q := 1) rfl ?_
            refine z_iconst F dX8_lineUp_173 ?_
            refine z_icmp_eq (tgt := 194) F dX8_lineUp_174 (by decide +kernel) (by omega) (by omega) (fun c24 => ?_) (fun c24 => by exfalso; omega)
            exact hret _ 194 _ ⟨hI, hW⟩ hF dX8_lineUp_194
          · refine z_iload F dX8_lineUp_88 (q := 4) rfl ?_
            refine z_if_ne (tgt := 104) F dX8_lineUp_90 (by decide +kernel) (by omega) (fun c25 => ?_) (fun c25 => ?_)
            · have hr0 : y18 = 0 → pcn y18.toNat = 0 := fun q => by rw [q]; rfl
              refine z_aload_n F dX8_lineUp_104 rfl (q := 0) rfl ?_
              refine z_iload F dX8_lineUp_105 (q := 2) rfl ?_
              refine z_iload F dX8_lineUp_107 (q := 3) rfl ?_
              have k26 : 1 ≤ y18 ∧ y18 ≤ 255 := by omega
              refine zv_i (rest := []) F (k_X8_bestNext_58 l M17 ⟨hI, hW⟩ y18 (by omega) (by omega) y19 (by omega) (by omega)) cs_X8_89 (T := TX8) (N := 9) (ci := 8) rfl gs_58 (by decide) (by decide) rfl rfl rfl (Nat.le_of_ble_eq_true rfl) dX8_lineUp_109 (fun v27 M28 rv27 hI p29 => ?_)
              obtain ⟨hI, hW⟩ := hI
              obtain ⟨⟨av27, bv27⟩, rfl, xp29⟩ := p29
              have hnx := xp29
              have hnr : 0 ≤ v27 ∧ v27 ≤ 7 := by omega
              have hbn : Bt y18 v27 := hnx.2.2
              refine z_istore F dX8_lineUp_112 (by decide) (ls' := [(8, ii v27), (0, .ref (ad 58)), (4, ii (-1)), (5, ii y18), (6, ii y19), (7, ii y20)]) rfl ?_
              refine z_aload_n F dX8_lineUp_114 rfl (q := 1) rfl ?_
              refine z_dup F dX8_lineUp_115 rfl ?_
              refine gf_X8_79 F hI gs_58 rfl bd_58_8 dX8_lineUp_116 (fun v30 ev30 av30 bv30 => ?_)
              refine z_iload F dX8_lineUp_119 (q := 4) rfl ?_
              refine z_iconst F dX8_lineUp_121 ?_
              refine z_icmp_ne (tgt := 129) F dX8_lineUp_122 (by decide +kernel) (by omega) (by omega) (fun c31 => ?_) (fun c31 => ?_)
              · refine z_aload_n F dX8_lineUp_129 rfl (q := 1) rfl ?_
                refine z_iload F dX8_lineUp_130 (q := 4) rfl ?_
                refine z_iload F dX8_lineUp_132 (q := 0) rfl ?_
                refine zv_i (rest := [ii v30, .ref (ad 58)]) F (k_X8_goatBetween_58 l M17 ⟨hI, hW⟩ y19 (by omega) (by omega) v27 (by omega) (by omega)) cs_X8_60 (T := TX8) (N := 9) (ci := 8) rfl gs_58 (by decide) (by decide) rfl rfl rfl (Nat.le_of_ble_eq_true rfl) dX8_lineUp_134 (fun v32 M33 rv32 hI p34 => ?_)
                obtain ⟨hI, hW⟩ := hI
                obtain ⟨⟨av32, bv32⟩, rfl⟩ := p34
                refine z_iadd F dX8_lineUp_137 ?_
                refine z_wrap (fun v35 rv35 wv35 => ?_)
                refine pf_X8_79 F hI gs_58 rfl bd_58_8 rfl rfl dX8_lineUp_138 (by omega) (by omega) (fun M37 hI sf36 f36 => ?_)
                have hF := hF.wr f36 (by decide) (by decide)
                have hW : WFk M37 := hW.site f36 (by decide)
                refine z_aload_n F dX8_lineUp_141 rfl (q := 1) rfl ?_
                refine rf_X8_21 F gs_58 rfl dX8_lineUp_142 ?_
                refine z_iload F dX8_lineUp_145 (q := 5) rfl ?_
                refine z_iload F dX8_lineUp_147 (q := 0) rfl ?_
                refine z_iast F hI gs_62 (by omega) (by omega) (by decide) bd_62 dX8_lineUp_149 (by omega) (by omega) (fun M39 hI sf38 f38 => ?_)
                have hF := hF.wr f38 (by decide) (by decide)
                have hW : WFk M39 := hW.site f38 (by decide)
                refine z_iload F dX8_lineUp_150 (q := 3) rfl ?_
                refine z_iconst F dX8_lineUp_152 ?_
                refine z_iload F dX8_lineUp_153 (q := 0) rfl ?_
                refine z_shl1 (k := 7) F dX8_lineUp_155 (by decide) (by omega) (by omega) (fun v40 ev40 av40 bv40 => ?_)
                refine z_iconst F dX8_lineUp_156 ?_
                refine z_ixor0 F dX8_lineUp_157 (fun v41 ev41 rv41 => ?_)
                refine z_iand_l F dX8_lineUp_158 (by omega) (by omega) (fun v42 ev42 av42 bv42 => ?_)
                have hdr := drop10 (s := y18) (q := v27) (by omega) (by omega) (by omega) (by omega) hbn ev42 (by assumption) (by assumption)
                refine z_istore F dX8_lineUp_159 (by decide) (ls' := [(5, ii v42), (8, ii v27), (0, .ref (ad 58)), (4, ii (-1)), (6, ii y19), (7, ii y20)]) rfl ?_
                refine z_iload F dX8_lineUp_161 (q := 1) rfl ?_
                refine z_istore F dX8_lineUp_163 (by decide) (ls' := [(6, ii v27), (5, ii v42), (8, ii v27), (0, .ref (ad 58)), (4, ii (-1)), (7, ii y20)]) rfl ?_
                refine z_iincN F dX8_lineUp_165 (q := 5) rfl (by decide) (fun v43 ev43 => ?_)
                refine z_eq (ls' := [(7, ii v43), (6, ii v27), (5, ii v42), (8, ii v27), (0, .ref (ad 58)), (4, ii (-1))]) rfl rfl rfl ?_
                refine z_goto (tgt := 79) F dX8_lineUp_168 (by decide +kernel) ?_
                refine z_loc [4, 5, 2, 1, 0] (ls' := [(0, .ref (ad 58)), (4, ii (-1)), (5, ii v42), (6, ii v27), (7, ii v43)]) rfl ?_
                have q44 : u21 = M37 58 7 := eu21.trans (f36 58 7 (fun q => absurd q.2 (by decide))).symm
                have q45 : u21 = M39 58 7 := q44.trans (f38 58 7 (fun q => absurd q.1 (by decide))).symm
                exact ih79 v42 v27 v43 M39 hI hW hF (by omega) (by omega) (by omega) (by omega) (by omega) (by omega) (by omega) (by omega) (by omega) (by omega) (by omega)
              · refine z_iconst F dX8_lineUp_125 ?_
                refine z_goto (tgt := 137) F dX8_lineUp_126 (by decide +kernel) ?_
                refine z_iadd F dX8_lineUp_137 ?_
                refine z_nm (fun v46 ev46 => ?_)
                refine pf_X8_79 F hI gs_58 rfl bd_58_8 rfl rfl dX8_lineUp_138 (by omega) (by omega) (fun M48 hI sf47 f47 => ?_)
                have hF := hF.wr f47 (by decide) (by decide)
                have hW : WFk M48 := hW.site f47 (by decide)
                refine z_aload_n F dX8_lineUp_141 rfl (q := 1) rfl ?_
                refine rf_X8_21 F gs_58 rfl dX8_lineUp_142 ?_
                refine z_iload F dX8_lineUp_145 (q := 5) rfl ?_
                refine z_iload F dX8_lineUp_147 (q := 0) rfl ?_
                refine z_iast F hI gs_62 (by omega) (by omega) (by decide) bd_62 dX8_lineUp_149 (by omega) (by omega) (fun M50 hI sf49 f49 => ?_)
                have hF := hF.wr f49 (by decide) (by decide)
                have hW : WFk M50 := hW.site f49 (by decide)
                refine z_iload F dX8_lineUp_150 (q := 3) rfl ?_
                refine z_iconst F dX8_lineUp_152 ?_
                refine z_iload F dX8_lineUp_153 (q := 0) rfl ?_
                refine z_shl1 (k := 7) F dX8_lineUp_155 (by decide) (by omega) (by omega) (fun v51 ev51 av51 bv51 => ?_)
                refine z_iconst F dX8_lineUp_156 ?_
                refine z_ixor0 F dX8_lineUp_157 (fun v52 ev52 rv52 => ?_)
                refine z_iand_l F dX8_lineUp_158 (by omega) (by omega) (fun v53 ev53 av53 bv53 => ?_)
                have hdr := drop10 (s := y18) (q := v27) (by omega) (by omega) (by omega) (by omega) hbn ev53 (by assumption) (by assumption)
                refine z_istore F dX8_lineUp_159 (by decide) (ls' := [(5, ii v53), (8, ii v27), (0, .ref (ad 58)), (4, ii (-1)), (6, ii y19), (7, ii y20)]) rfl ?_
                refine z_iload F dX8_lineUp_161 (q := 1) rfl ?_
                refine z_istore F dX8_lineUp_163 (by decide) (ls' := [(6, ii v27), (5, ii v53), (8, ii v27), (0, .ref (ad 58)), (4, ii (-1)), (7, ii y20)]) rfl ?_
                refine z_iincN F dX8_lineUp_165 (q := 5) rfl (by decide) (fun v54 ev54 => ?_)
                refine z_eq (ls' := [(7, ii v54), (6, ii v27), (5, ii v53), (8, ii v27), (0, .ref (ad 58)), (4, ii (-1))]) rfl rfl rfl ?_
                refine z_goto (tgt := 79) F dX8_lineUp_168 (by decide +kernel) ?_
                refine z_loc [4, 5, 2, 1, 0] (ls' := [(0, .ref (ad 58)), (4, ii (-1)), (5, ii v53), (6, ii v27), (7, ii v54)]) rfl ?_
                have q55 : u21 = M48 58 7 := eu21.trans (f47 58 7 (fun q => absurd q.2 (by decide))).symm
                have q56 : u21 = M50 58 7 := q55.trans (f49 58 7 (fun q => absurd q.1 (by decide))).symm
                exact ih79 v53 v27 v54 M50 hI hW hF (by omega) (by omega) (by omega) (by omega) (by omega) (by omega) (by omega) (by omega) (by omega) (by omega) (by omega)
            · refine z_iload F dX8_lineUp_93 (q := 1) rfl ?_
              refine z_iconst F dX8_lineUp_95 ?_
              refine z_icmp_eq (tgt := 104) F dX8_lineUp_96 (by decide +kernel) (by omega) (by omega) (fun c57 => ?_) (fun c57 => by exfalso; omega)
              have hr0 : y18 = 0 → pcn y18.toNat = 0 := fun q => by rw [q]; rfl
              refine z_aload_n F dX8_lineUp_104 rfl (q := 0) rfl ?_
              refine z_iload F dX8_lineUp_105 (q := 2) rfl ?_
              refine z_iload F dX8_lineUp_107 (q := 3) rfl ?_
              have k58 : 1 ≤ y18 ∧ y18 ≤ 255 := by omega
              refine zv_i (rest := []) F (k_X8_bestNext_58 l M17 ⟨hI, hW⟩ y18 (by omega) (by omega) y19 (by omega) (by omega)) cs_X8_89 (T := TX8) (N := 9) (ci := 8) rfl gs_58 (by decide) (by decide) rfl rfl rfl (Nat.le_of_ble_eq_true rfl) dX8_lineUp_109 (fun v59 M60 rv59 hI p61 => ?_)
              obtain ⟨hI, hW⟩ := hI
              obtain ⟨⟨av59, bv59⟩, rfl, xp61⟩ := p61
              have hnx := xp61
              have hnr : 0 ≤ v59 ∧ v59 ≤ 7 := by omega
              have hbn : Bt y18 v59 := hnx.2.2
              refine z_istore F dX8_lineUp_112 (by decide) (ls' := [(8, ii v59), (0, .ref (ad 58)), (4, ii (-1)), (5, ii y18), (6, ii y19), (7, ii y20)]) rfl ?_
              refine z_aload_n F dX8_lineUp_114 rfl (q := 1) rfl ?_
              refine z_dup F dX8_lineUp_115 rfl ?_
              refine gf_X8_79 F hI gs_58 rfl bd_58_8 dX8_lineUp_116 (fun v62 ev62 av62 bv62 => ?_)
              refine z_iload F dX8_lineUp_119 (q := 4) rfl ?_
              refine z_iconst F dX8_lineUp_121 ?_
              refine z_icmp_ne (tgt := 129) F dX8_lineUp_122 (by decide +kernel) (by omega) (by omega) (fun c63 => ?_) (fun c63 => ?_)
              · refine z_aload_n F dX8_lineUp_129 rfl (q := 1) rfl ?_
                refine z_iload F dX8_lineUp_130 (q := 4) rfl ?_
                refine z_iload F dX8_lineUp_132 (q := 0) rfl ?_
                refine zv_i (rest := [ii v62, .ref (ad 58)]) F (k_X8_goatBetween_58 l M17 ⟨hI, hW⟩ y19 (by omega) (by omega) v59 (by omega) (by omega)) cs_X8_60 (T := TX8) (N := 9) (ci := 8) rfl gs_58 (by decide) (by decide) rfl rfl rfl (Nat.le_of_ble_eq_true rfl) dX8_lineUp_134 (fun v64 M65 rv64 hI p66 => ?_)
                obtain ⟨hI, hW⟩ := hI
                obtain ⟨⟨av64, bv64⟩, rfl⟩ := p66
                refine z_iadd F dX8_lineUp_137 ?_
                refine z_wrap (fun v67 rv67 wv67 => ?_)
                refine pf_X8_79 F hI gs_58 rfl bd_58_8 rfl rfl dX8_lineUp_138 (by omega) (by omega) (fun M69 hI sf68 f68 => ?_)
                have hF := hF.wr f68 (by decide) (by decide)
                have hW : WFk M69 := hW.site f68 (by decide)
                refine z_aload_n F dX8_lineUp_141 rfl (q := 1) rfl ?_
                refine rf_X8_21 F gs_58 rfl dX8_lineUp_142 ?_
                refine z_iload F dX8_lineUp_145 (q := 5) rfl ?_
                refine z_iload F dX8_lineUp_147 (q := 0) rfl ?_
                refine z_iast F hI gs_62 (by omega) (by omega) (by decide) bd_62 dX8_lineUp_149 (by omega) (by omega) (fun M71 hI sf70 f70 => ?_)
                have hF := hF.wr f70 (by decide) (by decide)
                have hW : WFk M71 := hW.site f70 (by decide)
                refine z_iload F dX8_lineUp_150 (q := 3) rfl ?_
                refine z_iconst F dX8_lineUp_152 ?_
                refine z_iload F dX8_lineUp_153 (q := 0) rfl ?_
                refine z_shl1 (k := 7) F dX8_lineUp_155 (by decide) (by omega) (by omega) (fun v72 ev72 av72 bv72 => ?_)
                refine z_iconst F dX8_lineUp_156 ?_
                refine z_ixor0 F dX8_lineUp_157 (fun v73 ev73 rv73 => ?_)
                refine z_iand_l F dX8_lineUp_158 (by omega) (by omega) (fun v74 ev74 av74 bv74 => ?_)
                have hdr := drop10 (s := y18) (q := v59) (by omega) (by omega) (by omega) (by omega) hbn ev74 (by assumption) (by assumption)
                refine z_istore F dX8_lineUp_159 (by decide) (ls' := [(5, ii v74), (8, ii v59), (0, .ref (ad 58)), (4, ii (-1)), (6, ii y19), (7, ii y20)]) rfl ?_
                refine z_iload F dX8_lineUp_161 (q := 1) rfl ?_
                refine z_istore F dX8_lineUp_163 (by decide) (ls' := [(6, ii v59), (5, ii v74), (8, ii v59), (0, .ref (ad 58)), (4, ii (-1)), (7, ii y20)]) rfl ?_
                refine z_iincN F dX8_lineUp_165 (q := 5) rfl (by decide) (fun v75 ev75 => ?_)
                refine z_eq (ls' := [(7, ii v75), (6, ii v59), (5, ii v74), (8, ii v59), (0, .ref (ad 58)), (4, ii (-1))]) rfl rfl rfl ?_
                refine z_goto (tgt := 79) F dX8_lineUp_168 (by decide +kernel) ?_
                refine z_loc [4, 5, 2, 1, 0] (ls' := [(0, .ref (ad 58)), (4, ii (-1)), (5, ii v74), (6, ii v59), (7, ii v75)]) rfl ?_
                have q76 : u21 = M69 58 7 := eu21.trans (f68 58 7 (fun q => absurd q.2 (by decide))).symm
                have q77 : u21 = M71 58 7 := q76.trans (f70 58 7 (fun q => absurd q.1 (by decide))).symm
                exact ih79 v74 v59 v75 M71 hI hW hF (by omega) (by omega) (by omega) (by omega) (by omega) (by omega) (by omega) (by omega) (by omega) (by omega) (by omega)
              · refine z_iconst F dX8_lineUp_125 ?_
                refine z_goto (tgt := 137) F dX8_lineUp_126 (by decide +kernel) ?_
                refine z_iadd F dX8_lineUp_137 ?_
                refine z_nm (fun v78 ev78 => ?_)
                refine pf_X8_79 F hI gs_58 rfl bd_58_8 rfl rfl dX8_lineUp_138 (by omega) (by omega) (fun M80 hI sf79 f79 => ?_)
                have hF := hF.wr f79 (by decide) (by decide)
                have hW : WFk M80 := hW.site f79 (by decide)
                refine z_aload_n F dX8_lineUp_141 rfl (q := 1) rfl ?_
                refine rf_X8_21 F gs_58 rfl dX8_lineUp_142 ?_
                refine z_iload F dX8_lineUp_145 (q := 5) rfl ?_
                refine z_iload F dX8_lineUp_147 (q := 0) rfl ?_
                refine z_iast F hI gs_62 (by omega) (by omega) (by decide) bd_62 dX8_lineUp_149 (by omega) (by omega) (fun M82 hI sf81 f81 => ?_)
                have hF := hF.wr f81 (by decide) (by decide)
                have hW : WFk M82 := hW.site f81 (by decide)
                refine z_iload F dX8_lineUp_150 (q := 3) rfl ?_
                refine z_iconst F dX8_lineUp_152 ?_
                refine z_iload F dX8_lineUp_153 (q := 0) rfl ?_
                refine z_shl1 (k := 7) F dX8_lineUp_155 (by decide) (by omega) (by omega) (fun v83 ev83 av83 bv83 => ?_)
                refine z_iconst F dX8_lineUp_156 ?_
                refine z_ixor0 F dX8_lineUp_157 (fun v84 ev84 rv84 => ?_)
                refine z_iand_l F dX8_lineUp_158 (by omega) (by omega) (fun v85 ev85 av85 bv85 => ?_)
                have hdr := drop10 (s := y18) (q := v59) (by omega) (by omega) (by omega) (by omega) hbn ev85 (by assumption) (by assumption)
                refine z_istore F dX8_lineUp_159 (by decide) (ls' := [(5, ii v85), (8, ii v59), (0, .ref (ad 58)), (4, ii (-1)), (6, ii y19), (7, ii y20)]) rfl ?_
                refine z_iload F dX8_lineUp_161 (q := 1) rfl ?_
                refine z_istore F dX8_lineUp_163 (by decide) (ls' := [(6, ii v59), (5, ii v85), (8, ii v59), (0, .ref (ad 58)), (4, ii (-1)), (7, ii y20)]) rfl ?_
                refine z_iincN F dX8_lineUp_165 (q := 5) rfl (by decide) (fun v86 ev86 => ?_)
                refine z_eq (ls' := [(7, ii v86), (6, ii v59), (5, ii v85), (8, ii v59), (0, .ref (ad 58)), (4, ii (-1))]) rfl rfl rfl ?_
                refine z_goto (tgt := 79) F dX8_lineUp_168 (by decide +kernel) ?_
                refine z_loc [4, 5, 2, 1, 0] (ls' := [(0, .ref (ad 58)), (4, ii (-1)), (5, ii v85), (6, ii v59), (7, ii v86)]) rfl ?_
                have q87 : u21 = M80 58 7 := eu21.trans (f79 58 7 (fun q => absurd q.2 (by decide))).symm
                have q88 : u21 = M82 58 7 := q87.trans (f81 58 7 (fun q => absurd q.1 (by decide))).symm
                exact ih79 v85 v59 v86 M82 hI hW hF (by omega) (by omega) (by omega) (by omega) (by omega) (by omega) (by omega) (by omega) (by omega) (by omega) (by omega)
      · refine z_iload F dX8_lineUp_46 (q := 3) rfl ?_
        refine z_iload_n F dX8_lineUp_48 rfl (q := 1) rfl ?_
        refine z_iconst F dX8_lineUp_49 ?_
        refine z_ixor0 F dX8_lineUp_50 (fun v89 ev89 rv89 => ?_)
        refine z_iand_l F dX8_lineUp_51 (by omega) (by omega) (fun v90 ev90 av90 bv90 => ?_)
        refine z_if_ne (tgt := 64) F dX8_lineUp_52 (by decide +kernel) (by omega) (fun c91 => ?_) (fun c91 => ?_)
        · refine z_iincN F dX8_lineUp_64 (q := 3) rfl (by decide) (fun v92 ev92 => ?_)
          refine z_eq (ls' := [(5, ii v92), (0, .ref (ad 58)), (1, ii x0), (4, ii (-1))]) rfl rfl rfl ?_
          refine z_goto (tgt := 40) F dX8_lineUp_67 (by decide +kernel) ?_
          refine z_loc [1, 2, 3, 0] (ls' := [(0, .ref (ad 58)), (1, ii x0), (4, ii (-1)), (5, ii v92)]) rfl ?_
          exact ih40 v92 M12 hI hW hF (by omega) (by omega) (by omega) (by omega)
        · refine z_aload_n F dX8_lineUp_55 rfl (q := 0) rfl ?_
          refine z_iload_n F dX8_lineUp_56 rfl (q := 1) rfl ?_
          refine z_iload F dX8_lineUp_57 (q := 3) rfl ?_
          refine z_iload F dX8_lineUp_59 (q := 2) rfl ?_
          refine zv_v (rest := []) F (k_X8_weigh_58 l M12 ⟨hI, hW⟩ x0 (by omega) (by omega) y13 (by omega) (by omega) (-1) (by omega) (by omega)) cs_X8_85 (T := TX8) (N := 9) (ci := 8) rfl gs_58 (by decide) (by decide) rfl rfl rfl (Nat.le_of_ble_eq_true rfl) dX8_lineUp_61 (fun M93 hI p94 => ?_)
          obtain ⟨hI, hW⟩ := hI
          have fp94 := p94
          have hF := hF.call fp94 (by decide)
          refine z_iincN F dX8_lineUp_64 (q := 3) rfl (by decide) (fun v95 ev95 => ?_)
          refine z_eq (ls' := [(5, ii v95), (0, .ref (ad 58)), (1, ii x0), (4, ii (-1))]) rfl rfl rfl ?_
          refine z_goto (tgt := 40) F dX8_lineUp_67 (by decide +kernel) ?_
          refine z_loc [1, 2, 3, 0] (ls' := [(0, .ref (ad 58)), (1, ii x0), (4, ii (-1)), (5, ii v95)]) rfl ?_
          have q96 : u15 = M93 58 7 := eu15.trans ((fp94.at (by decide)) : M93 58 7 = _).symm
          exact ih40 v95 M93 hI hW hF (by omega) (by omega) (by omega) (by omega)
  · refine z_aload_n F dX8_lineUp_22 rfl (q := 1) rfl ?_
    refine gf_X8_76 F hI gs_58 rfl bd_58_7 dX8_lineUp_23 (fun v97 ev97 av97 bv97 => ?_)
    have q98 : v1 = M7 58 7 := sf4.symm.trans (f6 58 7 (fun q => absurd q.2 (by decide))).symm
    have zv97 : v1 = v97 := q98.trans ev97.symm
    subst zv97
    refine z_iconst F dX8_lineUp_26 ?_
    refine z_icmp_le (tgt := 34) F dX8_lineUp_27 (by decide +kernel) (by omega) (by omega) (fun c99 => ?_) (fun c99 => ?_)
    · refine z_iconst F dX8_lineUp_34 ?_
      refine z_istore F dX8_lineUp_35 (by decide) (ls' := [(4, ii (-1)), (3, ii v8), (0, .ref (ad 58)), (1, ii x0), (2, ii x1)]) rfl ?_
      refine z_iconst F dX8_lineUp_37 ?_
      refine z_istore F dX8_lineUp_38 (by decide) (ls' := [(5, ii 0), (4, ii (-1)), (3, ii v8), (0, .ref (ad 58)), (1, ii x0), (2, ii x1)]) rfl ?_
      refine z_loc [3, 4, 1, 0] (ls' := [(0, .ref (ad 58)), (1, ii x0), (4, ii (-1)), (5, ii 0)]) rfl ?_
      suffices key40 : ∀ (n : Nat) (y101 : Int) (M100 : Mem), Inv M100 → WFk M100 → Fr [58, 61, 62] M M100 → 0 ≤ y101 → y101 ≤ 255 → (M100 58 7 = pcn x0.toNat) → 255 - y101 < (n : Int) → Z D cy ad p l e (RMh 7) s m args below meth c A 9 0 0 Q 40 [(0, .ref (ad 58)), (1, ii x0), (4, ii (-1)), (5, ii y101)] [] M100 from key40 256 0 M7 hI hW hF (by omega) (by omega) (by omega) (by omega)
      intro n40
      induction n40 with
      | zero => intro y101 M100 hI hW hF ay101 by101 i40_0 hn40; exfalso; omega
      | succ n40 ih40 =>
        intro y101 M100 hI hW hF ay101 by101 i40_0 hn40
        obtain ⟨u102, eu102⟩ : ∃ v : Int, v = M100 58 7 := ⟨_, rfl⟩
        have ku102 : 0 ≤ u102 ∧ u102 ≤ 8 := by have := hI.at (show Bd 58 7 = (0, 8) from rfl); omega
        refine z_iload F dX8_lineUp_40 (q := 3) rfl ?_
        refine z_iload_n F dX8_lineUp_42 rfl (q := 1) rfl ?_
        refine z_icmp_ge (tgt := 70) F dX8_lineUp_43 (by decide +kernel) (by omega) (by omega) (fun c103 => ?_) (fun c103 => ?_)
        · refine z_iload_n F dX8_lineUp_70 rfl (q := 1) rfl ?_
          refine z_istore F dX8_lineUp_71 (by decide) (ls' := [(5, ii x0), (0, .ref (ad 58)), (1, ii x0), (4, ii (-1))]) rfl ?_
          refine z_iconst F dX8_lineUp_73 ?_
          refine z_istore F dX8_lineUp_74 (by decide) (ls' := [(6, ii (-1)), (5, ii x0), (0, .ref (ad 58)), (1, ii x0), (4, ii (-1))]) rfl ?_
          refine z_iconst F dX8_lineUp_76 ?_
          refine z_istore F dX8_lineUp_77 (by decide) (ls' := [(7, ii 0), (6, ii (-1)), (5, ii x0), (0, .ref (ad 58)), (1, ii x0), (4, ii (-1))]) rfl ?_
          refine z_loc [3, 5, 2, 1, 0] (ls' := [(0, .ref (ad 58)), (4, ii (-1)), (5, ii x0), (6, ii (-1)), (7, ii 0)]) rfl ?_
          suffices key79 : ∀ (n : Nat) (y105 : Int) (y106 : Int) (y107 : Int) (M104 : Mem), Inv M104 → WFk M104 → Fr [58, 61, 62] M M104 → 0 ≤ y105 → y105 ≤ 255 → (-1) ≤ y106 → y106 ≤ 7 → 0 ≤ y107 → y107 ≤ 8 → (pcn y105.toNat + y107 = M104 58 7) → (y107 = 0 → y105 = x0) → (y107 = 0 ∨ 0 ≤ y106) → (M104 58 7 = pcn x0.toNat) → 8 - y107 < (n : Int) → Z D cy ad p l e (RMh 7) s m args below meth c A 9 0 0 Q 79 [(0, .ref (ad 58)), (4, ii (-1)), (5, ii y105), (6, ii y106), (7, ii y107)] [] M104 from key79 9 x0 (-1) 0 M100 hI hW hF (by omega) (by omega) (by omega) (by omega) (by omega) (by omega) (by omega) (by omega) (by omega) (by omega) (by omega)
          intro n79
          induction n79 with
          | zero => intro y105 y106 y107 M104 hI hW hF ay105 by105 ay106 by106 ay107 by107 i79_0 i79_1 i79_2 i79_3 hn79; exfalso; omega
          | succ n79 ih79 =>
            intro y105 y106 y107 M104 hI hW hF ay105 by105 ay106 by106 ay107 by107 i79_0 i79_1 i79_2 i79_3 hn79
            obtain ⟨u108, eu108⟩ : ∃ v : Int, v = M104 58 7 := ⟨_, rfl⟩
            have ku108 : 0 ≤ u108 ∧ u108 ≤ 8 := by have := hI.at (show Bd 58 7 = (0, 8) from rfl); omega
            refine z_iload F dX8_lineUp_79 (q := 4) rfl ?_
            refine z_aload_n F dX8_lineUp_81 rfl (q := 0) rfl ?_
            refine gf_X8_76 F hI gs_58 rfl bd_58_7 dX8_lineUp_82 (fun v109 ev109 av109 bv109 => ?_)
            have zv109 : u108 = v109 := eu108.trans ev109.symm
            subst zv109
            have hp0 : x0 = 0 → pcn x0.toNat = 0 := fun q => by rw [q]; rfl
            refine z_icmp_ge (tgt := 171) F dX8_lineUp_85 (by decide +kernel) (by omega) (by omega) (fun c110 => ?_) (fun c110 => ?_)
            · refine z_iload F dX8_lineUp_171 (q := 1) rfl ?_
              refine z_iconst F dX8_lineUp_173 ?_
              refine z_icmp_eq (tgt := 194) F dX8_lineUp_174 (by decide +kernel) (by omega) (by omega) (fun c111 => ?_) (fun c111 => by exfalso; omega)
              exact hret _ 194 _ ⟨hI, hW⟩ hF dX8_lineUp_194
            · refine z_iload F dX8_lineUp_88 (q := 4) rfl ?_
              refine z_if_ne (tgt := 104) F dX8_lineUp_90 (by decide +kernel) (by omega) (fun c112 => ?_) (fun c112 => ?_)
              · have hr0 : y105 = 0 → pcn y105.toNat = 0 := fun q => by rw [q]; rfl
                refine z_aload_n F dX8_lineUp_104 rfl (q := 0) rfl ?_
                refine z_iload F dX8_lineUp_105 (q := 2) rfl ?_
                refine z_iload F dX8_lineUp_107 (q := 3) rfl ?_
                have k113 : 1 ≤ y105 ∧ y105 ≤ 255 := by omega
                refine zv_i (rest := []) F (k_X8_bestNext_58 l M104 ⟨hI, hW⟩ y105 (by omega) (by omega) y106 (by omega) (by omega)) cs_X8_89 (T := TX8) (N := 9) (ci := 8) rfl gs_58 (by decide) (by decide) rfl rfl rfl (Nat.le_of_ble_eq_true rfl) dX8_lineUp_109 (fun v114 M115 rv114 hI p116 => ?_)
                obtain ⟨hI, hW⟩ := hI
                obtain ⟨⟨av114, bv114⟩, rfl, xp116⟩ := p116
                have hnx := xp116
                have hnr : 0 ≤ v114 ∧ v114 ≤ 7 := by omega
                have hbn : Bt y105 v114 := hnx.2.2
                refine z_istore F dX8_lineUp_112 (by decide) (ls' := [(8, ii v114), (0, .ref (ad 58)), (4, ii (-1)), (5, ii y105), (6, ii y106), (7, ii y107)]) rfl ?_
                refine z_aload_n F dX8_lineUp_114 rfl (q := 1) rfl ?_
                refine z_dup F dX8_lineUp_115 rfl ?_
                refine gf_X8_79 F hI gs_58 rfl bd_58_8 dX8_lineUp_116 (fun v117 ev117 av117 bv117 => ?_)
                refine z_iload F dX8_lineUp_119 (q := 4) rfl ?_
                refine z_iconst F dX8_lineUp_121 ?_
                refine z_icmp_ne (tgt := 129) F dX8_lineUp_122 (by decide +kernel) (by omega) (by omega) (fun c118 => ?_) (fun c118 => ?_)
                · refine z_aload_n F dX8_lineUp_129 rfl (q := 1) rfl ?_
                  refine z_iload F dX8_lineUp_130 (q := 4) rfl ?_
                  refine z_iload F dX8_lineUp_132 (q := 0) rfl ?_
                  refine zv_i (rest := [ii v117, .ref (ad 58)]) F (k_X8_goatBetween_58 l M104 ⟨hI, hW⟩ y106 (by omega) (by omega) v114 (by omega) (by omega)) cs_X8_60 (T := TX8) (N := 9) (ci := 8) rfl gs_58 (by decide) (by decide) rfl rfl rfl (Nat.le_of_ble_eq_true rfl) dX8_lineUp_134 (fun v119 M120 rv119 hI p121 => ?_)
                  obtain ⟨hI, hW⟩ := hI
                  obtain ⟨⟨av119, bv119⟩, rfl⟩ := p121
                  refine z_iadd F dX8_lineUp_137 ?_
                  refine z_wrap (fun v122 rv122 wv122 => ?_)
                  refine pf_X8_79 F hI gs_58 rfl bd_58_8 rfl rfl dX8_lineUp_138 (by omega) (by omega) (fun M124 hI sf123 f123 => ?_)
                  have hF := hF.wr f123 (by decide) (by decide)
                  have hW : WFk M124 := hW.site f123 (by decide)
                  refine z_aload_n F dX8_lineUp_141 rfl (q := 1) rfl ?_
                  refine rf_X8_21 F gs_58 rfl dX8_lineUp_142 ?_
                  refine z_iload F dX8_lineUp_145 (q := 5) rfl ?_
                  refine z_iload F dX8_lineUp_147 (q := 0) rfl ?_
                  refine z_iast F hI gs_62 (by omega) (by omega) (by decide) bd_62 dX8_lineUp_149 (by omega) (by omega) (fun M126 hI sf125 f125 => ?_)
                  have hF := hF.wr f125 (by decide) (by decide)
                  have hW : WFk M126 := hW.site f125 (by decide)
                  refine z_iload F dX8_lineUp_150 (q := 3) rfl ?_
                  refine z_iconst F dX8_lineUp_152 ?_
                  refine z_iload F dX8_lineUp_153 (q := 0) rfl ?_
                  refine z_shl1 (k := 7) F dX8_lineUp_155 (by decide) (by omega) (by omega) (fun v127 ev127 av127 bv127 => ?_)
                  refine z_iconst F dX8_lineUp_156 ?_
                  refine z_ixor0 F dX8_lineUp_157 (fun v128 ev128 rv128 => ?_)
                  refine z_iand_l F dX8_lineUp_158 (by omega) (by omega) (fun v129 ev129 av129 bv129 => ?_)
                  have hdr := drop10 (s := y105) (q := v114) (by omega) (by omega) (by omega) (by omega) hbn ev129 (by assumption) (by assumption)
                  refine z_istore F dX8_lineUp_159 (by decide) (ls' := [(5, ii v129), (8, ii v114), (0, .ref (ad 58)), (4, ii (-1)), (6, ii y106), (7, ii y107)]) rfl ?_
                  refine z_iload F dX8_lineUp_161 (q := 1) rfl ?_
                  refine z_istore F dX8_lineUp_163 (by decide) (ls' := [(6, ii v114), (5, ii v129), (8, ii v114), (0, .ref (ad 58)), (4, ii (-1)), (7, ii y107)]) rfl ?_
                  refine z_iincN F dX8_lineUp_165 (q := 5) rfl (by decide) (fun v130 ev130 => ?_)
                  refine z_eq (ls' := [(7, ii v130), (6, ii v114), (5, ii v129), (8, ii v114), (0, .ref (ad 58)), (4, ii (-1))]) rfl rfl rfl ?_
                  refine z_goto (tgt := 79) F dX8_lineUp_168 (by decide +kernel) ?_
                  refine z_loc [4, 5, 2, 1, 0] (ls' := [(0, .ref (ad 58)), (4, ii (-1)), (5, ii v129), (6, ii v114), (7, ii v130)]) rfl ?_
                  have q131 : u108 = M124 58 7 := eu108.trans (f123 58 7 (fun q => absurd q.2 (by decide))).symm
                  have q132 : u108 = M126 58 7 := q131.trans (f125 58 7 (fun q => absurd q.1 (by decide))).symm
                  exact ih79 v129 v114 v130 M126 hI hW hF (by omega) (by omega) (by omega) (by omega) (by omega) (by omega) (by omega) (by omega) (by omega) (by omega) (by omega)
                · refine z_iconst F dX8_lineUp_125 ?_
                  refine z_goto (tgt := 137) F dX8_lineUp_126 (by decide +kernel) ?_
                  refine z_iadd F dX8_lineUp_137 ?_
                  refine z_nm (fun v133 ev133 => ?_)
                  refine pf_X8_79 F hI gs_58 rfl bd_58_8 rfl rfl dX8_lineUp_138 (by omega) (by omega) (fun M135 hI sf134 f134 => ?_)
                  have hF := hF.wr f134 (by decide) (by decide)
                  have hW : WFk M135 := hW.site f134 (by decide)
                  refine z_aload_n F dX8_lineUp_141 rfl (q := 1) rfl ?_
                  refine rf_X8_21 F gs_58 rfl dX8_lineUp_142 ?_
                  refine z_iload F dX8_lineUp_145 (q := 5) rfl ?_
                  refine z_iload F dX8_lineUp_147 (q := 0) rfl ?_
                  refine z_iast F hI gs_62 (by omega) (by omega) (by decide) bd_62 dX8_lineUp_149 (by omega) (by omega) (fun M137 hI sf136 f136 => ?_)
                  have hF := hF.wr f136 (by decide) (by decide)
                  have hW : WFk M137 := hW.site f136 (by decide)
                  refine z_iload F dX8_lineUp_150 (q := 3) rfl ?_
                  refine z_iconst F dX8_lineUp_152 ?_
                  refine z_iload F dX8_lineUp_153 (q := 0) rfl ?_
                  refine z_shl1 (k := 7) F dX8_lineUp_155 (by decide) (by omega) (by omega) (fun v138 ev138 av138 bv138 => ?_)
                  refine z_iconst F dX8_lineUp_156 ?_
                  refine z_ixor0 F dX8_lineUp_157 (fun v139 ev139 rv139 => ?_)
                  refine z_iand_l F dX8_lineUp_158 (by omega) (by omega) (fun v140 ev140 av140 bv140 => ?_)
                  have hdr := drop10 (s := y105) (q := v114) (by omega) (by omega) (by omega) (by omega) hbn ev140 (by assumption) (by assumption)
                  refine z_istore F dX8_lineUp_159 (by decide) (ls' := [(5, ii v140), (8, ii v114), (0, .ref (ad 58)), (4, ii (-1)), (6, ii y106), (7, ii y107)]) rfl ?_
                  refine z_iload F dX8_lineUp_161 (q := 1) rfl ?_
                  refine z_istore F dX8_lineUp_163 (by decide) (ls' := [(6, ii v114), (5, ii v140), (8, ii v114), (0, .ref (ad 58)), (4, ii (-1)), (7, ii y107)]) rfl ?_
                  refine z_iincN F dX8_lineUp_165 (q := 5) rfl (by decide) (fun v141 ev141 => ?_)
                  refine z_eq (ls' := [(7, ii v141), (6, ii v114), (5, ii v140), (8, ii v114), (0, .ref (ad 58)), (4, ii (-1))]) rfl rfl rfl ?_
                  refine z_goto (tgt := 79) F dX8_lineUp_168 (by decide +kernel) ?_
                  refine z_loc [4, 5, 2, 1, 0] (ls' := [(0, .ref (ad 58)), (4, ii (-1)), (5, ii v140), (6, ii v114), (7, ii v141)]) rfl ?_
                  have q142 : u108 = M135 58 7 := eu108.trans (f134 58 7 (fun q => absurd q.2 (by decide))).symm
                  have q143 : u108 = M137 58 7 := q142.trans (f136 58 7 (fun q => absurd q.1 (by decide))).symm
                  exact ih79 v140 v114 v141 M137 hI hW hF (by omega) (by omega) (by omega) (by omega) (by omega) (by omega) (by omega) (by omega) (by omega) (by omega) (by omega)
              · refine z_iload F dX8_lineUp_93 (q := 1) rfl ?_
                refine z_iconst F dX8_lineUp_95 ?_
                refine z_icmp_eq (tgt := 104) F dX8_lineUp_96 (by decide +kernel) (by omega) (by omega) (fun c144 => ?_) (fun c144 => by exfalso; omega)
                have hr0 : y105 = 0 → pcn y105.toNat = 0 := fun q => by rw [q]; rfl
                refine z_aload_n F dX8_lineUp_104 rfl (q := 0) rfl ?_
                refine z_iload F dX8_lineUp_105 (q := 2) rfl ?_
                refine z_iload F dX8_lineUp_107 (q := 3) rfl ?_
                have k145 : 1 ≤ y105 ∧ y105 ≤ 255 := by omega
                refine zv_i (rest := []) F (k_X8_bestNext_58 l M104 ⟨hI, hW⟩ y105 (by omega) (by omega) y106 (by omega) (by omega)) cs_X8_89 (T := TX8) (N := 9) (ci := 8) rfl gs_58 (by decide) (by decide) rfl rfl rfl (Nat.le_of_ble_eq_true rfl) dX8_lineUp_109 (fun v146 M147 rv146 hI p148 => ?_)
                obtain ⟨hI, hW⟩ := hI
                obtain ⟨⟨av146, bv146⟩, rfl, xp148⟩ := p148
                have hnx := xp148
                have hnr : 0 ≤ v146 ∧ v146 ≤ 7 := by omega
                have hbn : Bt y105 v146 := hnx.2.2
                refine z_istore F dX8_lineUp_112 (by decide) (ls' := [(8, ii v146), (0, .ref (ad 58)), (4, ii (-1)), (5, ii y105), (6, ii y106), (7, ii y107)]) rfl ?_
                refine z_aload_n F dX8_lineUp_114 rfl (q := 1) rfl ?_
                refine z_dup F dX8_lineUp_115 rfl ?_
                refine gf_X8_79 F hI gs_58 rfl bd_58_8 dX8_lineUp_116 (fun v149 ev149 av149 bv149 => ?_)
                refine z_iload F dX8_lineUp_119 (q := 4) rfl ?_
                refine z_iconst F dX8_lineUp_121 ?_
                refine z_icmp_ne (tgt := 129) F dX8_lineUp_122 (by decide +kernel) (by omega) (by omega) (fun c150 => ?_) (fun c150 => ?_)
                · refine z_aload_n F dX8_lineUp_129 rfl (q := 1) rfl ?_
                  refine z_iload F dX8_lineUp_130 (q := 4) rfl ?_
                  refine z_iload F dX8_lineUp_132 (q := 0) rfl ?_
                  refine zv_i (rest := [ii v149, .ref (ad 58)]) F (k_X8_goatBetween_58 l M104 ⟨hI, hW⟩ y106 (by omega) (by omega) v146 (by omega) (by omega)) cs_X8_60 (T := TX8) (N := 9) (ci := 8) rfl gs_58 (by decide) (by decide) rfl rfl rfl (Nat.le_of_ble_eq_true rfl) dX8_lineUp_134 (fun v151 M152 rv151 hI p153 => ?_)
                  obtain ⟨hI, hW⟩ := hI
                  obtain ⟨⟨av151, bv151⟩, rfl⟩ := p153
                  refine z_iadd F dX8_lineUp_137 ?_
                  refine z_wrap (fun v154 rv154 wv154 => ?_)
                  refine pf_X8_79 F hI gs_58 rfl bd_58_8 rfl rfl dX8_lineUp_138 (by omega) (by omega) (fun M156 hI sf155 f155 => ?_)
                  have hF := hF.wr f155 (by decide) (by decide)
                  have hW : WFk M156 := hW.site f155 (by decide)
                  refine z_aload_n F dX8_lineUp_141 rfl (q := 1) rfl ?_
                  refine rf_X8_21 F gs_58 rfl dX8_lineUp_142 ?_
                  refine z_iload F dX8_lineUp_145 (q := 5) rfl ?_
                  refine z_iload F dX8_lineUp_147 (q := 0) rfl ?_
                  refine z_iast F hI gs_62 (by omega) (by omega) (by decide) bd_62 dX8_lineUp_149 (by omega) (by omega) (fun M158 hI sf157 f157 => ?_)
                  have hF := hF.wr f157 (by decide) (by decide)
                  have hW : WFk M158 := hW.site f157 (by decide)
                  refine z_iload F dX8_lineUp_150 (q := 3) rfl ?_
                  refine z_iconst F dX8_lineUp_152 ?_
                  refine z_iload F dX8_lineUp_153 (q := 0) rfl ?_
                  refine z_shl1 (k := 7) F dX8_lineUp_155 (by decide) (by omega) (by omega) (fun v159 ev159 av159 bv159 => ?_)
                  refine z_iconst F dX8_lineUp_156 ?_
                  refine z_ixor0 F dX8_lineUp_157 (fun v160 ev160 rv160 => ?_)
                  refine z_iand_l F dX8_lineUp_158 (by omega) (by omega) (fun v161 ev161 av161 bv161 => ?_)
                  have hdr := drop10 (s := y105) (q := v146) (by omega) (by omega) (by omega) (by omega) hbn ev161 (by assumption) (by assumption)
                  refine z_istore F dX8_lineUp_159 (by decide) (ls' := [(5, ii v161), (8, ii v146), (0, .ref (ad 58)), (4, ii (-1)), (6, ii y106), (7, ii y107)]) rfl ?_
                  refine z_iload F dX8_lineUp_161 (q := 1) rfl ?_
                  refine z_istore F dX8_lineUp_163 (by decide) (ls' := [(6, ii v146), (5, ii v161), (8, ii v146), (0, .ref (ad 58)), (4, ii (-1)), (7, ii y107)]) rfl ?_
                  refine z_iincN F dX8_lineUp_165 (q := 5) rfl (by decide) (fun v162 ev162 => ?_)
                  refine z_eq (ls' := [(7, ii v162), (6, ii v146), (5, ii v161), (8, ii v146), (0, .ref (ad 58)), (4, ii (-1))]) rfl rfl rfl ?_
                  refine z_goto (tgt := 79) F dX8_lineUp_168 (by decide +kernel) ?_
                  refine z_loc [4, 5, 2, 1, 0] (ls' := [(0, .ref (ad 58)), (4, ii (-1)), (5, ii v161), (6, ii v146), (7, ii v162)]) rfl ?_
                  have q163 : u108 = M156 58 7 := eu108.trans (f155 58 7 (fun q => absurd q.2 (by decide))).symm
                  have q164 : u108 = M158 58 7 := q163.trans (f157 58 7 (fun q => absurd q.1 (by decide))).symm
                  exact ih79 v161 v146 v162 M158 hI hW hF (by omega) (by omega) (by omega) (by omega) (by omega) (by omega) (by omega) (by omega) (by omega) (by omega) (by omega)
                · refine z_iconst F dX8_lineUp_125 ?_
                  refine z_goto (tgt := 137) F dX8_lineUp_126 (by decide +kernel) ?_
                  refine z_iadd F dX8_lineUp_137 ?_
                  refine z_nm (fun v165 ev165 => ?_)
                  refine pf_X8_79 F hI gs_58 rfl bd_58_8 rfl rfl dX8_lineUp_138 (by omega) (by omega) (fun M167 hI sf166 f166 => ?_)
                  have hF := hF.wr f166 (by decide) (by decide)
                  have hW : WFk M167 := hW.site f166 (by decide)
                  refine z_aload_n F dX8_lineUp_141 rfl (q := 1) rfl ?_
                  refine rf_X8_21 F gs_58 rfl dX8_lineUp_142 ?_
                  refine z_iload F dX8_lineUp_145 (q := 5) rfl ?_
                  refine z_iload F dX8_lineUp_147 (q := 0) rfl ?_
                  refine z_iast F hI gs_62 (by omega) (by omega) (by decide) bd_62 dX8_lineUp_149 (by omega) (by omega) (fun M169 hI sf168 f168 => ?_)
                  have hF := hF.wr f168 (by decide) (by decide)
                  have hW : WFk M169 := hW.site f168 (by decide)
                  refine z_iload F dX8_lineUp_150 (q := 3) rfl ?_
                  refine z_iconst F dX8_lineUp_152 ?_
                  refine z_iload F dX8_lineUp_153 (q := 0) rfl ?_
                  refine z_shl1 (k := 7) F dX8_lineUp_155 (by decide) (by omega) (by omega) (fun v170 ev170 av170 bv170 => ?_)
                  refine z_iconst F dX8_lineUp_156 ?_
                  refine z_ixor0 F dX8_lineUp_157 (fun v171 ev171 rv171 => ?_)
                  refine z_iand_l F dX8_lineUp_158 (by omega) (by omega) (fun v172 ev172 av172 bv172 => ?_)
                  have hdr := drop10 (s := y105) (q := v146) (by omega) (by omega) (by omega) (by omega) hbn ev172 (by assumption) (by assumption)
                  refine z_istore F dX8_lineUp_159 (by decide) (ls' := [(5, ii v172), (8, ii v146), (0, .ref (ad 58)), (4, ii (-1)), (6, ii y106), (7, ii y107)]) rfl ?_
                  refine z_iload F dX8_lineUp_161 (q := 1) rfl ?_
                  refine z_istore F dX8_lineUp_163 (by decide) (ls' := [(6, ii v146), (5, ii v172), (8, ii v146), (0, .ref (ad 58)), (4, ii (-1)), (7, ii y107)]) rfl ?_
                  refine z_iincN F dX8_lineUp_165 (q := 5) rfl (by decide) (fun v173 ev173 => ?_)
                  refine z_eq (ls' := [(7, ii v173), (6, ii v146), (5, ii v172), (8, ii v146), (0, .ref (ad 58)), (4, ii (-1))]) rfl rfl rfl ?_
                  refine z_goto (tgt := 79) F dX8_lineUp_168 (by decide +kernel) ?_
                  refine z_loc [4, 5, 2, 1, 0] (ls' := [(0, .ref (ad 58)), (4, ii (-1)), (5, ii v172), (6, ii v146), (7, ii v173)]) rfl ?_
                  have q174 : u108 = M167 58 7 := eu108.trans (f166 58 7 (fun q => absurd q.2 (by decide))).symm
                  have q175 : u108 = M169 58 7 := q174.trans (f168 58 7 (fun q => absurd q.1 (by decide))).symm
                  exact ih79 v172 v146 v173 M169 hI hW hF (by omega) (by omega) (by omega) (by omega) (by omega) (by omega) (by omega) (by omega) (by omega) (by omega) (by omega)
        · refine z_iload F dX8_lineUp_46 (q := 3) rfl ?_
          refine z_iload_n F dX8_lineUp_48 rfl (q := 1) rfl ?_
          refine z_iconst F dX8_lineUp_49 ?_
          refine z_ixor0 F dX8_lineUp_50 (fun v176 ev176 rv176 => ?_)
          refine z_iand_l F dX8_lineUp_51 (by omega) (by omega) (fun v177 ev177 av177 bv177 => ?_)
          refine z_if_ne (tgt := 64) F dX8_lineUp_52 (by decide +kernel) (by omega) (fun c178 => ?_) (fun c178 => ?_)
          · refine z_iincN F dX8_lineUp_64 (q := 3) rfl (by decide) (fun v179 ev179 => ?_)
            refine z_eq (ls' := [(5, ii v179), (0, .ref (ad 58)), (1, ii x0), (4, ii (-1))]) rfl rfl rfl ?_
            refine z_goto (tgt := 40) F dX8_lineUp_67 (by decide +kernel) ?_
            refine z_loc [1, 2, 3, 0] (ls' := [(0, .ref (ad 58)), (1, ii x0), (4, ii (-1)), (5, ii v179)]) rfl ?_
            exact ih40 v179 M100 hI hW hF (by omega) (by omega) (by omega) (by omega)
          · refine z_aload_n F dX8_lineUp_55 rfl (q := 0) rfl ?_
            refine z_iload_n F dX8_lineUp_56 rfl (q := 1) rfl ?_
            refine z_iload F dX8_lineUp_57 (q := 3) rfl ?_
            refine z_iload F dX8_lineUp_59 (q := 2) rfl ?_
            refine zv_v (rest := []) F (k_X8_weigh_58 l M100 ⟨hI, hW⟩ x0 (by omega) (by omega) y101 (by omega) (by omega) (-1) (by omega) (by omega)) cs_X8_85 (T := TX8) (N := 9) (ci := 8) rfl gs_58 (by decide) (by decide) rfl rfl rfl (Nat.le_of_ble_eq_true rfl) dX8_lineUp_61 (fun M180 hI p181 => ?_)
            obtain ⟨hI, hW⟩ := hI
            have fp181 := p181
            have hF := hF.call fp181 (by decide)
            refine z_iincN F dX8_lineUp_64 (q := 3) rfl (by decide) (fun v182 ev182 => ?_)
            refine z_eq (ls' := [(5, ii v182), (0, .ref (ad 58)), (1, ii x0), (4, ii (-1))]) rfl rfl rfl ?_
            refine z_goto (tgt := 40) F dX8_lineUp_67 (by decide +kernel) ?_
            refine z_loc [1, 2, 3, 0] (ls' := [(0, .ref (ad 58)), (1, ii x0), (4, ii (-1)), (5, ii v182)]) rfl ?_
            have q183 : u102 = M180 58 7 := eu102.trans ((fp181.at (by decide)) : M180 58 7 = _).symm
            exact ih40 v182 M180 hI hW hF (by omega) (by omega) (by omega) (by omega)
    · refine z_iload_n F dX8_lineUp_30 rfl (q := 0) rfl ?_
      have hp0 : x0 = 0 → pcn x0.toNat = 0 := fun q => by rw [q]; rfl
      have k184 : 0 ≤ v8 ∧ v8 ≤ 7 := by omega
      refine z_goto (tgt := 35) F dX8_lineUp_31 (by decide +kernel) ?_
      refine z_istore F dX8_lineUp_35 (by decide) (ls' := [(4, ii v8), (3, ii v8), (0, .ref (ad 58)), (1, ii x0), (2, ii x1)]) rfl ?_
      refine z_iconst F dX8_lineUp_37 ?_
      refine z_istore F dX8_lineUp_38 (by decide) (ls' := [(5, ii 0), (4, ii v8), (3, ii v8), (0, .ref (ad 58)), (1, ii x0), (2, ii x1)]) rfl ?_
      refine z_loc [3, 4, 1, 0] (ls' := [(0, .ref (ad 58)), (1, ii x0), (4, ii v8), (5, ii 0)]) rfl ?_
      suffices key40 : ∀ (n : Nat) (y186 : Int) (M185 : Mem), Inv M185 → WFk M185 → Fr [58, 61, 62] M M185 → 0 ≤ y186 → y186 ≤ 255 → (M185 58 7 = pcn x0.toNat) → 255 - y186 < (n : Int) → Z D cy ad p l e (RMh 7) s m args below meth c A 9 0 0 Q 40 [(0, .ref (ad 58)), (1, ii x0), (4, ii v8), (5, ii y186)] [] M185 from key40 256 0 M7 hI hW hF (by omega) (by omega) (by omega) (by omega)
      intro n40
      induction n40 with
      | zero => intro y186 M185 hI hW hF ay186 by186 i40_0 hn40; exfalso; omega
      | succ n40 ih40 =>
        intro y186 M185 hI hW hF ay186 by186 i40_0 hn40
        obtain ⟨u187, eu187⟩ : ∃ v : Int, v = M185 58 7 := ⟨_, rfl⟩
        have ku187 : 0 ≤ u187 ∧ u187 ≤ 8 := by have := hI.at (show Bd 58 7 = (0, 8) from rfl); omega
        refine z_iload F dX8_lineUp_40 (q := 3) rfl ?_
        refine z_iload_n F dX8_lineUp_42 rfl (q := 1) rfl ?_
        refine z_icmp_ge (tgt := 70) F dX8_lineUp_43 (by decide +kernel) (by omega) (by omega) (fun c188 => ?_) (fun c188 => ?_)
        · refine z_iload_n F dX8_lineUp_70 rfl (q := 1) rfl ?_
          refine z_istore F dX8_lineUp_71 (by decide) (ls' := [(5, ii x0), (0, .ref (ad 58)), (1, ii x0), (4, ii v8)]) rfl ?_
          refine z_iconst F dX8_lineUp_73 ?_
          refine z_istore F dX8_lineUp_74 (by decide) (ls' := [(6, ii (-1)), (5, ii x0), (0, .ref (ad 58)), (1, ii x0), (4, ii v8)]) rfl ?_
          refine z_iconst F dX8_lineUp_76 ?_
          refine z_istore F dX8_lineUp_77 (by decide) (ls' := [(7, ii 0), (6, ii (-1)), (5, ii x0), (0, .ref (ad 58)), (1, ii x0), (4, ii v8)]) rfl ?_
          refine z_loc [3, 5, 2, 1, 0] (ls' := [(0, .ref (ad 58)), (4, ii v8), (5, ii x0), (6, ii (-1)), (7, ii 0)]) rfl ?_
          suffices key79 : ∀ (n : Nat) (y190 : Int) (y191 : Int) (y192 : Int) (M189 : Mem), Inv M189 → WFk M189 → Fr [58, 61, 62] M M189 → 0 ≤ y190 → y190 ≤ 255 → (-1) ≤ y191 → y191 ≤ 7 → 0 ≤ y192 → y192 ≤ 8 → (pcn y190.toNat + y192 = M189 58 7) → (y192 = 0 → y190 = x0) → (y192 = 0 ∨ 0 ≤ y191) → (M189 58 7 = pcn x0.toNat) → 8 - y192 < (n : Int) → Z D cy ad p l e (RMh 7) s m args below meth c A 9 0 0 Q 79 [(0, .ref (ad 58)), (4, ii v8), (5, ii y190), (6, ii y191), (7, ii y192)] [] M189 from key79 9 x0 (-1) 0 M185 hI hW hF (by omega) (by omega) (by omega) (by omega) (by omega) (by omega) (by omega) (by omega) (by omega) (by omega) (by omega)
          intro n79
          induction n79 with
          | zero => intro y190 y191 y192 M189 hI hW hF ay190 by190 ay191 by191 ay192 by192 i79_0 i79_1 i79_2 i79_3 hn79; exfalso; omega
          | succ n79 ih79 =>
            intro y190 y191 y192 M189 hI hW hF ay190 by190 ay191 by191 ay192 by192 i79_0 i79_1 i79_2 i79_3 hn79
            obtain ⟨u193, eu193⟩ : ∃ v : Int, v = M189 58 7 := ⟨_, rfl⟩
            have ku193 : 0 ≤ u193 ∧ u193 ≤ 8 := by have := hI.at (show Bd 58 7 = (0, 8) from rfl); omega
            refine z_iload F dX8_lineUp_79 (q := 4) rfl ?_
            refine z_aload_n F dX8_lineUp_81 rfl (q := 0) rfl ?_
            refine gf_X8_76 F hI gs_58 rfl bd_58_7 dX8_lineUp_82 (fun v194 ev194 av194 bv194 => ?_)
            have zv194 : u193 = v194 := eu193.trans ev194.symm
            subst zv194
            have hp0 : x0 = 0 → pcn x0.toNat = 0 := fun q => by rw [q]; rfl
            refine z_icmp_ge (tgt := 171) F dX8_lineUp_85 (by decide +kernel) (by omega) (by omega) (fun c195 => ?_) (fun c195 => ?_)
            · refine z_iload F dX8_lineUp_171 (q := 1) rfl ?_
              refine z_iconst F dX8_lineUp_173 ?_
              refine z_icmp_eq (tgt := 194) F dX8_lineUp_174 (by decide +kernel) (by omega) (by omega) (fun c196 => by exfalso; omega) (fun c196 => ?_)
              refine z_aload_n F dX8_lineUp_177 rfl (q := 0) rfl ?_
              refine z_dup F dX8_lineUp_178 rfl ?_
              refine gf_X8_79 F hI gs_58 rfl bd_58_8 dX8_lineUp_179 (fun v197 ev197 av197 bv197 => ?_)
              refine z_aload_n F dX8_lineUp_182 rfl (q := 0) rfl ?_
              refine z_iload F dX8_lineUp_183 (q := 3) rfl ?_
              refine z_iload F dX8_lineUp_185 (q := 1) rfl ?_
              have k198 : 0 ≤ y191 ∧ y191 ≤ 7 := by omega
              refine zv_i (rest := [ii v197, .ref (ad 58)]) F (k_X8_goatBetween_58 l M189 ⟨hI, hW⟩ y191 (by omega) (by omega) v8 (by omega) (by omega)) cs_X8_60 (T := TX8) (N := 9) (ci := 8) rfl gs_58 (by decide) (by decide) rfl rfl rfl (Nat.le_of_ble_eq_true rfl) dX8_lineUp_187 (fun v199 M200 rv199 hI p201 => ?_)
              obtain ⟨hI, hW⟩ := hI
              obtain ⟨⟨av199, bv199⟩, rfl⟩ := p201
              refine z_iadd F dX8_lineUp_190 ?_
              refine z_wrap (fun v202 rv202 wv202 => ?_)
              refine pf_X8_79 F hI gs_58 rfl bd_58_8 rfl rfl dX8_lineUp_191 (by omega) (by omega) (fun M204 hI sf203 f203 => ?_)
              have hF := hF.wr f203 (by decide) (by decide)
              have hW : WFk M204 := hW.site f203 (by decide)
              exact hret _ 194 _ ⟨hI, hW⟩ hF dX8_lineUp_194
            · refine z_iload F dX8_lineUp_88 (q := 4) rfl ?_
              refine z_if_ne (tgt := 104) F dX8_lineUp_90 (by decide +kernel) (by omega) (fun c205 => ?_) (fun c205 => ?_)
              · have hr0 : y190 = 0 → pcn y190.toNat = 0 := fun q => by rw [q]; rfl
                refine z_aload_n F dX8_lineUp_104 rfl (q := 0) rfl ?_
                refine z_iload F dX8_lineUp_105 (q := 2) rfl ?_
                refine z_iload F dX8_lineUp_107 (q := 3) rfl ?_
                have k206 : 1 ≤ y190 ∧ y190 ≤ 255 := by omega
                refine zv_i (rest := []) F (k_X8_bestNext_58 l M189 ⟨hI, hW⟩ y190 (by omega) (by omega) y191 (by omega) (by omega)) cs_X8_89 (T := TX8) (N := 9) (ci := 8) rfl gs_58 (by decide) (by decide) rfl rfl rfl (Nat.le_of_ble_eq_true rfl) dX8_lineUp_109 (fun v207 M208 rv207 hI p209 => ?_)
                obtain ⟨hI, hW⟩ := hI
                obtain ⟨⟨av207, bv207⟩, rfl, xp209⟩ := p209
                have hnx := xp209
                have hnr : 0 ≤ v207 ∧ v207 ≤ 7 := by omega
                have hbn : Bt y190 v207 := hnx.2.2
                refine z_istore F dX8_lineUp_112 (by decide) (ls' := [(8, ii v207), (0, .ref (ad 58)), (4, ii v8), (5, ii y190), (6, ii y191), (7, ii y192)]) rfl ?_
                refine z_aload_n F dX8_lineUp_114 rfl (q := 1) rfl ?_
                refine z_dup F dX8_lineUp_115 rfl ?_
                refine gf_X8_79 F hI gs_58 rfl bd_58_8 dX8_lineUp_116 (fun v210 ev210 av210 bv210 => ?_)
                refine z_iload F dX8_lineUp_119 (q := 4) rfl ?_
                refine z_iconst F dX8_lineUp_121 ?_
                refine z_icmp_ne (tgt := 129) F dX8_lineUp_122 (by decide +kernel) (by omega) (by omega) (fun c211 => ?_) (fun c211 => ?_)
                · refine z_aload_n F dX8_lineUp_129 rfl (q := 1) rfl ?_
                  refine z_iload F dX8_lineUp_130 (q := 4) rfl ?_
                  refine z_iload F dX8_lineUp_132 (q := 0) rfl ?_
                  refine zv_i (rest := [ii v210, .ref (ad 58)]) F (k_X8_goatBetween_58 l M189 ⟨hI, hW⟩ y191 (by omega) (by omega) v207 (by omega) (by omega)) cs_X8_60 (T := TX8) (N := 9) (ci := 8) rfl gs_58 (by decide) (by decide) rfl rfl rfl (Nat.le_of_ble_eq_true rfl) dX8_lineUp_134 (fun v212 M213 rv212 hI p214 => ?_)
                  obtain ⟨hI, hW⟩ := hI
                  obtain ⟨⟨av212, bv212⟩, rfl⟩ := p214
                  refine z_iadd F dX8_lineUp_137 ?_
                  refine z_wrap (fun v215 rv215 wv215 => ?_)
                  refine pf_X8_79 F hI gs_58 rfl bd_58_8 rfl rfl dX8_lineUp_138 (by omega) (by omega) (fun M217 hI sf216 f216 => ?_)
                  have hF := hF.wr f216 (by decide) (by decide)
                  have hW : WFk M217 := hW.site f216 (by decide)
                  refine z_aload_n F dX8_lineUp_141 rfl (q := 1) rfl ?_
                  refine rf_X8_21 F gs_58 rfl dX8_lineUp_142 ?_
                  refine z_iload F dX8_lineUp_145 (q := 5) rfl ?_
                  refine z_iload F dX8_lineUp_147 (q := 0) rfl ?_
                  refine z_iast F hI gs_62 (by omega) (by omega) (by decide) bd_62 dX8_lineUp_149 (by omega) (by omega) (fun M219 hI sf218 f218 => ?_)
                  have hF := hF.wr f218 (by decide) (by decide)
                  have hW : WFk M219 := hW.site f218 (by decide)
                  refine z_iload F dX8_lineUp_150 (q := 3) rfl ?_
                  refine z_iconst F dX8_lineUp_152 ?_
                  refine z_iload F dX8_lineUp_153 (q := 0) rfl ?_
                  refine z_shl1 (k := 7) F dX8_lineUp_155 (by decide) (by omega) (by omega) (fun v220 ev220 av220 bv220 => ?_)
                  refine z_iconst F dX8_lineUp_156 ?_
                  refine z_ixor0 F dX8_lineUp_157 (fun v221 ev221 rv221 => ?_)
                  refine z_iand_l F dX8_lineUp_158 (by omega) (by omega) (fun v222 ev222 av222 bv222 => ?_)
                  have hdr := drop10 (s := y190) (q := v207) (by omega) (by omega) (by omega) (by omega) hbn ev222 (by assumption) (by assumption)
                  refine z_istore F dX8_lineUp_159 (by decide) (ls' := [(5, ii v222), (8, ii v207), (0, .ref (ad 58)), (4, ii v8), (6, ii y191), (7, ii y192)]) rfl ?_
                  refine z_iload F dX8_lineUp_161 (q := 1) rfl ?_
                  refine z_istore F dX8_lineUp_163 (by decide) (ls' := [(6, ii v207), (5, ii v222), (8, ii v207), (0, .ref (ad 58)), (4, ii v8), (7, ii y192)]) rfl ?_
                  refine z_iincN F dX8_lineUp_165 (q := 5) rfl (by decide) (fun v223 ev223 => ?_)
                  refine z_eq (ls' := [(7, ii v223), (6, ii v207), (5, ii v222), (8, ii v207), (0, .ref (ad 58)), (4, ii v8)]) rfl rfl rfl ?_
                  refine z_goto (tgt := 79) F dX8_lineUp_168 (by decide +kernel) ?_
                  refine z_loc [4, 5, 2, 1, 0] (ls' := [(0, .ref (ad 58)), (4, ii v8), (5, ii v222), (6, ii v207), (7, ii v223)]) rfl ?_
                  have q224 : u193 = M217 58 7 := eu193.trans (f216 58 7 (fun q => absurd q.2 (by decide))).symm
                  have q225 : u193 = M219 58 7 := q224.trans (f218 58 7 (fun q => absurd q.1 (by decide))).symm
                  exact ih79 v222 v207 v223 M219 hI hW hF (by omega) (by omega) (by omega) (by omega) (by omega) (by omega) (by omega) (by omega) (by omega) (by omega) (by omega)
                · refine z_iconst F dX8_lineUp_125 ?_
                  refine z_goto (tgt := 137) F dX8_lineUp_126 (by decide +kernel) ?_
                  refine z_iadd F dX8_lineUp_137 ?_
                  refine z_nm (fun v226 ev226 => ?_)
                  refine pf_X8_79 F hI gs_58 rfl bd_58_8 rfl rfl dX8_lineUp_138 (by omega) (by omega) (fun M228 hI sf227 f227 => ?_)
                  have hF := hF.wr f227 (by decide) (by decide)
                  have hW : WFk M228 := hW.site f227 (by decide)
                  refine z_aload_n F dX8_lineUp_141 rfl (q := 1) rfl ?_
                  refine rf_X8_21 F gs_58 rfl dX8_lineUp_142 ?_
                  refine z_iload F dX8_lineUp_145 (q := 5) rfl ?_
                  refine z_iload F dX8_lineUp_147 (q := 0) rfl ?_
                  refine z_iast F hI gs_62 (by omega) (by omega) (by decide) bd_62 dX8_lineUp_149 (by omega) (by omega) (fun M230 hI sf229 f229 => ?_)
                  have hF := hF.wr f229 (by decide) (by decide)
                  have hW : WFk M230 := hW.site f229 (by decide)
                  refine z_iload F dX8_lineUp_150 (q := 3) rfl ?_
                  refine z_iconst F dX8_lineUp_152 ?_
                  refine z_iload F dX8_lineUp_153 (q := 0) rfl ?_
                  refine z_shl1 (k := 7) F dX8_lineUp_155 (by decide) (by omega) (by omega) (fun v231 ev231 av231 bv231 => ?_)
                  refine z_iconst F dX8_lineUp_156 ?_
                  refine z_ixor0 F dX8_lineUp_157 (fun v232 ev232 rv232 => ?_)
                  refine z_iand_l F dX8_lineUp_158 (by omega) (by omega) (fun v233 ev233 av233 bv233 => ?_)
                  have hdr := drop10 (s := y190) (q := v207) (by omega) (by omega) (by omega) (by omega) hbn ev233 (by assumption) (by assumption)
                  refine z_istore F dX8_lineUp_159 (by decide) (ls' := [(5, ii v233), (8, ii v207), (0, .ref (ad 58)), (4, ii v8), (6, ii y191), (7, ii y192)]) rfl ?_
                  refine z_iload F dX8_lineUp_161 (q := 1) rfl ?_
                  refine z_istore F dX8_lineUp_163 (by decide) (ls' := [(6, ii v207), (5, ii v233), (8, ii v207), (0, .ref (ad 58)), (4, ii v8), (7, ii y192)]) rfl ?_
                  refine z_iincN F dX8_lineUp_165 (q := 5) rfl (by decide) (fun v234 ev234 => ?_)
                  refine z_eq (ls' := [(7, ii v234), (6, ii v207), (5, ii v233), (8, ii v207), (0, .ref (ad 58)), (4, ii v8)]) rfl rfl rfl ?_
                  refine z_goto (tgt := 79) F dX8_lineUp_168 (by decide +kernel) ?_
                  refine z_loc [4, 5, 2, 1, 0] (ls' := [(0, .ref (ad 58)), (4, ii v8), (5, ii v233), (6, ii v207), (7, ii v234)]) rfl ?_
                  have q235 : u193 = M228 58 7 := eu193.trans (f227 58 7 (fun q => absurd q.2 (by decide))).symm
                  have q236 : u193 = M230 58 7 := q235.trans (f229 58 7 (fun q => absurd q.1 (by decide))).symm
                  exact ih79 v233 v207 v234 M230 hI hW hF (by omega) (by omega) (by omega) (by omega) (by omega) (by omega) (by omega) (by omega) (by omega) (by omega) (by omega)
              · refine z_iload F dX8_lineUp_93 (q := 1) rfl ?_
                refine z_iconst F dX8_lineUp_95 ?_
                refine z_icmp_eq (tgt := 104) F dX8_lineUp_96 (by decide +kernel) (by omega) (by omega) (fun c237 => by exfalso; omega) (fun c237 => ?_)
                refine z_iload F dX8_lineUp_99 (q := 1) rfl ?_
                refine z_goto (tgt := 112) F dX8_lineUp_101 (by decide +kernel) ?_
                have hbn : Bt y190 v8 := by rw [show y190 = x0 by omega]; exact (hlz (by omega)).2.2
                refine z_istore F dX8_lineUp_112 (by decide) (ls' := [(8, ii v8), (0, .ref (ad 58)), (4, ii v8), (5, ii y190), (6, ii y191), (7, ii y192)]) rfl ?_
                refine z_aload_n F dX8_lineUp_114 rfl (q := 1) rfl ?_
                refine z_dup F dX8_lineUp_115 rfl ?_
                refine gf_X8_79 F hI gs_58 rfl bd_58_8 dX8_lineUp_116 (fun v238 ev238 av238 bv238 => ?_)
                refine z_iload F dX8_lineUp_119 (q := 4) rfl ?_
                refine z_iconst F dX8_lineUp_121 ?_
                refine z_icmp_ne (tgt := 129) F dX8_lineUp_122 (by decide +kernel) (by omega) (by omega) (fun c239 => ?_) (fun c239 => ?_)
                · refine z_aload_n F dX8_lineUp_129 rfl (q := 1) rfl ?_
                  refine z_iload F dX8_lineUp_130 (q := 4) rfl ?_
                  refine z_iload F dX8_lineUp_132 (q := 0) rfl ?_
                  refine zv_i (rest := [ii v238, .ref (ad 58)]) F (k_X8_goatBetween_58 l M189 ⟨hI, hW⟩ y191 (by omega) (by omega) v8 (by omega) (by omega)) cs_X8_60 (T := TX8) (N := 9) (ci := 8) rfl gs_58 (by decide) (by decide) rfl rfl rfl (Nat.le_of_ble_eq_true rfl) dX8_lineUp_134 (fun v240 M241 rv240 hI p242 => ?_)
                  obtain ⟨hI, hW⟩ := hI
                  obtain ⟨⟨av240, bv240⟩, rfl⟩ := p242
                  refine z_iadd F dX8_lineUp_137 ?_
                  refine z_wrap (fun v243 rv243 wv243 => ?_)
                  refine pf_X8_79 F hI gs_58 rfl bd_58_8 rfl rfl dX8_lineUp_138 (by omega) (by omega) (fun M245 hI sf244 f244 => ?_)
                  have hF := hF.wr f244 (by decide) (by decide)
                  have hW : WFk M245 := hW.site f244 (by decide)
                  refine z_aload_n F dX8_lineUp_141 rfl (q := 1) rfl ?_
                  refine rf_X8_21 F gs_58 rfl dX8_lineUp_142 ?_
                  refine z_iload F dX8_lineUp_145 (q := 5) rfl ?_
                  refine z_iload F dX8_lineUp_147 (q := 0) rfl ?_
                  refine z_iast F hI gs_62 (by omega) (by omega) (by decide) bd_62 dX8_lineUp_149 (by omega) (by omega) (fun M247 hI sf246 f246 => ?_)
                  have hF := hF.wr f246 (by decide) (by decide)
                  have hW : WFk M247 := hW.site f246 (by decide)
                  refine z_iload F dX8_lineUp_150 (q := 3) rfl ?_
                  refine z_iconst F dX8_lineUp_152 ?_
                  refine z_iload F dX8_lineUp_153 (q := 0) rfl ?_
                  refine z_shl1 (k := 7) F dX8_lineUp_155 (by decide) (by omega) (by omega) (fun v248 ev248 av248 bv248 => ?_)
                  refine z_iconst F dX8_lineUp_156 ?_
                  refine z_ixor0 F dX8_lineUp_157 (fun v249 ev249 rv249 => ?_)
                  refine z_iand_l F dX8_lineUp_158 (by omega) (by omega) (fun v250 ev250 av250 bv250 => ?_)
                  have hdr := drop10 (s := y190) (q := v8) (by omega) (by omega) (by omega) (by omega) hbn ev250 (by assumption) (by assumption)
                  refine z_istore F dX8_lineUp_159 (by decide) (ls' := [(5, ii v250), (8, ii v8), (0, .ref (ad 58)), (4, ii v8), (6, ii y191), (7, ii y192)]) rfl ?_
                  refine z_iload F dX8_lineUp_161 (q := 1) rfl ?_
                  refine z_istore F dX8_lineUp_163 (by decide) (ls' := [(6, ii v8), (5, ii v250), (8, ii v8), (0, .ref (ad 58)), (4, ii v8), (7, ii y192)]) rfl ?_
                  refine z_iincN F dX8_lineUp_165 (q := 5) rfl (by decide) (fun v251 ev251 => ?_)
                  refine z_eq (ls' := [(7, ii v251), (6, ii v8), (5, ii v250), (8, ii v8), (0, .ref (ad 58)), (4, ii v8)]) rfl rfl rfl ?_
                  refine z_goto (tgt := 79) F dX8_lineUp_168 (by decide +kernel) ?_
                  refine z_loc [4, 5, 2, 1, 0] (ls' := [(0, .ref (ad 58)), (4, ii v8), (5, ii v250), (6, ii v8), (7, ii v251)]) rfl ?_
                  have q252 : u193 = M245 58 7 := eu193.trans (f244 58 7 (fun q => absurd q.2 (by decide))).symm
                  have q253 : u193 = M247 58 7 := q252.trans (f246 58 7 (fun q => absurd q.1 (by decide))).symm
                  exact ih79 v250 v8 v251 M247 hI hW hF (by omega) (by omega) (by omega) (by omega) (by omega) (by omega) (by omega) (by omega) (by omega) (by omega) (by omega)
                · refine z_iconst F dX8_lineUp_125 ?_
                  refine z_goto (tgt := 137) F dX8_lineUp_126 (by decide +kernel) ?_
                  refine z_iadd F dX8_lineUp_137 ?_
                  refine z_nm (fun v254 ev254 => ?_)
                  refine pf_X8_79 F hI gs_58 rfl bd_58_8 rfl rfl dX8_lineUp_138 (by omega) (by omega) (fun M256 hI sf255 f255 => ?_)
                  have hF := hF.wr f255 (by decide) (by decide)
                  have hW : WFk M256 := hW.site f255 (by decide)
                  refine z_aload_n F dX8_lineUp_141 rfl (q := 1) rfl ?_
                  refine rf_X8_21 F gs_58 rfl dX8_lineUp_142 ?_
                  refine z_iload F dX8_lineUp_145 (q := 5) rfl ?_
                  refine z_iload F dX8_lineUp_147 (q := 0) rfl ?_
                  refine z_iast F hI gs_62 (by omega) (by omega) (by decide) bd_62 dX8_lineUp_149 (by omega) (by omega) (fun M258 hI sf257 f257 => ?_)
                  have hF := hF.wr f257 (by decide) (by decide)
                  have hW : WFk M258 := hW.site f257 (by decide)
                  refine z_iload F dX8_lineUp_150 (q := 3) rfl ?_
                  refine z_iconst F dX8_lineUp_152 ?_
                  refine z_iload F dX8_lineUp_153 (q := 0) rfl ?_
                  refine z_shl1 (k := 7) F dX8_lineUp_155 (by decide) (by omega) (by omega) (fun v259 ev259 av259 bv259 => ?_)
                  refine z_iconst F dX8_lineUp_156 ?_
                  refine z_ixor0 F dX8_lineUp_157 (fun v260 ev260 rv260 => ?_)
                  refine z_iand_l F dX8_lineUp_158 (by omega) (by omega) (fun v261 ev261 av261 bv261 => ?_)
                  have hdr := drop10 (s := y190) (q := v8) (by omega) (by omega) (by omega) (by omega) hbn ev261 (by assumption) (by assumption)
                  refine z_istore F dX8_lineUp_159 (by decide) (ls' := [(5, ii v261), (8, ii v8), (0, .ref (ad 58)), (4, ii v8), (6, ii y191), (7, ii y192)]) rfl ?_
                  refine z_iload F dX8_lineUp_161 (q := 1) rfl ?_
                  refine z_istore F dX8_lineUp_163 (by decide) (ls' := [(6, ii v8), (5, ii v261), (8, ii v8), (0, .ref (ad 58)), (4, ii v8), (7, ii y192)]) rfl ?_
                  refine z_iincN F dX8_lineUp_165 (q := 5) rfl (by decide) (fun v262 ev262 => ?_)
                  refine z_eq (ls' := [(7, ii v262), (6, ii v8), (5, ii v261), (8, ii v8), (0, .ref (ad 58)), (4, ii v8)]) rfl rfl rfl ?_
                  refine z_goto (tgt := 79) F dX8_lineUp_168 (by decide +kernel) ?_
                  refine z_loc [4, 5, 2, 1, 0] (ls' := [(0, .ref (ad 58)), (4, ii v8), (5, ii v261), (6, ii v8), (7, ii v262)]) rfl ?_
                  have q263 : u193 = M256 58 7 := eu193.trans (f255 58 7 (fun q => absurd q.2 (by decide))).symm
                  have q264 : u193 = M258 58 7 := q263.trans (f257 58 7 (fun q => absurd q.1 (by decide))).symm
                  exact ih79 v261 v8 v262 M258 hI hW hF (by omega) (by omega) (by omega) (by omega) (by omega) (by omega) (by omega) (by omega) (by omega) (by omega) (by omega)
        · refine z_iload F dX8_lineUp_46 (q := 3) rfl ?_
          refine z_iload_n F dX8_lineUp_48 rfl (q := 1) rfl ?_
          refine z_iconst F dX8_lineUp_49 ?_
          refine z_ixor0 F dX8_lineUp_50 (fun v265 ev265 rv265 => ?_)
          refine z_iand_l F dX8_lineUp_51 (by omega) (by omega) (fun v266 ev266 av266 bv266 => ?_)
          refine z_if_ne (tgt := 64) F dX8_lineUp_52 (by decide +kernel) (by omega) (fun c267 => ?_) (fun c267 => ?_)
          · refine z_iincN F dX8_lineUp_64 (q := 3) rfl (by decide) (fun v268 ev268 => ?_)
            refine z_eq (ls' := [(5, ii v268), (0, .ref (ad 58)), (1, ii x0), (4, ii v8)]) rfl rfl rfl ?_
            refine z_goto (tgt := 40) F dX8_lineUp_67 (by decide +kernel) ?_
            refine z_loc [1, 2, 3, 0] (ls' := [(0, .ref (ad 58)), (1, ii x0), (4, ii v8), (5, ii v268)]) rfl ?_
            exact ih40 v268 M185 hI hW hF (by omega) (by omega) (by omega) (by omega)
          · refine z_aload_n F dX8_lineUp_55 rfl (q := 0) rfl ?_
            refine z_iload_n F dX8_lineUp_56 rfl (q := 1) rfl ?_
            refine z_iload F dX8_lineUp_57 (q := 3) rfl ?_
            refine z_iload F dX8_lineUp_59 (q := 2) rfl ?_
            refine zv_v (rest := []) F (k_X8_weigh_58 l M185 ⟨hI, hW⟩ x0 (by omega) (by omega) y186 (by omega) (by omega) v8 (by omega) (by omega)) cs_X8_85 (T := TX8) (N := 9) (ci := 8) rfl gs_58 (by decide) (by decide) rfl rfl rfl (Nat.le_of_ble_eq_true rfl) dX8_lineUp_61 (fun M269 hI p270 => ?_)
            obtain ⟨hI, hW⟩ := hI
            have fp270 := p270
            have hF := hF.call fp270 (by decide)
            refine z_iincN F dX8_lineUp_64 (q := 3) rfl (by decide) (fun v271 ev271 => ?_)
            refine z_eq (ls' := [(5, ii v271), (0, .ref (ad 58)), (1, ii x0), (4, ii v8)]) rfl rfl rfl ?_
            refine z_goto (tgt := 40) F dX8_lineUp_67 (by decide +kernel) ?_
            refine z_loc [1, 2, 3, 0] (ls' := [(0, .ref (ad 58)), (1, ii x0), (4, ii v8), (5, ii v271)]) rfl ?_
            have q272 : u187 = M269 58 7 := eu187.trans ((fp270.at (by decide)) : M269 58 7 = _).symm
            exact ih40 v271 M269 hI hW hF (by omega) (by omega) (by omega) (by omega)
set_option maxRecDepth 4000 in
theorem k_X11_bestRow (l : Launch) (hlT : l.stackTraces = false) (M : Mem) (hJ : Iw M) (x0 : Int) (hx0a : (-2147483648) ≤ x0) (hx0b : x0 ≤ 2147483647) (x1 : Int) (hx1a : 0 ≤ x1) (hx1b : x1 ≤ 1) (x2 : Int) (hx2a : (-2147483648) ≤ x2) (hx2b : x2 ≤ 2147483647) : CIX l yX11_bestRow cX11_bestRow 4 (some .int) 8 1 (fun ad => [.ref (ad 0), ii x0, ii x1, ii x2]) M (fun z M' => ((-2147483648) ≤ z ∧ z ≤ 2147483647) ∧ Fr [58, 61, 62] M M') (fun E M' => (E = "java/lang/IllegalArgumentException" ∧ True ∧ Fr [58, 61, 62] M M')) := by
  obtain ⟨hI, hW⟩ := hJ
  have hF : Fr [58, 61, 62] M M := Fr.rf
  refine enx_i (by decide +kernel) (fun ad => by exact Nat.le_of_ble_eq_true rfl) (fun D cy ad A p e s m args below meth c Q F hQ hr hlk hex => ?_)
  refine z_eq (ls' := [(0, .ref (ad 0)), (1, ii x0), (2, ii x1), (3, ii x2)]) rfl rfl rfl ?_
  refine z_iload_n F dX11_bestRow_0 rfl (q := 1) rfl ?_
  refine z_if_lt (tgt := 17) F dX11_bestRow_1 (by decide +kernel) (by omega) (fun c1 => ?_) (fun c1 => ?_)
  · exact z_thrSW (cls := "java/lang/IllegalArgumentException") (names := ["java/lang/RuntimeException", "java/lang/Exception"]) (j := 47) F hlT hQ hlk hex (by decide +kernel) (by decide +kernel) (by decide) (gin lm_360 rfl) (gin lm_361 rfl) at_X11_105 bad_X11_105 (by decide +kernel) ot_X11_105 rfl rfl rfl dX11_bestRow_17 dX11_bestRow_20 dX11_bestRow_21 dX11_bestRow_24 dX11_bestRow_27 ⟨by decide, by decide⟩ (Nat.le_of_ble_eq_true rfl) ⟨hI, hW⟩ (⟨rfl, trivial, hF⟩)
  · refine z_iload_n F dX11_bestRow_4 rfl (q := 1) rfl ?_
    refine z_iconst F dX11_bestRow_5 ?_
    refine z_aload_n F dX11_bestRow_6 rfl (q := 0) rfl ?_
    refine rf_X11_16 F gs_0 rfl dX11_bestRow_7 ?_
    refine gf_X11_286 F hI gs_2 rfl bd_2_3 dX11_bestRow_10 (fun v2 ev2 av2 bv2 => ?_)
    refine z_shl1 (k := 8) F dX11_bestRow_13 (by decide) (by omega) (by omega) (fun v3 ev3 av3 bv3 => ?_)
    refine z_icmp_lt (tgt := 28) F dX11_bestRow_14 (by decide +kernel) (by omega) (by omega) (fun c4 => ?_) (fun c4 => ?_)
    · refine z_iload_n F dX11_bestRow_28 rfl (q := 3) rfl ?_
      refine z_bipush F dX11_bestRow_29 (by decide +kernel) ?_
      refine zz_v (rest := []) F (k_X11_needWhatOrPart l hlT M ⟨hI, hW⟩ x2 (by omega) (by omega) 8 (by omega) (by omega)) cs_X11_330 (by decide) (by decide) ⟨by decide, by decide⟩ rfl rfl rfl (Nat.le_of_ble_eq_true rfl) dX11_bestRow_31 (fun E M9 hJ9 hx => by obtain ⟨h9, g9, rfl⟩ := hx <;> first | (exact zx_out hQ hlk hex ⟨by decide, by decide⟩ hJ9 (⟨h9, trivial, hF⟩))) (fun M5 hI p6 => ?_)
      obtain ⟨hI, hW⟩ := hI
      obtain ⟨rfl, xp6⟩ := p6
      refine z_aload_n F dX11_bestRow_34 rfl (q := 0) rfl ?_
      refine rf_X11_87 F gs_0 rfl dX11_bestRow_35 ?_
      refine z_iload_n F dX11_bestRow_38 rfl (q := 1) rfl ?_
      refine z_iload_n F dX11_bestRow_39 rfl (q := 2) rfl ?_
      refine zw_v (rest := []) F (k_X8_lineUp_58 l M ⟨hI, hW⟩ x0 (by omega) (by omega) x1 (by omega) (by omega)) cs_X11_392 (T := TX8) (N := 9) (ci := 8) rfl gs_58 (by decide) (by decide) ⟨by decide, by decide⟩ rfl rfl rfl (Nat.le_of_ble_eq_true rfl) dX11_bestRow_40 (fun M7 hI p8 => ?_)
      obtain ⟨hI, hW⟩ := hI
      have fp8 := p8
      have hF := hF.call fp8 (by decide)
      refine z_iload_n F dX11_bestRow_43 rfl (q := 3) rfl ?_
      refine z_if_ne (tgt := 55) F dX11_bestRow_44 (by decide +kernel) (by omega) (fun c9 => ?_) (fun c9 => ?_)
      · refine z_iload_n F dX11_bestRow_55 rfl (q := 3) rfl ?_
        refine z_bipush F dX11_bestRow_56 (by decide +kernel) ?_
        refine z_isub F dX11_bestRow_58 ?_
        refine z_wrap (fun v10 rv10 wv10 => ?_)
        refine z_aload_n F dX11_bestRow_59 rfl (q := 0) rfl ?_
        refine rf_X11_87 F gs_0 rfl dX11_bestRow_60 ?_
        refine gf_X11_399 F hI gs_58 rfl bd_58_7 dX11_bestRow_63 (fun v11 ev11 av11 bv11 => ?_)
        refine z_icmp_ge (tgt := 84) F dX11_bestRow_66 (by decide +kernel) (by omega) (by omega) (fun c12 => ?_) (fun c12 => ?_)
        · refine z_iconst F dX11_bestRow_84 ?_
          exact zxr_i F hQ hr hlk dX11_bestRow_85 ⟨by decide, by decide⟩ (by omega) ⟨hI, hW⟩ ⟨⟨by omega, by omega⟩, hF⟩
        · refine z_aload_n F dX11_bestRow_69 rfl (q := 0) rfl ?_
          refine rf_X11_87 F gs_0 rfl dX11_bestRow_70 ?_
          refine rf_X11_402 F gs_58 rfl dX11_bestRow_73 ?_
          refine z_iload_n F dX11_bestRow_76 rfl (q := 3) rfl ?_
          refine z_bipush F dX11_bestRow_77 (by decide +kernel) ?_
          refine z_isub F dX11_bestRow_79 ?_
          refine z_wrap (fun v13 rv13 wv13 => ?_)
          have k14 : 0 ≤ v13 ∧ v13 ≤ 7 := by omega
          refine z_iald F hI gs_62 (by omega) (by omega) (by decide) bd_62 dX11_bestRow_80 (fun v15 (ev15 : v15 = M7 62 _) av15 bv15 => ?_)
          refine z_goto (tgt := 85) F dX11_bestRow_81 (by decide +kernel) ?_
          exact zxr_i F hQ hr hlk dX11_bestRow_85 ⟨by decide, by decide⟩ (by omega) ⟨hI, hW⟩ ⟨⟨by omega, by omega⟩, hF⟩
      · refine z_aload_n F dX11_bestRow_47 rfl (q := 0) rfl ?_
        refine rf_X11_87 F gs_0 rfl dX11_bestRow_48 ?_
        refine gf_X11_396 F hI gs_58 rfl bd_58_8 dX11_bestRow_51 (fun v16 ev16 av16 bv16 => ?_)
        exact zxr_i F hQ hr hlk dX11_bestRow_54 ⟨by decide, by decide⟩ (by omega) ⟨hI, hW⟩ ⟨⟨by omega, by omega⟩, hF⟩
    · exact z_thrSW (cls := "java/lang/IllegalArgumentException") (names := ["java/lang/RuntimeException", "java/lang/Exception"]) (j := 47) F hlT hQ hlk hex (by decide +kernel) (by decide +kernel) (by decide) (gin lm_360 rfl) (gin lm_361 rfl) at_X11_105 bad_X11_105 (by decide +kernel) ot_X11_105 rfl rfl rfl dX11_bestRow_17 dX11_bestRow_20 dX11_bestRow_21 dX11_bestRow_24 dX11_bestRow_27 ⟨by decide, by decide⟩ (Nat.le_of_ble_eq_true rfl) ⟨hI, hW⟩ (⟨rfl, trivial, hF⟩)
set_option maxRecDepth 4000 in
theorem k_X8_isQuietBeside_58 (l : Launch) (M : Mem) (hJ : Iw M) (x0 : Int) (hx0a : 0 ≤ x0) (hx0b : x0 ≤ 7) (x1 : Int) (hx1a : 0 ≤ x1) (hx1b : x1 ≤ 9) : CI l yX8_isQuietBeside cX8_isQuietBeside 3 (some .boolean) 3 (fun ad => [.ref (ad 58), ii x0, ii x1]) M (fun z M' => (0 ≤ z ∧ z ≤ 1) ∧ M = M') := by
  obtain ⟨hI, hW⟩ := hJ
  refine en_z (by decide +kernel) (fun ad => by exact Nat.le_of_ble_eq_true rfl) (fun D cy ad A p e s m args below meth c Q F hret => ?_)
  refine z_eq (ls' := [(0, .ref (ad 58)), (1, ii x0), (2, ii x1)]) rfl rfl rfl ?_
  refine z_aload_n F dX8_isQuietBeside_0 rfl (q := 0) rfl ?_
  refine rf_X8_15 F gs_58 rfl dX8_isQuietBeside_1 ?_
  refine z_iload_n F dX8_isQuietBeside_4 rfl (q := 2) rfl ?_
  refine z_iald F hI gs_60 (by omega) (by omega) (by decide) bd_60 dX8_isQuietBeside_5 (fun v1 (ev1 : v1 = M 60 _) av1 bv1 => ?_)
  refine z_iconst F dX8_isQuietBeside_6 ?_
  refine z_icmp_eq (tgt := 28) F dX8_isQuietBeside_7 (by decide +kernel) (by omega) (by omega) (fun c2 => ?_) (fun c2 => ?_)
  · refine z_iconst F dX8_isQuietBeside_28 ?_
    refine z_goto (tgt := 33) F dX8_isQuietBeside_29 (by decide +kernel) ?_
    exact hret _ _ 33 _ ⟨by omega, by omega⟩ ⟨hI, hW⟩ ⟨⟨by omega, by omega⟩, rfl⟩ dX8_isQuietBeside_33
  · refine z_aload_n F dX8_isQuietBeside_10 rfl (q := 0) rfl ?_
    refine rf_X8_28 F gs_58 rfl dX8_isQuietBeside_11 ?_
    refine z_iload_n F dX8_isQuietBeside_14 rfl (q := 1) rfl ?_
    refine z_aload_n F dX8_isQuietBeside_15 rfl (q := 0) rfl ?_
    refine rf_X8_15 F gs_58 rfl dX8_isQuietBeside_16 ?_
    refine z_iload_n F dX8_isQuietBeside_19 rfl (q := 2) rfl ?_
    refine z_iald F hI gs_60 (by omega) (by omega) (by decide) bd_60 dX8_isQuietBeside_20 (fun v3 (ev3 : v3 = M 60 _) av3 bv3 => ?_)
    have zv3 : v1 = v3 := ev1.trans ev3.symm
    subst zv3
    refine z_iconst F dX8_isQuietBeside_21 ?_
    refine zv_i (rest := []) F (k_X7_wouldClash_35 l M ⟨hI, hW⟩ x0 (by omega) (by omega) v1 (by omega) (by omega) 0 (by omega) (by omega)) cs_X8_54 (T := TX7) (N := 7) (ci := 7) rfl gs_35 (by decide) (by decide) rfl rfl rfl (Nat.le_of_ble_eq_true rfl) dX8_isQuietBeside_22 (fun v4 M5 rv4 hI p6 => ?_)
    obtain ⟨hI, hW⟩ := hI
    obtain ⟨⟨av4, bv4⟩, rfl⟩ := p6
    refine z_if_ne (tgt := 32) F dX8_isQuietBeside_25 (by decide +kernel) (by omega) (fun c7 => ?_) (fun c7 => ?_)
    · refine z_iconst F dX8_isQuietBeside_32 ?_
      exact hret _ _ 33 _ ⟨by omega, by omega⟩ ⟨hI, hW⟩ ⟨⟨by omega, by omega⟩, rfl⟩ dX8_isQuietBeside_33
    · refine z_iconst F dX8_isQuietBeside_28 ?_
      refine z_goto (tgt := 33) F dX8_isQuietBeside_29 (by decide +kernel) ?_
      exact hret _ _ 33 _ ⟨by omega, by omega⟩ ⟨hI, hW⟩ ⟨⟨by omega, by omega⟩, rfl⟩ dX8_isQuietBeside_33
set_option maxRecDepth 4000 in
theorem k_X8_firstQuietSeat_58 (l : Launch) (M : Mem) (hJ : Iw M) (x0 : Int) (hx0a : 0 ≤ x0) (hx0b : x0 ≤ 7) (x1 : Int) (hx1a : 1 ≤ x1) (hx1b : x1 ≤ 10) : CI l yX8_firstQuietSeat cX8_firstQuietSeat 6 (some .int) 4 (fun ad => [.ref (ad 58), ii x0, ii x1]) M (fun z M' => ((-1) ≤ z ∧ z ≤ 9) ∧ M = M') := by
  obtain ⟨hI, hW⟩ := hJ
  refine en_i (by decide +kernel) (fun ad => by exact Nat.le_of_ble_eq_true rfl) (fun D cy ad A p e s m args below meth c Q F hret => ?_)
  refine z_eq (ls' := [(0, .ref (ad 58)), (1, ii x0), (2, ii x1)]) rfl rfl rfl ?_
  refine z_iconst F dX8_firstQuietSeat_0 ?_
  refine z_istore_n F dX8_firstQuietSeat_1 rfl (by decide) (ls' := [(3, ii 0), (0, .ref (ad 58)), (1, ii x0), (2, ii x1)]) rfl ?_
  refine z_loc [1, 2, 3, 0] (ls' := [(0, .ref (ad 58)), (1, ii x0), (2, ii x1), (3, ii 0)]) rfl ?_
  suffices key2 : ∀ (n : Nat) (y2 : Int), 0 ≤ y2 → y2 ≤ 10 → 10 - y2 < (n : Int) → Z D cy ad p l e (RMh 4) s m args below meth c A 6 0 0 Q 2 [(0, .ref (ad 58)), (1, ii x0), (2, ii x1), (3, ii y2)] [] M from key2 11 0 (by omega) (by omega) (by omega)
  intro n2
  induction n2 with
  | zero => intro y2 ay2 by2 hn2; exfalso; omega
  | succ n2 ih2 =>
    intro y2 ay2 by2 hn2
    refine z_iload_n F dX8_firstQuietSeat_2 rfl (q := 3) rfl ?_
    refine z_iload_n F dX8_firstQuietSeat_3 rfl (q := 2) rfl ?_
    refine z_icmp_ge (tgt := 76) F dX8_firstQuietSeat_4 (by decide +kernel) (by omega) (by omega) (fun c3 => ?_) (fun c3 => ?_)
    · refine z_iconst F dX8_firstQuietSeat_76 ?_
      exact hret _ _ 77 _ (by omega) ⟨hI, hW⟩ ⟨⟨by omega, by omega⟩, rfl⟩ dX8_firstQuietSeat_77
    · refine z_iload_n F dX8_firstQuietSeat_7 rfl (q := 3) rfl ?_
      refine z_if_ne (tgt := 17) F dX8_firstQuietSeat_8 (by decide +kernel) (by omega) (fun c4 => ?_) (fun c4 => ?_)
      · refine z_iload_n F dX8_firstQuietSeat_17 rfl (q := 3) rfl ?_
        refine z_iconst F dX8_firstQuietSeat_18 ?_
        refine z_isub F dX8_firstQuietSeat_19 ?_
        refine z_nm (fun v5 ev5 => ?_)
        refine z_istore F dX8_firstQuietSeat_20 (by decide) (ls' := [(4, ii v5), (0, .ref (ad 58)), (1, ii x0), (2, ii x1), (3, ii y2)]) rfl ?_
        refine z_iload_n F dX8_firstQuietSeat_22 rfl (q := 4) rfl ?_
        refine z_iload_n F dX8_firstQuietSeat_23 rfl (q := 3) rfl ?_
        refine z_iconst F dX8_firstQuietSeat_24 ?_
        refine z_isub F dX8_firstQuietSeat_25 ?_
        refine z_icmp_ne (tgt := 33) F dX8_firstQuietSeat_26 (by decide +kernel) (by omega) (by omega) (fun c6 => ?_) (fun c6 => ?_)
        · refine z_iload_n F dX8_firstQuietSeat_33 rfl (q := 4) rfl ?_
          refine z_iconst F dX8_firstQuietSeat_34 ?_
          refine z_iadd F dX8_firstQuietSeat_35 ?_
          refine z_nm (fun v7 ev7 => ?_)
          refine z_istore F dX8_firstQuietSeat_36 (by decide) (ls' := [(5, ii v7), (4, ii v5), (0, .ref (ad 58)), (1, ii x0), (2, ii x1), (3, ii y2)]) rfl ?_
          refine z_aload_n F dX8_firstQuietSeat_38 rfl (q := 2) rfl ?_
          refine rf_X8_15 F gs_58 rfl dX8_firstQuietSeat_39 ?_
          refine z_iload_n F dX8_firstQuietSeat_42 rfl (q := 5) rfl ?_
          refine z_iald F hI gs_60 (by omega) (by omega) (by decide) bd_60 dX8_firstQuietSeat_43 (fun v8 (ev8 : v8 = M 60 _) av8 bv8 => ?_)
          refine z_iconst F dX8_firstQuietSeat_44 ?_
          refine z_icmp_ne (tgt := 70) F dX8_firstQuietSeat_45 (by decide +kernel) (by omega) (by omega) (fun c9 => ?_) (fun c9 => ?_)
          · refine z_iincN F dX8_firstQuietSeat_70 (q := 5) rfl (by decide) (fun v10 ev10 => ?_)
            refine z_eq (ls' := [(3, ii v10), (5, ii v7), (4, ii v5), (0, .ref (ad 58)), (1, ii x0), (2, ii x1)]) rfl rfl rfl ?_
            refine z_goto (tgt := 2) F dX8_firstQuietSeat_73 (by decide +kernel) ?_
            refine z_loc [3, 4, 5, 0] (ls' := [(0, .ref (ad 58)), (1, ii x0), (2, ii x1), (3, ii v10)]) rfl ?_
            exact ih2 v10 (by omega) (by omega) (by omega)
          · refine z_aload_n F dX8_firstQuietSeat_48 rfl (q := 2) rfl ?_
            refine z_iload_n F dX8_firstQuietSeat_49 rfl (q := 3) rfl ?_
            refine z_iload F dX8_firstQuietSeat_50 (q := 1) rfl ?_
            have k11 : 0 ≤ v5 ∧ v5 ≤ 9 := by omega
            refine zv_i (rest := []) F (k_X8_isQuietBeside_58 l M ⟨hI, hW⟩ x0 (by omega) (by omega) v5 (by omega) (by omega)) cs_X8_67 (T := TX8) (N := 9) (ci := 8) rfl gs_58 (by decide) (by decide) rfl rfl rfl (Nat.le_of_ble_eq_true rfl) dX8_firstQuietSeat_52 (fun v12 M13 rv12 hI p14 => ?_)
            obtain ⟨hI, hW⟩ := hI
            obtain ⟨⟨av12, bv12⟩, rfl⟩ := p14
            refine z_if_eq (tgt := 70) F dX8_firstQuietSeat_55 (by decide +kernel) (by omega) (fun c15 => ?_) (fun c15 => ?_)
            · refine z_iincN F dX8_firstQuietSeat_70 (q := 5) rfl (by decide) (fun v16 ev16 => ?_)
              refine z_eq (ls' := [(3, ii v16), (5, ii v7), (4, ii v5), (0, .ref (ad 58)), (1, ii x0), (2, ii x1)]) rfl rfl rfl ?_
              refine z_goto (tgt := 2) F dX8_firstQuietSeat_73 (by decide +kernel) ?_
              refine z_loc [3, 4, 5, 0] (ls' := [(0, .ref (ad 58)), (1, ii x0), (2, ii x1), (3, ii v16)]) rfl ?_
              exact ih2 v16 (by omega) (by omega) (by omega)
            · refine z_aload_n F dX8_firstQuietSeat_58 rfl (q := 2) rfl ?_
              refine z_iload_n F dX8_firstQuietSeat_59 rfl (q := 3) rfl ?_
              refine z_iload F dX8_firstQuietSeat_60 (q := 0) rfl ?_
              have k17 : 0 ≤ v7 ∧ v7 ≤ 9 := by omega
              refine zv_i (rest := []) F (k_X8_isQuietBeside_58 l M ⟨hI, hW⟩ x0 (by omega) (by omega) v7 (by omega) (by omega)) cs_X8_67 (T := TX8) (N := 9) (ci := 8) rfl gs_58 (by decide) (by decide) rfl rfl rfl (Nat.le_of_ble_eq_true rfl) dX8_firstQuietSeat_62 (fun v18 M19 rv18 hI p20 => ?_)
              obtain ⟨hI, hW⟩ := hI
              obtain ⟨⟨av18, bv18⟩, rfl⟩ := p20
              refine z_if_eq (tgt := 70) F dX8_firstQuietSeat_65 (by decide +kernel) (by omega) (fun c21 => ?_) (fun c21 => ?_)
              · refine z_iincN F dX8_firstQuietSeat_70 (q := 5) rfl (by decide) (fun v22 ev22 => ?_)
                refine z_eq (ls' := [(3, ii v22), (5, ii v7), (4, ii v5), (0, .ref (ad 58)), (1, ii x0), (2, ii x1)]) rfl rfl rfl ?_
                refine z_goto (tgt := 2) F dX8_firstQuietSeat_73 (by decide +kernel) ?_
                refine z_loc [3, 4, 5, 0] (ls' := [(0, .ref (ad 58)), (1, ii x0), (2, ii x1), (3, ii v22)]) rfl ?_
                exact ih2 v22 (by omega) (by omega) (by omega)
              · refine z_iload_n F dX8_firstQuietSeat_68 rfl (q := 5) rfl ?_
                exact hret _ _ 69 _ (by omega) ⟨hI, hW⟩ ⟨⟨by omega, by omega⟩, rfl⟩ dX8_firstQuietSeat_69
        · refine z_iconst F dX8_firstQuietSeat_29 ?_
          refine z_goto (tgt := 36) F dX8_firstQuietSeat_30 (by decide +kernel) ?_
          refine z_istore F dX8_firstQuietSeat_36 (by decide) (ls' := [(5, ii 0), (4, ii v5), (0, .ref (ad 58)), (1, ii x0), (2, ii x1), (3, ii y2)]) rfl ?_
          refine z_aload_n F dX8_firstQuietSeat_38 rfl (q := 2) rfl ?_
          refine rf_X8_15 F gs_58 rfl dX8_firstQuietSeat_39 ?_
          refine z_iload_n F dX8_firstQuietSeat_42 rfl (q := 5) rfl ?_
          refine z_iald F hI gs_60 (by omega) (by omega) (by decide) bd_60 dX8_firstQuietSeat_43 (fun v23 (ev23 : v23 = M 60 _) av23 bv23 => ?_)
          refine z_iconst F dX8_firstQuietSeat_44 ?_
          refine z_icmp_ne (tgt := 70) F dX8_firstQuietSeat_45 (by decide +kernel) (by omega) (by omega) (fun c24 => ?_) (fun c24 => ?_)
          · refine z_iincN F dX8_firstQuietSeat_70 (q := 5) rfl (by decide) (fun v25 ev25 => ?_)
            refine z_eq (ls' := [(3, ii v25), (5, ii 0), (4, ii v5), (0, .ref (ad 58)), (1, ii x0), (2, ii x1)]) rfl rfl rfl ?_
            refine z_goto (tgt := 2) F dX8_firstQuietSeat_73 (by decide +kernel) ?_
            refine z_loc [3, 4, 5, 0] (ls' := [(0, .ref (ad 58)), (1, ii x0), (2, ii x1), (3, ii v25)]) rfl ?_
            exact ih2 v25 (by omega) (by omega) (by omega)
          · refine z_aload_n F dX8_firstQuietSeat_48 rfl (q := 2) rfl ?_
            refine z_iload_n F dX8_firstQuietSeat_49 rfl (q := 3) rfl ?_
            refine z_iload F dX8_firstQuietSeat_50 (q := 1) rfl ?_
            have k26 : 0 ≤ v5 ∧ v5 ≤ 9 := by omega
            refine zv_i (rest := []) F (k_X8_isQuietBeside_58 l M ⟨hI, hW⟩ x0 (by omega) (by omega) v5 (by omega) (by omega)) cs_X8_67 (T := TX8) (N := 9) (ci := 8) rfl gs_58 (by decide) (by decide) rfl rfl rfl (Nat.le_of_ble_eq_true rfl) dX8_firstQuietSeat_52 (fun v27 M28 rv27 hI p29 => ?_)
            obtain ⟨hI, hW⟩ := hI
            obtain ⟨⟨av27, bv27⟩, rfl⟩ := p29
            refine z_if_eq (tgt := 70) F dX8_firstQuietSeat_55 (by decide +kernel) (by omega) (fun c30 => ?_) (fun c30 => ?_)
            · refine z_iincN F dX8_firstQuietSeat_70 (q := 5) rfl (by decide) (fun v31 ev31 => ?_)
              refine z_eq (ls' := [(3, ii v31), (5, ii 0), (4, ii v5), (0, .ref (ad 58)), (1, ii x0), (2, ii x1)]) rfl rfl rfl ?_
              refine z_goto (tgt := 2) F dX8_firstQuietSeat_73 (by decide +kernel) ?_
              refine z_loc [3, 4, 5, 0] (ls' := [(0, .ref (ad 58)), (1, ii x0), (2, ii x1), (3, ii v31)]) rfl ?_
              exact ih2 v31 (by omega) (by omega) (by omega)
            · refine z_aload_n F dX8_firstQuietSeat_58 rfl (q := 2) rfl ?_
              refine z_iload_n F dX8_firstQuietSeat_59 rfl (q := 3) rfl ?_
              refine z_iload F dX8_firstQuietSeat_60 (q := 0) rfl ?_
              have k32 : 0 ≤ 0 ∧ 0 ≤ 9 := by omega
              refine zv_i (rest := []) F (k_X8_isQuietBeside_58 l M ⟨hI, hW⟩ x0 (by omega) (by omega) 0 (by omega) (by omega)) cs_X8_67 (T := TX8) (N := 9) (ci := 8) rfl gs_58 (by decide) (by decide) rfl rfl rfl (Nat.le_of_ble_eq_true rfl) dX8_firstQuietSeat_62 (fun v33 M34 rv33 hI p35 => ?_)
              obtain ⟨hI, hW⟩ := hI
              obtain ⟨⟨av33, bv33⟩, rfl⟩ := p35
              refine z_if_eq (tgt := 70) F dX8_firstQuietSeat_65 (by decide +kernel) (by omega) (fun c36 => ?_) (fun c36 => ?_)
              · refine z_iincN F dX8_firstQuietSeat_70 (q := 5) rfl (by decide) (fun v37 ev37 => ?_)
                refine z_eq (ls' := [(3, ii v37), (5, ii 0), (4, ii v5), (0, .ref (ad 58)), (1, ii x0), (2, ii x1)]) rfl rfl rfl ?_
                refine z_goto (tgt := 2) F dX8_firstQuietSeat_73 (by decide +kernel) ?_
                refine z_loc [3, 4, 5, 0] (ls' := [(0, .ref (ad 58)), (1, ii x0), (2, ii x1), (3, ii v37)]) rfl ?_
                exact ih2 v37 (by omega) (by omega) (by omega)
              · refine z_iload_n F dX8_firstQuietSeat_68 rfl (q := 5) rfl ?_
                exact hret _ _ 69 _ (by omega) ⟨hI, hW⟩ ⟨⟨by omega, by omega⟩, rfl⟩ dX8_firstQuietSeat_69
      · refine z_iload_n F dX8_firstQuietSeat_11 rfl (q := 2) rfl ?_
        refine z_iconst F dX8_firstQuietSeat_12 ?_
        refine z_isub F dX8_firstQuietSeat_13 ?_
        refine z_goto (tgt := 20) F dX8_firstQuietSeat_14 (by decide +kernel) ?_
        refine z_nm (fun v38 ev38 => ?_)
        refine z_istore F dX8_firstQuietSeat_20 (by decide) (ls' := [(4, ii v38), (0, .ref (ad 58)), (1, ii x0), (2, ii x1), (3, ii y2)]) rfl ?_
        refine z_iload_n F dX8_firstQuietSeat_22 rfl (q := 4) rfl ?_
        refine z_iload_n F dX8_firstQuietSeat_23 rfl (q := 3) rfl ?_
        refine z_iconst F dX8_firstQuietSeat_24 ?_
        refine z_isub F dX8_firstQuietSeat_25 ?_
        refine z_icmp_ne (tgt := 33) F dX8_firstQuietSeat_26 (by decide +kernel) (by omega) (by omega) (fun c39 => ?_) (fun c39 => ?_)
        · refine z_iload_n F dX8_firstQuietSeat_33 rfl (q := 4) rfl ?_
          refine z_iconst F dX8_firstQuietSeat_34 ?_
          refine z_iadd F dX8_firstQuietSeat_35 ?_
          refine z_nm (fun v40 ev40 => ?_)
          refine z_istore F dX8_firstQuietSeat_36 (by decide) (ls' := [(5, ii v40), (4, ii v38), (0, .ref (ad 58)), (1, ii x0), (2, ii x1), (3, ii y2)]) rfl ?_
          refine z_aload_n F dX8_firstQuietSeat_38 rfl (q := 2) rfl ?_
          refine rf_X8_15 F gs_58 rfl dX8_firstQuietSeat_39 ?_
          refine z_iload_n F dX8_firstQuietSeat_42 rfl (q := 5) rfl ?_
          refine z_iald F hI gs_60 (by omega) (by omega) (by decide) bd_60 dX8_firstQuietSeat_43 (fun v41 (ev41 : v41 = M 60 _) av41 bv41 => ?_)
          refine z_iconst F dX8_firstQuietSeat_44 ?_
          refine z_icmp_ne (tgt := 70) F dX8_firstQuietSeat_45 (by decide +kernel) (by omega) (by omega) (fun c42 => ?_) (fun c42 => ?_)
          · refine z_iincN F dX8_firstQuietSeat_70 (q := 5) rfl (by decide) (fun v43 ev43 => ?_)
            refine z_eq (ls' := [(3, ii v43), (5, ii v40), (4, ii v38), (0, .ref (ad 58)), (1, ii x0), (2, ii x1)]) rfl rfl rfl ?_
            refine z_goto (tgt := 2) F dX8_firstQuietSeat_73 (by decide +kernel) ?_
            refine z_loc [3, 4, 5, 0] (ls' := [(0, .ref (ad 58)), (1, ii x0), (2, ii x1), (3, ii v43)]) rfl ?_
            exact ih2 v43 (by omega) (by omega) (by omega)
          · refine z_aload_n F dX8_firstQuietSeat_48 rfl (q := 2) rfl ?_
            refine z_iload_n F dX8_firstQuietSeat_49 rfl (q := 3) rfl ?_
            refine z_iload F dX8_firstQuietSeat_50 (q := 1) rfl ?_
            have k44 : 0 ≤ v38 ∧ v38 ≤ 9 := by omega
            refine zv_i (rest := []) F (k_X8_isQuietBeside_58 l M ⟨hI, hW⟩ x0 (by omega) (by omega) v38 (by omega) (by omega)) cs_X8_67 (T := TX8) (N := 9) (ci := 8) rfl gs_58 (by decide) (by decide) rfl rfl rfl (Nat.le_of_ble_eq_true rfl) dX8_firstQuietSeat_52 (fun v45 M46 rv45 hI p47 => ?_)
            obtain ⟨hI, hW⟩ := hI
            obtain ⟨⟨av45, bv45⟩, rfl⟩ := p47
            refine z_if_eq (tgt := 70) F dX8_firstQuietSeat_55 (by decide +kernel) (by omega) (fun c48 => ?_) (fun c48 => ?_)
            · refine z_iincN F dX8_firstQuietSeat_70 (q := 5) rfl (by decide) (fun v49 ev49 => ?_)
              refine z_eq (ls' := [(3, ii v49), (5, ii v40), (4, ii v38), (0, .ref (ad 58)), (1, ii x0), (2, ii x1)]) rfl rfl rfl ?_
              refine z_goto (tgt := 2) F dX8_firstQuietSeat_73 (by decide +kernel) ?_
              refine z_loc [3, 4, 5, 0] (ls' := [(0, .ref (ad 58)), (1, ii x0), (2, ii x1), (3, ii v49)]) rfl ?_
              exact ih2 v49 (by omega) (by omega) (by omega)
            · refine z_aload_n F dX8_firstQuietSeat_58 rfl (q := 2) rfl ?_
              refine z_iload_n F dX8_firstQuietSeat_59 rfl (q := 3) rfl ?_
              refine z_iload F dX8_firstQuietSeat_60 (q := 0) rfl ?_
              have k50 : 0 ≤ v40 ∧ v40 ≤ 9 := by omega
              refine zv_i (rest := []) F (k_X8_isQuietBeside_58 l M ⟨hI, hW⟩ x0 (by omega) (by omega) v40 (by omega) (by omega)) cs_X8_67 (T := TX8) (N := 9) (ci := 8) rfl gs_58 (by decide) (by decide) rfl rfl rfl (Nat.le_of_ble_eq_true rfl) dX8_firstQuietSeat_62 (fun v51 M52 rv51 hI p53 => ?_)
              obtain ⟨hI, hW⟩ := hI
              obtain ⟨⟨av51, bv51⟩, rfl⟩ := p53
              refine z_if_eq (tgt := 70) F dX8_firstQuietSeat_65 (by decide +kernel) (by omega) (fun c54 => ?_) (fun c54 => ?_)
              · refine z_iincN F dX8_firstQuietSeat_70 (q := 5) rfl (by decide) (fun v55 ev55 => ?_)
                refine z_eq (ls' := [(3, ii v55), (5, ii v40), (4, ii v38), (0, .ref (ad 58)), (1, ii x0), (2, ii x1)]) rfl rfl rfl ?_
                refine z_goto (tgt := 2) F dX8_firstQuietSeat_73 (by decide +kernel) ?_
                refine z_loc [3, 4, 5, 0] (ls' := [(0, .ref (ad 58)), (1, ii x0), (2, ii x1), (3, ii v55)]) rfl ?_
                exact ih2 v55 (by omega) (by omega) (by omega)
              · refine z_iload_n F dX8_firstQuietSeat_68 rfl (q := 5) rfl ?_
                exact hret _ _ 69 _ (by omega) ⟨hI, hW⟩ ⟨⟨by omega, by omega⟩, rfl⟩ dX8_firstQuietSeat_69
        · refine z_iconst F dX8_firstQuietSeat_29 ?_
          refine z_goto (tgt := 36) F dX8_firstQuietSeat_30 (by decide +kernel) ?_
          refine z_istore F dX8_firstQuietSeat_36 (by decide) (ls' := [(5, ii 0), (4, ii v38), (0, .ref (ad 58)), (1, ii x0), (2, ii x1), (3, ii y2)]) rfl ?_
          refine z_aload_n F dX8_firstQuietSeat_38 rfl (q := 2) rfl ?_
          refine rf_X8_15 F gs_58 rfl dX8_firstQuietSeat_39 ?_
          refine z_iload_n F dX8_firstQuietSeat_42 rfl (q := 5) rfl ?_
          refine z_iald F hI gs_60 (by omega) (by omega) (by decide) bd_60 dX8_firstQuietSeat_43 (fun v56 (ev56 : v56 = M 60 _) av56 bv56 => ?_)
          refine z_iconst F dX8_firstQuietSeat_44 ?_
          refine z_icmp_ne (tgt := 70) F dX8_firstQuietSeat_45 (by decide +kernel) (by omega) (by omega) (fun c57 => ?_) (fun c57 => ?_)
          · refine z_iincN F dX8_firstQuietSeat_70 (q := 5) rfl (by decide) (fun v58 ev58 => ?_)
            refine z_eq (ls' := [(3, ii v58), (5, ii 0), (4, ii v38), (0, .ref (ad 58)), (1, ii x0), (2, ii x1)]) rfl rfl rfl ?_
            refine z_goto (tgt := 2) F dX8_firstQuietSeat_73 (by decide +kernel) ?_
            refine z_loc [3, 4, 5, 0] (ls' := [(0, .ref (ad 58)), (1, ii x0), (2, ii x1), (3, ii v58)]) rfl ?_
            exact ih2 v58 (by omega) (by omega) (by omega)
          · refine z_aload_n F dX8_firstQuietSeat_48 rfl (q := 2) rfl ?_
            refine z_iload_n F dX8_firstQuietSeat_49 rfl (q := 3) rfl ?_
            refine z_iload F dX8_firstQuietSeat_50 (q := 1) rfl ?_
            have k59 : 0 ≤ v38 ∧ v38 ≤ 9 := by omega
            refine zv_i (rest := []) F (k_X8_isQuietBeside_58 l M ⟨hI, hW⟩ x0 (by omega) (by omega) v38 (by omega) (by omega)) cs_X8_67 (T := TX8) (N := 9) (ci := 8) rfl gs_58 (by decide) (by decide) rfl rfl rfl (Nat.le_of_ble_eq_true rfl) dX8_firstQuietSeat_52 (fun v60 M61 rv60 hI p62 => ?_)
            obtain ⟨hI, hW⟩ := hI
            obtain ⟨⟨av60, bv60⟩, rfl⟩ := p62
            refine z_if_eq (tgt := 70) F dX8_firstQuietSeat_55 (by decide +kernel) (by omega) (fun c63 => ?_) (fun c63 => ?_)
            · refine z_iincN F dX8_firstQuietSeat_70 (q := 5) rfl (by decide) (fun v64 ev64 => ?_)
              refine z_eq (ls' := [(3, ii v64), (5, ii 0), (4, ii v38), (0, .ref (ad 58)), (1, ii x0), (2, ii x1)]) rfl rfl rfl ?_
              refine z_goto (tgt := 2) F dX8_firstQuietSeat_73 (by decide +kernel) ?_
              refine z_loc [3, 4, 5, 0] (ls' := [(0, .ref (ad 58)), (1, ii x0), (2, ii x1), (3, ii v64)]) rfl ?_
              exact ih2 v64 (by omega) (by omega) (by omega)
            · refine z_aload_n F dX8_firstQuietSeat_58 rfl (q := 2) rfl ?_
              refine z_iload_n F dX8_firstQuietSeat_59 rfl (q := 3) rfl ?_
              refine z_iload F dX8_firstQuietSeat_60 (q := 0) rfl ?_
              have k65 : 0 ≤ 0 ∧ 0 ≤ 9 := by omega
              refine zv_i (rest := []) F (k_X8_isQuietBeside_58 l M ⟨hI, hW⟩ x0 (by omega) (by omega) 0 (by omega) (by omega)) cs_X8_67 (T := TX8) (N := 9) (ci := 8) rfl gs_58 (by decide) (by decide) rfl rfl rfl (Nat.le_of_ble_eq_true rfl) dX8_firstQuietSeat_62 (fun v66 M67 rv66 hI p68 => ?_)
              obtain ⟨hI, hW⟩ := hI
              obtain ⟨⟨av66, bv66⟩, rfl⟩ := p68
              refine z_if_eq (tgt := 70) F dX8_firstQuietSeat_65 (by decide +kernel) (by omega) (fun c69 => ?_) (fun c69 => ?_)
              · refine z_iincN F dX8_firstQuietSeat_70 (q := 5) rfl (by decide) (fun v70 ev70 => ?_)
                refine z_eq (ls' := [(3, ii v70), (5, ii 0), (4, ii v38), (0, .ref (ad 58)), (1, ii x0), (2, ii x1)]) rfl rfl rfl ?_
                refine z_goto (tgt := 2) F dX8_firstQuietSeat_73 (by decide +kernel) ?_
                refine z_loc [3, 4, 5, 0] (ls' := [(0, .ref (ad 58)), (1, ii x0), (2, ii x1), (3, ii v70)]) rfl ?_
                exact ih2 v70 (by omega) (by omega) (by omega)
              · refine z_iload_n F dX8_firstQuietSeat_68 rfl (q := 5) rfl ?_
                exact hret _ _ 69 _ (by omega) ⟨hI, hW⟩ ⟨⟨by omega, by omega⟩, rfl⟩ dX8_firstQuietSeat_69
set_option maxRecDepth 4000 in
theorem k_X8_seatGuests_58 (l : Launch) (M : Mem) (hJ : Iw M) (x0 : Int) (hx0a : 1 ≤ x0) (hx0b : x0 ≤ 10) : CI l yX8_seatGuests cX8_seatGuests 5 (some .int) 5 (fun ad => [.ref (ad 58), ii x0]) M (fun z M' => ((-2147483648) ≤ z ∧ z ≤ 2147483647) ∧ Fr [60] M M') := by
  obtain ⟨hI, hW⟩ := hJ
  have hF : Fr [60] M M := Fr.rf
  refine en_i (by decide +kernel) (fun ad => by exact Nat.le_of_ble_eq_true rfl) (fun D cy ad A p e s m args below meth c Q F hret => ?_)
  refine z_eq (ls' := [(0, .ref (ad 58)), (1, ii x0)]) rfl rfl rfl ?_
  refine z_iconst F dX8_seatGuests_0 ?_
  refine z_istore_n F dX8_seatGuests_1 rfl (by decide) (ls' := [(2, ii 0), (0, .ref (ad 58)), (1, ii x0)]) rfl ?_
  refine z_loc [1, 2, 0] (ls' := [(0, .ref (ad 58)), (1, ii x0), (2, ii 0)]) rfl ?_
  suffices key2 : ∀ (n : Nat) (y2 : Int) (M1 : Mem), Inv M1 → WFk M1 → Fr [60] M M1 → 0 ≤ y2 → y2 ≤ 10 → 10 - y2 < (n : Int) → Z D cy ad p l e (RMh 5) s m args below meth c A 5 0 0 Q 2 [(0, .ref (ad 58)), (1, ii x0), (2, ii y2)] [] M1 from key2 11 0 M hI hW hF (by omega) (by omega) (by omega)
  intro n2
  induction n2 with
  | zero => intro y2 M1 hI hW hF ay2 by2 hn2; exfalso; omega
  | succ n2 ih2 =>
    intro y2 M1 hI hW hF ay2 by2 hn2
    refine z_iload_n F dX8_seatGuests_2 rfl (q := 2) rfl ?_
    refine z_iload_n F dX8_seatGuests_3 rfl (q := 1) rfl ?_
    refine z_icmp_ge (tgt := 20) F dX8_seatGuests_4 (by decide +kernel) (by omega) (by omega) (fun c3 => ?_) (fun c3 => ?_)
    · refine z_iconst F dX8_seatGuests_20 ?_
      refine z_istore_n F dX8_seatGuests_21 rfl (by decide) (ls' := [(2, ii 0), (0, .ref (ad 58)), (1, ii x0)]) rfl ?_
      refine z_iconst F dX8_seatGuests_22 ?_
      refine z_istore_n F dX8_seatGuests_23 rfl (by decide) (ls' := [(3, ii 0), (2, ii 0), (0, .ref (ad 58)), (1, ii x0)]) rfl ?_
      refine z_loc [2, 3, 1, 0] (ls' := [(0, .ref (ad 58)), (1, ii x0), (2, ii 0), (3, ii 0)]) rfl ?_
      suffices key24 : ∀ (n : Nat) (y5 : Int) (y6 : Int) (M4 : Mem), Inv M4 → WFk M4 → Fr [60] M M4 → (-2147483648) ≤ y5 → y5 ≤ 2147483647 → 0 ≤ y6 → y6 ≤ 10 → 10 - y6 < (n : Int) → Z D cy ad p l e (RMh 5) s m args below meth c A 5 0 0 Q 24 [(0, .ref (ad 58)), (1, ii x0), (2, ii y5), (3, ii y6)] [] M4 from key24 11 0 0 M1 hI hW hF (by omega) (by omega) (by omega) (by omega) (by omega)
      intro n24
      induction n24 with
      | zero => intro y5 y6 M4 hI hW hF ay5 by5 ay6 by6 hn24; exfalso; omega
      | succ n24 ih24 =>
        intro y5 y6 M4 hI hW hF ay5 by5 ay6 by6 hn24
        refine z_iload_n F dX8_seatGuests_24 rfl (q := 3) rfl ?_
        refine z_aload_n F dX8_seatGuests_25 rfl (q := 0) rfl ?_
        refine gf_X8_51 F hI gs_58 rfl bd_58_3 dX8_seatGuests_26 (fun v7 ev7 av7 bv7 => ?_)
        refine z_icmp_ge (tgt := 73) F dX8_seatGuests_29 (by decide +kernel) (by omega) (by omega) (fun c8 => ?_) (fun c8 => ?_)
        · refine z_iload_n F dX8_seatGuests_73 rfl (q := 2) rfl ?_
          exact hret _ _ 74 _ (by omega) ⟨hI, hW⟩ ⟨⟨by omega, by omega⟩, hF⟩ dX8_seatGuests_74
        · refine z_aload_n F dX8_seatGuests_32 rfl (q := 0) rfl ?_
          refine z_aload_n F dX8_seatGuests_33 rfl (q := 0) rfl ?_
          refine rf_X8_11 F gs_58 rfl dX8_seatGuests_34 ?_
          refine z_iload_n F dX8_seatGuests_37 rfl (q := 3) rfl ?_
          refine z_iald F hI gs_59 (by omega) (by omega) (by decide) bd_59 dX8_seatGuests_38 (fun v9 (ev9 : v9 = M4 59 _) av9 bv9 => ?_)
          refine z_iload_n F dX8_seatGuests_39 rfl (q := 1) rfl ?_
          refine zv_i (rest := []) F (k_X8_firstQuietSeat_58 l M4 ⟨hI, hW⟩ v9 (by omega) (by omega) x0 (by omega) (by omega)) cs_X8_64 (T := TX8) (N := 9) (ci := 8) rfl gs_58 (by decide) (by decide) rfl rfl rfl (Nat.le_of_ble_eq_true rfl) dX8_seatGuests_40 (fun v10 M11 rv10 hI p12 => ?_)
          obtain ⟨hI, hW⟩ := hI
          obtain ⟨⟨av10, bv10⟩, rfl⟩ := p12
          refine z_istore F dX8_seatGuests_43 (by decide) (ls' := [(4, ii v10), (0, .ref (ad 58)), (1, ii x0), (2, ii y5), (3, ii y6)]) rfl ?_
          refine z_iload F dX8_seatGuests_45 (q := 0) rfl ?_
          refine z_iconst F dX8_seatGuests_47 ?_
          refine z_icmp_eq (tgt := 67) F dX8_seatGuests_48 (by decide +kernel) (by omega) (by omega) (fun c13 => ?_) (fun c13 => ?_)
          · refine z_iincN F dX8_seatGuests_67 (q := 4) rfl (by decide) (fun v14 ev14 => ?_)
            refine z_eq (ls' := [(3, ii v14), (4, ii v10), (0, .ref (ad 58)), (1, ii x0), (2, ii y5)]) rfl rfl rfl ?_
            refine z_goto (tgt := 24) F dX8_seatGuests_70 (by decide +kernel) ?_
            refine z_loc [2, 3, 4, 0] (ls' := [(0, .ref (ad 58)), (1, ii x0), (2, ii y5), (3, ii v14)]) rfl ?_
            exact ih24 y5 v14 M4 hI hW hF (by omega) (by omega) (by omega) (by omega) (by omega)
          · refine z_aload_n F dX8_seatGuests_51 rfl (q := 1) rfl ?_
            refine rf_X8_15 F gs_58 rfl dX8_seatGuests_52 ?_
            refine z_iload F dX8_seatGuests_55 (q := 0) rfl ?_
            refine z_aload_n F dX8_seatGuests_57 rfl (q := 1) rfl ?_
            refine rf_X8_11 F gs_58 rfl dX8_seatGuests_58 ?_
            refine z_iload_n F dX8_seatGuests_61 rfl (q := 4) rfl ?_
            refine z_iald F hI gs_59 (by omega) (by omega) (by decide) bd_59 dX8_seatGuests_62 (fun v15 (ev15 : v15 = M4 59 _) av15 bv15 => ?_)
            have zv15 : v9 = v15 := ev9.trans ev15.symm
            subst zv15
            refine z_iast F hI gs_60 (by omega) (by omega) (by decide) bd_60 dX8_seatGuests_63 (by omega) (by omega) (fun M17 hI sf16 f16 => ?_)
            have hF := hF.wr f16 (by decide) (by decide)
            have hW : WFk M17 := hW.site f16 (by decide)
            refine z_iincW F dX8_seatGuests_64 (q := 3) rfl (by decide) (fun v18 rv18 wv18 => ?_)
            refine z_eq (ls' := [(2, ii v18), (4, ii v10), (0, .ref (ad 58)), (1, ii x0), (3, ii y6)]) rfl rfl rfl ?_
            refine z_iincN F dX8_seatGuests_67 (q := 4) rfl (by decide) (fun v19 ev19 => ?_)
            refine z_eq (ls' := [(3, ii v19), (2, ii v18), (4, ii v10), (0, .ref (ad 58)), (1, ii x0)]) rfl rfl rfl ?_
            refine z_goto (tgt := 24) F dX8_seatGuests_70 (by decide +kernel) ?_
            refine z_loc [3, 4, 1, 0] (ls' := [(0, .ref (ad 58)), (1, ii x0), (2, ii v18), (3, ii v19)]) rfl ?_
            exact ih24 v18 v19 M17 hI hW hF (by omega) (by omega) (by omega) (by omega) (by omega)
    · refine z_aload_n F dX8_seatGuests_7 rfl (q := 0) rfl ?_
      refine rf_X8_15 F gs_58 rfl dX8_seatGuests_8 ?_
      refine z_iload_n F dX8_seatGuests_11 rfl (q := 2) rfl ?_
      refine z_iconst F dX8_seatGuests_12 ?_
      refine z_iast F hI gs_60 (by omega) (by omega) (by decide) bd_60 dX8_seatGuests_13 (by omega) (by omega) (fun M21 hI sf20 f20 => ?_)
      have hF := hF.wr f20 (by decide) (by decide)
      have hW : WFk M21 := hW.site f20 (by decide)
      refine z_iincN F dX8_seatGuests_14 (q := 2) rfl (by decide) (fun v22 ev22 => ?_)
      refine z_eq (ls' := [(2, ii v22), (0, .ref (ad 58)), (1, ii x0)]) rfl rfl rfl ?_
      refine z_goto (tgt := 2) F dX8_seatGuests_17 (by decide +kernel) ?_
      refine z_loc [1, 2, 0] (ls' := [(0, .ref (ad 58)), (1, ii x0), (2, ii v22)]) rfl ?_
      exact ih2 v22 M21 hI hW hF (by omega) (by omega) (by omega)
set_option maxRecDepth 4000 in
theorem k_X11_seats (l : Launch) (hlT : l.stackTraces = false) (M : Mem) (hJ : Iw M) (x0 : Int) (hx0a : (-2147483648) ≤ x0) (hx0b : x0 ≤ 2147483647) (x1 : Int) (hx1a : (-2147483648) ≤ x1) (hx1b : x1 ≤ 2147483647) (x2 : Int) (hx2a : (-2147483648) ≤ x2) (hx2b : x2 ≤ 2147483647) : CIX l yX11_seats cX11_seats 5 (some .int) 6 4 (fun ad => [.ref (ad 0), ii x0, ii x1, ii x2]) M (fun z M' => ((-2147483648) ≤ z ∧ z ≤ 2147483647) ∧ Fr [58, 59, 60] M M') (fun E M' => (E = "java/lang/IllegalArgumentException" ∧ True ∧ Fr [58, 59, 60] M M') ∨ (E = "java/lang/IllegalStateException" ∧ True ∧ Fr [58, 59, 60] M M') ∨ (E = "java/util/NoSuchElementException" ∧ True ∧ Fr [58, 59, 60] M M')) := by
  obtain ⟨hI, hW⟩ := hJ
  have hF : Fr [58, 59, 60] M M := Fr.rf
  refine enx_i (by decide +kernel) (fun ad => by exact Nat.le_of_ble_eq_true rfl) (fun D cy ad A p e s m args below meth c Q F hQ hr hlk hex => ?_)
  refine z_eq (ls' := [(0, .ref (ad 0)), (1, ii x0), (2, ii x1), (3, ii x2)]) rfl rfl rfl ?_
  refine z_aload_n F dX11_seats_0 rfl (q := 0) rfl ?_
  refine z_aload_n F dX11_seats_1 rfl (q := 0) rfl ?_
  refine z_iload_n F dX11_seats_2 rfl (q := 1) rfl ?_
  rcases (show x0 = 0 ∨ x0 = 1 ∨ x0 = 2 ∨ x0 = 3 ∨ (x0 < 0 ∨ 3 < x0) by omega) with c1 | c1 | c1 | c1 | c1
  · refine zy_r (rest := [.ref (ad 0)]) F (k_X11_filledTray_t0 l hlT M ⟨hI, hW⟩ x0 (by omega) (by omega)) cs_X11_248 (T := TX11) (N := 14) (ci := 11) rfl gs_0 (by decide) (by decide) ⟨by decide, by decide⟩ rfl rfl rfl (Nat.le_of_ble_eq_true rfl) dX11_seats_3 (fun E M9 hJ9 hx => by rcases hx with ⟨h9, g9, rfl⟩ | ⟨h9, g9, rfl⟩ <;> first | (exact zx_out hQ hlk hex ⟨by decide, by decide⟩ hJ9 (Or.inr (Or.inl ⟨h9, trivial, hF⟩))) | (exact zx_out hQ hlk hex ⟨by decide, by decide⟩ hJ9 (Or.inr (Or.inr (⟨h9, trivial, hF⟩))))) (fun M2 hI p3 => ?_)
    obtain ⟨hI, hW⟩ := hI
    obtain rfl := p3
    refine zy_v (rest := []) F (k_X11_needGuests_0_123 l hlT M ⟨hI, hW⟩) cs_X11_382 (T := TX11) (N := 14) (ci := 11) rfl gs_0 (by decide) (by decide) ⟨by decide, by decide⟩ rfl rfl rfl (Nat.le_of_ble_eq_true rfl) dX11_seats_6 (fun E M9 hJ9 hx => by obtain ⟨h9, g9, f9⟩ := hx <;> first | (exact zx_out hQ hlk hex ⟨by decide, by decide⟩ hJ9 (Or.inl ⟨h9, trivial, (hF.call f9 (by decide))⟩))) (fun M4 hI p5 => ?_)
    obtain ⟨hI, hW⟩ := hI
    obtain ⟨fp5, xp5⟩ := p5
    have hF := hF.call fp5 (by decide)
    refine z_iload_n F dX11_seats_9 rfl (q := 2) rfl ?_
    refine z_iconst F dX11_seats_10 ?_
    refine z_icmp_lt (tgt := 20) F dX11_seats_11 (by decide +kernel) (by omega) (by omega) (fun c6 => ?_) (fun c6 => ?_)
    · exact z_thrSW (cls := "java/lang/IllegalArgumentException") (names := ["java/lang/RuntimeException", "java/lang/Exception"]) (j := 48) F hlT hQ hlk hex (by decide +kernel) (by decide +kernel) (by decide) (gin lm_360 rfl) (gin lm_361 rfl) at_X11_105 bad_X11_105 (by decide +kernel) ot_X11_105 rfl rfl rfl dX11_seats_20 dX11_seats_23 dX11_seats_24 dX11_seats_27 dX11_seats_30 ⟨by decide, by decide⟩ (Nat.le_of_ble_eq_true rfl) ⟨hI, hW⟩ (Or.inl ⟨rfl, trivial, hF⟩)
    · refine z_iload_n F dX11_seats_14 rfl (q := 2) rfl ?_
      refine z_bipush F dX11_seats_15 (by decide +kernel) ?_
      refine z_icmp_le (tgt := 31) F dX11_seats_17 (by decide +kernel) (by omega) (by omega) (fun c7 => ?_) (fun c7 => ?_)
      · refine z_iload_n F dX11_seats_31 rfl (q := 3) rfl ?_
        refine z_bipush F dX11_seats_32 (by decide +kernel) ?_
        refine zz_v (rest := []) F (k_X11_needWhatOrPart l hlT M4 ⟨hI, hW⟩ x2 (by omega) (by omega) 10 (by omega) (by omega)) cs_X11_330 (by decide) (by decide) ⟨by decide, by decide⟩ rfl rfl rfl (Nat.le_of_ble_eq_true rfl) dX11_seats_34 (fun E M9 hJ9 hx => by obtain ⟨h9, g9, rfl⟩ := hx <;> first | (exact zx_out hQ hlk hex ⟨by decide, by decide⟩ hJ9 (Or.inl ⟨h9, trivial, hF⟩))) (fun M8 hI p9 => ?_)
        obtain ⟨hI, hW⟩ := hI
        obtain ⟨rfl, xp9⟩ := p9
        refine z_aload_n F dX11_seats_37 rfl (q := 0) rfl ?_
        refine rf_X11_87 F gs_0 rfl dX11_seats_38 ?_
        refine z_iload_n F dX11_seats_41 rfl (q := 2) rfl ?_
        refine zw_i (rest := []) F (k_X8_seatGuests_58 l M4 ⟨hI, hW⟩ x1 (by omega) (by omega)) cs_X11_407 (T := TX8) (N := 9) (ci := 8) rfl gs_58 (by decide) (by decide) ⟨by decide, by decide⟩ rfl rfl rfl (Nat.le_of_ble_eq_true rfl) dX11_seats_42 (fun v10 M11 rv10 hI p12 => ?_)
        obtain ⟨hI, hW⟩ := hI
        obtain ⟨⟨av10, bv10⟩, fp12⟩ := p12
        have hF := hF.call fp12 (by decide)
        refine z_istore F dX11_seats_45 (by decide) (ls' := [(4, ii v10), (0, .ref (ad 0)), (1, ii x0), (2, ii x1), (3, ii x2)]) rfl ?_
        refine z_iload_n F dX11_seats_47 rfl (q := 4) rfl ?_
        refine z_if_ne (tgt := 54) F dX11_seats_48 (by decide +kernel) (by omega) (fun c13 => ?_) (fun c13 => ?_)
        · refine z_iload_n F dX11_seats_54 rfl (q := 4) rfl ?_
          refine z_bipush F dX11_seats_55 (by decide +kernel) ?_
          refine z_isub F dX11_seats_57 ?_
          refine z_wrap (fun v14 rv14 wv14 => ?_)
          refine z_iload_n F dX11_seats_58 rfl (q := 3) rfl ?_
          refine z_icmp_ge (tgt := 77) F dX11_seats_59 (by decide +kernel) (by omega) (by omega) (fun c15 => ?_) (fun c15 => ?_)
          · refine z_iconst F dX11_seats_77 ?_
            exact zxr_i F hQ hr hlk dX11_seats_78 ⟨by decide, by decide⟩ (by omega) ⟨hI, hW⟩ ⟨⟨by omega, by omega⟩, hF⟩
          · refine z_aload_n F dX11_seats_62 rfl (q := 1) rfl ?_
            refine rf_X11_87 F gs_0 rfl dX11_seats_63 ?_
            refine rf_X11_410 F gs_58 rfl dX11_seats_66 ?_
            refine z_iload_n F dX11_seats_69 rfl (q := 4) rfl ?_
            refine z_bipush F dX11_seats_70 (by decide +kernel) ?_
            refine z_isub F dX11_seats_72 ?_
            refine z_wrap (fun v16 rv16 wv16 => ?_)
            have k17 : 0 ≤ v16 ∧ v16 ≤ 9 := by omega
            refine z_iald F hI gs_60 (by omega) (by omega) (by decide) bd_60 dX11_seats_73 (fun v18 (ev18 : v18 = M11 60 _) av18 bv18 => ?_)
            refine z_goto (tgt := 78) F dX11_seats_74 (by decide +kernel) ?_
            exact zxr_i F hQ hr hlk dX11_seats_78 ⟨by decide, by decide⟩ (by omega) ⟨hI, hW⟩ ⟨⟨by omega, by omega⟩, hF⟩
        · refine z_iload F dX11_seats_51 (q := 0) rfl ?_
          exact zxr_i F hQ hr hlk dX11_seats_53 ⟨by decide, by decide⟩ (by omega) ⟨hI, hW⟩ ⟨⟨by omega, by omega⟩, hF⟩
      · exact z_thrSW (cls := "java/lang/IllegalArgumentException") (names := ["java/lang/RuntimeException", "java/lang/Exception"]) (j := 48) F hlT hQ hlk hex (by decide +kernel) (by decide +kernel) (by decide) (gin lm_360 rfl) (gin lm_361 rfl) at_X11_105 bad_X11_105 (by decide +kernel) ot_X11_105 rfl rfl rfl dX11_seats_20 dX11_seats_23 dX11_seats_24 dX11_seats_27 dX11_seats_30 ⟨by decide, by decide⟩ (Nat.le_of_ble_eq_true rfl) ⟨hI, hW⟩ (Or.inl ⟨rfl, trivial, hF⟩)
  · refine zy_r (rest := [.ref (ad 0)]) F (k_X11_filledTray_t1 l hlT M ⟨hI, hW⟩ x0 (by omega) (by omega)) cs_X11_248 (T := TX11) (N := 14) (ci := 11) rfl gs_0 (by decide) (by decide) ⟨by decide, by decide⟩ rfl rfl rfl (Nat.le_of_ble_eq_true rfl) dX11_seats_3 (fun E M9 hJ9 hx => by rcases hx with ⟨h9, g9, rfl⟩ | ⟨h9, g9, rfl⟩ <;> first | (exact zx_out hQ hlk hex ⟨by decide, by decide⟩ hJ9 (Or.inr (Or.inl ⟨h9, trivial, hF⟩))) | (exact zx_out hQ hlk hex ⟨by decide, by decide⟩ hJ9 (Or.inr (Or.inr (⟨h9, trivial, hF⟩))))) (fun M19 hI p20 => ?_)
    obtain ⟨hI, hW⟩ := hI
    obtain rfl := p20
    refine zy_v (rest := []) F (k_X11_needGuests_0_125 l hlT M ⟨hI, hW⟩) cs_X11_382 (T := TX11) (N := 14) (ci := 11) rfl gs_0 (by decide) (by decide) ⟨by decide, by decide⟩ rfl rfl rfl (Nat.le_of_ble_eq_true rfl) dX11_seats_6 (fun E M9 hJ9 hx => by obtain ⟨h9, g9, f9⟩ := hx <;> first | (exact zx_out hQ hlk hex ⟨by decide, by decide⟩ hJ9 (Or.inl ⟨h9, trivial, (hF.call f9 (by decide))⟩))) (fun M21 hI p22 => ?_)
    obtain ⟨hI, hW⟩ := hI
    obtain ⟨fp22, xp22⟩ := p22
    have hF := hF.call fp22 (by decide)
    refine z_iload_n F dX11_seats_9 rfl (q := 2) rfl ?_
    refine z_iconst F dX11_seats_10 ?_
    refine z_icmp_lt (tgt := 20) F dX11_seats_11 (by decide +kernel) (by omega) (by omega) (fun c23 => ?_) (fun c23 => ?_)
    · exact z_thrSW (cls := "java/lang/IllegalArgumentException") (names := ["java/lang/RuntimeException", "java/lang/Exception"]) (j := 48) F hlT hQ hlk hex (by decide +kernel) (by decide +kernel) (by decide) (gin lm_360 rfl) (gin lm_361 rfl) at_X11_105 bad_X11_105 (by decide +kernel) ot_X11_105 rfl rfl rfl dX11_seats_20 dX11_seats_23 dX11_seats_24 dX11_seats_27 dX11_seats_30 ⟨by decide, by decide⟩ (Nat.le_of_ble_eq_true rfl) ⟨hI, hW⟩ (Or.inl ⟨rfl, trivial, hF⟩)
    · refine z_iload_n F dX11_seats_14 rfl (q := 2) rfl ?_
      refine z_bipush F dX11_seats_15 (by decide +kernel) ?_
      refine z_icmp_le (tgt := 31) F dX11_seats_17 (by decide +kernel) (by omega) (by omega) (fun c24 => ?_) (fun c24 => ?_)
      · refine z_iload_n F dX11_seats_31 rfl (q := 3) rfl ?_
        refine z_bipush F dX11_seats_32 (by decide +kernel) ?_
        refine zz_v (rest := []) F (k_X11_needWhatOrPart l hlT M21 ⟨hI, hW⟩ x2 (by omega) (by omega) 10 (by omega) (by omega)) cs_X11_330 (by decide) (by decide) ⟨by decide, by decide⟩ rfl rfl rfl (Nat.le_of_ble_eq_true rfl) dX11_seats_34 (fun E M9 hJ9 hx => by obtain ⟨h9, g9, rfl⟩ := hx <;> first | (exact zx_out hQ hlk hex ⟨by decide, by decide⟩ hJ9 (Or.inl ⟨h9, trivial, hF⟩))) (fun M25 hI p26 => ?_)
        obtain ⟨hI, hW⟩ := hI
        obtain ⟨rfl, xp26⟩ := p26
        refine z_aload_n F dX11_seats_37 rfl (q := 0) rfl ?_
        refine rf_X11_87 F gs_0 rfl dX11_seats_38 ?_
        refine z_iload_n F dX11_seats_41 rfl (q := 2) rfl ?_
        refine zw_i (rest := []) F (k_X8_seatGuests_58 l M21 ⟨hI, hW⟩ x1 (by omega) (by omega)) cs_X11_407 (T := TX8) (N := 9) (ci := 8) rfl gs_58 (by decide) (by decide) ⟨by decide, by decide⟩ rfl rfl rfl (Nat.le_of_ble_eq_true rfl) dX11_seats_42 (fun v27 M28 rv27 hI p29 => ?_)
        obtain ⟨hI, hW⟩ := hI
        obtain ⟨⟨av27, bv27⟩, fp29⟩ := p29
        have hF := hF.call fp29 (by decide)
        refine z_istore F dX11_seats_45 (by decide) (ls' := [(4, ii v27), (0, .ref (ad 0)), (1, ii x0), (2, ii x1), (3, ii x2)]) rfl ?_
        refine z_iload_n F dX11_seats_47 rfl (q := 4) rfl ?_
        refine z_if_ne (tgt := 54) F dX11_seats_48 (by decide +kernel) (by omega) (fun c30 => ?_) (fun c30 => ?_)
        · refine z_iload_n F dX11_seats_54 rfl (q := 4) rfl ?_
          refine z_bipush F dX11_seats_55 (by decide +kernel) ?_
          refine z_isub F dX11_seats_57 ?_
          refine z_wrap (fun v31 rv31 wv31 => ?_)
          refine z_iload_n F dX11_seats_58 rfl (q := 3) rfl ?_
          refine z_icmp_ge (tgt := 77) F dX11_seats_59 (by decide +kernel) (by omega) (by omega) (fun c32 => ?_) (fun c32 => ?_)
          · refine z_iconst F dX11_seats_77 ?_
            exact zxr_i F hQ hr hlk dX11_seats_78 ⟨by decide, by decide⟩ (by omega) ⟨hI, hW⟩ ⟨⟨by omega, by omega⟩, hF⟩
          · refine z_aload_n F dX11_seats_62 rfl (q := 1) rfl ?_
            refine rf_X11_87 F gs_0 rfl dX11_seats_63 ?_
            refine rf_X11_410 F gs_58 rfl dX11_seats_66 ?_
            refine z_iload_n F dX11_seats_69 rfl (q := 4) rfl ?_
            refine z_bipush F dX11_seats_70 (by decide +kernel) ?_
            refine z_isub F dX11_seats_72 ?_
            refine z_wrap (fun v33 rv33 wv33 => ?_)
            have k34 : 0 ≤ v33 ∧ v33 ≤ 9 := by omega
            refine z_iald F hI gs_60 (by omega) (by omega) (by decide) bd_60 dX11_seats_73 (fun v35 (ev35 : v35 = M28 60 _) av35 bv35 => ?_)
            refine z_goto (tgt := 78) F dX11_seats_74 (by decide +kernel) ?_
            exact zxr_i F hQ hr hlk dX11_seats_78 ⟨by decide, by decide⟩ (by omega) ⟨hI, hW⟩ ⟨⟨by omega, by omega⟩, hF⟩
        · refine z_iload F dX11_seats_51 (q := 0) rfl ?_
          exact zxr_i F hQ hr hlk dX11_seats_53 ⟨by decide, by decide⟩ (by omega) ⟨hI, hW⟩ ⟨⟨by omega, by omega⟩, hF⟩
      · exact z_thrSW (cls := "java/lang/IllegalArgumentException") (names := ["java/lang/RuntimeException", "java/lang/Exception"]) (j := 48) F hlT hQ hlk hex (by decide +kernel) (by decide +kernel) (by decide) (gin lm_360 rfl) (gin lm_361 rfl) at_X11_105 bad_X11_105 (by decide +kernel) ot_X11_105 rfl rfl rfl dX11_seats_20 dX11_seats_23 dX11_seats_24 dX11_seats_27 dX11_seats_30 ⟨by decide, by decide⟩ (Nat.le_of_ble_eq_true rfl) ⟨hI, hW⟩ (Or.inl ⟨rfl, trivial, hF⟩)
  · refine zy_r (rest := [.ref (ad 0)]) F (k_X11_filledTray_t2 l hlT M ⟨hI, hW⟩ x0 (by omega) (by omega)) cs_X11_248 (T := TX11) (N := 14) (ci := 11) rfl gs_0 (by decide) (by decide) ⟨by decide, by decide⟩ rfl rfl rfl (Nat.le_of_ble_eq_true rfl) dX11_seats_3 (fun E M9 hJ9 hx => by rcases hx with ⟨h9, g9, rfl⟩ | ⟨h9, g9, rfl⟩ <;> first | (exact zx_out hQ hlk hex ⟨by decide, by decide⟩ hJ9 (Or.inr (Or.inl ⟨h9, trivial, hF⟩))) | (exact zx_out hQ hlk hex ⟨by decide, by decide⟩ hJ9 (Or.inr (Or.inr (⟨h9, trivial, hF⟩))))) (fun M36 hI p37 => ?_)
    obtain ⟨hI, hW⟩ := hI
    obtain rfl := p37
    refine zy_v (rest := []) F (k_X11_needGuests_0_127 l hlT M ⟨hI, hW⟩) cs_X11_382 (T := TX11) (N := 14) (ci := 11) rfl gs_0 (by decide) (by decide) ⟨by decide, by decide⟩ rfl rfl rfl (Nat.le_of_ble_eq_true rfl) dX11_seats_6 (fun E M9 hJ9 hx => by obtain ⟨h9, g9, f9⟩ := hx <;> first | (exact zx_out hQ hlk hex ⟨by decide, by decide⟩ hJ9 (Or.inl ⟨h9, trivial, (hF.call f9 (by decide))⟩))) (fun M38 hI p39 => ?_)
    obtain ⟨hI, hW⟩ := hI
    obtain ⟨fp39, xp39⟩ := p39
    have hF := hF.call fp39 (by decide)
    refine z_iload_n F dX11_seats_9 rfl (q := 2) rfl ?_
    refine z_iconst F dX11_seats_10 ?_
    refine z_icmp_lt (tgt := 20) F dX11_seats_11 (by decide +kernel) (by omega) (by omega) (fun c40 => ?_) (fun c40 => ?_)
    · exact z_thrSW (cls := "java/lang/IllegalArgumentException") (names := ["java/lang/RuntimeException", "java/lang/Exception"]) (j := 48) F hlT hQ hlk hex (by decide +kernel) (by decide +kernel) (by decide) (gin lm_360 rfl) (gin lm_361 rfl) at_X11_105 bad_X11_105 (by decide +kernel) ot_X11_105 rfl rfl rfl dX11_seats_20 dX11_seats_23 dX11_seats_24 dX11_seats_27 dX11_seats_30 ⟨by decide, by decide⟩ (Nat.le_of_ble_eq_true rfl) ⟨hI, hW⟩ (Or.inl ⟨rfl, trivial, hF⟩)
    · refine z_iload_n F dX11_seats_14 rfl (q := 2) rfl ?_
      refine z_bipush F dX11_seats_15 (by decide +kernel) ?_
      refine z_icmp_le (tgt := 31) F dX11_seats_17 (by decide +kernel) (by omega) (by omega) (fun c41 => ?_) (fun c41 => ?_)
      · refine z_iload_n F dX11_seats_31 rfl (q := 3) rfl ?_
        refine z_bipush F dX11_seats_32 (by decide +kernel) ?_
        refine zz_v (rest := []) F (k_X11_needWhatOrPart l hlT M38 ⟨hI, hW⟩ x2 (by omega) (by omega) 10 (by omega) (by omega)) cs_X11_330 (by decide) (by decide) ⟨by decide, by decide⟩ rfl rfl rfl (Nat.le_of_ble_eq_true rfl) dX11_seats_34 (fun E M9 hJ9 hx => by obtain ⟨h9, g9, rfl⟩ := hx <;> first | (exact zx_out hQ hlk hex ⟨by decide, by decide⟩ hJ9 (Or.inl ⟨h9, trivial, hF⟩))) (fun M42 hI p43 => ?_)
        obtain ⟨hI, hW⟩ := hI
        obtain ⟨rfl, xp43⟩ := p43
        refine z_aload_n F dX11_seats_37 rfl (q := 0) rfl ?_
        refine rf_X11_87 F gs_0 rfl dX11_seats_38 ?_
        refine z_iload_n F dX11_seats_41 rfl (q := 2) rfl ?_
        refine zw_i (rest := []) F (k_X8_seatGuests_58 l M38 ⟨hI, hW⟩ x1 (by omega) (by omega)) cs_X11_407 (T := TX8) (N := 9) (ci := 8) rfl gs_58 (by decide) (by decide) ⟨by decide, by decide⟩ rfl rfl rfl (Nat.le_of_ble_eq_true rfl) dX11_seats_42 (fun v44 M45 rv44 hI p46 => ?_)
        obtain ⟨hI, hW⟩ := hI
        obtain ⟨⟨av44, bv44⟩, fp46⟩ := p46
        have hF := hF.call fp46 (by decide)
        refine z_istore F dX11_seats_45 (by decide) (ls' := [(4, ii v44), (0, .ref (ad 0)), (1, ii x0), (2, ii x1), (3, ii x2)]) rfl ?_
        refine z_iload_n F dX11_seats_47 rfl (q := 4) rfl ?_
        refine z_if_ne (tgt := 54) F dX11_seats_48 (by decide +kernel) (by omega) (fun c47 => ?_) (fun c47 => ?_)
        · refine z_iload_n F dX11_seats_54 rfl (q := 4) rfl ?_
          refine z_bipush F dX11_seats_55 (by decide +kernel) ?_
          refine z_isub F dX11_seats_57 ?_
          refine z_wrap (fun v48 rv48 wv48 => ?_)
          refine z_iload_n F dX11_seats_58 rfl (q := 3) rfl ?_
          refine z_icmp_ge (tgt := 77) F dX11_seats_59 (by decide +kernel) (by omega) (by omega) (fun c49 => ?_) (fun c49 => ?_)
          · refine z_iconst F dX11_seats_77 ?_
            exact zxr_i F hQ hr hlk dX11_seats_78 ⟨by decide, by decide⟩ (by omega) ⟨hI, hW⟩ ⟨⟨by omega, by omega⟩, hF⟩
          · refine z_aload_n F dX11_seats_62 rfl (q := 1) rfl ?_
            refine rf_X11_87 F gs_0 rfl dX11_seats_63 ?_
            refine rf_X11_410 F gs_58 rfl dX11_seats_66 ?_
            refine z_iload_n F dX11_seats_69 rfl (q := 4) rfl ?_
            refine z_bipush F dX11_seats_70 (by decide +kernel) ?_
            refine z_isub F dX11_seats_72 ?_
            refine z_wrap (fun v50 rv50 wv50 => ?_)
            have k51 : 0 ≤ v50 ∧ v50 ≤ 9 := by omega
            refine z_iald F hI gs_60 (by omega) (by omega) (by decide) bd_60 dX11_seats_73 (fun v52 (ev52 : v52 = M45 60 _) av52 bv52 => ?_)
            refine z_goto (tgt := 78) F dX11_seats_74 (by decide +kernel) ?_
            exact zxr_i F hQ hr hlk dX11_seats_78 ⟨by decide, by decide⟩ (by omega) ⟨hI, hW⟩ ⟨⟨by omega, by omega⟩, hF⟩
        · refine z_iload F dX11_seats_51 (q := 0) rfl ?_
          exact zxr_i F hQ hr hlk dX11_seats_53 ⟨by decide, by decide⟩ (by omega) ⟨hI, hW⟩ ⟨⟨by omega, by omega⟩, hF⟩
      · exact z_thrSW (cls := "java/lang/IllegalArgumentException") (names := ["java/lang/RuntimeException", "java/lang/Exception"]) (j := 48) F hlT hQ hlk hex (by decide +kernel) (by decide +kernel) (by decide) (gin lm_360 rfl) (gin lm_361 rfl) at_X11_105 bad_X11_105 (by decide +kernel) ot_X11_105 rfl rfl rfl dX11_seats_20 dX11_seats_23 dX11_seats_24 dX11_seats_27 dX11_seats_30 ⟨by decide, by decide⟩ (Nat.le_of_ble_eq_true rfl) ⟨hI, hW⟩ (Or.inl ⟨rfl, trivial, hF⟩)
  · refine zy_r (rest := [.ref (ad 0)]) F (k_X11_filledTray_t3 l hlT M ⟨hI, hW⟩ x0 (by omega) (by omega)) cs_X11_248 (T := TX11) (N := 14) (ci := 11) rfl gs_0 (by decide) (by decide) ⟨by decide, by decide⟩ rfl rfl rfl (Nat.le_of_ble_eq_true rfl) dX11_seats_3 (fun E M9 hJ9 hx => by rcases hx with ⟨h9, g9, rfl⟩ | ⟨h9, g9, rfl⟩ <;> first | (exact zx_out hQ hlk hex ⟨by decide, by decide⟩ hJ9 (Or.inr (Or.inl ⟨h9, trivial, hF⟩))) | (exact zx_out hQ hlk hex ⟨by decide, by decide⟩ hJ9 (Or.inr (Or.inr (⟨h9, trivial, hF⟩))))) (fun M53 hI p54 => ?_)
    obtain ⟨hI, hW⟩ := hI
    obtain rfl := p54
    refine zy_v (rest := []) F (k_X11_needGuests_0_129 l hlT M ⟨hI, hW⟩) cs_X11_382 (T := TX11) (N := 14) (ci := 11) rfl gs_0 (by decide) (by decide) ⟨by decide, by decide⟩ rfl rfl rfl (Nat.le_of_ble_eq_true rfl) dX11_seats_6 (fun E M9 hJ9 hx => by obtain ⟨h9, g9, f9⟩ := hx <;> first | (exact zx_out hQ hlk hex ⟨by decide, by decide⟩ hJ9 (Or.inl ⟨h9, trivial, (hF.call f9 (by decide))⟩))) (fun M55 hI p56 => ?_)
    obtain ⟨hI, hW⟩ := hI
    obtain ⟨fp56, xp56⟩ := p56
    have hF := hF.call fp56 (by decide)
    refine z_iload_n F dX11_seats_9 rfl (q := 2) rfl ?_
    refine z_iconst F dX11_seats_10 ?_
    refine z_icmp_lt (tgt := 20) F dX11_seats_11 (by decide +kernel) (by omega) (by omega) (fun c57 => ?_) (fun c57 => ?_)
    · exact z_thrSW (cls := "java/lang/IllegalArgumentException") (names := ["java/lang/RuntimeException", "java/lang/Exception"]) (j := 48) F hlT hQ hlk hex (by decide +kernel) (by decide +kernel) (by decide) (gin lm_360 rfl) (gin lm_361 rfl) at_X11_105 bad_X11_105 (by decide +kernel) ot_X11_105 rfl rfl rfl dX11_seats_20 dX11_seats_23 dX11_seats_24 dX11_seats_27 dX11_seats_30 ⟨by decide, by decide⟩ (Nat.le_of_ble_eq_true rfl) ⟨hI, hW⟩ (Or.inl ⟨rfl, trivial, hF⟩)
    · refine z_iload_n F dX11_seats_14 rfl (q := 2) rfl ?_
      refine z_bipush F dX11_seats_15 (by decide +kernel) ?_
      refine z_icmp_le (tgt := 31) F dX11_seats_17 (by decide +kernel) (by omega) (by omega) (fun c58 => ?_) (fun c58 => ?_)
      · refine z_iload_n F dX11_seats_31 rfl (q := 3) rfl ?_
        refine z_bipush F dX11_seats_32 (by decide +kernel) ?_
        refine zz_v (rest := []) F (k_X11_needWhatOrPart l hlT M55 ⟨hI, hW⟩ x2 (by omega) (by omega) 10 (by omega) (by omega)) cs_X11_330 (by decide) (by decide) ⟨by decide, by decide⟩ rfl rfl rfl (Nat.le_of_ble_eq_true rfl) dX11_seats_34 (fun E M9 hJ9 hx => by obtain ⟨h9, g9, rfl⟩ := hx <;> first | (exact zx_out hQ hlk hex ⟨by decide, by decide⟩ hJ9 (Or.inl ⟨h9, trivial, hF⟩))) (fun M59 hI p60 => ?_)
        obtain ⟨hI, hW⟩ := hI
        obtain ⟨rfl, xp60⟩ := p60
        refine z_aload_n F dX11_seats_37 rfl (q := 0) rfl ?_
        refine rf_X11_87 F gs_0 rfl dX11_seats_38 ?_
        refine z_iload_n F dX11_seats_41 rfl (q := 2) rfl ?_
        refine zw_i (rest := []) F (k_X8_seatGuests_58 l M55 ⟨hI, hW⟩ x1 (by omega) (by omega)) cs_X11_407 (T := TX8) (N := 9) (ci := 8) rfl gs_58 (by decide) (by decide) ⟨by decide, by decide⟩ rfl rfl rfl (Nat.le_of_ble_eq_true rfl) dX11_seats_42 (fun v61 M62 rv61 hI p63 => ?_)
        obtain ⟨hI, hW⟩ := hI
        obtain ⟨⟨av61, bv61⟩, fp63⟩ := p63
        have hF := hF.call fp63 (by decide)
        refine z_istore F dX11_seats_45 (by decide) (ls' := [(4, ii v61), (0, .ref (ad 0)), (1, ii x0), (2, ii x1), (3, ii x2)]) rfl ?_
        refine z_iload_n F dX11_seats_47 rfl (q := 4) rfl ?_
        refine z_if_ne (tgt := 54) F dX11_seats_48 (by decide +kernel) (by omega) (fun c64 => ?_) (fun c64 => ?_)
        · refine z_iload_n F dX11_seats_54 rfl (q := 4) rfl ?_
          refine z_bipush F dX11_seats_55 (by decide +kernel) ?_
          refine z_isub F dX11_seats_57 ?_
          refine z_wrap (fun v65 rv65 wv65 => ?_)
          refine z_iload_n F dX11_seats_58 rfl (q := 3) rfl ?_
          refine z_icmp_ge (tgt := 77) F dX11_seats_59 (by decide +kernel) (by omega) (by omega) (fun c66 => ?_) (fun c66 => ?_)
          · refine z_iconst F dX11_seats_77 ?_
            exact zxr_i F hQ hr hlk dX11_seats_78 ⟨by decide, by decide⟩ (by omega) ⟨hI, hW⟩ ⟨⟨by omega, by omega⟩, hF⟩
          · refine z_aload_n F dX11_seats_62 rfl (q := 1) rfl ?_
            refine rf_X11_87 F gs_0 rfl dX11_seats_63 ?_
            refine rf_X11_410 F gs_58 rfl dX11_seats_66 ?_
            refine z_iload_n F dX11_seats_69 rfl (q := 4) rfl ?_
            refine z_bipush F dX11_seats_70 (by decide +kernel) ?_
            refine z_isub F dX11_seats_72 ?_
            refine z_wrap (fun v67 rv67 wv67 => ?_)
            have k68 : 0 ≤ v67 ∧ v67 ≤ 9 := by omega
            refine z_iald F hI gs_60 (by omega) (by omega) (by decide) bd_60 dX11_seats_73 (fun v69 (ev69 : v69 = M62 60 _) av69 bv69 => ?_)
            refine z_goto (tgt := 78) F dX11_seats_74 (by decide +kernel) ?_
            exact zxr_i F hQ hr hlk dX11_seats_78 ⟨by decide, by decide⟩ (by omega) ⟨hI, hW⟩ ⟨⟨by omega, by omega⟩, hF⟩
        · refine z_iload F dX11_seats_51 (q := 0) rfl ?_
          exact zxr_i F hQ hr hlk dX11_seats_53 ⟨by decide, by decide⟩ (by omega) ⟨hI, hW⟩ ⟨⟨by omega, by omega⟩, hF⟩
      · exact z_thrSW (cls := "java/lang/IllegalArgumentException") (names := ["java/lang/RuntimeException", "java/lang/Exception"]) (j := 48) F hlT hQ hlk hex (by decide +kernel) (by decide +kernel) (by decide) (gin lm_360 rfl) (gin lm_361 rfl) at_X11_105 bad_X11_105 (by decide +kernel) ot_X11_105 rfl rfl rfl dX11_seats_20 dX11_seats_23 dX11_seats_24 dX11_seats_27 dX11_seats_30 ⟨by decide, by decide⟩ (Nat.le_of_ble_eq_true rfl) ⟨hI, hW⟩ (Or.inl ⟨rfl, trivial, hF⟩)
  · refine zy_r (rest := [.ref (ad 0)]) F (k_X11_filledTray_to l hlT M ⟨hI, hW⟩ x0 (by omega) (by omega) (by omega)) cs_X11_248 (T := TX11) (N := 14) (ci := 11) rfl gs_0 (by decide) (by decide) ⟨by decide, by decide⟩ rfl rfl rfl (Nat.le_of_ble_eq_true rfl) dX11_seats_3 (fun E M9 hJ9 hx => by obtain ⟨h9, g9, rfl⟩ := hx <;> first | (exact zx_out hQ hlk hex ⟨by decide, by decide⟩ hJ9 (Or.inr (Or.inr (⟨h9, trivial, hF⟩))))) (fun M70 hI p71 => ?_)
    obtain ⟨hI, hW⟩ := hI
    obtain ⟨rfl, xp71⟩ := p71
    exact xp71.elim
set_option maxRecDepth 4000 in
theorem k_X7_neighboursAt_35 (l : Launch) (M : Mem) (hJ : Iw M) (x0 : Int) (hx0a : 0 ≤ x0) (hx0b : x0 ≤ 7) (x1 : Int) (hx1a : 0 ≤ x1) (hx1b : x1 ≤ 9) : CI l yX7_neighboursAt cX7_neighboursAt 5 (some .int) 2 (fun ad => [.ref (ad 35), ii x0, ii x1]) M (fun z M' => (0 ≤ z ∧ z ≤ 255) ∧ M = M') := by
  obtain ⟨hI, hW⟩ := hJ
  refine en_i (by decide +kernel) (fun ad => by exact Nat.le_of_ble_eq_true rfl) (fun D cy ad A p e s m args below meth c Q F hret => ?_)
  refine z_eq (ls' := [(0, .ref (ad 35)), (1, ii x0), (2, ii x1)]) rfl rfl rfl ?_
  refine z_iconst F dX7_neighboursAt_0 ?_
  refine z_istore_n F dX7_neighboursAt_1 rfl (by decide) (ls' := [(3, ii 0), (0, .ref (ad 35)), (1, ii x0), (2, ii x1)]) rfl ?_
  refine z_iconst F dX7_neighboursAt_2 ?_
  refine z_istore F dX7_neighboursAt_3 (by decide) (ls' := [(4, ii 0), (3, ii 0), (0, .ref (ad 35)), (1, ii x0), (2, ii x1)]) rfl ?_
  refine z_loc [2, 3, 4, 1, 0] (ls' := [(0, .ref (ad 35)), (1, ii x0), (2, ii x1), (3, ii 0), (4, ii 0)]) rfl ?_
  suffices key5 : ∀ (n : Nat) (y2 : Int) (y3 : Int), 0 ≤ y2 → y2 ≤ 255 → 0 ≤ y3 → y3 ≤ 8 → 8 - y3 < (n : Int) → Z D cy ad p l e (RMh 2) s m args below meth c A 5 0 0 Q 5 [(0, .ref (ad 35)), (1, ii x0), (2, ii x1), (3, ii y2), (4, ii y3)] [] M from key5 9 0 0 (by omega) (by omega) (by omega) (by omega) (by omega)
  intro n5
  induction n5 with
  | zero => intro y2 y3 ay2 by2 ay3 by3 hn5; exfalso; omega
  | succ n5 ih5 =>
    intro y2 y3 ay2 by2 ay3 by3 hn5
    refine z_iload F dX7_neighboursAt_5 (q := 4) rfl ?_
    refine z_aload_n F dX7_neighboursAt_7 rfl (q := 0) rfl ?_
    refine rf_X7_24 F gs_35 rfl dX7_neighboursAt_8 ?_
    refine gf_X7_28 F hI gs_2 rfl bd_2_3 dX7_neighboursAt_11 (fun v4 ev4 av4 bv4 => ?_)
    refine z_icmp_ge (tgt := 58) F dX7_neighboursAt_14 (by decide +kernel) (by omega) (by omega) (fun c5 => ?_) (fun c5 => ?_)
    · refine z_iload_n F dX7_neighboursAt_58 rfl (q := 3) rfl ?_
      exact hret _ _ 59 _ (by omega) ⟨hI, hW⟩ ⟨⟨by omega, by omega⟩, rfl⟩ dX7_neighboursAt_59
    · refine z_iload F dX7_neighboursAt_17 (q := 4) rfl ?_
      refine z_iload_n F dX7_neighboursAt_19 rfl (q := 1) rfl ?_
      refine z_icmp_eq (tgt := 52) F dX7_neighboursAt_20 (by decide +kernel) (by omega) (by omega) (fun c6 => ?_) (fun c6 => ?_)
      · refine z_iincN F dX7_neighboursAt_52 (q := 4) rfl (by decide) (fun v7 ev7 => ?_)
        refine z_eq (ls' := [(4, ii v7), (0, .ref (ad 35)), (1, ii x0), (2, ii x1), (3, ii y2)]) rfl rfl rfl ?_
        refine z_goto (tgt := 5) F dX7_neighboursAt_55 (by decide +kernel) ?_
        refine z_loc [1, 2, 3, 4, 0] (ls' := [(0, .ref (ad 35)), (1, ii x0), (2, ii x1), (3, ii y2), (4, ii v7)]) rfl ?_
        exact ih5 y2 v7 (by omega) (by omega) (by omega) (by omega) (by omega)
      · refine z_aload_n F dX7_neighboursAt_23 rfl (q := 0) rfl ?_
        refine rf_X7_24 F gs_35 rfl dX7_neighboursAt_24 ?_
        refine rf_X7_86 F gs_2 rfl dX7_neighboursAt_27 ?_
        refine z_iload_n F dX7_neighboursAt_30 rfl (q := 2) rfl ?_
        refine z_iald F hI gs_3 (by omega) (by omega) (by decide) bd_3 dX7_neighboursAt_31 (fun v8 (ev8 : v8 = M 3 _) av8 bv8 => ?_)
        refine z_aload_n F dX7_neighboursAt_32 rfl (q := 0) rfl ?_
        refine rf_X7_9 F gs_35 rfl dX7_neighboursAt_33 ?_
        refine z_iload F dX7_neighboursAt_36 (q := 4) rfl ?_
        refine z_iald F hI gs_36 (by omega) (by omega) (by decide) bd_36 dX7_neighboursAt_38 (fun v9 (ev9 : v9 = M 36 _) av9 bv9 => ?_)
        refine zn_i (rest := []) F (k_X11_isIn l M ⟨hI, hW⟩ v8 (by omega) (by omega) v9 (by omega) (by omega)) cs_X7_82 (by decide) (by decide) rfl rfl rfl (Nat.le_of_ble_eq_true rfl) dX7_neighboursAt_39 (fun v10 M11 rv10 hI p12 => ?_)
        obtain ⟨hI, hW⟩ := hI
        obtain ⟨⟨av10, bv10⟩, rfl, xp12⟩ := p12
        have hbqv9 := xp12
        refine z_if_eq (tgt := 52) F dX7_neighboursAt_42 (by decide +kernel) (by omega) (fun c13 => ?_) (fun c13 => ?_)
        · refine z_iincN F dX7_neighboursAt_52 (q := 4) rfl (by decide) (fun v14 ev14 => ?_)
          refine z_eq (ls' := [(4, ii v14), (0, .ref (ad 35)), (1, ii x0), (2, ii x1), (3, ii y2)]) rfl rfl rfl ?_
          refine z_goto (tgt := 5) F dX7_neighboursAt_55 (by decide +kernel) ?_
          refine z_loc [1, 2, 3, 4, 0] (ls' := [(0, .ref (ad 35)), (1, ii x0), (2, ii x1), (3, ii y2), (4, ii v14)]) rfl ?_
          exact ih5 y2 v14 (by omega) (by omega) (by omega) (by omega) (by omega)
        · refine z_iload_n F dX7_neighboursAt_45 rfl (q := 3) rfl ?_
          refine z_iconst F dX7_neighboursAt_46 ?_
          refine z_iload F dX7_neighboursAt_47 (q := 4) rfl ?_
          refine z_shl1 (k := 7) F dX7_neighboursAt_49 (by decide) (by omega) (by omega) (fun v15 ev15 av15 bv15 => ?_)
          refine z_ior_k (k := 8) F dX7_neighboursAt_50 (by decide) (by omega) (by omega) (by omega) (by omega) (fun v16 av16 bv16 => ?_)
          refine z_istore_n F dX7_neighboursAt_51 rfl (by decide) (ls' := [(3, ii v16), (0, .ref (ad 35)), (1, ii x0), (2, ii x1), (4, ii y3)]) rfl ?_
          refine z_iincN F dX7_neighboursAt_52 (q := 4) rfl (by decide) (fun v17 ev17 => ?_)
          refine z_eq (ls' := [(4, ii v17), (3, ii v16), (0, .ref (ad 35)), (1, ii x0), (2, ii x1)]) rfl rfl rfl ?_
          refine z_goto (tgt := 5) F dX7_neighboursAt_55 (by decide +kernel) ?_
          refine z_loc [2, 3, 4, 1, 0] (ls' := [(0, .ref (ad 35)), (1, ii x0), (2, ii x1), (3, ii v16), (4, ii v17)]) rfl ?_
          exact ih5 v16 v17 (by omega) (by omega) (by omega) (by omega) (by omega)
