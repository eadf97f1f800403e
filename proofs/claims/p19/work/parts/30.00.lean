theorem dJ6_bitCount_0f7a4_0 : decode cJ6_bitCount_0f7a4 0 = .ok (.iload_n 0, 1) := by decide +kernel
theorem dJ6_bitCount_0f7a4_1 : decode cJ6_bitCount_0f7a4 1 = .ok (.iload_n 0, 1) := by decide +kernel
theorem dJ6_bitCount_0f7a4_10 : decode cJ6_bitCount_0f7a4 10 = .ok (.iload_n 0, 1) := by decide +kernel
theorem dJ6_bitCount_0f7a4_11 : decode cJ6_bitCount_0f7a4 11 = .ok (.ldc_w 266, 3) := by decide +kernel
theorem dJ6_bitCount_0f7a4_14 : decode cJ6_bitCount_0f7a4 14 = .ok (.iand, 1) := by decide +kernel
theorem dJ6_bitCount_0f7a4_15 : decode cJ6_bitCount_0f7a4 15 = .ok (.iload_n 0, 1) := by decide +kernel
theorem dJ6_bitCount_0f7a4_16 : decode cJ6_bitCount_0f7a4 16 = .ok (.iconst 2, 1) := by decide +kernel
theorem dJ6_bitCount_0f7a4_17 : decode cJ6_bitCount_0f7a4 17 = .ok (.iushr, 1) := by decide +kernel
theorem dJ6_bitCount_0f7a4_18 : decode cJ6_bitCount_0f7a4 18 = .ok (.ldc_w 266, 3) := by decide +kernel
theorem dJ6_bitCount_0f7a4_2 : decode cJ6_bitCount_0f7a4 2 = .ok (.iconst 1, 1) := by decide +kernel
theorem dJ6_bitCount_0f7a4_21 : decode cJ6_bitCount_0f7a4 21 = .ok (.iand, 1) := by decide +kernel
theorem dJ6_bitCount_0f7a4_22 : decode cJ6_bitCount_0f7a4 22 = .ok (.iadd, 1) := by decide +kernel
theorem dJ6_bitCount_0f7a4_23 : decode cJ6_bitCount_0f7a4 23 = .ok (.istore_n 0, 1) := by decide +kernel
theorem dJ6_bitCount_0f7a4_24 : decode cJ6_bitCount_0f7a4 24 = .ok (.iload_n 0, 1) := by decide +kernel
theorem dJ6_bitCount_0f7a4_25 : decode cJ6_bitCount_0f7a4 25 = .ok (.iload_n 0, 1) := by decide +kernel
theorem dJ6_bitCount_0f7a4_26 : decode cJ6_bitCount_0f7a4 26 = .ok (.iconst 4, 1) := by decide +kernel
theorem dJ6_bitCount_0f7a4_27 : decode cJ6_bitCount_0f7a4 27 = .ok (.iushr, 1) := by decide +kernel
theorem dJ6_bitCount_0f7a4_28 : decode cJ6_bitCount_0f7a4 28 = .ok (.iadd, 1) := by decide +kernel
theorem dJ6_bitCount_0f7a4_29 : decode cJ6_bitCount_0f7a4 29 = .ok (.ldc_w 267, 3) := by decide +kernel
theorem dJ6_bitCount_0f7a4_3 : decode cJ6_bitCount_0f7a4 3 = .ok (.iushr, 1) := by decide +kernel
theorem dJ6_bitCount_0f7a4_32 : decode cJ6_bitCount_0f7a4 32 = .ok (.iand, 1) := by decide +kernel
theorem dJ6_bitCount_0f7a4_33 : decode cJ6_bitCount_0f7a4 33 = .ok (.istore_n 0, 1) := by decide +kernel
theorem dJ6_bitCount_0f7a4_34 : decode cJ6_bitCount_0f7a4 34 = .ok (.iload_n 0, 1) := by decide +kernel
theorem dJ6_bitCount_0f7a4_35 : decode cJ6_bitCount_0f7a4 35 = .ok (.iload_n 0, 1) := by decide +kernel
theorem dJ6_bitCount_0f7a4_36 : decode cJ6_bitCount_0f7a4 36 = .ok (.bipush 8, 2) := by decide +kernel
theorem dJ6_bitCount_0f7a4_38 : decode cJ6_bitCount_0f7a4 38 = .ok (.iushr, 1) := by decide +kernel
theorem dJ6_bitCount_0f7a4_39 : decode cJ6_bitCount_0f7a4 39 = .ok (.iadd, 1) := by decide +kernel
theorem dJ6_bitCount_0f7a4_4 : decode cJ6_bitCount_0f7a4 4 = .ok (.ldc_w 265, 3) := by decide +kernel
theorem dJ6_bitCount_0f7a4_40 : decode cJ6_bitCount_0f7a4 40 = .ok (.istore_n 0, 1) := by decide +kernel
theorem dJ6_bitCount_0f7a4_41 : decode cJ6_bitCount_0f7a4 41 = .ok (.iload_n 0, 1) := by decide +kernel
theorem dJ6_bitCount_0f7a4_42 : decode cJ6_bitCount_0f7a4 42 = .ok (.iload_n 0, 1) := by decide +kernel
theorem dJ6_bitCount_0f7a4_43 : decode cJ6_bitCount_0f7a4 43 = .ok (.bipush 16, 2) := by decide +kernel
theorem dJ6_bitCount_0f7a4_45 : decode cJ6_bitCount_0f7a4 45 = .ok (.iushr, 1) := by decide +kernel
theorem dJ6_bitCount_0f7a4_46 : decode cJ6_bitCount_0f7a4 46 = .ok (.iadd, 1) := by decide +kernel
theorem dJ6_bitCount_0f7a4_47 : decode cJ6_bitCount_0f7a4 47 = .ok (.istore_n 0, 1) := by decide +kernel
theorem dJ6_bitCount_0f7a4_48 : decode cJ6_bitCount_0f7a4 48 = .ok (.iload_n 0, 1) := by decide +kernel
theorem dJ6_bitCount_0f7a4_49 : decode cJ6_bitCount_0f7a4 49 = .ok (.bipush 63, 2) := by decide +kernel
theorem dJ6_bitCount_0f7a4_51 : decode cJ6_bitCount_0f7a4 51 = .ok (.iand, 1) := by decide +kernel
theorem dJ6_bitCount_0f7a4_52 : decode cJ6_bitCount_0f7a4 52 = .ok (.ireturn, 1) := by decide +kernel
theorem dJ6_bitCount_0f7a4_7 : decode cJ6_bitCount_0f7a4 7 = .ok (.iand, 1) := by decide +kernel
theorem dJ6_bitCount_0f7a4_8 : decode cJ6_bitCount_0f7a4 8 = .ok (.isub, 1) := by decide +kernel
theorem dJ6_bitCount_0f7a4_9 : decode cJ6_bitCount_0f7a4 9 = .ok (.istore_n 0, 1) := by decide +kernel
theorem dJ6_numberOfTrailingZeros_0f7a4_0 : decode cJ6_numberOfTrailingZeros_0f7a4 0 = .ok (.iload_n 0, 1) := by decide +kernel
theorem dJ6_numberOfTrailingZeros_0f7a4_1 : decode cJ6_numberOfTrailingZeros_0f7a4 1 = .ok (.iconst (-1), 1) := by decide +kernel
theorem dJ6_numberOfTrailingZeros_0f7a4_12 : decode cJ6_numberOfTrailingZeros_0f7a4 12 = .ok (.iload_n 0, 1) := by decide +kernel
theorem dJ6_numberOfTrailingZeros_0f7a4_13 : decode cJ6_numberOfTrailingZeros_0f7a4 13 = .ok (.bipush 32, 2) := by decide +kernel
theorem dJ6_numberOfTrailingZeros_0f7a4_15 : decode cJ6_numberOfTrailingZeros_0f7a4 15 = .ok (.iand, 1) := by decide +kernel
theorem dJ6_numberOfTrailingZeros_0f7a4_16 : decode cJ6_numberOfTrailingZeros_0f7a4 16 = .ok (.ireturn, 1) := by decide +kernel
theorem dJ6_numberOfTrailingZeros_0f7a4_17 : decode cJ6_numberOfTrailingZeros_0f7a4 17 = .ok (.iconst 1, 1) := by decide +kernel
theorem dJ6_numberOfTrailingZeros_0f7a4_18 : decode cJ6_numberOfTrailingZeros_0f7a4 18 = .ok (.istore_n 1, 1) := by decide +kernel
theorem dJ6_numberOfTrailingZeros_0f7a4_19 : decode cJ6_numberOfTrailingZeros_0f7a4 19 = .ok (.iload_n 0, 1) := by decide +kernel
theorem dJ6_numberOfTrailingZeros_0f7a4_2 : decode cJ6_numberOfTrailingZeros_0f7a4 2 = .ok (.ixor, 1) := by decide +kernel
theorem dJ6_numberOfTrailingZeros_0f7a4_20 : decode cJ6_numberOfTrailingZeros_0f7a4 20 = .ok (.ldc_w 264, 3) := by decide +kernel
theorem dJ6_numberOfTrailingZeros_0f7a4_23 : decode cJ6_numberOfTrailingZeros_0f7a4 23 = .ok (.if_icmp .le 11, 3) := by decide +kernel
theorem dJ6_numberOfTrailingZeros_0f7a4_3 : decode cJ6_numberOfTrailingZeros_0f7a4 3 = .ok (.iload_n 0, 1) := by decide +kernel
theorem dJ6_numberOfTrailingZeros_0f7a4_34 : decode cJ6_numberOfTrailingZeros_0f7a4 34 = .ok (.iload_n 0, 1) := by decide +kernel
theorem dJ6_numberOfTrailingZeros_0f7a4_35 : decode cJ6_numberOfTrailingZeros_0f7a4 35 = .ok (.sipush 256, 3) := by decide +kernel
theorem dJ6_numberOfTrailingZeros_0f7a4_38 : decode cJ6_numberOfTrailingZeros_0f7a4 38 = .ok (.if_icmp .le 11, 3) := by decide +kernel
theorem dJ6_numberOfTrailingZeros_0f7a4_4 : decode cJ6_numberOfTrailingZeros_0f7a4 4 = .ok (.iconst 1, 1) := by decide +kernel
theorem dJ6_numberOfTrailingZeros_0f7a4_49 : decode cJ6_numberOfTrailingZeros_0f7a4 49 = .ok (.iload_n 0, 1) := by decide +kernel
theorem dJ6_numberOfTrailingZeros_0f7a4_5 : decode cJ6_numberOfTrailingZeros_0f7a4 5 = .ok (.isub, 1) := by decide +kernel
theorem dJ6_numberOfTrailingZeros_0f7a4_50 : decode cJ6_numberOfTrailingZeros_0f7a4 50 = .ok (.bipush 16, 2) := by decide +kernel
theorem dJ6_numberOfTrailingZeros_0f7a4_52 : decode cJ6_numberOfTrailingZeros_0f7a4 52 = .ok (.if_icmp .le 10, 3) := by decide +kernel
theorem dJ6_numberOfTrailingZeros_0f7a4_55 : decode cJ6_numberOfTrailingZeros_0f7a4 55 = .ok (.iinc 1 4, 3) := by decide +kernel
theorem dJ6_numberOfTrailingZeros_0f7a4_58 : decode cJ6_numberOfTrailingZeros_0f7a4 58 = .ok (.iload_n 0, 1) := by decide +kernel
theorem dJ6_numberOfTrailingZeros_0f7a4_59 : decode cJ6_numberOfTrailingZeros_0f7a4 59 = .ok (.iconst 4, 1) := by decide +kernel
theorem dJ6_numberOfTrailingZeros_0f7a4_6 : decode cJ6_numberOfTrailingZeros_0f7a4 6 = .ok (.iand, 1) := by decide +kernel
theorem dJ6_numberOfTrailingZeros_0f7a4_60 : decode cJ6_numberOfTrailingZeros_0f7a4 60 = .ok (.iushr, 1) := by decide +kernel
theorem dJ6_numberOfTrailingZeros_0f7a4_61 : decode cJ6_numberOfTrailingZeros_0f7a4 61 = .ok (.istore_n 0, 1) := by decide +kernel
theorem dJ6_numberOfTrailingZeros_0f7a4_62 : decode cJ6_numberOfTrailingZeros_0f7a4 62 = .ok (.iload_n 0, 1) := by decide +kernel
theorem dJ6_numberOfTrailingZeros_0f7a4_63 : decode cJ6_numberOfTrailingZeros_0f7a4 63 = .ok (.iconst 4, 1) := by decide +kernel
theorem dJ6_numberOfTrailingZeros_0f7a4_64 : decode cJ6_numberOfTrailingZeros_0f7a4 64 = .ok (.if_icmp .le 10, 3) := by decide +kernel
theorem dJ6_numberOfTrailingZeros_0f7a4_67 : decode cJ6_numberOfTrailingZeros_0f7a4 67 = .ok (.iinc 1 2, 3) := by decide +kernel
theorem dJ6_numberOfTrailingZeros_0f7a4_7 : decode cJ6_numberOfTrailingZeros_0f7a4 7 = .ok (.istore_n 0, 1) := by decide +kernel
theorem dJ6_numberOfTrailingZeros_0f7a4_70 : decode cJ6_numberOfTrailingZeros_0f7a4 70 = .ok (.iload_n 0, 1) := by decide +kernel
theorem dJ6_numberOfTrailingZeros_0f7a4_71 : decode cJ6_numberOfTrailingZeros_0f7a4 71 = .ok (.iconst 2, 1) := by decide +kernel
theorem dJ6_numberOfTrailingZeros_0f7a4_72 : decode cJ6_numberOfTrailingZeros_0f7a4 72 = .ok (.iushr, 1) := by decide +kernel
theorem dJ6_numberOfTrailingZeros_0f7a4_73 : decode cJ6_numberOfTrailingZeros_0f7a4 73 = .ok (.istore_n 0, 1) := by decide +kernel
theorem dJ6_numberOfTrailingZeros_0f7a4_74 : decode cJ6_numberOfTrailingZeros_0f7a4 74 = .ok (.iload_n 1, 1) := by decide +kernel
theorem dJ6_numberOfTrailingZeros_0f7a4_75 : decode cJ6_numberOfTrailingZeros_0f7a4 75 = .ok (.iload_n 0, 1) := by decide +kernel
theorem dJ6_numberOfTrailingZeros_0f7a4_76 : decode cJ6_numberOfTrailingZeros_0f7a4 76 = .ok (.iconst 1, 1) := by decide +kernel
theorem dJ6_numberOfTrailingZeros_0f7a4_77 : decode cJ6_numberOfTrailingZeros_0f7a4 77 = .ok (.iushr, 1) := by decide +kernel
theorem dJ6_numberOfTrailingZeros_0f7a4_78 : decode cJ6_numberOfTrailingZeros_0f7a4 78 = .ok (.iadd, 1) := by decide +kernel
theorem dJ6_numberOfTrailingZeros_0f7a4_79 : decode cJ6_numberOfTrailingZeros_0f7a4 79 = .ok (.ireturn, 1) := by decide +kernel
theorem dJ6_numberOfTrailingZeros_0f7a4_8 : decode cJ6_numberOfTrailingZeros_0f7a4 8 = .ok (.iload_n 0, 1) := by decide +kernel
theorem dJ6_numberOfTrailingZeros_0f7a4_9 : decode cJ6_numberOfTrailingZeros_0f7a4 9 = .ok (.ifCond .gt 8, 3) := by decide +kernel
theorem dX11_clash_0 : decode cX11_clash 0 = .ok (.aload_n 0, 1) := by decide +kernel
theorem dX11_clash_1 : decode cX11_clash 1 = .ok (.iload_n 1, 1) := by decide +kernel
theorem dX11_clash_10 : decode cX11_clash 10 = .ok (.iload_n 1, 1) := by decide +kernel
theorem dX11_clash_11 : decode cX11_clash 11 = .ok (.iload_n 2, 1) := by decide +kernel
theorem dX11_clash_12 : decode cX11_clash 12 = .ok (.if_icmp .ne 13, 3) := by decide +kernel
theorem dX11_clash_15 : decode cX11_clash 15 = .ok (.new 101, 3) := by decide +kernel
theorem dX11_clash_18 : decode cX11_clash 18 = .ok (.dup, 1) := by decide +kernel
theorem dX11_clash_19 : decode cX11_clash 19 = .ok (.ldc 187, 2) := by decide +kernel
theorem dX11_clash_2 : decode cX11_clash 2 = .ok (.invokevirtual 132, 3) := by decide +kernel
theorem dX11_clash_21 : decode cX11_clash 21 = .ok (.invokespecial 105, 3) := by decide +kernel
theorem dX11_clash_24 : decode cX11_clash 24 = .ok (.athrow, 1) := by decide +kernel
theorem dX11_clash_25 : decode cX11_clash 25 = .ok (.aload_n 0, 1) := by decide +kernel
theorem dX11_clash_26 : decode cX11_clash 26 = .ok (.getfield 34, 3) := by decide +kernel
theorem dX11_clash_29 : decode cX11_clash 29 = .ok (.iload_n 1, 1) := by decide +kernel
theorem dX11_clash_30 : decode cX11_clash 30 = .ok (.iload_n 2, 1) := by decide +kernel
theorem dX11_clash_31 : decode cX11_clash 31 = .ok (.iload_n 3, 1) := by decide +kernel
theorem dX11_clash_32 : decode cX11_clash 32 = .ok (.invokevirtual 189, 3) := by decide +kernel
theorem dX11_clash_35 : decode cX11_clash 35 = .ok (.ireturn, 1) := by decide +kernel
theorem dX11_clash_5 : decode cX11_clash 5 = .ok (.aload_n 0, 1) := by decide +kernel
theorem dX11_clash_6 : decode cX11_clash 6 = .ok (.iload_n 2, 1) := by decide +kernel
theorem dX11_clash_7 : decode cX11_clash 7 = .ok (.invokevirtual 132, 3) := by decide +kernel
theorem dX11_clashes_0 : decode cX11_clashes 0 = .ok (.aload_n 0, 1) := by decide +kernel
theorem dX11_clashes_1 : decode cX11_clashes 1 = .ok (.getfield 34, 3) := by decide +kernel
theorem dX11_clashes_4 : decode cX11_clashes 4 = .ok (.invokevirtual 193, 3) := by decide +kernel
theorem dX11_clashes_7 : decode cX11_clashes 7 = .ok (.ireturn, 1) := by decide +kernel
theorem dX11_fault_0 : decode cX11_fault 0 = .ok (.iload_n 1, 1) := by decide +kernel
theorem dX11_fault_1 : decode cX11_fault 1 = .ok (.lookupswitch 43 #[(0, 27), (1, 35)], 27) := by decide +kernel
theorem dX11_fault_28 : decode cX11_fault 28 = .ok (.aload_n 0, 1) := by decide +kernel
theorem dX11_fault_29 : decode cX11_fault 29 = .ok (.getfield 25, 3) := by decide +kernel
theorem dX11_fault_32 : decode cX11_fault 32 = .ok (.getfield 111, 3) := by decide +kernel
theorem dX11_fault_35 : decode cX11_fault 35 = .ok (.ireturn, 1) := by decide +kernel
theorem dX11_fault_36 : decode cX11_fault 36 = .ok (.aload_n 0, 1) := by decide +kernel
theorem dX11_fault_37 : decode cX11_fault 37 = .ok (.getfield 25, 3) := by decide +kernel
theorem dX11_fault_40 : decode cX11_fault 40 = .ok (.getfield 129, 3) := by decide +kernel
theorem dX11_fault_43 : decode cX11_fault 43 = .ok (.ireturn, 1) := by decide +kernel
theorem dX11_fault_44 : decode cX11_fault 44 = .ok (.iconst (-1), 1) := by decide +kernel
theorem dX11_fault_45 : decode cX11_fault 45 = .ok (.ireturn, 1) := by decide +kernel
theorem dX11_feed_0 : decode cX11_feed 0 = .ok (.aload_n 0, 1) := by decide +kernel
theorem dX11_feed_1 : decode cX11_feed 1 = .ok (.getfield 93, 3) := by decide +kernel
theorem dX11_feed_10 : decode cX11_feed 10 = .ok (.iconst (-1), 1) := by decide +kernel
theorem dX11_feed_11 : decode cX11_feed 11 = .ok (.ireturn, 1) := by decide +kernel
theorem dX11_feed_12 : decode cX11_feed 12 = .ok (.aload_n 0, 1) := by decide +kernel
theorem dX11_feed_13 : decode cX11_feed 13 = .ok (.iload_n 1, 1) := by decide +kernel
theorem dX11_feed_14 : decode cX11_feed 14 = .ok (.invokevirtual 97, 3) := by decide +kernel
theorem dX11_feed_17 : decode cX11_feed 17 = .ok (.aload_n 0, 1) := by decide +kernel
theorem dX11_feed_18 : decode cX11_feed 18 = .ok (.iload_n 2, 1) := by decide +kernel
theorem dX11_feed_19 : decode cX11_feed 19 = .ok (.invokevirtual 97, 3) := by decide +kernel
theorem dX11_feed_22 : decode cX11_feed 22 = .ok (.aload_n 0, 1) := by decide +kernel
theorem dX11_feed_23 : decode cX11_feed 23 = .ok (.iload_n 3, 1) := by decide +kernel
theorem dX11_feed_24 : decode cX11_feed 24 = .ok (.invokevirtual 97, 3) := by decide +kernel
theorem dX11_feed_27 : decode cX11_feed 27 = .ok (.aload_n 0, 1) := by decide +kernel
theorem dX11_feed_28 : decode cX11_feed 28 = .ok (.iload 4, 2) := by decide +kernel
theorem dX11_feed_30 : decode cX11_feed 30 = .ok (.invokevirtual 97, 3) := by decide +kernel
theorem dX11_feed_33 : decode cX11_feed 33 = .ok (.aload_n 0, 1) := by decide +kernel
theorem dX11_feed_34 : decode cX11_feed 34 = .ok (.iload 5, 2) := by decide +kernel
theorem dX11_feed_36 : decode cX11_feed 36 = .ok (.invokevirtual 97, 3) := by decide +kernel
theorem dX11_feed_39 : decode cX11_feed 39 = .ok (.aload_n 0, 1) := by decide +kernel
theorem dX11_feed_4 : decode cX11_feed 4 = .ok (.sipush 880, 3) := by decide +kernel
theorem dX11_feed_40 : decode cX11_feed 40 = .ok (.getfield 93, 3) := by decide +kernel
theorem dX11_feed_43 : decode cX11_feed 43 = .ok (.ireturn, 1) := by decide +kernel
theorem dX11_feed_7 : decode cX11_feed 7 = .ok (.if_icmp .le 5, 3) := by decide +kernel
theorem dX11_isIn_0 : decode cX11_isIn 0 = .ok (.iload_n 0, 1) := by decide +kernel
theorem dX11_isIn_1 : decode cX11_isIn 1 = .ok (.iload_n 1, 1) := by decide +kernel
theorem dX11_isIn_12 : decode cX11_isIn 12 = .ok (.iconst 0, 1) := by decide +kernel
theorem dX11_isIn_13 : decode cX11_isIn 13 = .ok (.ireturn, 1) := by decide +kernel
theorem dX11_isIn_2 : decode cX11_isIn 2 = .ok (.ishr, 1) := by decide +kernel
theorem dX11_isIn_3 : decode cX11_isIn 3 = .ok (.iconst 1, 1) := by decide +kernel
theorem dX11_isIn_4 : decode cX11_isIn 4 = .ok (.iand, 1) := by decide +kernel
theorem dX11_isIn_5 : decode cX11_isIn 5 = .ok (.ifCond .eq 7, 3) := by decide +kernel
theorem dX11_isIn_8 : decode cX11_isIn 8 = .ok (.iconst 1, 1) := by decide +kernel
theorem dX11_isIn_9 : decode cX11_isIn 9 = .ok (.goto 4, 3) := by decide +kernel
theorem dX11_layFour_0 : decode cX11_layFour 0 = .ok (.bipush 24, 2) := by decide +kernel
theorem dX11_layFour_11 : decode cX11_layFour 11 = .ok (.aload_n 0, 1) := by decide +kernel
theorem dX11_layFour_12 : decode cX11_layFour 12 = .ok (.getfield 9, 3) := by decide +kernel
theorem dX11_layFour_15 : decode cX11_layFour 15 = .ok (.arraylength, 1) := by decide +kernel
theorem dX11_layFour_16 : decode cX11_layFour 16 = .ok (.if_icmp .ge 32, 3) := by decide +kernel
theorem dX11_layFour_19 : decode cX11_layFour 19 = .ok (.aload_n 0, 1) := by decide +kernel
theorem dX11_layFour_2 : decode cX11_layFour 2 = .ok (.istore_n 2, 1) := by decide +kernel
theorem dX11_layFour_20 : decode cX11_layFour 20 = .ok (.getfield 9, 3) := by decide +kernel
theorem dX11_layFour_23 : decode cX11_layFour 23 = .ok (.aload_n 0, 1) := by decide +kernel
theorem dX11_layFour_24 : decode cX11_layFour 24 = .ok (.getfield 93, 3) := by decide +kernel
theorem dX11_layFour_27 : decode cX11_layFour 27 = .ok (.iload_n 1, 1) := by decide +kernel
theorem dX11_layFour_28 : decode cX11_layFour 28 = .ok (.iload_n 2, 1) := by decide +kernel
theorem dX11_layFour_29 : decode cX11_layFour 29 = .ok (.iushr, 1) := by decide +kernel
theorem dX11_layFour_3 : decode cX11_layFour 3 = .ok (.iload_n 2, 1) := by decide +kernel
theorem dX11_layFour_30 : decode cX11_layFour 30 = .ok (.i2b, 1) := by decide +kernel
theorem dX11_layFour_31 : decode cX11_layFour 31 = .ok (.bastore, 1) := by decide +kernel
theorem dX11_layFour_32 : decode cX11_layFour 32 = .ok (.aload_n 0, 1) := by decide +kernel
theorem dX11_layFour_33 : decode cX11_layFour 33 = .ok (.dup, 1) := by decide +kernel
theorem dX11_layFour_34 : decode cX11_layFour 34 = .ok (.getfield 93, 3) := by decide +kernel
theorem dX11_layFour_37 : decode cX11_layFour 37 = .ok (.iconst 1, 1) := by decide +kernel
theorem dX11_layFour_38 : decode cX11_layFour 38 = .ok (.iadd, 1) := by decide +kernel
theorem dX11_layFour_39 : decode cX11_layFour 39 = .ok (.putfield 93, 3) := by decide +kernel
theorem dX11_layFour_4 : decode cX11_layFour 4 = .ok (.ifCond .lt 44, 3) := by decide +kernel
theorem dX11_layFour_42 : decode cX11_layFour 42 = .ok (.iinc 2 (-8), 3) := by decide +kernel
theorem dX11_layFour_45 : decode cX11_layFour 45 = .ok (.goto (-42), 3) := by decide +kernel
theorem dX11_layFour_48 : decode cX11_layFour 48 = .ok (.return_, 1) := by decide +kernel
theorem dX11_layFour_7 : decode cX11_layFour 7 = .ok (.aload_n 0, 1) := by decide +kernel
theorem dX11_layFour_8 : decode cX11_layFour 8 = .ok (.getfield 93, 3) := by decide +kernel
theorem dX11_needPlace_0 : decode cX11_needPlace 0 = .ok (.aload_n 0, 1) := by decide +kernel
theorem dX11_needPlace_1 : decode cX11_needPlace 1 = .ok (.getfield 16, 3) := by decide +kernel
theorem dX11_needPlace_11 : decode cX11_needPlace 11 = .ok (.new 203, 3) := by decide +kernel
theorem dX11_needPlace_14 : decode cX11_needPlace 14 = .ok (.dup, 1) := by decide +kernel
theorem dX11_needPlace_15 : decode cX11_needPlace 15 = .ok (.ldc 211, 2) := by decide +kernel
theorem dX11_needPlace_17 : decode cX11_needPlace 17 = .ok (.invokespecial 207, 3) := by decide +kernel
theorem dX11_needPlace_20 : decode cX11_needPlace 20 = .ok (.athrow, 1) := by decide +kernel
theorem dX11_needPlace_21 : decode cX11_needPlace 21 = .ok (.return_, 1) := by decide +kernel
theorem dX11_needPlace_4 : decode cX11_needPlace 4 = .ok (.iload_n 1, 1) := by decide +kernel
theorem dX11_needPlace_5 : decode cX11_needPlace 5 = .ok (.invokevirtual 208, 3) := by decide +kernel
theorem dX11_needPlace_8 : decode cX11_needPlace 8 = .ok (.ifCond .ne 13, 3) := by decide +kernel
theorem dX11_needThing_0 : decode cX11_needThing 0 = .ok (.aload_n 0, 1) := by decide +kernel
theorem dX11_needThing_1 : decode cX11_needThing 1 = .ok (.getfield 16, 3) := by decide +kernel
theorem dX11_needThing_11 : decode cX11_needThing 11 = .ok (.new 203, 3) := by decide +kernel
theorem dX11_needThing_14 : decode cX11_needThing 14 = .ok (.dup, 1) := by decide +kernel
theorem dX11_needThing_15 : decode cX11_needThing 15 = .ok (.ldc 205, 2) := by decide +kernel
theorem dX11_needThing_17 : decode cX11_needThing 17 = .ok (.invokespecial 207, 3) := by decide +kernel
theorem dX11_needThing_20 : decode cX11_needThing 20 = .ok (.athrow, 1) := by decide +kernel
theorem dX11_needThing_21 : decode cX11_needThing 21 = .ok (.return_, 1) := by decide +kernel
theorem dX11_needThing_4 : decode cX11_needThing 4 = .ok (.iload_n 1, 1) := by decide +kernel
theorem dX11_needThing_5 : decode cX11_needThing 5 = .ok (.invokevirtual 200, 3) := by decide +kernel
theorem dX11_needThing_8 : decode cX11_needThing 8 = .ok (.ifCond .ne 13, 3) := by decide +kernel
theorem dX11_place_0 : decode cX11_place 0 = .ok (.aload_n 0, 1) := by decide +kernel
theorem dX11_place_1 : decode cX11_place 1 = .ok (.iload_n 1, 1) := by decide +kernel
theorem dX11_place_2 : decode cX11_place 2 = .ok (.invokevirtual 169, 3) := by decide +kernel
theorem dX11_place_32 : decode cX11_place 32 = .ok (.aload_n 0, 1) := by decide +kernel
theorem dX11_place_33 : decode cX11_place 33 = .ok (.getfield 34, 3) := by decide +kernel
theorem dX11_place_36 : decode cX11_place 36 = .ok (.iload_n 1, 1) := by decide +kernel
theorem dX11_place_37 : decode cX11_place 37 = .ok (.invokevirtual 172, 3) := by decide +kernel
theorem dX11_place_40 : decode cX11_place 40 = .ok (.ireturn, 1) := by decide +kernel
theorem dX11_place_41 : decode cX11_place 41 = .ok (.aload_n 0, 1) := by decide +kernel
theorem dX11_place_42 : decode cX11_place 42 = .ok (.getfield 16, 3) := by decide +kernel
theorem dX11_place_45 : decode cX11_place 45 = .ok (.getfield 176, 3) := by decide +kernel
theorem dX11_place_48 : decode cX11_place 48 = .ok (.iload_n 1, 1) := by decide +kernel
theorem dX11_place_49 : decode cX11_place 49 = .ok (.iaload, 1) := by decide +kernel
theorem dX11_place_5 : decode cX11_place 5 = .ok (.iload_n 2, 1) := by decide +kernel
theorem dX11_place_50 : decode cX11_place 50 = .ok (.ireturn, 1) := by decide +kernel
theorem dX11_place_51 : decode cX11_place 51 = .ok (.aload_n 0, 1) := by decide +kernel
theorem dX11_place_52 : decode cX11_place 52 = .ok (.getfield 16, 3) := by decide +kernel
theorem dX11_place_55 : decode cX11_place 55 = .ok (.getfield 179, 3) := by decide +kernel
theorem dX11_place_58 : decode cX11_place 58 = .ok (.iload_n 1, 1) := by decide +kernel
theorem dX11_place_59 : decode cX11_place 59 = .ok (.iaload, 1) := by decide +kernel
theorem dX11_place_6 : decode cX11_place 6 = .ok (.tableswitch 55 0 2 #[26, 35, 45], 26) := by decide +kernel
theorem dX11_place_60 : decode cX11_place 60 = .ok (.ireturn, 1) := by decide +kernel
theorem dX11_place_61 : decode cX11_place 61 = .ok (.new 101, 3) := by decide +kernel
theorem dX11_place_64 : decode cX11_place 64 = .ok (.dup, 1) := by decide +kernel
theorem dX11_place_65 : decode cX11_place 65 = .ok (.ldc 182, 2) := by decide +kernel
theorem dX11_place_67 : decode cX11_place 67 = .ok (.invokespecial 105, 3) := by decide +kernel
theorem dX11_place_70 : decode cX11_place 70 = .ok (.athrow, 1) := by decide +kernel
theorem dX11_steps_0 : decode cX11_steps 0 = .ok (.aload_n 0, 1) := by decide +kernel
theorem dX11_steps_1 : decode cX11_steps 1 = .ok (.iload_n 1, 1) := by decide +kernel
theorem dX11_steps_10 : decode cX11_steps 10 = .ok (.aload_n 0, 1) := by decide +kernel
theorem dX11_steps_11 : decode cX11_steps 11 = .ok (.getfield 16, 3) := by decide +kernel
theorem dX11_steps_14 : decode cX11_steps 14 = .ok (.iload_n 1, 1) := by decide +kernel
theorem dX11_steps_15 : decode cX11_steps 15 = .ok (.iload_n 2, 1) := by decide +kernel
theorem dX11_steps_16 : decode cX11_steps 16 = .ok (.invokevirtual 184, 3) := by decide +kernel
theorem dX11_steps_19 : decode cX11_steps 19 = .ok (.ireturn, 1) := by decide +kernel
theorem dX11_steps_2 : decode cX11_steps 2 = .ok (.invokevirtual 169, 3) := by decide +kernel
theorem dX11_steps_5 : decode cX11_steps 5 = .ok (.aload_n 0, 1) := by decide +kernel
theorem dX11_steps_6 : decode cX11_steps 6 = .ok (.iload_n 2, 1) := by decide +kernel
theorem dX11_steps_7 : decode cX11_steps 7 = .ok (.invokevirtual 169, 3) := by decide +kernel
theorem dX11_thing_0 : decode cX11_thing 0 = .ok (.aload_n 0, 1) := by decide +kernel
theorem dX11_thing_1 : decode cX11_thing 1 = .ok (.iload_n 1, 1) := by decide +kernel
theorem dX11_thing_100 : decode cX11_thing 100 = .ok (.ifCond .eq 7, 3) := by decide +kernel
theorem dX11_thing_103 : decode cX11_thing 103 = .ok (.iconst 1, 1) := by decide +kernel
theorem dX11_thing_104 : decode cX11_thing 104 = .ok (.goto 4, 3) := by decide +kernel
theorem dX11_thing_107 : decode cX11_thing 107 = .ok (.iconst 0, 1) := by decide +kernel
theorem dX11_thing_108 : decode cX11_thing 108 = .ok (.ireturn, 1) := by decide +kernel
theorem dX11_thing_109 : decode cX11_thing 109 = .ok (.aload_n 0, 1) := by decide +kernel
theorem dX11_thing_110 : decode cX11_thing 110 = .ok (.getfield 16, 3) := by decide +kernel
theorem dX11_thing_113 : decode cX11_thing 113 = .ok (.getfield 151, 3) := by decide +kernel
theorem dX11_thing_116 : decode cX11_thing 116 = .ok (.aload_n 0, 1) := by decide +kernel
theorem dX11_thing_117 : decode cX11_thing 117 = .ok (.getfield 34, 3) := by decide +kernel
theorem dX11_thing_120 : decode cX11_thing 120 = .ok (.getfield 138, 3) := by decide +kernel
theorem dX11_thing_123 : decode cX11_thing 123 = .ok (.iload_n 1, 1) := by decide +kernel
theorem dX11_thing_124 : decode cX11_thing 124 = .ok (.iaload, 1) := by decide +kernel
theorem dX11_thing_125 : decode cX11_thing 125 = .ok (.invokevirtual 155, 3) := by decide +kernel
theorem dX11_thing_128 : decode cX11_thing 128 = .ok (.ifCond .eq 7, 3) := by decide +kernel
theorem dX11_thing_131 : decode cX11_thing 131 = .ok (.iconst 1, 1) := by decide +kernel
theorem dX11_thing_132 : decode cX11_thing 132 = .ok (.goto 4, 3) := by decide +kernel
theorem dX11_thing_135 : decode cX11_thing 135 = .ok (.iconst 0, 1) := by decide +kernel
theorem dX11_thing_136 : decode cX11_thing 136 = .ok (.ireturn, 1) := by decide +kernel
theorem dX11_thing_137 : decode cX11_thing 137 = .ok (.aload_n 0, 1) := by decide +kernel
theorem dX11_thing_138 : decode cX11_thing 138 = .ok (.getfield 16, 3) := by decide +kernel
theorem dX11_thing_141 : decode cX11_thing 141 = .ok (.getfield 151, 3) := by decide +kernel
theorem dX11_thing_144 : decode cX11_thing 144 = .ok (.aload_n 0, 1) := by decide +kernel
theorem dX11_thing_145 : decode cX11_thing 145 = .ok (.getfield 34, 3) := by decide +kernel
theorem dX11_thing_148 : decode cX11_thing 148 = .ok (.getfield 138, 3) := by decide +kernel
theorem dX11_thing_151 : decode cX11_thing 151 = .ok (.iload_n 1, 1) := by decide +kernel
theorem dX11_thing_152 : decode cX11_thing 152 = .ok (.iaload, 1) := by decide +kernel
theorem dX11_thing_153 : decode cX11_thing 153 = .ok (.invokevirtual 160, 3) := by decide +kernel
theorem dX11_thing_156 : decode cX11_thing 156 = .ok (.ifCond .eq 7, 3) := by decide +kernel
theorem dX11_thing_159 : decode cX11_thing 159 = .ok (.iconst 1, 1) := by decide +kernel
theorem dX11_thing_160 : decode cX11_thing 160 = .ok (.goto 4, 3) := by decide +kernel
theorem dX11_thing_163 : decode cX11_thing 163 = .ok (.iconst 0, 1) := by decide +kernel
theorem dX11_thing_164 : decode cX11_thing 164 = .ok (.ireturn, 1) := by decide +kernel
theorem dX11_thing_165 : decode cX11_thing 165 = .ok (.aload_n 0, 1) := by decide +kernel
theorem dX11_thing_166 : decode cX11_thing 166 = .ok (.getfield 34, 3) := by decide +kernel
theorem dX11_thing_169 : decode cX11_thing 169 = .ok (.iload_n 1, 1) := by decide +kernel
theorem dX11_thing_170 : decode cX11_thing 170 = .ok (.aload_n 0, 1) := by decide +kernel
theorem dX11_thing_171 : decode cX11_thing 171 = .ok (.getfield 34, 3) := by decide +kernel
theorem dX11_thing_174 : decode cX11_thing 174 = .ok (.getfield 135, 3) := by decide +kernel
theorem dX11_thing_177 : decode cX11_thing 177 = .ok (.iload_n 1, 1) := by decide +kernel
theorem dX11_thing_178 : decode cX11_thing 178 = .ok (.iaload, 1) := by decide +kernel
theorem dX11_thing_179 : decode cX11_thing 179 = .ok (.invokevirtual 163, 3) := by decide +kernel
theorem dX11_thing_182 : decode cX11_thing 182 = .ok (.ireturn, 1) := by decide +kernel
theorem dX11_thing_183 : decode cX11_thing 183 = .ok (.new 101, 3) := by decide +kernel
theorem dX11_thing_186 : decode cX11_thing 186 = .ok (.dup, 1) := by decide +kernel
theorem dX11_thing_187 : decode cX11_thing 187 = .ok (.ldc 167, 2) := by decide +kernel
theorem dX11_thing_189 : decode cX11_thing 189 = .ok (.invokespecial 105, 3) := by decide +kernel
theorem dX11_thing_192 : decode cX11_thing 192 = .ok (.athrow, 1) := by decide +kernel
theorem dX11_thing_2 : decode cX11_thing 2 = .ok (.invokevirtual 132, 3) := by decide +kernel
theorem dX11_thing_5 : decode cX11_thing 5 = .ok (.iload_n 2, 1) := by decide +kernel
theorem dX11_thing_52 : decode cX11_thing 52 = .ok (.aload_n 0, 1) := by decide +kernel
theorem dX11_thing_53 : decode cX11_thing 53 = .ok (.getfield 34, 3) := by decide +kernel
theorem dX11_thing_56 : decode cX11_thing 56 = .ok (.getfield 135, 3) := by decide +kernel
theorem dX11_thing_59 : decode cX11_thing 59 = .ok (.iload_n 1, 1) := by decide +kernel
theorem dX11_thing_6 : decode cX11_thing 6 = .ok (.tableswitch 177 0 7 #[46, 56, 66, 76, 86, 103, 131, 159], 46) := by decide +kernel
theorem dX11_thing_60 : decode cX11_thing 60 = .ok (.iaload, 1) := by decide +kernel
theorem dX11_thing_61 : decode cX11_thing 61 = .ok (.ireturn, 1) := by decide +kernel
theorem dX11_thing_62 : decode cX11_thing 62 = .ok (.aload_n 0, 1) := by decide +kernel
theorem dX11_thing_63 : decode cX11_thing 63 = .ok (.getfield 34, 3) := by decide +kernel
theorem dX11_thing_66 : decode cX11_thing 66 = .ok (.getfield 138, 3) := by decide +kernel
theorem dX11_thing_69 : decode cX11_thing 69 = .ok (.iload_n 1, 1) := by decide +kernel
theorem dX11_thing_70 : decode cX11_thing 70 = .ok (.iaload, 1) := by decide +kernel
theorem dX11_thing_71 : decode cX11_thing 71 = .ok (.ireturn, 1) := by decide +kernel
theorem dX11_thing_72 : decode cX11_thing 72 = .ok (.aload_n 0, 1) := by decide +kernel
theorem dX11_thing_73 : decode cX11_thing 73 = .ok (.getfield 16, 3) := by decide +kernel
theorem dX11_thing_76 : decode cX11_thing 76 = .ok (.getfield 141, 3) := by decide +kernel
theorem dX11_thing_79 : decode cX11_thing 79 = .ok (.iload_n 1, 1) := by decide +kernel
theorem dX11_thing_80 : decode cX11_thing 80 = .ok (.iaload, 1) := by decide +kernel
theorem dX11_thing_81 : decode cX11_thing 81 = .ok (.ireturn, 1) := by decide +kernel
theorem dX11_thing_82 : decode cX11_thing 82 = .ok (.aload_n 0, 1) := by decide +kernel
theorem dX11_thing_83 : decode cX11_thing 83 = .ok (.getfield 16, 3) := by decide +kernel
theorem dX11_thing_86 : decode cX11_thing 86 = .ok (.getfield 144, 3) := by decide +kernel
theorem dX11_thing_89 : decode cX11_thing 89 = .ok (.iload_n 1, 1) := by decide +kernel
theorem dX11_thing_90 : decode cX11_thing 90 = .ok (.iaload, 1) := by decide +kernel
theorem dX11_thing_91 : decode cX11_thing 91 = .ok (.ireturn, 1) := by decide +kernel
theorem dX11_thing_92 : decode cX11_thing 92 = .ok (.aload_n 0, 1) := by decide +kernel
theorem dX11_thing_93 : decode cX11_thing 93 = .ok (.getfield 16, 3) := by decide +kernel
theorem dX11_thing_96 : decode cX11_thing 96 = .ok (.iload_n 1, 1) := by decide +kernel
theorem dX11_thing_97 : decode cX11_thing 97 = .ok (.invokevirtual 147, 3) := by decide +kernel
theorem dX2_isEven_0 : decode cX2_isEven 0 = .ok (.iload_n 1, 1) := by decide +kernel
theorem dX2_isEven_1 : decode cX2_isEven 1 = .ok (.ifCond .ne 20, 3) := by decide +kernel
theorem dX2_isEven_10 : decode cX2_isEven 10 = .ok (.ifCond .eq 7, 3) := by decide +kernel
theorem dX2_isEven_13 : decode cX2_isEven 13 = .ok (.iconst 1, 1) := by decide +kernel
theorem dX2_isEven_14 : decode cX2_isEven 14 = .ok (.goto 18, 3) := by decide +kernel
theorem dX2_isEven_17 : decode cX2_isEven 17 = .ok (.iconst 0, 1) := by decide +kernel
theorem dX2_isEven_18 : decode cX2_isEven 18 = .ok (.goto 14, 3) := by decide +kernel
theorem dX2_isEven_21 : decode cX2_isEven 21 = .ok (.iload_n 1, 1) := by decide +kernel
theorem dX2_isEven_22 : decode cX2_isEven 22 = .ok (.iconst 2, 1) := by decide +kernel
theorem dX2_isEven_23 : decode cX2_isEven 23 = .ok (.irem, 1) := by decide +kernel
theorem dX2_isEven_24 : decode cX2_isEven 24 = .ok (.ifCond .ne 7, 3) := by decide +kernel
theorem dX2_isEven_27 : decode cX2_isEven 27 = .ok (.iconst 1, 1) := by decide +kernel
theorem dX2_isEven_28 : decode cX2_isEven 28 = .ok (.goto 4, 3) := by decide +kernel
theorem dX2_isEven_31 : decode cX2_isEven 31 = .ok (.iconst 0, 1) := by decide +kernel
theorem dX2_isEven_32 : decode cX2_isEven 32 = .ok (.ireturn, 1) := by decide +kernel
theorem dX2_isEven_4 : decode cX2_isEven 4 = .ok (.aload_n 0, 1) := by decide +kernel
theorem dX2_isEven_5 : decode cX2_isEven 5 = .ok (.getfield 15, 3) := by decide +kernel
theorem dX2_isEven_8 : decode cX2_isEven 8 = .ok (.iconst 1, 1) := by decide +kernel
theorem dX2_isEven_9 : decode cX2_isEven 9 = .ok (.iand, 1) := by decide +kernel
theorem dX2_isOdd_0 : decode cX2_isOdd 0 = .ok (.iload_n 1, 1) := by decide +kernel
theorem dX2_isOdd_1 : decode cX2_isOdd 1 = .ok (.ifCond .ne 20, 3) := by decide +kernel
theorem dX2_isOdd_10 : decode cX2_isOdd 10 = .ok (.ifCond .eq 7, 3) := by decide +kernel
theorem dX2_isOdd_13 : decode cX2_isOdd 13 = .ok (.iconst 1, 1) := by decide +kernel
theorem dX2_isOdd_14 : decode cX2_isOdd 14 = .ok (.goto 18, 3) := by decide +kernel
theorem dX2_isOdd_17 : decode cX2_isOdd 17 = .ok (.iconst 0, 1) := by decide +kernel
theorem dX2_isOdd_18 : decode cX2_isOdd 18 = .ok (.goto 14, 3) := by decide +kernel
theorem dX2_isOdd_21 : decode cX2_isOdd 21 = .ok (.iload_n 1, 1) := by decide +kernel
theorem dX2_isOdd_22 : decode cX2_isOdd 22 = .ok (.iconst 2, 1) := by decide +kernel
theorem dX2_isOdd_23 : decode cX2_isOdd 23 = .ok (.irem, 1) := by decide +kernel
theorem dX2_isOdd_24 : decode cX2_isOdd 24 = .ok (.ifCond .eq 7, 3) := by decide +kernel
theorem dX2_isOdd_27 : decode cX2_isOdd 27 = .ok (.iconst 1, 1) := by decide +kernel
theorem dX2_isOdd_28 : decode cX2_isOdd 28 = .ok (.goto 4, 3) := by decide +kernel
theorem dX2_isOdd_31 : decode cX2_isOdd 31 = .ok (.iconst 0, 1) := by decide +kernel
theorem dX2_isOdd_32 : decode cX2_isOdd 32 = .ok (.ireturn, 1) := by decide +kernel
theorem dX2_isOdd_4 : decode cX2_isOdd 4 = .ok (.aload_n 0, 1) := by decide +kernel
theorem dX2_isOdd_5 : decode cX2_isOdd 5 = .ok (.getfield 15, 3) := by decide +kernel
theorem dX2_isOdd_8 : decode cX2_isOdd 8 = .ok (.iconst 2, 1) := by decide +kernel
theorem dX2_isOdd_9 : decode cX2_isOdd 9 = .ok (.iand, 1) := by decide +kernel
theorem dX7_clashCount_0 : decode cX7_clashCount 0 = .ok (.iconst 0, 1) := by decide +kernel
theorem dX7_clashCount_1 : decode cX7_clashCount 1 = .ok (.istore_n 1, 1) := by decide +kernel
theorem dX7_clashCount_12 : decode cX7_clashCount 12 = .ok (.if_icmp .ge 26, 3) := by decide +kernel
theorem dX7_clashCount_15 : decode cX7_clashCount 15 = .ok (.iload_n 1, 1) := by decide +kernel
theorem dX7_clashCount_16 : decode cX7_clashCount 16 = .ok (.aload_n 0, 1) := by decide +kernel
theorem dX7_clashCount_17 : decode cX7_clashCount 17 = .ok (.iload_n 2, 1) := by decide +kernel
theorem dX7_clashCount_18 : decode cX7_clashCount 18 = .ok (.aload_n 0, 1) := by decide +kernel
theorem dX7_clashCount_19 : decode cX7_clashCount 19 = .ok (.getfield 9, 3) := by decide +kernel
theorem dX7_clashCount_2 : decode cX7_clashCount 2 = .ok (.iconst 0, 1) := by decide +kernel
theorem dX7_clashCount_22 : decode cX7_clashCount 22 = .ok (.iload_n 2, 1) := by decide +kernel
theorem dX7_clashCount_23 : decode cX7_clashCount 23 = .ok (.iaload, 1) := by decide +kernel
theorem dX7_clashCount_24 : decode cX7_clashCount 24 = .ok (.invokevirtual 92, 3) := by decide +kernel
theorem dX7_clashCount_27 : decode cX7_clashCount 27 = .ok (.invokestatic 95, 3) := by decide +kernel
theorem dX7_clashCount_3 : decode cX7_clashCount 3 = .ok (.istore_n 2, 1) := by decide +kernel
theorem dX7_clashCount_30 : decode cX7_clashCount 30 = .ok (.iadd, 1) := by decide +kernel
theorem dX7_clashCount_31 : decode cX7_clashCount 31 = .ok (.istore_n 1, 1) := by decide +kernel
theorem dX7_clashCount_32 : decode cX7_clashCount 32 = .ok (.iinc 2 1, 3) := by decide +kernel
theorem dX7_clashCount_35 : decode cX7_clashCount 35 = .ok (.goto (-31), 3) := by decide +kernel
theorem dX7_clashCount_38 : decode cX7_clashCount 38 = .ok (.iload_n 1, 1) := by decide +kernel
theorem dX7_clashCount_39 : decode cX7_clashCount 39 = .ok (.iconst 2, 1) := by decide +kernel
theorem dX7_clashCount_4 : decode cX7_clashCount 4 = .ok (.iload_n 2, 1) := by decide +kernel
theorem dX7_clashCount_40 : decode cX7_clashCount 40 = .ok (.idiv, 1) := by decide +kernel
theorem dX7_clashCount_41 : decode cX7_clashCount 41 = .ok (.ireturn, 1) := by decide +kernel
theorem dX7_clashCount_5 : decode cX7_clashCount 5 = .ok (.aload_n 0, 1) := by decide +kernel
theorem dX7_clashCount_6 : decode cX7_clashCount 6 = .ok (.getfield 24, 3) := by decide +kernel
theorem dX7_clashCount_9 : decode cX7_clashCount 9 = .ok (.getfield 28, 3) := by decide +kernel
theorem dX7_firstTwo_0 : decode cX7_firstTwo 0 = .ok (.iconst 0, 1) := by decide +kernel
theorem dX7_firstTwo_1 : decode cX7_firstTwo 1 = .ok (.istore_n 1, 1) := by decide +kernel
theorem dX7_firstTwo_10 : decode cX7_firstTwo 10 = .ok (.if_icmp .ge 39, 3) := by decide +kernel
theorem dX7_firstTwo_13 : decode cX7_firstTwo 13 = .ok (.aload_n 0, 1) := by decide +kernel
theorem dX7_firstTwo_14 : decode cX7_firstTwo 14 = .ok (.iload_n 1, 1) := by decide +kernel
theorem dX7_firstTwo_15 : decode cX7_firstTwo 15 = .ok (.aload_n 0, 1) := by decide +kernel
theorem dX7_firstTwo_16 : decode cX7_firstTwo 16 = .ok (.getfield 9, 3) := by decide +kernel
theorem dX7_firstTwo_19 : decode cX7_firstTwo 19 = .ok (.iload_n 1, 1) := by decide +kernel
theorem dX7_firstTwo_2 : decode cX7_firstTwo 2 = .ok (.iload_n 1, 1) := by decide +kernel
theorem dX7_firstTwo_20 : decode cX7_firstTwo 20 = .ok (.iaload, 1) := by decide +kernel
theorem dX7_firstTwo_21 : decode cX7_firstTwo 21 = .ok (.invokevirtual 92, 3) := by decide +kernel
theorem dX7_firstTwo_24 : decode cX7_firstTwo 24 = .ok (.iload_n 1, 1) := by decide +kernel
theorem dX7_firstTwo_25 : decode cX7_firstTwo 25 = .ok (.ishr, 1) := by decide +kernel
theorem dX7_firstTwo_26 : decode cX7_firstTwo 26 = .ok (.iload_n 1, 1) := by decide +kernel
theorem dX7_firstTwo_27 : decode cX7_firstTwo 27 = .ok (.ishl, 1) := by decide +kernel
theorem dX7_firstTwo_28 : decode cX7_firstTwo 28 = .ok (.istore_n 2, 1) := by decide +kernel
theorem dX7_firstTwo_29 : decode cX7_firstTwo 29 = .ok (.iload_n 2, 1) := by decide +kernel
theorem dX7_firstTwo_3 : decode cX7_firstTwo 3 = .ok (.aload_n 0, 1) := by decide +kernel
theorem dX7_firstTwo_30 : decode cX7_firstTwo 30 = .ok (.ifCond .eq 13, 3) := by decide +kernel
theorem dX7_firstTwo_33 : decode cX7_firstTwo 33 = .ok (.bipush 10, 2) := by decide +kernel
theorem dX7_firstTwo_35 : decode cX7_firstTwo 35 = .ok (.iload_n 1, 1) := by decide +kernel
theorem dX7_firstTwo_36 : decode cX7_firstTwo 36 = .ok (.imul, 1) := by decide +kernel
theorem dX7_firstTwo_37 : decode cX7_firstTwo 37 = .ok (.iload_n 2, 1) := by decide +kernel
theorem dX7_firstTwo_38 : decode cX7_firstTwo 38 = .ok (.invokestatic 101, 3) := by decide +kernel
theorem dX7_firstTwo_4 : decode cX7_firstTwo 4 = .ok (.getfield 24, 3) := by decide +kernel
theorem dX7_firstTwo_41 : decode cX7_firstTwo 41 = .ok (.iadd, 1) := by decide +kernel
theorem dX7_firstTwo_42 : decode cX7_firstTwo 42 = .ok (.ireturn, 1) := by decide +kernel
theorem dX7_firstTwo_43 : decode cX7_firstTwo 43 = .ok (.iinc 1 1, 3) := by decide +kernel
theorem dX7_firstTwo_46 : decode cX7_firstTwo 46 = .ok (.goto (-44), 3) := by decide +kernel
theorem dX7_firstTwo_49 : decode cX7_firstTwo 49 = .ok (.iconst (-1), 1) := by decide +kernel
theorem dX7_firstTwo_50 : decode cX7_firstTwo 50 = .ok (.ireturn, 1) := by decide +kernel
theorem dX7_firstTwo_7 : decode cX7_firstTwo 7 = .ok (.getfield 28, 3) := by decide +kernel
theorem dX7_foesAt_0 : decode cX7_foesAt 0 = .ok (.iconst 0, 1) := by decide +kernel
theorem dX7_foesAt_1 : decode cX7_foesAt 1 = .ok (.istore_n 3, 1) := by decide +kernel
theorem dX7_foesAt_100 : decode cX7_foesAt 100 = .ok (.iload_n 3, 1) := by decide +kernel
theorem dX7_foesAt_101 : decode cX7_foesAt 101 = .ok (.ireturn, 1) := by decide +kernel
theorem dX7_foesAt_11 : decode cX7_foesAt 11 = .ok (.getfield 28, 3) := by decide +kernel
theorem dX7_foesAt_14 : decode cX7_foesAt 14 = .ok (.if_icmp .ge 86, 3) := by decide +kernel
theorem dX7_foesAt_17 : decode cX7_foesAt 17 = .ok (.iload 4, 2) := by decide +kernel
theorem dX7_foesAt_19 : decode cX7_foesAt 19 = .ok (.iload_n 1, 1) := by decide +kernel
theorem dX7_foesAt_2 : decode cX7_foesAt 2 = .ok (.iconst 0, 1) := by decide +kernel
theorem dX7_foesAt_20 : decode cX7_foesAt 20 = .ok (.if_icmp .eq 74, 3) := by decide +kernel
theorem dX7_foesAt_23 : decode cX7_foesAt 23 = .ok (.aload_n 0, 1) := by decide +kernel
theorem dX7_foesAt_24 : decode cX7_foesAt 24 = .ok (.getfield 24, 3) := by decide +kernel
theorem dX7_foesAt_27 : decode cX7_foesAt 27 = .ok (.getfield 86, 3) := by decide +kernel
theorem dX7_foesAt_3 : decode cX7_foesAt 3 = .ok (.istore 4, 2) := by decide +kernel
theorem dX7_foesAt_30 : decode cX7_foesAt 30 = .ok (.iload_n 2, 1) := by decide +kernel
theorem dX7_foesAt_31 : decode cX7_foesAt 31 = .ok (.iaload, 1) := by decide +kernel
theorem dX7_foesAt_32 : decode cX7_foesAt 32 = .ok (.aload_n 0, 1) := by decide +kernel
theorem dX7_foesAt_33 : decode cX7_foesAt 33 = .ok (.getfield 9, 3) := by decide +kernel
theorem dX7_foesAt_36 : decode cX7_foesAt 36 = .ok (.iload 4, 2) := by decide +kernel
theorem dX7_foesAt_38 : decode cX7_foesAt 38 = .ok (.iaload, 1) := by decide +kernel
theorem dX7_foesAt_39 : decode cX7_foesAt 39 = .ok (.invokestatic 82, 3) := by decide +kernel
theorem dX7_foesAt_42 : decode cX7_foesAt 42 = .ok (.ifCond .eq 52, 3) := by decide +kernel
theorem dX7_foesAt_45 : decode cX7_foesAt 45 = .ok (.aload_n 0, 1) := by decide +kernel
theorem dX7_foesAt_46 : decode cX7_foesAt 46 = .ok (.getfield 24, 3) := by decide +kernel
theorem dX7_foesAt_49 : decode cX7_foesAt 49 = .ok (.getfield 89, 3) := by decide +kernel
theorem dX7_foesAt_5 : decode cX7_foesAt 5 = .ok (.iload 4, 2) := by decide +kernel
theorem dX7_foesAt_52 : decode cX7_foesAt 52 = .ok (.iload_n 2, 1) := by decide +kernel
theorem dX7_foesAt_53 : decode cX7_foesAt 53 = .ok (.iaload, 1) := by decide +kernel
theorem dX7_foesAt_54 : decode cX7_foesAt 54 = .ok (.aload_n 0, 1) := by decide +kernel
theorem dX7_foesAt_55 : decode cX7_foesAt 55 = .ok (.getfield 9, 3) := by decide +kernel
theorem dX7_foesAt_58 : decode cX7_foesAt 58 = .ok (.iload 4, 2) := by decide +kernel
theorem dX7_foesAt_60 : decode cX7_foesAt 60 = .ok (.iaload, 1) := by decide +kernel
theorem dX7_foesAt_61 : decode cX7_foesAt 61 = .ok (.invokestatic 82, 3) := by decide +kernel
theorem dX7_foesAt_64 : decode cX7_foesAt 64 = .ok (.ifCond .eq 12, 3) := by decide +kernel
theorem dX7_foesAt_67 : decode cX7_foesAt 67 = .ok (.aload_n 0, 1) := by decide +kernel
theorem dX7_foesAt_68 : decode cX7_foesAt 68 = .ok (.getfield 21, 3) := by decide +kernel
theorem dX7_foesAt_7 : decode cX7_foesAt 7 = .ok (.aload_n 0, 1) := by decide +kernel
theorem dX7_foesAt_71 : decode cX7_foesAt 71 = .ok (.iload_n 1, 1) := by decide +kernel
theorem dX7_foesAt_72 : decode cX7_foesAt 72 = .ok (.iaload, 1) := by decide +kernel
theorem dX7_foesAt_73 : decode cX7_foesAt 73 = .ok (.goto 9, 3) := by decide +kernel
theorem dX7_foesAt_76 : decode cX7_foesAt 76 = .ok (.aload_n 0, 1) := by decide +kernel
theorem dX7_foesAt_77 : decode cX7_foesAt 77 = .ok (.getfield 18, 3) := by decide +kernel
theorem dX7_foesAt_8 : decode cX7_foesAt 8 = .ok (.getfield 24, 3) := by decide +kernel
theorem dX7_foesAt_80 : decode cX7_foesAt 80 = .ok (.iload_n 1, 1) := by decide +kernel
theorem dX7_foesAt_81 : decode cX7_foesAt 81 = .ok (.iaload, 1) := by decide +kernel
theorem dX7_foesAt_82 : decode cX7_foesAt 82 = .ok (.istore 5, 2) := by decide +kernel
theorem dX7_foesAt_84 : decode cX7_foesAt 84 = .ok (.iload_n 3, 1) := by decide +kernel
theorem dX7_foesAt_85 : decode cX7_foesAt 85 = .ok (.iload 5, 2) := by decide +kernel
theorem dX7_foesAt_87 : decode cX7_foesAt 87 = .ok (.iconst 1, 1) := by decide +kernel
theorem dX7_foesAt_88 : decode cX7_foesAt 88 = .ok (.iload 4, 2) := by decide +kernel
theorem dX7_foesAt_90 : decode cX7_foesAt 90 = .ok (.ishl, 1) := by decide +kernel
theorem dX7_foesAt_91 : decode cX7_foesAt 91 = .ok (.iand, 1) := by decide +kernel
theorem dX7_foesAt_92 : decode cX7_foesAt 92 = .ok (.ior, 1) := by decide +kernel
theorem dX7_foesAt_93 : decode cX7_foesAt 93 = .ok (.istore_n 3, 1) := by decide +kernel
theorem dX7_foesAt_94 : decode cX7_foesAt 94 = .ok (.iinc 4 1, 3) := by decide +kernel
theorem dX7_foesAt_97 : decode cX7_foesAt 97 = .ok (.goto (-92), 3) := by decide +kernel
theorem dX7_whoIsAt_0 : decode cX7_whoIsAt 0 = .ok (.iconst 0, 1) := by decide +kernel
theorem dX7_whoIsAt_1 : decode cX7_whoIsAt 1 = .ok (.istore_n 2, 1) := by decide +kernel
theorem dX7_whoIsAt_10 : decode cX7_whoIsAt 10 = .ok (.if_icmp .ge 21, 3) := by decide +kernel
theorem dX7_whoIsAt_13 : decode cX7_whoIsAt 13 = .ok (.aload_n 0, 1) := by decide +kernel
theorem dX7_whoIsAt_14 : decode cX7_whoIsAt 14 = .ok (.getfield 9, 3) := by decide +kernel
theorem dX7_whoIsAt_17 : decode cX7_whoIsAt 17 = .ok (.iload_n 2, 1) := by decide +kernel
theorem dX7_whoIsAt_18 : decode cX7_whoIsAt 18 = .ok (.iaload, 1) := by decide +kernel
theorem dX7_whoIsAt_19 : decode cX7_whoIsAt 19 = .ok (.iload_n 1, 1) := by decide +kernel
theorem dX7_whoIsAt_2 : decode cX7_whoIsAt 2 = .ok (.iload_n 2, 1) := by decide +kernel
theorem dX7_whoIsAt_20 : decode cX7_whoIsAt 20 = .ok (.if_icmp .ne 5, 3) := by decide +kernel
theorem dX7_whoIsAt_23 : decode cX7_whoIsAt 23 = .ok (.iload_n 2, 1) := by decide +kernel
theorem dX7_whoIsAt_24 : decode cX7_whoIsAt 24 = .ok (.ireturn, 1) := by decide +kernel
theorem dX7_whoIsAt_25 : decode cX7_whoIsAt 25 = .ok (.iinc 2 1, 3) := by decide +kernel
theorem dX7_whoIsAt_28 : decode cX7_whoIsAt 28 = .ok (.goto (-26), 3) := by decide +kernel
theorem dX7_whoIsAt_3 : decode cX7_whoIsAt 3 = .ok (.aload_n 0, 1) := by decide +kernel
theorem dX7_whoIsAt_31 : decode cX7_whoIsAt 31 = .ok (.iconst (-1), 1) := by decide +kernel
theorem dX7_whoIsAt_32 : decode cX7_whoIsAt 32 = .ok (.ireturn, 1) := by decide +kernel
theorem dX7_whoIsAt_4 : decode cX7_whoIsAt 4 = .ok (.getfield 24, 3) := by decide +kernel
theorem dX7_whoIsAt_7 : decode cX7_whoIsAt 7 = .ok (.getfield 28, 3) := by decide +kernel
theorem dX7_wouldClash_0 : decode cX7_wouldClash 0 = .ok (.iload_n 3, 1) := by decide +kernel
theorem dX7_wouldClash_1 : decode cX7_wouldClash 1 = .ok (.ifCond .eq 12, 3) := by decide +kernel
theorem dX7_wouldClash_10 : decode cX7_wouldClash 10 = .ok (.goto 9, 3) := by decide +kernel
theorem dX7_wouldClash_13 : decode cX7_wouldClash 13 = .ok (.aload_n 0, 1) := by decide +kernel
theorem dX7_wouldClash_14 : decode cX7_wouldClash 14 = .ok (.getfield 18, 3) := by decide +kernel
theorem dX7_wouldClash_17 : decode cX7_wouldClash 17 = .ok (.iload_n 1, 1) := by decide +kernel
theorem dX7_wouldClash_18 : decode cX7_wouldClash 18 = .ok (.iaload, 1) := by decide +kernel
theorem dX7_wouldClash_19 : decode cX7_wouldClash 19 = .ok (.iload_n 2, 1) := by decide +kernel
theorem dX7_wouldClash_20 : decode cX7_wouldClash 20 = .ok (.invokestatic 82, 3) := by decide +kernel
theorem dX7_wouldClash_23 : decode cX7_wouldClash 23 = .ok (.ireturn, 1) := by decide +kernel
theorem dX7_wouldClash_4 : decode cX7_wouldClash 4 = .ok (.aload_n 0, 1) := by decide +kernel
theorem dX7_wouldClash_5 : decode cX7_wouldClash 5 = .ok (.getfield 21, 3) := by decide +kernel
theorem dX7_wouldClash_8 : decode cX7_wouldClash 8 = .ok (.iload_n 1, 1) := by decide +kernel
theorem dX7_wouldClash_9 : decode cX7_wouldClash 9 = .ok (.iaload, 1) := by decide +kernel
theorem dX9_hasPlace_0 : decode cX9_hasPlace 0 = .ok (.iload_n 1, 1) := by decide +kernel
theorem dX9_hasPlace_1 : decode cX9_hasPlace 1 = .ok (.ifCond .lt 15, 3) := by decide +kernel
theorem dX9_hasPlace_12 : decode cX9_hasPlace 12 = .ok (.iconst 1, 1) := by decide +kernel
theorem dX9_hasPlace_13 : decode cX9_hasPlace 13 = .ok (.goto 4, 3) := by decide +kernel
theorem dX9_hasPlace_16 : decode cX9_hasPlace 16 = .ok (.iconst 0, 1) := by decide +kernel
theorem dX9_hasPlace_17 : decode cX9_hasPlace 17 = .ok (.ireturn, 1) := by decide +kernel
theorem dX9_hasPlace_4 : decode cX9_hasPlace 4 = .ok (.iload_n 1, 1) := by decide +kernel
theorem dX9_hasPlace_5 : decode cX9_hasPlace 5 = .ok (.aload_n 0, 1) := by decide +kernel
theorem dX9_hasPlace_6 : decode cX9_hasPlace 6 = .ok (.getfield 56, 3) := by decide +kernel
theorem dX9_hasPlace_9 : decode cX9_hasPlace 9 = .ok (.if_icmp .ge 7, 3) := by decide +kernel
theorem dX9_hasThing_0 : decode cX9_hasThing 0 = .ok (.iload_n 1, 1) := by decide +kernel
theorem dX9_hasThing_1 : decode cX9_hasThing 1 = .ok (.ifCond .lt 15, 3) := by decide +kernel
theorem dX9_hasThing_12 : decode cX9_hasThing 12 = .ok (.iconst 1, 1) := by decide +kernel
theorem dX9_hasThing_13 : decode cX9_hasThing 13 = .ok (.goto 4, 3) := by decide +kernel
theorem dX9_hasThing_16 : decode cX9_hasThing 16 = .ok (.iconst 0, 1) := by decide +kernel
theorem dX9_hasThing_17 : decode cX9_hasThing 17 = .ok (.ireturn, 1) := by decide +kernel
theorem dX9_hasThing_4 : decode cX9_hasThing 4 = .ok (.iload_n 1, 1) := by decide +kernel
theorem dX9_hasThing_5 : decode cX9_hasThing 5 = .ok (.aload_n 0, 1) := by decide +kernel
theorem dX9_hasThing_6 : decode cX9_hasThing 6 = .ok (.getfield 62, 3) := by decide +kernel
theorem dX9_hasThing_9 : decode cX9_hasThing 9 = .ok (.if_icmp .ge 7, 3) := by decide +kernel
theorem dX9_isFixed_0 : decode cX9_isFixed 0 = .ok (.aload_n 0, 1) := by decide +kernel
theorem dX9_isFixed_1 : decode cX9_isFixed 1 = .ok (.getfield 68, 3) := by decide +kernel
theorem dX9_isFixed_4 : decode cX9_isFixed 4 = .ok (.iload_n 1, 1) := by decide +kernel
theorem dX9_isFixed_5 : decode cX9_isFixed 5 = .ok (.invokestatic 97, 3) := by decide +kernel
theorem dX9_isFixed_8 : decode cX9_isFixed 8 = .ok (.ireturn, 1) := by decide +kernel
theorem dX9_stepsBetween_0 : decode cX9_stepsBetween 0 = .ok (.aload_n 0, 1) := by decide +kernel
theorem dX9_stepsBetween_1 : decode cX9_stepsBetween 1 = .ok (.getfield 18, 3) := by decide +kernel
theorem dX9_stepsBetween_10 : decode cX9_stepsBetween 10 = .ok (.iaload, 1) := by decide +kernel
theorem dX9_stepsBetween_11 : decode cX9_stepsBetween 11 = .ok (.ireturn, 1) := by decide +kernel
theorem dX9_stepsBetween_4 : decode cX9_stepsBetween 4 = .ok (.iload_n 1, 1) := by decide +kernel
theorem dX9_stepsBetween_5 : decode cX9_stepsBetween 5 = .ok (.bipush 10, 2) := by decide +kernel
theorem dX9_stepsBetween_7 : decode cX9_stepsBetween 7 = .ok (.imul, 1) := by decide +kernel
theorem dX9_stepsBetween_8 : decode cX9_stepsBetween 8 = .ok (.iload_n 2, 1) := by decide +kernel
theorem dX9_stepsBetween_9 : decode cX9_stepsBetween 9 = .ok (.iadd, 1) := by decide +kernel
set_option maxRecDepth 4000 in
theorem k_X11_layFour (l : Launch) (M : Mem) (hJ : Iw M) (x0 : Int) (hx0a : (-2147483648) ≤ x0) (hx0b : x0 ≤ 2147483647) (hp0 : M 0 1 ≤ 896) : CV l yX11_layFour cX11_layFour 3 none 1 (fun ad => [.ref (ad 0), ii x0]) M (fun M' => Fr [0, 1, 200] M M' ∧ (M' 0 1 = M 0 1 + 4) ∧ (∀ j : Nat, M' 1 j % 256 = if M 0 1 ≤ j ∧ (j : Int) < M 0 1 + 4 then by8 x0 (24 - 8 * (j - M 0 1)) else M 1 j % 256)) := by
  obtain ⟨hI, hW⟩ := hJ
  have hF : Fr [0, 1, 200] M M := Fr.rf
  refine en_v (by decide +kernel) (fun ad => by exact Nat.le_of_ble_eq_true rfl) (fun D cy ad A p e s m args below meth c Q F hret => ?_)
  refine z_eq (ls' := [(0, .ref (ad 0)), (1, ii x0)]) rfl rfl rfl ?_
  obtain ⟨u1, eu1⟩ : ∃ v : Int, v = M 0 1 := ⟨_, rfl⟩
  have ku1 : 0 ≤ u1 ∧ u1 ≤ 900 := by have := hI.at (show Bd 0 1 = (0, 900) from rfl); omega
  refine z_bipush F dX11_layFour_0 (by decide +kernel) ?_
  refine z_istore_n F dX11_layFour_2 rfl (by decide) (ls' := [(2, ii 24), (0, .ref (ad 0)), (1, ii x0)]) rfl ?_
  refine z_loc [1, 2, 0] (ls' := [(0, .ref (ad 0)), (1, ii x0), (2, ii 24)]) rfl ?_
  suffices key3 : ∀ (n : Nat) (y3 : Int) (M2 : Mem), Inv M2 → WFk M2 → Fr [0, 1, 200] M M2 → (-8) ≤ y3 → y3 ≤ 24 → (8 * (M2 0 1 - M 0 1) = 24 - y3) → (∀ j : Nat, M2 1 j % 256 = if M 0 1 ≤ j ∧ (j : Int) < M 0 1 + (M2 0 1 - M 0 1) then by8 x0 (24 - 8 * (j - M 0 1)) else M 1 j % 256) → y3 - (-8) < (n : Int) → Z D cy ad p l e (RMh 1) s m args below meth c A 3 0 0 Q 3 [(0, .ref (ad 0)), (1, ii x0), (2, ii y3)] [] M2 from key3 33 24 M hI hW hF (by omega) (by omega) (by omega) (fun j => by rw [if_neg (by omega)]) (by omega)
  intro n3
  induction n3 with
  | zero => intro y3 M2 hI hW hF ay3 by3 i3_0 i3_1 hn3; exfalso; omega
  | succ n3 ih3 =>
    intro y3 M2 hI hW hF ay3 by3 i3_0 i3_1 hn3
    obtain ⟨u4, eu4⟩ : ∃ v : Int, v = M2 0 1 := ⟨_, rfl⟩
    have ku4 : 0 ≤ u4 ∧ u4 ≤ 900 := by have := hI.at (show Bd 0 1 = (0, 900) from rfl); omega
    refine z_iload_n F dX11_layFour_3 rfl (q := 2) rfl ?_
    refine z_if_lt (tgt := 48) F dX11_layFour_4 (by decide +kernel) (by omega) (fun c5 => ?_) (fun c5 => ?_)
    · exact hret _ 48 _ ⟨hI, hW⟩ ⟨hF, (by omega), (fun j => by have h9 := i3_1 j; rw [show M2 0 1 - M 0 1 = 4 from by omega] at h9; exact h9)⟩ dX11_layFour_48
    · refine z_aload_n F dX11_layFour_7 rfl (q := 0) rfl ?_
      refine gf_X11_93 F hI gs_0 rfl bd_0_1 dX11_layFour_8 (fun v6 ev6 av6 bv6 => ?_)
      have zv6 : u4 = v6 := eu4.trans ev6.symm
      subst zv6
      refine z_aload_n F dX11_layFour_11 rfl (q := 0) rfl ?_
      refine rf_X11_9 F gs_0 rfl dX11_layFour_12 ?_
      refine z_alen (x := 900) F gs_1 rfl rfl dX11_layFour_15 ?_
      refine z_icmp_ge (tgt := 48) F dX11_layFour_16 (by decide +kernel) (by omega) (by omega) (fun c7 => ?_) (fun c7 => ?_)
      · exact hret _ 48 _ ⟨hI, hW⟩ ⟨hF, (by omega), (fun j => by have h9 := i3_1 j; rw [show M2 0 1 - M 0 1 = 4 from by omega] at h9; exact h9)⟩ dX11_layFour_48
      · refine z_aload_n F dX11_layFour_19 rfl (q := 0) rfl ?_
        refine rf_X11_9 F gs_0 rfl dX11_layFour_20 ?_
        refine z_aload_n F dX11_layFour_23 rfl (q := 0) rfl ?_
        refine gf_X11_93 F hI gs_0 rfl bd_0_1 dX11_layFour_24 (fun v8 ev8 av8 bv8 => ?_)
        have zv8 : u4 = v8 := eu4.trans ev8.symm
        subst zv8
        refine z_iload_n F dX11_layFour_27 rfl (q := 1) rfl ?_
        refine z_iload_n F dX11_layFour_28 rfl (q := 2) rfl ?_
        refine z_iushr0 F dX11_layFour_29 (fun v9 ev9 rv9 => ?_)
        refine z_i2b F dX11_layFour_30 (fun v10 ev10 av10 bv10 => ?_)
        refine z_bastE F hI gs_1 (by omega) (by omega) (by decide) bd_1 dX11_layFour_31 (fun M12 hI sf11 f11 => ?_)
        have hF := hF.wr f11 (by decide) (by decide)
        have hW : WFk M12 := hW.site f11 (by decide)
        refine z_aload_n F dX11_layFour_32 rfl (q := 0) rfl ?_
        refine z_dup F dX11_layFour_33 rfl ?_
        refine gf_X11_93 F hI gs_0 rfl bd_0_1 dX11_layFour_34 (fun v13 ev13 av13 bv13 => ?_)
        have q14 : u4 = M12 0 1 := eu4.trans (f11 0 1 (fun q => absurd q.1 (by decide))).symm
        have zv13 : u4 = v13 := q14.trans ev13.symm
        subst zv13
        refine z_iconst F dX11_layFour_37 ?_
        refine z_iadd F dX11_layFour_38 ?_
        refine z_nm (fun v15 ev15 => ?_)
        refine pf_X11_93 F hI gs_0 rfl bd_0_1 rfl rfl dX11_layFour_39 (by omega) (by omega) (fun M17 hI sf16 f16 => ?_)
        have hF := hF.wrz f16 (by decide) (by decide)
        have hW : WFk M17 := hW.site f16 (by decide)
        refine z_iincN F dX11_layFour_42 (q := 2) rfl (by decide) (fun v18 ev18 => ?_)
        refine z_eq (ls' := [(2, ii v18), (0, .ref (ad 0)), (1, ii x0)]) rfl rfl rfl ?_
        refine z_goto (tgt := 3) F dX11_layFour_45 (by decide +kernel) ?_
        refine z_loc [1, 2, 0] (ls' := [(0, .ref (ad 0)), (1, ii x0), (2, ii v18)]) rfl ?_
        have b8 := by8_c (w := x0) (s := y3) (x := v9) (v := v10) (z := M12 1 (u4).toNat) ev9 ev10 sf11
        exact ih3 v18 M17 hI hW hF (by omega) (by omega) (by omega) (fun j => by rw [f16 1 j (fun q => absurd q.1 (by decide)), show M17 0 1 - M 0 1 = (M2 0 1 - M 0 1) + 1 from by omega]; exact fd_step (U := fun j => M 1 j % 256) (V := fun j => M12 1 j % 256) (h := fun j => M2 1 j % 256) (g := fun q => by8 x0 (24 - 8 * q)) (u := u4) i3_1 (by omega) (by omega) (by omega) rfl (b8.trans (by rw [show y3 = 24 - 8 * (M2 0 1 - M 0 1) from by omega])) (fun j hq => by show M12 1 j % 256 = M2 1 j % 256; rw [f11 1 j (fun q => hq q.2)]) j) (by omega)
set_option maxRecDepth 4000 in
theorem k_X11_feed (l : Launch) (M : Mem) (hJ : Iw M) (x0 : Int) (hx0a : (-2147483648) ≤ x0) (hx0b : x0 ≤ 2147483647) (x1 : Int) (hx1a : (-2147483648) ≤ x1) (hx1b : x1 ≤ 2147483647) (x2 : Int) (hx2a : (-2147483648) ≤ x2) (hx2b : x2 ≤ 2147483647) (x3 : Int) (hx3a : (-2147483648) ≤ x3) (hx3b : x3 ≤ 2147483647) (x4 : Int) (hx4a : (-2147483648) ≤ x4) (hx4b : x4 ≤ 2147483647) : CI l yX11_feed cX11_feed 6 (some .int) 2 (fun ad => [.ref (ad 0), ii x0, ii x1, ii x2, ii x3, ii x4]) M (fun z M' => ((-1) ≤ z ∧ z ≤ 900) ∧ Fr [0, 1, 200] M M' ∧ (M 0 1 ≤ 880 ∧ z = M 0 1 + 20 ∧ M' 0 1 = M 0 1 + 20 ∨ 880 < M 0 1 ∧ z = -1 ∧ M' 0 1 = M 0 1) ∧ (Im (M 0 1 ≤ 880) (∀ j : Nat, M' 1 j % 256 = if M 0 1 ≤ j ∧ (j : Int) < M 0 1 + 20 then fdb x0 x1 x2 x3 x4 (j - M 0 1) else M 1 j % 256) ∧ Im (880 < M 0 1) (∀ j : Nat, M' 1 j % 256 = M 1 j % 256))) := by
  obtain ⟨hI, hW⟩ := hJ
  have hF : Fr [0, 1, 200] M M := Fr.rf
  refine en_i (by decide +kernel) (fun ad => by exact Nat.le_of_ble_eq_true rfl) (fun D cy ad A p e s m args below meth c Q F hret => ?_)
  refine z_eq (ls' := [(0, .ref (ad 0)), (1, ii x0), (2, ii x1), (3, ii x2), (4, ii x3), (5, ii x4)]) rfl rfl rfl ?_
  obtain ⟨u1, eu1⟩ : ∃ v : Int, v = M 0 1 := ⟨_, rfl⟩
  have ku1 : 0 ≤ u1 ∧ u1 ≤ 900 := by have := hI.at (show Bd 0 1 = (0, 900) from rfl); omega
  refine z_aload_n F dX11_feed_0 rfl (q := 0) rfl ?_
  refine gf_X11_93 F hI gs_0 rfl bd_0_1 dX11_feed_1 (fun v2 ev2 av2 bv2 => ?_)
  have zv2 : u1 = v2 := eu1.trans ev2.symm
  subst zv2
  refine z_sipush F dX11_feed_4 (by decide +kernel) ?_
  refine z_icmp_le (tgt := 12) F dX11_feed_7 (by decide +kernel) (by omega) (by omega) (fun c3 => ?_) (fun c3 => ?_)
  · refine z_aload_n F dX11_feed_12 rfl (q := 0) rfl ?_
    refine z_iload_n F dX11_feed_13 rfl (q := 1) rfl ?_
    refine zv_v (rest := []) F (k_X11_layFour l M ⟨hI, hW⟩ x0 (by omega) (by omega) (by omega)) cs_X11_97 (T := TX11) (N := 14) (ci := 11) rfl gs_0 (by decide) (by decide) rfl rfl rfl (Nat.le_of_ble_eq_true rfl) dX11_feed_14 (fun M4 hI p5 => ?_)
    obtain ⟨hI, hW⟩ := hI
    obtain ⟨fp5, xp5, yp5⟩ := p5
    have hF := hF.call fp5 (by decide)
    refine z_aload_n F dX11_feed_17 rfl (q := 0) rfl ?_
    refine z_iload_n F dX11_feed_18 rfl (q := 2) rfl ?_
    refine zv_v (rest := []) F (k_X11_layFour l M4 ⟨hI, hW⟩ x1 (by omega) (by omega) (by omega)) cs_X11_97 (T := TX11) (N := 14) (ci := 11) rfl gs_0 (by decide) (by decide) rfl rfl rfl (Nat.le_of_ble_eq_true rfl) dX11_feed_19 (fun M6 hI p7 => ?_)
    obtain ⟨hI, hW⟩ := hI
    obtain ⟨fp7, xp7, yp7⟩ := p7
    have hF := hF.call fp7 (by decide)
    refine z_aload_n F dX11_feed_22 rfl (q := 0) rfl ?_
    refine z_iload_n F dX11_feed_23 rfl (q := 3) rfl ?_
    refine zv_v (rest := []) F (k_X11_layFour l M6 ⟨hI, hW⟩ x2 (by omega) (by omega) (by omega)) cs_X11_97 (T := TX11) (N := 14) (ci := 11) rfl gs_0 (by decide) (by decide) rfl rfl rfl (Nat.le_of_ble_eq_true rfl) dX11_feed_24 (fun M8 hI p9 => ?_)
    obtain ⟨hI, hW⟩ := hI
    obtain ⟨fp9, xp9, yp9⟩ := p9
    have hF := hF.call fp9 (by decide)
    refine z_aload_n F dX11_feed_27 rfl (q := 0) rfl ?_
    refine z_iload F dX11_feed_28 (q := 4) rfl ?_
    refine zv_v (rest := []) F (k_X11_layFour l M8 ⟨hI, hW⟩ x3 (by omega) (by omega) (by omega)) cs_X11_97 (T := TX11) (N := 14) (ci := 11) rfl gs_0 (by decide) (by decide) rfl rfl rfl (Nat.le_of_ble_eq_true rfl) dX11_feed_30 (fun M10 hI p11 => ?_)
    obtain ⟨hI, hW⟩ := hI
    obtain ⟨fp11, xp11, yp11⟩ := p11
    have hF := hF.call fp11 (by decide)
    refine z_aload_n F dX11_feed_33 rfl (q := 0) rfl ?_
    refine z_iload F dX11_feed_34 (q := 5) rfl ?_
    refine zv_v (rest := []) F (k_X11_layFour l M10 ⟨hI, hW⟩ x4 (by omega) (by omega) (by omega)) cs_X11_97 (T := TX11) (N := 14) (ci := 11) rfl gs_0 (by decide) (by decide) rfl rfl rfl (Nat.le_of_ble_eq_true rfl) dX11_feed_36 (fun M12 hI p13 => ?_)
    obtain ⟨hI, hW⟩ := hI
    obtain ⟨fp13, xp13, yp13⟩ := p13
    have hF := hF.call fp13 (by decide)
    refine z_aload_n F dX11_feed_39 rfl (q := 0) rfl ?_
    refine gf_X11_93 F hI gs_0 rfl bd_0_1 dX11_feed_40 (fun v14 ev14 av14 bv14 => ?_)
    have c0 : ∀ j : Nat, M4 1 j % 256 = if M 0 1 + 0 ≤ j ∧ (j : Int) < M 0 1 + 0 + 4 then by8 x0 (24 - 8 * (j - (M 0 1 + 0))) else M 1 j % 256 := fun j => by have h9 := yp5 j; rw [show M 0 1 = M 0 1 + 0 from by omega] at h9; exact h9
    have c1 : ∀ j : Nat, M6 1 j % 256 = if M 0 1 + 4 ≤ j ∧ (j : Int) < M 0 1 + 4 + 4 then by8 x1 (24 - 8 * (j - (M 0 1 + 4))) else M4 1 j % 256 := fun j => by have h9 := yp7 j; rw [show M4 0 1 = M 0 1 + 4 from by omega] at h9; exact h9
    have c2 : ∀ j : Nat, M8 1 j % 256 = if M 0 1 + 8 ≤ j ∧ (j : Int) < M 0 1 + 8 + 4 then by8 x2 (24 - 8 * (j - (M 0 1 + 8))) else M6 1 j % 256 := fun j => by have h9 := yp9 j; rw [show M6 0 1 = M 0 1 + 8 from by omega] at h9; exact h9
    have c3 : ∀ j : Nat, M10 1 j % 256 = if M 0 1 + 12 ≤ j ∧ (j : Int) < M 0 1 + 12 + 4 then by8 x3 (24 - 8 * (j - (M 0 1 + 12))) else M8 1 j % 256 := fun j => by have h9 := yp11 j; rw [show M8 0 1 = M 0 1 + 12 from by omega] at h9; exact h9
    have c4 : ∀ j : Nat, M12 1 j % 256 = if M 0 1 + 16 ≤ j ∧ (j : Int) < M 0 1 + 16 + 4 then by8 x4 (24 - 8 * (j - (M 0 1 + 16))) else M10 1 j % 256 := fun j => by have h9 := yp13 j; rw [show M10 0 1 = M 0 1 + 16 from by omega] at h9; exact h9
    have d0 : ∀ j : Nat, M4 1 j % 256 = if M 0 1 ≤ j ∧ (j : Int) < M 0 1 + 4 then by8 x0 (24 - 8 * (j - M 0 1)) else M 1 j % 256 := yp5
    have d0 : ∀ j : Nat, M4 1 j % 256 = if M 0 1 ≤ j ∧ (j : Int) < M 0 1 + 4 then fdb x0 x1 x2 x3 x4 (j - M 0 1) else M 1 j % 256 := fun j => by
      rw [d0 j]
      by_cases hq : M 0 1 ≤ j ∧ (j : Int) < M 0 1 + 4
      · rw [if_pos hq, if_pos hq, fdb_i (w := x0) (s := 24 - 8 * (j - M 0 1)) (by unfold wsel; first | rw [if_pos (by omega)] | rw [if_neg (by omega), if_pos (by omega)] | rw [if_neg (by omega), if_neg (by omega), if_pos (by omega)] | rw [if_neg (by omega), if_neg (by omega), if_neg (by omega), if_pos (by omega)] | rw [if_neg (by omega), if_neg (by omega), if_neg (by omega), if_neg (by omega)]) (by omega)]
      · rw [if_neg hq, if_neg hq]
    have d1 := fd_cat (n := M 0 1) (k := 4) (m := 4) (U := fun j => M 1 j % 256) (V := fun j => M4 1 j % 256) (W := fun j => M6 1 j % 256) (g1 := fdb x0 x1 x2 x3 x4) (g := fdb x0 x1 x2 x3 x4) (g2 := fun q => by8 x1 (24 - 8 * q)) (by decide) (by decide) d0 c1 (fun q _ _ => rfl) (fun q h1 h2 => fdb_i (w := x1) (s := 24 - 8 * q) (by unfold wsel; first | rw [if_pos (by omega)] | rw [if_neg (by omega), if_pos (by omega)] | rw [if_neg (by omega), if_neg (by omega), if_pos (by omega)] | rw [if_neg (by omega), if_neg (by omega), if_neg (by omega), if_pos (by omega)] | rw [if_neg (by omega), if_neg (by omega), if_neg (by omega), if_neg (by omega)]) (by omega))
    have d2 := fd_cat (n := M 0 1) (k := 8) (m := 4) (U := fun j => M 1 j % 256) (V := fun j => M6 1 j % 256) (W := fun j => M8 1 j % 256) (g1 := fdb x0 x1 x2 x3 x4) (g := fdb x0 x1 x2 x3 x4) (g2 := fun q => by8 x2 (24 - 8 * q)) (by decide) (by decide) d1 c2 (fun q _ _ => rfl) (fun q h1 h2 => fdb_i (w := x2) (s := 24 - 8 * q) (by unfold wsel; first | rw [if_pos (by omega)] | rw [if_neg (by omega), if_pos (by omega)] | rw [if_neg (by omega), if_neg (by omega), if_pos (by omega)] | rw [if_neg (by omega), if_neg (by omega), if_neg (by omega), if_pos (by omega)] | rw [if_neg (by omega), if_neg (by omega), if_neg (by omega), if_neg (by omega)]) (by omega))
    have d3 := fd_cat (n := M 0 1) (k := 12) (m := 4) (U := fun j => M 1 j % 256) (V := fun j => M8 1 j % 256) (W := fun j => M10 1 j % 256) (g1 := fdb x0 x1 x2 x3 x4) (g := fdb x0 x1 x2 x3 x4) (g2 := fun q => by8 x3 (24 - 8 * q)) (by decide) (by decide) d2 c3 (fun q _ _ => rfl) (fun q h1 h2 => fdb_i (w := x3) (s := 24 - 8 * q) (by unfold wsel; first | rw [if_pos (by omega)] | rw [if_neg (by omega), if_pos (by omega)] | rw [if_neg (by omega), if_neg (by omega), if_pos (by omega)] | rw [if_neg (by omega), if_neg (by omega), if_neg (by omega), if_pos (by omega)] | rw [if_neg (by omega), if_neg (by omega), if_neg (by omega), if_neg (by omega)]) (by omega))
    have d4 := fd_cat (n := M 0 1) (k := 16) (m := 4) (U := fun j => M 1 j % 256) (V := fun j => M10 1 j % 256) (W := fun j => M12 1 j % 256) (g1 := fdb x0 x1 x2 x3 x4) (g := fdb x0 x1 x2 x3 x4) (g2 := fun q => by8 x4 (24 - 8 * q)) (by decide) (by decide) d3 c4 (fun q _ _ => rfl) (fun q h1 h2 => fdb_i (w := x4) (s := 24 - 8 * q) (by unfold wsel; first | rw [if_pos (by omega)] | rw [if_neg (by omega), if_pos (by omega)] | rw [if_neg (by omega), if_neg (by omega), if_pos (by omega)] | rw [if_neg (by omega), if_neg (by omega), if_neg (by omega), if_pos (by omega)] | rw [if_neg (by omega), if_neg (by omega), if_neg (by omega), if_neg (by omega)]) (by omega))
    exact hret _ _ 43 _ (by omega) ⟨hI, hW⟩ ⟨⟨by omega, by omega⟩, hF, (by omega), ⟨fun q => d4, fun q => by exfalso; omega⟩⟩ dX11_feed_43
  · refine z_iconst F dX11_feed_10 ?_
    exact hret _ _ 11 _ (by omega) ⟨hI, hW⟩ ⟨⟨by omega, by omega⟩, hF, (by omega), ⟨fun q => by exfalso; omega, fun q j => rfl⟩⟩ dX11_feed_11
set_option maxRecDepth 4000 in
theorem k_X11_fault (l : Launch) (M : Mem) (hJ : Iw M) (x0 : Int) (hx0a : (-2147483648) ≤ x0) (hx0b : x0 ≤ 2147483647) : CI l yX11_fault cX11_fault 2 (some .int) 1 (fun ad => [.ref (ad 0), ii x0]) M (fun z M' => ((-2147483648) ≤ z ∧ z ≤ 2147483647) ∧ M = M') := by
  obtain ⟨hI, hW⟩ := hJ
  refine en_i (by decide +kernel) (fun ad => by exact Nat.le_of_ble_eq_true rfl) (fun D cy ad A p e s m args below meth c Q F hret => ?_)
  refine z_eq (ls' := [(0, .ref (ad 0)), (1, ii x0)]) rfl rfl rfl ?_
  refine z_iload_n F dX11_fault_0 rfl (q := 1) rfl ?_
  rcases (show x0 = 0 ∨ x0 = 1 ∨ (¬ x0 = 0 ∧ ¬ x0 = 1) by omega) with c1 | c1 | c1
  · refine z_lookup (tgt := 28) (off := 27) F dX11_fault_1 (by decide +kernel) (by omega) (by rw [c1]; rfl) (by decide +kernel) ?_
    refine z_aload_n F dX11_fault_28 rfl (q := 0) rfl ?_
    refine rf_X11_25 F gs_0 rfl dX11_fault_29 ?_
    refine gf_X11_111 F hI gs_18 rfl bd_18_1 dX11_fault_32 (fun v2 ev2 av2 bv2 => ?_)
    exact hret _ _ 35 _ (by omega) ⟨hI, hW⟩ ⟨⟨by omega, by omega⟩, rfl⟩ dX11_fault_35
  · refine z_lookup (tgt := 36) (off := 35) F dX11_fault_1 (by decide +kernel) (by omega) (by rw [c1]; rfl) (by decide +kernel) ?_
    refine z_aload_n F dX11_fault_36 rfl (q := 0) rfl ?_
    refine rf_X11_25 F gs_0 rfl dX11_fault_37 ?_
    refine gf_X11_129 F hI gs_18 rfl bd_18_2 dX11_fault_40 (fun v3 ev3 av3 bv3 => ?_)
    exact hret _ _ 43 _ (by omega) ⟨hI, hW⟩ ⟨⟨by omega, by omega⟩, rfl⟩ dX11_fault_43
  · refine z_lookup (tgt := 44) (off := 43) F dX11_fault_1 (by decide +kernel) (by omega) (by rw [sw_off (by omega)]; rw [sw_off (by omega)]; rfl) (by decide +kernel) ?_
    refine z_iconst F dX11_fault_44 ?_
    exact hret _ _ 45 _ (by omega) ⟨hI, hW⟩ ⟨⟨by omega, by omega⟩, rfl⟩ dX11_fault_45
set_option maxRecDepth 4000 in
theorem k_X9_hasThing_2 (l : Launch) (M : Mem) (hJ : Iw M) (x0 : Int) (hx0a : (-2147483648) ≤ x0) (hx0b : x0 ≤ 2147483647) : CI l yX9_hasThing cX9_hasThing 2 (some .boolean) 1 (fun ad => [.ref (ad 2), ii x0]) M (fun z M' => (0 ≤ z ∧ z ≤ 1) ∧ M = M' ∧ (z = 1 → 0 ≤ x0 ∧ x0 ≤ 7)) := by
  obtain ⟨hI, hW⟩ := hJ
  refine en_z (by decide +kernel) (fun ad => by exact Nat.le_of_ble_eq_true rfl) (fun D cy ad A p e s m args below meth c Q F hret => ?_)
  refine z_eq (ls' := [(0, .ref (ad 2)), (1, ii x0)]) rfl rfl rfl ?_
  refine z_iload_n F dX9_hasThing_0 rfl (q := 1) rfl ?_
  refine z_if_lt (tgt := 16) F dX9_hasThing_1 (by decide +kernel) (by omega) (fun c1 => ?_) (fun c1 => ?_)
  · refine z_iconst F dX9_hasThing_16 ?_
    exact hret _ _ 17 _ ⟨by omega, by omega⟩ ⟨hI, hW⟩ ⟨⟨by omega, by omega⟩, rfl, (by omega)⟩ dX9_hasThing_17
  · refine z_iload_n F dX9_hasThing_4 rfl (q := 1) rfl ?_
    refine z_aload_n F dX9_hasThing_5 rfl (q := 0) rfl ?_
    refine gf_X9_62 F hI gs_2 rfl bd_2_3 dX9_hasThing_6 (fun v2 ev2 av2 bv2 => ?_)
    refine z_icmp_ge (tgt := 16) F dX9_hasThing_9 (by decide +kernel) (by omega) (by omega) (fun c3 => ?_) (fun c3 => ?_)
    · refine z_iconst F dX9_hasThing_16 ?_
      exact hret _ _ 17 _ ⟨by omega, by omega⟩ ⟨hI, hW⟩ ⟨⟨by omega, by omega⟩, rfl, (by omega)⟩ dX9_hasThing_17
    · refine z_iconst F dX9_hasThing_12 ?_
      refine z_goto (tgt := 17) F dX9_hasThing_13 (by decide +kernel) ?_
      exact hret _ _ 17 _ ⟨by omega, by omega⟩ ⟨hI, hW⟩ ⟨⟨by omega, by omega⟩, rfl, (by omega)⟩ dX9_hasThing_17
set_option maxRecDepth 4000 in
theorem k_X11_needThing (l : Launch) (hlT : l.stackTraces = false) (M : Mem) (hJ : Iw M) (x0 : Int) (hx0a : (-2147483648) ≤ x0) (hx0b : x0 ≤ 2147483647) : CVX l yX11_needThing cX11_needThing 2 none 2 1 (fun ad => [.ref (ad 0), ii x0]) M (fun M' => M = M' ∧ (0 ≤ x0 ∧ x0 ≤ 7)) (fun E M' => (E = "java/util/NoSuchElementException" ∧ True ∧ M = M')) := by
  obtain ⟨hI, hW⟩ := hJ
  refine enx_v (by decide +kernel) (fun ad => by exact Nat.le_of_ble_eq_true rfl) (fun D cy ad A p e s m args below meth c Q F hQ hr hlk hex => ?_)
  refine z_eq (ls' := [(0, .ref (ad 0)), (1, ii x0)]) rfl rfl rfl ?_
  refine z_aload_n F dX11_needThing_0 rfl (q := 0) rfl ?_
  refine rf_X11_16 F gs_0 rfl dX11_needThing_1 ?_
  refine z_iload_n F dX11_needThing_4 rfl (q := 1) rfl ?_
  refine zw_i (rest := []) F (k_X9_hasThing_2 l M ⟨hI, hW⟩ x0 (by omega) (by omega)) cs_X11_200 (T := TX9) (N := 18) (ci := 9) rfl gs_2 (by decide) (by decide) ⟨by decide, by decide⟩ rfl rfl rfl (Nat.le_of_ble_eq_true rfl) dX11_needThing_5 (fun v1 M2 rv1 hI p3 => ?_)
  obtain ⟨hI, hW⟩ := hI
  obtain ⟨⟨av1, bv1⟩, rfl, xp3⟩ := p3
  refine z_if_ne (tgt := 21) F dX11_needThing_8 (by decide +kernel) (by omega) (fun c4 => ?_) (fun c4 => ?_)
  · exact zxr_v F hQ hr hlk dX11_needThing_21 ⟨by decide, by decide⟩ ⟨hI, hW⟩ ⟨rfl, (by omega)⟩
  · exact z_thrN (j := 29) F hlT hQ hlk hex (gin lm_319 rfl) (gin lm_320 rfl) at_X11_207 bad_X11_207 (by decide +kernel) ot_X11_207 rfl rfl rfl dX11_needThing_11 dX11_needThing_14 dX11_needThing_15 dX11_needThing_17 dX11_needThing_20 ⟨by decide, by decide⟩ (Nat.le_of_ble_eq_true rfl) ⟨hI, hW⟩ (⟨rfl, trivial, rfl⟩)
set_option maxRecDepth 4000 in
theorem k_X11_isIn (l : Launch) (M : Mem) (hJ : Iw M) (x0 : Int) (hx0a : (-2147483648) ≤ x0) (hx0b : x0 ≤ 2147483647) (x1 : Int) (hx1a : (-2147483648) ≤ x1) (hx1b : x1 ≤ 2147483647) : CI l yX11_isIn cX11_isIn 2 (some .boolean) 1 (fun ad => [ii x0, ii x1]) M (fun z M' => (0 ≤ z ∧ z ≤ 1) ∧ M = M' ∧ (z = 1 ↔ Bt x0 x1)) := by
  obtain ⟨hI, hW⟩ := hJ
  refine en_z (by decide +kernel) (fun ad => by exact Nat.le_of_ble_eq_true rfl) (fun D cy ad A p e s m args below meth c Q F hret => ?_)
  refine z_eq (ls' := [(0, ii x0), (1, ii x1)]) rfl rfl rfl ?_
  refine z_iload_n F dX11_isIn_0 rfl (q := 0) rfl ?_
  refine z_iload_n F dX11_isIn_1 rfl (q := 1) rfl ?_
  refine z_ishr0 F dX11_isIn_2 (fun v1 ev1 rv1 => ?_)
  refine z_iconst F dX11_isIn_3 ?_
  refine z_iand_r F dX11_isIn_4 (by omega) (by omega) (fun v2 ev2 av2 bv2 => ?_)
  have hbt := bt_of ev2 (by assumption)
  refine z_if_eq (tgt := 12) F dX11_isIn_5 (by decide +kernel) (by omega) (fun c3 => ?_) (fun c3 => ?_)
  · refine z_iconst F dX11_isIn_12 ?_
    exact hret _ _ 13 _ ⟨by omega, by omega⟩ ⟨hI, hW⟩ ⟨⟨by omega, by omega⟩, rfl, (by constructor <;> intro q <;> first | (exact hbt.mp (by omega)) | (have := hbt.mpr q; omega) | omega)⟩ dX11_isIn_13
  · refine z_iconst F dX11_isIn_8 ?_
    refine z_goto (tgt := 13) F dX11_isIn_9 (by decide +kernel) ?_
    exact hret _ _ 13 _ ⟨by omega, by omega⟩ ⟨hI, hW⟩ ⟨⟨by omega, by omega⟩, rfl, (by constructor <;> intro q <;> first | (exact hbt.mp (by omega)) | (have := hbt.mpr q; omega) | omega)⟩ dX11_isIn_13
set_option maxRecDepth 4000 in
theorem k_X9_isFixed_2 (l : Launch) (M : Mem) (hJ : Iw M) (x0 : Int) (hx0a : (-2147483648) ≤ x0) (hx0b : x0 ≤ 2147483647) : CI l yX9_isFixed cX9_isFixed 2 (some .boolean) 2 (fun ad => [.ref (ad 2), ii x0]) M (fun z M' => (0 ≤ z ∧ z ≤ 1) ∧ M = M') := by
  obtain ⟨hI, hW⟩ := hJ
  refine en_z (by decide +kernel) (fun ad => by exact Nat.le_of_ble_eq_true rfl) (fun D cy ad A p e s m args below meth c Q F hret => ?_)
  refine z_eq (ls' := [(0, .ref (ad 2)), (1, ii x0)]) rfl rfl rfl ?_
  refine z_aload_n F dX9_isFixed_0 rfl (q := 0) rfl ?_
  refine gf_X9_68 F hI gs_2 rfl bd_2_12 dX9_isFixed_1 (fun v1 ev1 av1 bv1 => ?_)
  refine z_iload_n F dX9_isFixed_4 rfl (q := 1) rfl ?_
  refine zn_i (rest := []) F (k_X11_isIn l M ⟨hI, hW⟩ v1 (by omega) (by omega) x0 (by omega) (by omega)) cs_X9_97 (by decide) (by decide) rfl rfl rfl (Nat.le_of_ble_eq_true rfl) dX9_isFixed_5 (fun v2 M3 rv2 hI p4 => ?_)
  obtain ⟨hI, hW⟩ := hI
  obtain ⟨⟨av2, bv2⟩, rfl, xp4⟩ := p4
  have hbqx0 := xp4
  exact hret _ _ 8 _ ⟨by omega, by omega⟩ ⟨hI, hW⟩ ⟨⟨by omega, by omega⟩, rfl⟩ dX9_isFixed_8
set_option maxRecDepth 4000 in
theorem k_X2_isOdd_14 (l : Launch) (M : Mem) (hJ : Iw M) (x0 : Int) (hx0a : (-2147483648) ≤ x0) (hx0b : x0 ≤ 2147483647) : CI l yX2_isOdd cX2_isOdd 2 (some .boolean) 1 (fun ad => [.ref (ad 14), ii x0]) M (fun z M' => (0 ≤ z ∧ z ≤ 1) ∧ M = M') := by
  obtain ⟨hI, hW⟩ := hJ
  refine en_z (by decide +kernel) (fun ad => by exact Nat.le_of_ble_eq_true rfl) (fun D cy ad A p e s m args below meth c Q F hret => ?_)
  refine z_eq (ls' := [(0, .ref (ad 14)), (1, ii x0)]) rfl rfl rfl ?_
  refine z_iload_n F dX2_isOdd_0 rfl (q := 1) rfl ?_
  refine z_if_ne (tgt := 21) F dX2_isOdd_1 (by decide +kernel) (by omega) (fun c1 => ?_) (fun c1 => ?_)
  · refine z_iload_n F dX2_isOdd_21 rfl (q := 1) rfl ?_
    refine z_iconst F dX2_isOdd_22 ?_
    refine z_irem0 F dX2_isOdd_23 (by decide) (fun v2 _ rv2 => ?_)
    refine z_if_eq (tgt := 31) F dX2_isOdd_24 (by decide +kernel) (by omega) (fun c3 => ?_) (fun c3 => ?_)
    · refine z_iconst F dX2_isOdd_31 ?_
      exact hret _ _ 32 _ ⟨by omega, by omega⟩ ⟨hI, hW⟩ ⟨⟨by omega, by omega⟩, rfl⟩ dX2_isOdd_32
    · refine z_iconst F dX2_isOdd_27 ?_
      refine z_goto (tgt := 32) F dX2_isOdd_28 (by decide +kernel) ?_
      exact hret _ _ 32 _ ⟨by omega, by omega⟩ ⟨hI, hW⟩ ⟨⟨by omega, by omega⟩, rfl⟩ dX2_isOdd_32
  · refine z_aload_n F dX2_isOdd_4 rfl (q := 0) rfl ?_
    refine gf_X2_15 F hI gs_14 rfl bd_14_2 dX2_isOdd_5 (fun v4 ev4 av4 bv4 => ?_)
    refine z_iconst F dX2_isOdd_8 ?_
    refine z_iand_r F dX2_isOdd_9 (by omega) (by omega) (fun v5 ev5 av5 bv5 => ?_)
    refine z_if_eq (tgt := 17) F dX2_isOdd_10 (by decide +kernel) (by omega) (fun c6 => ?_) (fun c6 => ?_)
    · refine z_iconst F dX2_isOdd_17 ?_
      refine z_goto (tgt := 32) F dX2_isOdd_18 (by decide +kernel) ?_
      exact hret _ _ 32 _ ⟨by omega, by omega⟩ ⟨hI, hW⟩ ⟨⟨by omega, by omega⟩, rfl⟩ dX2_isOdd_32
    · refine z_iconst F dX2_isOdd_13 ?_
      refine z_goto (tgt := 32) F dX2_isOdd_14 (by decide +kernel) ?_
      exact hret _ _ 32 _ ⟨by omega, by omega⟩ ⟨hI, hW⟩ ⟨⟨by omega, by omega⟩, rfl⟩ dX2_isOdd_32
set_option maxRecDepth 4000 in
theorem k_X2_isEven_14 (l : Launch) (M : Mem) (hJ : Iw M) (x0 : Int) (hx0a : (-2147483648) ≤ x0) (hx0b : x0 ≤ 2147483647) : CI l yX2_isEven cX2_isEven 2 (some .boolean) 1 (fun ad => [.ref (ad 14), ii x0]) M (fun z M' => (0 ≤ z ∧ z ≤ 1) ∧ M = M') := by
  obtain ⟨hI, hW⟩ := hJ
  refine en_z (by decide +kernel) (fun ad => by exact Nat.le_of_ble_eq_true rfl) (fun D cy ad A p e s m args below meth c Q F hret => ?_)
  refine z_eq (ls' := [(0, .ref (ad 14)), (1, ii x0)]) rfl rfl rfl ?_
  refine z_iload_n F dX2_isEven_0 rfl (q := 1) rfl ?_
  refine z_if_ne (tgt := 21) F dX2_isEven_1 (by decide +kernel) (by omega) (fun c1 => ?_) (fun c1 => ?_)
  · refine z_iload_n F dX2_isEven_21 rfl (q := 1) rfl ?_
    refine z_iconst F dX2_isEven_22 ?_
    refine z_irem0 F dX2_isEven_23 (by decide) (fun v2 _ rv2 => ?_)
    refine z_if_ne (tgt := 31) F dX2_isEven_24 (by decide +kernel) (by omega) (fun c3 => ?_) (fun c3 => ?_)
    · refine z_iconst F dX2_isEven_31 ?_
      exact hret _ _ 32 _ ⟨by omega, by omega⟩ ⟨hI, hW⟩ ⟨⟨by omega, by omega⟩, rfl⟩ dX2_isEven_32
    · refine z_iconst F dX2_isEven_27 ?_
      refine z_goto (tgt := 32) F dX2_isEven_28 (by decide +kernel) ?_
      exact hret _ _ 32 _ ⟨by omega, by omega⟩ ⟨hI, hW⟩ ⟨⟨by omega, by omega⟩, rfl⟩ dX2_isEven_32
  · refine z_aload_n F dX2_isEven_4 rfl (q := 0) rfl ?_
    refine gf_X2_15 F hI gs_14 rfl bd_14_2 dX2_isEven_5 (fun v4 ev4 av4 bv4 => ?_)
    refine z_iconst F dX2_isEven_8 ?_
    refine z_iand_r F dX2_isEven_9 (by omega) (by omega) (fun v5 ev5 av5 bv5 => ?_)
    refine z_if_eq (tgt := 17) F dX2_isEven_10 (by decide +kernel) (by omega) (fun c6 => ?_) (fun c6 => ?_)
    · refine z_iconst F dX2_isEven_17 ?_
      refine z_goto (tgt := 32) F dX2_isEven_18 (by decide +kernel) ?_
      exact hret _ _ 32 _ ⟨by omega, by omega⟩ ⟨hI, hW⟩ ⟨⟨by omega, by omega⟩, rfl⟩ dX2_isEven_32
    · refine z_iconst F dX2_isEven_13 ?_
      refine z_goto (tgt := 32) F dX2_isEven_14 (by decide +kernel) ?_
      exact hret _ _ 32 _ ⟨by omega, by omega⟩ ⟨hI, hW⟩ ⟨⟨by omega, by omega⟩, rfl⟩ dX2_isEven_32
set_option maxRecDepth 4000 in
theorem k_X7_foesAt_35 (l : Launch) (M : Mem) (hJ : Iw M) (x0 : Int) (hx0a : 0 ≤ x0) (hx0b : x0 ≤ 7) (x1 : Int) (hx1a : 0 ≤ x1) (hx1b : x1 ≤ 9) : CI l yX7_foesAt cX7_foesAt 6 (some .int) 2 (fun ad => [.ref (ad 35), ii x0, ii x1]) M (fun z M' => (0 ≤ z ∧ z ≤ 255) ∧ M = M') := by
  obtain ⟨hI, hW⟩ := hJ
  refine en_i (by decide +kernel) (fun ad => by exact Nat.le_of_ble_eq_true rfl) (fun D cy ad A p e s m args below meth c Q F hret => ?_)
  refine z_eq (ls' := [(0, .ref (ad 35)), (1, ii x0), (2, ii x1)]) rfl rfl rfl ?_
  refine z_iconst F dX7_foesAt_0 ?_
  refine z_istore_n F dX7_foesAt_1 rfl (by decide) (ls' := [(3, ii 0), (0, .ref (ad 35)), (1, ii x0), (2, ii x1)]) rfl ?_
  refine z_iconst F dX7_foesAt_2 ?_
  refine z_istore F dX7_foesAt_3 (by decide) (ls' := [(4, ii 0), (3, ii 0), (0, .ref (ad 35)), (1, ii x0), (2, ii x1)]) rfl ?_
  refine z_loc [2, 3, 4, 1, 0] (ls' := [(0, .ref (ad 35)), (1, ii x0), (2, ii x1), (3, ii 0), (4, ii 0)]) rfl ?_
  suffices key5 : ∀ (n : Nat) (y2 : Int) (y3 : Int), 0 ≤ y2 → y2 ≤ 255 → 0 ≤ y3 → y3 ≤ 8 → 8 - y3 < (n : Int) → Z D cy ad p l e (RMh 2) s m args below meth c A 6 0 0 Q 5 [(0, .ref (ad 35)), (1, ii x0), (2, ii x1), (3, ii y2), (4, ii y3)] [] M from key5 9 0 0 (by omega) (by omega) (by omega) (by omega) (by omega)
  intro n5
  induction n5 with
  | zero => intro y2 y3 ay2 by2 ay3 by3 hn5; exfalso; omega
  | succ n5 ih5 =>
    intro y2 y3 ay2 by2 ay3 by3 hn5
    refine z_iload F dX7_foesAt_5 (q := 4) rfl ?_
    refine z_aload_n F dX7_foesAt_7 rfl (q := 0) rfl ?_
    refine rf_X7_24 F gs_35 rfl dX7_foesAt_8 ?_
    refine gf_X7_28 F hI gs_2 rfl bd_2_3 dX7_foesAt_11 (fun v4 ev4 av4 bv4 => ?_)
    refine z_icmp_ge (tgt := 100) F dX7_foesAt_14 (by decide +kernel) (by omega) (by omega) (fun c5 => ?_) (fun c5 => ?_)
    · refine z_iload_n F dX7_foesAt_100 rfl (q := 3) rfl ?_
      exact hret _ _ 101 _ (by omega) ⟨hI, hW⟩ ⟨⟨by omega, by omega⟩, rfl⟩ dX7_foesAt_101
    · refine z_iload F dX7_foesAt_17 (q := 4) rfl ?_
      refine z_iload_n F dX7_foesAt_19 rfl (q := 1) rfl ?_
      refine z_icmp_eq (tgt := 94) F dX7_foesAt_20 (by decide +kernel) (by omega) (by omega) (fun c6 => ?_) (fun c6 => ?_)
      · refine z_iincN F dX7_foesAt_94 (q := 4) rfl (by decide) (fun v7 ev7 => ?_)
        refine z_eq (ls' := [(4, ii v7), (0, .ref (ad 35)), (1, ii x0), (2, ii x1), (3, ii y2)]) rfl rfl rfl ?_
        refine z_goto (tgt := 5) F dX7_foesAt_97 (by decide +kernel) ?_
        refine z_loc [1, 2, 3, 4, 0] (ls' := [(0, .ref (ad 35)), (1, ii x0), (2, ii x1), (3, ii y2), (4, ii v7)]) rfl ?_
        exact ih5 y2 v7 (by omega) (by omega) (by omega) (by omega) (by omega)
      · refine z_aload_n F dX7_foesAt_23 rfl (q := 0) rfl ?_
        refine rf_X7_24 F gs_35 rfl dX7_foesAt_24 ?_
        refine rf_X7_86 F gs_2 rfl dX7_foesAt_27 ?_
        refine z_iload_n F dX7_foesAt_30 rfl (q := 2) rfl ?_
        refine z_iald F hI gs_3 (by omega) (by omega) (by decide) bd_3 dX7_foesAt_31 (fun v8 (ev8 : v8 = M 3 _) av8 bv8 => ?_)
        refine z_aload_n F dX7_foesAt_32 rfl (q := 0) rfl ?_
        refine rf_X7_9 F gs_35 rfl dX7_foesAt_33 ?_
        refine z_iload F dX7_foesAt_36 (q := 4) rfl ?_
        refine z_iald F hI gs_36 (by omega) (by omega) (by decide) bd_36 dX7_foesAt_38 (fun v9 (ev9 : v9 = M 36 _) av9 bv9 => ?_)
        refine zn_i (rest := []) F (k_X11_isIn l M ⟨hI, hW⟩ v8 (by omega) (by omega) v9 (by omega) (by omega)) cs_X7_82 (by decide) (by decide) rfl rfl rfl (Nat.le_of_ble_eq_true rfl) dX7_foesAt_39 (fun v10 M11 rv10 hI p12 => ?_)
        obtain ⟨hI, hW⟩ := hI
        obtain ⟨⟨av10, bv10⟩, rfl, xp12⟩ := p12
        have hbqv9 := xp12
        refine z_if_eq (tgt := 94) F dX7_foesAt_42 (by decide +kernel) (by omega) (fun c13 => ?_) (fun c13 => ?_)
        · refine z_iincN F dX7_foesAt_94 (q := 4) rfl (by decide) (fun v14 ev14 => ?_)
          refine z_eq (ls' := [(4, ii v14), (0, .ref (ad 35)), (1, ii x0), (2, ii x1), (3, ii y2)]) rfl rfl rfl ?_
          refine z_goto (tgt := 5) F dX7_foesAt_97 (by decide +kernel) ?_
          refine z_loc [1, 2, 3, 4, 0] (ls' := [(0, .ref (ad 35)), (1, ii x0), (2, ii x1), (3, ii y2), (4, ii v14)]) rfl ?_
          exact ih5 y2 v14 (by omega) (by omega) (by omega) (by omega) (by omega)
        · refine z_aload_n F dX7_foesAt_45 rfl (q := 0) rfl ?_
          refine rf_X7_24 F gs_35 rfl dX7_foesAt_46 ?_
          refine rf_X7_89 F gs_2 rfl dX7_foesAt_49 ?_
          refine z_iload_n F dX7_foesAt_52 rfl (q := 2) rfl ?_
          refine z_iald F hI gs_4 (by omega) (by omega) (by decide) bd_4 dX7_foesAt_53 (fun v15 (ev15 : v15 = M 4 _) av15 bv15 => ?_)
          refine z_aload_n F dX7_foesAt_54 rfl (q := 0) rfl ?_
          refine rf_X7_9 F gs_35 rfl dX7_foesAt_55 ?_
          refine z_iload F dX7_foesAt_58 (q := 4) rfl ?_
          refine z_iald F hI gs_36 (by omega) (by omega) (by decide) bd_36 dX7_foesAt_60 (fun v16 (ev16 : v16 = M 36 _) av16 bv16 => ?_)
          have zv16 : v9 = v16 := ev9.trans ev16.symm
          subst zv16
          refine zn_i (rest := []) F (k_X11_isIn l M ⟨hI, hW⟩ v15 (by omega) (by omega) v9 (by omega) (by omega)) cs_X7_82 (by decide) (by decide) rfl rfl rfl (Nat.le_of_ble_eq_true rfl) dX7_foesAt_61 (fun v17 M18 rv17 hI p19 => ?_)
          obtain ⟨hI, hW⟩ := hI
          obtain ⟨⟨av17, bv17⟩, rfl, xp19⟩ := p19
          have hbqv9 := xp19
          refine z_if_eq (tgt := 76) F dX7_foesAt_64 (by decide +kernel) (by omega) (fun c20 => ?_) (fun c20 => ?_)
          · refine z_aload_n F dX7_foesAt_76 rfl (q := 0) rfl ?_
            refine rf_X7_18 F gs_35 rfl dX7_foesAt_77 ?_
            refine z_iload_n F dX7_foesAt_80 rfl (q := 1) rfl ?_
            refine z_iald F hI gs_38 (by omega) (by omega) (by decide) bd_38 dX7_foesAt_81 (fun v21 (ev21 : v21 = M 38 _) av21 bv21 => ?_)
            refine z_istore F dX7_foesAt_82 (by decide) (ls' := [(5, ii v21), (0, .ref (ad 35)), (1, ii x0), (2, ii x1), (3, ii y2), (4, ii y3)]) rfl ?_
            refine z_iload_n F dX7_foesAt_84 rfl (q := 4) rfl ?_
            refine z_iload F dX7_foesAt_85 (q := 0) rfl ?_
            refine z_iconst F dX7_foesAt_87 ?_
            refine z_iload F dX7_foesAt_88 (q := 5) rfl ?_
            refine z_shl1 (k := 7) F dX7_foesAt_90 (by decide) (by omega) (by omega) (fun v22 ev22 av22 bv22 => ?_)
            refine z_iand_r F dX7_foesAt_91 (by omega) (by omega) (fun v23 ev23 av23 bv23 => ?_)
            refine z_ior_k (k := 8) F dX7_foesAt_92 (by decide) (by omega) (by omega) (by omega) (by omega) (fun v24 av24 bv24 => ?_)
            refine z_istore_n F dX7_foesAt_93 rfl (by decide) (ls' := [(3, ii v24), (5, ii v21), (0, .ref (ad 35)), (1, ii x0), (2, ii x1), (4, ii y3)]) rfl ?_
            refine z_iincN F dX7_foesAt_94 (q := 5) rfl (by decide) (fun v25 ev25 => ?_)
            refine z_eq (ls' := [(4, ii v25), (3, ii v24), (5, ii v21), (0, .ref (ad 35)), (1, ii x0), (2, ii x1)]) rfl rfl rfl ?_
            refine z_goto (tgt := 5) F dX7_foesAt_97 (by decide +kernel) ?_
            refine z_loc [3, 4, 5, 1, 0] (ls' := [(0, .ref (ad 35)), (1, ii x0), (2, ii x1), (3, ii v24), (4, ii v25)]) rfl ?_
            exact ih5 v24 v25 (by omega) (by omega) (by omega) (by omega) (by omega)
          · refine z_aload_n F dX7_foesAt_67 rfl (q := 0) rfl ?_
            refine rf_X7_21 F gs_35 rfl dX7_foesAt_68 ?_
            refine z_iload_n F dX7_foesAt_71 rfl (q := 1) rfl ?_
            refine z_iald F hI gs_39 (by omega) (by omega) (by decide) bd_39 dX7_foesAt_72 (fun v26 (ev26 : v26 = M 39 _) av26 bv26 => ?_)
            refine z_goto (tgt := 82) F dX7_foesAt_73 (by decide +kernel) ?_
            refine z_istore F dX7_foesAt_82 (by decide) (ls' := [(5, ii v26), (0, .ref (ad 35)), (1, ii x0), (2, ii x1), (3, ii y2), (4, ii y3)]) rfl ?_
            refine z_iload_n F dX7_foesAt_84 rfl (q := 4) rfl ?_
            refine z_iload F dX7_foesAt_85 (q := 0) rfl ?_
            refine z_iconst F dX7_foesAt_87 ?_
            refine z_iload F dX7_foesAt_88 (q := 5) rfl ?_
            refine z_shl1 (k := 7) F dX7_foesAt_90 (by decide) (by omega) (by omega) (fun v27 ev27 av27 bv27 => ?_)
            refine z_iand_r F dX7_foesAt_91 (by omega) (by omega) (fun v28 ev28 av28 bv28 => ?_)
            refine z_ior_k (k := 8) F dX7_foesAt_92 (by decide) (by omega) (by omega) (by omega) (by omega) (fun v29 av29 bv29 => ?_)
            refine z_istore_n F dX7_foesAt_93 rfl (by decide) (ls' := [(3, ii v29), (5, ii v26), (0, .ref (ad 35)), (1, ii x0), (2, ii x1), (4, ii y3)]) rfl ?_
            refine z_iincN F dX7_foesAt_94 (q := 5) rfl (by decide) (fun v30 ev30 => ?_)
            refine z_eq (ls' := [(4, ii v30), (3, ii v29), (5, ii v26), (0, .ref (ad 35)), (1, ii x0), (2, ii x1)]) rfl rfl rfl ?_
            refine z_goto (tgt := 5) F dX7_foesAt_97 (by decide +kernel) ?_
            refine z_loc [3, 4, 5, 1, 0] (ls' := [(0, .ref (ad 35)), (1, ii x0), (2, ii x1), (3, ii v29), (4, ii v30)]) rfl ?_
            exact ih5 v29 v30 (by omega) (by omega) (by omega) (by omega) (by omega)
set_option maxRecDepth 4000 in
theorem k_X11_thing (l : Launch) (hlT : l.stackTraces = false) (M : Mem) (hJ : Iw M) (x0 : Int) (hx0a : (-2147483648) ≤ x0) (hx0b : x0 ≤ 2147483647) (x1 : Int) (hx1a : (-2147483648) ≤ x1) (hx1b : x1 ≤ 2147483647) : CIX l yX11_thing cX11_thing 3 (some .int) 3 2 (fun ad => [.ref (ad 0), ii x0, ii x1]) M (fun z M' => ((-2147483648) ≤ z ∧ z ≤ 2147483647) ∧ M = M') (fun E M' => (E = "java/lang/IllegalArgumentException" ∧ True ∧ M = M') ∨ (E = "java/util/NoSuchElementException" ∧ True ∧ M = M')) := by
  obtain ⟨hI, hW⟩ := hJ
  refine enx_i (by decide +kernel) (fun ad => by exact Nat.le_of_ble_eq_true rfl) (fun D cy ad A p e s m args below meth c Q F hQ hr hlk hex => ?_)
  refine z_eq (ls' := [(0, .ref (ad 0)), (1, ii x0), (2, ii x1)]) rfl rfl rfl ?_
  refine z_aload_n F dX11_thing_0 rfl (q := 0) rfl ?_
  refine z_iload_n F dX11_thing_1 rfl (q := 1) rfl ?_
  refine zy_v (rest := []) F (k_X11_needThing l hlT M ⟨hI, hW⟩ x0 (by omega) (by omega)) cs_X11_132 (T := TX11) (N := 14) (ci := 11) rfl gs_0 (by decide) (by decide) ⟨by decide, by decide⟩ rfl rfl rfl (Nat.le_of_ble_eq_true rfl) dX11_thing_2 (fun E M9 hJ9 hx => by obtain ⟨h9, g9, rfl⟩ := hx <;> first | (exact zx_out hQ hlk hex ⟨by decide, by decide⟩ hJ9 (Or.inr (⟨h9, trivial, rfl⟩)))) (fun M1 hI p2 => ?_)
  obtain ⟨hI, hW⟩ := hI
  obtain ⟨rfl, xp2⟩ := p2
  refine z_iload_n F dX11_thing_5 rfl (q := 2) rfl ?_
  rcases (show x1 = 0 ∨ x1 = 1 ∨ x1 = 2 ∨ x1 = 3 ∨ x1 = 4 ∨ x1 = 5 ∨ x1 = 6 ∨ x1 = 7 ∨ (¬ x1 = 0 ∧ ¬ x1 = 1 ∧ ¬ x1 = 2 ∧ ¬ x1 = 3 ∧ ¬ x1 = 4 ∧ ¬ x1 = 5 ∧ ¬ x1 = 6 ∧ ¬ x1 = 7) by omega) with c3 | c3 | c3 | c3 | c3 | c3 | c3 | c3 | c3
  · refine z_tabIn (tgt := 52) (off := 46) F dX11_thing_6 (by omega) (by omega) (by omega) (by rw [c3]; rfl) (by decide +kernel) ?_
    refine z_aload_n F dX11_thing_52 rfl (q := 0) rfl ?_
    refine rf_X11_34 F gs_0 rfl dX11_thing_53 ?_
    refine rf_X11_135 F gs_35 rfl dX11_thing_56 ?_
    refine z_iload_n F dX11_thing_59 rfl (q := 1) rfl ?_
    refine z_iald F hI gs_36 (by omega) (by omega) (by decide) bd_36 dX11_thing_60 (fun v4 (ev4 : v4 = M 36 _) av4 bv4 => ?_)
    exact zxr_i F hQ hr hlk dX11_thing_61 ⟨by decide, by decide⟩ (by omega) ⟨hI, hW⟩ ⟨⟨by omega, by omega⟩, rfl⟩
  · refine z_tabIn (tgt := 62) (off := 56) F dX11_thing_6 (by omega) (by omega) (by omega) (by rw [c3]; rfl) (by decide +kernel) ?_
    refine z_aload_n F dX11_thing_62 rfl (q := 0) rfl ?_
    refine rf_X11_34 F gs_0 rfl dX11_thing_63 ?_
    refine rf_X11_138 F gs_35 rfl dX11_thing_66 ?_
    refine z_iload_n F dX11_thing_69 rfl (q := 1) rfl ?_
    refine z_iald F hI gs_37 (by omega) (by omega) (by decide) bd_37 dX11_thing_70 (fun v5 (ev5 : v5 = M 37 _) av5 bv5 => ?_)
    exact zxr_i F hQ hr hlk dX11_thing_71 ⟨by decide, by decide⟩ (by omega) ⟨hI, hW⟩ ⟨⟨by omega, by omega⟩, rfl⟩
  · refine z_tabIn (tgt := 72) (off := 66) F dX11_thing_6 (by omega) (by omega) (by omega) (by rw [c3]; rfl) (by decide +kernel) ?_
    refine z_aload_n F dX11_thing_72 rfl (q := 0) rfl ?_
    refine rf_X11_16 F gs_0 rfl dX11_thing_73 ?_
    refine rf_X11_141 F gs_2 rfl dX11_thing_76 ?_
    refine z_iload_n F dX11_thing_79 rfl (q := 1) rfl ?_
    refine z_iald F hI gs_8 (by omega) (by omega) (by decide) bd_8 dX11_thing_80 (fun v6 (ev6 : v6 = M 8 _) av6 bv6 => ?_)
    exact zxr_i F hQ hr hlk dX11_thing_81 ⟨by decide, by decide⟩ (by omega) ⟨hI, hW⟩ ⟨⟨by omega, by omega⟩, rfl⟩
  · refine z_tabIn (tgt := 82) (off := 76) F dX11_thing_6 (by omega) (by omega) (by omega) (by rw [c3]; rfl) (by decide +kernel) ?_
    refine z_aload_n F dX11_thing_82 rfl (q := 0) rfl ?_
    refine rf_X11_16 F gs_0 rfl dX11_thing_83 ?_
    refine rf_X11_144 F gs_2 rfl dX11_thing_86 ?_
    refine z_iload_n F dX11_thing_89 rfl (q := 1) rfl ?_
    refine z_iald F hI gs_9 (by omega) (by omega) (by decide) bd_9 dX11_thing_90 (fun v7 (ev7 : v7 = M 9 _) av7 bv7 => ?_)
    exact zxr_i F hQ hr hlk dX11_thing_91 ⟨by decide, by decide⟩ (by omega) ⟨hI, hW⟩ ⟨⟨by omega, by omega⟩, rfl⟩
  · refine z_tabIn (tgt := 92) (off := 86) F dX11_thing_6 (by omega) (by omega) (by omega) (by rw [c3]; rfl) (by decide +kernel) ?_
    refine z_aload_n F dX11_thing_92 rfl (q := 0) rfl ?_
    refine rf_X11_16 F gs_0 rfl dX11_thing_93 ?_
    refine z_iload_n F dX11_thing_96 rfl (q := 1) rfl ?_
    refine zw_i (rest := []) F (k_X9_isFixed_2 l M ⟨hI, hW⟩ x0 (by omega) (by omega)) cs_X11_147 (T := TX9) (N := 18) (ci := 9) rfl gs_2 (by decide) (by decide) ⟨by decide, by decide⟩ rfl rfl rfl (Nat.le_of_ble_eq_true rfl) dX11_thing_97 (fun v8 M9 rv8 hI p10 => ?_)
    obtain ⟨hI, hW⟩ := hI
    obtain ⟨⟨av8, bv8⟩, rfl⟩ := p10
    refine z_if_eq (tgt := 107) F dX11_thing_100 (by decide +kernel) (by omega) (fun c11 => ?_) (fun c11 => ?_)
    · refine z_iconst F dX11_thing_107 ?_
      exact zxr_i F hQ hr hlk dX11_thing_108 ⟨by decide, by decide⟩ (by omega) ⟨hI, hW⟩ ⟨⟨by omega, by omega⟩, rfl⟩
    · refine z_iconst F dX11_thing_103 ?_
      refine z_goto (tgt := 108) F dX11_thing_104 (by decide +kernel) ?_
      exact zxr_i F hQ hr hlk dX11_thing_108 ⟨by decide, by decide⟩ (by omega) ⟨hI, hW⟩ ⟨⟨by omega, by omega⟩, rfl⟩
  · refine z_tabIn (tgt := 109) (off := 103) F dX11_thing_6 (by omega) (by omega) (by omega) (by rw [c3]; rfl) (by decide +kernel) ?_
    refine z_aload_n F dX11_thing_109 rfl (q := 0) rfl ?_
    refine rf_X11_16 F gs_0 rfl dX11_thing_110 ?_
    refine rf_X11_151 F gs_2 rfl dX11_thing_113 ?_
    refine z_aload_n F dX11_thing_116 rfl (q := 0) rfl ?_
    refine rf_X11_34 F gs_0 rfl dX11_thing_117 ?_
    refine rf_X11_138 F gs_35 rfl dX11_thing_120 ?_
    refine z_iload_n F dX11_thing_123 rfl (q := 1) rfl ?_
    refine z_iald F hI gs_37 (by omega) (by omega) (by decide) bd_37 dX11_thing_124 (fun v12 (ev12 : v12 = M 37 _) av12 bv12 => ?_)
    refine zw_i (rest := []) F (k_X2_isOdd_14 l M ⟨hI, hW⟩ v12 (by omega) (by omega)) cs_X11_155 (T := TX2) (N := 5) (ci := 2) rfl gs_14 (by decide) (by decide) ⟨by decide, by decide⟩ rfl rfl rfl (Nat.le_of_ble_eq_true rfl) dX11_thing_125 (fun v13 M14 rv13 hI p15 => ?_)
    obtain ⟨hI, hW⟩ := hI
    obtain ⟨⟨av13, bv13⟩, rfl⟩ := p15
    refine z_if_eq (tgt := 135) F dX11_thing_128 (by decide +kernel) (by omega) (fun c16 => ?_) (fun c16 => ?_)
    · refine z_iconst F dX11_thing_135 ?_
      exact zxr_i F hQ hr hlk dX11_thing_136 ⟨by decide, by decide⟩ (by omega) ⟨hI, hW⟩ ⟨⟨by omega, by omega⟩, rfl⟩
    · refine z_iconst F dX11_thing_131 ?_
      refine z_goto (tgt := 136) F dX11_thing_132 (by decide +kernel) ?_
      exact zxr_i F hQ hr hlk dX11_thing_136 ⟨by decide, by decide⟩ (by omega) ⟨hI, hW⟩ ⟨⟨by omega, by omega⟩, rfl⟩
  · refine z_tabIn (tgt := 137) (off := 131) F dX11_thing_6 (by omega) (by omega) (by omega) (by rw [c3]; rfl) (by decide +kernel) ?_
    refine z_aload_n F dX11_thing_137 rfl (q := 0) rfl ?_
    refine rf_X11_16 F gs_0 rfl dX11_thing_138 ?_
    refine rf_X11_151 F gs_2 rfl dX11_thing_141 ?_
    refine z_aload_n F dX11_thing_144 rfl (q := 0) rfl ?_
    refine rf_X11_34 F gs_0 rfl dX11_thing_145 ?_
    refine rf_X11_138 F gs_35 rfl dX11_thing_148 ?_
    refine z_iload_n F dX11_thing_151 rfl (q := 1) rfl ?_
    refine z_iald F hI gs_37 (by omega) (by omega) (by decide) bd_37 dX11_thing_152 (fun v17 (ev17 : v17 = M 37 _) av17 bv17 => ?_)
    refine zw_i (rest := []) F (k_X2_isEven_14 l M ⟨hI, hW⟩ v17 (by omega) (by omega)) cs_X11_160 (T := TX2) (N := 5) (ci := 2) rfl gs_14 (by decide) (by decide) ⟨by decide, by decide⟩ rfl rfl rfl (Nat.le_of_ble_eq_true rfl) dX11_thing_153 (fun v18 M19 rv18 hI p20 => ?_)
    obtain ⟨hI, hW⟩ := hI
    obtain ⟨⟨av18, bv18⟩, rfl⟩ := p20
    refine z_if_eq (tgt := 163) F dX11_thing_156 (by decide +kernel) (by omega) (fun c21 => ?_) (fun c21 => ?_)
    · refine z_iconst F dX11_thing_163 ?_
      exact zxr_i F hQ hr hlk dX11_thing_164 ⟨by decide, by decide⟩ (by omega) ⟨hI, hW⟩ ⟨⟨by omega, by omega⟩, rfl⟩
    · refine z_iconst F dX11_thing_159 ?_
      refine z_goto (tgt := 164) F dX11_thing_160 (by decide +kernel) ?_
      exact zxr_i F hQ hr hlk dX11_thing_164 ⟨by decide, by decide⟩ (by omega) ⟨hI, hW⟩ ⟨⟨by omega, by omega⟩, rfl⟩
  · refine z_tabIn (tgt := 165) (off := 159) F dX11_thing_6 (by omega) (by omega) (by omega) (by rw [c3]; rfl) (by decide +kernel) ?_
    refine z_aload_n F dX11_thing_165 rfl (q := 0) rfl ?_
    refine rf_X11_34 F gs_0 rfl dX11_thing_166 ?_
    refine z_iload_n F dX11_thing_169 rfl (q := 1) rfl ?_
    refine z_aload_n F dX11_thing_170 rfl (q := 0) rfl ?_
    refine rf_X11_34 F gs_0 rfl dX11_thing_171 ?_
    refine rf_X11_135 F gs_35 rfl dX11_thing_174 ?_
    refine z_iload_n F dX11_thing_177 rfl (q := 1) rfl ?_
    refine z_iald F hI gs_36 (by omega) (by omega) (by decide) bd_36 dX11_thing_178 (fun v22 (ev22 : v22 = M 36 _) av22 bv22 => ?_)
    refine zw_i (rest := []) F (k_X7_foesAt_35 l M ⟨hI, hW⟩ x0 (by omega) (by omega) v22 (by omega) (by omega)) cs_X11_163 (T := TX7) (N := 7) (ci := 7) rfl gs_35 (by decide) (by decide) ⟨by decide, by decide⟩ rfl rfl rfl (Nat.le_of_ble_eq_true rfl) dX11_thing_179 (fun v23 M24 rv23 hI p25 => ?_)
    obtain ⟨hI, hW⟩ := hI
    obtain ⟨⟨av23, bv23⟩, rfl⟩ := p25
    exact zxr_i F hQ hr hlk dX11_thing_182 ⟨by decide, by decide⟩ (by omega) ⟨hI, hW⟩ ⟨⟨by omega, by omega⟩, rfl⟩
  · refine z_tabOut (tgt := 183) F dX11_thing_6 (by omega) (by omega) (by decide +kernel) ?_
    exact z_thrS (cls := "java/lang/IllegalArgumentException") (names := ["java/lang/RuntimeException", "java/lang/Exception"]) (j := 30) F hlT hQ hlk hex (by decide +kernel) (by decide +kernel) (by decide) (gin lm_360 rfl) (gin lm_361 rfl) at_X11_105 bad_X11_105 (by decide +kernel) ot_X11_105 rfl rfl rfl dX11_thing_183 dX11_thing_186 dX11_thing_187 dX11_thing_189 dX11_thing_192 ⟨by decide, by decide⟩ (Nat.le_of_ble_eq_true rfl) ⟨hI, hW⟩ (Or.inl ⟨rfl, trivial, rfl⟩)
set_option maxRecDepth 4000 in
theorem k_X9_hasPlace_2 (l : Launch) (M : Mem) (hJ : Iw M) (x0 : Int) (hx0a : (-2147483648) ≤ x0) (hx0b : x0 ≤ 2147483647) : CI l yX9_hasPlace cX9_hasPlace 2 (some .boolean) 1 (fun ad => [.ref (ad 2), ii x0]) M (fun z M' => (0 ≤ z ∧ z ≤ 1) ∧ M = M' ∧ (z = 1 → 0 ≤ x0 ∧ x0 ≤ 9)) := by
  obtain ⟨hI, hW⟩ := hJ
  refine en_z (by decide +kernel) (fun ad => by exact Nat.le_of_ble_eq_true rfl) (fun D cy ad A p e s m args below meth c Q F hret => ?_)
  refine z_eq (ls' := [(0, .ref (ad 2)), (1, ii x0)]) rfl rfl rfl ?_
  refine z_iload_n F dX9_hasPlace_0 rfl (q := 1) rfl ?_
  refine z_if_lt (tgt := 16) F dX9_hasPlace_1 (by decide +kernel) (by omega) (fun c1 => ?_) (fun c1 => ?_)
  · refine z_iconst F dX9_hasPlace_16 ?_
    exact hret _ _ 17 _ ⟨by omega, by omega⟩ ⟨hI, hW⟩ ⟨⟨by omega, by omega⟩, rfl, (by omega)⟩ dX9_hasPlace_17
  · refine z_iload_n F dX9_hasPlace_4 rfl (q := 1) rfl ?_
    refine z_aload_n F dX9_hasPlace_5 rfl (q := 0) rfl ?_
    refine gf_X9_56 F hI gs_2 rfl bd_2_1 dX9_hasPlace_6 (fun v2 ev2 av2 bv2 => ?_)
    refine z_icmp_ge (tgt := 16) F dX9_hasPlace_9 (by decide +kernel) (by omega) (by omega) (fun c3 => ?_) (fun c3 => ?_)
    · refine z_iconst F dX9_hasPlace_16 ?_
      exact hret _ _ 17 _ ⟨by omega, by omega⟩ ⟨hI, hW⟩ ⟨⟨by omega, by omega⟩, rfl, (by omega)⟩ dX9_hasPlace_17
    · refine z_iconst F dX9_hasPlace_12 ?_
      refine z_goto (tgt := 17) F dX9_hasPlace_13 (by decide +kernel) ?_
      exact hret _ _ 17 _ ⟨by omega, by omega⟩ ⟨hI, hW⟩ ⟨⟨by omega, by omega⟩, rfl, (by omega)⟩ dX9_hasPlace_17
set_option maxRecDepth 4000 in
theorem k_X11_needPlace (l : Launch) (hlT : l.stackTraces = false) (M : Mem) (hJ : Iw M) (x0 : Int) (hx0a : (-2147483648) ≤ x0) (hx0b : x0 ≤ 2147483647) : CVX l yX11_needPlace cX11_needPlace 2 none 2 1 (fun ad => [.ref (ad 0), ii x0]) M (fun M' => M = M' ∧ (0 ≤ x0 ∧ x0 ≤ 9)) (fun E M' => (E = "java/util/NoSuchElementException" ∧ True ∧ M = M')) := by
  obtain ⟨hI, hW⟩ := hJ
  refine enx_v (by decide +kernel) (fun ad => by exact Nat.le_of_ble_eq_true rfl) (fun D cy ad A p e s m args below meth c Q F hQ hr hlk hex => ?_)
  refine z_eq (ls' := [(0, .ref (ad 0)), (1, ii x0)]) rfl rfl rfl ?_
  refine z_aload_n F dX11_needPlace_0 rfl (q := 0) rfl ?_
  refine rf_X11_16 F gs_0 rfl dX11_needPlace_1 ?_
  refine z_iload_n F dX11_needPlace_4 rfl (q := 1) rfl ?_
  refine zw_i (rest := []) F (k_X9_hasPlace_2 l M ⟨hI, hW⟩ x0 (by omega) (by omega)) cs_X11_208 (T := TX9) (N := 18) (ci := 9) rfl gs_2 (by decide) (by decide) ⟨by decide, by decide⟩ rfl rfl rfl (Nat.le_of_ble_eq_true rfl) dX11_needPlace_5 (fun v1 M2 rv1 hI p3 => ?_)
  obtain ⟨hI, hW⟩ := hI
  obtain ⟨⟨av1, bv1⟩, rfl, xp3⟩ := p3
  refine z_if_ne (tgt := 21) F dX11_needPlace_8 (by decide +kernel) (by omega) (fun c4 => ?_) (fun c4 => ?_)
  · exact zxr_v F hQ hr hlk dX11_needPlace_21 ⟨by decide, by decide⟩ ⟨hI, hW⟩ ⟨rfl, (by omega)⟩
  · exact z_thrN (j := 31) F hlT hQ hlk hex (gin lm_319 rfl) (gin lm_320 rfl) at_X11_207 bad_X11_207 (by decide +kernel) ot_X11_207 rfl rfl rfl dX11_needPlace_11 dX11_needPlace_14 dX11_needPlace_15 dX11_needPlace_17 dX11_needPlace_20 ⟨by decide, by decide⟩ (Nat.le_of_ble_eq_true rfl) ⟨hI, hW⟩ (⟨rfl, trivial, rfl⟩)
set_option maxRecDepth 4000 in
theorem k_X7_whoIsAt_35 (l : Launch) (M : Mem) (hJ : Iw M) (x0 : Int) (hx0a : (-2147483648) ≤ x0) (hx0b : x0 ≤ 2147483647) : CI l yX7_whoIsAt cX7_whoIsAt 3 (some .int) 1 (fun ad => [.ref (ad 35), ii x0]) M (fun z M' => ((-1) ≤ z ∧ z ≤ 7) ∧ M = M') := by
  obtain ⟨hI, hW⟩ := hJ
  refine en_i (by decide +kernel) (fun ad => by exact Nat.le_of_ble_eq_true rfl) (fun D cy ad A p e s m args below meth c Q F hret => ?_)
  refine z_eq (ls' := [(0, .ref (ad 35)), (1, ii x0)]) rfl rfl rfl ?_
  refine z_iconst F dX7_whoIsAt_0 ?_
  refine z_istore_n F dX7_whoIsAt_1 rfl (by decide) (ls' := [(2, ii 0), (0, .ref (ad 35)), (1, ii x0)]) rfl ?_
  refine z_loc [1, 2, 0] (ls' := [(0, .ref (ad 35)), (1, ii x0), (2, ii 0)]) rfl ?_
  suffices key2 : ∀ (n : Nat) (y2 : Int), 0 ≤ y2 → y2 ≤ 8 → 8 - y2 < (n : Int) → Z D cy ad p l e (RMh 1) s m args below meth c A 3 0 0 Q 2 [(0, .ref (ad 35)), (1, ii x0), (2, ii y2)] [] M from key2 9 0 (by omega) (by omega) (by omega)
  intro n2
  induction n2 with
  | zero => intro y2 ay2 by2 hn2; exfalso; omega
  | succ n2 ih2 =>
    intro y2 ay2 by2 hn2
    refine z_iload_n F dX7_whoIsAt_2 rfl (q := 2) rfl ?_
    refine z_aload_n F dX7_whoIsAt_3 rfl (q := 0) rfl ?_
    refine rf_X7_24 F gs_35 rfl dX7_whoIsAt_4 ?_
    refine gf_X7_28 F hI gs_2 rfl bd_2_3 dX7_whoIsAt_7 (fun v3 ev3 av3 bv3 => ?_)
    refine z_icmp_ge (tgt := 31) F dX7_whoIsAt_10 (by decide +kernel) (by omega) (by omega) (fun c4 => ?_) (fun c4 => ?_)
    · refine z_iconst F dX7_whoIsAt_31 ?_
      exact hret _ _ 32 _ (by omega) ⟨hI, hW⟩ ⟨⟨by omega, by omega⟩, rfl⟩ dX7_whoIsAt_32
    · refine z_aload_n F dX7_whoIsAt_13 rfl (q := 0) rfl ?_
      refine rf_X7_9 F gs_35 rfl dX7_whoIsAt_14 ?_
      refine z_iload_n F dX7_whoIsAt_17 rfl (q := 2) rfl ?_
      refine z_iald F hI gs_36 (by omega) (by omega) (by decide) bd_36 dX7_whoIsAt_18 (fun v5 (ev5 : v5 = M 36 _) av5 bv5 => ?_)
      refine z_iload_n F dX7_whoIsAt_19 rfl (q := 1) rfl ?_
      refine z_icmp_ne (tgt := 25) F dX7_whoIsAt_20 (by decide +kernel) (by omega) (by omega) (fun c6 => ?_) (fun c6 => ?_)
      · refine z_iincN F dX7_whoIsAt_25 (q := 2) rfl (by decide) (fun v7 ev7 => ?_)
        refine z_eq (ls' := [(2, ii v7), (0, .ref (ad 35)), (1, ii x0)]) rfl rfl rfl ?_
        refine z_goto (tgt := 2) F dX7_whoIsAt_28 (by decide +kernel) ?_
        refine z_loc [1, 2, 0] (ls' := [(0, .ref (ad 35)), (1, ii x0), (2, ii v7)]) rfl ?_
        exact ih2 v7 (by omega) (by omega) (by omega)
      · refine z_iload_n F dX7_whoIsAt_23 rfl (q := 2) rfl ?_
        exact hret _ _ 24 _ (by omega) ⟨hI, hW⟩ ⟨⟨by omega, by omega⟩, rfl⟩ dX7_whoIsAt_24
set_option maxRecDepth 4000 in
theorem k_X11_place (l : Launch) (hlT : l.stackTraces = false) (M : Mem) (hJ : Iw M) (x0 : Int) (hx0a : (-2147483648) ≤ x0) (hx0b : x0 ≤ 2147483647) (x1 : Int) (hx1a : (-2147483648) ≤ x1) (hx1b : x1 ≤ 2147483647) : CIX l yX11_place cX11_place 3 (some .int) 3 2 (fun ad => [.ref (ad 0), ii x0, ii x1]) M (fun z M' => ((-2147483648) ≤ z ∧ z ≤ 2147483647) ∧ M = M') (fun E M' => (E = "java/lang/IllegalArgumentException" ∧ True ∧ M = M') ∨ (E = "java/util/NoSuchElementException" ∧ True ∧ M = M')) := by
  obtain ⟨hI, hW⟩ := hJ
  refine enx_i (by decide +kernel) (fun ad => by exact Nat.le_of_ble_eq_true rfl) (fun D cy ad A p e s m args below meth c Q F hQ hr hlk hex => ?_)
  refine z_eq (ls' := [(0, .ref (ad 0)), (1, ii x0), (2, ii x1)]) rfl rfl rfl ?_
  refine z_aload_n F dX11_place_0 rfl (q := 0) rfl ?_
  refine z_iload_n F dX11_place_1 rfl (q := 1) rfl ?_
  refine zy_v (rest := []) F (k_X11_needPlace l hlT M ⟨hI, hW⟩ x0 (by omega) (by omega)) cs_X11_169 (T := TX11) (N := 14) (ci := 11) rfl gs_0 (by decide) (by decide) ⟨by decide, by decide⟩ rfl rfl rfl (Nat.le_of_ble_eq_true rfl) dX11_place_2 (fun E M9 hJ9 hx => by obtain ⟨h9, g9, rfl⟩ := hx <;> first | (exact zx_out hQ hlk hex ⟨by decide, by decide⟩ hJ9 (Or.inr (⟨h9, trivial, rfl⟩)))) (fun M1 hI p2 => ?_)
  obtain ⟨hI, hW⟩ := hI
  obtain ⟨rfl, xp2⟩ := p2
  refine z_iload_n F dX11_place_5 rfl (q := 2) rfl ?_
  rcases (show x1 = 0 ∨ x1 = 1 ∨ x1 = 2 ∨ (¬ x1 = 0 ∧ ¬ x1 = 1 ∧ ¬ x1 = 2) by omega) with c3 | c3 | c3 | c3
  · refine z_tabIn (tgt := 32) (off := 26) F dX11_place_6 (by omega) (by omega) (by omega) (by rw [c3]; rfl) (by decide +kernel) ?_
    refine z_aload_n F dX11_place_32 rfl (q := 0) rfl ?_
    refine rf_X11_34 F gs_0 rfl dX11_place_33 ?_
    refine z_iload_n F dX11_place_36 rfl (q := 1) rfl ?_
    refine zw_i (rest := []) F (k_X7_whoIsAt_35 l M ⟨hI, hW⟩ x0 (by omega) (by omega)) cs_X11_172 (T := TX7) (N := 7) (ci := 7) rfl gs_35 (by decide) (by decide) ⟨by decide, by decide⟩ rfl rfl rfl (Nat.le_of_ble_eq_true rfl) dX11_place_37 (fun v4 M5 rv4 hI p6 => ?_)
    obtain ⟨hI, hW⟩ := hI
    obtain ⟨⟨av4, bv4⟩, rfl⟩ := p6
    exact zxr_i F hQ hr hlk dX11_place_40 ⟨by decide, by decide⟩ (by omega) ⟨hI, hW⟩ ⟨⟨by omega, by omega⟩, rfl⟩
  · refine z_tabIn (tgt := 41) (off := 35) F dX11_place_6 (by omega) (by omega) (by omega) (by rw [c3]; rfl) (by decide +kernel) ?_
    refine z_aload_n F dX11_place_41 rfl (q := 0) rfl ?_
    refine rf_X11_16 F gs_0 rfl dX11_place_42 ?_
    refine rf_X11_176 F gs_2 rfl dX11_place_45 ?_
    refine z_iload_n F dX11_place_48 rfl (q := 1) rfl ?_
    refine z_iald F hI gs_3 (by omega) (by omega) (by decide) bd_3 dX11_place_49 (fun v7 (ev7 : v7 = M 3 _) av7 bv7 => ?_)
    exact zxr_i F hQ hr hlk dX11_place_50 ⟨by decide, by decide⟩ (by omega) ⟨hI, hW⟩ ⟨⟨by omega, by omega⟩, rfl⟩
  · refine z_tabIn (tgt := 51) (off := 45) F dX11_place_6 (by omega) (by omega) (by omega) (by rw [c3]; rfl) (by decide +kernel) ?_
    refine z_aload_n F dX11_place_51 rfl (q := 0) rfl ?_
    refine rf_X11_16 F gs_0 rfl dX11_place_52 ?_
    refine rf_X11_179 F gs_2 rfl dX11_place_55 ?_
    refine z_iload_n F dX11_place_58 rfl (q := 1) rfl ?_
    refine z_iald F hI gs_4 (by omega) (by omega) (by decide) bd_4 dX11_place_59 (fun v8 (ev8 : v8 = M 4 _) av8 bv8 => ?_)
    exact zxr_i F hQ hr hlk dX11_place_60 ⟨by decide, by decide⟩ (by omega) ⟨hI, hW⟩ ⟨⟨by omega, by omega⟩, rfl⟩
  · refine z_tabOut (tgt := 61) F dX11_place_6 (by omega) (by omega) (by decide +kernel) ?_
    exact z_thrS (cls := "java/lang/IllegalArgumentException") (names := ["java/lang/RuntimeException", "java/lang/Exception"]) (j := 32) F hlT hQ hlk hex (by decide +kernel) (by decide +kernel) (by decide) (gin lm_360 rfl) (gin lm_361 rfl) at_X11_105 bad_X11_105 (by decide +kernel) ot_X11_105 rfl rfl rfl dX11_place_61 dX11_place_64 dX11_place_65 dX11_place_67 dX11_place_70 ⟨by decide, by decide⟩ (Nat.le_of_ble_eq_true rfl) ⟨hI, hW⟩ (Or.inl ⟨rfl, trivial, rfl⟩)
set_option maxRecDepth 4000 in
theorem k_X9_stepsBetween_2 (l : Launch) (M : Mem) (hJ : Iw M) (x0 : Int) (hx0a : 0 ≤ x0) (hx0b : x0 ≤ 9) (x1 : Int) (hx1a : 0 ≤ x1) (hx1b : x1 ≤ 9) : CI l yX9_stepsBetween cX9_stepsBetween 3 (some .int) 1 (fun ad => [.ref (ad 2), ii x0, ii x1]) M (fun z M' => ((-2147483648) ≤ z ∧ z ≤ 2147483647) ∧ M = M') := by
  obtain ⟨hI, hW⟩ := hJ
  refine en_i (by decide +kernel) (fun ad => by exact Nat.le_of_ble_eq_true rfl) (fun D cy ad A p e s m args below meth c Q F hret => ?_)
  refine z_eq (ls' := [(0, .ref (ad 2)), (1, ii x0), (2, ii x1)]) rfl rfl rfl ?_
  refine z_aload_n F dX9_stepsBetween_0 rfl (q := 0) rfl ?_
  refine rf_X9_18 F gs_2 rfl dX9_stepsBetween_1 ?_
  refine z_iload_n F dX9_stepsBetween_4 rfl (q := 1) rfl ?_
  refine z_bipush F dX9_stepsBetween_5 (by decide +kernel) ?_
  refine z_imul F dX9_stepsBetween_7 ?_
  refine z_iload_n F dX9_stepsBetween_8 rfl (q := 2) rfl ?_
  refine z_iadd F dX9_stepsBetween_9 ?_
  refine z_iald F hI gs_5 (by omega) (by omega) (by decide) bd_5 dX9_stepsBetween_10 (fun v1 (ev1 : v1 = M 5 _) av1 bv1 => ?_)
  exact hret _ _ 11 _ (by omega) ⟨hI, hW⟩ ⟨⟨by omega, by omega⟩, rfl⟩ dX9_stepsBetween_11
set_option maxRecDepth 4000 in
theorem k_X11_steps (l : Launch) (hlT : l.stackTraces = false) (M : Mem) (hJ : Iw M) (x0 : Int) (hx0a : (-2147483648) ≤ x0) (hx0b : x0 ≤ 2147483647) (x1 : Int) (hx1a : (-2147483648) ≤ x1) (hx1b : x1 ≤ 2147483647) : CIX l yX11_steps cX11_steps 3 (some .int) 3 2 (fun ad => [.ref (ad 0), ii x0, ii x1]) M (fun z M' => ((-2147483648) ≤ z ∧ z ≤ 2147483647) ∧ M = M') (fun E M' => (E = "java/util/NoSuchElementException" ∧ True ∧ M = M')) := by
  obtain ⟨hI, hW⟩ := hJ
  refine enx_i (by decide +kernel) (fun ad => by exact Nat.le_of_ble_eq_true rfl) (fun D cy ad A p e s m args below meth c Q F hQ hr hlk hex => ?_)
  refine z_eq (ls' := [(0, .ref (ad 0)), (1, ii x0), (2, ii x1)]) rfl rfl rfl ?_
  refine z_aload_n F dX11_steps_0 rfl (q := 0) rfl ?_
  refine z_iload_n F dX11_steps_1 rfl (q := 1) rfl ?_
  refine zy_v (rest := []) F (k_X11_needPlace l hlT M ⟨hI, hW⟩ x0 (by omega) (by omega)) cs_X11_169 (T := TX11) (N := 14) (ci := 11) rfl gs_0 (by decide) (by decide) ⟨by decide, by decide⟩ rfl rfl rfl (Nat.le_of_ble_eq_true rfl) dX11_steps_2 (fun E M9 hJ9 hx => by obtain ⟨h9, g9, rfl⟩ := hx <;> first | (exact zx_out hQ hlk hex ⟨by decide, by decide⟩ hJ9 (⟨h9, trivial, rfl⟩))) (fun M1 hI p2 => ?_)
  obtain ⟨hI, hW⟩ := hI
  obtain ⟨rfl, xp2⟩ := p2
  refine z_aload_n F dX11_steps_5 rfl (q := 0) rfl ?_
  refine z_iload_n F dX11_steps_6 rfl (q := 2) rfl ?_
  refine zy_v (rest := []) F (k_X11_needPlace l hlT M ⟨hI, hW⟩ x1 (by omega) (by omega)) cs_X11_169 (T := TX11) (N := 14) (ci := 11) rfl gs_0 (by decide) (by decide) ⟨by decide, by decide⟩ rfl rfl rfl (Nat.le_of_ble_eq_true rfl) dX11_steps_7 (fun E M9 hJ9 hx => by obtain ⟨h9, g9, rfl⟩ := hx <;> first | (exact zx_out hQ hlk hex ⟨by decide, by decide⟩ hJ9 (⟨h9, trivial, rfl⟩))) (fun M3 hI p4 => ?_)
  obtain ⟨hI, hW⟩ := hI
  obtain ⟨rfl, xp4⟩ := p4
  refine z_aload_n F dX11_steps_10 rfl (q := 0) rfl ?_
  refine rf_X11_16 F gs_0 rfl dX11_steps_11 ?_
  refine z_iload_n F dX11_steps_14 rfl (q := 1) rfl ?_
  refine z_iload_n F dX11_steps_15 rfl (q := 2) rfl ?_
  refine zw_i (rest := []) F (k_X9_stepsBetween_2 l M ⟨hI, hW⟩ x0 (by omega) (by omega) x1 (by omega) (by omega)) cs_X11_184 (T := TX9) (N := 18) (ci := 9) rfl gs_2 (by decide) (by decide) ⟨by decide, by decide⟩ rfl rfl rfl (Nat.le_of_ble_eq_true rfl) dX11_steps_16 (fun v5 M6 rv5 hI p7 => ?_)
  obtain ⟨hI, hW⟩ := hI
  obtain ⟨⟨av5, bv5⟩, rfl⟩ := p7
  exact zxr_i F hQ hr hlk dX11_steps_19 ⟨by decide, by decide⟩ (by omega) ⟨hI, hW⟩ ⟨⟨by omega, by omega⟩, rfl⟩
set_option maxRecDepth 4000 in
theorem k_X7_wouldClash_35 (l : Launch) (M : Mem) (hJ : Iw M) (x0 : Int) (hx0a : 0 ≤ x0) (hx0b : x0 ≤ 7) (x1 : Int) (hx1a : (-2147483648) ≤ x1) (hx1b : x1 ≤ 2147483647) (x2 : Int) (hx2a : 0 ≤ x2) (hx2b : x2 ≤ 1) : CI l yX7_wouldClash cX7_wouldClash 4 (some .boolean) 2 (fun ad => [.ref (ad 35), ii x0, ii x1, ii x2]) M (fun z M' => (0 ≤ z ∧ z ≤ 1) ∧ M = M') := by
  obtain ⟨hI, hW⟩ := hJ
  refine en_z (by decide +kernel) (fun ad => by exact Nat.le_of_ble_eq_true rfl) (fun D cy ad A p e s m args below meth c Q F hret => ?_)
  refine z_eq (ls' := [(0, .ref (ad 35)), (1, ii x0), (2, ii x1), (3, ii x2)]) rfl rfl rfl ?_
  refine z_iload_n F dX7_wouldClash_0 rfl (q := 3) rfl ?_
  refine z_if_eq (tgt := 13) F dX7_wouldClash_1 (by decide +kernel) (by omega) (fun c1 => ?_) (fun c1 => ?_)
  · refine z_aload_n F dX7_wouldClash_13 rfl (q := 0) rfl ?_
    refine rf_X7_18 F gs_35 rfl dX7_wouldClash_14 ?_
    refine z_iload_n F dX7_wouldClash_17 rfl (q := 1) rfl ?_
    refine z_iald F hI gs_38 (by omega) (by omega) (by decide) bd_38 dX7_wouldClash_18 (fun v2 (ev2 : v2 = M 38 _) av2 bv2 => ?_)
    refine z_iload_n F dX7_wouldClash_19 rfl (q := 2) rfl ?_
    refine zn_i (rest := []) F (k_X11_isIn l M ⟨hI, hW⟩ v2 (by omega) (by omega) x1 (by omega) (by omega)) cs_X7_82 (by decide) (by decide) rfl rfl rfl (Nat.le_of_ble_eq_true rfl) dX7_wouldClash_20 (fun v3 M4 rv3 hI p5 => ?_)
    obtain ⟨hI, hW⟩ := hI
    obtain ⟨⟨av3, bv3⟩, rfl, xp5⟩ := p5
    have hbqx1 := xp5
    exact hret _ _ 23 _ ⟨by omega, by omega⟩ ⟨hI, hW⟩ ⟨⟨by omega, by omega⟩, rfl⟩ dX7_wouldClash_23
  · refine z_aload_n F dX7_wouldClash_4 rfl (q := 0) rfl ?_
    refine rf_X7_21 F gs_35 rfl dX7_wouldClash_5 ?_
    refine z_iload_n F dX7_wouldClash_8 rfl (q := 1) rfl ?_
    refine z_iald F hI gs_39 (by omega) (by omega) (by decide) bd_39 dX7_wouldClash_9 (fun v6 (ev6 : v6 = M 39 _) av6 bv6 => ?_)
    refine z_goto (tgt := 19) F dX7_wouldClash_10 (by decide +kernel) ?_
    refine z_iload_n F dX7_wouldClash_19 rfl (q := 2) rfl ?_
    refine zn_i (rest := []) F (k_X11_isIn l M ⟨hI, hW⟩ v6 (by omega) (by omega) x1 (by omega) (by omega)) cs_X7_82 (by decide) (by decide) rfl rfl rfl (Nat.le_of_ble_eq_true rfl) dX7_wouldClash_20 (fun v7 M8 rv7 hI p9 => ?_)
    obtain ⟨hI, hW⟩ := hI
    obtain ⟨⟨av7, bv7⟩, rfl, xp9⟩ := p9
    have hbqx1 := xp9
    exact hret _ _ 23 _ ⟨by omega, by omega⟩ ⟨hI, hW⟩ ⟨⟨by omega, by omega⟩, rfl⟩ dX7_wouldClash_23
set_option maxRecDepth 4000 in
theorem k_X11_clash (l : Launch) (hlT : l.stackTraces = false) (M : Mem) (hJ : Iw M) (x0 : Int) (hx0a : (-2147483648) ≤ x0) (hx0b : x0 ≤ 2147483647) (x1 : Int) (hx1a : (-2147483648) ≤ x1) (hx1b : x1 ≤ 2147483647) (x2 : Int) (hx2a : 0 ≤ x2) (hx2b : x2 ≤ 1) : CIX l yX11_clash cX11_clash 4 (some .boolean) 3 3 (fun ad => [.ref (ad 0), ii x0, ii x1, ii x2]) M (fun z M' => (0 ≤ z ∧ z ≤ 1) ∧ M = M') (fun E M' => (E = "java/lang/IllegalArgumentException" ∧ True ∧ M = M') ∨ (E = "java/util/NoSuchElementException" ∧ True ∧ M = M')) := by
  obtain ⟨hI, hW⟩ := hJ
  refine enx_z (by decide +kernel) (fun ad => by exact Nat.le_of_ble_eq_true rfl) (fun D cy ad A p e s m args below meth c Q F hQ hr hlk hex => ?_)
  refine z_eq (ls' := [(0, .ref (ad 0)), (1, ii x0), (2, ii x1), (3, ii x2)]) rfl rfl rfl ?_
  refine z_aload_n F dX11_clash_0 rfl (q := 0) rfl ?_
  refine z_iload_n F dX11_clash_1 rfl (q := 1) rfl ?_
  refine zy_v (rest := []) F (k_X11_needThing l hlT M ⟨hI, hW⟩ x0 (by omega) (by omega)) cs_X11_132 (T := TX11) (N := 14) (ci := 11) rfl gs_0 (by decide) (by decide) ⟨by decide, by decide⟩ rfl rfl rfl (Nat.le_of_ble_eq_true rfl) dX11_clash_2 (fun E M9 hJ9 hx => by obtain ⟨h9, g9, rfl⟩ := hx <;> first | (exact zx_out hQ hlk hex ⟨by decide, by decide⟩ hJ9 (Or.inr (⟨h9, trivial, rfl⟩)))) (fun M1 hI p2 => ?_)
  obtain ⟨hI, hW⟩ := hI
  obtain ⟨rfl, xp2⟩ := p2
  refine z_aload_n F dX11_clash_5 rfl (q := 0) rfl ?_
  refine z_iload_n F dX11_clash_6 rfl (q := 2) rfl ?_
  refine zy_v (rest := []) F (k_X11_needThing l hlT M ⟨hI, hW⟩ x1 (by omega) (by omega)) cs_X11_132 (T := TX11) (N := 14) (ci := 11) rfl gs_0 (by decide) (by decide) ⟨by decide, by decide⟩ rfl rfl rfl (Nat.le_of_ble_eq_true rfl) dX11_clash_7 (fun E M9 hJ9 hx => by obtain ⟨h9, g9, rfl⟩ := hx <;> first | (exact zx_out hQ hlk hex ⟨by decide, by decide⟩ hJ9 (Or.inr (⟨h9, trivial, rfl⟩)))) (fun M3 hI p4 => ?_)
  obtain ⟨hI, hW⟩ := hI
  obtain ⟨rfl, xp4⟩ := p4
  refine z_iload_n F dX11_clash_10 rfl (q := 1) rfl ?_
  refine z_iload_n F dX11_clash_11 rfl (q := 2) rfl ?_
  refine z_icmp_ne (tgt := 25) F dX11_clash_12 (by decide +kernel) (by omega) (by omega) (fun c5 => ?_) (fun c5 => ?_)
  · refine z_aload_n F dX11_clash_25 rfl (q := 0) rfl ?_
    refine rf_X11_34 F gs_0 rfl dX11_clash_26 ?_
    refine z_iload_n F dX11_clash_29 rfl (q := 1) rfl ?_
    refine z_iload_n F dX11_clash_30 rfl (q := 2) rfl ?_
    refine z_iload_n F dX11_clash_31 rfl (q := 3) rfl ?_
    refine zw_i (rest := []) F (k_X7_wouldClash_35 l M ⟨hI, hW⟩ x0 (by omega) (by omega) x1 (by omega) (by omega) x2 (by omega) (by omega)) cs_X11_189 (T := TX7) (N := 7) (ci := 7) rfl gs_35 (by decide) (by decide) ⟨by decide, by decide⟩ rfl rfl rfl (Nat.le_of_ble_eq_true rfl) dX11_clash_32 (fun v6 M7 rv6 hI p8 => ?_)
    obtain ⟨hI, hW⟩ := hI
    obtain ⟨⟨av6, bv6⟩, rfl⟩ := p8
    exact zxr_z F hQ hr hlk dX11_clash_35 ⟨by decide, by decide⟩ ⟨by omega, by omega⟩ ⟨hI, hW⟩ ⟨⟨by omega, by omega⟩, rfl⟩
  · exact z_thrS (cls := "java/lang/IllegalArgumentException") (names := ["java/lang/RuntimeException", "java/lang/Exception"]) (j := 33) F hlT hQ hlk hex (by decide +kernel) (by decide +kernel) (by decide) (gin lm_360 rfl) (gin lm_361 rfl) at_X11_105 bad_X11_105 (by decide +kernel) ot_X11_105 rfl rfl rfl dX11_clash_15 dX11_clash_18 dX11_clash_19 dX11_clash_21 dX11_clash_24 ⟨by decide, by decide⟩ (Nat.le_of_ble_eq_true rfl) ⟨hI, hW⟩ (Or.inl ⟨rfl, trivial, rfl⟩)
set_option maxRecDepth 4000 in
theorem k_J6_bitCount_0f7a4_s (l : Launch) (M : Mem) (hJ : Iw M) (x0 : Int) (hx0a : 0 ≤ x0) (hx0b : x0 ≤ 255) : CI l yJ6_bitCount_0f7a4 cJ6_bitCount_0f7a4 1 (some .int) 1 (fun ad => [ii x0]) M (fun z M' => (0 ≤ z ∧ z ≤ 63) ∧ M = M' ∧ (z = pcn x0.toNat)) := by
  obtain ⟨hI, hW⟩ := hJ
  refine en_i (by decide +kernel) (fun ad => by exact Nat.le_of_ble_eq_true rfl) (fun D cy ad A p e s m args below meth c Q F hret => ?_)
  refine z_eq (ls' := [(0, ii x0)]) rfl rfl rfl ?_
  refine z_iload_n F dJ6_bitCount_0f7a4_0 rfl (q := 0) rfl ?_
  refine z_iload_n F dJ6_bitCount_0f7a4_1 rfl (q := 0) rfl ?_
  refine z_iconst F dJ6_bitCount_0f7a4_2 ?_
  refine z_iushr_d (k := 1) (q := 2) F dJ6_bitCount_0f7a4_3 (by omega) (by omega) (by decide) (by decide +kernel) (fun v1 ev1 => ?_)
  refine z_ldcw (x := 1431655765) F dJ6_bitCount_0f7a4_4 (gin lm_386 rfl) (by decide +kernel) ?_
  refine z_iand_l F dJ6_bitCount_0f7a4_7 (by omega) (by omega) (fun v2 ev2 av2 bv2 => ?_)
  have hb1 := bc_1 (x := x0) (by omega) (by omega) ev2 (by assumption)
  refine z_isub F dJ6_bitCount_0f7a4_8 ?_
  have k3 : 0 ≤ (x0 - v2) ∧ (x0 - v2) ≤ 255 := by omega
  refine z_nm (fun v4 ev4 => ?_)
  refine z_istore_n F dJ6_bitCount_0f7a4_9 rfl (by decide) (ls' := [(0, ii v4)]) rfl ?_
  refine z_iload_n F dJ6_bitCount_0f7a4_10 rfl (q := 0) rfl ?_
  refine z_ldcw (x := 858993459) F dJ6_bitCount_0f7a4_11 (gin lm_387 rfl) (by decide +kernel) ?_
  refine z_iand_l F dJ6_bitCount_0f7a4_14 (by omega) (by omega) (fun v5 ev5 av5 bv5 => ?_)
  refine z_iload_n F dJ6_bitCount_0f7a4_15 rfl (q := 0) rfl ?_
  refine z_iconst F dJ6_bitCount_0f7a4_16 ?_
  refine z_iushr_d (k := 2) (q := 4) F dJ6_bitCount_0f7a4_17 (by omega) (by omega) (by decide) (by decide +kernel) (fun v6 ev6 => ?_)
  refine z_ldcw (x := 858993459) F dJ6_bitCount_0f7a4_18 (gin lm_387 rfl) (by decide +kernel) ?_
  refine z_iand_l F dJ6_bitCount_0f7a4_21 (by omega) (by omega) (fun v7 ev7 av7 bv7 => ?_)
  refine z_iadd F dJ6_bitCount_0f7a4_22 ?_
  refine z_nm (fun v8 ev8 => ?_)
  refine z_istore_n F dJ6_bitCount_0f7a4_23 rfl (by decide) (ls' := [(0, ii v8)]) rfl ?_
  refine z_iload_n F dJ6_bitCount_0f7a4_24 rfl (q := 0) rfl ?_
  refine z_iload_n F dJ6_bitCount_0f7a4_25 rfl (q := 0) rfl ?_
  refine z_iconst F dJ6_bitCount_0f7a4_26 ?_
  refine z_iushr_d (k := 4) (q := 16) F dJ6_bitCount_0f7a4_27 (by omega) (by omega) (by decide) (by decide +kernel) (fun v9 ev9 => ?_)
  refine z_iadd F dJ6_bitCount_0f7a4_28 ?_
  refine z_ldcw (x := 252645135) F dJ6_bitCount_0f7a4_29 (gin lm_388 rfl) (by decide +kernel) ?_
  refine z_iand_l F dJ6_bitCount_0f7a4_32 (by omega) (by omega) (fun v10 ev10 av10 bv10 => ?_)
  refine z_istore_n F dJ6_bitCount_0f7a4_33 rfl (by decide) (ls' := [(0, ii v10)]) rfl ?_
  refine z_iload_n F dJ6_bitCount_0f7a4_34 rfl (q := 0) rfl ?_
  refine z_iload_n F dJ6_bitCount_0f7a4_35 rfl (q := 0) rfl ?_
  refine z_bipush F dJ6_bitCount_0f7a4_36 (by decide +kernel) ?_
  refine z_iushr_d (k := 8) (q := 256) F dJ6_bitCount_0f7a4_38 (by omega) (by omega) (by decide) (by decide +kernel) (fun v11 ev11 => ?_)
  refine z_iadd F dJ6_bitCount_0f7a4_39 ?_
  refine z_nm (fun v12 ev12 => ?_)
  refine z_istore_n F dJ6_bitCount_0f7a4_40 rfl (by decide) (ls' := [(0, ii v12)]) rfl ?_
  refine z_iload_n F dJ6_bitCount_0f7a4_41 rfl (q := 0) rfl ?_
  refine z_iload_n F dJ6_bitCount_0f7a4_42 rfl (q := 0) rfl ?_
  refine z_bipush F dJ6_bitCount_0f7a4_43 (by decide +kernel) ?_
  refine z_iushr_d (k := 16) (q := 65536) F dJ6_bitCount_0f7a4_45 (by omega) (by omega) (by decide) (by decide +kernel) (fun v13 ev13 => ?_)
  refine z_iadd F dJ6_bitCount_0f7a4_46 ?_
  refine z_nm (fun v14 ev14 => ?_)
  refine z_istore_n F dJ6_bitCount_0f7a4_47 rfl (by decide) (ls' := [(0, ii v14)]) rfl ?_
  refine z_iload_n F dJ6_bitCount_0f7a4_48 rfl (q := 0) rfl ?_
  refine z_bipush F dJ6_bitCount_0f7a4_49 (by decide +kernel) ?_
  refine z_iand_r F dJ6_bitCount_0f7a4_51 (by omega) (by omega) (fun v15 ev15 av15 bv15 => ?_)
  exact hret _ _ 52 _ (by omega) ⟨hI, hW⟩ ⟨⟨by omega, by omega⟩, rfl, (by rw [bc_8 (x := x0) (by omega) (by omega) ev15 (by assumption) (by assumption) (by assumption) (by assumption) (by assumption) (by assumption) (by assumption) (by assumption) (by assumption) (by assumption) (by assumption) (by assumption) (by assumption)])⟩ dJ6_bitCount_0f7a4_52
set_option maxRecDepth 4000 in
theorem k_X7_clashCount_35 (l : Launch) (M : Mem) (hJ : Iw M) : CI l yX7_clashCount cX7_clashCount 3 (some .int) 3 (fun ad => [.ref (ad 35)]) M (fun z M' => ((-2147483648) ≤ z ∧ z ≤ 2147483647) ∧ M = M') := by
  obtain ⟨hI, hW⟩ := hJ
  refine en_i (by decide +kernel) (fun ad => by exact Nat.le_of_ble_eq_true rfl) (fun D cy ad A p e s m args below meth c Q F hret => ?_)
  refine z_eq (ls' := [(0, .ref (ad 35))]) rfl rfl rfl ?_
  refine z_iconst F dX7_clashCount_0 ?_
  refine z_istore_n F dX7_clashCount_1 rfl (by decide) (ls' := [(1, ii 0), (0, .ref (ad 35))]) rfl ?_
  refine z_iconst F dX7_clashCount_2 ?_
  refine z_istore_n F dX7_clashCount_3 rfl (by decide) (ls' := [(2, ii 0), (1, ii 0), (0, .ref (ad 35))]) rfl ?_
  refine z_loc [2, 1, 0] (ls' := [(0, .ref (ad 35)), (1, ii 0), (2, ii 0)]) rfl ?_
  suffices key4 : ∀ (n : Nat) (y2 : Int) (y3 : Int), (-2147483648) ≤ y2 → y2 ≤ 2147483647 → 0 ≤ y3 → y3 ≤ 8 → 8 - y3 < (n : Int) → Z D cy ad p l e (RMh 3) s m args below meth c A 3 0 0 Q 4 [(0, .ref (ad 35)), (1, ii y2), (2, ii y3)] [] M from key4 9 0 0 (by omega) (by omega) (by omega) (by omega) (by omega)
  intro n4
  induction n4 with
  | zero => intro y2 y3 ay2 by2 ay3 by3 hn4; exfalso; omega
  | succ n4 ih4 =>
    intro y2 y3 ay2 by2 ay3 by3 hn4
    refine z_iload_n F dX7_clashCount_4 rfl (q := 2) rfl ?_
    refine z_aload_n F dX7_clashCount_5 rfl (q := 0) rfl ?_
    refine rf_X7_24 F gs_35 rfl dX7_clashCount_6 ?_
    refine gf_X7_28 F hI gs_2 rfl bd_2_3 dX7_clashCount_9 (fun v4 ev4 av4 bv4 => ?_)
    refine z_icmp_ge (tgt := 38) F dX7_clashCount_12 (by decide +kernel) (by omega) (by omega) (fun c5 => ?_) (fun c5 => ?_)
    · refine z_iload_n F dX7_clashCount_38 rfl (q := 1) rfl ?_
      refine z_iconst F dX7_clashCount_39 ?_
      refine z_idiv0 F dX7_clashCount_40 (by decide) (fun v6 _ rv6 => ?_)
      exact hret _ _ 41 _ (by omega) ⟨hI, hW⟩ ⟨⟨by omega, by omega⟩, rfl⟩ dX7_clashCount_41
    · refine z_iload_n F dX7_clashCount_15 rfl (q := 1) rfl ?_
      refine z_aload_n F dX7_clashCount_16 rfl (q := 0) rfl ?_
      refine z_iload_n F dX7_clashCount_17 rfl (q := 2) rfl ?_
      refine z_aload_n F dX7_clashCount_18 rfl (q := 0) rfl ?_
      refine rf_X7_9 F gs_35 rfl dX7_clashCount_19 ?_
      refine z_iload_n F dX7_clashCount_22 rfl (q := 2) rfl ?_
      refine z_iald F hI gs_36 (by omega) (by omega) (by decide) bd_36 dX7_clashCount_23 (fun v7 (ev7 : v7 = M 36 _) av7 bv7 => ?_)
      refine zv_i (rest := [ii y2]) F (k_X7_foesAt_35 l M ⟨hI, hW⟩ y3 (by omega) (by omega) v7 (by omega) (by omega)) cs_X7_92 (T := TX7) (N := 7) (ci := 7) rfl gs_35 (by decide) (by decide) rfl rfl rfl (Nat.le_of_ble_eq_true rfl) dX7_clashCount_24 (fun v8 M9 rv8 hI p10 => ?_)
      obtain ⟨hI, hW⟩ := hI
      obtain ⟨⟨av8, bv8⟩, rfl⟩ := p10
      refine zs_i (rest := [ii y2]) F (k_J6_bitCount_0f7a4_s l M ⟨hI, hW⟩ v8 (by omega) (by omega)) cs_X7_95 (by decide) (by decide) rfl rfl rfl (Nat.le_of_ble_eq_true rfl) dX7_clashCount_27 (fun v11 M12 rv11 hI p13 => ?_)
      obtain ⟨hI, hW⟩ := hI
      obtain ⟨⟨av11, bv11⟩, rfl, xp13⟩ := p13
      have hp8 := pcn_8 (s := v8) (by omega) (by omega)
      have hb8v11 : 0 ≤ v11 ∧ v11 ≤ 8 := by omega
      refine z_iadd F dX7_clashCount_30 ?_
      refine z_wrap (fun v14 rv14 wv14 => ?_)
      refine z_istore_n F dX7_clashCount_31 rfl (by decide) (ls' := [(1, ii v14), (0, .ref (ad 35)), (2, ii y3)]) rfl ?_
      refine z_iincN F dX7_clashCount_32 (q := 2) rfl (by decide) (fun v15 ev15 => ?_)
      refine z_eq (ls' := [(2, ii v15), (1, ii v14), (0, .ref (ad 35))]) rfl rfl rfl ?_
      refine z_goto (tgt := 4) F dX7_clashCount_35 (by decide +kernel) ?_
      refine z_loc [2, 1, 0] (ls' := [(0, .ref (ad 35)), (1, ii v14), (2, ii v15)]) rfl ?_
      exact ih4 v14 v15 (by omega) (by omega) (by omega) (by omega) (by omega)
set_option maxRecDepth 4000 in
theorem k_X11_clashes (l : Launch) (M : Mem) (hJ : Iw M) : CI l yX11_clashes cX11_clashes 1 (some .int) 4 (fun ad => [.ref (ad 0)]) M (fun z M' => ((-2147483648) ≤ z ∧ z ≤ 2147483647) ∧ M = M') := by
  obtain ⟨hI, hW⟩ := hJ
  refine en_i (by decide +kernel) (fun ad => by exact Nat.le_of_ble_eq_true rfl) (fun D cy ad A p e s m args below meth c Q F hret => ?_)
  refine z_eq (ls' := [(0, .ref (ad 0))]) rfl rfl rfl ?_
  refine z_aload_n F dX11_clashes_0 rfl (q := 0) rfl ?_
  refine rf_X11_34 F gs_0 rfl dX11_clashes_1 ?_
  refine zv_i (rest := []) F (k_X7_clashCount_35 l M ⟨hI, hW⟩) cs_X11_193 (T := TX7) (N := 7) (ci := 7) rfl gs_35 (by decide) (by decide) rfl rfl rfl (Nat.le_of_ble_eq_true rfl) dX11_clashes_4 (fun v1 M2 rv1 hI p3 => ?_)
  obtain ⟨hI, hW⟩ := hI
  obtain ⟨⟨av1, bv1⟩, rfl⟩ := p3
  exact hret _ _ 7 _ (by omega) ⟨hI, hW⟩ ⟨⟨by omega, by omega⟩, rfl⟩ dX11_clashes_7
set_option maxRecDepth 4000 in
theorem k_J6_numberOfTrailingZeros_0f7a4 (l : Launch) (M : Mem) (hJ : Iw M) (x0 : Int) (hx0a : 0 ≤ x0) (hx0b : x0 ≤ 255) : CI l yJ6_numberOfTrailingZeros_0f7a4 cJ6_numberOfTrailingZeros_0f7a4 2 (some .int) 1 (fun ad => [ii x0]) M (fun z M' => (0 ≤ z ∧ z ≤ 32) ∧ M = M' ∧ (1 ≤ x0 → 0 ≤ z ∧ z ≤ 7 ∧ Bt x0 z)) := by
  obtain ⟨hI, hW⟩ := hJ
  refine en_i (by decide +kernel) (fun ad => by exact Nat.le_of_ble_eq_true rfl) (fun D cy ad A p e s m args below meth c Q F hret => ?_)
  refine z_eq (ls' := [(0, ii x0)]) rfl rfl rfl ?_
  refine z_iload_n F dJ6_numberOfTrailingZeros_0f7a4_0 rfl (q := 0) rfl ?_
  refine z_iconst F dJ6_numberOfTrailingZeros_0f7a4_1 ?_
  refine z_ixor0 F dJ6_numberOfTrailingZeros_0f7a4_2 (fun v1 ev1 rv1 => ?_)
  refine z_iload_n F dJ6_numberOfTrailingZeros_0f7a4_3 rfl (q := 0) rfl ?_
  refine z_iconst F dJ6_numberOfTrailingZeros_0f7a4_4 ?_
  refine z_isub F dJ6_numberOfTrailingZeros_0f7a4_5 ?_
  refine z_iand0 F dJ6_numberOfTrailingZeros_0f7a4_6 (fun v2 ev2 rv2 => ?_)
  have hn0 : x0 = 0 → v2 = -1 := fun q => ntz_0 q ev2 (by assumption)
  have hn8 : 1 ≤ x0 → ((v2 = 0 ∧ Bt x0 0) ∨ (v2 = 1 ∧ Bt x0 1) ∨ (v2 = 3 ∧ Bt x0 2) ∨ (v2 = 7 ∧ Bt x0 3) ∨ (v2 = 15 ∧ Bt x0 4) ∨ (v2 = 31 ∧ Bt x0 5) ∨ (v2 = 63 ∧ Bt x0 6) ∨ (v2 = 127 ∧ Bt x0 7)) := fun q => ntz_8 q (by omega) ev2 (by assumption)
  have hn9 : -1 ≤ v2 ∧ v2 ≤ 127 := if q : x0 = 0 then (by have := hn0 q; omega) else (by have := hn8 (by omega); omega)
  have k3 : (-1) ≤ v2 ∧ v2 ≤ 127 := by omega
  refine z_istore_n F dJ6_numberOfTrailingZeros_0f7a4_7 rfl (by decide) (ls' := [(0, ii v2)]) rfl ?_
  refine z_iload_n F dJ6_numberOfTrailingZeros_0f7a4_8 rfl (q := 0) rfl ?_
  refine z_if_gt (tgt := 17) F dJ6_numberOfTrailingZeros_0f7a4_9 (by decide +kernel) (by omega) (fun c4 => ?_) (fun c4 => ?_)
  · refine z_iconst F dJ6_numberOfTrailingZeros_0f7a4_17 ?_
    refine z_istore_n F dJ6_numberOfTrailingZeros_0f7a4_18 rfl (by decide) (ls' := [(1, ii 1), (0, ii v2)]) rfl ?_
    refine z_iload_n F dJ6_numberOfTrailingZeros_0f7a4_19 rfl (q := 1) rfl ?_
    refine z_ldcw (x := 65536) F dJ6_numberOfTrailingZeros_0f7a4_20 (gin lm_398 rfl) (by decide +kernel) ?_
    refine z_icmp_le (tgt := 34) F dJ6_numberOfTrailingZeros_0f7a4_23 (by decide +kernel) (by omega) (by omega) (fun c5 => ?_) (fun c5 => by exfalso; omega)
    refine z_iload_n F dJ6_numberOfTrailingZeros_0f7a4_34 rfl (q := 1) rfl ?_
    refine z_sipush F dJ6_numberOfTrailingZeros_0f7a4_35 (by decide +kernel) ?_
    refine z_icmp_le (tgt := 49) F dJ6_numberOfTrailingZeros_0f7a4_38 (by decide +kernel) (by omega) (by omega) (fun c6 => ?_) (fun c6 => by exfalso; omega)
    refine z_iload_n F dJ6_numberOfTrailingZeros_0f7a4_49 rfl (q := 1) rfl ?_
    refine z_bipush F dJ6_numberOfTrailingZeros_0f7a4_50 (by decide +kernel) ?_
    refine z_icmp_le (tgt := 62) F dJ6_numberOfTrailingZeros_0f7a4_52 (by decide +kernel) (by omega) (by omega) (fun c7 => ?_) (fun c7 => ?_)
    · refine z_iload_n F dJ6_numberOfTrailingZeros_0f7a4_62 rfl (q := 1) rfl ?_
      refine z_iconst F dJ6_numberOfTrailingZeros_0f7a4_63 ?_
      refine z_icmp_le (tgt := 74) F dJ6_numberOfTrailingZeros_0f7a4_64 (by decide +kernel) (by omega) (by omega) (fun c8 => ?_) (fun c8 => ?_)
      · refine z_iload_n F dJ6_numberOfTrailingZeros_0f7a4_74 rfl (q := 0) rfl ?_
        refine z_iload_n F dJ6_numberOfTrailingZeros_0f7a4_75 rfl (q := 1) rfl ?_
        refine z_iconst F dJ6_numberOfTrailingZeros_0f7a4_76 ?_
        refine z_iushr_d (k := 1) (q := 2) F dJ6_numberOfTrailingZeros_0f7a4_77 (by omega) (by omega) (by decide) (by decide +kernel) (fun v9 ev9 => ?_)
        refine z_iadd F dJ6_numberOfTrailingZeros_0f7a4_78 ?_
        exact hret _ _ 79 _ (by omega) ⟨hI, hW⟩ ⟨⟨by omega, by omega⟩, rfl, (fun q => by have hh := hn8 q; rcases hh with ⟨a9, b9⟩ | ⟨a9, b9⟩ | ⟨a9, b9⟩ | ⟨a9, b9⟩ | ⟨a9, b9⟩ | ⟨a9, b9⟩ | ⟨a9, b9⟩ | ⟨a9, b9⟩ <;> refine ⟨by omega, by omega, ?_⟩ <;> first | (rw [show (1 + v9) = 0 by omega]; exact b9) | (rw [show (1 + v9) = 1 by omega]; exact b9) | (rw [show (1 + v9) = 2 by omega]; exact b9) | (rw [show (1 + v9) = 3 by omega]; exact b9) | (rw [show (1 + v9) = 4 by omega]; exact b9) | (rw [show (1 + v9) = 5 by omega]; exact b9) | (rw [show (1 + v9) = 6 by omega]; exact b9) | (rw [show (1 + v9) = 7 by omega]; exact b9))⟩ dJ6_numberOfTrailingZeros_0f7a4_79
      · refine z_iincN F dJ6_numberOfTrailingZeros_0f7a4_67 (q := 0) rfl (by decide) (fun w e => ?_)
        subst e
        refine z_eq (ls' := [(1, ii 3), (0, ii v2)]) rfl rfl rfl ?_
        refine z_iload_n F dJ6_numberOfTrailingZeros_0f7a4_70 rfl (q := 1) rfl ?_
        refine z_iconst F dJ6_numberOfTrailingZeros_0f7a4_71 ?_
        refine z_iushr_d (k := 2) (q := 4) F dJ6_numberOfTrailingZeros_0f7a4_72 (by omega) (by omega) (by decide) (by decide +kernel) (fun v10 ev10 => ?_)
        refine z_istore_n F dJ6_numberOfTrailingZeros_0f7a4_73 rfl (by decide) (ls' := [(0, ii v10), (1, ii 3)]) rfl ?_
        refine z_iload_n F dJ6_numberOfTrailingZeros_0f7a4_74 rfl (q := 1) rfl ?_
        refine z_iload_n F dJ6_numberOfTrailingZeros_0f7a4_75 rfl (q := 0) rfl ?_
        refine z_iconst F dJ6_numberOfTrailingZeros_0f7a4_76 ?_
        refine z_iushr_d (k := 1) (q := 2) F dJ6_numberOfTrailingZeros_0f7a4_77 (by omega) (by omega) (by decide) (by decide +kernel) (fun v11 ev11 => ?_)
        refine z_iadd F dJ6_numberOfTrailingZeros_0f7a4_78 ?_
        exact hret _ _ 79 _ (by omega) ⟨hI, hW⟩ ⟨⟨by omega, by omega⟩, rfl, (fun q => by have hh := hn8 q; rcases hh with ⟨a9, b9⟩ | ⟨a9, b9⟩ | ⟨a9, b9⟩ | ⟨a9, b9⟩ | ⟨a9, b9⟩ | ⟨a9, b9⟩ | ⟨a9, b9⟩ | ⟨a9, b9⟩ <;> refine ⟨by omega, by omega, ?_⟩ <;> first | (rw [show (3 + v11) = 0 by omega]; exact b9) | (rw [show (3 + v11) = 1 by omega]; exact b9) | (rw [show (3 + v11) = 2 by omega]; exact b9) | (rw [show (3 + v11) = 3 by omega]; exact b9) | (rw [show (3 + v11) = 4 by omega]; exact b9) | (rw [show (3 + v11) = 5 by omega]; exact b9) | (rw [show (3 + v11) = 6 by omega]; exact b9) | (rw [show (3 + v11) = 7 by omega]; exact b9))⟩ dJ6_numberOfTrailingZeros_0f7a4_79
    · refine z_iincN F dJ6_numberOfTrailingZeros_0f7a4_55 (q := 0) rfl (by decide) (fun w e => ?_)
      subst e
      refine z_eq (ls' := [(1, ii 5), (0, ii v2)]) rfl rfl rfl ?_
      refine z_iload_n F dJ6_numberOfTrailingZeros_0f7a4_58 rfl (q := 1) rfl ?_
      refine z_iconst F dJ6_numberOfTrailingZeros_0f7a4_59 ?_
      refine z_iushr_d (k := 4) (q := 16) F dJ6_numberOfTrailingZeros_0f7a4_60 (by omega) (by omega) (by decide) (by decide +kernel) (fun v12 ev12 => ?_)
      refine z_istore_n F dJ6_numberOfTrailingZeros_0f7a4_61 rfl (by decide) (ls' := [(0, ii v12), (1, ii 5)]) rfl ?_
      refine z_iload_n F dJ6_numberOfTrailingZeros_0f7a4_62 rfl (q := 0) rfl ?_
      refine z_iconst F dJ6_numberOfTrailingZeros_0f7a4_63 ?_
      refine z_icmp_le (tgt := 74) F dJ6_numberOfTrailingZeros_0f7a4_64 (by decide +kernel) (by omega) (by omega) (fun c13 => ?_) (fun c13 => ?_)
      · refine z_iload_n F dJ6_numberOfTrailingZeros_0f7a4_74 rfl (q := 1) rfl ?_
        refine z_iload_n F dJ6_numberOfTrailingZeros_0f7a4_75 rfl (q := 0) rfl ?_
        refine z_iconst F dJ6_numberOfTrailingZeros_0f7a4_76 ?_
        refine z_iushr_d (k := 1) (q := 2) F dJ6_numberOfTrailingZeros_0f7a4_77 (by omega) (by omega) (by decide) (by decide +kernel) (fun v14 ev14 => ?_)
        refine z_iadd F dJ6_numberOfTrailingZeros_0f7a4_78 ?_
        exact hret _ _ 79 _ (by omega) ⟨hI, hW⟩ ⟨⟨by omega, by omega⟩, rfl, (fun q => by have hh := hn8 q; rcases hh with ⟨a9, b9⟩ | ⟨a9, b9⟩ | ⟨a9, b9⟩ | ⟨a9, b9⟩ | ⟨a9, b9⟩ | ⟨a9, b9⟩ | ⟨a9, b9⟩ | ⟨a9, b9⟩ <;> refine ⟨by omega, by omega, ?_⟩ <;> first | (rw [show (5 + v14) = 0 by omega]; exact b9) | (rw [show (5 + v14) = 1 by omega]; exact b9) | (rw [show (5 + v14) = 2 by omega]; exact b9) | (rw [show (5 + v14) = 3 by omega]; exact b9) | (rw [show (5 + v14) = 4 by omega]; exact b9) | (rw [show (5 + v14) = 5 by omega]; exact b9) | (rw [show (5 + v14) = 6 by omega]; exact b9) | (rw [show (5 + v14) = 7 by omega]; exact b9))⟩ dJ6_numberOfTrailingZeros_0f7a4_79
      · refine z_iincN F dJ6_numberOfTrailingZeros_0f7a4_67 (q := 1) rfl (by decide) (fun w e => ?_)
        subst e
        refine z_eq (ls' := [(1, ii 7), (0, ii v12)]) rfl rfl rfl ?_
        refine z_iload_n F dJ6_numberOfTrailingZeros_0f7a4_70 rfl (q := 1) rfl ?_
        refine z_iconst F dJ6_numberOfTrailingZeros_0f7a4_71 ?_
        refine z_iushr_d (k := 2) (q := 4) F dJ6_numberOfTrailingZeros_0f7a4_72 (by omega) (by omega) (by decide) (by decide +kernel) (fun v15 ev15 => ?_)
        refine z_istore_n F dJ6_numberOfTrailingZeros_0f7a4_73 rfl (by decide) (ls' := [(0, ii v15), (1, ii 7)]) rfl ?_
        refine z_iload_n F dJ6_numberOfTrailingZeros_0f7a4_74 rfl (q := 1) rfl ?_
        refine z_iload_n F dJ6_numberOfTrailingZeros_0f7a4_75 rfl (q := 0) rfl ?_
        refine z_iconst F dJ6_numberOfTrailingZeros_0f7a4_76 ?_
        refine z_iushr_d (k := 1) (q := 2) F dJ6_numberOfTrailingZeros_0f7a4_77 (by omega) (by omega) (by decide) (by decide +kernel) (fun v16 ev16 => ?_)
        refine z_iadd F dJ6_numberOfTrailingZeros_0f7a4_78 ?_
        exact hret _ _ 79 _ (by omega) ⟨hI, hW⟩ ⟨⟨by omega, by omega⟩, rfl, (fun q => by have hh := hn8 q; rcases hh with ⟨a9, b9⟩ | ⟨a9, b9⟩ | ⟨a9, b9⟩ | ⟨a9, b9⟩ | ⟨a9, b9⟩ | ⟨a9, b9⟩ | ⟨a9, b9⟩ | ⟨a9, b9⟩ <;> refine ⟨by omega, by omega, ?_⟩ <;> first | (rw [show (7 + v16) = 0 by omega]; exact b9) | (rw [show (7 + v16) = 1 by omega]; exact b9) | (rw [show (7 + v16) = 2 by omega]; exact b9) | (rw [show (7 + v16) = 3 by omega]; exact b9) | (rw [show (7 + v16) = 4 by omega]; exact b9) | (rw [show (7 + v16) = 5 by omega]; exact b9) | (rw [show (7 + v16) = 6 by omega]; exact b9) | (rw [show (7 + v16) = 7 by omega]; exact b9))⟩ dJ6_numberOfTrailingZeros_0f7a4_79
  · refine z_iload_n F dJ6_numberOfTrailingZeros_0f7a4_12 rfl (q := 0) rfl ?_
    refine z_bipush F dJ6_numberOfTrailingZeros_0f7a4_13 (by decide +kernel) ?_
    refine z_iand_r F dJ6_numberOfTrailingZeros_0f7a4_15 (by omega) (by omega) (fun v17 ev17 av17 bv17 => ?_)
    have hz32 : v2 = 0 → v17 = 0 := fun q => by rw [ev17, q]; decide
    exact hret _ _ 16 _ (by omega) ⟨hI, hW⟩ ⟨⟨by omega, by omega⟩, rfl, (fun q => by have hh := hn8 q; rcases hh with ⟨a9, b9⟩ | ⟨a9, b9⟩ | ⟨a9, b9⟩ | ⟨a9, b9⟩ | ⟨a9, b9⟩ | ⟨a9, b9⟩ | ⟨a9, b9⟩ | ⟨a9, b9⟩ <;> refine ⟨by omega, by omega, ?_⟩ <;> first | (rw [show v17 = 0 by omega]; exact b9) | (rw [show v17 = 1 by omega]; exact b9) | (rw [show v17 = 2 by omega]; exact b9) | (rw [show v17 = 3 by omega]; exact b9) | (rw [show v17 = 4 by omega]; exact b9) | (rw [show v17 = 5 by omega]; exact b9) | (rw [show v17 = 6 by omega]; exact b9) | (rw [show v17 = 7 by omega]; exact b9))⟩ dJ6_numberOfTrailingZeros_0f7a4_16
set_option maxRecDepth 4000 in
theorem k_X7_firstTwo_35 (l : Launch) (M : Mem) (hJ : Iw M) : CI l yX7_firstTwo cX7_firstTwo 3 (some .int) 3 (fun ad => [.ref (ad 35)]) M (fun z M' => ((-1) ≤ z ∧ z ≤ 77) ∧ M = M' ∧ ((z = -1 ∨ 0 ≤ z ∧ z % 10 ≤ 7 ∧ z / 10 ≤ 7))) := by
  obtain ⟨hI, hW⟩ := hJ
  refine en_i (by decide +kernel) (fun ad => by exact Nat.le_of_ble_eq_true rfl) (fun D cy ad A p e s m args below meth c Q F hret => ?_)
  refine z_eq (ls' := [(0, .ref (ad 35))]) rfl rfl rfl ?_
  refine z_iconst F dX7_firstTwo_0 ?_
  refine z_istore_n F dX7_firstTwo_1 rfl (by decide) (ls' := [(1, ii 0), (0, .ref (ad 35))]) rfl ?_
  refine z_loc [1, 0] (ls' := [(0, .ref (ad 35)), (1, ii 0)]) rfl ?_
  suffices key2 : ∀ (n : Nat) (y2 : Int), 0 ≤ y2 → y2 ≤ 8 → 8 - y2 < (n : Int) → Z D cy ad p l e (RMh 3) s m args below meth c A 3 0 0 Q 2 [(0, .ref (ad 35)), (1, ii y2)] [] M from key2 9 0 (by omega) (by omega) (by omega)
  intro n2
  induction n2 with
  | zero => intro y2 ay2 by2 hn2; exfalso; omega
  | succ n2 ih2 =>
    intro y2 ay2 by2 hn2
    refine z_iload_n F dX7_firstTwo_2 rfl (q := 1) rfl ?_
    refine z_aload_n F dX7_firstTwo_3 rfl (q := 0) rfl ?_
    refine rf_X7_24 F gs_35 rfl dX7_firstTwo_4 ?_
    refine gf_X7_28 F hI gs_2 rfl bd_2_3 dX7_firstTwo_7 (fun v3 ev3 av3 bv3 => ?_)
    refine z_icmp_ge (tgt := 49) F dX7_firstTwo_10 (by decide +kernel) (by omega) (by omega) (fun c4 => ?_) (fun c4 => ?_)
    · refine z_iconst F dX7_firstTwo_49 ?_
      exact hret _ _ 50 _ (by omega) ⟨hI, hW⟩ ⟨⟨by omega, by omega⟩, rfl, (by omega)⟩ dX7_firstTwo_50
    · refine z_aload_n F dX7_firstTwo_13 rfl (q := 0) rfl ?_
      refine z_iload_n F dX7_firstTwo_14 rfl (q := 1) rfl ?_
      refine z_aload_n F dX7_firstTwo_15 rfl (q := 0) rfl ?_
      refine rf_X7_9 F gs_35 rfl dX7_firstTwo_16 ?_
      refine z_iload_n F dX7_firstTwo_19 rfl (q := 1) rfl ?_
      refine z_iald F hI gs_36 (by omega) (by omega) (by decide) bd_36 dX7_firstTwo_20 (fun v5 (ev5 : v5 = M 36 _) av5 bv5 => ?_)
      refine zv_i (rest := []) F (k_X7_foesAt_35 l M ⟨hI, hW⟩ y2 (by omega) (by omega) v5 (by omega) (by omega)) cs_X7_92 (T := TX7) (N := 7) (ci := 7) rfl gs_35 (by decide) (by decide) rfl rfl rfl (Nat.le_of_ble_eq_true rfl) dX7_firstTwo_21 (fun v6 M7 rv6 hI p8 => ?_)
      obtain ⟨hI, hW⟩ := hI
      obtain ⟨⟨av6, bv6⟩, rfl⟩ := p8
      refine z_iload_n F dX7_firstTwo_24 rfl (q := 1) rfl ?_
      refine z_ishr_p F dX7_firstTwo_25 (by omega) (by omega) (fun v9 ev9 av9 bv9 => ?_)
      refine z_iload_n F dX7_firstTwo_26 rfl (q := 1) rfl ?_
      refine z_ishl0 F dX7_firstTwo_27 (fun v10 ev10 rv10 => ?_)
      have hsh := shsh (x := v6) (t := y2) (by omega) (by omega) (by omega) (by omega) ev10 (by assumption)
      have k11 : 0 ≤ v10 ∧ v10 ≤ 255 := by omega
      refine z_istore_n F dX7_firstTwo_28 rfl (by decide) (ls' := [(2, ii v10), (0, .ref (ad 35)), (1, ii y2)]) rfl ?_
      refine z_iload_n F dX7_firstTwo_29 rfl (q := 0) rfl ?_
      refine z_if_eq (tgt := 43) F dX7_firstTwo_30 (by decide +kernel) (by omega) (fun c12 => ?_) (fun c12 => ?_)
      · refine z_iincN F dX7_firstTwo_43 (q := 2) rfl (by decide) (fun v13 ev13 => ?_)
        refine z_eq (ls' := [(1, ii v13), (2, ii v10), (0, .ref (ad 35))]) rfl rfl rfl ?_
        refine z_goto (tgt := 2) F dX7_firstTwo_46 (by decide +kernel) ?_
        refine z_loc [2, 0] (ls' := [(0, .ref (ad 35)), (1, ii v13)]) rfl ?_
        exact ih2 v13 (by omega) (by omega) (by omega)
      · refine z_bipush F dX7_firstTwo_33 (by decide +kernel) ?_
        refine z_iload_n F dX7_firstTwo_35 rfl (q := 2) rfl ?_
        refine z_imul F dX7_firstTwo_36 ?_
        refine z_iload_n F dX7_firstTwo_37 rfl (q := 0) rfl ?_
        refine zs_i (rest := [ii (10 * y2)]) F (k_J6_numberOfTrailingZeros_0f7a4 l M ⟨hI, hW⟩ v10 (by omega) (by omega)) cs_X7_101 (by decide) (by decide) rfl rfl rfl (Nat.le_of_ble_eq_true rfl) dX7_firstTwo_38 (fun v14 M15 rv14 hI p16 => ?_)
        obtain ⟨hI, hW⟩ := hI
        obtain ⟨⟨av14, bv14⟩, rfl, xp16⟩ := p16
        have hnz := xp16 (by omega)
        have hzv14 : 0 ≤ v14 ∧ v14 ≤ 7 := by have := xp16 (by omega); omega
        refine z_iadd F dX7_firstTwo_41 ?_
        exact hret _ _ 42 _ (by omega) ⟨hI, hW⟩ ⟨⟨by omega, by omega⟩, rfl, (by omega)⟩ dX7_firstTwo_42
