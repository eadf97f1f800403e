theorem dX12_blames_0 : decode cX12_blames 0 = .ok (.aload_n 0, 1) := by decide +kernel
theorem dX12_blames_1 : decode cX12_blames 1 = .ok (.getfield 108, 3) := by decide +kernel
theorem dX12_blames_10 : decode cX12_blames 10 = .ok (.getfield 88, 3) := by decide +kernel
theorem dX12_blames_13 : decode cX12_blames 13 = .ok (.iconst 3, 1) := by decide +kernel
theorem dX12_blames_14 : decode cX12_blames 14 = .ok (.if_icmp .ne 7, 3) := by decide +kernel
theorem dX12_blames_17 : decode cX12_blames 17 = .ok (.iconst 1, 1) := by decide +kernel
theorem dX12_blames_18 : decode cX12_blames 18 = .ok (.goto 4, 3) := by decide +kernel
theorem dX12_blames_21 : decode cX12_blames 21 = .ok (.iload_n 1, 1) := by decide +kernel
theorem dX12_blames_22 : decode cX12_blames 22 = .ok (.putfield 108, 3) := by decide +kernel
theorem dX12_blames_25 : decode cX12_blames 25 = .ok (.aload_n 0, 1) := by decide +kernel
theorem dX12_blames_26 : decode cX12_blames 26 = .ok (.aload_n 0, 1) := by decide +kernel
theorem dX12_blames_27 : decode cX12_blames 27 = .ok (.getfield 85, 3) := by decide +kernel
theorem dX12_blames_30 : decode cX12_blames 30 = .ok (.putfield 111, 3) := by decide +kernel
theorem dX12_blames_33 : decode cX12_blames 33 = .ok (.return_, 1) := by decide +kernel
theorem dX12_blames_4 : decode cX12_blames 4 = .ok (.ifCond .eq 4, 3) := by decide +kernel
theorem dX12_blames_7 : decode cX12_blames 7 = .ok (.return_, 1) := by decide +kernel
theorem dX12_blames_8 : decode cX12_blames 8 = .ok (.aload_n 0, 1) := by decide +kernel
theorem dX12_blames_9 : decode cX12_blames 9 = .ok (.aload_n 0, 1) := by decide +kernel
theorem dX12_bound_0 : decode cX12_bound 0 = .ok (.ldc2_w 278, 3) := by decide +kernel
theorem dX12_bound_10 : decode cX12_bound 10 = .ok (.invokestatic 288, 3) := by decide +kernel
theorem dX12_bound_13 : decode cX12_bound 13 = .ok (.l2i, 1) := by decide +kernel
theorem dX12_bound_14 : decode cX12_bound 14 = .ok (.ireturn, 1) := by decide +kernel
theorem dX12_bound_3 : decode cX12_bound 3 = .ok (.ldc2_w 280, 3) := by decide +kernel
theorem dX12_bound_6 : decode cX12_bound 6 = .ok (.lload_n 0, 1) := by decide +kernel
theorem dX12_bound_7 : decode cX12_bound 7 = .ok (.invokestatic 282, 3) := by decide +kernel
theorem dX12_done_0 : decode cX12_done 0 = .ok (.iload_n 0, 1) := by decide +kernel
theorem dX12_done_1 : decode cX12_done 1 = .ok (.tableswitch 114 10 16 #[43, 50, 57, 64, 76, 88, 100], 43) := by decide +kernel
theorem dX12_done_100 : decode cX12_done 100 = .ok (.ireturn, 1) := by decide +kernel
theorem dX12_done_101 : decode cX12_done 101 = .ok (.lload_n 1, 1) := by decide +kernel
theorem dX12_done_102 : decode cX12_done 102 = .ok (.lload_n 3, 1) := by decide +kernel
theorem dX12_done_103 : decode cX12_done 103 = .ok (.ladd, 1) := by decide +kernel
theorem dX12_done_104 : decode cX12_done 104 = .ok (.lconst 1, 1) := by decide +kernel
theorem dX12_done_105 : decode cX12_done 105 = .ok (.lcmp, 1) := by decide +kernel
theorem dX12_done_106 : decode cX12_done 106 = .ok (.ifCond .le 7, 3) := by decide +kernel
theorem dX12_done_109 : decode cX12_done 109 = .ok (.iconst 1, 1) := by decide +kernel
theorem dX12_done_110 : decode cX12_done 110 = .ok (.goto 4, 3) := by decide +kernel
theorem dX12_done_113 : decode cX12_done 113 = .ok (.iconst 0, 1) := by decide +kernel
theorem dX12_done_114 : decode cX12_done 114 = .ok (.ireturn, 1) := by decide +kernel
theorem dX12_done_115 : decode cX12_done 115 = .ok (.lload_n 1, 1) := by decide +kernel
theorem dX12_done_116 : decode cX12_done 116 = .ok (.lload_n 3, 1) := by decide +kernel
theorem dX12_done_117 : decode cX12_done 117 = .ok (.ladd, 1) := by decide +kernel
theorem dX12_done_118 : decode cX12_done 118 = .ok (.lconst 0, 1) := by decide +kernel
theorem dX12_done_119 : decode cX12_done 119 = .ok (.lcmp, 1) := by decide +kernel
theorem dX12_done_120 : decode cX12_done 120 = .ok (.ifCond .le 7, 3) := by decide +kernel
theorem dX12_done_123 : decode cX12_done 123 = .ok (.iconst 1, 1) := by decide +kernel
theorem dX12_done_124 : decode cX12_done 124 = .ok (.goto 4, 3) := by decide +kernel
theorem dX12_done_127 : decode cX12_done 127 = .ok (.iconst 0, 1) := by decide +kernel
theorem dX12_done_128 : decode cX12_done 128 = .ok (.ireturn, 1) := by decide +kernel
theorem dX12_done_44 : decode cX12_done 44 = .ok (.lload_n 1, 1) := by decide +kernel
theorem dX12_done_45 : decode cX12_done 45 = .ok (.lload_n 3, 1) := by decide +kernel
theorem dX12_done_46 : decode cX12_done 46 = .ok (.ladd, 1) := by decide +kernel
theorem dX12_done_47 : decode cX12_done 47 = .ok (.invokestatic 291, 3) := by decide +kernel
theorem dX12_done_50 : decode cX12_done 50 = .ok (.ireturn, 1) := by decide +kernel
theorem dX12_done_51 : decode cX12_done 51 = .ok (.lload_n 1, 1) := by decide +kernel
theorem dX12_done_52 : decode cX12_done 52 = .ok (.lload_n 3, 1) := by decide +kernel
theorem dX12_done_53 : decode cX12_done 53 = .ok (.lsub, 1) := by decide +kernel
theorem dX12_done_54 : decode cX12_done 54 = .ok (.invokestatic 291, 3) := by decide +kernel
theorem dX12_done_57 : decode cX12_done 57 = .ok (.ireturn, 1) := by decide +kernel
theorem dX12_done_58 : decode cX12_done 58 = .ok (.lload_n 1, 1) := by decide +kernel
theorem dX12_done_59 : decode cX12_done 59 = .ok (.lload_n 3, 1) := by decide +kernel
theorem dX12_done_60 : decode cX12_done 60 = .ok (.lmul, 1) := by decide +kernel
theorem dX12_done_61 : decode cX12_done 61 = .ok (.invokestatic 291, 3) := by decide +kernel
theorem dX12_done_64 : decode cX12_done 64 = .ok (.ireturn, 1) := by decide +kernel
theorem dX12_done_65 : decode cX12_done 65 = .ok (.lload_n 1, 1) := by decide +kernel
theorem dX12_done_66 : decode cX12_done 66 = .ok (.lload_n 3, 1) := by decide +kernel
theorem dX12_done_67 : decode cX12_done 67 = .ok (.lcmp, 1) := by decide +kernel
theorem dX12_done_68 : decode cX12_done 68 = .ok (.ifCond .ne 7, 3) := by decide +kernel
theorem dX12_done_71 : decode cX12_done 71 = .ok (.iconst 1, 1) := by decide +kernel
theorem dX12_done_72 : decode cX12_done 72 = .ok (.goto 4, 3) := by decide +kernel
theorem dX12_done_75 : decode cX12_done 75 = .ok (.iconst 0, 1) := by decide +kernel
theorem dX12_done_76 : decode cX12_done 76 = .ok (.ireturn, 1) := by decide +kernel
theorem dX12_done_77 : decode cX12_done 77 = .ok (.lload_n 1, 1) := by decide +kernel
theorem dX12_done_78 : decode cX12_done 78 = .ok (.lload_n 3, 1) := by decide +kernel
theorem dX12_done_79 : decode cX12_done 79 = .ok (.lcmp, 1) := by decide +kernel
theorem dX12_done_80 : decode cX12_done 80 = .ok (.ifCond .ge 7, 3) := by decide +kernel
theorem dX12_done_83 : decode cX12_done 83 = .ok (.iconst 1, 1) := by decide +kernel
theorem dX12_done_84 : decode cX12_done 84 = .ok (.goto 4, 3) := by decide +kernel
theorem dX12_done_87 : decode cX12_done 87 = .ok (.iconst 0, 1) := by decide +kernel
theorem dX12_done_88 : decode cX12_done 88 = .ok (.ireturn, 1) := by decide +kernel
theorem dX12_done_89 : decode cX12_done 89 = .ok (.lload_n 1, 1) := by decide +kernel
theorem dX12_done_90 : decode cX12_done 90 = .ok (.lload_n 3, 1) := by decide +kernel
theorem dX12_done_91 : decode cX12_done 91 = .ok (.lcmp, 1) := by decide +kernel
theorem dX12_done_92 : decode cX12_done 92 = .ok (.ifCond .le 7, 3) := by decide +kernel
theorem dX12_done_95 : decode cX12_done 95 = .ok (.iconst 1, 1) := by decide +kernel
theorem dX12_done_96 : decode cX12_done 96 = .ok (.goto 4, 3) := by decide +kernel
theorem dX12_done_99 : decode cX12_done 99 = .ok (.iconst 0, 1) := by decide +kernel
theorem dX12_fails_0 : decode cX12_fails 0 = .ok (.aload_n 0, 1) := by decide +kernel
theorem dX12_fails_1 : decode cX12_fails 1 = .ok (.iload_n 1, 1) := by decide +kernel
theorem dX12_fails_2 : decode cX12_fails 2 = .ok (.putfield 73, 3) := by decide +kernel
theorem dX12_fails_5 : decode cX12_fails 5 = .ok (.iconst 0, 1) := by decide +kernel
theorem dX12_fails_6 : decode cX12_fails 6 = .ok (.ireturn, 1) := by decide +kernel
theorem dX12_fault_0 : decode cX12_fault 0 = .ok (.aload_n 0, 1) := by decide +kernel
theorem dX12_fault_1 : decode cX12_fault 1 = .ok (.iconst 0, 1) := by decide +kernel
theorem dX12_fault_10 : decode cX12_fault 10 = .ok (.getfield 270, 3) := by decide +kernel
theorem dX12_fault_13 : decode cX12_fault 13 = .ok (.goto 16, 3) := by decide +kernel
theorem dX12_fault_16 : decode cX12_fault 16 = .ok (.iload_n 1, 1) := by decide +kernel
theorem dX12_fault_17 : decode cX12_fault 17 = .ok (.iconst 1, 1) := by decide +kernel
theorem dX12_fault_18 : decode cX12_fault 18 = .ok (.if_icmp .ne 10, 3) := by decide +kernel
theorem dX12_fault_2 : decode cX12_fault 2 = .ok (.putfield 73, 3) := by decide +kernel
theorem dX12_fault_21 : decode cX12_fault 21 = .ok (.aload_n 0, 1) := by decide +kernel
theorem dX12_fault_22 : decode cX12_fault 22 = .ok (.getfield 26, 3) := by decide +kernel
theorem dX12_fault_25 : decode cX12_fault 25 = .ok (.goto 4, 3) := by decide +kernel
theorem dX12_fault_28 : decode cX12_fault 28 = .ok (.iconst (-1), 1) := by decide +kernel
theorem dX12_fault_29 : decode cX12_fault 29 = .ok (.ireturn, 1) := by decide +kernel
theorem dX12_fault_5 : decode cX12_fault 5 = .ok (.iload_n 1, 1) := by decide +kernel
theorem dX12_fault_6 : decode cX12_fault 6 = .ok (.ifCond .ne 10, 3) := by decide +kernel
theorem dX12_fault_9 : decode cX12_fault 9 = .ok (.aload_n 0, 1) := by decide +kernel
theorem dX12_feed_0 : decode cX12_feed 0 = .ok (.aload_n 0, 1) := by decide +kernel
theorem dX12_feed_1 : decode cX12_feed 1 = .ok (.iconst 0, 1) := by decide +kernel
theorem dX12_feed_102 : decode cX12_feed 102 = .ok (.iand, 1) := by decide +kernel
theorem dX12_feed_103 : decode cX12_feed 103 = .ok (.iastore, 1) := by decide +kernel
theorem dX12_feed_104 : decode cX12_feed 104 = .ok (.aload_n 0, 1) := by decide +kernel
theorem dX12_feed_105 : decode cX12_feed 105 = .ok (.dup, 1) := by decide +kernel
theorem dX12_feed_106 : decode cX12_feed 106 = .ok (.getfield 76, 3) := by decide +kernel
theorem dX12_feed_109 : decode cX12_feed 109 = .ok (.iconst 1, 1) := by decide +kernel
theorem dX12_feed_11 : decode cX12_feed 11 = .ok (.iadd, 1) := by decide +kernel
theorem dX12_feed_110 : decode cX12_feed 110 = .ok (.iadd, 1) := by decide +kernel
theorem dX12_feed_111 : decode cX12_feed 111 = .ok (.putfield 76, 3) := by decide +kernel
theorem dX12_feed_114 : decode cX12_feed 114 = .ok (.iinc 6 1, 3) := by decide +kernel
theorem dX12_feed_117 : decode cX12_feed 117 = .ok (.goto (-94), 3) := by decide +kernel
theorem dX12_feed_12 : decode cX12_feed 12 = .ok (.sipush 900, 3) := by decide +kernel
theorem dX12_feed_120 : decode cX12_feed 120 = .ok (.aload_n 0, 1) := by decide +kernel
theorem dX12_feed_121 : decode cX12_feed 121 = .ok (.getfield 76, 3) := by decide +kernel
theorem dX12_feed_124 : decode cX12_feed 124 = .ok (.ireturn, 1) := by decide +kernel
theorem dX12_feed_15 : decode cX12_feed 15 = .ok (.if_icmp .le 5, 3) := by decide +kernel
theorem dX12_feed_18 : decode cX12_feed 18 = .ok (.iconst (-1), 1) := by decide +kernel
theorem dX12_feed_19 : decode cX12_feed 19 = .ok (.ireturn, 1) := by decide +kernel
theorem dX12_feed_2 : decode cX12_feed 2 = .ok (.putfield 73, 3) := by decide +kernel
theorem dX12_feed_20 : decode cX12_feed 20 = .ok (.iconst 0, 1) := by decide +kernel
theorem dX12_feed_21 : decode cX12_feed 21 = .ok (.istore 6, 2) := by decide +kernel
theorem dX12_feed_23 : decode cX12_feed 23 = .ok (.iload 6, 2) := by decide +kernel
theorem dX12_feed_25 : decode cX12_feed 25 = .ok (.bipush 20, 2) := by decide +kernel
theorem dX12_feed_27 : decode cX12_feed 27 = .ok (.if_icmp .ge 93, 3) := by decide +kernel
theorem dX12_feed_30 : decode cX12_feed 30 = .ok (.iload 6, 2) := by decide +kernel
theorem dX12_feed_32 : decode cX12_feed 32 = .ok (.iconst 4, 1) := by decide +kernel
theorem dX12_feed_33 : decode cX12_feed 33 = .ok (.if_icmp .ge 7, 3) := by decide +kernel
theorem dX12_feed_36 : decode cX12_feed 36 = .ok (.iload_n 1, 1) := by decide +kernel
theorem dX12_feed_37 : decode cX12_feed 37 = .ok (.goto 39, 3) := by decide +kernel
theorem dX12_feed_40 : decode cX12_feed 40 = .ok (.iload 6, 2) := by decide +kernel
theorem dX12_feed_42 : decode cX12_feed 42 = .ok (.bipush 8, 2) := by decide +kernel
theorem dX12_feed_44 : decode cX12_feed 44 = .ok (.if_icmp .ge 7, 3) := by decide +kernel
theorem dX12_feed_47 : decode cX12_feed 47 = .ok (.iload_n 2, 1) := by decide +kernel
theorem dX12_feed_48 : decode cX12_feed 48 = .ok (.goto 28, 3) := by decide +kernel
theorem dX12_feed_5 : decode cX12_feed 5 = .ok (.aload_n 0, 1) := by decide +kernel
theorem dX12_feed_51 : decode cX12_feed 51 = .ok (.iload 6, 2) := by decide +kernel
theorem dX12_feed_53 : decode cX12_feed 53 = .ok (.bipush 12, 2) := by decide +kernel
theorem dX12_feed_55 : decode cX12_feed 55 = .ok (.if_icmp .ge 7, 3) := by decide +kernel
theorem dX12_feed_58 : decode cX12_feed 58 = .ok (.iload_n 3, 1) := by decide +kernel
theorem dX12_feed_59 : decode cX12_feed 59 = .ok (.goto 17, 3) := by decide +kernel
theorem dX12_feed_6 : decode cX12_feed 6 = .ok (.getfield 76, 3) := by decide +kernel
theorem dX12_feed_62 : decode cX12_feed 62 = .ok (.iload 6, 2) := by decide +kernel
theorem dX12_feed_64 : decode cX12_feed 64 = .ok (.bipush 16, 2) := by decide +kernel
theorem dX12_feed_66 : decode cX12_feed 66 = .ok (.if_icmp .ge 8, 3) := by decide +kernel
theorem dX12_feed_69 : decode cX12_feed 69 = .ok (.iload 4, 2) := by decide +kernel
theorem dX12_feed_71 : decode cX12_feed 71 = .ok (.goto 5, 3) := by decide +kernel
theorem dX12_feed_74 : decode cX12_feed 74 = .ok (.iload 5, 2) := by decide +kernel
theorem dX12_feed_76 : decode cX12_feed 76 = .ok (.istore 7, 2) := by decide +kernel
theorem dX12_feed_78 : decode cX12_feed 78 = .ok (.aload_n 0, 1) := by decide +kernel
theorem dX12_feed_79 : decode cX12_feed 79 = .ok (.getfield 23, 3) := by decide +kernel
theorem dX12_feed_82 : decode cX12_feed 82 = .ok (.aload_n 0, 1) := by decide +kernel
theorem dX12_feed_83 : decode cX12_feed 83 = .ok (.getfield 76, 3) := by decide +kernel
theorem dX12_feed_86 : decode cX12_feed 86 = .ok (.iload 7, 2) := by decide +kernel
theorem dX12_feed_88 : decode cX12_feed 88 = .ok (.bipush 24, 2) := by decide +kernel
theorem dX12_feed_9 : decode cX12_feed 9 = .ok (.bipush 20, 2) := by decide +kernel
theorem dX12_feed_90 : decode cX12_feed 90 = .ok (.bipush 8, 2) := by decide +kernel
theorem dX12_feed_92 : decode cX12_feed 92 = .ok (.iload 6, 2) := by decide +kernel
theorem dX12_feed_94 : decode cX12_feed 94 = .ok (.iconst 3, 1) := by decide +kernel
theorem dX12_feed_95 : decode cX12_feed 95 = .ok (.iand, 1) := by decide +kernel
theorem dX12_feed_96 : decode cX12_feed 96 = .ok (.imul, 1) := by decide +kernel
theorem dX12_feed_97 : decode cX12_feed 97 = .ok (.isub, 1) := by decide +kernel
theorem dX12_feed_98 : decode cX12_feed 98 = .ok (.iushr, 1) := by decide +kernel
theorem dX12_feed_99 : decode cX12_feed 99 = .ok (.sipush 255, 3) := by decide +kernel
theorem dX12_has_0 : decode cX12_has 0 = .ok (.iload_n 0, 1) := by decide +kernel
theorem dX12_has_1 : decode cX12_has 1 = .ok (.iload_n 1, 1) := by decide +kernel
theorem dX12_has_10 : decode cX12_has 10 = .ok (.goto 4, 3) := by decide +kernel
theorem dX12_has_13 : decode cX12_has 13 = .ok (.iconst 0, 1) := by decide +kernel
theorem dX12_has_14 : decode cX12_has 14 = .ok (.ireturn, 1) := by decide +kernel
theorem dX12_has_2 : decode cX12_has 2 = .ok (.ishr, 1) := by decide +kernel
theorem dX12_has_3 : decode cX12_has 3 = .ok (.iconst 1, 1) := by decide +kernel
theorem dX12_has_4 : decode cX12_has 4 = .ok (.iand, 1) := by decide +kernel
theorem dX12_has_5 : decode cX12_has 5 = .ok (.iconst 1, 1) := by decide +kernel
theorem dX12_has_6 : decode cX12_has 6 = .ok (.if_icmp .ne 7, 3) := by decide +kernel
theorem dX12_has_9 : decode cX12_has 9 = .ok (.iconst 1, 1) := by decide +kernel
theorem dX12_isDigit_0 : decode cX12_isDigit 0 = .ok (.iload_n 0, 1) := by decide +kernel
theorem dX12_isDigit_1 : decode cX12_isDigit 1 = .ok (.bipush 48, 2) := by decide +kernel
theorem dX12_isDigit_12 : decode cX12_isDigit 12 = .ok (.iconst 1, 1) := by decide +kernel
theorem dX12_isDigit_13 : decode cX12_isDigit 13 = .ok (.goto 4, 3) := by decide +kernel
theorem dX12_isDigit_16 : decode cX12_isDigit 16 = .ok (.iconst 0, 1) := by decide +kernel
theorem dX12_isDigit_17 : decode cX12_isDigit 17 = .ok (.ireturn, 1) := by decide +kernel
theorem dX12_isDigit_3 : decode cX12_isDigit 3 = .ok (.if_icmp .lt 13, 3) := by decide +kernel
theorem dX12_isDigit_6 : decode cX12_isDigit 6 = .ok (.iload_n 0, 1) := by decide +kernel
theorem dX12_isDigit_7 : decode cX12_isDigit 7 = .ok (.bipush 57, 2) := by decide +kernel
theorem dX12_isDigit_9 : decode cX12_isDigit 9 = .ok (.if_icmp .gt 7, 3) := by decide +kernel
theorem dX12_isEven_0 : decode cX12_isEven 0 = .ok (.iload_n 1, 1) := by decide +kernel
theorem dX12_isEven_1 : decode cX12_isEven 1 = .ok (.ifCond .ne 30, 3) := by decide +kernel
theorem dX12_isEven_10 : decode cX12_isEven 10 = .ok (.ifCond .eq 13, 3) := by decide +kernel
theorem dX12_isEven_13 : decode cX12_isEven 13 = .ok (.aload_n 0, 1) := by decide +kernel
theorem dX12_isEven_14 : decode cX12_isEven 14 = .ok (.getfield 9, 3) := by decide +kernel
theorem dX12_isEven_17 : decode cX12_isEven 17 = .ok (.iconst 5, 1) := by decide +kernel
theorem dX12_isEven_18 : decode cX12_isEven 18 = .ok (.iaload, 1) := by decide +kernel
theorem dX12_isEven_19 : decode cX12_isEven 19 = .ok (.iconst 2, 1) := by decide +kernel
theorem dX12_isEven_20 : decode cX12_isEven 20 = .ok (.if_icmp .ne 7, 3) := by decide +kernel
theorem dX12_isEven_23 : decode cX12_isEven 23 = .ok (.iconst 1, 1) := by decide +kernel
theorem dX12_isEven_24 : decode cX12_isEven 24 = .ok (.goto 18, 3) := by decide +kernel
theorem dX12_isEven_27 : decode cX12_isEven 27 = .ok (.iconst 0, 1) := by decide +kernel
theorem dX12_isEven_28 : decode cX12_isEven 28 = .ok (.goto 14, 3) := by decide +kernel
theorem dX12_isEven_31 : decode cX12_isEven 31 = .ok (.iload_n 1, 1) := by decide +kernel
theorem dX12_isEven_32 : decode cX12_isEven 32 = .ok (.iconst 2, 1) := by decide +kernel
theorem dX12_isEven_33 : decode cX12_isEven 33 = .ok (.irem, 1) := by decide +kernel
theorem dX12_isEven_34 : decode cX12_isEven 34 = .ok (.ifCond .ne 7, 3) := by decide +kernel
theorem dX12_isEven_37 : decode cX12_isEven 37 = .ok (.iconst 1, 1) := by decide +kernel
theorem dX12_isEven_38 : decode cX12_isEven 38 = .ok (.goto 4, 3) := by decide +kernel
theorem dX12_isEven_4 : decode cX12_isEven 4 = .ok (.aload_n 0, 1) := by decide +kernel
theorem dX12_isEven_41 : decode cX12_isEven 41 = .ok (.iconst 0, 1) := by decide +kernel
theorem dX12_isEven_42 : decode cX12_isEven 42 = .ok (.ireturn, 1) := by decide +kernel
theorem dX12_isEven_5 : decode cX12_isEven 5 = .ok (.getfield 9, 3) := by decide +kernel
theorem dX12_isEven_8 : decode cX12_isEven 8 = .ok (.iconst 5, 1) := by decide +kernel
theorem dX12_isEven_9 : decode cX12_isEven 9 = .ok (.iaload, 1) := by decide +kernel
theorem dX12_isLetter_0 : decode cX12_isLetter 0 = .ok (.iload_n 0, 1) := by decide +kernel
theorem dX12_isLetter_1 : decode cX12_isLetter 1 = .ok (.bipush 97, 2) := by decide +kernel
theorem dX12_isLetter_12 : decode cX12_isLetter 12 = .ok (.iconst 1, 1) := by decide +kernel
theorem dX12_isLetter_13 : decode cX12_isLetter 13 = .ok (.goto 4, 3) := by decide +kernel
theorem dX12_isLetter_16 : decode cX12_isLetter 16 = .ok (.iconst 0, 1) := by decide +kernel
theorem dX12_isLetter_17 : decode cX12_isLetter 17 = .ok (.ireturn, 1) := by decide +kernel
theorem dX12_isLetter_3 : decode cX12_isLetter 3 = .ok (.if_icmp .lt 13, 3) := by decide +kernel
theorem dX12_isLetter_6 : decode cX12_isLetter 6 = .ok (.iload_n 0, 1) := by decide +kernel
theorem dX12_isLetter_7 : decode cX12_isLetter 7 = .ok (.bipush 122, 2) := by decide +kernel
theorem dX12_isLetter_9 : decode cX12_isLetter 9 = .ok (.if_icmp .gt 7, 3) := by decide +kernel
theorem dX12_isOdd_0 : decode cX12_isOdd 0 = .ok (.iload_n 1, 1) := by decide +kernel
theorem dX12_isOdd_1 : decode cX12_isOdd 1 = .ok (.ifCond .ne 31, 3) := by decide +kernel
theorem dX12_isOdd_10 : decode cX12_isOdd 10 = .ok (.iconst 1, 1) := by decide +kernel
theorem dX12_isOdd_11 : decode cX12_isOdd 11 = .ok (.if_icmp .eq 13, 3) := by decide +kernel
theorem dX12_isOdd_14 : decode cX12_isOdd 14 = .ok (.aload_n 0, 1) := by decide +kernel
theorem dX12_isOdd_15 : decode cX12_isOdd 15 = .ok (.getfield 9, 3) := by decide +kernel
theorem dX12_isOdd_18 : decode cX12_isOdd 18 = .ok (.iconst 5, 1) := by decide +kernel
theorem dX12_isOdd_19 : decode cX12_isOdd 19 = .ok (.iaload, 1) := by decide +kernel
theorem dX12_isOdd_20 : decode cX12_isOdd 20 = .ok (.iconst 2, 1) := by decide +kernel
theorem dX12_isOdd_21 : decode cX12_isOdd 21 = .ok (.if_icmp .ne 7, 3) := by decide +kernel
theorem dX12_isOdd_24 : decode cX12_isOdd 24 = .ok (.iconst 1, 1) := by decide +kernel
theorem dX12_isOdd_25 : decode cX12_isOdd 25 = .ok (.goto 19, 3) := by decide +kernel
theorem dX12_isOdd_28 : decode cX12_isOdd 28 = .ok (.iconst 0, 1) := by decide +kernel
theorem dX12_isOdd_29 : decode cX12_isOdd 29 = .ok (.goto 15, 3) := by decide +kernel
theorem dX12_isOdd_32 : decode cX12_isOdd 32 = .ok (.iload_n 1, 1) := by decide +kernel
theorem dX12_isOdd_33 : decode cX12_isOdd 33 = .ok (.iconst 2, 1) := by decide +kernel
theorem dX12_isOdd_34 : decode cX12_isOdd 34 = .ok (.irem, 1) := by decide +kernel
theorem dX12_isOdd_35 : decode cX12_isOdd 35 = .ok (.iconst 1, 1) := by decide +kernel
theorem dX12_isOdd_36 : decode cX12_isOdd 36 = .ok (.if_icmp .ne 7, 3) := by decide +kernel
theorem dX12_isOdd_39 : decode cX12_isOdd 39 = .ok (.iconst 1, 1) := by decide +kernel
theorem dX12_isOdd_4 : decode cX12_isOdd 4 = .ok (.aload_n 0, 1) := by decide +kernel
theorem dX12_isOdd_40 : decode cX12_isOdd 40 = .ok (.goto 4, 3) := by decide +kernel
theorem dX12_isOdd_43 : decode cX12_isOdd 43 = .ok (.iconst 0, 1) := by decide +kernel
theorem dX12_isOdd_44 : decode cX12_isOdd 44 = .ok (.ireturn, 1) := by decide +kernel
theorem dX12_isOdd_5 : decode cX12_isOdd 5 = .ok (.getfield 9, 3) := by decide +kernel
theorem dX12_isOdd_8 : decode cX12_isOdd 8 = .ok (.iconst 5, 1) := by decide +kernel
theorem dX12_isOdd_9 : decode cX12_isOdd 9 = .ok (.iaload, 1) := by decide +kernel
theorem dX12_isPlace_0 : decode cX12_isPlace 0 = .ok (.lload_n 1, 1) := by decide +kernel
theorem dX12_isPlace_1 : decode cX12_isPlace 1 = .ok (.lconst 0, 1) := by decide +kernel
theorem dX12_isPlace_12 : decode cX12_isPlace 12 = .ok (.ireturn, 1) := by decide +kernel
theorem dX12_isPlace_2 : decode cX12_isPlace 2 = .ok (.aload_n 0, 1) := by decide +kernel
theorem dX12_isPlace_3 : decode cX12_isPlace 3 = .ok (.invokevirtual 273, 3) := by decide +kernel
theorem dX12_isPlace_6 : decode cX12_isPlace 6 = .ok (.iconst 1, 1) := by decide +kernel
theorem dX12_isPlace_7 : decode cX12_isPlace 7 = .ok (.isub, 1) := by decide +kernel
theorem dX12_isPlace_8 : decode cX12_isPlace 8 = .ok (.i2l, 1) := by decide +kernel
theorem dX12_isPlace_9 : decode cX12_isPlace 9 = .ok (.invokestatic 137, 3) := by decide +kernel
theorem dX12_isSignByte_0 : decode cX12_isSignByte 0 = .ok (.iload_n 0, 1) := by decide +kernel
theorem dX12_isSignByte_1 : decode cX12_isSignByte 1 = .ok (.bipush 91, 2) := by decide +kernel
theorem dX12_isSignByte_12 : decode cX12_isSignByte 12 = .ok (.iload_n 0, 1) := by decide +kernel
theorem dX12_isSignByte_13 : decode cX12_isSignByte 13 = .ok (.bipush 61, 2) := by decide +kernel
theorem dX12_isSignByte_15 : decode cX12_isSignByte 15 = .ok (.if_icmp .eq 15, 3) := by decide +kernel
theorem dX12_isSignByte_18 : decode cX12_isSignByte 18 = .ok (.iload_n 0, 1) := by decide +kernel
theorem dX12_isSignByte_19 : decode cX12_isSignByte 19 = .ok (.bipush 60, 2) := by decide +kernel
theorem dX12_isSignByte_21 : decode cX12_isSignByte 21 = .ok (.if_icmp .eq 9, 3) := by decide +kernel
theorem dX12_isSignByte_24 : decode cX12_isSignByte 24 = .ok (.iload_n 0, 1) := by decide +kernel
theorem dX12_isSignByte_25 : decode cX12_isSignByte 25 = .ok (.bipush 62, 2) := by decide +kernel
theorem dX12_isSignByte_27 : decode cX12_isSignByte 27 = .ok (.if_icmp .ne 7, 3) := by decide +kernel
theorem dX12_isSignByte_3 : decode cX12_isSignByte 3 = .ok (.if_icmp .eq 27, 3) := by decide +kernel
theorem dX12_isSignByte_30 : decode cX12_isSignByte 30 = .ok (.iconst 1, 1) := by decide +kernel
theorem dX12_isSignByte_31 : decode cX12_isSignByte 31 = .ok (.goto 4, 3) := by decide +kernel
theorem dX12_isSignByte_34 : decode cX12_isSignByte 34 = .ok (.iconst 0, 1) := by decide +kernel
theorem dX12_isSignByte_35 : decode cX12_isSignByte 35 = .ok (.istore_n 1, 1) := by decide +kernel
theorem dX12_isSignByte_36 : decode cX12_isSignByte 36 = .ok (.iload_n 1, 1) := by decide +kernel
theorem dX12_isSignByte_37 : decode cX12_isSignByte 37 = .ok (.ifCond .ne 39, 3) := by decide +kernel
theorem dX12_isSignByte_40 : decode cX12_isSignByte 40 = .ok (.iload_n 0, 1) := by decide +kernel
theorem dX12_isSignByte_41 : decode cX12_isSignByte 41 = .ok (.bipush 59, 2) := by decide +kernel
theorem dX12_isSignByte_43 : decode cX12_isSignByte 43 = .ok (.if_icmp .eq 33, 3) := by decide +kernel
theorem dX12_isSignByte_46 : decode cX12_isSignByte 46 = .ok (.iload_n 0, 1) := by decide +kernel
theorem dX12_isSignByte_47 : decode cX12_isSignByte 47 = .ok (.bipush 43, 2) := by decide +kernel
theorem dX12_isSignByte_49 : decode cX12_isSignByte 49 = .ok (.if_icmp .eq 27, 3) := by decide +kernel
theorem dX12_isSignByte_52 : decode cX12_isSignByte 52 = .ok (.iload_n 0, 1) := by decide +kernel
theorem dX12_isSignByte_53 : decode cX12_isSignByte 53 = .ok (.bipush 45, 2) := by decide +kernel
theorem dX12_isSignByte_55 : decode cX12_isSignByte 55 = .ok (.if_icmp .eq 21, 3) := by decide +kernel
theorem dX12_isSignByte_58 : decode cX12_isSignByte 58 = .ok (.iload_n 0, 1) := by decide +kernel
theorem dX12_isSignByte_59 : decode cX12_isSignByte 59 = .ok (.bipush 42, 2) := by decide +kernel
theorem dX12_isSignByte_6 : decode cX12_isSignByte 6 = .ok (.iload_n 0, 1) := by decide +kernel
theorem dX12_isSignByte_61 : decode cX12_isSignByte 61 = .ok (.if_icmp .eq 15, 3) := by decide +kernel
theorem dX12_isSignByte_64 : decode cX12_isSignByte 64 = .ok (.iload_n 0, 1) := by decide +kernel
theorem dX12_isSignByte_65 : decode cX12_isSignByte 65 = .ok (.bipush 40, 2) := by decide +kernel
theorem dX12_isSignByte_67 : decode cX12_isSignByte 67 = .ok (.if_icmp .eq 9, 3) := by decide +kernel
theorem dX12_isSignByte_7 : decode cX12_isSignByte 7 = .ok (.bipush 93, 2) := by decide +kernel
theorem dX12_isSignByte_70 : decode cX12_isSignByte 70 = .ok (.iload_n 0, 1) := by decide +kernel
theorem dX12_isSignByte_71 : decode cX12_isSignByte 71 = .ok (.bipush 41, 2) := by decide +kernel
theorem dX12_isSignByte_73 : decode cX12_isSignByte 73 = .ok (.if_icmp .ne 7, 3) := by decide +kernel
theorem dX12_isSignByte_76 : decode cX12_isSignByte 76 = .ok (.iconst 1, 1) := by decide +kernel
theorem dX12_isSignByte_77 : decode cX12_isSignByte 77 = .ok (.goto 4, 3) := by decide +kernel
theorem dX12_isSignByte_80 : decode cX12_isSignByte 80 = .ok (.iconst 0, 1) := by decide +kernel
theorem dX12_isSignByte_81 : decode cX12_isSignByte 81 = .ok (.ireturn, 1) := by decide +kernel
theorem dX12_isSignByte_9 : decode cX12_isSignByte 9 = .ok (.if_icmp .eq 21, 3) := by decide +kernel
theorem dX12_isSign_0 : decode cX12_isSign 0 = .ok (.aload_n 0, 1) := by decide +kernel
theorem dX12_isSign_1 : decode cX12_isSign 1 = .ok (.getfield 108, 3) := by decide +kernel
theorem dX12_isSign_11 : decode cX12_isSign 11 = .ok (.iload_n 1, 1) := by decide +kernel
theorem dX12_isSign_12 : decode cX12_isSign 12 = .ok (.if_icmp .ne 7, 3) := by decide +kernel
theorem dX12_isSign_15 : decode cX12_isSign 15 = .ok (.iconst 1, 1) := by decide +kernel
theorem dX12_isSign_16 : decode cX12_isSign 16 = .ok (.goto 4, 3) := by decide +kernel
theorem dX12_isSign_19 : decode cX12_isSign 19 = .ok (.iconst 0, 1) := by decide +kernel
theorem dX12_isSign_20 : decode cX12_isSign 20 = .ok (.ireturn, 1) := by decide +kernel
theorem dX12_isSign_4 : decode cX12_isSign 4 = .ok (.ifCond .ne 15, 3) := by decide +kernel
theorem dX12_isSign_7 : decode cX12_isSign 7 = .ok (.aload_n 0, 1) := by decide +kernel
theorem dX12_isSign_8 : decode cX12_isSign 8 = .ok (.getfield 88, 3) := by decide +kernel
theorem dX12_isThing_0 : decode cX12_isThing 0 = .ok (.lload_n 1, 1) := by decide +kernel
theorem dX12_isThing_1 : decode cX12_isThing 1 = .ok (.lconst 0, 1) := by decide +kernel
theorem dX12_isThing_12 : decode cX12_isThing 12 = .ok (.ireturn, 1) := by decide +kernel
theorem dX12_isThing_2 : decode cX12_isThing 2 = .ok (.aload_n 0, 1) := by decide +kernel
theorem dX12_isThing_3 : decode cX12_isThing 3 = .ok (.invokevirtual 275, 3) := by decide +kernel
theorem dX12_isThing_6 : decode cX12_isThing 6 = .ok (.iconst 1, 1) := by decide +kernel
theorem dX12_isThing_7 : decode cX12_isThing 7 = .ok (.isub, 1) := by decide +kernel
theorem dX12_isThing_8 : decode cX12_isThing 8 = .ok (.i2l, 1) := by decide +kernel
theorem dX12_isThing_9 : decode cX12_isThing 9 = .ok (.invokestatic 137, 3) := by decide +kernel
theorem dX12_lies_0 : decode cX12_lies 0 = .ok (.aload_n 0, 1) := by decide +kernel
theorem dX12_lies_1 : decode cX12_lies 1 = .ok (.getfield 9, 3) := by decide +kernel
theorem dX12_lies_4 : decode cX12_lies 4 = .ok (.bipush 8, 2) := by decide +kernel
theorem dX12_lies_6 : decode cX12_lies 6 = .ok (.iload_n 1, 1) := by decide +kernel
theorem dX12_lies_7 : decode cX12_lies 7 = .ok (.iadd, 1) := by decide +kernel
theorem dX12_lies_8 : decode cX12_lies 8 = .ok (.iaload, 1) := by decide +kernel
theorem dX12_lies_9 : decode cX12_lies 9 = .ok (.ireturn, 1) := by decide +kernel
theorem dX12_places_0 : decode cX12_places 0 = .ok (.aload_n 0, 1) := by decide +kernel
theorem dX12_places_1 : decode cX12_places 1 = .ok (.getfield 9, 3) := by decide +kernel
theorem dX12_places_4 : decode cX12_places 4 = .ok (.iconst 1, 1) := by decide +kernel
theorem dX12_places_5 : decode cX12_places 5 = .ok (.iaload, 1) := by decide +kernel
theorem dX12_places_6 : decode cX12_places 6 = .ok (.ireturn, 1) := by decide +kernel
theorem dX12_see_0 : decode cX12_see 0 = .ok (.iload_n 1, 1) := by decide +kernel
theorem dX12_see_1 : decode cX12_see 1 = .ok (.aload_n 0, 1) := by decide +kernel
theorem dX12_see_12 : decode cX12_see 12 = .ok (.iload_n 1, 1) := by decide +kernel
theorem dX12_see_13 : decode cX12_see 13 = .ok (.iaload, 1) := by decide +kernel
theorem dX12_see_14 : decode cX12_see 14 = .ok (.goto 4, 3) := by decide +kernel
theorem dX12_see_17 : decode cX12_see 17 = .ok (.iconst 0, 1) := by decide +kernel
theorem dX12_see_18 : decode cX12_see 18 = .ok (.ireturn, 1) := by decide +kernel
theorem dX12_see_2 : decode cX12_see 2 = .ok (.getfield 79, 3) := by decide +kernel
theorem dX12_see_5 : decode cX12_see 5 = .ok (.if_icmp .ge 12, 3) := by decide +kernel
theorem dX12_see_8 : decode cX12_see 8 = .ok (.aload_n 0, 1) := by decide +kernel
theorem dX12_see_9 : decode cX12_see 9 = .ok (.getfield 23, 3) := by decide +kernel
theorem dX12_size_0 : decode cX12_size 0 = .ok (.iconst 0, 1) := by decide +kernel
theorem dX12_size_1 : decode cX12_size 1 = .ok (.istore_n 1, 1) := by decide +kernel
theorem dX12_size_11 : decode cX12_size 11 = .ok (.iload_n 2, 1) := by decide +kernel
theorem dX12_size_12 : decode cX12_size 12 = .ok (.iload_n 2, 1) := by decide +kernel
theorem dX12_size_13 : decode cX12_size 13 = .ok (.iconst 1, 1) := by decide +kernel
theorem dX12_size_14 : decode cX12_size 14 = .ok (.isub, 1) := by decide +kernel
theorem dX12_size_15 : decode cX12_size 15 = .ok (.iand, 1) := by decide +kernel
theorem dX12_size_16 : decode cX12_size 16 = .ok (.istore_n 2, 1) := by decide +kernel
theorem dX12_size_17 : decode cX12_size 17 = .ok (.goto (-13), 3) := by decide +kernel
theorem dX12_size_2 : decode cX12_size 2 = .ok (.iload_n 0, 1) := by decide +kernel
theorem dX12_size_20 : decode cX12_size 20 = .ok (.iload_n 1, 1) := by decide +kernel
theorem dX12_size_21 : decode cX12_size 21 = .ok (.ireturn, 1) := by decide +kernel
theorem dX12_size_3 : decode cX12_size 3 = .ok (.istore_n 2, 1) := by decide +kernel
theorem dX12_size_4 : decode cX12_size 4 = .ok (.iload_n 2, 1) := by decide +kernel
theorem dX12_size_5 : decode cX12_size 5 = .ok (.ifCond .eq 15, 3) := by decide +kernel
theorem dX12_size_8 : decode cX12_size 8 = .ok (.iinc 1 1, 3) := by decide +kernel
theorem dX12_thingAt_0 : decode cX12_thingAt 0 = .ok (.iconst 0, 1) := by decide +kernel
theorem dX12_thingAt_1 : decode cX12_thingAt 1 = .ok (.istore_n 2, 1) := by decide +kernel
theorem dX12_thingAt_10 : decode cX12_thingAt 10 = .ok (.bipush 8, 2) := by decide +kernel
theorem dX12_thingAt_12 : decode cX12_thingAt 12 = .ok (.iload_n 2, 1) := by decide +kernel
theorem dX12_thingAt_13 : decode cX12_thingAt 13 = .ok (.iadd, 1) := by decide +kernel
theorem dX12_thingAt_14 : decode cX12_thingAt 14 = .ok (.iaload, 1) := by decide +kernel
theorem dX12_thingAt_15 : decode cX12_thingAt 15 = .ok (.iload_n 1, 1) := by decide +kernel
theorem dX12_thingAt_16 : decode cX12_thingAt 16 = .ok (.if_icmp .ne 5, 3) := by decide +kernel
theorem dX12_thingAt_19 : decode cX12_thingAt 19 = .ok (.iload_n 2, 1) := by decide +kernel
theorem dX12_thingAt_2 : decode cX12_thingAt 2 = .ok (.iload_n 2, 1) := by decide +kernel
theorem dX12_thingAt_20 : decode cX12_thingAt 20 = .ok (.ireturn, 1) := by decide +kernel
theorem dX12_thingAt_21 : decode cX12_thingAt 21 = .ok (.iinc 2 1, 3) := by decide +kernel
theorem dX12_thingAt_24 : decode cX12_thingAt 24 = .ok (.goto (-22), 3) := by decide +kernel
theorem dX12_thingAt_27 : decode cX12_thingAt 27 = .ok (.iconst (-1), 1) := by decide +kernel
theorem dX12_thingAt_28 : decode cX12_thingAt 28 = .ok (.ireturn, 1) := by decide +kernel
theorem dX12_thingAt_3 : decode cX12_thingAt 3 = .ok (.aload_n 0, 1) := by decide +kernel
theorem dX12_thingAt_4 : decode cX12_thingAt 4 = .ok (.iconst 2, 1) := by decide +kernel
theorem dX12_thingAt_5 : decode cX12_thingAt 5 = .ok (.iaload, 1) := by decide +kernel
theorem dX12_thingAt_6 : decode cX12_thingAt 6 = .ok (.if_icmp .ge 21, 3) := by decide +kernel
theorem dX12_thingAt_9 : decode cX12_thingAt 9 = .ok (.aload_n 0, 1) := by decide +kernel
theorem dX12_things_0 : decode cX12_things 0 = .ok (.aload_n 0, 1) := by decide +kernel
theorem dX12_things_1 : decode cX12_things 1 = .ok (.getfield 9, 3) := by decide +kernel
theorem dX12_things_4 : decode cX12_things 4 = .ok (.iconst 2, 1) := by decide +kernel
theorem dX12_things_5 : decode cX12_things 5 = .ok (.iaload, 1) := by decide +kernel
theorem dX12_things_6 : decode cX12_things 6 = .ok (.ireturn, 1) := by decide +kernel
theorem dX12_thrown_0 : decode cX12_thrown 0 = .ok (.aload_n 0, 1) := by decide +kernel
theorem dX12_thrown_1 : decode cX12_thrown 1 = .ok (.getfield 73, 3) := by decide +kernel
theorem dX12_thrown_4 : decode cX12_thrown 4 = .ok (.ireturn, 1) := by decide +kernel
theorem dX12_touch_0 : decode cX12_touch 0 = .ok (.aload_n 0, 1) := by decide +kernel
theorem dX12_touch_1 : decode cX12_touch 1 = .ok (.getfield 9, 3) := by decide +kernel
theorem dX12_touch_10 : decode cX12_touch 10 = .ok (.iadd, 1) := by decide +kernel
theorem dX12_touch_11 : decode cX12_touch 11 = .ok (.iload_n 2, 1) := by decide +kernel
theorem dX12_touch_12 : decode cX12_touch 12 = .ok (.iadd, 1) := by decide +kernel
theorem dX12_touch_13 : decode cX12_touch 13 = .ok (.iaload, 1) := by decide +kernel
theorem dX12_touch_14 : decode cX12_touch 14 = .ok (.ireturn, 1) := by decide +kernel
theorem dX12_touch_4 : decode cX12_touch 4 = .ok (.bipush 50, 2) := by decide +kernel
theorem dX12_touch_6 : decode cX12_touch 6 = .ok (.bipush 10, 2) := by decide +kernel
theorem dX12_touch_8 : decode cX12_touch 8 = .ok (.iload_n 1, 1) := by decide +kernel
theorem dX12_touch_9 : decode cX12_touch 9 = .ok (.imul, 1) := by decide +kernel
theorem dX12_within_0 : decode cX12_within 0 = .ok (.lload_n 0, 1) := by decide +kernel
theorem dX12_within_1 : decode cX12_within 1 = .ok (.lload_n 2, 1) := by decide +kernel
theorem dX12_within_10 : decode cX12_within 10 = .ok (.ifCond .gt 7, 3) := by decide +kernel
theorem dX12_within_13 : decode cX12_within 13 = .ok (.iconst 1, 1) := by decide +kernel
theorem dX12_within_14 : decode cX12_within 14 = .ok (.goto 4, 3) := by decide +kernel
theorem dX12_within_17 : decode cX12_within 17 = .ok (.iconst 0, 1) := by decide +kernel
theorem dX12_within_18 : decode cX12_within 18 = .ok (.ireturn, 1) := by decide +kernel
theorem dX12_within_2 : decode cX12_within 2 = .ok (.lcmp, 1) := by decide +kernel
theorem dX12_within_3 : decode cX12_within 3 = .ok (.ifCond .lt 14, 3) := by decide +kernel
theorem dX12_within_6 : decode cX12_within 6 = .ok (.lload_n 0, 1) := by decide +kernel
theorem dX12_within_7 : decode cX12_within 7 = .ok (.lload 4, 2) := by decide +kernel
theorem dX12_within_9 : decode cX12_within 9 = .ok (.lcmp, 1) := by decide +kernel
set_option maxRecDepth 4000 in
theorem k_X12_thrown (l : Launch) (M : Mem) (hJ : Iw M) : CI l yX12_thrown cX12_thrown 1 (some .int) 1 (fun ad => [.ref (ad 131)]) M (fun z M' => (0 ≤ z ∧ z ≤ 3) ∧ M = M' ∧ (z = M 131 4)) := by
  obtain ⟨hI, hW⟩ := hJ
  refine en_i (by decide +kernel) (fun ad => by exact Nat.le_of_ble_eq_true rfl) (fun D cy ad A p e s m args below meth c Q F hret => ?_)
  refine z_eq (ls' := [(0, .ref (ad 131))]) rfl rfl rfl ?_
  refine z_aload_n F dX12_thrown_0 rfl (q := 0) rfl ?_
  refine gf_X12_73 F hI gs_131 rfl bd_131_4 dX12_thrown_1 (fun v1 ev1 av1 bv1 => ?_)
  exact hret _ _ 4 _ (by omega) ⟨hI, hW⟩ ⟨⟨by omega, by omega⟩, rfl, (by omega)⟩ dX12_thrown_4
set_option maxRecDepth 4000 in
theorem k_X12_fails (l : Launch) (M : Mem) (hJ : Iw M) (x0 : Int) (hx0a : 0 ≤ x0) (hx0b : x0 ≤ 3) : CI l yX12_fails cX12_fails 2 (some .int) 1 (fun ad => [.ref (ad 131), ii x0]) M (fun z M' => (0 ≤ z ∧ z ≤ 0) ∧ Fr [131] M M' ∧ (M' 131 4 = x0)) := by
  obtain ⟨hI, hW⟩ := hJ
  have hF : Fr [131] M M := Fr.rf
  refine en_i (by decide +kernel) (fun ad => by exact Nat.le_of_ble_eq_true rfl) (fun D cy ad A p e s m args below meth c Q F hret => ?_)
  refine z_eq (ls' := [(0, .ref (ad 131)), (1, ii x0)]) rfl rfl rfl ?_
  refine z_aload_n F dX12_fails_0 rfl (q := 0) rfl ?_
  refine z_iload_n F dX12_fails_1 rfl (q := 1) rfl ?_
  refine pf_X12_73 F hI gs_131 rfl bd_131_4 rfl rfl dX12_fails_2 (by omega) (by omega) (fun M2 hI sf1 f1 => ?_)
  have hF := hF.wrf f1 (by decide) (by decide)
  have hW : WFk M2 := hW.site f1 (by decide)
  refine z_iconst F dX12_fails_5 ?_
  exact hret _ _ 6 _ (by omega) ⟨hI, hW⟩ ⟨⟨by omega, by omega⟩, hF, (by omega)⟩ dX12_fails_6
set_option maxRecDepth 4000 in
theorem k_X12_within (l : Launch) (M : Mem) (hJ : Iw M) (x0 : Int) (hx0a : (-9223372036854775808) ≤ x0) (hx0b : x0 ≤ 9223372036854775807) (x1 : Int) (hx1a : (-9223372036854775808) ≤ x1) (hx1b : x1 ≤ 9223372036854775807) (x2 : Int) (hx2a : (-9223372036854775808) ≤ x2) (hx2b : x2 ≤ 9223372036854775807) : CI l yX12_within cX12_within 6 (some .boolean) 1 (fun ad => [ll x0, ll x1, ll x2]) M (fun z M' => (0 ≤ z ∧ z ≤ 1) ∧ M = M' ∧ (z = 1 ∧ x1 ≤ x0 ∧ x0 ≤ x2 ∨ z = 0 ∧ (x0 < x1 ∨ x2 < x0))) := by
  obtain ⟨hI, hW⟩ := hJ
  refine en_z (by decide +kernel) (fun ad => by exact Nat.le_of_ble_eq_true rfl) (fun D cy ad A p e s m args below meth c Q F hret => ?_)
  refine z_eq (ls' := [(0, ll x0), (2, ll x1), (4, ll x2)]) rfl rfl rfl ?_
  refine z_lload_n F dX12_within_0 rfl (q := 0) rfl ?_
  refine z_lload_n F dX12_within_1 rfl (q := 1) rfl ?_
  refine z_lcmp F dX12_within_2 (by omega) (by omega) (fun v1 ev1 => ?_)
  refine z_if_lt (tgt := 17) F dX12_within_3 (by decide +kernel) (by omega) (fun c2 => ?_) (fun c2 => ?_)
  · refine z_iconst F dX12_within_17 ?_
    exact hret _ _ 18 _ ⟨by omega, by omega⟩ ⟨hI, hW⟩ ⟨⟨by omega, by omega⟩, rfl, (by omega)⟩ dX12_within_18
  · refine z_lload_n F dX12_within_6 rfl (q := 0) rfl ?_
    refine z_lload F dX12_within_7 (q := 2) rfl ?_
    refine z_lcmp F dX12_within_9 (by omega) (by omega) (fun v3 ev3 => ?_)
    refine z_if_gt (tgt := 17) F dX12_within_10 (by decide +kernel) (by omega) (fun c4 => ?_) (fun c4 => ?_)
    · refine z_iconst F dX12_within_17 ?_
      exact hret _ _ 18 _ ⟨by omega, by omega⟩ ⟨hI, hW⟩ ⟨⟨by omega, by omega⟩, rfl, (by omega)⟩ dX12_within_18
    · refine z_iconst F dX12_within_13 ?_
      refine z_goto (tgt := 18) F dX12_within_14 (by decide +kernel) ?_
      exact hret _ _ 18 _ ⟨by omega, by omega⟩ ⟨hI, hW⟩ ⟨⟨by omega, by omega⟩, rfl, (by omega)⟩ dX12_within_18
set_option maxRecDepth 4000 in
theorem k_X12_has (l : Launch) (M : Mem) (hJ : Iw M) (x0 : Int) (hx0a : (-2147483648) ≤ x0) (hx0b : x0 ≤ 2147483647) (x1 : Int) (hx1a : (-2147483648) ≤ x1) (hx1b : x1 ≤ 2147483647) : CI l yX12_has cX12_has 2 (some .boolean) 1 (fun ad => [ii x0, ii x1]) M (fun z M' => (0 ≤ z ∧ z ≤ 1) ∧ M = M' ∧ (z = 1 ↔ Bt x0 x1)) := by
  obtain ⟨hI, hW⟩ := hJ
  refine en_z (by decide +kernel) (fun ad => by exact Nat.le_of_ble_eq_true rfl) (fun D cy ad A p e s m args below meth c Q F hret => ?_)
  refine z_eq (ls' := [(0, ii x0), (1, ii x1)]) rfl rfl rfl ?_
  refine z_iload_n F dX12_has_0 rfl (q := 0) rfl ?_
  refine z_iload_n F dX12_has_1 rfl (q := 1) rfl ?_
  refine z_ishr0 F dX12_has_2 (fun v1 ev1 rv1 => ?_)
  refine z_iconst F dX12_has_3 ?_
  refine z_iand_r F dX12_has_4 (by omega) (by omega) (fun v2 ev2 av2 bv2 => ?_)
  refine z_iconst F dX12_has_5 ?_
  have hbt := bt_of ev2 (by assumption)
  refine z_icmp_ne (tgt := 13) F dX12_has_6 (by decide +kernel) (by omega) (by omega) (fun c3 => ?_) (fun c3 => ?_)
  · refine z_iconst F dX12_has_13 ?_
    exact hret _ _ 14 _ ⟨by omega, by omega⟩ ⟨hI, hW⟩ ⟨⟨by omega, by omega⟩, rfl, (by constructor <;> intro q <;> first | (exact hbt.mp (by omega)) | (have := hbt.mpr q; omega) | omega)⟩ dX12_has_14
  · refine z_iconst F dX12_has_9 ?_
    refine z_goto (tgt := 14) F dX12_has_10 (by decide +kernel) ?_
    exact hret _ _ 14 _ ⟨by omega, by omega⟩ ⟨hI, hW⟩ ⟨⟨by omega, by omega⟩, rfl, (by constructor <;> intro q <;> first | (exact hbt.mp (by omega)) | (have := hbt.mpr q; omega) | omega)⟩ dX12_has_14
set_option maxRecDepth 4000 in
theorem k_X12_size (l : Launch) (M : Mem) (hJ : Iw M) (x0 : Int) (hx0a : (-2147483648) ≤ x0) (hx0b : x0 ≤ 2147483647) : CI l yX12_size cX12_size 3 (some .int) 1 (fun ad => [ii x0]) M (fun z M' => ((-2147483648) ≤ z ∧ z ≤ 2147483647) ∧ M = M' ∧ (x0 = 0 → z = 0) ∧ (Im (0 ≤ x0) (Im (x0 ≤ 1023) (z = ((pcn x0.toNat : Nat) : Int))))) := by
  obtain ⟨hI, hW⟩ := hJ
  refine en_i (by decide +kernel) (fun ad => by exact Nat.le_of_ble_eq_true rfl) (fun D cy ad A p e s m args below meth c Q F hret => ?_)
  refine z_eq (ls' := [(0, ii x0)]) rfl rfl rfl ?_
  refine z_iconst F dX12_size_0 ?_
  refine z_istore_n F dX12_size_1 rfl (by decide) (ls' := [(1, ii 0), (0, ii x0)]) rfl ?_
  refine z_iload_n F dX12_size_2 rfl (q := 1) rfl ?_
  refine z_istore_n F dX12_size_3 rfl (by decide) (ls' := [(2, ii x0), (1, ii 0), (0, ii x0)]) rfl ?_
  refine z_loc [1, 0] (ls' := [(1, ii 0), (2, ii x0)]) rfl ?_
  have hb := (Int32.ofInt x0).toBitVec.isLt
  suffices key4 : ∀ (n : Nat) (y2 : Int) (y3 : Int), (-2147483648) ≤ y2 → y2 ≤ 2147483647 → (-2147483648) ≤ y3 → y3 ≤ 2147483647 → (x0 = 0 → y2 = 0 ∧ y3 = 0) → (Im (0 ≤ x0) (Im (x0 ≤ 1023) (SzI x0 y2 y3))) → ((Int32.ofInt y3).toBitVec.toNat : Int) < (n : Int) → Z D cy ad p l e (RMh 1) s m args below meth c A 3 0 0 Q 4 [(1, ii y2), (2, ii y3)] [] M from key4 4294967297 0 x0 (by omega) (by omega) (by omega) (by omega) (by omega) (fun g0 g1 => sz_0 g0 g1) (by omega)
  intro n4
  induction n4 with
  | zero => intro y2 y3 ay2 by2 ay3 by3 i4_0 i4_1 hn4; exfalso; omega
  | succ n4 ih4 =>
    intro y2 y3 ay2 by2 ay3 by3 i4_0 i4_1 hn4
    refine z_iload_n F dX12_size_4 rfl (q := 1) rfl ?_
    refine z_if_eq (tgt := 20) F dX12_size_5 (by decide +kernel) (by omega) (fun c4 => ?_) (fun c4 => ?_)
    · refine z_iload_n F dX12_size_20 rfl (q := 0) rfl ?_
      exact hret _ _ 21 _ (by omega) ⟨hI, hW⟩ ⟨⟨by omega, by omega⟩, rfl, (by omega), (fun g0 g1 => sz_e (i4_1 g0 g1) (by omega))⟩ dX12_size_21
    · refine z_iincW F dX12_size_8 (q := 0) rfl (by decide) (fun v5 rv5 wv5 => ?_)
      refine z_eq (ls' := [(1, ii v5), (2, ii y3)]) rfl rfl rfl ?_
      refine z_iload_n F dX12_size_11 rfl (q := 1) rfl ?_
      refine z_iload_n F dX12_size_12 rfl (q := 1) rfl ?_
      refine z_iconst F dX12_size_13 ?_
      refine z_isub F dX12_size_14 ?_
      refine z_wrap (fun v6 rv6 wv6 => ?_)
      refine z_iand0 F dX12_size_15 (fun v7 ev7 rv7 => ?_)
      refine z_istore_n F dX12_size_16 rfl (by decide) (ls' := [(2, ii v7), (1, ii v5)]) rfl ?_
      refine z_goto (tgt := 4) F dX12_size_17 (by decide +kernel) ?_
      refine z_loc [1, 0] (ls' := [(1, ii v5), (2, ii v7)]) rfl ?_
      have hpop := pop_lt (x := y3) (by omega) (by omega) ev7 (by assumption)
      exact ih4 v5 v7 (by omega) (by omega) (by omega) (by omega) (by omega) (fun g0 g1 => sz_s (i4_1 g0 g1) (by omega) wv5 wv6.1 ev7) (by omega)
set_option maxRecDepth 4000 in
theorem k_X12_feed (l : Launch) (M : Mem) (hJ : Iw M) (x0 : Int) (hx0a : (-2147483648) ≤ x0) (hx0b : x0 ≤ 2147483647) (x1 : Int) (hx1a : (-2147483648) ≤ x1) (hx1b : x1 ≤ 2147483647) (x2 : Int) (hx2a : (-2147483648) ≤ x2) (hx2b : x2 ≤ 2147483647) (x3 : Int) (hx3a : (-2147483648) ≤ x3) (hx3b : x3 ≤ 2147483647) (x4 : Int) (hx4a : (-2147483648) ≤ x4) (hx4b : x4 ≤ 2147483647) : CI l yX12_feed cX12_feed 8 (some .int) 1 (fun ad => [.ref (ad 131), ii x0, ii x1, ii x2, ii x3, ii x4]) M (fun z M' => ((-1) ≤ z ∧ z ≤ 900) ∧ Fr [131, 136, 231] M M' ∧ (M 131 6 ≤ 880 ∧ z = M 131 6 + 20 ∧ M' 131 6 = M 131 6 + 20 ∨ 880 < M 131 6 ∧ z = -1 ∧ M' 131 6 = M 131 6) ∧ (Im (M 131 6 ≤ 880) (∀ j : Nat, M' 136 j = if M 131 6 ≤ j ∧ (j : Int) < M 131 6 + 20 then fdb x0 x1 x2 x3 x4 (j - M 131 6) else M 136 j) ∧ Im (880 < M 131 6) (∀ j : Nat, M' 136 j = M 136 j))) := by
  obtain ⟨hI, hW⟩ := hJ
  have hF : Fr [131, 136, 231] M M := Fr.rf
  refine en_i (by decide +kernel) (fun ad => by exact Nat.le_of_ble_eq_true rfl) (fun D cy ad A p e s m args below meth c Q F hret => ?_)
  refine z_eq (ls' := [(0, .ref (ad 131)), (1, ii x0), (2, ii x1), (3, ii x2), (4, ii x3), (5, ii x4)]) rfl rfl rfl ?_
  obtain ⟨u1, eu1⟩ : ∃ v : Int, v = M 131 6 := ⟨_, rfl⟩
  have ku1 : 0 ≤ u1 ∧ u1 ≤ 900 := by have := hI.at (show Bd 131 6 = (0, 900) from rfl); omega
  refine z_aload_n F dX12_feed_0 rfl (q := 0) rfl ?_
  refine z_iconst F dX12_feed_1 ?_
  refine pf_X12_73 F hI gs_131 rfl bd_131_4 rfl rfl dX12_feed_2 (by omega) (by omega) (fun M3 hI sf2 f2 => ?_)
  have hF := hF.wrf f2 (by decide) (by decide)
  have hW : WFk M3 := hW.site f2 (by decide)
  refine z_aload_n F dX12_feed_5 rfl (q := 0) rfl ?_
  refine gf_X12_76 F hI gs_131 rfl bd_131_6 dX12_feed_6 (fun v4 ev4 av4 bv4 => ?_)
  have q5 : u1 = M3 131 6 := eu1.trans (f2 131 6 (fun q => absurd q.2 (by decide))).symm
  have zv4 : u1 = v4 := q5.trans ev4.symm
  subst zv4
  refine z_bipush F dX12_feed_9 (by decide +kernel) ?_
  refine z_iadd F dX12_feed_11 ?_
  refine z_sipush F dX12_feed_12 (by decide +kernel) ?_
  refine z_icmp_le (tgt := 20) F dX12_feed_15 (by decide +kernel) (by omega) (by omega) (fun c6 => ?_) (fun c6 => ?_)
  · refine z_iconst F dX12_feed_20 ?_
    refine z_istore F dX12_feed_21 (by decide) (ls' := [(6, ii 0), (0, .ref (ad 131)), (1, ii x0), (2, ii x1), (3, ii x2), (4, ii x3), (5, ii x4)]) rfl ?_
    refine z_loc [1, 2, 3, 4, 5, 6, 0] (ls' := [(0, .ref (ad 131)), (1, ii x0), (2, ii x1), (3, ii x2), (4, ii x3), (5, ii x4), (6, ii 0)]) rfl ?_
    suffices key23 : ∀ (n : Nat) (y8 : Int) (M7 : Mem), Inv M7 → WFk M7 → Fr [131, 136, 231] M M7 → 0 ≤ y8 → y8 ≤ 20 → (M7 131 6 = M 131 6 + y8) → (∀ j : Nat, M7 136 j = if M 131 6 ≤ j ∧ (j : Int) < M 131 6 + y8 then fdb x0 x1 x2 x3 x4 (j - M 131 6) else M 136 j) → 20 - y8 < (n : Int) → Z D cy ad p l e (RMh 1) s m args below meth c A 8 0 0 Q 23 [(0, .ref (ad 131)), (1, ii x0), (2, ii x1), (3, ii x2), (4, ii x3), (5, ii x4), (6, ii y8)] [] M7 from key23 21 0 M3 hI hW hF (by omega) (by omega) (by omega) (fun j => by rw [if_neg (by omega)]; exact (f2 136 j (fun q => absurd q.1 (by decide)))) (by omega)
    intro n23
    induction n23 with
    | zero => intro y8 M7 hI hW hF ay8 by8 i23_0 i23_1 hn23; exfalso; omega
    | succ n23 ih23 =>
      intro y8 M7 hI hW hF ay8 by8 i23_0 i23_1 hn23
      obtain ⟨u9, eu9⟩ : ∃ v : Int, v = M7 131 6 := ⟨_, rfl⟩
      have ku9 : 0 ≤ u9 ∧ u9 ≤ 900 := by have := hI.at (show Bd 131 6 = (0, 900) from rfl); omega
      refine z_iload F dX12_feed_23 (q := 6) rfl ?_
      refine z_bipush F dX12_feed_25 (by decide +kernel) ?_
      refine z_icmp_ge (tgt := 120) F dX12_feed_27 (by decide +kernel) (by omega) (by omega) (fun c10 => ?_) (fun c10 => ?_)
      · refine z_aload_n F dX12_feed_120 rfl (q := 0) rfl ?_
        refine gf_X12_76 F hI gs_131 rfl bd_131_6 dX12_feed_121 (fun v11 ev11 av11 bv11 => ?_)
        have zv11 : u9 = v11 := eu9.trans ev11.symm
        subst zv11
        exact hret _ _ 124 _ (by omega) ⟨hI, hW⟩ ⟨⟨by omega, by omega⟩, hF, (by omega), ⟨fun q j => by have h9 := i23_1 j; rw [show y8 = 20 from by omega] at h9; exact h9, fun q => by exfalso; omega⟩⟩ dX12_feed_124
      · refine z_iload F dX12_feed_30 (q := 6) rfl ?_
        refine z_iconst F dX12_feed_32 ?_
        refine z_icmp_ge (tgt := 40) F dX12_feed_33 (by decide +kernel) (by omega) (by omega) (fun c12 => ?_) (fun c12 => ?_)
        · refine z_iload F dX12_feed_40 (q := 6) rfl ?_
          refine z_bipush F dX12_feed_42 (by decide +kernel) ?_
          refine z_icmp_ge (tgt := 51) F dX12_feed_44 (by decide +kernel) (by omega) (by omega) (fun c13 => ?_) (fun c13 => ?_)
          · refine z_iload F dX12_feed_51 (q := 6) rfl ?_
            refine z_bipush F dX12_feed_53 (by decide +kernel) ?_
            refine z_icmp_ge (tgt := 62) F dX12_feed_55 (by decide +kernel) (by omega) (by omega) (fun c14 => ?_) (fun c14 => ?_)
            · refine z_iload F dX12_feed_62 (q := 6) rfl ?_
              refine z_bipush F dX12_feed_64 (by decide +kernel) ?_
              refine z_icmp_ge (tgt := 74) F dX12_feed_66 (by decide +kernel) (by omega) (by omega) (fun c15 => ?_) (fun c15 => ?_)
              · refine z_iload F dX12_feed_74 (q := 5) rfl ?_
                refine z_istore F dX12_feed_76 (by decide) (ls' := [(7, ii x4), (0, .ref (ad 131)), (1, ii x0), (2, ii x1), (3, ii x2), (4, ii x3), (5, ii x4), (6, ii y8)]) rfl ?_
                refine z_aload_n F dX12_feed_78 rfl (q := 1) rfl ?_
                refine rf_X12_23 F gs_131 rfl dX12_feed_79 ?_
                refine z_aload_n F dX12_feed_82 rfl (q := 1) rfl ?_
                refine gf_X12_76 F hI gs_131 rfl bd_131_6 dX12_feed_83 (fun v16 ev16 av16 bv16 => ?_)
                have zv16 : u9 = v16 := eu9.trans ev16.symm
                subst zv16
                refine z_iload F dX12_feed_86 (q := 0) rfl ?_
                refine z_bipush F dX12_feed_88 (by decide +kernel) ?_
                refine z_bipush F dX12_feed_90 (by decide +kernel) ?_
                refine z_iload F dX12_feed_92 (q := 7) rfl ?_
                refine z_iconst F dX12_feed_94 ?_
                refine z_iand_r F dX12_feed_95 (by omega) (by omega) (fun v17 ev17 av17 bv17 => ?_)
                refine z_imul F dX12_feed_96 ?_
                refine z_isub F dX12_feed_97 ?_
                refine z_iushr0 F dX12_feed_98 (fun v18 ev18 rv18 => ?_)
                refine z_sipush F dX12_feed_99 (by decide +kernel) ?_
                refine z_iand_r F dX12_feed_102 (by omega) (by omega) (fun v19 ev19 av19 bv19 => ?_)
                have k20 : 0 ≤ u9 ∧ u9 ≤ 899 := by omega
                refine z_iast F hI gs_136 (by omega) (by omega) (by decide) bd_136 dX12_feed_103 (by omega) (by omega) (fun M22 hI sf21 f21 => ?_)
                have hF := hF.wr f21 (by decide) (by decide)
                have hW : WFk M22 := hW.site f21 (by decide)
                refine z_aload_n F dX12_feed_104 rfl (q := 1) rfl ?_
                refine z_dup F dX12_feed_105 rfl ?_
                refine gf_X12_76 F hI gs_131 rfl bd_131_6 dX12_feed_106 (fun v23 ev23 av23 bv23 => ?_)
                have q24 : u9 = M22 131 6 := eu9.trans (f21 131 6 (fun q => absurd q.1 (by decide))).symm
                have zv23 : u9 = v23 := q24.trans ev23.symm
                subst zv23
                refine z_iconst F dX12_feed_109 ?_
                refine z_iadd F dX12_feed_110 ?_
                refine z_nm (fun v25 ev25 => ?_)
                refine pf_X12_76 F hI gs_131 rfl bd_131_6 rfl rfl dX12_feed_111 (by omega) (by omega) (fun M27 hI sf26 f26 => ?_)
                have hF := hF.wrf f26 (by decide) (by decide)
                have hW : WFk M27 := hW.site f26 (by decide)
                refine z_iincN F dX12_feed_114 (q := 7) rfl (by decide) (fun v28 ev28 => ?_)
                refine z_eq (ls' := [(6, ii v28), (7, ii x4), (0, .ref (ad 131)), (1, ii x0), (2, ii x1), (3, ii x2), (4, ii x3), (5, ii x4)]) rfl rfl rfl ?_
                refine z_goto (tgt := 23) F dX12_feed_117 (by decide +kernel) ?_
                refine z_loc [2, 3, 4, 5, 6, 7, 0] (ls' := [(0, .ref (ad 131)), (1, ii x0), (2, ii x1), (3, ii x2), (4, ii x3), (5, ii x4), (6, ii v28)]) rfl ?_
                have v4 := and3 (k := y8) (by omega) (by omega) ev17
                have fdi : v19 = fdb x0 x1 x2 x3 x4 y8 := by
                  rw [fdb_i (w := x4) (s := 24 - 8 * v17) (by unfold wsel; first | rw [if_pos (by omega)] | rw [if_neg (by omega), if_pos (by omega)] | rw [if_neg (by omega), if_neg (by omega), if_pos (by omega)] | rw [if_neg (by omega), if_neg (by omega), if_neg (by omega), if_pos (by omega)] | rw [if_neg (by omega), if_neg (by omega), if_neg (by omega), if_neg (by omega)]) (by omega), ev19, ev18]
                  rfl
                exact ih23 v28 M27 hI hW hF (by omega) (by omega) (by omega) (fun j => by rw [f26 136 j (fun q => absurd q.1 (by decide)), show v28 = y8 + 1 from by omega]; exact fd_step (V := M22 136) i23_1 (by omega) (by omega) (show u9 = M 131 6 + y8 from by omega) sf21 fdi (fun j hq => f21 136 j (fun q => hq q.2)) j) (by omega)
              · refine z_iload F dX12_feed_69 (q := 4) rfl ?_
                refine z_goto (tgt := 76) F dX12_feed_71 (by decide +kernel) ?_
                refine z_istore F dX12_feed_76 (by decide) (ls' := [(7, ii x3), (0, .ref (ad 131)), (1, ii x0), (2, ii x1), (3, ii x2), (4, ii x3), (5, ii x4), (6, ii y8)]) rfl ?_
                refine z_aload_n F dX12_feed_78 rfl (q := 1) rfl ?_
                refine rf_X12_23 F gs_131 rfl dX12_feed_79 ?_
                refine z_aload_n F dX12_feed_82 rfl (q := 1) rfl ?_
                refine gf_X12_76 F hI gs_131 rfl bd_131_6 dX12_feed_83 (fun v29 ev29 av29 bv29 => ?_)
                have zv29 : u9 = v29 := eu9.trans ev29.symm
                subst zv29
                refine z_iload F dX12_feed_86 (q := 0) rfl ?_
                refine z_bipush F dX12_feed_88 (by decide +kernel) ?_
                refine z_bipush F dX12_feed_90 (by decide +kernel) ?_
                refine z_iload F dX12_feed_92 (q := 7) rfl ?_
                refine z_iconst F dX12_feed_94 ?_
                refine z_iand_r F dX12_feed_95 (by omega) (by omega) (fun v30 ev30 av30 bv30 => ?_)
                refine z_imul F dX12_feed_96 ?_
                refine z_isub F dX12_feed_97 ?_
                refine z_iushr0 F dX12_feed_98 (fun v31 ev31 rv31 => ?_)
                refine z_sipush F dX12_feed_99 (by decide +kernel) ?_
                refine z_iand_r F dX12_feed_102 (by omega) (by omega) (fun v32 ev32 av32 bv32 => ?_)
                have k33 : 0 ≤ u9 ∧ u9 ≤ 899 := by omega
                refine z_iast F hI gs_136 (by omega) (by omega) (by decide) bd_136 dX12_feed_103 (by omega) (by omega) (fun M35 hI sf34 f34 => ?_)
                have hF := hF.wr f34 (by decide) (by decide)
                have hW : WFk M35 := hW.site f34 (by decide)
                refine z_aload_n F dX12_feed_104 rfl (q := 1) rfl ?_
                refine z_dup F dX12_feed_105 rfl ?_
                refine gf_X12_76 F hI gs_131 rfl bd_131_6 dX12_feed_106 (fun v36 ev36 av36 bv36 => ?_)
                have q37 : u9 = M35 131 6 := eu9.trans (f34 131 6 (fun q => absurd q.1 (by decide))).symm
                have zv36 : u9 = v36 := q37.trans ev36.symm
                subst zv36
                refine z_iconst F dX12_feed_109 ?_
                refine z_iadd F dX12_feed_110 ?_
                refine z_nm (fun v38 ev38 => ?_)
                refine pf_X12_76 F hI gs_131 rfl bd_131_6 rfl rfl dX12_feed_111 (by omega) (by omega) (fun M40 hI sf39 f39 => ?_)
                have hF := hF.wrf f39 (by decide) (by decide)
                have hW : WFk M40 := hW.site f39 (by decide)
                refine z_iincN F dX12_feed_114 (q := 7) rfl (by decide) (fun v41 ev41 => ?_)
                refine z_eq (ls' := [(6, ii v41), (7, ii x3), (0, .ref (ad 131)), (1, ii x0), (2, ii x1), (3, ii x2), (4, ii x3), (5, ii x4)]) rfl rfl rfl ?_
                refine z_goto (tgt := 23) F dX12_feed_117 (by decide +kernel) ?_
                refine z_loc [2, 3, 4, 5, 6, 7, 0] (ls' := [(0, .ref (ad 131)), (1, ii x0), (2, ii x1), (3, ii x2), (4, ii x3), (5, ii x4), (6, ii v41)]) rfl ?_
                have v4 := and3 (k := y8) (by omega) (by omega) ev30
                have fdi : v32 = fdb x0 x1 x2 x3 x4 y8 := by
                  rw [fdb_i (w := x3) (s := 24 - 8 * v30) (by unfold wsel; first | rw [if_pos (by omega)] | rw [if_neg (by omega), if_pos (by omega)] | rw [if_neg (by omega), if_neg (by omega), if_pos (by omega)] | rw [if_neg (by omega), if_neg (by omega), if_neg (by omega), if_pos (by omega)] | rw [if_neg (by omega), if_neg (by omega), if_neg (by omega), if_neg (by omega)]) (by omega), ev32, ev31]
                  rfl
                exact ih23 v41 M40 hI hW hF (by omega) (by omega) (by omega) (fun j => by rw [f39 136 j (fun q => absurd q.1 (by decide)), show v41 = y8 + 1 from by omega]; exact fd_step (V := M35 136) i23_1 (by omega) (by omega) (show u9 = M 131 6 + y8 from by omega) sf34 fdi (fun j hq => f34 136 j (fun q => hq q.2)) j) (by omega)
            · refine z_iload_n F dX12_feed_58 rfl (q := 3) rfl ?_
              refine z_goto (tgt := 76) F dX12_feed_59 (by decide +kernel) ?_
              refine z_istore F dX12_feed_76 (by decide) (ls' := [(7, ii x2), (0, .ref (ad 131)), (1, ii x0), (2, ii x1), (3, ii x2), (4, ii x3), (5, ii x4), (6, ii y8)]) rfl ?_
              refine z_aload_n F dX12_feed_78 rfl (q := 1) rfl ?_
              refine rf_X12_23 F gs_131 rfl dX12_feed_79 ?_
              refine z_aload_n F dX12_feed_82 rfl (q := 1) rfl ?_
              refine gf_X12_76 F hI gs_131 rfl bd_131_6 dX12_feed_83 (fun v42 ev42 av42 bv42 => ?_)
              have zv42 : u9 = v42 := eu9.trans ev42.symm
              subst zv42
              refine z_iload F dX12_feed_86 (q := 0) rfl ?_
              refine z_bipush F dX12_feed_88 (by decide +kernel) ?_
              refine z_bipush F dX12_feed_90 (by decide +kernel) ?_
              refine z_iload F dX12_feed_92 (q := 7) rfl ?_
              refine z_iconst F dX12_feed_94 ?_
              refine z_iand_r F dX12_feed_95 (by omega) (by omega) (fun v43 ev43 av43 bv43 => ?_)
              refine z_imul F dX12_feed_96 ?_
              refine z_isub F dX12_feed_97 ?_
              refine z_iushr0 F dX12_feed_98 (fun v44 ev44 rv44 => ?_)
              refine z_sipush F dX12_feed_99 (by decide +kernel) ?_
              refine z_iand_r F dX12_feed_102 (by omega) (by omega) (fun v45 ev45 av45 bv45 => ?_)
              have k46 : 0 ≤ u9 ∧ u9 ≤ 899 := by omega
              refine z_iast F hI gs_136 (by omega) (by omega) (by decide) bd_136 dX12_feed_103 (by omega) (by omega) (fun M48 hI sf47 f47 => ?_)
              have hF := hF.wr f47 (by decide) (by decide)
              have hW : WFk M48 := hW.site f47 (by decide)
              refine z_aload_n F dX12_feed_104 rfl (q := 1) rfl ?_
              refine z_dup F dX12_feed_105 rfl ?_
              refine gf_X12_76 F hI gs_131 rfl bd_131_6 dX12_feed_106 (fun v49 ev49 av49 bv49 => ?_)
              have q50 : u9 = M48 131 6 := eu9.trans (f47 131 6 (fun q => absurd q.1 (by decide))).symm
              have zv49 : u9 = v49 := q50.trans ev49.symm
              subst zv49
              refine z_iconst F dX12_feed_109 ?_
              refine z_iadd F dX12_feed_110 ?_
              refine z_nm (fun v51 ev51 => ?_)
              refine pf_X12_76 F hI gs_131 rfl bd_131_6 rfl rfl dX12_feed_111 (by omega) (by omega) (fun M53 hI sf52 f52 => ?_)
              have hF := hF.wrf f52 (by decide) (by decide)
              have hW : WFk M53 := hW.site f52 (by decide)
              refine z_iincN F dX12_feed_114 (q := 7) rfl (by decide) (fun v54 ev54 => ?_)
              refine z_eq (ls' := [(6, ii v54), (7, ii x2), (0, .ref (ad 131)), (1, ii x0), (2, ii x1), (3, ii x2), (4, ii x3), (5, ii x4)]) rfl rfl rfl ?_
              refine z_goto (tgt := 23) F dX12_feed_117 (by decide +kernel) ?_
              refine z_loc [2, 3, 4, 5, 6, 7, 0] (ls' := [(0, .ref (ad 131)), (1, ii x0), (2, ii x1), (3, ii x2), (4, ii x3), (5, ii x4), (6, ii v54)]) rfl ?_
              have v4 := and3 (k := y8) (by omega) (by omega) ev43
              have fdi : v45 = fdb x0 x1 x2 x3 x4 y8 := by
                rw [fdb_i (w := x2) (s := 24 - 8 * v43) (by unfold wsel; first | rw [if_pos (by omega)] | rw [if_neg (by omega), if_pos (by omega)] | rw [if_neg (by omega), if_neg (by omega), if_pos (by omega)] | rw [if_neg (by omega), if_neg (by omega), if_neg (by omega), if_pos (by omega)] | rw [if_neg (by omega), if_neg (by omega), if_neg (by omega), if_neg (by omega)]) (by omega), ev45, ev44]
                rfl
              exact ih23 v54 M53 hI hW hF (by omega) (by omega) (by omega) (fun j => by rw [f52 136 j (fun q => absurd q.1 (by decide)), show v54 = y8 + 1 from by omega]; exact fd_step (V := M48 136) i23_1 (by omega) (by omega) (show u9 = M 131 6 + y8 from by omega) sf47 fdi (fun j hq => f47 136 j (fun q => hq q.2)) j) (by omega)
          · refine z_iload_n F dX12_feed_47 rfl (q := 2) rfl ?_
            refine z_goto (tgt := 76) F dX12_feed_48 (by decide +kernel) ?_
            refine z_istore F dX12_feed_76 (by decide) (ls' := [(7, ii x1), (0, .ref (ad 131)), (1, ii x0), (2, ii x1), (3, ii x2), (4, ii x3), (5, ii x4), (6, ii y8)]) rfl ?_
            refine z_aload_n F dX12_feed_78 rfl (q := 1) rfl ?_
            refine rf_X12_23 F gs_131 rfl dX12_feed_79 ?_
            refine z_aload_n F dX12_feed_82 rfl (q := 1) rfl ?_
            refine gf_X12_76 F hI gs_131 rfl bd_131_6 dX12_feed_83 (fun v55 ev55 av55 bv55 => ?_)
            have zv55 : u9 = v55 := eu9.trans ev55.symm
            subst zv55
            refine z_iload F dX12_feed_86 (q := 0) rfl ?_
            refine z_bipush F dX12_feed_88 (by decide +kernel) ?_
            refine z_bipush F dX12_feed_90 (by decide +kernel) ?_
            refine z_iload F dX12_feed_92 (q := 7) rfl ?_
            refine z_iconst F dX12_feed_94 ?_
            refine z_iand_r F dX12_feed_95 (by omega) (by omega) (fun v56 ev56 av56 bv56 => ?_)
            refine z_imul F dX12_feed_96 ?_
            refine z_isub F dX12_feed_97 ?_
            refine z_iushr0 F dX12_feed_98 (fun v57 ev57 rv57 => ?_)
            refine z_sipush F dX12_feed_99 (by decide +kernel) ?_
            refine z_iand_r F dX12_feed_102 (by omega) (by omega) (fun v58 ev58 av58 bv58 => ?_)
            have k59 : 0 ≤ u9 ∧ u9 ≤ 899 := by omega
            refine z_iast F hI gs_136 (by omega) (by omega) (by decide) bd_136 dX12_feed_103 (by omega) (by omega) (fun M61 hI sf60 f60 => ?_)
            have hF := hF.wr f60 (by decide) (by decide)
            have hW : WFk M61 := hW.site f60 (by decide)
            refine z_aload_n F dX12_feed_104 rfl (q := 1) rfl ?_
            refine z_dup F dX12_feed_105 rfl ?_
            refine gf_X12_76 F hI gs_131 rfl bd_131_6 dX12_feed_106 (fun v62 ev62 av62 bv62 => ?_)
            have q63 : u9 = M61 131 6 := eu9.trans (f60 131 6 (fun q => absurd q.1 (by decide))).symm
            have zv62 : u9 = v62 := q63.trans ev62.symm
            subst zv62
            refine z_iconst F dX12_feed_109 ?_
            refine z_iadd F dX12_feed_110 ?_
            refine z_nm (fun v64 ev64 => ?_)
            refine pf_X12_76 F hI gs_131 rfl bd_131_6 rfl rfl dX12_feed_111 (by omega) (by omega) (fun M66 hI sf65 f65 => ?_)
            have hF := hF.wrf f65 (by decide) (by decide)
            have hW : WFk M66 := hW.site f65 (by decide)
            refine z_iincN F dX12_feed_114 (q := 7) rfl (by decide) (fun v67 ev67 => ?_)
            refine z_eq (ls' := [(6, ii v67), (7, ii x1), (0, .ref (ad 131)), (1, ii x0), (2, ii x1), (3, ii x2), (4, ii x3), (5, ii x4)]) rfl rfl rfl ?_
            refine z_goto (tgt := 23) F dX12_feed_117 (by decide +kernel) ?_
            refine z_loc [2, 3, 4, 5, 6, 7, 0] (ls' := [(0, .ref (ad 131)), (1, ii x0), (2, ii x1), (3, ii x2), (4, ii x3), (5, ii x4), (6, ii v67)]) rfl ?_
            have v4 := and3 (k := y8) (by omega) (by omega) ev56
            have fdi : v58 = fdb x0 x1 x2 x3 x4 y8 := by
              rw [fdb_i (w := x1) (s := 24 - 8 * v56) (by unfold wsel; first | rw [if_pos (by omega)] | rw [if_neg (by omega), if_pos (by omega)] | rw [if_neg (by omega), if_neg (by omega), if_pos (by omega)] | rw [if_neg (by omega), if_neg (by omega), if_neg (by omega), if_pos (by omega)] | rw [if_neg (by omega), if_neg (by omega), if_neg (by omega), if_neg (by omega)]) (by omega), ev58, ev57]
              rfl
            exact ih23 v67 M66 hI hW hF (by omega) (by omega) (by omega) (fun j => by rw [f65 136 j (fun q => absurd q.1 (by decide)), show v67 = y8 + 1 from by omega]; exact fd_step (V := M61 136) i23_1 (by omega) (by omega) (show u9 = M 131 6 + y8 from by omega) sf60 fdi (fun j hq => f60 136 j (fun q => hq q.2)) j) (by omega)
        · refine z_iload_n F dX12_feed_36 rfl (q := 1) rfl ?_
          refine z_goto (tgt := 76) F dX12_feed_37 (by decide +kernel) ?_
          refine z_istore F dX12_feed_76 (by decide) (ls' := [(7, ii x0), (0, .ref (ad 131)), (1, ii x0), (2, ii x1), (3, ii x2), (4, ii x3), (5, ii x4), (6, ii y8)]) rfl ?_
          refine z_aload_n F dX12_feed_78 rfl (q := 1) rfl ?_
          refine rf_X12_23 F gs_131 rfl dX12_feed_79 ?_
          refine z_aload_n F dX12_feed_82 rfl (q := 1) rfl ?_
          refine gf_X12_76 F hI gs_131 rfl bd_131_6 dX12_feed_83 (fun v68 ev68 av68 bv68 => ?_)
          have zv68 : u9 = v68 := eu9.trans ev68.symm
          subst zv68
          refine z_iload F dX12_feed_86 (q := 0) rfl ?_
          refine z_bipush F dX12_feed_88 (by decide +kernel) ?_
          refine z_bipush F dX12_feed_90 (by decide +kernel) ?_
          refine z_iload F dX12_feed_92 (q := 7) rfl ?_
          refine z_iconst F dX12_feed_94 ?_
          refine z_iand_r F dX12_feed_95 (by omega) (by omega) (fun v69 ev69 av69 bv69 => ?_)
          refine z_imul F dX12_feed_96 ?_
          refine z_isub F dX12_feed_97 ?_
          refine z_iushr0 F dX12_feed_98 (fun v70 ev70 rv70 => ?_)
          refine z_sipush F dX12_feed_99 (by decide +kernel) ?_
          refine z_iand_r F dX12_feed_102 (by omega) (by omega) (fun v71 ev71 av71 bv71 => ?_)
          have k72 : 0 ≤ u9 ∧ u9 ≤ 899 := by omega
          refine z_iast F hI gs_136 (by omega) (by omega) (by decide) bd_136 dX12_feed_103 (by omega) (by omega) (fun M74 hI sf73 f73 => ?_)
          have hF := hF.wr f73 (by decide) (by decide)
          have hW : WFk M74 := hW.site f73 (by decide)
          refine z_aload_n F dX12_feed_104 rfl (q := 1) rfl ?_
          refine z_dup F dX12_feed_105 rfl ?_
          refine gf_X12_76 F hI gs_131 rfl bd_131_6 dX12_feed_106 (fun v75 ev75 av75 bv75 => ?_)
          have q76 : u9 = M74 131 6 := eu9.trans (f73 131 6 (fun q => absurd q.1 (by decide))).symm
          have zv75 : u9 = v75 := q76.trans ev75.symm
          subst zv75
          refine z_iconst F dX12_feed_109 ?_
          refine z_iadd F dX12_feed_110 ?_
          refine z_nm (fun v77 ev77 => ?_)
          refine pf_X12_76 F hI gs_131 rfl bd_131_6 rfl rfl dX12_feed_111 (by omega) (by omega) (fun M79 hI sf78 f78 => ?_)
          have hF := hF.wrf f78 (by decide) (by decide)
          have hW : WFk M79 := hW.site f78 (by decide)
          refine z_iincN F dX12_feed_114 (q := 7) rfl (by decide) (fun v80 ev80 => ?_)
          refine z_eq (ls' := [(6, ii v80), (7, ii x0), (0, .ref (ad 131)), (1, ii x0), (2, ii x1), (3, ii x2), (4, ii x3), (5, ii x4)]) rfl rfl rfl ?_
          refine z_goto (tgt := 23) F dX12_feed_117 (by decide +kernel) ?_
          refine z_loc [2, 3, 4, 5, 6, 7, 0] (ls' := [(0, .ref (ad 131)), (1, ii x0), (2, ii x1), (3, ii x2), (4, ii x3), (5, ii x4), (6, ii v80)]) rfl ?_
          have v4 := and3 (k := y8) (by omega) (by omega) ev69
          have fdi : v71 = fdb x0 x1 x2 x3 x4 y8 := by
            rw [fdb_i (w := x0) (s := 24 - 8 * v69) (by unfold wsel; first | rw [if_pos (by omega)] | rw [if_neg (by omega), if_pos (by omega)] | rw [if_neg (by omega), if_neg (by omega), if_pos (by omega)] | rw [if_neg (by omega), if_neg (by omega), if_neg (by omega), if_pos (by omega)] | rw [if_neg (by omega), if_neg (by omega), if_neg (by omega), if_neg (by omega)]) (by omega), ev71, ev70]
            rfl
          exact ih23 v80 M79 hI hW hF (by omega) (by omega) (by omega) (fun j => by rw [f78 136 j (fun q => absurd q.1 (by decide)), show v80 = y8 + 1 from by omega]; exact fd_step (V := M74 136) i23_1 (by omega) (by omega) (show u9 = M 131 6 + y8 from by omega) sf73 fdi (fun j hq => f73 136 j (fun q => hq q.2)) j) (by omega)
  · refine z_iconst F dX12_feed_18 ?_
    exact hret _ _ 19 _ (by omega) ⟨hI, hW⟩ ⟨⟨by omega, by omega⟩, hF, (by omega), ⟨fun q => by exfalso; omega, fun q j => (f2 136 j (fun q => absurd q.1 (by decide)))⟩⟩ dX12_feed_19
set_option maxRecDepth 4000 in
theorem k_X12_see (l : Launch) (M : Mem) (hJ : Iw M) (x0 : Int) (hx0a : 0 ≤ x0) (hx0b : x0 ≤ 900) : CI l yX12_see cX12_see 2 (some .int) 1 (fun ad => [.ref (ad 131), ii x0]) M (fun z M' => ((-2147483648) ≤ z ∧ z ≤ 2147483647) ∧ M = M') := by
  obtain ⟨hI, hW⟩ := hJ
  refine en_i (by decide +kernel) (fun ad => by exact Nat.le_of_ble_eq_true rfl) (fun D cy ad A p e s m args below meth c Q F hret => ?_)
  refine z_eq (ls' := [(0, .ref (ad 131)), (1, ii x0)]) rfl rfl rfl ?_
  refine z_iload_n F dX12_see_0 rfl (q := 1) rfl ?_
  refine z_aload_n F dX12_see_1 rfl (q := 0) rfl ?_
  refine gf_X12_79 F hI gs_131 rfl bd_131_7 dX12_see_2 (fun v1 ev1 av1 bv1 => ?_)
  refine z_icmp_ge (tgt := 17) F dX12_see_5 (by decide +kernel) (by omega) (by omega) (fun c2 => ?_) (fun c2 => ?_)
  · refine z_iconst F dX12_see_17 ?_
    exact hret _ _ 18 _ (by omega) ⟨hI, hW⟩ ⟨⟨by omega, by omega⟩, rfl⟩ dX12_see_18
  · refine z_aload_n F dX12_see_8 rfl (q := 0) rfl ?_
    refine rf_X12_23 F gs_131 rfl dX12_see_9 ?_
    refine z_iload_n F dX12_see_12 rfl (q := 1) rfl ?_
    refine z_iald F hI gs_136 (by omega) (by omega) (by decide) bd_136 dX12_see_13 (fun v3 (ev3 : v3 = M 136 _) av3 bv3 => ?_)
    refine z_goto (tgt := 18) F dX12_see_14 (by decide +kernel) ?_
    exact hret _ _ 18 _ (by omega) ⟨hI, hW⟩ ⟨⟨by omega, by omega⟩, rfl⟩ dX12_see_18
set_option maxRecDepth 4000 in
theorem k_X12_isLetter (l : Launch) (M : Mem) (hJ : Iw M) (x0 : Int) (hx0a : (-2147483648) ≤ x0) (hx0b : x0 ≤ 2147483647) : CI l yX12_isLetter cX12_isLetter 1 (some .boolean) 1 (fun ad => [ii x0]) M (fun z M' => (0 ≤ z ∧ z ≤ 1) ∧ M = M') := by
  obtain ⟨hI, hW⟩ := hJ
  refine en_z (by decide +kernel) (fun ad => by exact Nat.le_of_ble_eq_true rfl) (fun D cy ad A p e s m args below meth c Q F hret => ?_)
  refine z_eq (ls' := [(0, ii x0)]) rfl rfl rfl ?_
  refine z_iload_n F dX12_isLetter_0 rfl (q := 0) rfl ?_
  refine z_bipush F dX12_isLetter_1 (by decide +kernel) ?_
  refine z_icmp_lt (tgt := 16) F dX12_isLetter_3 (by decide +kernel) (by omega) (by omega) (fun c1 => ?_) (fun c1 => ?_)
  · refine z_iconst F dX12_isLetter_16 ?_
    exact hret _ _ 17 _ ⟨by omega, by omega⟩ ⟨hI, hW⟩ ⟨⟨by omega, by omega⟩, rfl⟩ dX12_isLetter_17
  · refine z_iload_n F dX12_isLetter_6 rfl (q := 0) rfl ?_
    refine z_bipush F dX12_isLetter_7 (by decide +kernel) ?_
    refine z_icmp_gt (tgt := 16) F dX12_isLetter_9 (by decide +kernel) (by omega) (by omega) (fun c2 => ?_) (fun c2 => ?_)
    · refine z_iconst F dX12_isLetter_16 ?_
      exact hret _ _ 17 _ ⟨by omega, by omega⟩ ⟨hI, hW⟩ ⟨⟨by omega, by omega⟩, rfl⟩ dX12_isLetter_17
    · refine z_iconst F dX12_isLetter_12 ?_
      refine z_goto (tgt := 17) F dX12_isLetter_13 (by decide +kernel) ?_
      exact hret _ _ 17 _ ⟨by omega, by omega⟩ ⟨hI, hW⟩ ⟨⟨by omega, by omega⟩, rfl⟩ dX12_isLetter_17
set_option maxRecDepth 4000 in
theorem k_X12_isDigit (l : Launch) (M : Mem) (hJ : Iw M) (x0 : Int) (hx0a : (-2147483648) ≤ x0) (hx0b : x0 ≤ 2147483647) : CI l yX12_isDigit cX12_isDigit 1 (some .boolean) 1 (fun ad => [ii x0]) M (fun z M' => (0 ≤ z ∧ z ≤ 1) ∧ M = M') := by
  obtain ⟨hI, hW⟩ := hJ
  refine en_z (by decide +kernel) (fun ad => by exact Nat.le_of_ble_eq_true rfl) (fun D cy ad A p e s m args below meth c Q F hret => ?_)
  refine z_eq (ls' := [(0, ii x0)]) rfl rfl rfl ?_
  refine z_iload_n F dX12_isDigit_0 rfl (q := 0) rfl ?_
  refine z_bipush F dX12_isDigit_1 (by decide +kernel) ?_
  refine z_icmp_lt (tgt := 16) F dX12_isDigit_3 (by decide +kernel) (by omega) (by omega) (fun c1 => ?_) (fun c1 => ?_)
  · refine z_iconst F dX12_isDigit_16 ?_
    exact hret _ _ 17 _ ⟨by omega, by omega⟩ ⟨hI, hW⟩ ⟨⟨by omega, by omega⟩, rfl⟩ dX12_isDigit_17
  · refine z_iload_n F dX12_isDigit_6 rfl (q := 0) rfl ?_
    refine z_bipush F dX12_isDigit_7 (by decide +kernel) ?_
    refine z_icmp_gt (tgt := 16) F dX12_isDigit_9 (by decide +kernel) (by omega) (by omega) (fun c2 => ?_) (fun c2 => ?_)
    · refine z_iconst F dX12_isDigit_16 ?_
      exact hret _ _ 17 _ ⟨by omega, by omega⟩ ⟨hI, hW⟩ ⟨⟨by omega, by omega⟩, rfl⟩ dX12_isDigit_17
    · refine z_iconst F dX12_isDigit_12 ?_
      refine z_goto (tgt := 17) F dX12_isDigit_13 (by decide +kernel) ?_
      exact hret _ _ 17 _ ⟨by omega, by omega⟩ ⟨hI, hW⟩ ⟨⟨by omega, by omega⟩, rfl⟩ dX12_isDigit_17
set_option maxRecDepth 4000 in
theorem k_X12_isSignByte (l : Launch) (M : Mem) (hJ : Iw M) (x0 : Int) (hx0a : (-2147483648) ≤ x0) (hx0b : x0 ≤ 2147483647) : CI l yX12_isSignByte cX12_isSignByte 2 (some .boolean) 1 (fun ad => [ii x0]) M (fun z M' => (0 ≤ z ∧ z ≤ 1) ∧ M = M') := by
  obtain ⟨hI, hW⟩ := hJ
  refine en_z (by decide +kernel) (fun ad => by exact Nat.le_of_ble_eq_true rfl) (fun D cy ad A p e s m args below meth c Q F hret => ?_)
  refine z_eq (ls' := [(0, ii x0)]) rfl rfl rfl ?_
  refine z_iload_n F dX12_isSignByte_0 rfl (q := 0) rfl ?_
  refine z_bipush F dX12_isSignByte_1 (by decide +kernel) ?_
  refine z_icmp_eq (tgt := 30) F dX12_isSignByte_3 (by decide +kernel) (by omega) (by omega) (fun c1 => ?_) (fun c1 => ?_)
  · refine z_iconst F dX12_isSignByte_30 ?_
    refine z_goto (tgt := 35) F dX12_isSignByte_31 (by decide +kernel) ?_
    refine z_istore_n F dX12_isSignByte_35 rfl (by decide) (ls' := [(1, ii 1), (0, ii x0)]) rfl ?_
    refine z_iload_n F dX12_isSignByte_36 rfl (q := 0) rfl ?_
    refine z_if_ne (tgt := 76) F dX12_isSignByte_37 (by decide +kernel) (by omega) (fun c2 => ?_) (fun c2 => by exfalso; omega)
    refine z_iconst F dX12_isSignByte_76 ?_
    refine z_goto (tgt := 81) F dX12_isSignByte_77 (by decide +kernel) ?_
    exact hret _ _ 81 _ ⟨by omega, by omega⟩ ⟨hI, hW⟩ ⟨⟨by omega, by omega⟩, rfl⟩ dX12_isSignByte_81
  · refine z_iload_n F dX12_isSignByte_6 rfl (q := 0) rfl ?_
    refine z_bipush F dX12_isSignByte_7 (by decide +kernel) ?_
    refine z_icmp_eq (tgt := 30) F dX12_isSignByte_9 (by decide +kernel) (by omega) (by omega) (fun c3 => ?_) (fun c3 => ?_)
    · refine z_iconst F dX12_isSignByte_30 ?_
      refine z_goto (tgt := 35) F dX12_isSignByte_31 (by decide +kernel) ?_
      refine z_istore_n F dX12_isSignByte_35 rfl (by decide) (ls' := [(1, ii 1), (0, ii x0)]) rfl ?_
      refine z_iload_n F dX12_isSignByte_36 rfl (q := 0) rfl ?_
      refine z_if_ne (tgt := 76) F dX12_isSignByte_37 (by decide +kernel) (by omega) (fun c4 => ?_) (fun c4 => by exfalso; omega)
      refine z_iconst F dX12_isSignByte_76 ?_
      refine z_goto (tgt := 81) F dX12_isSignByte_77 (by decide +kernel) ?_
      exact hret _ _ 81 _ ⟨by omega, by omega⟩ ⟨hI, hW⟩ ⟨⟨by omega, by omega⟩, rfl⟩ dX12_isSignByte_81
    · refine z_iload_n F dX12_isSignByte_12 rfl (q := 0) rfl ?_
      refine z_bipush F dX12_isSignByte_13 (by decide +kernel) ?_
      refine z_icmp_eq (tgt := 30) F dX12_isSignByte_15 (by decide +kernel) (by omega) (by omega) (fun c5 => ?_) (fun c5 => ?_)
      · refine z_iconst F dX12_isSignByte_30 ?_
        refine z_goto (tgt := 35) F dX12_isSignByte_31 (by decide +kernel) ?_
        refine z_istore_n F dX12_isSignByte_35 rfl (by decide) (ls' := [(1, ii 1), (0, ii x0)]) rfl ?_
        refine z_iload_n F dX12_isSignByte_36 rfl (q := 0) rfl ?_
        refine z_if_ne (tgt := 76) F dX12_isSignByte_37 (by decide +kernel) (by omega) (fun c6 => ?_) (fun c6 => by exfalso; omega)
        refine z_iconst F dX12_isSignByte_76 ?_
        refine z_goto (tgt := 81) F dX12_isSignByte_77 (by decide +kernel) ?_
        exact hret _ _ 81 _ ⟨by omega, by omega⟩ ⟨hI, hW⟩ ⟨⟨by omega, by omega⟩, rfl⟩ dX12_isSignByte_81
      · refine z_iload_n F dX12_isSignByte_18 rfl (q := 0) rfl ?_
        refine z_bipush F dX12_isSignByte_19 (by decide +kernel) ?_
        refine z_icmp_eq (tgt := 30) F dX12_isSignByte_21 (by decide +kernel) (by omega) (by omega) (fun c7 => ?_) (fun c7 => ?_)
        · refine z_iconst F dX12_isSignByte_30 ?_
          refine z_goto (tgt := 35) F dX12_isSignByte_31 (by decide +kernel) ?_
          refine z_istore_n F dX12_isSignByte_35 rfl (by decide) (ls' := [(1, ii 1), (0, ii x0)]) rfl ?_
          refine z_iload_n F dX12_isSignByte_36 rfl (q := 0) rfl ?_
          refine z_if_ne (tgt := 76) F dX12_isSignByte_37 (by decide +kernel) (by omega) (fun c8 => ?_) (fun c8 => by exfalso; omega)
          refine z_iconst F dX12_isSignByte_76 ?_
          refine z_goto (tgt := 81) F dX12_isSignByte_77 (by decide +kernel) ?_
          exact hret _ _ 81 _ ⟨by omega, by omega⟩ ⟨hI, hW⟩ ⟨⟨by omega, by omega⟩, rfl⟩ dX12_isSignByte_81
        · refine z_iload_n F dX12_isSignByte_24 rfl (q := 0) rfl ?_
          refine z_bipush F dX12_isSignByte_25 (by decide +kernel) ?_
          refine z_icmp_ne (tgt := 34) F dX12_isSignByte_27 (by decide +kernel) (by omega) (by omega) (fun c9 => ?_) (fun c9 => ?_)
          · refine z_iconst F dX12_isSignByte_34 ?_
            refine z_istore_n F dX12_isSignByte_35 rfl (by decide) (ls' := [(1, ii 0), (0, ii x0)]) rfl ?_
            refine z_iload_n F dX12_isSignByte_36 rfl (q := 0) rfl ?_
            refine z_if_ne (tgt := 76) F dX12_isSignByte_37 (by decide +kernel) (by omega) (fun c10 => by exfalso; omega) (fun c10 => ?_)
            refine z_iload_n F dX12_isSignByte_40 rfl (q := 1) rfl ?_
            refine z_bipush F dX12_isSignByte_41 (by decide +kernel) ?_
            refine z_icmp_eq (tgt := 76) F dX12_isSignByte_43 (by decide +kernel) (by omega) (by omega) (fun c11 => ?_) (fun c11 => ?_)
            · refine z_iconst F dX12_isSignByte_76 ?_
              refine z_goto (tgt := 81) F dX12_isSignByte_77 (by decide +kernel) ?_
              exact hret _ _ 81 _ ⟨by omega, by omega⟩ ⟨hI, hW⟩ ⟨⟨by omega, by omega⟩, rfl⟩ dX12_isSignByte_81
            · refine z_iload_n F dX12_isSignByte_46 rfl (q := 1) rfl ?_
              refine z_bipush F dX12_isSignByte_47 (by decide +kernel) ?_
              refine z_icmp_eq (tgt := 76) F dX12_isSignByte_49 (by decide +kernel) (by omega) (by omega) (fun c12 => ?_) (fun c12 => ?_)
              · refine z_iconst F dX12_isSignByte_76 ?_
                refine z_goto (tgt := 81) F dX12_isSignByte_77 (by decide +kernel) ?_
                exact hret _ _ 81 _ ⟨by omega, by omega⟩ ⟨hI, hW⟩ ⟨⟨by omega, by omega⟩, rfl⟩ dX12_isSignByte_81
              · refine z_iload_n F dX12_isSignByte_52 rfl (q := 1) rfl ?_
                refine z_bipush F dX12_isSignByte_53 (by decide +kernel) ?_
                refine z_icmp_eq (tgt := 76) F dX12_isSignByte_55 (by decide +kernel) (by omega) (by omega) (fun c13 => ?_) (fun c13 => ?_)
                · refine z_iconst F dX12_isSignByte_76 ?_
                  refine z_goto (tgt := 81) F dX12_isSignByte_77 (by decide +kernel) ?_
                  exact hret _ _ 81 _ ⟨by omega, by omega⟩ ⟨hI, hW⟩ ⟨⟨by omega, by omega⟩, rfl⟩ dX12_isSignByte_81
                · refine z_iload_n F dX12_isSignByte_58 rfl (q := 1) rfl ?_
                  refine z_bipush F dX12_isSignByte_59 (by decide +kernel) ?_
                  refine z_icmp_eq (tgt := 76) F dX12_isSignByte_61 (by decide +kernel) (by omega) (by omega) (fun c14 => ?_) (fun c14 => ?_)
                  · refine z_iconst F dX12_isSignByte_76 ?_
                    refine z_goto (tgt := 81) F dX12_isSignByte_77 (by decide +kernel) ?_
                    exact hret _ _ 81 _ ⟨by omega, by omega⟩ ⟨hI, hW⟩ ⟨⟨by omega, by omega⟩, rfl⟩ dX12_isSignByte_81
                  · refine z_iload_n F dX12_isSignByte_64 rfl (q := 1) rfl ?_
                    refine z_bipush F dX12_isSignByte_65 (by decide +kernel) ?_
                    refine z_icmp_eq (tgt := 76) F dX12_isSignByte_67 (by decide +kernel) (by omega) (by omega) (fun c15 => ?_) (fun c15 => ?_)
                    · refine z_iconst F dX12_isSignByte_76 ?_
                      refine z_goto (tgt := 81) F dX12_isSignByte_77 (by decide +kernel) ?_
                      exact hret _ _ 81 _ ⟨by omega, by omega⟩ ⟨hI, hW⟩ ⟨⟨by omega, by omega⟩, rfl⟩ dX12_isSignByte_81
                    · refine z_iload_n F dX12_isSignByte_70 rfl (q := 1) rfl ?_
                      refine z_bipush F dX12_isSignByte_71 (by decide +kernel) ?_
                      refine z_icmp_ne (tgt := 80) F dX12_isSignByte_73 (by decide +kernel) (by omega) (by omega) (fun c16 => ?_) (fun c16 => ?_)
                      · refine z_iconst F dX12_isSignByte_80 ?_
                        exact hret _ _ 81 _ ⟨by omega, by omega⟩ ⟨hI, hW⟩ ⟨⟨by omega, by omega⟩, rfl⟩ dX12_isSignByte_81
                      · refine z_iconst F dX12_isSignByte_76 ?_
                        refine z_goto (tgt := 81) F dX12_isSignByte_77 (by decide +kernel) ?_
                        exact hret _ _ 81 _ ⟨by omega, by omega⟩ ⟨hI, hW⟩ ⟨⟨by omega, by omega⟩, rfl⟩ dX12_isSignByte_81
          · refine z_iconst F dX12_isSignByte_30 ?_
            refine z_goto (tgt := 35) F dX12_isSignByte_31 (by decide +kernel) ?_
            refine z_istore_n F dX12_isSignByte_35 rfl (by decide) (ls' := [(1, ii 1), (0, ii x0)]) rfl ?_
            refine z_iload_n F dX12_isSignByte_36 rfl (q := 0) rfl ?_
            refine z_if_ne (tgt := 76) F dX12_isSignByte_37 (by decide +kernel) (by omega) (fun c17 => ?_) (fun c17 => by exfalso; omega)
            refine z_iconst F dX12_isSignByte_76 ?_
            refine z_goto (tgt := 81) F dX12_isSignByte_77 (by decide +kernel) ?_
            exact hret _ _ 81 _ ⟨by omega, by omega⟩ ⟨hI, hW⟩ ⟨⟨by omega, by omega⟩, rfl⟩ dX12_isSignByte_81
set_option maxRecDepth 4000 in
theorem k_X12_blames (l : Launch) (M : Mem) (hJ : Iw M) (x0 : Int) (hx0a : 1 ≤ x0) (hx0b : x0 ≤ 4) : CV l yX12_blames cX12_blames 2 none 1 (fun ad => [.ref (ad 131), ii x0]) M (fun M' => Fr [131] M M') := by
  obtain ⟨hI, hW⟩ := hJ
  have hF : Fr [131] M M := Fr.rf
  refine en_v (by decide +kernel) (fun ad => by exact Nat.le_of_ble_eq_true rfl) (fun D cy ad A p e s m args below meth c Q F hret => ?_)
  refine z_eq (ls' := [(0, .ref (ad 131)), (1, ii x0)]) rfl rfl rfl ?_
  refine z_aload_n F dX12_blames_0 rfl (q := 0) rfl ?_
  refine gf_X12_108 F hI gs_131 rfl bd_131_12 dX12_blames_1 (fun v1 ev1 av1 bv1 => ?_)
  refine z_if_eq (tgt := 8) F dX12_blames_4 (by decide +kernel) (by omega) (fun c2 => ?_) (fun c2 => ?_)
  · refine z_aload_n F dX12_blames_8 rfl (q := 0) rfl ?_
    refine z_aload_n F dX12_blames_9 rfl (q := 0) rfl ?_
    refine gf_X12_88 F hI gs_131 rfl bd_131_10 dX12_blames_10 (fun v3 ev3 av3 bv3 => ?_)
    refine z_iconst F dX12_blames_13 ?_
    refine z_icmp_ne (tgt := 21) F dX12_blames_14 (by decide +kernel) (by omega) (by omega) (fun c4 => ?_) (fun c4 => ?_)
    · refine z_iload_n F dX12_blames_21 rfl (q := 1) rfl ?_
      refine pf_X12_108 F hI gs_131 rfl bd_131_12 rfl rfl dX12_blames_22 (by omega) (by omega) (fun M6 hI sf5 f5 => ?_)
      have hF := hF.wrf f5 (by decide) (by decide)
      have hW : WFk M6 := hW.site f5 (by decide)
      refine z_aload_n F dX12_blames_25 rfl (q := 0) rfl ?_
      refine z_aload_n F dX12_blames_26 rfl (q := 0) rfl ?_
      refine gf_X12_85 F hI gs_131 rfl bd_131_9 dX12_blames_27 (fun v7 ev7 av7 bv7 => ?_)
      refine pf_X12_111 F hI gs_131 rfl bd_131_13 rfl rfl dX12_blames_30 (by omega) (by omega) (fun M9 hI sf8 f8 => ?_)
      have hF := hF.wrf f8 (by decide) (by decide)
      have hW : WFk M9 := hW.site f8 (by decide)
      exact hret _ 33 _ ⟨hI, hW⟩ hF dX12_blames_33
    · refine z_iconst F dX12_blames_17 ?_
      refine z_goto (tgt := 22) F dX12_blames_18 (by decide +kernel) ?_
      refine pf_X12_108 F hI gs_131 rfl bd_131_12 rfl rfl dX12_blames_22 (by omega) (by omega) (fun M11 hI sf10 f10 => ?_)
      have hF := hF.wrf f10 (by decide) (by decide)
      have hW : WFk M11 := hW.site f10 (by decide)
      refine z_aload_n F dX12_blames_25 rfl (q := 0) rfl ?_
      refine z_aload_n F dX12_blames_26 rfl (q := 0) rfl ?_
      refine gf_X12_85 F hI gs_131 rfl bd_131_9 dX12_blames_27 (fun v12 ev12 av12 bv12 => ?_)
      refine pf_X12_111 F hI gs_131 rfl bd_131_13 rfl rfl dX12_blames_30 (by omega) (by omega) (fun M14 hI sf13 f13 => ?_)
      have hF := hF.wrf f13 (by decide) (by decide)
      have hW : WFk M14 := hW.site f13 (by decide)
      exact hret _ 33 _ ⟨hI, hW⟩ hF dX12_blames_33
  · exact hret _ 7 _ ⟨hI, hW⟩ hF dX12_blames_7
set_option maxRecDepth 4000 in
theorem k_X12_isSign (l : Launch) (M : Mem) (hJ : Iw M) (x0 : Int) (hx0a : (-2147483648) ≤ x0) (hx0b : x0 ≤ 2147483647) : CI l yX12_isSign cX12_isSign 2 (some .boolean) 1 (fun ad => [.ref (ad 131), ii x0]) M (fun z M' => (0 ≤ z ∧ z ≤ 1) ∧ M = M') := by
  obtain ⟨hI, hW⟩ := hJ
  refine en_z (by decide +kernel) (fun ad => by exact Nat.le_of_ble_eq_true rfl) (fun D cy ad A p e s m args below meth c Q F hret => ?_)
  refine z_eq (ls' := [(0, .ref (ad 131)), (1, ii x0)]) rfl rfl rfl ?_
  refine z_aload_n F dX12_isSign_0 rfl (q := 0) rfl ?_
  refine gf_X12_108 F hI gs_131 rfl bd_131_12 dX12_isSign_1 (fun v1 ev1 av1 bv1 => ?_)
  refine z_if_ne (tgt := 19) F dX12_isSign_4 (by decide +kernel) (by omega) (fun c2 => ?_) (fun c2 => ?_)
  · refine z_iconst F dX12_isSign_19 ?_
    exact hret _ _ 20 _ ⟨by omega, by omega⟩ ⟨hI, hW⟩ ⟨⟨by omega, by omega⟩, rfl⟩ dX12_isSign_20
  · refine z_aload_n F dX12_isSign_7 rfl (q := 0) rfl ?_
    refine gf_X12_88 F hI gs_131 rfl bd_131_10 dX12_isSign_8 (fun v3 ev3 av3 bv3 => ?_)
    refine z_iload_n F dX12_isSign_11 rfl (q := 1) rfl ?_
    refine z_icmp_ne (tgt := 19) F dX12_isSign_12 (by decide +kernel) (by omega) (by omega) (fun c4 => ?_) (fun c4 => ?_)
    · refine z_iconst F dX12_isSign_19 ?_
      exact hret _ _ 20 _ ⟨by omega, by omega⟩ ⟨hI, hW⟩ ⟨⟨by omega, by omega⟩, rfl⟩ dX12_isSign_20
    · refine z_iconst F dX12_isSign_15 ?_
      refine z_goto (tgt := 20) F dX12_isSign_16 (by decide +kernel) ?_
      exact hret _ _ 20 _ ⟨by omega, by omega⟩ ⟨hI, hW⟩ ⟨⟨by omega, by omega⟩, rfl⟩ dX12_isSign_20
set_option maxRecDepth 4000 in
theorem k_X12_thingAt_132 (l : Launch) (M : Mem) (hJ : Iw M) (x1 : Int) (hx1a : (-2147483648) ≤ x1) (hx1b : x1 ≤ 2147483647) : CI l yX12_thingAt cX12_thingAt 3 (some .int) 1 (fun ad => [.ref (ad 132), ii x1]) M (fun z M' => ((-1) ≤ z ∧ z ≤ 7) ∧ M = M') := by
  obtain ⟨hI, hW⟩ := hJ
  refine en_i (by decide +kernel) (fun ad => by exact Nat.le_of_ble_eq_true rfl) (fun D cy ad A p e s m args below meth c Q F hret => ?_)
  refine z_eq (ls' := [(0, .ref (ad 132)), (1, ii x1)]) rfl rfl rfl ?_
  refine z_iconst F dX12_thingAt_0 ?_
  refine z_istore_n F dX12_thingAt_1 rfl (by decide) (ls' := [(2, ii 0), (0, .ref (ad 132)), (1, ii x1)]) rfl ?_
  refine z_loc [1, 2, 0] (ls' := [(0, .ref (ad 132)), (1, ii x1), (2, ii 0)]) rfl ?_
  suffices key2 : ∀ (n : Nat) (y2 : Int), 0 ≤ y2 → y2 ≤ 8 → 8 - y2 < (n : Int) → Z D cy ad p l e (RMh 1) s m args below meth c A 3 0 0 Q 2 [(0, .ref (ad 132)), (1, ii x1), (2, ii y2)] [] M from key2 9 0 (by omega) (by omega) (by omega)
  intro n2
  induction n2 with
  | zero => intro y2 ay2 by2 hn2; exfalso; omega
  | succ n2 ih2 =>
    intro y2 ay2 by2 hn2
    refine z_iload_n F dX12_thingAt_2 rfl (q := 2) rfl ?_
    refine z_aload_n F dX12_thingAt_3 rfl (q := 0) rfl ?_
    refine z_iconst F dX12_thingAt_4 ?_
    refine z_iald F hI gs_132 (by omega) (by omega) (by decide) (show Bd 132 2 = (0, 8) from rfl) dX12_thingAt_5 (fun v3 (ev3 : v3 = M 132 2) av3 bv3 => ?_)
    refine z_icmp_ge (tgt := 27) F dX12_thingAt_6 (by decide +kernel) (by omega) (by omega) (fun c4 => ?_) (fun c4 => ?_)
    · refine z_iconst F dX12_thingAt_27 ?_
      exact hret _ _ 28 _ (by omega) ⟨hI, hW⟩ ⟨⟨by omega, by omega⟩, rfl⟩ dX12_thingAt_28
    · refine z_aload_n F dX12_thingAt_9 rfl (q := 0) rfl ?_
      refine z_bipush F dX12_thingAt_10 (by decide +kernel) ?_
      refine z_iload_n F dX12_thingAt_12 rfl (q := 2) rfl ?_
      refine z_iadd F dX12_thingAt_13 ?_
      refine z_iald F hI gs_132 (by omega) (by omega) (by decide) (bd_132.trans (kn_at (by omega) (by omega))) dX12_thingAt_14 (fun v5 (ev5 : v5 = M 132 _) av5 bv5 => ?_)
      refine z_iload_n F dX12_thingAt_15 rfl (q := 1) rfl ?_
      refine z_icmp_ne (tgt := 21) F dX12_thingAt_16 (by decide +kernel) (by omega) (by omega) (fun c6 => ?_) (fun c6 => ?_)
      · refine z_iincN F dX12_thingAt_21 (q := 2) rfl (by decide) (fun v7 ev7 => ?_)
        refine z_eq (ls' := [(2, ii v7), (0, .ref (ad 132)), (1, ii x1)]) rfl rfl rfl ?_
        refine z_goto (tgt := 2) F dX12_thingAt_24 (by decide +kernel) ?_
        refine z_loc [1, 2, 0] (ls' := [(0, .ref (ad 132)), (1, ii x1), (2, ii v7)]) rfl ?_
        exact ih2 v7 (by omega) (by omega) (by omega)
      · refine z_iload_n F dX12_thingAt_19 rfl (q := 2) rfl ?_
        exact hret _ _ 20 _ (by omega) ⟨hI, hW⟩ ⟨⟨by omega, by omega⟩, rfl⟩ dX12_thingAt_20
set_option maxRecDepth 4000 in
theorem k_X12_fault (l : Launch) (M : Mem) (hJ : Iw M) (x0 : Int) (hx0a : (-2147483648) ≤ x0) (hx0b : x0 ≤ 2147483647) : CI l yX12_fault cX12_fault 2 (some .int) 1 (fun ad => [.ref (ad 131), ii x0]) M (fun z M' => ((-1) ≤ z ∧ z ≤ 900) ∧ Fr [131] M M') := by
  obtain ⟨hI, hW⟩ := hJ
  have hF : Fr [131] M M := Fr.rf
  refine en_i (by decide +kernel) (fun ad => by exact Nat.le_of_ble_eq_true rfl) (fun D cy ad A p e s m args below meth c Q F hret => ?_)
  refine z_eq (ls' := [(0, .ref (ad 131)), (1, ii x0)]) rfl rfl rfl ?_
  refine z_aload_n F dX12_fault_0 rfl (q := 0) rfl ?_
  refine z_iconst F dX12_fault_1 ?_
  refine pf_X12_73 F hI gs_131 rfl bd_131_4 rfl rfl dX12_fault_2 (by omega) (by omega) (fun M2 hI sf1 f1 => ?_)
  have hF := hF.wrf f1 (by decide) (by decide)
  have hW : WFk M2 := hW.site f1 (by decide)
  refine z_iload_n F dX12_fault_5 rfl (q := 1) rfl ?_
  refine z_if_ne (tgt := 16) F dX12_fault_6 (by decide +kernel) (by omega) (fun c3 => ?_) (fun c3 => ?_)
  · refine z_iload_n F dX12_fault_16 rfl (q := 1) rfl ?_
    refine z_iconst F dX12_fault_17 ?_
    refine z_icmp_ne (tgt := 28) F dX12_fault_18 (by decide +kernel) (by omega) (by omega) (fun c4 => ?_) (fun c4 => ?_)
    · refine z_iconst F dX12_fault_28 ?_
      exact hret _ _ 29 _ (by omega) ⟨hI, hW⟩ ⟨⟨by omega, by omega⟩, hF⟩ dX12_fault_29
    · refine z_aload_n F dX12_fault_21 rfl (q := 0) rfl ?_
      refine gf_X12_26 F hI gs_131 rfl bd_131_15 dX12_fault_22 (fun v5 ev5 av5 bv5 => ?_)
      refine z_goto (tgt := 29) F dX12_fault_25 (by decide +kernel) ?_
      exact hret _ _ 29 _ (by omega) ⟨hI, hW⟩ ⟨⟨by omega, by omega⟩, hF⟩ dX12_fault_29
  · refine z_aload_n F dX12_fault_9 rfl (q := 0) rfl ?_
    refine gf_X12_270 F hI gs_131 rfl bd_131_14 dX12_fault_10 (fun v6 ev6 av6 bv6 => ?_)
    refine z_goto (tgt := 29) F dX12_fault_13 (by decide +kernel) ?_
    exact hret _ _ 29 _ (by omega) ⟨hI, hW⟩ ⟨⟨by omega, by omega⟩, hF⟩ dX12_fault_29
set_option maxRecDepth 4000 in
theorem k_X12_places (l : Launch) (M : Mem) (hJ : Iw M) : CI l yX12_places cX12_places 1 (some .int) 1 (fun ad => [.ref (ad 131)]) M (fun z M' => (0 ≤ z ∧ z ≤ 10) ∧ M = M' ∧ (z = M 132 1)) := by
  obtain ⟨hI, hW⟩ := hJ
  refine en_i (by decide +kernel) (fun ad => by exact Nat.le_of_ble_eq_true rfl) (fun D cy ad A p e s m args below meth c Q F hret => ?_)
  refine z_eq (ls' := [(0, .ref (ad 131))]) rfl rfl rfl ?_
  refine z_aload_n F dX12_places_0 rfl (q := 0) rfl ?_
  refine rf_X12_9 F gs_131 rfl dX12_places_1 ?_
  refine z_iconst F dX12_places_4 ?_
  refine z_iald F hI gs_132 (by omega) (by omega) (by decide) (show Bd 132 1 = (0, 10) from rfl) dX12_places_5 (fun v1 (ev1 : v1 = M 132 1) av1 bv1 => ?_)
  exact hret _ _ 6 _ (by omega) ⟨hI, hW⟩ ⟨⟨by omega, by omega⟩, rfl, (by omega)⟩ dX12_places_6
set_option maxRecDepth 4000 in
theorem k_X12_things (l : Launch) (M : Mem) (hJ : Iw M) : CI l yX12_things cX12_things 1 (some .int) 1 (fun ad => [.ref (ad 131)]) M (fun z M' => (0 ≤ z ∧ z ≤ 8) ∧ M = M' ∧ (z = M 132 2)) := by
  obtain ⟨hI, hW⟩ := hJ
  refine en_i (by decide +kernel) (fun ad => by exact Nat.le_of_ble_eq_true rfl) (fun D cy ad A p e s m args below meth c Q F hret => ?_)
  refine z_eq (ls' := [(0, .ref (ad 131))]) rfl rfl rfl ?_
  refine z_aload_n F dX12_things_0 rfl (q := 0) rfl ?_
  refine rf_X12_9 F gs_131 rfl dX12_things_1 ?_
  refine z_iconst F dX12_things_4 ?_
  refine z_iald F hI gs_132 (by omega) (by omega) (by decide) (show Bd 132 2 = (0, 8) from rfl) dX12_things_5 (fun v1 (ev1 : v1 = M 132 2) av1 bv1 => ?_)
  exact hret _ _ 6 _ (by omega) ⟨hI, hW⟩ ⟨⟨by omega, by omega⟩, rfl, (by omega)⟩ dX12_things_6
set_option maxRecDepth 4000 in
theorem k_X12_lies (l : Launch) (M : Mem) (hJ : Iw M) (x0 : Int) (hx0a : 0 ≤ x0) (hx0b : x0 ≤ 7) : CI l yX12_lies cX12_lies 2 (some .int) 1 (fun ad => [.ref (ad 131), ii x0]) M (fun z M' => (0 ≤ z ∧ z ≤ 9) ∧ M = M') := by
  obtain ⟨hI, hW⟩ := hJ
  refine en_i (by decide +kernel) (fun ad => by exact Nat.le_of_ble_eq_true rfl) (fun D cy ad A p e s m args below meth c Q F hret => ?_)
  refine z_eq (ls' := [(0, .ref (ad 131)), (1, ii x0)]) rfl rfl rfl ?_
  refine z_aload_n F dX12_lies_0 rfl (q := 0) rfl ?_
  refine rf_X12_9 F gs_131 rfl dX12_lies_1 ?_
  refine z_bipush F dX12_lies_4 (by decide +kernel) ?_
  refine z_iload_n F dX12_lies_6 rfl (q := 1) rfl ?_
  refine z_iadd F dX12_lies_7 ?_
  refine z_iald F hI gs_132 (by omega) (by omega) (by decide) (bd_132.trans (kn_at (by omega) (by omega))) dX12_lies_8 (fun v1 (ev1 : v1 = M 132 _) av1 bv1 => ?_)
  exact hret _ _ 9 _ (by omega) ⟨hI, hW⟩ ⟨⟨by omega, by omega⟩, rfl⟩ dX12_lies_9
set_option maxRecDepth 4000 in
theorem k_X12_touch (l : Launch) (M : Mem) (hJ : Iw M) (x0 : Int) (hx0a : 0 ≤ x0) (hx0b : x0 ≤ 9) (x1 : Int) (hx1a : 0 ≤ x1) (hx1b : x1 ≤ 9) : CI l yX12_touch cX12_touch 3 (some .int) 1 (fun ad => [.ref (ad 131), ii x0, ii x1]) M (fun z M' => (0 ≤ z ∧ z ≤ 2) ∧ M = M' ∧ (z = M 132 (50 + 10 * x0 + x1).toNat)) := by
  obtain ⟨hI, hW⟩ := hJ
  refine en_i (by decide +kernel) (fun ad => by exact Nat.le_of_ble_eq_true rfl) (fun D cy ad A p e s m args below meth c Q F hret => ?_)
  refine z_eq (ls' := [(0, .ref (ad 131)), (1, ii x0), (2, ii x1)]) rfl rfl rfl ?_
  refine z_aload_n F dX12_touch_0 rfl (q := 0) rfl ?_
  refine rf_X12_9 F gs_131 rfl dX12_touch_1 ?_
  refine z_bipush F dX12_touch_4 (by decide +kernel) ?_
  refine z_bipush F dX12_touch_6 (by decide +kernel) ?_
  refine z_iload_n F dX12_touch_8 rfl (q := 1) rfl ?_
  refine z_imul F dX12_touch_9 ?_
  refine z_iadd F dX12_touch_10 ?_
  refine z_iload_n F dX12_touch_11 rfl (q := 2) rfl ?_
  refine z_iadd F dX12_touch_12 ?_
  refine z_iald F hI gs_132 (by omega) (by omega) (by decide) (bd_132.trans (kn_touch (by omega) (by omega))) dX12_touch_13 (fun v1 (ev1 : v1 = M 132 _) av1 bv1 => ?_)
  exact hret _ _ 14 _ (by omega) ⟨hI, hW⟩ ⟨⟨by omega, by omega⟩, rfl, ev1⟩ dX12_touch_14
set_option maxRecDepth 4000 in
theorem k_X12_isPlace (l : Launch) (M : Mem) (hJ : Iw M) (x0 : Int) (hx0a : (-9223372036854775808) ≤ x0) (hx0b : x0 ≤ 9223372036854775807) : CI l yX12_isPlace cX12_isPlace 3 (some .boolean) 2 (fun ad => [.ref (ad 131), ll x0]) M (fun z M' => (0 ≤ z ∧ z ≤ 1) ∧ M = M' ∧ (z = 1 → 0 ≤ x0 ∧ x0 ≤ 9)) := by
  obtain ⟨hI, hW⟩ := hJ
  refine en_z (by decide +kernel) (fun ad => by exact Nat.le_of_ble_eq_true rfl) (fun D cy ad A p e s m args below meth c Q F hret => ?_)
  refine z_eq (ls' := [(0, .ref (ad 131)), (1, ll x0)]) rfl rfl rfl ?_
  refine z_lload_n F dX12_isPlace_0 rfl (q := 1) rfl ?_
  refine z_lconst (x := 0) F dX12_isPlace_1 (by decide +kernel) ?_
  refine z_aload_n F dX12_isPlace_2 rfl (q := 0) rfl ?_
  refine zv_i (rest := [ll 0, ll x0]) F (k_X12_places l M ⟨hI, hW⟩) cs_X12_273 (T := TX12) (N := 44) (ci := 12) rfl gs_131 (by decide) (by decide) rfl rfl rfl (Nat.le_of_ble_eq_true rfl) dX12_isPlace_3 (fun v1 M2 rv1 hI p3 => ?_)
  obtain ⟨hI, hW⟩ := hI
  obtain ⟨⟨av1, bv1⟩, rfl, xp3⟩ := p3
  refine z_iconst F dX12_isPlace_6 ?_
  refine z_isub F dX12_isPlace_7 ?_
  refine z_i2l F dX12_isPlace_8 (by omega) ?_
  refine zs_i (rest := []) F (k_X12_within l M ⟨hI, hW⟩ x0 (by omega) (by omega) 0 (by omega) (by omega) (v1 - 1) (by omega) (by omega)) cs_X12_137 (by decide) (by decide) rfl rfl rfl (Nat.le_of_ble_eq_true rfl) dX12_isPlace_9 (fun v4 M5 rv4 hI p6 => ?_)
  obtain ⟨hI, hW⟩ := hI
  obtain ⟨⟨av4, bv4⟩, rfl, xp6⟩ := p6
  exact hret _ _ 12 _ ⟨by omega, by omega⟩ ⟨hI, hW⟩ ⟨⟨by omega, by omega⟩, rfl, (by omega)⟩ dX12_isPlace_12
set_option maxRecDepth 4000 in
theorem k_X12_isThing (l : Launch) (M : Mem) (hJ : Iw M) (x0 : Int) (hx0a : (-9223372036854775808) ≤ x0) (hx0b : x0 ≤ 9223372036854775807) : CI l yX12_isThing cX12_isThing 3 (some .boolean) 2 (fun ad => [.ref (ad 131), ll x0]) M (fun z M' => (0 ≤ z ∧ z ≤ 1) ∧ M = M' ∧ (z = 1 → 0 ≤ x0 ∧ x0 ≤ 7)) := by
  obtain ⟨hI, hW⟩ := hJ
  refine en_z (by decide +kernel) (fun ad => by exact Nat.le_of_ble_eq_true rfl) (fun D cy ad A p e s m args below meth c Q F hret => ?_)
  refine z_eq (ls' := [(0, .ref (ad 131)), (1, ll x0)]) rfl rfl rfl ?_
  refine z_lload_n F dX12_isThing_0 rfl (q := 1) rfl ?_
  refine z_lconst (x := 0) F dX12_isThing_1 (by decide +kernel) ?_
  refine z_aload_n F dX12_isThing_2 rfl (q := 0) rfl ?_
  refine zv_i (rest := [ll 0, ll x0]) F (k_X12_things l M ⟨hI, hW⟩) cs_X12_275 (T := TX12) (N := 44) (ci := 12) rfl gs_131 (by decide) (by decide) rfl rfl rfl (Nat.le_of_ble_eq_true rfl) dX12_isThing_3 (fun v1 M2 rv1 hI p3 => ?_)
  obtain ⟨hI, hW⟩ := hI
  obtain ⟨⟨av1, bv1⟩, rfl, xp3⟩ := p3
  refine z_iconst F dX12_isThing_6 ?_
  refine z_isub F dX12_isThing_7 ?_
  refine z_i2l F dX12_isThing_8 (by omega) ?_
  refine zs_i (rest := []) F (k_X12_within l M ⟨hI, hW⟩ x0 (by omega) (by omega) 0 (by omega) (by omega) (v1 - 1) (by omega) (by omega)) cs_X12_137 (by decide) (by decide) rfl rfl rfl (Nat.le_of_ble_eq_true rfl) dX12_isThing_9 (fun v4 M5 rv4 hI p6 => ?_)
  obtain ⟨hI, hW⟩ := hI
  obtain ⟨⟨av4, bv4⟩, rfl, xp6⟩ := p6
  exact hret _ _ 12 _ ⟨by omega, by omega⟩ ⟨hI, hW⟩ ⟨⟨by omega, by omega⟩, rfl, (by omega)⟩ dX12_isThing_12
set_option maxRecDepth 4000 in
theorem k_X12_isOdd (l : Launch) (M : Mem) (hJ : Iw M) (x0 : Int) (hx0a : (-2147483648) ≤ x0) (hx0b : x0 ≤ 2147483647) : CI l yX12_isOdd cX12_isOdd 2 (some .boolean) 1 (fun ad => [.ref (ad 131), ii x0]) M (fun z M' => (0 ≤ z ∧ z ≤ 1) ∧ M = M') := by
  obtain ⟨hI, hW⟩ := hJ
  refine en_z (by decide +kernel) (fun ad => by exact Nat.le_of_ble_eq_true rfl) (fun D cy ad A p e s m args below meth c Q F hret => ?_)
  refine z_eq (ls' := [(0, .ref (ad 131)), (1, ii x0)]) rfl rfl rfl ?_
  refine z_iload_n F dX12_isOdd_0 rfl (q := 1) rfl ?_
  refine z_if_ne (tgt := 32) F dX12_isOdd_1 (by decide +kernel) (by omega) (fun c1 => ?_) (fun c1 => ?_)
  · refine z_iload_n F dX12_isOdd_32 rfl (q := 1) rfl ?_
    refine z_iconst F dX12_isOdd_33 ?_
    refine z_irem0 F dX12_isOdd_34 (by decide) (fun v2 _ rv2 => ?_)
    refine z_iconst F dX12_isOdd_35 ?_
    refine z_icmp_ne (tgt := 43) F dX12_isOdd_36 (by decide +kernel) (by omega) (by omega) (fun c3 => ?_) (fun c3 => ?_)
    · refine z_iconst F dX12_isOdd_43 ?_
      exact hret _ _ 44 _ ⟨by omega, by omega⟩ ⟨hI, hW⟩ ⟨⟨by omega, by omega⟩, rfl⟩ dX12_isOdd_44
    · refine z_iconst F dX12_isOdd_39 ?_
      refine z_goto (tgt := 44) F dX12_isOdd_40 (by decide +kernel) ?_
      exact hret _ _ 44 _ ⟨by omega, by omega⟩ ⟨hI, hW⟩ ⟨⟨by omega, by omega⟩, rfl⟩ dX12_isOdd_44
  · refine z_aload_n F dX12_isOdd_4 rfl (q := 0) rfl ?_
    refine rf_X12_9 F gs_131 rfl dX12_isOdd_5 ?_
    refine z_iconst F dX12_isOdd_8 ?_
    refine z_iald F hI gs_132 (by omega) (by omega) (by decide) (show Bd 132 5 = (-2147483648, 2147483647) from rfl) dX12_isOdd_9 (fun v4 (ev4 : v4 = M 132 5) av4 bv4 => ?_)
    refine z_iconst F dX12_isOdd_10 ?_
    refine z_icmp_eq (tgt := 24) F dX12_isOdd_11 (by decide +kernel) (by omega) (by omega) (fun c5 => ?_) (fun c5 => ?_)
    · refine z_iconst F dX12_isOdd_24 ?_
      refine z_goto (tgt := 44) F dX12_isOdd_25 (by decide +kernel) ?_
      exact hret _ _ 44 _ ⟨by omega, by omega⟩ ⟨hI, hW⟩ ⟨⟨by omega, by omega⟩, rfl⟩ dX12_isOdd_44
    · refine z_aload_n F dX12_isOdd_14 rfl (q := 0) rfl ?_
      refine rf_X12_9 F gs_131 rfl dX12_isOdd_15 ?_
      refine z_iconst F dX12_isOdd_18 ?_
      refine z_iald F hI gs_132 (by omega) (by omega) (by decide) (show Bd 132 5 = (-2147483648, 2147483647) from rfl) dX12_isOdd_19 (fun v6 (ev6 : v6 = M 132 5) av6 bv6 => ?_)
      have zv6 : v4 = v6 := ev4.trans ev6.symm
      subst zv6
      refine z_iconst F dX12_isOdd_20 ?_
      refine z_icmp_ne (tgt := 28) F dX12_isOdd_21 (by decide +kernel) (by omega) (by omega) (fun c7 => ?_) (fun c7 => ?_)
      · refine z_iconst F dX12_isOdd_28 ?_
        refine z_goto (tgt := 44) F dX12_isOdd_29 (by decide +kernel) ?_
        exact hret _ _ 44 _ ⟨by omega, by omega⟩ ⟨hI, hW⟩ ⟨⟨by omega, by omega⟩, rfl⟩ dX12_isOdd_44
      · refine z_iconst F dX12_isOdd_24 ?_
        refine z_goto (tgt := 44) F dX12_isOdd_25 (by decide +kernel) ?_
        exact hret _ _ 44 _ ⟨by omega, by omega⟩ ⟨hI, hW⟩ ⟨⟨by omega, by omega⟩, rfl⟩ dX12_isOdd_44
set_option maxRecDepth 4000 in
theorem k_X12_isEven (l : Launch) (M : Mem) (hJ : Iw M) (x0 : Int) (hx0a : (-2147483648) ≤ x0) (hx0b : x0 ≤ 2147483647) : CI l yX12_isEven cX12_isEven 2 (some .boolean) 1 (fun ad => [.ref (ad 131), ii x0]) M (fun z M' => (0 ≤ z ∧ z ≤ 1) ∧ M = M') := by
  obtain ⟨hI, hW⟩ := hJ
  refine en_z (by decide +kernel) (fun ad => by exact Nat.le_of_ble_eq_true rfl) (fun D cy ad A p e s m args below meth c Q F hret => ?_)
  refine z_eq (ls' := [(0, .ref (ad 131)), (1, ii x0)]) rfl rfl rfl ?_
  refine z_iload_n F dX12_isEven_0 rfl (q := 1) rfl ?_
  refine z_if_ne (tgt := 31) F dX12_isEven_1 (by decide +kernel) (by omega) (fun c1 => ?_) (fun c1 => ?_)
  · refine z_iload_n F dX12_isEven_31 rfl (q := 1) rfl ?_
    refine z_iconst F dX12_isEven_32 ?_
    refine z_irem0 F dX12_isEven_33 (by decide) (fun v2 _ rv2 => ?_)
    refine z_if_ne (tgt := 41) F dX12_isEven_34 (by decide +kernel) (by omega) (fun c3 => ?_) (fun c3 => ?_)
    · refine z_iconst F dX12_isEven_41 ?_
      exact hret _ _ 42 _ ⟨by omega, by omega⟩ ⟨hI, hW⟩ ⟨⟨by omega, by omega⟩, rfl⟩ dX12_isEven_42
    · refine z_iconst F dX12_isEven_37 ?_
      refine z_goto (tgt := 42) F dX12_isEven_38 (by decide +kernel) ?_
      exact hret _ _ 42 _ ⟨by omega, by omega⟩ ⟨hI, hW⟩ ⟨⟨by omega, by omega⟩, rfl⟩ dX12_isEven_42
  · refine z_aload_n F dX12_isEven_4 rfl (q := 0) rfl ?_
    refine rf_X12_9 F gs_131 rfl dX12_isEven_5 ?_
    refine z_iconst F dX12_isEven_8 ?_
    refine z_iald F hI gs_132 (by omega) (by omega) (by decide) (show Bd 132 5 = (-2147483648, 2147483647) from rfl) dX12_isEven_9 (fun v4 (ev4 : v4 = M 132 5) av4 bv4 => ?_)
    refine z_if_eq (tgt := 23) F dX12_isEven_10 (by decide +kernel) (by omega) (fun c5 => ?_) (fun c5 => ?_)
    · refine z_iconst F dX12_isEven_23 ?_
      refine z_goto (tgt := 42) F dX12_isEven_24 (by decide +kernel) ?_
      exact hret _ _ 42 _ ⟨by omega, by omega⟩ ⟨hI, hW⟩ ⟨⟨by omega, by omega⟩, rfl⟩ dX12_isEven_42
    · refine z_aload_n F dX12_isEven_13 rfl (q := 0) rfl ?_
      refine rf_X12_9 F gs_131 rfl dX12_isEven_14 ?_
      refine z_iconst F dX12_isEven_17 ?_
      refine z_iald F hI gs_132 (by omega) (by omega) (by decide) (show Bd 132 5 = (-2147483648, 2147483647) from rfl) dX12_isEven_18 (fun v6 (ev6 : v6 = M 132 5) av6 bv6 => ?_)
      have zv6 : v4 = v6 := ev4.trans ev6.symm
      subst zv6
      refine z_iconst F dX12_isEven_19 ?_
      refine z_icmp_ne (tgt := 27) F dX12_isEven_20 (by decide +kernel) (by omega) (by omega) (fun c7 => ?_) (fun c7 => ?_)
      · refine z_iconst F dX12_isEven_27 ?_
        refine z_goto (tgt := 42) F dX12_isEven_28 (by decide +kernel) ?_
        exact hret _ _ 42 _ ⟨by omega, by omega⟩ ⟨hI, hW⟩ ⟨⟨by omega, by omega⟩, rfl⟩ dX12_isEven_42
      · refine z_iconst F dX12_isEven_23 ?_
        refine z_goto (tgt := 42) F dX12_isEven_24 (by decide +kernel) ?_
        exact hret _ _ 42 _ ⟨by omega, by omega⟩ ⟨hI, hW⟩ ⟨⟨by omega, by omega⟩, rfl⟩ dX12_isEven_42
set_option maxRecDepth 4000 in
theorem k_X12_bound (l : Launch) (M : Mem) (hJ : Iw M) (x0 : Int) (hx0a : (-9223372036854775808) ≤ x0) (hx0b : x0 ≤ 9223372036854775807) : CI l yX12_bound cX12_bound 2 (some .int) 1 (fun ad => [ll x0]) M (fun z M' => ((-1000000) ≤ z ∧ z ≤ 1000000) ∧ M = M') := by
  obtain ⟨hI, hW⟩ := hJ
  refine en_i (by decide +kernel) (fun ad => by exact Nat.le_of_ble_eq_true rfl) (fun D cy ad A p e s m args below meth c Q F hret => ?_)
  refine z_eq (ls' := [(0, ll x0)]) rfl rfl rfl ?_
  refine z_ldc2 (x := (-1000000)) F dX12_bound_0 (gin lm_23 rfl) (by decide +kernel) ?_
  refine z_ldc2 (x := 1000000) F dX12_bound_3 (gin lm_24 rfl) (by decide +kernel) ?_
  refine z_lload_n F dX12_bound_6 rfl (q := 0) rfl ?_
  refine z_minl F mm_X12_282 (Nat.le_of_ble_eq_true rfl) dX12_bound_7 (by omega) (by omega) (fun v1 ev1 => ?_)
  refine z_maxl F mm_X12_288 (Nat.le_of_ble_eq_true rfl) dX12_bound_10 (by omega) (by omega) (fun v2 ev2 => ?_)
  refine z_l2i F dX12_bound_13 (by omega) ?_
  exact hret _ _ 14 _ (by omega) ⟨hI, hW⟩ ⟨⟨by omega, by omega⟩, rfl⟩ dX12_bound_14
set_option maxRecDepth 4000 in
theorem k_X12_done (l : Launch) (M : Mem) (hJ : Iw M) (x0 : Int) (hx0a : (-2147483648) ≤ x0) (hx0b : x0 ≤ 2147483647) (x1 : Int) (hx1a : (-2147483648) ≤ x1) (hx1b : x1 ≤ 2147483647) (x2 : Int) (hx2a : (-2147483648) ≤ x2) (hx2b : x2 ≤ 2147483647) : CI l yX12_done cX12_done 5 (some .int) 2 (fun ad => [ii x0, ll x1, ll x2]) M (fun z M' => ((-1000000) ≤ z ∧ z ≤ 1000000) ∧ M = M') := by
  obtain ⟨hI, hW⟩ := hJ
  refine en_i (by decide +kernel) (fun ad => by exact Nat.le_of_ble_eq_true rfl) (fun D cy ad A p e s m args below meth c Q F hret => ?_)
  refine z_eq (ls' := [(0, ii x0), (1, ll x1), (3, ll x2)]) rfl rfl rfl ?_
  refine z_iload_n F dX12_done_0 rfl (q := 0) rfl ?_
  rcases (show x0 = 10 ∨ x0 = 11 ∨ x0 = 12 ∨ x0 = 13 ∨ x0 = 14 ∨ x0 = 15 ∨ x0 = 16 ∨ (¬ x0 = 10 ∧ ¬ x0 = 11 ∧ ¬ x0 = 12 ∧ ¬ x0 = 13 ∧ ¬ x0 = 14 ∧ ¬ x0 = 15 ∧ ¬ x0 = 16) by omega) with c1 | c1 | c1 | c1 | c1 | c1 | c1 | c1
  · refine z_tabIn (tgt := 44) (off := 43) F dX12_done_1 (by omega) (by omega) (by omega) (by rw [c1]; rfl) (by decide +kernel) ?_
    refine z_lload_n F dX12_done_44 rfl (q := 1) rfl ?_
    refine z_lload_n F dX12_done_45 rfl (q := 2) rfl ?_
    refine z_ladd F dX12_done_46 ?_
    refine zs_i (rest := []) F (k_X12_bound l M ⟨hI, hW⟩ (x1 + x2) (by omega) (by omega)) cs_X12_291 (by decide) (by decide) rfl rfl rfl (Nat.le_of_ble_eq_true rfl) dX12_done_47 (fun v2 M3 rv2 hI p4 => ?_)
    obtain ⟨hI, hW⟩ := hI
    obtain ⟨⟨av2, bv2⟩, rfl⟩ := p4
    exact hret _ _ 50 _ (by omega) ⟨hI, hW⟩ ⟨⟨by omega, by omega⟩, rfl⟩ dX12_done_50
  · refine z_tabIn (tgt := 51) (off := 50) F dX12_done_1 (by omega) (by omega) (by omega) (by rw [c1]; rfl) (by decide +kernel) ?_
    refine z_lload_n F dX12_done_51 rfl (q := 1) rfl ?_
    refine z_lload_n F dX12_done_52 rfl (q := 2) rfl ?_
    refine z_lsub F dX12_done_53 ?_
    refine zs_i (rest := []) F (k_X12_bound l M ⟨hI, hW⟩ (x1 - x2) (by omega) (by omega)) cs_X12_291 (by decide) (by decide) rfl rfl rfl (Nat.le_of_ble_eq_true rfl) dX12_done_54 (fun v5 M6 rv5 hI p7 => ?_)
    obtain ⟨hI, hW⟩ := hI
    obtain ⟨⟨av5, bv5⟩, rfl⟩ := p7
    exact hret _ _ 57 _ (by omega) ⟨hI, hW⟩ ⟨⟨by omega, by omega⟩, rfl⟩ dX12_done_57
  · refine z_tabIn (tgt := 58) (off := 57) F dX12_done_1 (by omega) (by omega) (by omega) (by rw [c1]; rfl) (by decide +kernel) ?_
    refine z_lload_n F dX12_done_58 rfl (q := 1) rfl ?_
    refine z_lload_n F dX12_done_59 rfl (q := 2) rfl ?_
    refine z_lmul_r F dX12_done_60 (by omega) (by omega) (fun v8 ev8 av8 bv8 => ?_)
    refine zs_i (rest := []) F (k_X12_bound l M ⟨hI, hW⟩ v8 (by omega) (by omega)) cs_X12_291 (by decide) (by decide) rfl rfl rfl (Nat.le_of_ble_eq_true rfl) dX12_done_61 (fun v9 M10 rv9 hI p11 => ?_)
    obtain ⟨hI, hW⟩ := hI
    obtain ⟨⟨av9, bv9⟩, rfl⟩ := p11
    exact hret _ _ 64 _ (by omega) ⟨hI, hW⟩ ⟨⟨by omega, by omega⟩, rfl⟩ dX12_done_64
  · refine z_tabIn (tgt := 65) (off := 64) F dX12_done_1 (by omega) (by omega) (by omega) (by rw [c1]; rfl) (by decide +kernel) ?_
    refine z_lload_n F dX12_done_65 rfl (q := 1) rfl ?_
    refine z_lload_n F dX12_done_66 rfl (q := 2) rfl ?_
    refine z_lcmp F dX12_done_67 (by omega) (by omega) (fun v12 ev12 => ?_)
    refine z_if_ne (tgt := 75) F dX12_done_68 (by decide +kernel) (by omega) (fun c13 => ?_) (fun c13 => ?_)
    · refine z_iconst F dX12_done_75 ?_
      exact hret _ _ 76 _ (by omega) ⟨hI, hW⟩ ⟨⟨by omega, by omega⟩, rfl⟩ dX12_done_76
    · refine z_iconst F dX12_done_71 ?_
      refine z_goto (tgt := 76) F dX12_done_72 (by decide +kernel) ?_
      exact hret _ _ 76 _ (by omega) ⟨hI, hW⟩ ⟨⟨by omega, by omega⟩, rfl⟩ dX12_done_76
  · refine z_tabIn (tgt := 77) (off := 76) F dX12_done_1 (by omega) (by omega) (by omega) (by rw [c1]; rfl) (by decide +kernel) ?_
    refine z_lload_n F dX12_done_77 rfl (q := 1) rfl ?_
    refine z_lload_n F dX12_done_78 rfl (q := 2) rfl ?_
    refine z_lcmp F dX12_done_79 (by omega) (by omega) (fun v14 ev14 => ?_)
    refine z_if_ge (tgt := 87) F dX12_done_80 (by decide +kernel) (by omega) (fun c15 => ?_) (fun c15 => ?_)
    · refine z_iconst F dX12_done_87 ?_
      exact hret _ _ 88 _ (by omega) ⟨hI, hW⟩ ⟨⟨by omega, by omega⟩, rfl⟩ dX12_done_88
    · refine z_iconst F dX12_done_83 ?_
      refine z_goto (tgt := 88) F dX12_done_84 (by decide +kernel) ?_
      exact hret _ _ 88 _ (by omega) ⟨hI, hW⟩ ⟨⟨by omega, by omega⟩, rfl⟩ dX12_done_88
  · refine z_tabIn (tgt := 89) (off := 88) F dX12_done_1 (by omega) (by omega) (by omega) (by rw [c1]; rfl) (by decide +kernel) ?_
    refine z_lload_n F dX12_done_89 rfl (q := 1) rfl ?_
    refine z_lload_n F dX12_done_90 rfl (q := 2) rfl ?_
    refine z_lcmp F dX12_done_91 (by omega) (by omega) (fun v16 ev16 => ?_)
    refine z_if_le (tgt := 99) F dX12_done_92 (by decide +kernel) (by omega) (fun c17 => ?_) (fun c17 => ?_)
    · refine z_iconst F dX12_done_99 ?_
      exact hret _ _ 100 _ (by omega) ⟨hI, hW⟩ ⟨⟨by omega, by omega⟩, rfl⟩ dX12_done_100
    · refine z_iconst F dX12_done_95 ?_
      refine z_goto (tgt := 100) F dX12_done_96 (by decide +kernel) ?_
      exact hret _ _ 100 _ (by omega) ⟨hI, hW⟩ ⟨⟨by omega, by omega⟩, rfl⟩ dX12_done_100
  · refine z_tabIn (tgt := 101) (off := 100) F dX12_done_1 (by omega) (by omega) (by omega) (by rw [c1]; rfl) (by decide +kernel) ?_
    refine z_lload_n F dX12_done_101 rfl (q := 1) rfl ?_
    refine z_lload_n F dX12_done_102 rfl (q := 2) rfl ?_
    refine z_ladd F dX12_done_103 ?_
    refine z_lconst (x := 1) F dX12_done_104 (by decide +kernel) ?_
    refine z_lcmp F dX12_done_105 (by omega) (by omega) (fun v18 ev18 => ?_)
    refine z_if_le (tgt := 113) F dX12_done_106 (by decide +kernel) (by omega) (fun c19 => ?_) (fun c19 => ?_)
    · refine z_iconst F dX12_done_113 ?_
      exact hret _ _ 114 _ (by omega) ⟨hI, hW⟩ ⟨⟨by omega, by omega⟩, rfl⟩ dX12_done_114
    · refine z_iconst F dX12_done_109 ?_
      refine z_goto (tgt := 114) F dX12_done_110 (by decide +kernel) ?_
      exact hret _ _ 114 _ (by omega) ⟨hI, hW⟩ ⟨⟨by omega, by omega⟩, rfl⟩ dX12_done_114
  · refine z_tabOut (tgt := 115) F dX12_done_1 (by omega) (by omega) (by decide +kernel) ?_
    refine z_lload_n F dX12_done_115 rfl (q := 1) rfl ?_
    refine z_lload_n F dX12_done_116 rfl (q := 2) rfl ?_
    refine z_ladd F dX12_done_117 ?_
    refine z_lconst (x := 0) F dX12_done_118 (by decide +kernel) ?_
    refine z_lcmp F dX12_done_119 (by omega) (by omega) (fun v20 ev20 => ?_)
    refine z_if_le (tgt := 127) F dX12_done_120 (by decide +kernel) (by omega) (fun c21 => ?_) (fun c21 => ?_)
    · refine z_iconst F dX12_done_127 ?_
      exact hret _ _ 128 _ (by omega) ⟨hI, hW⟩ ⟨⟨by omega, by omega⟩, rfl⟩ dX12_done_128
    · refine z_iconst F dX12_done_123 ?_
      refine z_goto (tgt := 128) F dX12_done_124 (by decide +kernel) ?_
      exact hret _ _ 128 _ (by omega) ⟨hI, hW⟩ ⟨⟨by omega, by omega⟩, rfl⟩ dX12_done_128
