theorem dX12_adds_0 : decode cX12_adds 0 = .ok (.aload_n 0, 1) := by decide +kernel
theorem dX12_adds_1 : decode cX12_adds 1 = .ok (.getfield 9, 3) := by decide +kernel
theorem dX12_adds_11 : decode cX12_adds 11 = .ok (.aload_n 0, 1) := by decide +kernel
theorem dX12_adds_12 : decode cX12_adds 12 = .ok (.getfield 9, 3) := by decide +kernel
theorem dX12_adds_15 : decode cX12_adds 15 = .ok (.bipush 16, 2) := by decide +kernel
theorem dX12_adds_17 : decode cX12_adds 17 = .ok (.iload_n 1, 1) := by decide +kernel
theorem dX12_adds_18 : decode cX12_adds 18 = .ok (.iadd, 1) := by decide +kernel
theorem dX12_adds_19 : decode cX12_adds 19 = .ok (.iaload, 1) := by decide +kernel
theorem dX12_adds_20 : decode cX12_adds 20 = .ok (.iload_n 2, 1) := by decide +kernel
theorem dX12_adds_21 : decode cX12_adds 21 = .ok (.iadd, 1) := by decide +kernel
theorem dX12_adds_22 : decode cX12_adds 22 = .ok (.invokestatic 309, 3) := by decide +kernel
theorem dX12_adds_25 : decode cX12_adds 25 = .ok (.invokestatic 311, 3) := by decide +kernel
theorem dX12_adds_28 : decode cX12_adds 28 = .ok (.iastore, 1) := by decide +kernel
theorem dX12_adds_29 : decode cX12_adds 29 = .ok (.return_, 1) := by decide +kernel
theorem dX12_adds_4 : decode cX12_adds 4 = .ok (.bipush 16, 2) := by decide +kernel
theorem dX12_adds_6 : decode cX12_adds 6 = .ok (.iload_n 1, 1) := by decide +kernel
theorem dX12_adds_7 : decode cX12_adds 7 = .ok (.iadd, 1) := by decide +kernel
theorem dX12_adds_8 : decode cX12_adds 8 = .ok (.iconst 0, 1) := by decide +kernel
theorem dX12_adds_9 : decode cX12_adds 9 = .ok (.bipush 99, 2) := by decide +kernel
theorem dX12_allClashes_0 : decode cX12_allClashes 0 = .ok (.iconst 0, 1) := by decide +kernel
theorem dX12_allClashes_1 : decode cX12_allClashes 1 = .ok (.istore_n 1, 1) := by decide +kernel
theorem dX12_allClashes_12 : decode cX12_allClashes 12 = .ok (.iload_n 1, 1) := by decide +kernel
theorem dX12_allClashes_13 : decode cX12_allClashes 13 = .ok (.aload_n 0, 1) := by decide +kernel
theorem dX12_allClashes_14 : decode cX12_allClashes 14 = .ok (.iload_n 2, 1) := by decide +kernel
theorem dX12_allClashes_15 : decode cX12_allClashes 15 = .ok (.aload_n 0, 1) := by decide +kernel
theorem dX12_allClashes_16 : decode cX12_allClashes 16 = .ok (.iload_n 2, 1) := by decide +kernel
theorem dX12_allClashes_17 : decode cX12_allClashes 17 = .ok (.invokevirtual 317, 3) := by decide +kernel
theorem dX12_allClashes_2 : decode cX12_allClashes 2 = .ok (.iconst 0, 1) := by decide +kernel
theorem dX12_allClashes_20 : decode cX12_allClashes 20 = .ok (.invokevirtual 329, 3) := by decide +kernel
theorem dX12_allClashes_23 : decode cX12_allClashes 23 = .ok (.invokestatic 332, 3) := by decide +kernel
theorem dX12_allClashes_26 : decode cX12_allClashes 26 = .ok (.iadd, 1) := by decide +kernel
theorem dX12_allClashes_27 : decode cX12_allClashes 27 = .ok (.istore_n 1, 1) := by decide +kernel
theorem dX12_allClashes_28 : decode cX12_allClashes 28 = .ok (.iinc 2 1, 3) := by decide +kernel
theorem dX12_allClashes_3 : decode cX12_allClashes 3 = .ok (.istore_n 2, 1) := by decide +kernel
theorem dX12_allClashes_31 : decode cX12_allClashes 31 = .ok (.goto (-27), 3) := by decide +kernel
theorem dX12_allClashes_34 : decode cX12_allClashes 34 = .ok (.iload_n 1, 1) := by decide +kernel
theorem dX12_allClashes_35 : decode cX12_allClashes 35 = .ok (.iconst 2, 1) := by decide +kernel
theorem dX12_allClashes_36 : decode cX12_allClashes 36 = .ok (.idiv, 1) := by decide +kernel
theorem dX12_allClashes_37 : decode cX12_allClashes 37 = .ok (.ireturn, 1) := by decide +kernel
theorem dX12_allClashes_4 : decode cX12_allClashes 4 = .ok (.iload_n 2, 1) := by decide +kernel
theorem dX12_allClashes_5 : decode cX12_allClashes 5 = .ok (.aload_n 0, 1) := by decide +kernel
theorem dX12_allClashes_6 : decode cX12_allClashes 6 = .ok (.invokevirtual 275, 3) := by decide +kernel
theorem dX12_allClashes_9 : decode cX12_allClashes 9 = .ok (.if_icmp .ge 25, 3) := by decide +kernel
theorem dX12_clashAt_0 : decode cX12_clashAt 0 = .ok (.aload_n 0, 1) := by decide +kernel
theorem dX12_clashAt_1 : decode cX12_clashAt 1 = .ok (.iload_n 2, 1) := by decide +kernel
theorem dX12_clashAt_10 : decode cX12_clashAt 10 = .ok (.istore 4, 2) := by decide +kernel
theorem dX12_clashAt_12 : decode cX12_clashAt 12 = .ok (.iload 4, 2) := by decide +kernel
theorem dX12_clashAt_14 : decode cX12_clashAt 14 = .ok (.ifCond .eq 27, 3) := by decide +kernel
theorem dX12_clashAt_17 : decode cX12_clashAt 17 = .ok (.aload_n 0, 1) := by decide +kernel
theorem dX12_clashAt_18 : decode cX12_clashAt 18 = .ok (.iload_n 1, 1) := by decide +kernel
theorem dX12_clashAt_19 : decode cX12_clashAt 19 = .ok (.iload_n 3, 1) := by decide +kernel
theorem dX12_clashAt_2 : decode cX12_clashAt 2 = .ok (.aload_n 0, 1) := by decide +kernel
theorem dX12_clashAt_20 : decode cX12_clashAt 20 = .ok (.iload 4, 2) := by decide +kernel
theorem dX12_clashAt_22 : decode cX12_clashAt 22 = .ok (.iconst 2, 1) := by decide +kernel
theorem dX12_clashAt_23 : decode cX12_clashAt 23 = .ok (.if_icmp .ne 7, 3) := by decide +kernel
theorem dX12_clashAt_26 : decode cX12_clashAt 26 = .ok (.iconst 1, 1) := by decide +kernel
theorem dX12_clashAt_27 : decode cX12_clashAt 27 = .ok (.goto 4, 3) := by decide +kernel
theorem dX12_clashAt_3 : decode cX12_clashAt 3 = .ok (.iload_n 3, 1) := by decide +kernel
theorem dX12_clashAt_30 : decode cX12_clashAt 30 = .ok (.iconst 0, 1) := by decide +kernel
theorem dX12_clashAt_31 : decode cX12_clashAt 31 = .ok (.invokevirtual 322, 3) := by decide +kernel
theorem dX12_clashAt_34 : decode cX12_clashAt 34 = .ok (.ifCond .eq 7, 3) := by decide +kernel
theorem dX12_clashAt_37 : decode cX12_clashAt 37 = .ok (.iconst 1, 1) := by decide +kernel
theorem dX12_clashAt_38 : decode cX12_clashAt 38 = .ok (.goto 4, 3) := by decide +kernel
theorem dX12_clashAt_4 : decode cX12_clashAt 4 = .ok (.invokevirtual 317, 3) := by decide +kernel
theorem dX12_clashAt_41 : decode cX12_clashAt 41 = .ok (.iconst 0, 1) := by decide +kernel
theorem dX12_clashAt_42 : decode cX12_clashAt 42 = .ok (.ireturn, 1) := by decide +kernel
theorem dX12_clashAt_7 : decode cX12_clashAt 7 = .ok (.invokevirtual 320, 3) := by decide +kernel
theorem dX12_clash_0 : decode cX12_clash 0 = .ok (.aload_n 0, 1) := by decide +kernel
theorem dX12_clash_1 : decode cX12_clash 1 = .ok (.aload_n 0, 1) := by decide +kernel
theorem dX12_clash_10 : decode cX12_clash 10 = .ok (.aload_n 0, 1) := by decide +kernel
theorem dX12_clash_11 : decode cX12_clash 11 = .ok (.iload_n 2, 1) := by decide +kernel
theorem dX12_clash_12 : decode cX12_clash 12 = .ok (.i2l, 1) := by decide +kernel
theorem dX12_clash_13 : decode cX12_clash 13 = .ok (.invokevirtual 335, 3) := by decide +kernel
theorem dX12_clash_16 : decode cX12_clash 16 = .ok (.ifCond .ne 7, 3) := by decide +kernel
theorem dX12_clash_19 : decode cX12_clash 19 = .ok (.iconst 1, 1) := by decide +kernel
theorem dX12_clash_2 : decode cX12_clash 2 = .ok (.iload_n 1, 1) := by decide +kernel
theorem dX12_clash_20 : decode cX12_clash 20 = .ok (.goto 13, 3) := by decide +kernel
theorem dX12_clash_23 : decode cX12_clash 23 = .ok (.iload_n 1, 1) := by decide +kernel
theorem dX12_clash_24 : decode cX12_clash 24 = .ok (.iload_n 2, 1) := by decide +kernel
theorem dX12_clash_25 : decode cX12_clash 25 = .ok (.if_icmp .ne 7, 3) := by decide +kernel
theorem dX12_clash_28 : decode cX12_clash 28 = .ok (.iconst 2, 1) := by decide +kernel
theorem dX12_clash_29 : decode cX12_clash 29 = .ok (.goto 4, 3) := by decide +kernel
theorem dX12_clash_3 : decode cX12_clash 3 = .ok (.i2l, 1) := by decide +kernel
theorem dX12_clash_32 : decode cX12_clash 32 = .ok (.iconst 0, 1) := by decide +kernel
theorem dX12_clash_33 : decode cX12_clash 33 = .ok (.putfield 73, 3) := by decide +kernel
theorem dX12_clash_36 : decode cX12_clash 36 = .ok (.aload_n 0, 1) := by decide +kernel
theorem dX12_clash_37 : decode cX12_clash 37 = .ok (.getfield 73, 3) := by decide +kernel
theorem dX12_clash_4 : decode cX12_clash 4 = .ok (.invokevirtual 335, 3) := by decide +kernel
theorem dX12_clash_40 : decode cX12_clash 40 = .ok (.ifCond .ne 17, 3) := by decide +kernel
theorem dX12_clash_43 : decode cX12_clash 43 = .ok (.aload_n 0, 1) := by decide +kernel
theorem dX12_clash_44 : decode cX12_clash 44 = .ok (.iload_n 1, 1) := by decide +kernel
theorem dX12_clash_45 : decode cX12_clash 45 = .ok (.iload_n 2, 1) := by decide +kernel
theorem dX12_clash_46 : decode cX12_clash 46 = .ok (.iload_n 3, 1) := by decide +kernel
theorem dX12_clash_47 : decode cX12_clash 47 = .ok (.invokevirtual 322, 3) := by decide +kernel
theorem dX12_clash_50 : decode cX12_clash 50 = .ok (.ifCond .eq 7, 3) := by decide +kernel
theorem dX12_clash_53 : decode cX12_clash 53 = .ok (.iconst 1, 1) := by decide +kernel
theorem dX12_clash_54 : decode cX12_clash 54 = .ok (.goto 4, 3) := by decide +kernel
theorem dX12_clash_57 : decode cX12_clash 57 = .ok (.iconst 0, 1) := by decide +kernel
theorem dX12_clash_58 : decode cX12_clash 58 = .ok (.ireturn, 1) := by decide +kernel
theorem dX12_clash_7 : decode cX12_clash 7 = .ok (.ifCond .eq 12, 3) := by decide +kernel
theorem dX12_clashesOf_0 : decode cX12_clashesOf 0 = .ok (.iconst 0, 1) := by decide +kernel
theorem dX12_clashesOf_1 : decode cX12_clashesOf 1 = .ok (.istore_n 3, 1) := by decide +kernel
theorem dX12_clashesOf_11 : decode cX12_clashesOf 11 = .ok (.if_icmp .ge 37, 3) := by decide +kernel
theorem dX12_clashesOf_14 : decode cX12_clashesOf 14 = .ok (.iload_n 3, 1) := by decide +kernel
theorem dX12_clashesOf_15 : decode cX12_clashesOf 15 = .ok (.iload 4, 2) := by decide +kernel
theorem dX12_clashesOf_17 : decode cX12_clashesOf 17 = .ok (.iload_n 1, 1) := by decide +kernel
theorem dX12_clashesOf_18 : decode cX12_clashesOf 18 = .ok (.if_icmp .eq 21, 3) := by decide +kernel
theorem dX12_clashesOf_2 : decode cX12_clashesOf 2 = .ok (.iconst 0, 1) := by decide +kernel
theorem dX12_clashesOf_21 : decode cX12_clashesOf 21 = .ok (.aload_n 0, 1) := by decide +kernel
theorem dX12_clashesOf_22 : decode cX12_clashesOf 22 = .ok (.iload_n 1, 1) := by decide +kernel
theorem dX12_clashesOf_23 : decode cX12_clashesOf 23 = .ok (.iload_n 2, 1) := by decide +kernel
theorem dX12_clashesOf_24 : decode cX12_clashesOf 24 = .ok (.iload 4, 2) := by decide +kernel
theorem dX12_clashesOf_26 : decode cX12_clashesOf 26 = .ok (.invokevirtual 325, 3) := by decide +kernel
theorem dX12_clashesOf_29 : decode cX12_clashesOf 29 = .ok (.ifCond .eq 10, 3) := by decide +kernel
theorem dX12_clashesOf_3 : decode cX12_clashesOf 3 = .ok (.istore 4, 2) := by decide +kernel
theorem dX12_clashesOf_32 : decode cX12_clashesOf 32 = .ok (.iconst 1, 1) := by decide +kernel
theorem dX12_clashesOf_33 : decode cX12_clashesOf 33 = .ok (.iload 4, 2) := by decide +kernel
theorem dX12_clashesOf_35 : decode cX12_clashesOf 35 = .ok (.ishl, 1) := by decide +kernel
theorem dX12_clashesOf_36 : decode cX12_clashesOf 36 = .ok (.goto 4, 3) := by decide +kernel
theorem dX12_clashesOf_39 : decode cX12_clashesOf 39 = .ok (.iconst 0, 1) := by decide +kernel
theorem dX12_clashesOf_40 : decode cX12_clashesOf 40 = .ok (.ior, 1) := by decide +kernel
theorem dX12_clashesOf_41 : decode cX12_clashesOf 41 = .ok (.istore_n 3, 1) := by decide +kernel
theorem dX12_clashesOf_42 : decode cX12_clashesOf 42 = .ok (.iinc 4 1, 3) := by decide +kernel
theorem dX12_clashesOf_45 : decode cX12_clashesOf 45 = .ok (.goto (-40), 3) := by decide +kernel
theorem dX12_clashesOf_48 : decode cX12_clashesOf 48 = .ok (.iload_n 3, 1) := by decide +kernel
theorem dX12_clashesOf_49 : decode cX12_clashesOf 49 = .ok (.ireturn, 1) := by decide +kernel
theorem dX12_clashesOf_5 : decode cX12_clashesOf 5 = .ok (.iload 4, 2) := by decide +kernel
theorem dX12_clashesOf_7 : decode cX12_clashesOf 7 = .ok (.aload_n 0, 1) := by decide +kernel
theorem dX12_clashesOf_8 : decode cX12_clashesOf 8 = .ok (.invokevirtual 275, 3) := by decide +kernel
theorem dX12_clashes_0 : decode cX12_clashes 0 = .ok (.aload_n 0, 1) := by decide +kernel
theorem dX12_clashes_1 : decode cX12_clashes 1 = .ok (.iconst 0, 1) := by decide +kernel
theorem dX12_clashes_2 : decode cX12_clashes 2 = .ok (.putfield 73, 3) := by decide +kernel
theorem dX12_clashes_5 : decode cX12_clashes 5 = .ok (.aload_n 0, 1) := by decide +kernel
theorem dX12_clashes_6 : decode cX12_clashes 6 = .ok (.invokevirtual 352, 3) := by decide +kernel
theorem dX12_clashes_9 : decode cX12_clashes 9 = .ok (.ireturn, 1) := by decide +kernel
theorem dX12_eventBehind_0 : decode cX12_eventBehind 0 = .ok (.iconst (-1), 1) := by decide +kernel
theorem dX12_eventBehind_1 : decode cX12_eventBehind 1 = .ok (.istore_n 2, 1) := by decide +kernel
theorem dX12_eventBehind_10 : decode cX12_eventBehind 10 = .ok (.iaload, 1) := by decide +kernel
theorem dX12_eventBehind_100 : decode cX12_eventBehind 100 = .ok (.iload_n 3, 1) := by decide +kernel
theorem dX12_eventBehind_101 : decode cX12_eventBehind 101 = .ok (.istore_n 2, 1) := by decide +kernel
theorem dX12_eventBehind_102 : decode cX12_eventBehind 102 = .ok (.iinc 3 1, 3) := by decide +kernel
theorem dX12_eventBehind_105 : decode cX12_eventBehind 105 = .ok (.goto (-101), 3) := by decide +kernel
theorem dX12_eventBehind_108 : decode cX12_eventBehind 108 = .ok (.iload_n 2, 1) := by decide +kernel
theorem dX12_eventBehind_109 : decode cX12_eventBehind 109 = .ok (.ireturn, 1) := by decide +kernel
theorem dX12_eventBehind_11 : decode cX12_eventBehind 11 = .ok (.if_icmp .ge 97, 3) := by decide +kernel
theorem dX12_eventBehind_14 : decode cX12_eventBehind 14 = .ok (.iload_n 1, 1) := by decide +kernel
theorem dX12_eventBehind_15 : decode cX12_eventBehind 15 = .ok (.iconst (-1), 1) := by decide +kernel
theorem dX12_eventBehind_16 : decode cX12_eventBehind 16 = .ok (.if_icmp .ne 7, 3) := by decide +kernel
theorem dX12_eventBehind_19 : decode cX12_eventBehind 19 = .ok (.iconst 1, 1) := by decide +kernel
theorem dX12_eventBehind_2 : decode cX12_eventBehind 2 = .ok (.iconst 0, 1) := by decide +kernel
theorem dX12_eventBehind_20 : decode cX12_eventBehind 20 = .ok (.goto 28, 3) := by decide +kernel
theorem dX12_eventBehind_23 : decode cX12_eventBehind 23 = .ok (.aload_n 0, 1) := by decide +kernel
theorem dX12_eventBehind_24 : decode cX12_eventBehind 24 = .ok (.getfield 9, 3) := by decide +kernel
theorem dX12_eventBehind_27 : decode cX12_eventBehind 27 = .ok (.sipush 150, 3) := by decide +kernel
theorem dX12_eventBehind_3 : decode cX12_eventBehind 3 = .ok (.istore_n 3, 1) := by decide +kernel
theorem dX12_eventBehind_30 : decode cX12_eventBehind 30 = .ok (.iconst 3, 1) := by decide +kernel
theorem dX12_eventBehind_31 : decode cX12_eventBehind 31 = .ok (.iload_n 3, 1) := by decide +kernel
theorem dX12_eventBehind_32 : decode cX12_eventBehind 32 = .ok (.imul, 1) := by decide +kernel
theorem dX12_eventBehind_33 : decode cX12_eventBehind 33 = .ok (.iadd, 1) := by decide +kernel
theorem dX12_eventBehind_34 : decode cX12_eventBehind 34 = .ok (.iaload, 1) := by decide +kernel
theorem dX12_eventBehind_35 : decode cX12_eventBehind 35 = .ok (.aload_n 0, 1) := by decide +kernel
theorem dX12_eventBehind_36 : decode cX12_eventBehind 36 = .ok (.getfield 9, 3) := by decide +kernel
theorem dX12_eventBehind_39 : decode cX12_eventBehind 39 = .ok (.sipush 150, 3) := by decide +kernel
theorem dX12_eventBehind_4 : decode cX12_eventBehind 4 = .ok (.iload_n 3, 1) := by decide +kernel
theorem dX12_eventBehind_42 : decode cX12_eventBehind 42 = .ok (.iconst 3, 1) := by decide +kernel
theorem dX12_eventBehind_43 : decode cX12_eventBehind 43 = .ok (.iload_n 1, 1) := by decide +kernel
theorem dX12_eventBehind_44 : decode cX12_eventBehind 44 = .ok (.imul, 1) := by decide +kernel
theorem dX12_eventBehind_45 : decode cX12_eventBehind 45 = .ok (.iadd, 1) := by decide +kernel
theorem dX12_eventBehind_46 : decode cX12_eventBehind 46 = .ok (.iaload, 1) := by decide +kernel
theorem dX12_eventBehind_47 : decode cX12_eventBehind 47 = .ok (.isub, 1) := by decide +kernel
theorem dX12_eventBehind_48 : decode cX12_eventBehind 48 = .ok (.istore 4, 2) := by decide +kernel
theorem dX12_eventBehind_5 : decode cX12_eventBehind 5 = .ok (.aload_n 0, 1) := by decide +kernel
theorem dX12_eventBehind_50 : decode cX12_eventBehind 50 = .ok (.iload 4, 2) := by decide +kernel
theorem dX12_eventBehind_52 : decode cX12_eventBehind 52 = .ok (.ifCond .lt 50, 3) := by decide +kernel
theorem dX12_eventBehind_55 : decode cX12_eventBehind 55 = .ok (.iload 4, 2) := by decide +kernel
theorem dX12_eventBehind_57 : decode cX12_eventBehind 57 = .ok (.ifCond .ne 11, 3) := by decide +kernel
theorem dX12_eventBehind_6 : decode cX12_eventBehind 6 = .ok (.getfield 9, 3) := by decide +kernel
theorem dX12_eventBehind_60 : decode cX12_eventBehind 60 = .ok (.iload_n 3, 1) := by decide +kernel
theorem dX12_eventBehind_61 : decode cX12_eventBehind 61 = .ok (.iload_n 1, 1) := by decide +kernel
theorem dX12_eventBehind_62 : decode cX12_eventBehind 62 = .ok (.if_icmp .gt 6, 3) := by decide +kernel
theorem dX12_eventBehind_65 : decode cX12_eventBehind 65 = .ok (.goto 37, 3) := by decide +kernel
theorem dX12_eventBehind_68 : decode cX12_eventBehind 68 = .ok (.iload_n 2, 1) := by decide +kernel
theorem dX12_eventBehind_69 : decode cX12_eventBehind 69 = .ok (.iconst (-1), 1) := by decide +kernel
theorem dX12_eventBehind_70 : decode cX12_eventBehind 70 = .ok (.if_icmp .eq 30, 3) := by decide +kernel
theorem dX12_eventBehind_73 : decode cX12_eventBehind 73 = .ok (.aload_n 0, 1) := by decide +kernel
theorem dX12_eventBehind_74 : decode cX12_eventBehind 74 = .ok (.getfield 9, 3) := by decide +kernel
theorem dX12_eventBehind_77 : decode cX12_eventBehind 77 = .ok (.sipush 150, 3) := by decide +kernel
theorem dX12_eventBehind_80 : decode cX12_eventBehind 80 = .ok (.iconst 3, 1) := by decide +kernel
theorem dX12_eventBehind_81 : decode cX12_eventBehind 81 = .ok (.iload_n 3, 1) := by decide +kernel
theorem dX12_eventBehind_82 : decode cX12_eventBehind 82 = .ok (.imul, 1) := by decide +kernel
theorem dX12_eventBehind_83 : decode cX12_eventBehind 83 = .ok (.iadd, 1) := by decide +kernel
theorem dX12_eventBehind_84 : decode cX12_eventBehind 84 = .ok (.iaload, 1) := by decide +kernel
theorem dX12_eventBehind_85 : decode cX12_eventBehind 85 = .ok (.aload_n 0, 1) := by decide +kernel
theorem dX12_eventBehind_86 : decode cX12_eventBehind 86 = .ok (.getfield 9, 3) := by decide +kernel
theorem dX12_eventBehind_89 : decode cX12_eventBehind 89 = .ok (.sipush 150, 3) := by decide +kernel
theorem dX12_eventBehind_9 : decode cX12_eventBehind 9 = .ok (.iconst 4, 1) := by decide +kernel
theorem dX12_eventBehind_92 : decode cX12_eventBehind 92 = .ok (.iconst 3, 1) := by decide +kernel
theorem dX12_eventBehind_93 : decode cX12_eventBehind 93 = .ok (.iload_n 2, 1) := by decide +kernel
theorem dX12_eventBehind_94 : decode cX12_eventBehind 94 = .ok (.imul, 1) := by decide +kernel
theorem dX12_eventBehind_95 : decode cX12_eventBehind 95 = .ok (.iadd, 1) := by decide +kernel
theorem dX12_eventBehind_96 : decode cX12_eventBehind 96 = .ok (.iaload, 1) := by decide +kernel
theorem dX12_eventBehind_97 : decode cX12_eventBehind 97 = .ok (.if_icmp .ge 5, 3) := by decide +kernel
theorem dX12_firstClash_0 : decode cX12_firstClash 0 = .ok (.aload_n 0, 1) := by decide +kernel
theorem dX12_firstClash_1 : decode cX12_firstClash 1 = .ok (.iconst 0, 1) := by decide +kernel
theorem dX12_firstClash_2 : decode cX12_firstClash 2 = .ok (.putfield 73, 3) := by decide +kernel
theorem dX12_firstClash_5 : decode cX12_firstClash 5 = .ok (.aload_n 0, 1) := by decide +kernel
theorem dX12_firstClash_6 : decode cX12_firstClash 6 = .ok (.invokevirtual 355, 3) := by decide +kernel
theorem dX12_firstClash_9 : decode cX12_firstClash 9 = .ok (.ireturn, 1) := by decide +kernel
theorem dX12_firstOf_0 : decode cX12_firstOf 0 = .ok (.iconst 0, 1) := by decide +kernel
theorem dX12_firstOf_1 : decode cX12_firstOf 1 = .ok (.istore_n 1, 1) := by decide +kernel
theorem dX12_firstOf_10 : decode cX12_firstOf 10 = .ok (.iload_n 1, 1) := by decide +kernel
theorem dX12_firstOf_11 : decode cX12_firstOf 11 = .ok (.iconst 1, 1) := by decide +kernel
theorem dX12_firstOf_12 : decode cX12_firstOf 12 = .ok (.iadd, 1) := by decide +kernel
theorem dX12_firstOf_13 : decode cX12_firstOf 13 = .ok (.istore_n 2, 1) := by decide +kernel
theorem dX12_firstOf_14 : decode cX12_firstOf 14 = .ok (.iload_n 2, 1) := by decide +kernel
theorem dX12_firstOf_15 : decode cX12_firstOf 15 = .ok (.aload_n 0, 1) := by decide +kernel
theorem dX12_firstOf_16 : decode cX12_firstOf 16 = .ok (.invokevirtual 275, 3) := by decide +kernel
theorem dX12_firstOf_19 : decode cX12_firstOf 19 = .ok (.if_icmp .ge 30, 3) := by decide +kernel
theorem dX12_firstOf_2 : decode cX12_firstOf 2 = .ok (.iload_n 1, 1) := by decide +kernel
theorem dX12_firstOf_22 : decode cX12_firstOf 22 = .ok (.aload_n 0, 1) := by decide +kernel
theorem dX12_firstOf_23 : decode cX12_firstOf 23 = .ok (.iload_n 1, 1) := by decide +kernel
theorem dX12_firstOf_24 : decode cX12_firstOf 24 = .ok (.aload_n 0, 1) := by decide +kernel
theorem dX12_firstOf_25 : decode cX12_firstOf 25 = .ok (.iload_n 1, 1) := by decide +kernel
theorem dX12_firstOf_26 : decode cX12_firstOf 26 = .ok (.invokevirtual 317, 3) := by decide +kernel
theorem dX12_firstOf_29 : decode cX12_firstOf 29 = .ok (.iload_n 2, 1) := by decide +kernel
theorem dX12_firstOf_3 : decode cX12_firstOf 3 = .ok (.aload_n 0, 1) := by decide +kernel
theorem dX12_firstOf_30 : decode cX12_firstOf 30 = .ok (.invokevirtual 325, 3) := by decide +kernel
theorem dX12_firstOf_33 : decode cX12_firstOf 33 = .ok (.ifCond .eq 10, 3) := by decide +kernel
theorem dX12_firstOf_36 : decode cX12_firstOf 36 = .ok (.bipush 10, 2) := by decide +kernel
theorem dX12_firstOf_38 : decode cX12_firstOf 38 = .ok (.iload_n 1, 1) := by decide +kernel
theorem dX12_firstOf_39 : decode cX12_firstOf 39 = .ok (.imul, 1) := by decide +kernel
theorem dX12_firstOf_4 : decode cX12_firstOf 4 = .ok (.invokevirtual 275, 3) := by decide +kernel
theorem dX12_firstOf_40 : decode cX12_firstOf 40 = .ok (.iload_n 2, 1) := by decide +kernel
theorem dX12_firstOf_41 : decode cX12_firstOf 41 = .ok (.iadd, 1) := by decide +kernel
theorem dX12_firstOf_42 : decode cX12_firstOf 42 = .ok (.ireturn, 1) := by decide +kernel
theorem dX12_firstOf_43 : decode cX12_firstOf 43 = .ok (.iinc 2 1, 3) := by decide +kernel
theorem dX12_firstOf_46 : decode cX12_firstOf 46 = .ok (.goto (-32), 3) := by decide +kernel
theorem dX12_firstOf_49 : decode cX12_firstOf 49 = .ok (.iinc 1 1, 3) := by decide +kernel
theorem dX12_firstOf_52 : decode cX12_firstOf 52 = .ok (.goto (-50), 3) := by decide +kernel
theorem dX12_firstOf_55 : decode cX12_firstOf 55 = .ok (.iconst (-1), 1) := by decide +kernel
theorem dX12_firstOf_56 : decode cX12_firstOf 56 = .ok (.ireturn, 1) := by decide +kernel
theorem dX12_firstOf_7 : decode cX12_firstOf 7 = .ok (.if_icmp .ge 48, 3) := by decide +kernel
theorem dX12_goesDay_0 : decode cX12_goesDay 0 = .ok (.aload_n 0, 1) := by decide +kernel
theorem dX12_goesDay_1 : decode cX12_goesDay 1 = .ok (.getfield 9, 3) := by decide +kernel
theorem dX12_goesDay_10 : decode cX12_goesDay 10 = .ok (.invokevirtual 364, 3) := by decide +kernel
theorem dX12_goesDay_100 : decode cX12_goesDay 100 = .ok (.invokevirtual 361, 3) := by decide +kernel
theorem dX12_goesDay_103 : decode cX12_goesDay 103 = .ok (.return_, 1) := by decide +kernel
theorem dX12_goesDay_13 : decode cX12_goesDay 13 = .ok (.istore_n 2, 1) := by decide +kernel
theorem dX12_goesDay_14 : decode cX12_goesDay 14 = .ok (.iload_n 2, 1) := by decide +kernel
theorem dX12_goesDay_15 : decode cX12_goesDay 15 = .ok (.iconst (-1), 1) := by decide +kernel
theorem dX12_goesDay_16 : decode cX12_goesDay 16 = .ok (.if_icmp .eq 70, 3) := by decide +kernel
theorem dX12_goesDay_19 : decode cX12_goesDay 19 = .ok (.aload_n 0, 1) := by decide +kernel
theorem dX12_goesDay_20 : decode cX12_goesDay 20 = .ok (.iload_n 1, 1) := by decide +kernel
theorem dX12_goesDay_21 : decode cX12_goesDay 21 = .ok (.aload_n 0, 1) := by decide +kernel
theorem dX12_goesDay_22 : decode cX12_goesDay 22 = .ok (.getfield 9, 3) := by decide +kernel
theorem dX12_goesDay_25 : decode cX12_goesDay 25 = .ok (.sipush 150, 3) := by decide +kernel
theorem dX12_goesDay_28 : decode cX12_goesDay 28 = .ok (.iconst 3, 1) := by decide +kernel
theorem dX12_goesDay_29 : decode cX12_goesDay 29 = .ok (.iload_n 2, 1) := by decide +kernel
theorem dX12_goesDay_30 : decode cX12_goesDay 30 = .ok (.imul, 1) := by decide +kernel
theorem dX12_goesDay_31 : decode cX12_goesDay 31 = .ok (.iadd, 1) := by decide +kernel
theorem dX12_goesDay_32 : decode cX12_goesDay 32 = .ok (.iaload, 1) := by decide +kernel
theorem dX12_goesDay_33 : decode cX12_goesDay 33 = .ok (.iadd, 1) := by decide +kernel
theorem dX12_goesDay_34 : decode cX12_goesDay 34 = .ok (.aload_n 0, 1) := by decide +kernel
theorem dX12_goesDay_35 : decode cX12_goesDay 35 = .ok (.getfield 9, 3) := by decide +kernel
theorem dX12_goesDay_38 : decode cX12_goesDay 38 = .ok (.bipush 24, 2) := by decide +kernel
theorem dX12_goesDay_4 : decode cX12_goesDay 4 = .ok (.bipush 24, 2) := by decide +kernel
theorem dX12_goesDay_40 : decode cX12_goesDay 40 = .ok (.iaload, 1) := by decide +kernel
theorem dX12_goesDay_41 : decode cX12_goesDay 41 = .ok (.isub, 1) := by decide +kernel
theorem dX12_goesDay_42 : decode cX12_goesDay 42 = .ok (.invokevirtual 361, 3) := by decide +kernel
theorem dX12_goesDay_45 : decode cX12_goesDay 45 = .ok (.aload_n 0, 1) := by decide +kernel
theorem dX12_goesDay_46 : decode cX12_goesDay 46 = .ok (.aload_n 0, 1) := by decide +kernel
theorem dX12_goesDay_47 : decode cX12_goesDay 47 = .ok (.getfield 9, 3) := by decide +kernel
theorem dX12_goesDay_50 : decode cX12_goesDay 50 = .ok (.sipush 150, 3) := by decide +kernel
theorem dX12_goesDay_53 : decode cX12_goesDay 53 = .ok (.iconst 3, 1) := by decide +kernel
theorem dX12_goesDay_54 : decode cX12_goesDay 54 = .ok (.iload_n 2, 1) := by decide +kernel
theorem dX12_goesDay_55 : decode cX12_goesDay 55 = .ok (.imul, 1) := by decide +kernel
theorem dX12_goesDay_56 : decode cX12_goesDay 56 = .ok (.iadd, 1) := by decide +kernel
theorem dX12_goesDay_57 : decode cX12_goesDay 57 = .ok (.iconst 1, 1) := by decide +kernel
theorem dX12_goesDay_58 : decode cX12_goesDay 58 = .ok (.iadd, 1) := by decide +kernel
theorem dX12_goesDay_59 : decode cX12_goesDay 59 = .ok (.iaload, 1) := by decide +kernel
theorem dX12_goesDay_6 : decode cX12_goesDay 6 = .ok (.iaload, 1) := by decide +kernel
theorem dX12_goesDay_60 : decode cX12_goesDay 60 = .ok (.aload_n 0, 1) := by decide +kernel
theorem dX12_goesDay_61 : decode cX12_goesDay 61 = .ok (.getfield 9, 3) := by decide +kernel
theorem dX12_goesDay_64 : decode cX12_goesDay 64 = .ok (.sipush 150, 3) := by decide +kernel
theorem dX12_goesDay_67 : decode cX12_goesDay 67 = .ok (.iconst 3, 1) := by decide +kernel
theorem dX12_goesDay_68 : decode cX12_goesDay 68 = .ok (.iload_n 2, 1) := by decide +kernel
theorem dX12_goesDay_69 : decode cX12_goesDay 69 = .ok (.imul, 1) := by decide +kernel
theorem dX12_goesDay_7 : decode cX12_goesDay 7 = .ok (.istore_n 1, 1) := by decide +kernel
theorem dX12_goesDay_70 : decode cX12_goesDay 70 = .ok (.iadd, 1) := by decide +kernel
theorem dX12_goesDay_71 : decode cX12_goesDay 71 = .ok (.iconst 2, 1) := by decide +kernel
theorem dX12_goesDay_72 : decode cX12_goesDay 72 = .ok (.iadd, 1) := by decide +kernel
theorem dX12_goesDay_73 : decode cX12_goesDay 73 = .ok (.iaload, 1) := by decide +kernel
theorem dX12_goesDay_74 : decode cX12_goesDay 74 = .ok (.invokevirtual 367, 3) := by decide +kernel
theorem dX12_goesDay_77 : decode cX12_goesDay 77 = .ok (.aload_n 0, 1) := by decide +kernel
theorem dX12_goesDay_78 : decode cX12_goesDay 78 = .ok (.iload_n 2, 1) := by decide +kernel
theorem dX12_goesDay_79 : decode cX12_goesDay 79 = .ok (.invokevirtual 364, 3) := by decide +kernel
theorem dX12_goesDay_8 : decode cX12_goesDay 8 = .ok (.aload_n 0, 1) := by decide +kernel
theorem dX12_goesDay_82 : decode cX12_goesDay 82 = .ok (.istore_n 2, 1) := by decide +kernel
theorem dX12_goesDay_83 : decode cX12_goesDay 83 = .ok (.goto (-69), 3) := by decide +kernel
theorem dX12_goesDay_86 : decode cX12_goesDay 86 = .ok (.aload_n 0, 1) := by decide +kernel
theorem dX12_goesDay_87 : decode cX12_goesDay 87 = .ok (.iload_n 1, 1) := by decide +kernel
theorem dX12_goesDay_88 : decode cX12_goesDay 88 = .ok (.sipush 1000, 3) := by decide +kernel
theorem dX12_goesDay_9 : decode cX12_goesDay 9 = .ok (.iconst (-1), 1) := by decide +kernel
theorem dX12_goesDay_91 : decode cX12_goesDay 91 = .ok (.iadd, 1) := by decide +kernel
theorem dX12_goesDay_92 : decode cX12_goesDay 92 = .ok (.aload_n 0, 1) := by decide +kernel
theorem dX12_goesDay_93 : decode cX12_goesDay 93 = .ok (.getfield 9, 3) := by decide +kernel
theorem dX12_goesDay_96 : decode cX12_goesDay 96 = .ok (.bipush 24, 2) := by decide +kernel
theorem dX12_goesDay_98 : decode cX12_goesDay 98 = .ok (.iaload, 1) := by decide +kernel
theorem dX12_goesDay_99 : decode cX12_goesDay 99 = .ok (.isub, 1) := by decide +kernel
theorem dX12_goesOn_0 : decode cX12_goesOn 0 = .ok (.aload_n 0, 1) := by decide +kernel
theorem dX12_goesOn_1 : decode cX12_goesOn 1 = .ok (.getfield 9, 3) := by decide +kernel
theorem dX12_goesOn_10 : decode cX12_goesOn 10 = .ok (.invokevirtual 352, 3) := by decide +kernel
theorem dX12_goesOn_13 : decode cX12_goesOn 13 = .ok (.imul, 1) := by decide +kernel
theorem dX12_goesOn_14 : decode cX12_goesOn 14 = .ok (.iadd, 1) := by decide +kernel
theorem dX12_goesOn_15 : decode cX12_goesOn 15 = .ok (.iastore, 1) := by decide +kernel
theorem dX12_goesOn_16 : decode cX12_goesOn 16 = .ok (.aload_n 0, 1) := by decide +kernel
theorem dX12_goesOn_17 : decode cX12_goesOn 17 = .ok (.getfield 9, 3) := by decide +kernel
theorem dX12_goesOn_20 : decode cX12_goesOn 20 = .ok (.bipush 24, 2) := by decide +kernel
theorem dX12_goesOn_22 : decode cX12_goesOn 22 = .ok (.dup2, 1) := by decide +kernel
theorem dX12_goesOn_23 : decode cX12_goesOn 23 = .ok (.iaload, 1) := by decide +kernel
theorem dX12_goesOn_24 : decode cX12_goesOn 24 = .ok (.iload_n 1, 1) := by decide +kernel
theorem dX12_goesOn_25 : decode cX12_goesOn 25 = .ok (.iadd, 1) := by decide +kernel
theorem dX12_goesOn_26 : decode cX12_goesOn 26 = .ok (.iastore, 1) := by decide +kernel
theorem dX12_goesOn_27 : decode cX12_goesOn 27 = .ok (.return_, 1) := by decide +kernel
theorem dX12_goesOn_4 : decode cX12_goesOn 4 = .ok (.bipush 25, 2) := by decide +kernel
theorem dX12_goesOn_6 : decode cX12_goesOn 6 = .ok (.dup2, 1) := by decide +kernel
theorem dX12_goesOn_7 : decode cX12_goesOn 7 = .ok (.iaload, 1) := by decide +kernel
theorem dX12_goesOn_8 : decode cX12_goesOn 8 = .ok (.iload_n 1, 1) := by decide +kernel
theorem dX12_goesOn_9 : decode cX12_goesOn 9 = .ok (.aload_n 0, 1) := by decide +kernel
theorem dX12_holds_0 : decode cX12_holds 0 = .ok (.iconst 0, 1) := by decide +kernel
theorem dX12_holds_1 : decode cX12_holds 1 = .ok (.istore 4, 2) := by decide +kernel
theorem dX12_holds_100 : decode cX12_holds 100 = .ok (.iload 4, 2) := by decide +kernel
theorem dX12_holds_102 : decode cX12_holds 102 = .ok (.iconst 1, 1) := by decide +kernel
theorem dX12_holds_103 : decode cX12_holds 103 = .ok (.isub, 1) := by decide +kernel
theorem dX12_holds_104 : decode cX12_holds 104 = .ok (.iaload, 1) := by decide +kernel
theorem dX12_holds_105 : decode cX12_holds 105 = .ok (.isub, 1) := by decide +kernel
theorem dX12_holds_106 : decode cX12_holds 106 = .ok (.iastore, 1) := by decide +kernel
theorem dX12_holds_107 : decode cX12_holds 107 = .ok (.goto 38, 3) := by decide +kernel
theorem dX12_holds_110 : decode cX12_holds 110 = .ok (.iinc 4 (-1), 3) := by decide +kernel
theorem dX12_holds_113 : decode cX12_holds 113 = .ok (.aload_n 0, 1) := by decide +kernel
theorem dX12_holds_114 : decode cX12_holds 114 = .ok (.getfield 30, 3) := by decide +kernel
theorem dX12_holds_117 : decode cX12_holds 117 = .ok (.iload 4, 2) := by decide +kernel
theorem dX12_holds_119 : decode cX12_holds 119 = .ok (.iconst 1, 1) := by decide +kernel
theorem dX12_holds_12 : decode cX12_holds 12 = .ok (.bipush 6, 2) := by decide +kernel
theorem dX12_holds_120 : decode cX12_holds 120 = .ok (.isub, 1) := by decide +kernel
theorem dX12_holds_121 : decode cX12_holds 121 = .ok (.iload 6, 2) := by decide +kernel
theorem dX12_holds_123 : decode cX12_holds 123 = .ok (.aload_n 0, 1) := by decide +kernel
theorem dX12_holds_124 : decode cX12_holds 124 = .ok (.getfield 30, 3) := by decide +kernel
theorem dX12_holds_127 : decode cX12_holds 127 = .ok (.iload 4, 2) := by decide +kernel
theorem dX12_holds_129 : decode cX12_holds 129 = .ok (.iconst 1, 1) := by decide +kernel
theorem dX12_holds_130 : decode cX12_holds 130 = .ok (.isub, 1) := by decide +kernel
theorem dX12_holds_131 : decode cX12_holds 131 = .ok (.iaload, 1) := by decide +kernel
theorem dX12_holds_132 : decode cX12_holds 132 = .ok (.i2l, 1) := by decide +kernel
theorem dX12_holds_133 : decode cX12_holds 133 = .ok (.aload_n 0, 1) := by decide +kernel
theorem dX12_holds_134 : decode cX12_holds 134 = .ok (.getfield 30, 3) := by decide +kernel
theorem dX12_holds_137 : decode cX12_holds 137 = .ok (.iload 4, 2) := by decide +kernel
theorem dX12_holds_139 : decode cX12_holds 139 = .ok (.iaload, 1) := by decide +kernel
theorem dX12_holds_14 : decode cX12_holds 14 = .ok (.iaload, 1) := by decide +kernel
theorem dX12_holds_140 : decode cX12_holds 140 = .ok (.i2l, 1) := by decide +kernel
theorem dX12_holds_141 : decode cX12_holds 141 = .ok (.invokestatic 305, 3) := by decide +kernel
theorem dX12_holds_144 : decode cX12_holds 144 = .ok (.iastore, 1) := by decide +kernel
theorem dX12_holds_145 : decode cX12_holds 145 = .ok (.iinc 5 1, 3) := by decide +kernel
theorem dX12_holds_148 : decode cX12_holds 148 = .ok (.goto (-142), 3) := by decide +kernel
theorem dX12_holds_15 : decode cX12_holds 15 = .ok (.if_icmp .ge 136, 3) := by decide +kernel
theorem dX12_holds_151 : decode cX12_holds 151 = .ok (.aload_n 0, 1) := by decide +kernel
theorem dX12_holds_152 : decode cX12_holds 152 = .ok (.getfield 30, 3) := by decide +kernel
theorem dX12_holds_155 : decode cX12_holds 155 = .ok (.iconst 0, 1) := by decide +kernel
theorem dX12_holds_156 : decode cX12_holds 156 = .ok (.iaload, 1) := by decide +kernel
theorem dX12_holds_157 : decode cX12_holds 157 = .ok (.iconst 1, 1) := by decide +kernel
theorem dX12_holds_158 : decode cX12_holds 158 = .ok (.if_icmp .ne 7, 3) := by decide +kernel
theorem dX12_holds_161 : decode cX12_holds 161 = .ok (.iconst 1, 1) := by decide +kernel
theorem dX12_holds_162 : decode cX12_holds 162 = .ok (.goto 4, 3) := by decide +kernel
theorem dX12_holds_165 : decode cX12_holds 165 = .ok (.iconst 0, 1) := by decide +kernel
theorem dX12_holds_166 : decode cX12_holds 166 = .ok (.ireturn, 1) := by decide +kernel
theorem dX12_holds_18 : decode cX12_holds 18 = .ok (.aload_n 0, 1) := by decide +kernel
theorem dX12_holds_19 : decode cX12_holds 19 = .ok (.getfield 9, 3) := by decide +kernel
theorem dX12_holds_22 : decode cX12_holds 22 = .ok (.sipush 384, 3) := by decide +kernel
theorem dX12_holds_25 : decode cX12_holds 25 = .ok (.iload 5, 2) := by decide +kernel
theorem dX12_holds_27 : decode cX12_holds 27 = .ok (.iadd, 1) := by decide +kernel
theorem dX12_holds_28 : decode cX12_holds 28 = .ok (.iaload, 1) := by decide +kernel
theorem dX12_holds_29 : decode cX12_holds 29 = .ok (.istore 6, 2) := by decide +kernel
theorem dX12_holds_3 : decode cX12_holds 3 = .ok (.iconst 0, 1) := by decide +kernel
theorem dX12_holds_31 : decode cX12_holds 31 = .ok (.iload 6, 2) := by decide +kernel
theorem dX12_holds_33 : decode cX12_holds 33 = .ok (.bipush 100, 2) := by decide +kernel
theorem dX12_holds_35 : decode cX12_holds 35 = .ok (.if_icmp .lt 45, 3) := by decide +kernel
theorem dX12_holds_38 : decode cX12_holds 38 = .ok (.aload_n 0, 1) := by decide +kernel
theorem dX12_holds_39 : decode cX12_holds 39 = .ok (.getfield 30, 3) := by decide +kernel
theorem dX12_holds_4 : decode cX12_holds 4 = .ok (.istore 5, 2) := by decide +kernel
theorem dX12_holds_42 : decode cX12_holds 42 = .ok (.iload 4, 2) := by decide +kernel
theorem dX12_holds_44 : decode cX12_holds 44 = .ok (.iload 6, 2) := by decide +kernel
theorem dX12_holds_46 : decode cX12_holds 46 = .ok (.sipush 1000, 3) := by decide +kernel
theorem dX12_holds_49 : decode cX12_holds 49 = .ok (.if_icmp .lt 12, 3) := by decide +kernel
theorem dX12_holds_52 : decode cX12_holds 52 = .ok (.iload 6, 2) := by decide +kernel
theorem dX12_holds_54 : decode cX12_holds 54 = .ok (.sipush 1000, 3) := by decide +kernel
theorem dX12_holds_57 : decode cX12_holds 57 = .ok (.isub, 1) := by decide +kernel
theorem dX12_holds_58 : decode cX12_holds 58 = .ok (.goto 15, 3) := by decide +kernel
theorem dX12_holds_6 : decode cX12_holds 6 = .ok (.iload 5, 2) := by decide +kernel
theorem dX12_holds_61 : decode cX12_holds 61 = .ok (.aload_n 0, 1) := by decide +kernel
theorem dX12_holds_62 : decode cX12_holds 62 = .ok (.iload 6, 2) := by decide +kernel
theorem dX12_holds_64 : decode cX12_holds 64 = .ok (.bipush 100, 2) := by decide +kernel
theorem dX12_holds_66 : decode cX12_holds 66 = .ok (.isub, 1) := by decide +kernel
theorem dX12_holds_67 : decode cX12_holds 67 = .ok (.iload_n 1, 1) := by decide +kernel
theorem dX12_holds_68 : decode cX12_holds 68 = .ok (.iload_n 2, 1) := by decide +kernel
theorem dX12_holds_69 : decode cX12_holds 69 = .ok (.iload_n 3, 1) := by decide +kernel
theorem dX12_holds_70 : decode cX12_holds 70 = .ok (.invokevirtual 301, 3) := by decide +kernel
theorem dX12_holds_73 : decode cX12_holds 73 = .ok (.iastore, 1) := by decide +kernel
theorem dX12_holds_74 : decode cX12_holds 74 = .ok (.iinc 4 1, 3) := by decide +kernel
theorem dX12_holds_77 : decode cX12_holds 77 = .ok (.goto 68, 3) := by decide +kernel
theorem dX12_holds_8 : decode cX12_holds 8 = .ok (.aload_n 0, 1) := by decide +kernel
theorem dX12_holds_80 : decode cX12_holds 80 = .ok (.iload 6, 2) := by decide +kernel
theorem dX12_holds_82 : decode cX12_holds 82 = .ok (.bipush 18, 2) := by decide +kernel
theorem dX12_holds_84 : decode cX12_holds 84 = .ok (.if_icmp .ne 26, 3) := by decide +kernel
theorem dX12_holds_87 : decode cX12_holds 87 = .ok (.aload_n 0, 1) := by decide +kernel
theorem dX12_holds_88 : decode cX12_holds 88 = .ok (.getfield 30, 3) := by decide +kernel
theorem dX12_holds_9 : decode cX12_holds 9 = .ok (.getfield 9, 3) := by decide +kernel
theorem dX12_holds_91 : decode cX12_holds 91 = .ok (.iload 4, 2) := by decide +kernel
theorem dX12_holds_93 : decode cX12_holds 93 = .ok (.iconst 1, 1) := by decide +kernel
theorem dX12_holds_94 : decode cX12_holds 94 = .ok (.isub, 1) := by decide +kernel
theorem dX12_holds_95 : decode cX12_holds 95 = .ok (.iconst 1, 1) := by decide +kernel
theorem dX12_holds_96 : decode cX12_holds 96 = .ok (.aload_n 0, 1) := by decide +kernel
theorem dX12_holds_97 : decode cX12_holds 97 = .ok (.getfield 30, 3) := by decide +kernel
theorem dX12_keeps_0 : decode cX12_keeps 0 = .ok (.aload_n 0, 1) := by decide +kernel
theorem dX12_keeps_1 : decode cX12_keeps 1 = .ok (.getfield 9, 3) := by decide +kernel
theorem dX12_keeps_100 : decode cX12_keeps 100 = .ok (.getfield 9, 3) := by decide +kernel
theorem dX12_keeps_103 : decode cX12_keeps 103 = .ok (.bipush 7, 2) := by decide +kernel
theorem dX12_keeps_105 : decode cX12_keeps 105 = .ok (.dup2, 1) := by decide +kernel
theorem dX12_keeps_106 : decode cX12_keeps 106 = .ok (.iaload, 1) := by decide +kernel
theorem dX12_keeps_107 : decode cX12_keeps 107 = .ok (.iconst 1, 1) := by decide +kernel
theorem dX12_keeps_108 : decode cX12_keeps 108 = .ok (.iadd, 1) := by decide +kernel
theorem dX12_keeps_109 : decode cX12_keeps 109 = .ok (.iastore, 1) := by decide +kernel
theorem dX12_keeps_110 : decode cX12_keeps 110 = .ok (.return_, 1) := by decide +kernel
theorem dX12_keeps_12 : decode cX12_keeps 12 = .ok (.sipush 168, 3) := by decide +kernel
theorem dX12_keeps_15 : decode cX12_keeps 15 = .ok (.istore_n 1, 1) := by decide +kernel
theorem dX12_keeps_16 : decode cX12_keeps 16 = .ok (.iload_n 1, 1) := by decide +kernel
theorem dX12_keeps_17 : decode cX12_keeps 17 = .ok (.sipush 366, 3) := by decide +kernel
theorem dX12_keeps_20 : decode cX12_keeps 20 = .ok (.if_icmp .ge 24, 3) := by decide +kernel
theorem dX12_keeps_23 : decode cX12_keeps 23 = .ok (.aload_n 0, 1) := by decide +kernel
theorem dX12_keeps_24 : decode cX12_keeps 24 = .ok (.getfield 9, 3) := by decide +kernel
theorem dX12_keeps_27 : decode cX12_keeps 27 = .ok (.iload_n 1, 1) := by decide +kernel
theorem dX12_keeps_28 : decode cX12_keeps 28 = .ok (.aload_n 0, 1) := by decide +kernel
theorem dX12_keeps_29 : decode cX12_keeps 29 = .ok (.getfield 9, 3) := by decide +kernel
theorem dX12_keeps_32 : decode cX12_keeps 32 = .ok (.iload_n 1, 1) := by decide +kernel
theorem dX12_keeps_33 : decode cX12_keeps 33 = .ok (.bipush 18, 2) := by decide +kernel
theorem dX12_keeps_35 : decode cX12_keeps 35 = .ok (.iadd, 1) := by decide +kernel
theorem dX12_keeps_36 : decode cX12_keeps 36 = .ok (.iaload, 1) := by decide +kernel
theorem dX12_keeps_37 : decode cX12_keeps 37 = .ok (.iastore, 1) := by decide +kernel
theorem dX12_keeps_38 : decode cX12_keeps 38 = .ok (.iinc 1 1, 3) := by decide +kernel
theorem dX12_keeps_4 : decode cX12_keeps 4 = .ok (.bipush 7, 2) := by decide +kernel
theorem dX12_keeps_41 : decode cX12_keeps 41 = .ok (.goto (-25), 3) := by decide +kernel
theorem dX12_keeps_44 : decode cX12_keeps 44 = .ok (.aload_n 0, 1) := by decide +kernel
theorem dX12_keeps_45 : decode cX12_keeps 45 = .ok (.getfield 9, 3) := by decide +kernel
theorem dX12_keeps_48 : decode cX12_keeps 48 = .ok (.bipush 7, 2) := by decide +kernel
theorem dX12_keeps_50 : decode cX12_keeps 50 = .ok (.dup2, 1) := by decide +kernel
theorem dX12_keeps_51 : decode cX12_keeps 51 = .ok (.iaload, 1) := by decide +kernel
theorem dX12_keeps_52 : decode cX12_keeps 52 = .ok (.iconst 1, 1) := by decide +kernel
theorem dX12_keeps_53 : decode cX12_keeps 53 = .ok (.isub, 1) := by decide +kernel
theorem dX12_keeps_54 : decode cX12_keeps 54 = .ok (.iastore, 1) := by decide +kernel
theorem dX12_keeps_55 : decode cX12_keeps 55 = .ok (.iconst 0, 1) := by decide +kernel
theorem dX12_keeps_56 : decode cX12_keeps 56 = .ok (.istore_n 1, 1) := by decide +kernel
theorem dX12_keeps_57 : decode cX12_keeps 57 = .ok (.iload_n 1, 1) := by decide +kernel
theorem dX12_keeps_58 : decode cX12_keeps 58 = .ok (.bipush 18, 2) := by decide +kernel
theorem dX12_keeps_6 : decode cX12_keeps 6 = .ok (.iaload, 1) := by decide +kernel
theorem dX12_keeps_60 : decode cX12_keeps 60 = .ok (.if_icmp .ge 39, 3) := by decide +kernel
theorem dX12_keeps_63 : decode cX12_keeps 63 = .ok (.aload_n 0, 1) := by decide +kernel
theorem dX12_keeps_64 : decode cX12_keeps 64 = .ok (.getfield 9, 3) := by decide +kernel
theorem dX12_keeps_67 : decode cX12_keeps 67 = .ok (.sipush 168, 3) := by decide +kernel
theorem dX12_keeps_7 : decode cX12_keeps 7 = .ok (.bipush 12, 2) := by decide +kernel
theorem dX12_keeps_70 : decode cX12_keeps 70 = .ok (.bipush 18, 2) := by decide +kernel
theorem dX12_keeps_72 : decode cX12_keeps 72 = .ok (.aload_n 0, 1) := by decide +kernel
theorem dX12_keeps_73 : decode cX12_keeps 73 = .ok (.getfield 9, 3) := by decide +kernel
theorem dX12_keeps_76 : decode cX12_keeps 76 = .ok (.bipush 7, 2) := by decide +kernel
theorem dX12_keeps_78 : decode cX12_keeps 78 = .ok (.iaload, 1) := by decide +kernel
theorem dX12_keeps_79 : decode cX12_keeps 79 = .ok (.imul, 1) := by decide +kernel
theorem dX12_keeps_80 : decode cX12_keeps 80 = .ok (.iadd, 1) := by decide +kernel
theorem dX12_keeps_81 : decode cX12_keeps 81 = .ok (.iload_n 1, 1) := by decide +kernel
theorem dX12_keeps_82 : decode cX12_keeps 82 = .ok (.iadd, 1) := by decide +kernel
theorem dX12_keeps_83 : decode cX12_keeps 83 = .ok (.aload_n 0, 1) := by decide +kernel
theorem dX12_keeps_84 : decode cX12_keeps 84 = .ok (.getfield 9, 3) := by decide +kernel
theorem dX12_keeps_87 : decode cX12_keeps 87 = .ok (.bipush 8, 2) := by decide +kernel
theorem dX12_keeps_89 : decode cX12_keeps 89 = .ok (.iload_n 1, 1) := by decide +kernel
theorem dX12_keeps_9 : decode cX12_keeps 9 = .ok (.if_icmp .ne 46, 3) := by decide +kernel
theorem dX12_keeps_90 : decode cX12_keeps 90 = .ok (.iadd, 1) := by decide +kernel
theorem dX12_keeps_91 : decode cX12_keeps 91 = .ok (.iaload, 1) := by decide +kernel
theorem dX12_keeps_92 : decode cX12_keeps 92 = .ok (.iastore, 1) := by decide +kernel
theorem dX12_keeps_93 : decode cX12_keeps 93 = .ok (.iinc 1 1, 3) := by decide +kernel
theorem dX12_keeps_96 : decode cX12_keeps 96 = .ok (.goto (-39), 3) := by decide +kernel
theorem dX12_keeps_99 : decode cX12_keeps 99 = .ok (.aload_n 0, 1) := by decide +kernel
theorem dX12_minutesOf_0 : decode cX12_minutesOf 0 = .ok (.aload_n 0, 1) := by decide +kernel
theorem dX12_minutesOf_1 : decode cX12_minutesOf 1 = .ok (.aload_n 0, 1) := by decide +kernel
theorem dX12_minutesOf_10 : decode cX12_minutesOf 10 = .ok (.aload_n 0, 1) := by decide +kernel
theorem dX12_minutesOf_11 : decode cX12_minutesOf 11 = .ok (.getfield 9, 3) := by decide +kernel
theorem dX12_minutesOf_14 : decode cX12_minutesOf 14 = .ok (.bipush 34, 2) := by decide +kernel
theorem dX12_minutesOf_16 : decode cX12_minutesOf 16 = .ok (.iload_n 1, 1) := by decide +kernel
theorem dX12_minutesOf_17 : decode cX12_minutesOf 17 = .ok (.iadd, 1) := by decide +kernel
theorem dX12_minutesOf_18 : decode cX12_minutesOf 18 = .ok (.iaload, 1) := by decide +kernel
theorem dX12_minutesOf_19 : decode cX12_minutesOf 19 = .ok (.imul, 1) := by decide +kernel
theorem dX12_minutesOf_2 : decode cX12_minutesOf 2 = .ok (.iload_n 1, 1) := by decide +kernel
theorem dX12_minutesOf_20 : decode cX12_minutesOf 20 = .ok (.ireturn, 1) := by decide +kernel
theorem dX12_minutesOf_3 : decode cX12_minutesOf 3 = .ok (.invokevirtual 317, 3) := by decide +kernel
theorem dX12_minutesOf_6 : decode cX12_minutesOf 6 = .ok (.iload_n 2, 1) := by decide +kernel
theorem dX12_minutesOf_7 : decode cX12_minutesOf 7 = .ok (.invokevirtual 349, 3) := by decide +kernel
theorem dX12_moves_0 : decode cX12_moves 0 = .ok (.aload_n 0, 1) := by decide +kernel
theorem dX12_moves_1 : decode cX12_moves 1 = .ok (.iload_n 1, 1) := by decide +kernel
theorem dX12_moves_12 : decode cX12_moves 12 = .ok (.aload_n 0, 1) := by decide +kernel
theorem dX12_moves_13 : decode cX12_moves 13 = .ok (.getfield 9, 3) := by decide +kernel
theorem dX12_moves_16 : decode cX12_moves 16 = .ok (.bipush 8, 2) := by decide +kernel
theorem dX12_moves_18 : decode cX12_moves 18 = .ok (.iload_n 1, 1) := by decide +kernel
theorem dX12_moves_19 : decode cX12_moves 19 = .ok (.iadd, 1) := by decide +kernel
theorem dX12_moves_2 : decode cX12_moves 2 = .ok (.iload_n 2, 1) := by decide +kernel
theorem dX12_moves_20 : decode cX12_moves 20 = .ok (.iload_n 2, 1) := by decide +kernel
theorem dX12_moves_21 : decode cX12_moves 21 = .ok (.iastore, 1) := by decide +kernel
theorem dX12_moves_22 : decode cX12_moves 22 = .ok (.iload_n 3, 1) := by decide +kernel
theorem dX12_moves_23 : decode cX12_moves 23 = .ok (.ireturn, 1) := by decide +kernel
theorem dX12_moves_3 : decode cX12_moves 3 = .ok (.invokevirtual 358, 3) := by decide +kernel
theorem dX12_moves_6 : decode cX12_moves 6 = .ok (.istore_n 3, 1) := by decide +kernel
theorem dX12_moves_7 : decode cX12_moves 7 = .ok (.aload_n 0, 1) := by decide +kernel
theorem dX12_moves_8 : decode cX12_moves 8 = .ok (.iload_n 3, 1) := by decide +kernel
theorem dX12_moves_9 : decode cX12_moves 9 = .ok (.invokevirtual 361, 3) := by decide +kernel
theorem dX12_place_0 : decode cX12_place 0 = .ok (.aload_n 0, 1) := by decide +kernel
theorem dX12_place_1 : decode cX12_place 1 = .ok (.aload_n 0, 1) := by decide +kernel
theorem dX12_place_10 : decode cX12_place 10 = .ok (.iconst 1, 1) := by decide +kernel
theorem dX12_place_100 : decode cX12_place 100 = .ok (.ishl, 1) := by decide +kernel
theorem dX12_place_101 : decode cX12_place 101 = .ok (.goto 4, 3) := by decide +kernel
theorem dX12_place_104 : decode cX12_place 104 = .ok (.iconst 0, 1) := by decide +kernel
theorem dX12_place_105 : decode cX12_place 105 = .ok (.ior, 1) := by decide +kernel
theorem dX12_place_106 : decode cX12_place 106 = .ok (.istore_n 3, 1) := by decide +kernel
theorem dX12_place_107 : decode cX12_place 107 = .ok (.iinc 4 1, 3) := by decide +kernel
theorem dX12_place_11 : decode cX12_place 11 = .ok (.goto 20, 3) := by decide +kernel
theorem dX12_place_110 : decode cX12_place 110 = .ok (.goto (-49), 3) := by decide +kernel
theorem dX12_place_113 : decode cX12_place 113 = .ok (.iload_n 3, 1) := by decide +kernel
theorem dX12_place_114 : decode cX12_place 114 = .ok (.ireturn, 1) := by decide +kernel
theorem dX12_place_14 : decode cX12_place 14 = .ok (.iload_n 2, 1) := by decide +kernel
theorem dX12_place_15 : decode cX12_place 15 = .ok (.i2l, 1) := by decide +kernel
theorem dX12_place_16 : decode cX12_place 16 = .ok (.lconst 0, 1) := by decide +kernel
theorem dX12_place_17 : decode cX12_place 17 = .ok (.ldc2_w 344, 3) := by decide +kernel
theorem dX12_place_2 : decode cX12_place 2 = .ok (.iload_n 1, 1) := by decide +kernel
theorem dX12_place_20 : decode cX12_place 20 = .ok (.invokestatic 137, 3) := by decide +kernel
theorem dX12_place_23 : decode cX12_place 23 = .ok (.ifCond .eq 7, 3) := by decide +kernel
theorem dX12_place_26 : decode cX12_place 26 = .ok (.iconst 0, 1) := by decide +kernel
theorem dX12_place_27 : decode cX12_place 27 = .ok (.goto 4, 3) := by decide +kernel
theorem dX12_place_3 : decode cX12_place 3 = .ok (.i2l, 1) := by decide +kernel
theorem dX12_place_30 : decode cX12_place 30 = .ok (.iconst 2, 1) := by decide +kernel
theorem dX12_place_31 : decode cX12_place 31 = .ok (.putfield 73, 3) := by decide +kernel
theorem dX12_place_34 : decode cX12_place 34 = .ok (.aload_n 0, 1) := by decide +kernel
theorem dX12_place_35 : decode cX12_place 35 = .ok (.getfield 73, 3) := by decide +kernel
theorem dX12_place_38 : decode cX12_place 38 = .ok (.ifCond .le 5, 3) := by decide +kernel
theorem dX12_place_4 : decode cX12_place 4 = .ok (.invokevirtual 341, 3) := by decide +kernel
theorem dX12_place_41 : decode cX12_place 41 = .ok (.iconst 0, 1) := by decide +kernel
theorem dX12_place_42 : decode cX12_place 42 = .ok (.ireturn, 1) := by decide +kernel
theorem dX12_place_43 : decode cX12_place 43 = .ok (.iload_n 2, 1) := by decide +kernel
theorem dX12_place_44 : decode cX12_place 44 = .ok (.ifCond .ne 12, 3) := by decide +kernel
theorem dX12_place_47 : decode cX12_place 47 = .ok (.aload_n 0, 1) := by decide +kernel
theorem dX12_place_48 : decode cX12_place 48 = .ok (.getfield 9, 3) := by decide +kernel
theorem dX12_place_51 : decode cX12_place 51 = .ok (.iload_n 1, 1) := by decide +kernel
theorem dX12_place_52 : decode cX12_place 52 = .ok (.invokestatic 209, 3) := by decide +kernel
theorem dX12_place_55 : decode cX12_place 55 = .ok (.ireturn, 1) := by decide +kernel
theorem dX12_place_56 : decode cX12_place 56 = .ok (.iconst 0, 1) := by decide +kernel
theorem dX12_place_57 : decode cX12_place 57 = .ok (.istore_n 3, 1) := by decide +kernel
theorem dX12_place_58 : decode cX12_place 58 = .ok (.iconst 0, 1) := by decide +kernel
theorem dX12_place_59 : decode cX12_place 59 = .ok (.istore 4, 2) := by decide +kernel
theorem dX12_place_61 : decode cX12_place 61 = .ok (.iload 4, 2) := by decide +kernel
theorem dX12_place_63 : decode cX12_place 63 = .ok (.aload_n 0, 1) := by decide +kernel
theorem dX12_place_64 : decode cX12_place 64 = .ok (.invokevirtual 273, 3) := by decide +kernel
theorem dX12_place_67 : decode cX12_place 67 = .ok (.if_icmp .ge 46, 3) := by decide +kernel
theorem dX12_place_7 : decode cX12_place 7 = .ok (.ifCond .ne 7, 3) := by decide +kernel
theorem dX12_place_70 : decode cX12_place 70 = .ok (.iload_n 3, 1) := by decide +kernel
theorem dX12_place_71 : decode cX12_place 71 = .ok (.iload_n 2, 1) := by decide +kernel
theorem dX12_place_72 : decode cX12_place 72 = .ok (.iconst 1, 1) := by decide +kernel
theorem dX12_place_73 : decode cX12_place 73 = .ok (.if_icmp .ne 13, 3) := by decide +kernel
theorem dX12_place_76 : decode cX12_place 76 = .ok (.aload_n 0, 1) := by decide +kernel
theorem dX12_place_77 : decode cX12_place 77 = .ok (.iload_n 1, 1) := by decide +kernel
theorem dX12_place_78 : decode cX12_place 78 = .ok (.iload 4, 2) := by decide +kernel
theorem dX12_place_80 : decode cX12_place 80 = .ok (.invokevirtual 320, 3) := by decide +kernel
theorem dX12_place_83 : decode cX12_place 83 = .ok (.ifCond .ne 14, 3) := by decide +kernel
theorem dX12_place_86 : decode cX12_place 86 = .ok (.aload_n 0, 1) := by decide +kernel
theorem dX12_place_87 : decode cX12_place 87 = .ok (.iload_n 1, 1) := by decide +kernel
theorem dX12_place_88 : decode cX12_place 88 = .ok (.iload 4, 2) := by decide +kernel
theorem dX12_place_90 : decode cX12_place 90 = .ok (.invokevirtual 320, 3) := by decide +kernel
theorem dX12_place_93 : decode cX12_place 93 = .ok (.iconst 2, 1) := by decide +kernel
theorem dX12_place_94 : decode cX12_place 94 = .ok (.if_icmp .ne 10, 3) := by decide +kernel
theorem dX12_place_97 : decode cX12_place 97 = .ok (.iconst 1, 1) := by decide +kernel
theorem dX12_place_98 : decode cX12_place 98 = .ok (.iload 4, 2) := by decide +kernel
theorem dX12_putsAside_0 : decode cX12_putsAside 0 = .ok (.iconst 0, 1) := by decide +kernel
theorem dX12_putsAside_1 : decode cX12_putsAside 1 = .ok (.istore_n 1, 1) := by decide +kernel
theorem dX12_putsAside_12 : decode cX12_putsAside 12 = .ok (.iload_n 1, 1) := by decide +kernel
theorem dX12_putsAside_13 : decode cX12_putsAside 13 = .ok (.aload_n 0, 1) := by decide +kernel
theorem dX12_putsAside_14 : decode cX12_putsAside 14 = .ok (.getfield 9, 3) := by decide +kernel
theorem dX12_putsAside_17 : decode cX12_putsAside 17 = .ok (.bipush 8, 2) := by decide +kernel
theorem dX12_putsAside_19 : decode cX12_putsAside 19 = .ok (.iload_n 1, 1) := by decide +kernel
theorem dX12_putsAside_2 : decode cX12_putsAside 2 = .ok (.iload_n 1, 1) := by decide +kernel
theorem dX12_putsAside_20 : decode cX12_putsAside 20 = .ok (.iadd, 1) := by decide +kernel
theorem dX12_putsAside_21 : decode cX12_putsAside 21 = .ok (.iaload, 1) := by decide +kernel
theorem dX12_putsAside_22 : decode cX12_putsAside 22 = .ok (.iastore, 1) := by decide +kernel
theorem dX12_putsAside_23 : decode cX12_putsAside 23 = .ok (.iinc 1 1, 3) := by decide +kernel
theorem dX12_putsAside_26 : decode cX12_putsAside 26 = .ok (.goto (-24), 3) := by decide +kernel
theorem dX12_putsAside_29 : decode cX12_putsAside 29 = .ok (.return_, 1) := by decide +kernel
theorem dX12_putsAside_3 : decode cX12_putsAside 3 = .ok (.bipush 18, 2) := by decide +kernel
theorem dX12_putsAside_5 : decode cX12_putsAside 5 = .ok (.if_icmp .ge 24, 3) := by decide +kernel
theorem dX12_putsAside_8 : decode cX12_putsAside 8 = .ok (.aload_n 0, 1) := by decide +kernel
theorem dX12_putsAside_9 : decode cX12_putsAside 9 = .ok (.getfield 33, 3) := by decide +kernel
theorem dX12_putsBack_0 : decode cX12_putsBack 0 = .ok (.iconst 0, 1) := by decide +kernel
theorem dX12_putsBack_1 : decode cX12_putsBack 1 = .ok (.istore_n 1, 1) := by decide +kernel
theorem dX12_putsBack_12 : decode cX12_putsBack 12 = .ok (.bipush 8, 2) := by decide +kernel
theorem dX12_putsBack_14 : decode cX12_putsBack 14 = .ok (.iload_n 1, 1) := by decide +kernel
theorem dX12_putsBack_15 : decode cX12_putsBack 15 = .ok (.iadd, 1) := by decide +kernel
theorem dX12_putsBack_16 : decode cX12_putsBack 16 = .ok (.aload_n 0, 1) := by decide +kernel
theorem dX12_putsBack_17 : decode cX12_putsBack 17 = .ok (.getfield 33, 3) := by decide +kernel
theorem dX12_putsBack_2 : decode cX12_putsBack 2 = .ok (.iload_n 1, 1) := by decide +kernel
theorem dX12_putsBack_20 : decode cX12_putsBack 20 = .ok (.iload_n 1, 1) := by decide +kernel
theorem dX12_putsBack_21 : decode cX12_putsBack 21 = .ok (.iaload, 1) := by decide +kernel
theorem dX12_putsBack_22 : decode cX12_putsBack 22 = .ok (.iastore, 1) := by decide +kernel
theorem dX12_putsBack_23 : decode cX12_putsBack 23 = .ok (.iinc 1 1, 3) := by decide +kernel
theorem dX12_putsBack_26 : decode cX12_putsBack 26 = .ok (.goto (-24), 3) := by decide +kernel
theorem dX12_putsBack_29 : decode cX12_putsBack 29 = .ok (.return_, 1) := by decide +kernel
theorem dX12_putsBack_3 : decode cX12_putsBack 3 = .ok (.bipush 18, 2) := by decide +kernel
theorem dX12_putsBack_5 : decode cX12_putsBack 5 = .ok (.if_icmp .ge 24, 3) := by decide +kernel
theorem dX12_putsBack_8 : decode cX12_putsBack 8 = .ok (.aload_n 0, 1) := by decide +kernel
theorem dX12_putsBack_9 : decode cX12_putsBack 9 = .ok (.getfield 9, 3) := by decide +kernel
theorem dX12_stepsOf_0 : decode cX12_stepsOf 0 = .ok (.iconst 1, 1) := by decide +kernel
theorem dX12_stepsOf_1 : decode cX12_stepsOf 1 = .ok (.iload_n 1, 1) := by decide +kernel
theorem dX12_stepsOf_102 : decode cX12_stepsOf 102 = .ok (.iconst (-1), 1) := by decide +kernel
theorem dX12_stepsOf_103 : decode cX12_stepsOf 103 = .ok (.ireturn, 1) := by decide +kernel
theorem dX12_stepsOf_11 : decode cX12_stepsOf 11 = .ok (.if_icmp .ge 91, 3) := by decide +kernel
theorem dX12_stepsOf_14 : decode cX12_stepsOf 14 = .ok (.iload_n 3, 1) := by decide +kernel
theorem dX12_stepsOf_15 : decode cX12_stepsOf 15 = .ok (.iload_n 2, 1) := by decide +kernel
theorem dX12_stepsOf_16 : decode cX12_stepsOf 16 = .ok (.invokestatic 346, 3) := by decide +kernel
theorem dX12_stepsOf_19 : decode cX12_stepsOf 19 = .ok (.ifCond .eq 6, 3) := by decide +kernel
theorem dX12_stepsOf_2 : decode cX12_stepsOf 2 = .ok (.ishl, 1) := by decide +kernel
theorem dX12_stepsOf_22 : decode cX12_stepsOf 22 = .ok (.iload 4, 2) := by decide +kernel
theorem dX12_stepsOf_24 : decode cX12_stepsOf 24 = .ok (.ireturn, 1) := by decide +kernel
theorem dX12_stepsOf_25 : decode cX12_stepsOf 25 = .ok (.iload_n 3, 1) := by decide +kernel
theorem dX12_stepsOf_26 : decode cX12_stepsOf 26 = .ok (.istore 5, 2) := by decide +kernel
theorem dX12_stepsOf_28 : decode cX12_stepsOf 28 = .ok (.iconst 0, 1) := by decide +kernel
theorem dX12_stepsOf_29 : decode cX12_stepsOf 29 = .ok (.istore 6, 2) := by decide +kernel
theorem dX12_stepsOf_3 : decode cX12_stepsOf 3 = .ok (.istore_n 3, 1) := by decide +kernel
theorem dX12_stepsOf_31 : decode cX12_stepsOf 31 = .ok (.iload 6, 2) := by decide +kernel
theorem dX12_stepsOf_33 : decode cX12_stepsOf 33 = .ok (.aload_n 0, 1) := by decide +kernel
theorem dX12_stepsOf_34 : decode cX12_stepsOf 34 = .ok (.invokevirtual 273, 3) := by decide +kernel
theorem dX12_stepsOf_37 : decode cX12_stepsOf 37 = .ok (.if_icmp .ge 56, 3) := by decide +kernel
theorem dX12_stepsOf_4 : decode cX12_stepsOf 4 = .ok (.iconst 0, 1) := by decide +kernel
theorem dX12_stepsOf_40 : decode cX12_stepsOf 40 = .ok (.iconst 0, 1) := by decide +kernel
theorem dX12_stepsOf_41 : decode cX12_stepsOf 41 = .ok (.istore 7, 2) := by decide +kernel
theorem dX12_stepsOf_43 : decode cX12_stepsOf 43 = .ok (.iload 7, 2) := by decide +kernel
theorem dX12_stepsOf_45 : decode cX12_stepsOf 45 = .ok (.aload_n 0, 1) := by decide +kernel
theorem dX12_stepsOf_46 : decode cX12_stepsOf 46 = .ok (.invokevirtual 273, 3) := by decide +kernel
theorem dX12_stepsOf_49 : decode cX12_stepsOf 49 = .ok (.if_icmp .ge 38, 3) := by decide +kernel
theorem dX12_stepsOf_5 : decode cX12_stepsOf 5 = .ok (.istore 4, 2) := by decide +kernel
theorem dX12_stepsOf_52 : decode cX12_stepsOf 52 = .ok (.iload_n 3, 1) := by decide +kernel
theorem dX12_stepsOf_53 : decode cX12_stepsOf 53 = .ok (.iload 6, 2) := by decide +kernel
theorem dX12_stepsOf_55 : decode cX12_stepsOf 55 = .ok (.invokestatic 346, 3) := by decide +kernel
theorem dX12_stepsOf_58 : decode cX12_stepsOf 58 = .ok (.ifCond .eq 23, 3) := by decide +kernel
theorem dX12_stepsOf_61 : decode cX12_stepsOf 61 = .ok (.aload_n 0, 1) := by decide +kernel
theorem dX12_stepsOf_62 : decode cX12_stepsOf 62 = .ok (.iload 6, 2) := by decide +kernel
theorem dX12_stepsOf_64 : decode cX12_stepsOf 64 = .ok (.iload 7, 2) := by decide +kernel
theorem dX12_stepsOf_66 : decode cX12_stepsOf 66 = .ok (.invokevirtual 320, 3) := by decide +kernel
theorem dX12_stepsOf_69 : decode cX12_stepsOf 69 = .ok (.ifCond .eq 12, 3) := by decide +kernel
theorem dX12_stepsOf_7 : decode cX12_stepsOf 7 = .ok (.iload 4, 2) := by decide +kernel
theorem dX12_stepsOf_72 : decode cX12_stepsOf 72 = .ok (.iload 5, 2) := by decide +kernel
theorem dX12_stepsOf_74 : decode cX12_stepsOf 74 = .ok (.iconst 1, 1) := by decide +kernel
theorem dX12_stepsOf_75 : decode cX12_stepsOf 75 = .ok (.iload 7, 2) := by decide +kernel
theorem dX12_stepsOf_77 : decode cX12_stepsOf 77 = .ok (.ishl, 1) := by decide +kernel
theorem dX12_stepsOf_78 : decode cX12_stepsOf 78 = .ok (.ior, 1) := by decide +kernel
theorem dX12_stepsOf_79 : decode cX12_stepsOf 79 = .ok (.istore 5, 2) := by decide +kernel
theorem dX12_stepsOf_81 : decode cX12_stepsOf 81 = .ok (.iinc 7 1, 3) := by decide +kernel
theorem dX12_stepsOf_84 : decode cX12_stepsOf 84 = .ok (.goto (-41), 3) := by decide +kernel
theorem dX12_stepsOf_87 : decode cX12_stepsOf 87 = .ok (.iinc 6 1, 3) := by decide +kernel
theorem dX12_stepsOf_9 : decode cX12_stepsOf 9 = .ok (.bipush 10, 2) := by decide +kernel
theorem dX12_stepsOf_90 : decode cX12_stepsOf 90 = .ok (.goto (-59), 3) := by decide +kernel
theorem dX12_stepsOf_93 : decode cX12_stepsOf 93 = .ok (.iload 5, 2) := by decide +kernel
theorem dX12_stepsOf_95 : decode cX12_stepsOf 95 = .ok (.istore_n 3, 1) := by decide +kernel
theorem dX12_stepsOf_96 : decode cX12_stepsOf 96 = .ok (.iinc 4 1, 3) := by decide +kernel
theorem dX12_stepsOf_99 : decode cX12_stepsOf 99 = .ok (.goto (-92), 3) := by decide +kernel
theorem dX12_steps_0 : decode cX12_steps 0 = .ok (.aload_n 0, 1) := by decide +kernel
theorem dX12_steps_1 : decode cX12_steps 1 = .ok (.iconst 0, 1) := by decide +kernel
theorem dX12_steps_11 : decode cX12_steps 11 = .ok (.ifCond .eq 21, 3) := by decide +kernel
theorem dX12_steps_14 : decode cX12_steps 14 = .ok (.aload_n 0, 1) := by decide +kernel
theorem dX12_steps_15 : decode cX12_steps 15 = .ok (.iload_n 2, 1) := by decide +kernel
theorem dX12_steps_16 : decode cX12_steps 16 = .ok (.i2l, 1) := by decide +kernel
theorem dX12_steps_17 : decode cX12_steps 17 = .ok (.invokevirtual 341, 3) := by decide +kernel
theorem dX12_steps_2 : decode cX12_steps 2 = .ok (.putfield 73, 3) := by decide +kernel
theorem dX12_steps_20 : decode cX12_steps 20 = .ok (.ifCond .eq 12, 3) := by decide +kernel
theorem dX12_steps_23 : decode cX12_steps 23 = .ok (.aload_n 0, 1) := by decide +kernel
theorem dX12_steps_24 : decode cX12_steps 24 = .ok (.iload_n 1, 1) := by decide +kernel
theorem dX12_steps_25 : decode cX12_steps 25 = .ok (.iload_n 2, 1) := by decide +kernel
theorem dX12_steps_26 : decode cX12_steps 26 = .ok (.invokevirtual 349, 3) := by decide +kernel
theorem dX12_steps_29 : decode cX12_steps 29 = .ok (.goto 8, 3) := by decide +kernel
theorem dX12_steps_32 : decode cX12_steps 32 = .ok (.aload_n 0, 1) := by decide +kernel
theorem dX12_steps_33 : decode cX12_steps 33 = .ok (.iconst 1, 1) := by decide +kernel
theorem dX12_steps_34 : decode cX12_steps 34 = .ok (.invokevirtual 262, 3) := by decide +kernel
theorem dX12_steps_37 : decode cX12_steps 37 = .ok (.ireturn, 1) := by decide +kernel
theorem dX12_steps_5 : decode cX12_steps 5 = .ok (.aload_n 0, 1) := by decide +kernel
theorem dX12_steps_6 : decode cX12_steps 6 = .ok (.iload_n 1, 1) := by decide +kernel
theorem dX12_steps_7 : decode cX12_steps 7 = .ok (.i2l, 1) := by decide +kernel
theorem dX12_steps_8 : decode cX12_steps 8 = .ok (.invokevirtual 341, 3) := by decide +kernel
theorem dX12_thing_0 : decode cX12_thing 0 = .ok (.aload_n 0, 1) := by decide +kernel
theorem dX12_thing_1 : decode cX12_thing 1 = .ok (.aload_n 0, 1) := by decide +kernel
theorem dX12_thing_10 : decode cX12_thing 10 = .ok (.iconst 1, 1) := by decide +kernel
theorem dX12_thing_100 : decode cX12_thing 100 = .ok (.iload_n 1, 1) := by decide +kernel
theorem dX12_thing_101 : decode cX12_thing 101 = .ok (.iadd, 1) := by decide +kernel
theorem dX12_thing_102 : decode cX12_thing 102 = .ok (.iaload, 1) := by decide +kernel
theorem dX12_thing_103 : decode cX12_thing 103 = .ok (.ireturn, 1) := by decide +kernel
theorem dX12_thing_104 : decode cX12_thing 104 = .ok (.aload_n 0, 1) := by decide +kernel
theorem dX12_thing_105 : decode cX12_thing 105 = .ok (.getfield 9, 3) := by decide +kernel
theorem dX12_thing_108 : decode cX12_thing 108 = .ok (.bipush 26, 2) := by decide +kernel
theorem dX12_thing_11 : decode cX12_thing 11 = .ok (.goto 20, 3) := by decide +kernel
theorem dX12_thing_110 : decode cX12_thing 110 = .ok (.iload_n 1, 1) := by decide +kernel
theorem dX12_thing_111 : decode cX12_thing 111 = .ok (.iadd, 1) := by decide +kernel
theorem dX12_thing_112 : decode cX12_thing 112 = .ok (.iaload, 1) := by decide +kernel
theorem dX12_thing_113 : decode cX12_thing 113 = .ok (.ireturn, 1) := by decide +kernel
theorem dX12_thing_114 : decode cX12_thing 114 = .ok (.aload_n 0, 1) := by decide +kernel
theorem dX12_thing_115 : decode cX12_thing 115 = .ok (.getfield 9, 3) := by decide +kernel
theorem dX12_thing_118 : decode cX12_thing 118 = .ok (.bipush 34, 2) := by decide +kernel
theorem dX12_thing_120 : decode cX12_thing 120 = .ok (.iload_n 1, 1) := by decide +kernel
theorem dX12_thing_121 : decode cX12_thing 121 = .ok (.iadd, 1) := by decide +kernel
theorem dX12_thing_122 : decode cX12_thing 122 = .ok (.iaload, 1) := by decide +kernel
theorem dX12_thing_123 : decode cX12_thing 123 = .ok (.ireturn, 1) := by decide +kernel
theorem dX12_thing_124 : decode cX12_thing 124 = .ok (.aload_n 0, 1) := by decide +kernel
theorem dX12_thing_125 : decode cX12_thing 125 = .ok (.getfield 9, 3) := by decide +kernel
theorem dX12_thing_128 : decode cX12_thing 128 = .ok (.bipush 42, 2) := by decide +kernel
theorem dX12_thing_130 : decode cX12_thing 130 = .ok (.iload_n 1, 1) := by decide +kernel
theorem dX12_thing_131 : decode cX12_thing 131 = .ok (.iadd, 1) := by decide +kernel
theorem dX12_thing_132 : decode cX12_thing 132 = .ok (.iaload, 1) := by decide +kernel
theorem dX12_thing_133 : decode cX12_thing 133 = .ok (.ireturn, 1) := by decide +kernel
theorem dX12_thing_134 : decode cX12_thing 134 = .ok (.aload_n 0, 1) := by decide +kernel
theorem dX12_thing_135 : decode cX12_thing 135 = .ok (.aload_n 0, 1) := by decide +kernel
theorem dX12_thing_136 : decode cX12_thing 136 = .ok (.getfield 9, 3) := by decide +kernel
theorem dX12_thing_139 : decode cX12_thing 139 = .ok (.bipush 16, 2) := by decide +kernel
theorem dX12_thing_14 : decode cX12_thing 14 = .ok (.iload_n 2, 1) := by decide +kernel
theorem dX12_thing_141 : decode cX12_thing 141 = .ok (.iload_n 1, 1) := by decide +kernel
theorem dX12_thing_142 : decode cX12_thing 142 = .ok (.iadd, 1) := by decide +kernel
theorem dX12_thing_143 : decode cX12_thing 143 = .ok (.iaload, 1) := by decide +kernel
theorem dX12_thing_144 : decode cX12_thing 144 = .ok (.invokevirtual 295, 3) := by decide +kernel
theorem dX12_thing_147 : decode cX12_thing 147 = .ok (.ifCond .eq 7, 3) := by decide +kernel
theorem dX12_thing_15 : decode cX12_thing 15 = .ok (.i2l, 1) := by decide +kernel
theorem dX12_thing_150 : decode cX12_thing 150 = .ok (.iconst 1, 1) := by decide +kernel
theorem dX12_thing_151 : decode cX12_thing 151 = .ok (.goto 4, 3) := by decide +kernel
theorem dX12_thing_154 : decode cX12_thing 154 = .ok (.iconst 0, 1) := by decide +kernel
theorem dX12_thing_155 : decode cX12_thing 155 = .ok (.ireturn, 1) := by decide +kernel
theorem dX12_thing_156 : decode cX12_thing 156 = .ok (.aload_n 0, 1) := by decide +kernel
theorem dX12_thing_157 : decode cX12_thing 157 = .ok (.aload_n 0, 1) := by decide +kernel
theorem dX12_thing_158 : decode cX12_thing 158 = .ok (.getfield 9, 3) := by decide +kernel
theorem dX12_thing_16 : decode cX12_thing 16 = .ok (.lconst 0, 1) := by decide +kernel
theorem dX12_thing_161 : decode cX12_thing 161 = .ok (.bipush 16, 2) := by decide +kernel
theorem dX12_thing_163 : decode cX12_thing 163 = .ok (.iload_n 1, 1) := by decide +kernel
theorem dX12_thing_164 : decode cX12_thing 164 = .ok (.iadd, 1) := by decide +kernel
theorem dX12_thing_165 : decode cX12_thing 165 = .ok (.iaload, 1) := by decide +kernel
theorem dX12_thing_166 : decode cX12_thing 166 = .ok (.invokevirtual 298, 3) := by decide +kernel
theorem dX12_thing_169 : decode cX12_thing 169 = .ok (.ifCond .eq 7, 3) := by decide +kernel
theorem dX12_thing_17 : decode cX12_thing 17 = .ok (.ldc2_w 339, 3) := by decide +kernel
theorem dX12_thing_172 : decode cX12_thing 172 = .ok (.iconst 1, 1) := by decide +kernel
theorem dX12_thing_173 : decode cX12_thing 173 = .ok (.goto 4, 3) := by decide +kernel
theorem dX12_thing_176 : decode cX12_thing 176 = .ok (.iconst 0, 1) := by decide +kernel
theorem dX12_thing_177 : decode cX12_thing 177 = .ok (.ireturn, 1) := by decide +kernel
theorem dX12_thing_178 : decode cX12_thing 178 = .ok (.aload_n 0, 1) := by decide +kernel
theorem dX12_thing_179 : decode cX12_thing 179 = .ok (.iload_n 1, 1) := by decide +kernel
theorem dX12_thing_180 : decode cX12_thing 180 = .ok (.aload_n 0, 1) := by decide +kernel
theorem dX12_thing_181 : decode cX12_thing 181 = .ok (.iload_n 1, 1) := by decide +kernel
theorem dX12_thing_182 : decode cX12_thing 182 = .ok (.invokevirtual 317, 3) := by decide +kernel
theorem dX12_thing_185 : decode cX12_thing 185 = .ok (.invokevirtual 329, 3) := by decide +kernel
theorem dX12_thing_188 : decode cX12_thing 188 = .ok (.ireturn, 1) := by decide +kernel
theorem dX12_thing_2 : decode cX12_thing 2 = .ok (.iload_n 1, 1) := by decide +kernel
theorem dX12_thing_20 : decode cX12_thing 20 = .ok (.invokestatic 137, 3) := by decide +kernel
theorem dX12_thing_23 : decode cX12_thing 23 = .ok (.ifCond .eq 7, 3) := by decide +kernel
theorem dX12_thing_26 : decode cX12_thing 26 = .ok (.iconst 0, 1) := by decide +kernel
theorem dX12_thing_27 : decode cX12_thing 27 = .ok (.goto 4, 3) := by decide +kernel
theorem dX12_thing_3 : decode cX12_thing 3 = .ok (.i2l, 1) := by decide +kernel
theorem dX12_thing_30 : decode cX12_thing 30 = .ok (.iconst 2, 1) := by decide +kernel
theorem dX12_thing_31 : decode cX12_thing 31 = .ok (.putfield 73, 3) := by decide +kernel
theorem dX12_thing_34 : decode cX12_thing 34 = .ok (.aload_n 0, 1) := by decide +kernel
theorem dX12_thing_35 : decode cX12_thing 35 = .ok (.getfield 73, 3) := by decide +kernel
theorem dX12_thing_38 : decode cX12_thing 38 = .ok (.ifCond .le 5, 3) := by decide +kernel
theorem dX12_thing_4 : decode cX12_thing 4 = .ok (.invokevirtual 335, 3) := by decide +kernel
theorem dX12_thing_41 : decode cX12_thing 41 = .ok (.iconst 0, 1) := by decide +kernel
theorem dX12_thing_42 : decode cX12_thing 42 = .ok (.ireturn, 1) := by decide +kernel
theorem dX12_thing_43 : decode cX12_thing 43 = .ok (.iload_n 2, 1) := by decide +kernel
theorem dX12_thing_44 : decode cX12_thing 44 = .ok (.tableswitch 134 0 6 #[44, 50, 60, 70, 80, 90, 112], 44) := by decide +kernel
theorem dX12_thing_7 : decode cX12_thing 7 = .ok (.ifCond .ne 7, 3) := by decide +kernel
theorem dX12_thing_88 : decode cX12_thing 88 = .ok (.aload_n 0, 1) := by decide +kernel
theorem dX12_thing_89 : decode cX12_thing 89 = .ok (.iload_n 1, 1) := by decide +kernel
theorem dX12_thing_90 : decode cX12_thing 90 = .ok (.invokevirtual 317, 3) := by decide +kernel
theorem dX12_thing_93 : decode cX12_thing 93 = .ok (.ireturn, 1) := by decide +kernel
theorem dX12_thing_94 : decode cX12_thing 94 = .ok (.aload_n 0, 1) := by decide +kernel
theorem dX12_thing_95 : decode cX12_thing 95 = .ok (.getfield 9, 3) := by decide +kernel
theorem dX12_thing_98 : decode cX12_thing 98 = .ok (.bipush 16, 2) := by decide +kernel
theorem dX12_whyNot_0 : decode cX12_whyNot 0 = .ok (.aload_n 0, 1) := by decide +kernel
theorem dX12_whyNot_1 : decode cX12_whyNot 1 = .ok (.lload_n 1, 1) := by decide +kernel
theorem dX12_whyNot_10 : decode cX12_whyNot 10 = .ok (.invokevirtual 341, 3) := by decide +kernel
theorem dX12_whyNot_13 : decode cX12_whyNot 13 = .ok (.ifCond .ne 5, 3) := by decide +kernel
theorem dX12_whyNot_16 : decode cX12_whyNot 16 = .ok (.iconst 1, 1) := by decide +kernel
theorem dX12_whyNot_17 : decode cX12_whyNot 17 = .ok (.ireturn, 1) := by decide +kernel
theorem dX12_whyNot_18 : decode cX12_whyNot 18 = .ok (.aload_n 0, 1) := by decide +kernel
theorem dX12_whyNot_19 : decode cX12_whyNot 19 = .ok (.getfield 9, 3) := by decide +kernel
theorem dX12_whyNot_2 : decode cX12_whyNot 2 = .ok (.invokevirtual 335, 3) := by decide +kernel
theorem dX12_whyNot_22 : decode cX12_whyNot 22 = .ok (.bipush 42, 2) := by decide +kernel
theorem dX12_whyNot_24 : decode cX12_whyNot 24 = .ok (.lload_n 1, 1) := by decide +kernel
theorem dX12_whyNot_25 : decode cX12_whyNot 25 = .ok (.l2i, 1) := by decide +kernel
theorem dX12_whyNot_26 : decode cX12_whyNot 26 = .ok (.iadd, 1) := by decide +kernel
theorem dX12_whyNot_27 : decode cX12_whyNot 27 = .ok (.iaload, 1) := by decide +kernel
theorem dX12_whyNot_28 : decode cX12_whyNot 28 = .ok (.iconst 1, 1) := by decide +kernel
theorem dX12_whyNot_29 : decode cX12_whyNot 29 = .ok (.if_icmp .ne 5, 3) := by decide +kernel
theorem dX12_whyNot_32 : decode cX12_whyNot 32 = .ok (.iconst 2, 1) := by decide +kernel
theorem dX12_whyNot_33 : decode cX12_whyNot 33 = .ok (.ireturn, 1) := by decide +kernel
theorem dX12_whyNot_34 : decode cX12_whyNot 34 = .ok (.aload_n 0, 1) := by decide +kernel
theorem dX12_whyNot_35 : decode cX12_whyNot 35 = .ok (.getfield 9, 3) := by decide +kernel
theorem dX12_whyNot_38 : decode cX12_whyNot 38 = .ok (.lload_n 3, 1) := by decide +kernel
theorem dX12_whyNot_39 : decode cX12_whyNot 39 = .ok (.l2i, 1) := by decide +kernel
theorem dX12_whyNot_40 : decode cX12_whyNot 40 = .ok (.invokestatic 209, 3) := by decide +kernel
theorem dX12_whyNot_43 : decode cX12_whyNot 43 = .ok (.iconst (-1), 1) := by decide +kernel
theorem dX12_whyNot_44 : decode cX12_whyNot 44 = .ok (.if_icmp .eq 5, 3) := by decide +kernel
theorem dX12_whyNot_47 : decode cX12_whyNot 47 = .ok (.iconst 3, 1) := by decide +kernel
theorem dX12_whyNot_48 : decode cX12_whyNot 48 = .ok (.ireturn, 1) := by decide +kernel
theorem dX12_whyNot_49 : decode cX12_whyNot 49 = .ok (.aload_n 0, 1) := by decide +kernel
theorem dX12_whyNot_5 : decode cX12_whyNot 5 = .ok (.ifCond .eq 11, 3) := by decide +kernel
theorem dX12_whyNot_50 : decode cX12_whyNot 50 = .ok (.aload_n 0, 1) := by decide +kernel
theorem dX12_whyNot_51 : decode cX12_whyNot 51 = .ok (.lload_n 1, 1) := by decide +kernel
theorem dX12_whyNot_52 : decode cX12_whyNot 52 = .ok (.l2i, 1) := by decide +kernel
theorem dX12_whyNot_53 : decode cX12_whyNot 53 = .ok (.invokevirtual 317, 3) := by decide +kernel
theorem dX12_whyNot_56 : decode cX12_whyNot 56 = .ok (.lload_n 3, 1) := by decide +kernel
theorem dX12_whyNot_57 : decode cX12_whyNot 57 = .ok (.l2i, 1) := by decide +kernel
theorem dX12_whyNot_58 : decode cX12_whyNot 58 = .ok (.invokevirtual 349, 3) := by decide +kernel
theorem dX12_whyNot_61 : decode cX12_whyNot 61 = .ok (.iconst (-1), 1) := by decide +kernel
theorem dX12_whyNot_62 : decode cX12_whyNot 62 = .ok (.if_icmp .ne 7, 3) := by decide +kernel
theorem dX12_whyNot_65 : decode cX12_whyNot 65 = .ok (.iconst 4, 1) := by decide +kernel
theorem dX12_whyNot_66 : decode cX12_whyNot 66 = .ok (.goto 4, 3) := by decide +kernel
theorem dX12_whyNot_69 : decode cX12_whyNot 69 = .ok (.iconst 0, 1) := by decide +kernel
theorem dX12_whyNot_70 : decode cX12_whyNot 70 = .ok (.ireturn, 1) := by decide +kernel
theorem dX12_whyNot_8 : decode cX12_whyNot 8 = .ok (.aload_n 0, 1) := by decide +kernel
theorem dX12_whyNot_9 : decode cX12_whyNot 9 = .ok (.lload_n 3, 1) := by decide +kernel
theorem dX12_wordOf_0 : decode cX12_wordOf 0 = .ok (.aload_n 0, 1) := by decide +kernel
theorem dX12_wordOf_1 : decode cX12_wordOf 1 = .ok (.getfield 9, 3) := by decide +kernel
theorem dX12_wordOf_102 : decode cX12_wordOf 102 = .ok (.istore 7, 2) := by decide +kernel
theorem dX12_wordOf_104 : decode cX12_wordOf 104 = .ok (.goto 49, 3) := by decide +kernel
theorem dX12_wordOf_107 : decode cX12_wordOf 107 = .ok (.aload_n 0, 1) := by decide +kernel
theorem dX12_wordOf_108 : decode cX12_wordOf 108 = .ok (.iload 6, 2) := by decide +kernel
theorem dX12_wordOf_11 : decode cX12_wordOf 11 = .ok (.aload_n 0, 1) := by decide +kernel
theorem dX12_wordOf_110 : decode cX12_wordOf 110 = .ok (.invokevirtual 298, 3) := by decide +kernel
theorem dX12_wordOf_113 : decode cX12_wordOf 113 = .ok (.istore 7, 2) := by decide +kernel
theorem dX12_wordOf_115 : decode cX12_wordOf 115 = .ok (.goto 38, 3) := by decide +kernel
theorem dX12_wordOf_118 : decode cX12_wordOf 118 = .ok (.aload_n 0, 1) := by decide +kernel
theorem dX12_wordOf_119 : decode cX12_wordOf 119 = .ok (.getfield 9, 3) := by decide +kernel
theorem dX12_wordOf_12 : decode cX12_wordOf 12 = .ok (.getfield 9, 3) := by decide +kernel
theorem dX12_wordOf_122 : decode cX12_wordOf 122 = .ok (.bipush 26, 2) := by decide +kernel
theorem dX12_wordOf_124 : decode cX12_wordOf 124 = .ok (.iload_n 2, 1) := by decide +kernel
theorem dX12_wordOf_125 : decode cX12_wordOf 125 = .ok (.iadd, 1) := by decide +kernel
theorem dX12_wordOf_126 : decode cX12_wordOf 126 = .ok (.iaload, 1) := by decide +kernel
theorem dX12_wordOf_127 : decode cX12_wordOf 127 = .ok (.aload_n 0, 1) := by decide +kernel
theorem dX12_wordOf_128 : decode cX12_wordOf 128 = .ok (.getfield 9, 3) := by decide +kernel
theorem dX12_wordOf_131 : decode cX12_wordOf 131 = .ok (.bipush 26, 2) := by decide +kernel
theorem dX12_wordOf_133 : decode cX12_wordOf 133 = .ok (.iload_n 3, 1) := by decide +kernel
theorem dX12_wordOf_134 : decode cX12_wordOf 134 = .ok (.iadd, 1) := by decide +kernel
theorem dX12_wordOf_135 : decode cX12_wordOf 135 = .ok (.iaload, 1) := by decide +kernel
theorem dX12_wordOf_136 : decode cX12_wordOf 136 = .ok (.if_icmp .ne 7, 3) := by decide +kernel
theorem dX12_wordOf_139 : decode cX12_wordOf 139 = .ok (.iconst 1, 1) := by decide +kernel
theorem dX12_wordOf_140 : decode cX12_wordOf 140 = .ok (.goto 4, 3) := by decide +kernel
theorem dX12_wordOf_143 : decode cX12_wordOf 143 = .ok (.iconst 0, 1) := by decide +kernel
theorem dX12_wordOf_144 : decode cX12_wordOf 144 = .ok (.istore 7, 2) := by decide +kernel
theorem dX12_wordOf_146 : decode cX12_wordOf 146 = .ok (.goto 7, 3) := by decide +kernel
theorem dX12_wordOf_149 : decode cX12_wordOf 149 = .ok (.iload 4, 2) := by decide +kernel
theorem dX12_wordOf_15 : decode cX12_wordOf 15 = .ok (.bipush 16, 2) := by decide +kernel
theorem dX12_wordOf_151 : decode cX12_wordOf 151 = .ok (.istore 7, 2) := by decide +kernel
theorem dX12_wordOf_153 : decode cX12_wordOf 153 = .ok (.iload 7, 2) := by decide +kernel
theorem dX12_wordOf_155 : decode cX12_wordOf 155 = .ok (.ifCond .eq 7, 3) := by decide +kernel
theorem dX12_wordOf_158 : decode cX12_wordOf 158 = .ok (.iconst 1, 1) := by decide +kernel
theorem dX12_wordOf_159 : decode cX12_wordOf 159 = .ok (.goto 4, 3) := by decide +kernel
theorem dX12_wordOf_162 : decode cX12_wordOf 162 = .ok (.iconst 0, 1) := by decide +kernel
theorem dX12_wordOf_163 : decode cX12_wordOf 163 = .ok (.ireturn, 1) := by decide +kernel
theorem dX12_wordOf_17 : decode cX12_wordOf 17 = .ok (.iload_n 3, 1) := by decide +kernel
theorem dX12_wordOf_18 : decode cX12_wordOf 18 = .ok (.iadd, 1) := by decide +kernel
theorem dX12_wordOf_19 : decode cX12_wordOf 19 = .ok (.iaload, 1) := by decide +kernel
theorem dX12_wordOf_20 : decode cX12_wordOf 20 = .ok (.istore 6, 2) := by decide +kernel
theorem dX12_wordOf_22 : decode cX12_wordOf 22 = .ok (.iconst 0, 1) := by decide +kernel
theorem dX12_wordOf_23 : decode cX12_wordOf 23 = .ok (.istore 7, 2) := by decide +kernel
theorem dX12_wordOf_25 : decode cX12_wordOf 25 = .ok (.iload_n 1, 1) := by decide +kernel
theorem dX12_wordOf_26 : decode cX12_wordOf 26 = .ok (.tableswitch 123 0 6 #[42, 45, 48, 59, 70, 81, 92], 42) := by decide +kernel
theorem dX12_wordOf_4 : decode cX12_wordOf 4 = .ok (.bipush 16, 2) := by decide +kernel
theorem dX12_wordOf_6 : decode cX12_wordOf 6 = .ok (.iload_n 2, 1) := by decide +kernel
theorem dX12_wordOf_68 : decode cX12_wordOf 68 = .ok (.iload 5, 2) := by decide +kernel
theorem dX12_wordOf_7 : decode cX12_wordOf 7 = .ok (.iadd, 1) := by decide +kernel
theorem dX12_wordOf_70 : decode cX12_wordOf 70 = .ok (.ireturn, 1) := by decide +kernel
theorem dX12_wordOf_71 : decode cX12_wordOf 71 = .ok (.iload 6, 2) := by decide +kernel
theorem dX12_wordOf_73 : decode cX12_wordOf 73 = .ok (.ireturn, 1) := by decide +kernel
theorem dX12_wordOf_74 : decode cX12_wordOf 74 = .ok (.aload_n 0, 1) := by decide +kernel
theorem dX12_wordOf_75 : decode cX12_wordOf 75 = .ok (.iload 5, 2) := by decide +kernel
theorem dX12_wordOf_77 : decode cX12_wordOf 77 = .ok (.invokevirtual 295, 3) := by decide +kernel
theorem dX12_wordOf_8 : decode cX12_wordOf 8 = .ok (.iaload, 1) := by decide +kernel
theorem dX12_wordOf_80 : decode cX12_wordOf 80 = .ok (.istore 7, 2) := by decide +kernel
theorem dX12_wordOf_82 : decode cX12_wordOf 82 = .ok (.goto 71, 3) := by decide +kernel
theorem dX12_wordOf_85 : decode cX12_wordOf 85 = .ok (.aload_n 0, 1) := by decide +kernel
theorem dX12_wordOf_86 : decode cX12_wordOf 86 = .ok (.iload 6, 2) := by decide +kernel
theorem dX12_wordOf_88 : decode cX12_wordOf 88 = .ok (.invokevirtual 295, 3) := by decide +kernel
theorem dX12_wordOf_9 : decode cX12_wordOf 9 = .ok (.istore 5, 2) := by decide +kernel
theorem dX12_wordOf_91 : decode cX12_wordOf 91 = .ok (.istore 7, 2) := by decide +kernel
theorem dX12_wordOf_93 : decode cX12_wordOf 93 = .ok (.goto 60, 3) := by decide +kernel
theorem dX12_wordOf_96 : decode cX12_wordOf 96 = .ok (.aload_n 0, 1) := by decide +kernel
theorem dX12_wordOf_97 : decode cX12_wordOf 97 = .ok (.iload 5, 2) := by decide +kernel
theorem dX12_wordOf_99 : decode cX12_wordOf 99 = .ok (.invokevirtual 298, 3) := by decide +kernel
theorem dX12_wouldClash_0 : decode cX12_wouldClash 0 = .ok (.iload_n 1, 1) := by decide +kernel
theorem dX12_wouldClash_1 : decode cX12_wouldClash 1 = .ok (.iload_n 2, 1) := by decide +kernel
theorem dX12_wouldClash_12 : decode cX12_wouldClash 12 = .ok (.istore 5, 2) := by decide +kernel
theorem dX12_wouldClash_14 : decode cX12_wouldClash 14 = .ok (.aload_n 0, 1) := by decide +kernel
theorem dX12_wouldClash_15 : decode cX12_wouldClash 15 = .ok (.getfield 9, 3) := by decide +kernel
theorem dX12_wouldClash_18 : decode cX12_wouldClash 18 = .ok (.bipush 6, 2) := by decide +kernel
theorem dX12_wouldClash_2 : decode cX12_wouldClash 2 = .ok (.invokestatic 309, 3) := by decide +kernel
theorem dX12_wouldClash_20 : decode cX12_wouldClash 20 = .ok (.iaload, 1) := by decide +kernel
theorem dX12_wouldClash_21 : decode cX12_wouldClash 21 = .ok (.ifCond .ne 45, 3) := by decide +kernel
theorem dX12_wouldClash_24 : decode cX12_wouldClash 24 = .ok (.aload_n 0, 1) := by decide +kernel
theorem dX12_wouldClash_25 : decode cX12_wouldClash 25 = .ok (.aload_n 0, 1) := by decide +kernel
theorem dX12_wouldClash_26 : decode cX12_wouldClash 26 = .ok (.getfield 9, 3) := by decide +kernel
theorem dX12_wouldClash_29 : decode cX12_wouldClash 29 = .ok (.bipush 16, 2) := by decide +kernel
theorem dX12_wouldClash_31 : decode cX12_wouldClash 31 = .ok (.iload 4, 2) := by decide +kernel
theorem dX12_wouldClash_33 : decode cX12_wouldClash 33 = .ok (.iadd, 1) := by decide +kernel
theorem dX12_wouldClash_34 : decode cX12_wouldClash 34 = .ok (.iaload, 1) := by decide +kernel
theorem dX12_wouldClash_35 : decode cX12_wouldClash 35 = .ok (.invokevirtual 295, 3) := by decide +kernel
theorem dX12_wouldClash_38 : decode cX12_wouldClash 38 = .ok (.ifCond .eq 24, 3) := by decide +kernel
theorem dX12_wouldClash_41 : decode cX12_wouldClash 41 = .ok (.aload_n 0, 1) := by decide +kernel
theorem dX12_wouldClash_42 : decode cX12_wouldClash 42 = .ok (.aload_n 0, 1) := by decide +kernel
theorem dX12_wouldClash_43 : decode cX12_wouldClash 43 = .ok (.getfield 9, 3) := by decide +kernel
theorem dX12_wouldClash_46 : decode cX12_wouldClash 46 = .ok (.bipush 16, 2) := by decide +kernel
theorem dX12_wouldClash_48 : decode cX12_wouldClash 48 = .ok (.iload 5, 2) := by decide +kernel
theorem dX12_wouldClash_5 : decode cX12_wouldClash 5 = .ok (.istore 4, 2) := by decide +kernel
theorem dX12_wouldClash_50 : decode cX12_wouldClash 50 = .ok (.iadd, 1) := by decide +kernel
theorem dX12_wouldClash_51 : decode cX12_wouldClash 51 = .ok (.iaload, 1) := by decide +kernel
theorem dX12_wouldClash_52 : decode cX12_wouldClash 52 = .ok (.invokevirtual 295, 3) := by decide +kernel
theorem dX12_wouldClash_55 : decode cX12_wouldClash 55 = .ok (.ifCond .eq 7, 3) := by decide +kernel
theorem dX12_wouldClash_58 : decode cX12_wouldClash 58 = .ok (.iconst 1, 1) := by decide +kernel
theorem dX12_wouldClash_59 : decode cX12_wouldClash 59 = .ok (.goto 24, 3) := by decide +kernel
theorem dX12_wouldClash_62 : decode cX12_wouldClash 62 = .ok (.iconst 0, 1) := by decide +kernel
theorem dX12_wouldClash_63 : decode cX12_wouldClash 63 = .ok (.goto 20, 3) := by decide +kernel
theorem dX12_wouldClash_66 : decode cX12_wouldClash 66 = .ok (.aload_n 0, 1) := by decide +kernel
theorem dX12_wouldClash_67 : decode cX12_wouldClash 67 = .ok (.iload 4, 2) := by decide +kernel
theorem dX12_wouldClash_69 : decode cX12_wouldClash 69 = .ok (.iload 5, 2) := by decide +kernel
theorem dX12_wouldClash_7 : decode cX12_wouldClash 7 = .ok (.iload_n 1, 1) := by decide +kernel
theorem dX12_wouldClash_71 : decode cX12_wouldClash 71 = .ok (.iload_n 3, 1) := by decide +kernel
theorem dX12_wouldClash_72 : decode cX12_wouldClash 72 = .ok (.invokevirtual 313, 3) := by decide +kernel
theorem dX12_wouldClash_75 : decode cX12_wouldClash 75 = .ok (.ifCond .ne 7, 3) := by decide +kernel
theorem dX12_wouldClash_78 : decode cX12_wouldClash 78 = .ok (.iconst 1, 1) := by decide +kernel
theorem dX12_wouldClash_79 : decode cX12_wouldClash 79 = .ok (.goto 4, 3) := by decide +kernel
theorem dX12_wouldClash_8 : decode cX12_wouldClash 8 = .ok (.iload_n 2, 1) := by decide +kernel
theorem dX12_wouldClash_82 : decode cX12_wouldClash 82 = .ok (.iconst 0, 1) := by decide +kernel
theorem dX12_wouldClash_83 : decode cX12_wouldClash 83 = .ok (.ireturn, 1) := by decide +kernel
theorem dX12_wouldClash_9 : decode cX12_wouldClash 9 = .ok (.invokestatic 311, 3) := by decide +kernel
set_option maxRecDepth 4000 in
theorem k_X12_wordOf (l : Launch) (M : Mem) (hJ : Iw M) (x0 : Int) (hx0a : (-2147483648) ≤ x0) (hx0b : x0 ≤ 2147483647) (x1 : Int) (hx1a : 0 ≤ x1) (hx1b : x1 ≤ 7) (x2 : Int) (hx2a : 0 ≤ x2) (hx2b : x2 ≤ 7) (x3 : Int) (hx3a : 0 ≤ x3) (hx3b : x3 ≤ 1) : CI l yX12_wordOf cX12_wordOf 8 (some .int) 2 (fun ad => [.ref (ad 131), ii x0, ii x1, ii x2, ii x3]) M (fun z M' => ((-2147483648) ≤ z ∧ z ≤ 2147483647) ∧ M = M') := by
  obtain ⟨hI, hW⟩ := hJ
  refine en_i (by decide +kernel) (fun ad => by exact Nat.le_of_ble_eq_true rfl) (fun D cy ad A p e s m args below meth c Q F hret => ?_)
  refine z_eq (ls' := [(0, .ref (ad 131)), (1, ii x0), (2, ii x1), (3, ii x2), (4, ii x3)]) rfl rfl rfl ?_
  refine z_aload_n F dX12_wordOf_0 rfl (q := 0) rfl ?_
  refine rf_X12_9 F gs_131 rfl dX12_wordOf_1 ?_
  refine z_bipush F dX12_wordOf_4 (by decide +kernel) ?_
  refine z_iload_n F dX12_wordOf_6 rfl (q := 2) rfl ?_
  refine z_iadd F dX12_wordOf_7 ?_
  refine z_iald F hI gs_132 (by omega) (by omega) (by decide) (bd_132.trans (kn_any (by omega) (by omega))) dX12_wordOf_8 (fun v1 (ev1 : v1 = M 132 _) av1 bv1 => ?_)
  refine z_istore F dX12_wordOf_9 (by decide) (ls' := [(5, ii v1), (0, .ref (ad 131)), (1, ii x0), (2, ii x1), (3, ii x2), (4, ii x3)]) rfl ?_
  refine z_aload_n F dX12_wordOf_11 rfl (q := 1) rfl ?_
  refine rf_X12_9 F gs_131 rfl dX12_wordOf_12 ?_
  refine z_bipush F dX12_wordOf_15 (by decide +kernel) ?_
  refine z_iload_n F dX12_wordOf_17 rfl (q := 4) rfl ?_
  refine z_iadd F dX12_wordOf_18 ?_
  refine z_iald F hI gs_132 (by omega) (by omega) (by decide) (bd_132.trans (kn_any (by omega) (by omega))) dX12_wordOf_19 (fun v2 (ev2 : v2 = M 132 _) av2 bv2 => ?_)
  refine z_istore F dX12_wordOf_20 (by decide) (ls' := [(6, ii v2), (5, ii v1), (0, .ref (ad 131)), (1, ii x0), (2, ii x1), (3, ii x2), (4, ii x3)]) rfl ?_
  refine z_iconst F dX12_wordOf_22 ?_
  refine z_istore F dX12_wordOf_23 (by decide) (ls' := [(7, ii 0), (6, ii v2), (5, ii v1), (0, .ref (ad 131)), (1, ii x0), (2, ii x1), (3, ii x2), (4, ii x3)]) rfl ?_
  refine z_iload_n F dX12_wordOf_25 rfl (q := 4) rfl ?_
  rcases (show x0 = 0 ∨ x0 = 1 ∨ x0 = 2 ∨ x0 = 3 ∨ x0 = 4 ∨ x0 = 5 ∨ x0 = 6 ∨ (¬ x0 = 0 ∧ ¬ x0 = 1 ∧ ¬ x0 = 2 ∧ ¬ x0 = 3 ∧ ¬ x0 = 4 ∧ ¬ x0 = 5 ∧ ¬ x0 = 6) by omega) with c3 | c3 | c3 | c3 | c3 | c3 | c3 | c3
  · refine z_tabIn (tgt := 68) (off := 42) F dX12_wordOf_26 (by omega) (by omega) (by omega) (by rw [c3]; rfl) (by decide +kernel) ?_
    refine z_iload F dX12_wordOf_68 (q := 2) rfl ?_
    exact hret _ _ 70 _ (by omega) ⟨hI, hW⟩ ⟨⟨by omega, by omega⟩, rfl⟩ dX12_wordOf_70
  · refine z_tabIn (tgt := 71) (off := 45) F dX12_wordOf_26 (by omega) (by omega) (by omega) (by rw [c3]; rfl) (by decide +kernel) ?_
    refine z_iload F dX12_wordOf_71 (q := 1) rfl ?_
    exact hret _ _ 73 _ (by omega) ⟨hI, hW⟩ ⟨⟨by omega, by omega⟩, rfl⟩ dX12_wordOf_73
  · refine z_tabIn (tgt := 74) (off := 48) F dX12_wordOf_26 (by omega) (by omega) (by omega) (by rw [c3]; rfl) (by decide +kernel) ?_
    refine z_aload_n F dX12_wordOf_74 rfl (q := 3) rfl ?_
    refine z_iload F dX12_wordOf_75 (q := 2) rfl ?_
    refine zv_i (rest := []) F (k_X12_isOdd l M ⟨hI, hW⟩ v1 (by omega) (by omega)) cs_X12_295 (T := TX12) (N := 44) (ci := 12) rfl gs_131 (by decide) (by decide) rfl rfl rfl (Nat.le_of_ble_eq_true rfl) dX12_wordOf_77 (fun v4 M5 rv4 hI p6 => ?_)
    obtain ⟨hI, hW⟩ := hI
    obtain ⟨⟨av4, bv4⟩, rfl⟩ := p6
    refine z_istore F dX12_wordOf_80 (by decide) (ls' := [(7, ii v4), (6, ii v2), (5, ii v1), (0, .ref (ad 131)), (1, ii x0), (2, ii x1), (3, ii x2), (4, ii x3)]) rfl ?_
    refine z_goto (tgt := 153) F dX12_wordOf_82 (by decide +kernel) ?_
    refine z_iload F dX12_wordOf_153 (q := 0) rfl ?_
    refine z_if_eq (tgt := 162) F dX12_wordOf_155 (by decide +kernel) (by omega) (fun c7 => ?_) (fun c7 => ?_)
    · refine z_iconst F dX12_wordOf_162 ?_
      exact hret _ _ 163 _ (by omega) ⟨hI, hW⟩ ⟨⟨by omega, by omega⟩, rfl⟩ dX12_wordOf_163
    · refine z_iconst F dX12_wordOf_158 ?_
      refine z_goto (tgt := 163) F dX12_wordOf_159 (by decide +kernel) ?_
      exact hret _ _ 163 _ (by omega) ⟨hI, hW⟩ ⟨⟨by omega, by omega⟩, rfl⟩ dX12_wordOf_163
  · refine z_tabIn (tgt := 85) (off := 59) F dX12_wordOf_26 (by omega) (by omega) (by omega) (by rw [c3]; rfl) (by decide +kernel) ?_
    refine z_aload_n F dX12_wordOf_85 rfl (q := 3) rfl ?_
    refine z_iload F dX12_wordOf_86 (q := 1) rfl ?_
    refine zv_i (rest := []) F (k_X12_isOdd l M ⟨hI, hW⟩ v2 (by omega) (by omega)) cs_X12_295 (T := TX12) (N := 44) (ci := 12) rfl gs_131 (by decide) (by decide) rfl rfl rfl (Nat.le_of_ble_eq_true rfl) dX12_wordOf_88 (fun v8 M9 rv8 hI p10 => ?_)
    obtain ⟨hI, hW⟩ := hI
    obtain ⟨⟨av8, bv8⟩, rfl⟩ := p10
    refine z_istore F dX12_wordOf_91 (by decide) (ls' := [(7, ii v8), (6, ii v2), (5, ii v1), (0, .ref (ad 131)), (1, ii x0), (2, ii x1), (3, ii x2), (4, ii x3)]) rfl ?_
    refine z_goto (tgt := 153) F dX12_wordOf_93 (by decide +kernel) ?_
    refine z_iload F dX12_wordOf_153 (q := 0) rfl ?_
    refine z_if_eq (tgt := 162) F dX12_wordOf_155 (by decide +kernel) (by omega) (fun c11 => ?_) (fun c11 => ?_)
    · refine z_iconst F dX12_wordOf_162 ?_
      exact hret _ _ 163 _ (by omega) ⟨hI, hW⟩ ⟨⟨by omega, by omega⟩, rfl⟩ dX12_wordOf_163
    · refine z_iconst F dX12_wordOf_158 ?_
      refine z_goto (tgt := 163) F dX12_wordOf_159 (by decide +kernel) ?_
      exact hret _ _ 163 _ (by omega) ⟨hI, hW⟩ ⟨⟨by omega, by omega⟩, rfl⟩ dX12_wordOf_163
  · refine z_tabIn (tgt := 96) (off := 70) F dX12_wordOf_26 (by omega) (by omega) (by omega) (by rw [c3]; rfl) (by decide +kernel) ?_
    refine z_aload_n F dX12_wordOf_96 rfl (q := 3) rfl ?_
    refine z_iload F dX12_wordOf_97 (q := 2) rfl ?_
    refine zv_i (rest := []) F (k_X12_isEven l M ⟨hI, hW⟩ v1 (by omega) (by omega)) cs_X12_298 (T := TX12) (N := 44) (ci := 12) rfl gs_131 (by decide) (by decide) rfl rfl rfl (Nat.le_of_ble_eq_true rfl) dX12_wordOf_99 (fun v12 M13 rv12 hI p14 => ?_)
    obtain ⟨hI, hW⟩ := hI
    obtain ⟨⟨av12, bv12⟩, rfl⟩ := p14
    refine z_istore F dX12_wordOf_102 (by decide) (ls' := [(7, ii v12), (6, ii v2), (5, ii v1), (0, .ref (ad 131)), (1, ii x0), (2, ii x1), (3, ii x2), (4, ii x3)]) rfl ?_
    refine z_goto (tgt := 153) F dX12_wordOf_104 (by decide +kernel) ?_
    refine z_iload F dX12_wordOf_153 (q := 0) rfl ?_
    refine z_if_eq (tgt := 162) F dX12_wordOf_155 (by decide +kernel) (by omega) (fun c15 => ?_) (fun c15 => ?_)
    · refine z_iconst F dX12_wordOf_162 ?_
      exact hret _ _ 163 _ (by omega) ⟨hI, hW⟩ ⟨⟨by omega, by omega⟩, rfl⟩ dX12_wordOf_163
    · refine z_iconst F dX12_wordOf_158 ?_
      refine z_goto (tgt := 163) F dX12_wordOf_159 (by decide +kernel) ?_
      exact hret _ _ 163 _ (by omega) ⟨hI, hW⟩ ⟨⟨by omega, by omega⟩, rfl⟩ dX12_wordOf_163
  · refine z_tabIn (tgt := 107) (off := 81) F dX12_wordOf_26 (by omega) (by omega) (by omega) (by rw [c3]; rfl) (by decide +kernel) ?_
    refine z_aload_n F dX12_wordOf_107 rfl (q := 3) rfl ?_
    refine z_iload F dX12_wordOf_108 (q := 1) rfl ?_
    refine zv_i (rest := []) F (k_X12_isEven l M ⟨hI, hW⟩ v2 (by omega) (by omega)) cs_X12_298 (T := TX12) (N := 44) (ci := 12) rfl gs_131 (by decide) (by decide) rfl rfl rfl (Nat.le_of_ble_eq_true rfl) dX12_wordOf_110 (fun v16 M17 rv16 hI p18 => ?_)
    obtain ⟨hI, hW⟩ := hI
    obtain ⟨⟨av16, bv16⟩, rfl⟩ := p18
    refine z_istore F dX12_wordOf_113 (by decide) (ls' := [(7, ii v16), (6, ii v2), (5, ii v1), (0, .ref (ad 131)), (1, ii x0), (2, ii x1), (3, ii x2), (4, ii x3)]) rfl ?_
    refine z_goto (tgt := 153) F dX12_wordOf_115 (by decide +kernel) ?_
    refine z_iload F dX12_wordOf_153 (q := 0) rfl ?_
    refine z_if_eq (tgt := 162) F dX12_wordOf_155 (by decide +kernel) (by omega) (fun c19 => ?_) (fun c19 => ?_)
    · refine z_iconst F dX12_wordOf_162 ?_
      exact hret _ _ 163 _ (by omega) ⟨hI, hW⟩ ⟨⟨by omega, by omega⟩, rfl⟩ dX12_wordOf_163
    · refine z_iconst F dX12_wordOf_158 ?_
      refine z_goto (tgt := 163) F dX12_wordOf_159 (by decide +kernel) ?_
      exact hret _ _ 163 _ (by omega) ⟨hI, hW⟩ ⟨⟨by omega, by omega⟩, rfl⟩ dX12_wordOf_163
  · refine z_tabIn (tgt := 118) (off := 92) F dX12_wordOf_26 (by omega) (by omega) (by omega) (by rw [c3]; rfl) (by decide +kernel) ?_
    refine z_aload_n F dX12_wordOf_118 rfl (q := 3) rfl ?_
    refine rf_X12_9 F gs_131 rfl dX12_wordOf_119 ?_
    refine z_bipush F dX12_wordOf_122 (by decide +kernel) ?_
    refine z_iload_n F dX12_wordOf_124 rfl (q := 5) rfl ?_
    refine z_iadd F dX12_wordOf_125 ?_
    refine z_iald F hI gs_132 (by omega) (by omega) (by decide) (bd_132.trans (kn_any (by omega) (by omega))) dX12_wordOf_126 (fun v20 (ev20 : v20 = M 132 _) av20 bv20 => ?_)
    refine z_aload_n F dX12_wordOf_127 rfl (q := 3) rfl ?_
    refine rf_X12_9 F gs_131 rfl dX12_wordOf_128 ?_
    refine z_bipush F dX12_wordOf_131 (by decide +kernel) ?_
    refine z_iload_n F dX12_wordOf_133 rfl (q := 6) rfl ?_
    refine z_iadd F dX12_wordOf_134 ?_
    refine z_iald F hI gs_132 (by omega) (by omega) (by decide) (bd_132.trans (kn_any (by omega) (by omega))) dX12_wordOf_135 (fun v21 (ev21 : v21 = M 132 _) av21 bv21 => ?_)
    refine z_icmp_ne (tgt := 143) F dX12_wordOf_136 (by decide +kernel) (by omega) (by omega) (fun c22 => ?_) (fun c22 => ?_)
    · refine z_iconst F dX12_wordOf_143 ?_
      refine z_istore F dX12_wordOf_144 (by decide) (ls' := [(7, ii 0), (6, ii v2), (5, ii v1), (0, .ref (ad 131)), (1, ii x0), (2, ii x1), (3, ii x2), (4, ii x3)]) rfl ?_
      refine z_goto (tgt := 153) F dX12_wordOf_146 (by decide +kernel) ?_
      refine z_iload F dX12_wordOf_153 (q := 0) rfl ?_
      refine z_if_eq (tgt := 162) F dX12_wordOf_155 (by decide +kernel) (by omega) (fun c23 => ?_) (fun c23 => by exfalso; omega)
      refine z_iconst F dX12_wordOf_162 ?_
      exact hret _ _ 163 _ (by omega) ⟨hI, hW⟩ ⟨⟨by omega, by omega⟩, rfl⟩ dX12_wordOf_163
    · refine z_iconst F dX12_wordOf_139 ?_
      refine z_goto (tgt := 144) F dX12_wordOf_140 (by decide +kernel) ?_
      refine z_istore F dX12_wordOf_144 (by decide) (ls' := [(7, ii 1), (6, ii v2), (5, ii v1), (0, .ref (ad 131)), (1, ii x0), (2, ii x1), (3, ii x2), (4, ii x3)]) rfl ?_
      refine z_goto (tgt := 153) F dX12_wordOf_146 (by decide +kernel) ?_
      refine z_iload F dX12_wordOf_153 (q := 0) rfl ?_
      refine z_if_eq (tgt := 162) F dX12_wordOf_155 (by decide +kernel) (by omega) (fun c24 => by exfalso; omega) (fun c24 => ?_)
      refine z_iconst F dX12_wordOf_158 ?_
      refine z_goto (tgt := 163) F dX12_wordOf_159 (by decide +kernel) ?_
      exact hret _ _ 163 _ (by omega) ⟨hI, hW⟩ ⟨⟨by omega, by omega⟩, rfl⟩ dX12_wordOf_163
  · refine z_tabOut (tgt := 149) F dX12_wordOf_26 (by omega) (by omega) (by decide +kernel) ?_
    refine z_iload F dX12_wordOf_149 (q := 7) rfl ?_
    refine z_istore F dX12_wordOf_151 (by decide) (ls' := [(7, ii x3), (6, ii v2), (5, ii v1), (0, .ref (ad 131)), (1, ii x0), (2, ii x1), (3, ii x2), (4, ii x3)]) rfl ?_
    refine z_iload F dX12_wordOf_153 (q := 0) rfl ?_
    refine z_if_eq (tgt := 162) F dX12_wordOf_155 (by decide +kernel) (by omega) (fun c25 => ?_) (fun c25 => ?_)
    · refine z_iconst F dX12_wordOf_162 ?_
      exact hret _ _ 163 _ (by omega) ⟨hI, hW⟩ ⟨⟨by omega, by omega⟩, rfl⟩ dX12_wordOf_163
    · refine z_iconst F dX12_wordOf_158 ?_
      refine z_goto (tgt := 163) F dX12_wordOf_159 (by decide +kernel) ?_
      exact hret _ _ 163 _ (by omega) ⟨hI, hW⟩ ⟨⟨by omega, by omega⟩, rfl⟩ dX12_wordOf_163
set_option maxRecDepth 4000 in
theorem k_X12_holds (l : Launch) (M : Mem) (hJ : Iw M) (x0 : Int) (hx0a : 0 ≤ x0) (hx0b : x0 ≤ 7) (x1 : Int) (hx1a : 0 ≤ x1) (hx1b : x1 ≤ 7) (x2 : Int) (hx2a : 0 ≤ x2) (hx2b : x2 ≤ 1) : CI l yX12_holds cX12_holds 7 (some .boolean) 3 (fun ad => [.ref (ad 131), ii x0, ii x1, ii x2]) M (fun z M' => (0 ≤ z ∧ z ≤ 1) ∧ Fr [137] M M') := by
  obtain ⟨hI, hW⟩ := hJ
  have hF : Fr [137] M M := Fr.rf
  have hI0 := hI
  have hW0 := hW
  refine en_z (by decide +kernel) (fun ad => by exact Nat.le_of_ble_eq_true rfl) (fun D cy ad A p e s m args below meth c Q F hret => ?_)
  refine z_eq (ls' := [(0, .ref (ad 131)), (1, ii x0), (2, ii x1), (3, ii x2)]) rfl rfl rfl ?_
  refine z_iconst F dX12_holds_0 ?_
  refine z_istore F dX12_holds_1 (by decide) (ls' := [(4, ii 0), (0, .ref (ad 131)), (1, ii x0), (2, ii x1), (3, ii x2)]) rfl ?_
  refine z_iconst F dX12_holds_3 ?_
  refine z_istore F dX12_holds_4 (by decide) (ls' := [(5, ii 0), (4, ii 0), (0, .ref (ad 131)), (1, ii x0), (2, ii x1), (3, ii x2)]) rfl ?_
  refine z_loc [2, 3, 4, 5, 1, 0] (ls' := [(0, .ref (ad 131)), (1, ii x0), (2, ii x1), (3, ii x2), (4, ii 0), (5, ii 0)]) rfl ?_
  suffices key6 : ∀ (n : Nat) (y2 : Int) (y3 : Int) (M1 : Mem), Inv M1 → WFk M1 → Fr [137] M M1 → 0 ≤ y2 → y2 ≤ 64 → 0 ≤ y3 → y3 ≤ 900 → (y2 = Hs (M 132) y3.toNat) → 900 - y3 < (n : Int) → Z D cy ad p l e (RMh 3) s m args below meth c A 7 0 0 Q 6 [(0, .ref (ad 131)), (1, ii x0), (2, ii x1), (3, ii x2), (4, ii y2), (5, ii y3)] [] M1 from key6 901 0 0 M hI hW hF (by omega) (by omega) (by omega) (by omega) rfl (by omega)
  intro n6
  induction n6 with
  | zero => intro y2 y3 M1 hI hW hF ay2 by2 ay3 by3 i6_0 hn6; exfalso; omega
  | succ n6 ih6 =>
    intro y2 y3 M1 hI hW hF ay2 by2 ay3 by3 i6_0 hn6
    refine z_iload F dX12_holds_6 (q := 5) rfl ?_
    refine z_aload_n F dX12_holds_8 rfl (q := 0) rfl ?_
    refine rf_X12_9 F gs_131 rfl dX12_holds_9 ?_
    refine z_bipush F dX12_holds_12 (by decide +kernel) ?_
    refine z_iald F hI gs_132 (by omega) (by omega) (by decide) (show Bd 132 6 = (0, 900) from rfl) dX12_holds_14 (fun v4 (ev4 : v4 = M1 132 6) av4 bv4 => ?_)
    refine z_icmp_ge (tgt := 151) F dX12_holds_15 (by decide +kernel) (by omega) (by omega) (fun c5 => ?_) (fun c5 => ?_)
    · refine z_aload_n F dX12_holds_151 rfl (q := 0) rfl ?_
      refine rf_X12_30 F gs_131 rfl dX12_holds_152 ?_
      refine z_iconst F dX12_holds_155 ?_
      refine z_iald F hI gs_137 (by omega) (by omega) (by decide) bd_137 dX12_holds_156 (fun v6 (ev6 : v6 = M1 137 0) av6 bv6 => ?_)
      refine z_iconst F dX12_holds_157 ?_
      refine z_icmp_ne (tgt := 165) F dX12_holds_158 (by decide +kernel) (by omega) (by omega) (fun c7 => ?_) (fun c7 => ?_)
      · refine z_iconst F dX12_holds_165 ?_
        exact hret _ _ 166 _ ⟨by omega, by omega⟩ ⟨hI, hW⟩ ⟨⟨by omega, by omega⟩, hF⟩ dX12_holds_166
      · refine z_iconst F dX12_holds_161 ?_
        refine z_goto (tgt := 166) F dX12_holds_162 (by decide +kernel) ?_
        exact hret _ _ 166 _ ⟨by omega, by omega⟩ ⟨hI, hW⟩ ⟨⟨by omega, by omega⟩, hF⟩ dX12_holds_166
    · refine z_aload_n F dX12_holds_18 rfl (q := 0) rfl ?_
      refine rf_X12_9 F gs_131 rfl dX12_holds_19 ?_
      refine z_sipush F dX12_holds_22 (by decide +kernel) ?_
      refine z_iload F dX12_holds_25 (q := 5) rfl ?_
      refine z_iadd F dX12_holds_27 ?_
      refine z_iald F hI gs_132 (by omega) (by omega) (by decide) (bd_132.trans (kn_step (by omega))) dX12_holds_28 (fun v8 (ev8 : v8 = M1 132 _) av8 bv8 => ?_)
      refine z_istore F dX12_holds_29 (by decide) (ls' := [(6, ii v8), (0, .ref (ad 131)), (1, ii x0), (2, ii x1), (3, ii x2), (4, ii y2), (5, ii y3)]) rfl ?_
      have hq1 : M1 132 (384 + y3).toNat = M 132 (384 + y3).toNat := hF.at (by decide)
      have hq2 : M1 132 6 = M 132 6 := hF.at (by decide)
      have hh := hs_next hW0.1 (k := y3) (t := v8) (by omega) (by omega) (by omega)
      refine z_iload F dX12_holds_31 (q := 0) rfl ?_
      refine z_bipush F dX12_holds_33 (by decide +kernel) ?_
      refine z_icmp_lt (tgt := 80) F dX12_holds_35 (by decide +kernel) (by omega) (by omega) (fun c9 => ?_) (fun c9 => ?_)
      · refine z_iload F dX12_holds_80 (q := 0) rfl ?_
        refine z_bipush F dX12_holds_82 (by decide +kernel) ?_
        refine z_icmp_ne (tgt := 110) F dX12_holds_84 (by decide +kernel) (by omega) (by omega) (fun c10 => ?_) (fun c10 => ?_)
        · have k11 : 2 ≤ y2 ∧ y2 ≤ 64 := by omega
          refine z_iincN F dX12_holds_110 (q := 5) rfl (by decide) (fun v12 ev12 => ?_)
          refine z_eq (ls' := [(4, ii v12), (6, ii v8), (0, .ref (ad 131)), (1, ii x0), (2, ii x1), (3, ii x2), (5, ii y3)]) rfl rfl rfl ?_
          refine z_aload_n F dX12_holds_113 rfl (q := 2) rfl ?_
          refine rf_X12_30 F gs_131 rfl dX12_holds_114 ?_
          refine z_iload F dX12_holds_117 (q := 0) rfl ?_
          refine z_iconst F dX12_holds_119 ?_
          refine z_isub F dX12_holds_120 ?_
          refine z_iload F dX12_holds_121 (q := 1) rfl ?_
          refine z_aload_n F dX12_holds_123 rfl (q := 2) rfl ?_
          refine rf_X12_30 F gs_131 rfl dX12_holds_124 ?_
          refine z_iload F dX12_holds_127 (q := 0) rfl ?_
          refine z_iconst F dX12_holds_129 ?_
          refine z_isub F dX12_holds_130 ?_
          refine z_iald F hI gs_137 (by omega) (by omega) (by decide) bd_137 dX12_holds_131 (fun v13 (ev13 : v13 = M1 137 _) av13 bv13 => ?_)
          refine z_i2l F dX12_holds_132 (by omega) ?_
          refine z_aload_n F dX12_holds_133 rfl (q := 2) rfl ?_
          refine rf_X12_30 F gs_131 rfl dX12_holds_134 ?_
          refine z_iload F dX12_holds_137 (q := 0) rfl ?_
          refine z_iald F hI gs_137 (by omega) (by omega) (by decide) bd_137 dX12_holds_139 (fun v14 (ev14 : v14 = M1 137 _) av14 bv14 => ?_)
          refine z_i2l F dX12_holds_140 (by omega) ?_
          refine zs_i (rest := [ii (v12 - 1), .ref (ad 137)]) F (k_X12_done l M1 ⟨hI, hW⟩ v8 (by omega) (by omega) v13 (by omega) (by omega) v14 (by omega) (by omega)) cs_X12_305 (by decide) (by decide) rfl rfl rfl (Nat.le_of_ble_eq_true rfl) dX12_holds_141 (fun v15 M16 rv15 hI p17 => ?_)
          obtain ⟨hI, hW⟩ := hI
          obtain ⟨⟨av15, bv15⟩, rfl⟩ := p17
          refine z_iast F hI gs_137 (by omega) (by omega) (by decide) bd_137 dX12_holds_144 (by omega) (by omega) (fun M19 hI sf18 f18 => ?_)
          have hF := hF.wr f18 (by decide) (by decide)
          have hW : WFk M19 := hW.site f18 (by decide)
          refine z_iincN F dX12_holds_145 (q := 6) rfl (by decide) (fun v20 ev20 => ?_)
          refine z_eq (ls' := [(5, ii v20), (4, ii v12), (6, ii v8), (0, .ref (ad 131)), (1, ii x0), (2, ii x1), (3, ii x2)]) rfl rfl rfl ?_
          refine z_goto (tgt := 6) F dX12_holds_148 (by decide +kernel) ?_
          refine z_loc [3, 4, 5, 6, 1, 0] (ls' := [(0, .ref (ad 131)), (1, ii x0), (2, ii x1), (3, ii x2), (4, ii v12), (5, ii v20)]) rfl ?_
          have hk2 : Hs (M 132) v20.toNat = Hs (M 132) (y3 + 1).toNat := by rw [ev20]
          exact ih6 v12 v20 M19 hI hW hF (by omega) (by omega) (by omega) (by omega) (by omega) (by omega)
        · have k21 : 1 ≤ y2 ∧ y2 ≤ 64 := by omega
          refine z_aload_n F dX12_holds_87 rfl (q := 1) rfl ?_
          refine rf_X12_30 F gs_131 rfl dX12_holds_88 ?_
          refine z_iload F dX12_holds_91 (q := 5) rfl ?_
          refine z_iconst F dX12_holds_93 ?_
          refine z_isub F dX12_holds_94 ?_
          refine z_iconst F dX12_holds_95 ?_
          refine z_aload_n F dX12_holds_96 rfl (q := 1) rfl ?_
          refine rf_X12_30 F gs_131 rfl dX12_holds_97 ?_
          refine z_iload F dX12_holds_100 (q := 5) rfl ?_
          refine z_iconst F dX12_holds_102 ?_
          refine z_isub F dX12_holds_103 ?_
          refine z_iald F hI gs_137 (by omega) (by omega) (by decide) bd_137 dX12_holds_104 (fun v22 (ev22 : v22 = M1 137 _) av22 bv22 => ?_)
          refine z_isub F dX12_holds_105 ?_
          refine z_wrap (fun v23 rv23 wv23 => ?_)
          refine z_iast F hI gs_137 (by omega) (by omega) (by decide) bd_137 dX12_holds_106 (by omega) (by omega) (fun M25 hI sf24 f24 => ?_)
          have hF := hF.wr f24 (by decide) (by decide)
          have hW : WFk M25 := hW.site f24 (by decide)
          refine z_goto (tgt := 145) F dX12_holds_107 (by decide +kernel) ?_
          refine z_iincN F dX12_holds_145 (q := 6) rfl (by decide) (fun v26 ev26 => ?_)
          refine z_eq (ls' := [(5, ii v26), (6, ii v8), (0, .ref (ad 131)), (1, ii x0), (2, ii x1), (3, ii x2), (4, ii y2)]) rfl rfl rfl ?_
          refine z_goto (tgt := 6) F dX12_holds_148 (by decide +kernel) ?_
          refine z_loc [2, 3, 4, 5, 6, 0] (ls' := [(0, .ref (ad 131)), (1, ii x0), (2, ii x1), (3, ii x2), (4, ii y2), (5, ii v26)]) rfl ?_
          have hk2 : Hs (M 132) v26.toNat = Hs (M 132) (y3 + 1).toNat := by rw [ev26]
          exact ih6 y2 v26 M25 hI hW hF (by omega) (by omega) (by omega) (by omega) (by omega) (by omega)
      · refine z_aload_n F dX12_holds_38 rfl (q := 1) rfl ?_
        refine rf_X12_30 F gs_131 rfl dX12_holds_39 ?_
        refine z_iload F dX12_holds_42 (q := 5) rfl ?_
        refine z_iload F dX12_holds_44 (q := 0) rfl ?_
        refine z_sipush F dX12_holds_46 (by decide +kernel) ?_
        refine z_icmp_lt (tgt := 61) F dX12_holds_49 (by decide +kernel) (by omega) (by omega) (fun c27 => ?_) (fun c27 => ?_)
        · refine z_aload_n F dX12_holds_61 rfl (q := 1) rfl ?_
          refine z_iload F dX12_holds_62 (q := 0) rfl ?_
          refine z_bipush F dX12_holds_64 (by decide +kernel) ?_
          refine z_isub F dX12_holds_66 ?_
          refine z_iload_n F dX12_holds_67 rfl (q := 2) rfl ?_
          refine z_iload_n F dX12_holds_68 rfl (q := 3) rfl ?_
          refine z_iload_n F dX12_holds_69 rfl (q := 4) rfl ?_
          refine zv_i (rest := [ii y2, .ref (ad 137)]) F (k_X12_wordOf l M1 ⟨hI, hW⟩ (v8 - 100) (by omega) (by omega) x0 (by omega) (by omega) x1 (by omega) (by omega) x2 (by omega) (by omega)) cs_X12_301 (T := TX12) (N := 44) (ci := 12) rfl gs_131 (by decide) (by decide) rfl rfl rfl (Nat.le_of_ble_eq_true rfl) dX12_holds_70 (fun v28 M29 rv28 hI p30 => ?_)
          obtain ⟨hI, hW⟩ := hI
          obtain ⟨⟨av28, bv28⟩, rfl⟩ := p30
          have k31 : 0 ≤ y2 ∧ y2 ≤ 63 := by omega
          refine z_iast F hI gs_137 (by omega) (by omega) (by decide) bd_137 dX12_holds_73 (by omega) (by omega) (fun M33 hI sf32 f32 => ?_)
          have hF := hF.wr f32 (by decide) (by decide)
          have hW : WFk M33 := hW.site f32 (by decide)
          refine z_iincN F dX12_holds_74 (q := 5) rfl (by decide) (fun v34 ev34 => ?_)
          refine z_eq (ls' := [(4, ii v34), (6, ii v8), (0, .ref (ad 131)), (1, ii x0), (2, ii x1), (3, ii x2), (5, ii y3)]) rfl rfl rfl ?_
          refine z_goto (tgt := 145) F dX12_holds_77 (by decide +kernel) ?_
          refine z_iincN F dX12_holds_145 (q := 6) rfl (by decide) (fun v35 ev35 => ?_)
          refine z_eq (ls' := [(5, ii v35), (4, ii v34), (6, ii v8), (0, .ref (ad 131)), (1, ii x0), (2, ii x1), (3, ii x2)]) rfl rfl rfl ?_
          refine z_goto (tgt := 6) F dX12_holds_148 (by decide +kernel) ?_
          refine z_loc [3, 4, 5, 6, 1, 0] (ls' := [(0, .ref (ad 131)), (1, ii x0), (2, ii x1), (3, ii x2), (4, ii v34), (5, ii v35)]) rfl ?_
          have hk2 : Hs (M 132) v35.toNat = Hs (M 132) (y3 + 1).toNat := by rw [ev35]
          exact ih6 v34 v35 M33 hI hW hF (by omega) (by omega) (by omega) (by omega) (by omega) (by omega)
        · refine z_iload F dX12_holds_52 (q := 0) rfl ?_
          refine z_sipush F dX12_holds_54 (by decide +kernel) ?_
          refine z_isub F dX12_holds_57 ?_
          refine z_goto (tgt := 73) F dX12_holds_58 (by decide +kernel) ?_
          have k36 : 0 ≤ y2 ∧ y2 ≤ 63 := by omega
          refine z_nm (fun v38 ev38 => ?_)
          refine z_iast F hI gs_137 (by omega) (by omega) (by decide) bd_137 dX12_holds_73 (by omega) (by omega) (fun M39 hI sf37 f37 => ?_)
          have hF := hF.wr f37 (by decide) (by decide)
          have hW : WFk M39 := hW.site f37 (by decide)
          refine z_iincN F dX12_holds_74 (q := 5) rfl (by decide) (fun v40 ev40 => ?_)
          refine z_eq (ls' := [(4, ii v40), (6, ii v8), (0, .ref (ad 131)), (1, ii x0), (2, ii x1), (3, ii x2), (5, ii y3)]) rfl rfl rfl ?_
          refine z_goto (tgt := 145) F dX12_holds_77 (by decide +kernel) ?_
          refine z_iincN F dX12_holds_145 (q := 6) rfl (by decide) (fun v41 ev41 => ?_)
          refine z_eq (ls' := [(5, ii v41), (4, ii v40), (6, ii v8), (0, .ref (ad 131)), (1, ii x0), (2, ii x1), (3, ii x2)]) rfl rfl rfl ?_
          refine z_goto (tgt := 6) F dX12_holds_148 (by decide +kernel) ?_
          refine z_loc [3, 4, 5, 6, 1, 0] (ls' := [(0, .ref (ad 131)), (1, ii x0), (2, ii x1), (3, ii x2), (4, ii v40), (5, ii v41)]) rfl ?_
          have hk2 : Hs (M 132) v41.toNat = Hs (M 132) (y3 + 1).toNat := by rw [ev41]
          exact ih6 v40 v41 M39 hI hW hF (by omega) (by omega) (by omega) (by omega) (by omega) (by omega)
set_option maxRecDepth 4000 in
theorem k_X12_wouldClash (l : Launch) (M : Mem) (hJ : Iw M) (x0 : Int) (hx0a : 0 ≤ x0) (hx0b : x0 ≤ 7) (x1 : Int) (hx1a : 0 ≤ x1) (hx1b : x1 ≤ 7) (x2 : Int) (hx2a : 0 ≤ x2) (hx2b : x2 ≤ 1) : CI l yX12_wouldClash cX12_wouldClash 6 (some .boolean) 4 (fun ad => [.ref (ad 131), ii x0, ii x1, ii x2]) M (fun z M' => (0 ≤ z ∧ z ≤ 1) ∧ Fr [137] M M') := by
  obtain ⟨hI, hW⟩ := hJ
  have hF : Fr [137] M M := Fr.rf
  refine en_z (by decide +kernel) (fun ad => by exact Nat.le_of_ble_eq_true rfl) (fun D cy ad A p e s m args below meth c Q F hret => ?_)
  refine z_eq (ls' := [(0, .ref (ad 131)), (1, ii x0), (2, ii x1), (3, ii x2)]) rfl rfl rfl ?_
  refine z_iload_n F dX12_wouldClash_0 rfl (q := 1) rfl ?_
  refine z_iload_n F dX12_wouldClash_1 rfl (q := 2) rfl ?_
  refine z_min F mm_X12_309 (Nat.le_of_ble_eq_true rfl) dX12_wouldClash_2 (by omega) (by omega) (fun v1 ev1 => ?_)
  refine z_istore F dX12_wouldClash_5 (by decide) (ls' := [(4, ii v1), (0, .ref (ad 131)), (1, ii x0), (2, ii x1), (3, ii x2)]) rfl ?_
  refine z_iload_n F dX12_wouldClash_7 rfl (q := 2) rfl ?_
  refine z_iload_n F dX12_wouldClash_8 rfl (q := 3) rfl ?_
  refine z_max F mm_X12_311 (Nat.le_of_ble_eq_true rfl) dX12_wouldClash_9 (by omega) (by omega) (fun v2 ev2 => ?_)
  refine z_istore F dX12_wouldClash_12 (by decide) (ls' := [(5, ii v2), (4, ii v1), (0, .ref (ad 131)), (1, ii x0), (2, ii x1), (3, ii x2)]) rfl ?_
  refine z_aload_n F dX12_wouldClash_14 rfl (q := 2) rfl ?_
  refine rf_X12_9 F gs_131 rfl dX12_wouldClash_15 ?_
  refine z_bipush F dX12_wouldClash_18 (by decide +kernel) ?_
  refine z_iald F hI gs_132 (by omega) (by omega) (by decide) (show Bd 132 6 = (0, 900) from rfl) dX12_wouldClash_20 (fun v3 (ev3 : v3 = M 132 6) av3 bv3 => ?_)
  refine z_if_ne (tgt := 66) F dX12_wouldClash_21 (by decide +kernel) (by omega) (fun c4 => ?_) (fun c4 => ?_)
  · refine z_aload_n F dX12_wouldClash_66 rfl (q := 2) rfl ?_
    refine z_iload F dX12_wouldClash_67 (q := 1) rfl ?_
    refine z_iload F dX12_wouldClash_69 (q := 0) rfl ?_
    refine z_iload_n F dX12_wouldClash_71 rfl (q := 5) rfl ?_
    refine zv_i (rest := []) F (k_X12_holds l M ⟨hI, hW⟩ v1 (by omega) (by omega) v2 (by omega) (by omega) x2 (by omega) (by omega)) cs_X12_313 (T := TX12) (N := 44) (ci := 12) rfl gs_131 (by decide) (by decide) rfl rfl rfl (Nat.le_of_ble_eq_true rfl) dX12_wouldClash_72 (fun v5 M6 rv5 hI p7 => ?_)
    obtain ⟨hI, hW⟩ := hI
    obtain ⟨⟨av5, bv5⟩, fp7⟩ := p7
    have hF := hF.call fp7 (by decide)
    refine z_if_ne (tgt := 82) F dX12_wouldClash_75 (by decide +kernel) (by omega) (fun c8 => ?_) (fun c8 => ?_)
    · refine z_iconst F dX12_wouldClash_82 ?_
      exact hret _ _ 83 _ ⟨by omega, by omega⟩ ⟨hI, hW⟩ ⟨⟨by omega, by omega⟩, hF⟩ dX12_wouldClash_83
    · refine z_iconst F dX12_wouldClash_78 ?_
      refine z_goto (tgt := 83) F dX12_wouldClash_79 (by decide +kernel) ?_
      exact hret _ _ 83 _ ⟨by omega, by omega⟩ ⟨hI, hW⟩ ⟨⟨by omega, by omega⟩, hF⟩ dX12_wouldClash_83
  · refine z_aload_n F dX12_wouldClash_24 rfl (q := 2) rfl ?_
    refine z_aload_n F dX12_wouldClash_25 rfl (q := 2) rfl ?_
    refine rf_X12_9 F gs_131 rfl dX12_wouldClash_26 ?_
    refine z_bipush F dX12_wouldClash_29 (by decide +kernel) ?_
    refine z_iload F dX12_wouldClash_31 (q := 1) rfl ?_
    refine z_iadd F dX12_wouldClash_33 ?_
    refine z_iald F hI gs_132 (by omega) (by omega) (by decide) (bd_132.trans (kn_any (by omega) (by omega))) dX12_wouldClash_34 (fun v9 (ev9 : v9 = M 132 _) av9 bv9 => ?_)
    refine zv_i (rest := []) F (k_X12_isOdd l M ⟨hI, hW⟩ v9 (by omega) (by omega)) cs_X12_295 (T := TX12) (N := 44) (ci := 12) rfl gs_131 (by decide) (by decide) rfl rfl rfl (Nat.le_of_ble_eq_true rfl) dX12_wouldClash_35 (fun v10 M11 rv10 hI p12 => ?_)
    obtain ⟨hI, hW⟩ := hI
    obtain ⟨⟨av10, bv10⟩, rfl⟩ := p12
    refine z_if_eq (tgt := 62) F dX12_wouldClash_38 (by decide +kernel) (by omega) (fun c13 => ?_) (fun c13 => ?_)
    · refine z_iconst F dX12_wouldClash_62 ?_
      refine z_goto (tgt := 83) F dX12_wouldClash_63 (by decide +kernel) ?_
      exact hret _ _ 83 _ ⟨by omega, by omega⟩ ⟨hI, hW⟩ ⟨⟨by omega, by omega⟩, hF⟩ dX12_wouldClash_83
    · refine z_aload_n F dX12_wouldClash_41 rfl (q := 2) rfl ?_
      refine z_aload_n F dX12_wouldClash_42 rfl (q := 2) rfl ?_
      refine rf_X12_9 F gs_131 rfl dX12_wouldClash_43 ?_
      refine z_bipush F dX12_wouldClash_46 (by decide +kernel) ?_
      refine z_iload F dX12_wouldClash_48 (q := 0) rfl ?_
      refine z_iadd F dX12_wouldClash_50 ?_
      refine z_iald F hI gs_132 (by omega) (by omega) (by decide) (bd_132.trans (kn_any (by omega) (by omega))) dX12_wouldClash_51 (fun v14 (ev14 : v14 = M 132 _) av14 bv14 => ?_)
      refine zv_i (rest := []) F (k_X12_isOdd l M ⟨hI, hW⟩ v14 (by omega) (by omega)) cs_X12_295 (T := TX12) (N := 44) (ci := 12) rfl gs_131 (by decide) (by decide) rfl rfl rfl (Nat.le_of_ble_eq_true rfl) dX12_wouldClash_52 (fun v15 M16 rv15 hI p17 => ?_)
      obtain ⟨hI, hW⟩ := hI
      obtain ⟨⟨av15, bv15⟩, rfl⟩ := p17
      refine z_if_eq (tgt := 62) F dX12_wouldClash_55 (by decide +kernel) (by omega) (fun c18 => ?_) (fun c18 => ?_)
      · refine z_iconst F dX12_wouldClash_62 ?_
        refine z_goto (tgt := 83) F dX12_wouldClash_63 (by decide +kernel) ?_
        exact hret _ _ 83 _ ⟨by omega, by omega⟩ ⟨hI, hW⟩ ⟨⟨by omega, by omega⟩, hF⟩ dX12_wouldClash_83
      · refine z_iconst F dX12_wouldClash_58 ?_
        refine z_goto (tgt := 83) F dX12_wouldClash_59 (by decide +kernel) ?_
        exact hret _ _ 83 _ ⟨by omega, by omega⟩ ⟨hI, hW⟩ ⟨⟨by omega, by omega⟩, hF⟩ dX12_wouldClash_83
set_option maxRecDepth 4000 in
theorem k_X12_clashAt (l : Launch) (M : Mem) (hJ : Iw M) (x0 : Int) (hx0a : 0 ≤ x0) (hx0b : x0 ≤ 7) (x1 : Int) (hx1a : 0 ≤ x1) (hx1b : x1 ≤ 9) (x2 : Int) (hx2a : 0 ≤ x2) (hx2b : x2 ≤ 7) : CI l yX12_clashAt cX12_clashAt 5 (some .boolean) 5 (fun ad => [.ref (ad 131), ii x0, ii x1, ii x2]) M (fun z M' => (0 ≤ z ∧ z ≤ 1) ∧ Fr [137] M M') := by
  obtain ⟨hI, hW⟩ := hJ
  have hF : Fr [137] M M := Fr.rf
  refine en_z (by decide +kernel) (fun ad => by exact Nat.le_of_ble_eq_true rfl) (fun D cy ad A p e s m args below meth c Q F hret => ?_)
  refine z_eq (ls' := [(0, .ref (ad 131)), (1, ii x0), (2, ii x1), (3, ii x2)]) rfl rfl rfl ?_
  refine z_aload_n F dX12_clashAt_0 rfl (q := 0) rfl ?_
  refine z_iload_n F dX12_clashAt_1 rfl (q := 2) rfl ?_
  refine z_aload_n F dX12_clashAt_2 rfl (q := 0) rfl ?_
  refine z_iload_n F dX12_clashAt_3 rfl (q := 3) rfl ?_
  refine zv_i (rest := [ii x1, .ref (ad 131)]) F (k_X12_lies l M ⟨hI, hW⟩ x2 (by omega) (by omega)) cs_X12_317 (T := TX12) (N := 44) (ci := 12) rfl gs_131 (by decide) (by decide) rfl rfl rfl (Nat.le_of_ble_eq_true rfl) dX12_clashAt_4 (fun v1 M2 rv1 hI p3 => ?_)
  obtain ⟨hI, hW⟩ := hI
  obtain ⟨⟨av1, bv1⟩, rfl⟩ := p3
  refine zv_i (rest := []) F (k_X12_touch l M ⟨hI, hW⟩ x1 (by omega) (by omega) v1 (by omega) (by omega)) cs_X12_320 (T := TX12) (N := 44) (ci := 12) rfl gs_131 (by decide) (by decide) rfl rfl rfl (Nat.le_of_ble_eq_true rfl) dX12_clashAt_7 (fun v4 M5 rv4 hI p6 => ?_)
  obtain ⟨hI, hW⟩ := hI
  obtain ⟨⟨av4, bv4⟩, rfl, yp6⟩ := p6
  refine z_istore F dX12_clashAt_10 (by decide) (ls' := [(4, ii v4), (0, .ref (ad 131)), (1, ii x0), (2, ii x1), (3, ii x2)]) rfl ?_
  refine z_iload F dX12_clashAt_12 (q := 0) rfl ?_
  refine z_if_eq (tgt := 41) F dX12_clashAt_14 (by decide +kernel) (by omega) (fun c7 => ?_) (fun c7 => ?_)
  · refine z_iconst F dX12_clashAt_41 ?_
    exact hret _ _ 42 _ ⟨by omega, by omega⟩ ⟨hI, hW⟩ ⟨⟨by omega, by omega⟩, hF⟩ dX12_clashAt_42
  · refine z_aload_n F dX12_clashAt_17 rfl (q := 1) rfl ?_
    refine z_iload_n F dX12_clashAt_18 rfl (q := 2) rfl ?_
    refine z_iload_n F dX12_clashAt_19 rfl (q := 4) rfl ?_
    refine z_iload F dX12_clashAt_20 (q := 0) rfl ?_
    refine z_iconst F dX12_clashAt_22 ?_
    refine z_icmp_ne (tgt := 30) F dX12_clashAt_23 (by decide +kernel) (by omega) (by omega) (fun c8 => ?_) (fun c8 => ?_)
    · refine z_iconst F dX12_clashAt_30 ?_
      refine zv_i (rest := []) F (k_X12_wouldClash l M ⟨hI, hW⟩ x0 (by omega) (by omega) x2 (by omega) (by omega) 0 (by omega) (by omega)) cs_X12_322 (T := TX12) (N := 44) (ci := 12) rfl gs_131 (by decide) (by decide) rfl rfl rfl (Nat.le_of_ble_eq_true rfl) dX12_clashAt_31 (fun v9 M10 rv9 hI p11 => ?_)
      obtain ⟨hI, hW⟩ := hI
      obtain ⟨⟨av9, bv9⟩, fp11⟩ := p11
      have hF := hF.call fp11 (by decide)
      refine z_if_eq (tgt := 41) F dX12_clashAt_34 (by decide +kernel) (by omega) (fun c12 => ?_) (fun c12 => ?_)
      · refine z_iconst F dX12_clashAt_41 ?_
        exact hret _ _ 42 _ ⟨by omega, by omega⟩ ⟨hI, hW⟩ ⟨⟨by omega, by omega⟩, hF⟩ dX12_clashAt_42
      · refine z_iconst F dX12_clashAt_37 ?_
        refine z_goto (tgt := 42) F dX12_clashAt_38 (by decide +kernel) ?_
        exact hret _ _ 42 _ ⟨by omega, by omega⟩ ⟨hI, hW⟩ ⟨⟨by omega, by omega⟩, hF⟩ dX12_clashAt_42
    · refine z_iconst F dX12_clashAt_26 ?_
      refine z_goto (tgt := 31) F dX12_clashAt_27 (by decide +kernel) ?_
      refine zv_i (rest := []) F (k_X12_wouldClash l M ⟨hI, hW⟩ x0 (by omega) (by omega) x2 (by omega) (by omega) 1 (by omega) (by omega)) cs_X12_322 (T := TX12) (N := 44) (ci := 12) rfl gs_131 (by decide) (by decide) rfl rfl rfl (Nat.le_of_ble_eq_true rfl) dX12_clashAt_31 (fun v13 M14 rv13 hI p15 => ?_)
      obtain ⟨hI, hW⟩ := hI
      obtain ⟨⟨av13, bv13⟩, fp15⟩ := p15
      have hF := hF.call fp15 (by decide)
      refine z_if_eq (tgt := 41) F dX12_clashAt_34 (by decide +kernel) (by omega) (fun c16 => ?_) (fun c16 => ?_)
      · refine z_iconst F dX12_clashAt_41 ?_
        exact hret _ _ 42 _ ⟨by omega, by omega⟩ ⟨hI, hW⟩ ⟨⟨by omega, by omega⟩, hF⟩ dX12_clashAt_42
      · refine z_iconst F dX12_clashAt_37 ?_
        refine z_goto (tgt := 42) F dX12_clashAt_38 (by decide +kernel) ?_
        exact hret _ _ 42 _ ⟨by omega, by omega⟩ ⟨hI, hW⟩ ⟨⟨by omega, by omega⟩, hF⟩ dX12_clashAt_42
set_option maxRecDepth 4000 in
theorem k_X12_clashesOf (l : Launch) (M : Mem) (hJ : Iw M) (x0 : Int) (hx0a : 0 ≤ x0) (hx0b : x0 ≤ 7) (x1 : Int) (hx1a : 0 ≤ x1) (hx1b : x1 ≤ 9) : CI l yX12_clashesOf cX12_clashesOf 5 (some .int) 6 (fun ad => [.ref (ad 131), ii x0, ii x1]) M (fun z M' => (0 ≤ z ∧ z ≤ 255) ∧ Fr [137] M M') := by
  obtain ⟨hI, hW⟩ := hJ
  have hF : Fr [137] M M := Fr.rf
  refine en_i (by decide +kernel) (fun ad => by exact Nat.le_of_ble_eq_true rfl) (fun D cy ad A p e s m args below meth c Q F hret => ?_)
  refine z_eq (ls' := [(0, .ref (ad 131)), (1, ii x0), (2, ii x1)]) rfl rfl rfl ?_
  refine z_iconst F dX12_clashesOf_0 ?_
  refine z_istore_n F dX12_clashesOf_1 rfl (by decide) (ls' := [(3, ii 0), (0, .ref (ad 131)), (1, ii x0), (2, ii x1)]) rfl ?_
  refine z_iconst F dX12_clashesOf_2 ?_
  refine z_istore F dX12_clashesOf_3 (by decide) (ls' := [(4, ii 0), (3, ii 0), (0, .ref (ad 131)), (1, ii x0), (2, ii x1)]) rfl ?_
  refine z_loc [2, 3, 4, 1, 0] (ls' := [(0, .ref (ad 131)), (1, ii x0), (2, ii x1), (3, ii 0), (4, ii 0)]) rfl ?_
  suffices key5 : ∀ (n : Nat) (y2 : Int) (y3 : Int) (M1 : Mem), Inv M1 → WFk M1 → Fr [137] M M1 → 0 ≤ y2 → y2 ≤ 255 → 0 ≤ y3 → y3 ≤ 8 → 8 - y3 < (n : Int) → Z D cy ad p l e (RMh 6) s m args below meth c A 5 0 0 Q 5 [(0, .ref (ad 131)), (1, ii x0), (2, ii x1), (3, ii y2), (4, ii y3)] [] M1 from key5 9 0 0 M hI hW hF (by omega) (by omega) (by omega) (by omega) (by omega)
  intro n5
  induction n5 with
  | zero => intro y2 y3 M1 hI hW hF ay2 by2 ay3 by3 hn5; exfalso; omega
  | succ n5 ih5 =>
    intro y2 y3 M1 hI hW hF ay2 by2 ay3 by3 hn5
    refine z_iload F dX12_clashesOf_5 (q := 4) rfl ?_
    refine z_aload_n F dX12_clashesOf_7 rfl (q := 0) rfl ?_
    refine zv_i (rest := [ii y3]) F (k_X12_things l M1 ⟨hI, hW⟩) cs_X12_275 (T := TX12) (N := 44) (ci := 12) rfl gs_131 (by decide) (by decide) rfl rfl rfl (Nat.le_of_ble_eq_true rfl) dX12_clashesOf_8 (fun v4 M5 rv4 hI p6 => ?_)
    obtain ⟨hI, hW⟩ := hI
    obtain ⟨⟨av4, bv4⟩, rfl, xp6⟩ := p6
    refine z_icmp_ge (tgt := 48) F dX12_clashesOf_11 (by decide +kernel) (by omega) (by omega) (fun c7 => ?_) (fun c7 => ?_)
    · refine z_iload_n F dX12_clashesOf_48 rfl (q := 3) rfl ?_
      exact hret _ _ 49 _ (by omega) ⟨hI, hW⟩ ⟨⟨by omega, by omega⟩, hF⟩ dX12_clashesOf_49
    · refine z_iload_n F dX12_clashesOf_14 rfl (q := 3) rfl ?_
      refine z_iload F dX12_clashesOf_15 (q := 4) rfl ?_
      refine z_iload_n F dX12_clashesOf_17 rfl (q := 1) rfl ?_
      refine z_icmp_eq (tgt := 39) F dX12_clashesOf_18 (by decide +kernel) (by omega) (by omega) (fun c8 => ?_) (fun c8 => ?_)
      · refine z_iconst F dX12_clashesOf_39 ?_
        refine z_ior_k (k := 8) F dX12_clashesOf_40 (by decide) (by omega) (by omega) (by omega) (by omega) (fun v9 av9 bv9 => ?_)
        refine z_istore_n F dX12_clashesOf_41 rfl (by decide) (ls' := [(3, ii v9), (0, .ref (ad 131)), (1, ii x0), (2, ii x1), (4, ii y3)]) rfl ?_
        refine z_iincN F dX12_clashesOf_42 (q := 4) rfl (by decide) (fun v10 ev10 => ?_)
        refine z_eq (ls' := [(4, ii v10), (3, ii v9), (0, .ref (ad 131)), (1, ii x0), (2, ii x1)]) rfl rfl rfl ?_
        refine z_goto (tgt := 5) F dX12_clashesOf_45 (by decide +kernel) ?_
        refine z_loc [2, 3, 4, 1, 0] (ls' := [(0, .ref (ad 131)), (1, ii x0), (2, ii x1), (3, ii v9), (4, ii v10)]) rfl ?_
        exact ih5 v9 v10 M1 hI hW hF (by omega) (by omega) (by omega) (by omega) (by omega)
      · refine z_aload_n F dX12_clashesOf_21 rfl (q := 0) rfl ?_
        refine z_iload_n F dX12_clashesOf_22 rfl (q := 1) rfl ?_
        refine z_iload_n F dX12_clashesOf_23 rfl (q := 2) rfl ?_
        refine z_iload F dX12_clashesOf_24 (q := 4) rfl ?_
        refine zv_i (rest := [ii y2]) F (k_X12_clashAt l M1 ⟨hI, hW⟩ x0 (by omega) (by omega) x1 (by omega) (by omega) y3 (by omega) (by omega)) cs_X12_325 (T := TX12) (N := 44) (ci := 12) rfl gs_131 (by decide) (by decide) rfl rfl rfl (Nat.le_of_ble_eq_true rfl) dX12_clashesOf_26 (fun v11 M12 rv11 hI p13 => ?_)
        obtain ⟨hI, hW⟩ := hI
        obtain ⟨⟨av11, bv11⟩, fp13⟩ := p13
        have hF := hF.call fp13 (by decide)
        refine z_if_eq (tgt := 39) F dX12_clashesOf_29 (by decide +kernel) (by omega) (fun c14 => ?_) (fun c14 => ?_)
        · refine z_iconst F dX12_clashesOf_39 ?_
          refine z_ior_k (k := 8) F dX12_clashesOf_40 (by decide) (by omega) (by omega) (by omega) (by omega) (fun v15 av15 bv15 => ?_)
          refine z_istore_n F dX12_clashesOf_41 rfl (by decide) (ls' := [(3, ii v15), (0, .ref (ad 131)), (1, ii x0), (2, ii x1), (4, ii y3)]) rfl ?_
          refine z_iincN F dX12_clashesOf_42 (q := 4) rfl (by decide) (fun v16 ev16 => ?_)
          refine z_eq (ls' := [(4, ii v16), (3, ii v15), (0, .ref (ad 131)), (1, ii x0), (2, ii x1)]) rfl rfl rfl ?_
          refine z_goto (tgt := 5) F dX12_clashesOf_45 (by decide +kernel) ?_
          refine z_loc [2, 3, 4, 1, 0] (ls' := [(0, .ref (ad 131)), (1, ii x0), (2, ii x1), (3, ii v15), (4, ii v16)]) rfl ?_
          exact ih5 v15 v16 M12 hI hW hF (by omega) (by omega) (by omega) (by omega) (by omega)
        · refine z_iconst F dX12_clashesOf_32 ?_
          refine z_iload F dX12_clashesOf_33 (q := 4) rfl ?_
          refine z_shl1 (k := 7) F dX12_clashesOf_35 (by decide) (by omega) (by omega) (fun v17 ev17 av17 bv17 => ?_)
          refine z_goto (tgt := 40) F dX12_clashesOf_36 (by decide +kernel) ?_
          refine z_ior_k (k := 8) F dX12_clashesOf_40 (by decide) (by omega) (by omega) (by omega) (by omega) (fun v18 av18 bv18 => ?_)
          refine z_istore_n F dX12_clashesOf_41 rfl (by decide) (ls' := [(3, ii v18), (0, .ref (ad 131)), (1, ii x0), (2, ii x1), (4, ii y3)]) rfl ?_
          refine z_iincN F dX12_clashesOf_42 (q := 4) rfl (by decide) (fun v19 ev19 => ?_)
          refine z_eq (ls' := [(4, ii v19), (3, ii v18), (0, .ref (ad 131)), (1, ii x0), (2, ii x1)]) rfl rfl rfl ?_
          refine z_goto (tgt := 5) F dX12_clashesOf_45 (by decide +kernel) ?_
          refine z_loc [2, 3, 4, 1, 0] (ls' := [(0, .ref (ad 131)), (1, ii x0), (2, ii x1), (3, ii v18), (4, ii v19)]) rfl ?_
          exact ih5 v18 v19 M12 hI hW hF (by omega) (by omega) (by omega) (by omega) (by omega)
set_option maxRecDepth 4000 in
theorem k_X12_allClashes (l : Launch) (M : Mem) (hJ : Iw M) : CI l yX12_allClashes cX12_allClashes 3 (some .int) 7 (fun ad => [.ref (ad 131)]) M (fun z M' => ((-2147483648) ≤ z ∧ z ≤ 2147483647) ∧ Fr [137] M M') := by
  obtain ⟨hI, hW⟩ := hJ
  have hF : Fr [137] M M := Fr.rf
  refine en_i (by decide +kernel) (fun ad => by exact Nat.le_of_ble_eq_true rfl) (fun D cy ad A p e s m args below meth c Q F hret => ?_)
  refine z_eq (ls' := [(0, .ref (ad 131))]) rfl rfl rfl ?_
  refine z_iconst F dX12_allClashes_0 ?_
  refine z_istore_n F dX12_allClashes_1 rfl (by decide) (ls' := [(1, ii 0), (0, .ref (ad 131))]) rfl ?_
  refine z_iconst F dX12_allClashes_2 ?_
  refine z_istore_n F dX12_allClashes_3 rfl (by decide) (ls' := [(2, ii 0), (1, ii 0), (0, .ref (ad 131))]) rfl ?_
  refine z_loc [2, 1, 0] (ls' := [(0, .ref (ad 131)), (1, ii 0), (2, ii 0)]) rfl ?_
  suffices key4 : ∀ (n : Nat) (y2 : Int) (y3 : Int) (M1 : Mem), Inv M1 → WFk M1 → Fr [137] M M1 → (-2147483648) ≤ y2 → y2 ≤ 2147483647 → 0 ≤ y3 → y3 ≤ 8 → 8 - y3 < (n : Int) → Z D cy ad p l e (RMh 7) s m args below meth c A 3 0 0 Q 4 [(0, .ref (ad 131)), (1, ii y2), (2, ii y3)] [] M1 from key4 9 0 0 M hI hW hF (by omega) (by omega) (by omega) (by omega) (by omega)
  intro n4
  induction n4 with
  | zero => intro y2 y3 M1 hI hW hF ay2 by2 ay3 by3 hn4; exfalso; omega
  | succ n4 ih4 =>
    intro y2 y3 M1 hI hW hF ay2 by2 ay3 by3 hn4
    refine z_iload_n F dX12_allClashes_4 rfl (q := 2) rfl ?_
    refine z_aload_n F dX12_allClashes_5 rfl (q := 0) rfl ?_
    refine zv_i (rest := [ii y3]) F (k_X12_things l M1 ⟨hI, hW⟩) cs_X12_275 (T := TX12) (N := 44) (ci := 12) rfl gs_131 (by decide) (by decide) rfl rfl rfl (Nat.le_of_ble_eq_true rfl) dX12_allClashes_6 (fun v4 M5 rv4 hI p6 => ?_)
    obtain ⟨hI, hW⟩ := hI
    obtain ⟨⟨av4, bv4⟩, rfl, xp6⟩ := p6
    refine z_icmp_ge (tgt := 34) F dX12_allClashes_9 (by decide +kernel) (by omega) (by omega) (fun c7 => ?_) (fun c7 => ?_)
    · refine z_iload_n F dX12_allClashes_34 rfl (q := 1) rfl ?_
      refine z_iconst F dX12_allClashes_35 ?_
      refine z_idiv0 F dX12_allClashes_36 (by decide) (fun v8 _ rv8 => ?_)
      exact hret _ _ 37 _ (by omega) ⟨hI, hW⟩ ⟨⟨by omega, by omega⟩, hF⟩ dX12_allClashes_37
    · refine z_iload_n F dX12_allClashes_12 rfl (q := 1) rfl ?_
      refine z_aload_n F dX12_allClashes_13 rfl (q := 0) rfl ?_
      refine z_iload_n F dX12_allClashes_14 rfl (q := 2) rfl ?_
      refine z_aload_n F dX12_allClashes_15 rfl (q := 0) rfl ?_
      refine z_iload_n F dX12_allClashes_16 rfl (q := 2) rfl ?_
      refine zv_i (rest := [ii y3, .ref (ad 131), ii y2]) F (k_X12_lies l M1 ⟨hI, hW⟩ y3 (by omega) (by omega)) cs_X12_317 (T := TX12) (N := 44) (ci := 12) rfl gs_131 (by decide) (by decide) rfl rfl rfl (Nat.le_of_ble_eq_true rfl) dX12_allClashes_17 (fun v9 M10 rv9 hI p11 => ?_)
      obtain ⟨hI, hW⟩ := hI
      obtain ⟨⟨av9, bv9⟩, rfl⟩ := p11
      refine zv_i (rest := [ii y2]) F (k_X12_clashesOf l M1 ⟨hI, hW⟩ y3 (by omega) (by omega) v9 (by omega) (by omega)) cs_X12_329 (T := TX12) (N := 44) (ci := 12) rfl gs_131 (by decide) (by decide) rfl rfl rfl (Nat.le_of_ble_eq_true rfl) dX12_allClashes_20 (fun v12 M13 rv12 hI p14 => ?_)
      obtain ⟨hI, hW⟩ := hI
      obtain ⟨⟨av12, bv12⟩, fp14⟩ := p14
      have hF := hF.call fp14 (by decide)
      refine zs_i (rest := [ii y2]) F (k_X12_size l M13 ⟨hI, hW⟩ v12 (by omega) (by omega)) cs_X12_332 (by decide) (by decide) rfl rfl rfl (Nat.le_of_ble_eq_true rfl) dX12_allClashes_23 (fun v15 M16 rv15 hI p17 => ?_)
      obtain ⟨hI, hW⟩ := hI
      obtain ⟨⟨av15, bv15⟩, rfl, xp17, yp17⟩ := p17
      refine z_iadd F dX12_allClashes_26 ?_
      refine z_wrap (fun v18 rv18 wv18 => ?_)
      refine z_istore_n F dX12_allClashes_27 rfl (by decide) (ls' := [(1, ii v18), (0, .ref (ad 131)), (2, ii y3)]) rfl ?_
      refine z_iincN F dX12_allClashes_28 (q := 2) rfl (by decide) (fun v19 ev19 => ?_)
      refine z_eq (ls' := [(2, ii v19), (1, ii v18), (0, .ref (ad 131))]) rfl rfl rfl ?_
      refine z_goto (tgt := 4) F dX12_allClashes_31 (by decide +kernel) ?_
      refine z_loc [2, 1, 0] (ls' := [(0, .ref (ad 131)), (1, ii v18), (2, ii v19)]) rfl ?_
      exact ih4 v18 v19 M13 hI hW hF (by omega) (by omega) (by omega) (by omega) (by omega)
set_option maxRecDepth 4000 in
theorem k_X12_thing (l : Launch) (M : Mem) (hJ : Iw M) (x0 : Int) (hx0a : (-2147483648) ≤ x0) (hx0b : x0 ≤ 2147483647) (x1 : Int) (hx1a : (-2147483648) ≤ x1) (hx1b : x1 ≤ 2147483647) : CI l yX12_thing cX12_thing 3 (some .int) 7 (fun ad => [.ref (ad 131), ii x0, ii x1]) M (fun z M' => ((-2147483648) ≤ z ∧ z ≤ 2147483647) ∧ Fr [131, 137] M M') := by
  obtain ⟨hI, hW⟩ := hJ
  have hF : Fr [131, 137] M M := Fr.rf
  refine en_i (by decide +kernel) (fun ad => by exact Nat.le_of_ble_eq_true rfl) (fun D cy ad A p e s m args below meth c Q F hret => ?_)
  refine z_eq (ls' := [(0, .ref (ad 131)), (1, ii x0), (2, ii x1)]) rfl rfl rfl ?_
  refine z_aload_n F dX12_thing_0 rfl (q := 0) rfl ?_
  refine z_aload_n F dX12_thing_1 rfl (q := 0) rfl ?_
  refine z_iload_n F dX12_thing_2 rfl (q := 1) rfl ?_
  refine z_i2l F dX12_thing_3 (by omega) ?_
  refine zv_i (rest := [.ref (ad 131)]) F (k_X12_isThing l M ⟨hI, hW⟩ x0 (by omega) (by omega)) cs_X12_335 (T := TX12) (N := 44) (ci := 12) rfl gs_131 (by decide) (by decide) rfl rfl rfl (Nat.le_of_ble_eq_true rfl) dX12_thing_4 (fun v1 M2 rv1 hI p3 => ?_)
  obtain ⟨hI, hW⟩ := hI
  obtain ⟨⟨av1, bv1⟩, rfl, xp3⟩ := p3
  refine z_if_ne (tgt := 14) F dX12_thing_7 (by decide +kernel) (by omega) (fun c4 => ?_) (fun c4 => ?_)
  · refine z_iload_n F dX12_thing_14 rfl (q := 2) rfl ?_
    refine z_i2l F dX12_thing_15 (by omega) ?_
    refine z_lconst (x := 0) F dX12_thing_16 (by decide +kernel) ?_
    refine z_ldc2 (x := 7) F dX12_thing_17 (gin lm_88 rfl) (by decide +kernel) ?_
    refine zs_i (rest := [.ref (ad 131)]) F (k_X12_within l M ⟨hI, hW⟩ x1 (by omega) (by omega) 0 (by omega) (by omega) 7 (by omega) (by omega)) cs_X12_137 (by decide) (by decide) rfl rfl rfl (Nat.le_of_ble_eq_true rfl) dX12_thing_20 (fun v5 M6 rv5 hI p7 => ?_)
    obtain ⟨hI, hW⟩ := hI
    obtain ⟨⟨av5, bv5⟩, rfl, xp7⟩ := p7
    refine z_if_eq (tgt := 30) F dX12_thing_23 (by decide +kernel) (by omega) (fun c8 => ?_) (fun c8 => ?_)
    · refine z_iconst F dX12_thing_30 ?_
      refine pf_X12_73 F hI gs_131 rfl bd_131_4 rfl rfl dX12_thing_31 (by omega) (by omega) (fun M10 hI sf9 f9 => ?_)
      have hF := hF.wrf f9 (by decide) (by decide)
      have hW : WFk M10 := hW.site f9 (by decide)
      refine z_aload_n F dX12_thing_34 rfl (q := 0) rfl ?_
      refine gf_X12_73 F hI gs_131 rfl bd_131_4 dX12_thing_35 (fun v11 ev11 av11 bv11 => ?_)
      have zv11 : 2 = v11 := sf9.symm.trans ev11.symm
      subst zv11
      refine z_if_le (tgt := 43) F dX12_thing_38 (by decide +kernel) (by omega) (fun c12 => by exfalso; omega) (fun c12 => ?_)
      refine z_iconst F dX12_thing_41 ?_
      exact hret _ _ 42 _ (by omega) ⟨hI, hW⟩ ⟨⟨by omega, by omega⟩, hF⟩ dX12_thing_42
    · refine z_iconst F dX12_thing_26 ?_
      refine z_goto (tgt := 31) F dX12_thing_27 (by decide +kernel) ?_
      refine pf_X12_73 F hI gs_131 rfl bd_131_4 rfl rfl dX12_thing_31 (by omega) (by omega) (fun M14 hI sf13 f13 => ?_)
      have hF := hF.wrf f13 (by decide) (by decide)
      have hW : WFk M14 := hW.site f13 (by decide)
      refine z_aload_n F dX12_thing_34 rfl (q := 0) rfl ?_
      refine gf_X12_73 F hI gs_131 rfl bd_131_4 dX12_thing_35 (fun v15 ev15 av15 bv15 => ?_)
      have zv15 : 0 = v15 := sf13.symm.trans ev15.symm
      subst zv15
      refine z_if_le (tgt := 43) F dX12_thing_38 (by decide +kernel) (by omega) (fun c16 => ?_) (fun c16 => by exfalso; omega)
      refine z_iload_n F dX12_thing_43 rfl (q := 2) rfl ?_
      rcases (show x1 = 0 ∨ x1 = 1 ∨ x1 = 2 ∨ x1 = 3 ∨ x1 = 4 ∨ x1 = 5 ∨ x1 = 6 ∨ (¬ x1 = 0 ∧ ¬ x1 = 1 ∧ ¬ x1 = 2 ∧ ¬ x1 = 3 ∧ ¬ x1 = 4 ∧ ¬ x1 = 5 ∧ ¬ x1 = 6) by omega) with c17 | c17 | c17 | c17 | c17 | c17 | c17 | c17
      · refine z_tabIn (tgt := 88) (off := 44) F dX12_thing_44 (by omega) (by omega) (by omega) (by rw [c17]; rfl) (by decide +kernel) ?_
        refine z_aload_n F dX12_thing_88 rfl (q := 0) rfl ?_
        refine z_iload_n F dX12_thing_89 rfl (q := 1) rfl ?_
        refine zv_i (rest := []) F (k_X12_lies l M14 ⟨hI, hW⟩ x0 (by omega) (by omega)) cs_X12_317 (T := TX12) (N := 44) (ci := 12) rfl gs_131 (by decide) (by decide) rfl rfl rfl (Nat.le_of_ble_eq_true rfl) dX12_thing_90 (fun v18 M19 rv18 hI p20 => ?_)
        obtain ⟨hI, hW⟩ := hI
        obtain ⟨⟨av18, bv18⟩, rfl⟩ := p20
        exact hret _ _ 93 _ (by omega) ⟨hI, hW⟩ ⟨⟨by omega, by omega⟩, hF⟩ dX12_thing_93
      · refine z_tabIn (tgt := 94) (off := 50) F dX12_thing_44 (by omega) (by omega) (by omega) (by rw [c17]; rfl) (by decide +kernel) ?_
        refine z_aload_n F dX12_thing_94 rfl (q := 0) rfl ?_
        refine rf_X12_9 F gs_131 rfl dX12_thing_95 ?_
        refine z_bipush F dX12_thing_98 (by decide +kernel) ?_
        refine z_iload_n F dX12_thing_100 rfl (q := 1) rfl ?_
        refine z_iadd F dX12_thing_101 ?_
        refine z_iald F hI gs_132 (by omega) (by omega) (by decide) (bd_132.trans (kn_any (by omega) (by omega))) dX12_thing_102 (fun v21 (ev21 : v21 = M14 132 _) av21 bv21 => ?_)
        exact hret _ _ 103 _ (by omega) ⟨hI, hW⟩ ⟨⟨by omega, by omega⟩, hF⟩ dX12_thing_103
      · refine z_tabIn (tgt := 104) (off := 60) F dX12_thing_44 (by omega) (by omega) (by omega) (by rw [c17]; rfl) (by decide +kernel) ?_
        refine z_aload_n F dX12_thing_104 rfl (q := 0) rfl ?_
        refine rf_X12_9 F gs_131 rfl dX12_thing_105 ?_
        refine z_bipush F dX12_thing_108 (by decide +kernel) ?_
        refine z_iload_n F dX12_thing_110 rfl (q := 1) rfl ?_
        refine z_iadd F dX12_thing_111 ?_
        refine z_iald F hI gs_132 (by omega) (by omega) (by decide) (bd_132.trans (kn_any (by omega) (by omega))) dX12_thing_112 (fun v22 (ev22 : v22 = M14 132 _) av22 bv22 => ?_)
        exact hret _ _ 113 _ (by omega) ⟨hI, hW⟩ ⟨⟨by omega, by omega⟩, hF⟩ dX12_thing_113
      · refine z_tabIn (tgt := 114) (off := 70) F dX12_thing_44 (by omega) (by omega) (by omega) (by rw [c17]; rfl) (by decide +kernel) ?_
        refine z_aload_n F dX12_thing_114 rfl (q := 0) rfl ?_
        refine rf_X12_9 F gs_131 rfl dX12_thing_115 ?_
        refine z_bipush F dX12_thing_118 (by decide +kernel) ?_
        refine z_iload_n F dX12_thing_120 rfl (q := 1) rfl ?_
        refine z_iadd F dX12_thing_121 ?_
        refine z_iald F hI gs_132 (by omega) (by omega) (by decide) (bd_132.trans (kn_any (by omega) (by omega))) dX12_thing_122 (fun v23 (ev23 : v23 = M14 132 _) av23 bv23 => ?_)
        exact hret _ _ 123 _ (by omega) ⟨hI, hW⟩ ⟨⟨by omega, by omega⟩, hF⟩ dX12_thing_123
      · refine z_tabIn (tgt := 124) (off := 80) F dX12_thing_44 (by omega) (by omega) (by omega) (by rw [c17]; rfl) (by decide +kernel) ?_
        refine z_aload_n F dX12_thing_124 rfl (q := 0) rfl ?_
        refine rf_X12_9 F gs_131 rfl dX12_thing_125 ?_
        refine z_bipush F dX12_thing_128 (by decide +kernel) ?_
        refine z_iload_n F dX12_thing_130 rfl (q := 1) rfl ?_
        refine z_iadd F dX12_thing_131 ?_
        refine z_iald F hI gs_132 (by omega) (by omega) (by decide) (bd_132.trans (kn_any (by omega) (by omega))) dX12_thing_132 (fun v24 (ev24 : v24 = M14 132 _) av24 bv24 => ?_)
        exact hret _ _ 133 _ (by omega) ⟨hI, hW⟩ ⟨⟨by omega, by omega⟩, hF⟩ dX12_thing_133
      · refine z_tabIn (tgt := 134) (off := 90) F dX12_thing_44 (by omega) (by omega) (by omega) (by rw [c17]; rfl) (by decide +kernel) ?_
        refine z_aload_n F dX12_thing_134 rfl (q := 0) rfl ?_
        refine z_aload_n F dX12_thing_135 rfl (q := 0) rfl ?_
        refine rf_X12_9 F gs_131 rfl dX12_thing_136 ?_
        refine z_bipush F dX12_thing_139 (by decide +kernel) ?_
        refine z_iload_n F dX12_thing_141 rfl (q := 1) rfl ?_
        refine z_iadd F dX12_thing_142 ?_
        refine z_iald F hI gs_132 (by omega) (by omega) (by decide) (bd_132.trans (kn_any (by omega) (by omega))) dX12_thing_143 (fun v25 (ev25 : v25 = M14 132 _) av25 bv25 => ?_)
        refine zv_i (rest := []) F (k_X12_isOdd l M14 ⟨hI, hW⟩ v25 (by omega) (by omega)) cs_X12_295 (T := TX12) (N := 44) (ci := 12) rfl gs_131 (by decide) (by decide) rfl rfl rfl (Nat.le_of_ble_eq_true rfl) dX12_thing_144 (fun v26 M27 rv26 hI p28 => ?_)
        obtain ⟨hI, hW⟩ := hI
        obtain ⟨⟨av26, bv26⟩, rfl⟩ := p28
        refine z_if_eq (tgt := 154) F dX12_thing_147 (by decide +kernel) (by omega) (fun c29 => ?_) (fun c29 => ?_)
        · refine z_iconst F dX12_thing_154 ?_
          exact hret _ _ 155 _ (by omega) ⟨hI, hW⟩ ⟨⟨by omega, by omega⟩, hF⟩ dX12_thing_155
        · refine z_iconst F dX12_thing_150 ?_
          refine z_goto (tgt := 155) F dX12_thing_151 (by decide +kernel) ?_
          exact hret _ _ 155 _ (by omega) ⟨hI, hW⟩ ⟨⟨by omega, by omega⟩, hF⟩ dX12_thing_155
      · refine z_tabIn (tgt := 156) (off := 112) F dX12_thing_44 (by omega) (by omega) (by omega) (by rw [c17]; rfl) (by decide +kernel) ?_
        refine z_aload_n F dX12_thing_156 rfl (q := 0) rfl ?_
        refine z_aload_n F dX12_thing_157 rfl (q := 0) rfl ?_
        refine rf_X12_9 F gs_131 rfl dX12_thing_158 ?_
        refine z_bipush F dX12_thing_161 (by decide +kernel) ?_
        refine z_iload_n F dX12_thing_163 rfl (q := 1) rfl ?_
        refine z_iadd F dX12_thing_164 ?_
        refine z_iald F hI gs_132 (by omega) (by omega) (by decide) (bd_132.trans (kn_any (by omega) (by omega))) dX12_thing_165 (fun v30 (ev30 : v30 = M14 132 _) av30 bv30 => ?_)
        refine zv_i (rest := []) F (k_X12_isEven l M14 ⟨hI, hW⟩ v30 (by omega) (by omega)) cs_X12_298 (T := TX12) (N := 44) (ci := 12) rfl gs_131 (by decide) (by decide) rfl rfl rfl (Nat.le_of_ble_eq_true rfl) dX12_thing_166 (fun v31 M32 rv31 hI p33 => ?_)
        obtain ⟨hI, hW⟩ := hI
        obtain ⟨⟨av31, bv31⟩, rfl⟩ := p33
        refine z_if_eq (tgt := 176) F dX12_thing_169 (by decide +kernel) (by omega) (fun c34 => ?_) (fun c34 => ?_)
        · refine z_iconst F dX12_thing_176 ?_
          exact hret _ _ 177 _ (by omega) ⟨hI, hW⟩ ⟨⟨by omega, by omega⟩, hF⟩ dX12_thing_177
        · refine z_iconst F dX12_thing_172 ?_
          refine z_goto (tgt := 177) F dX12_thing_173 (by decide +kernel) ?_
          exact hret _ _ 177 _ (by omega) ⟨hI, hW⟩ ⟨⟨by omega, by omega⟩, hF⟩ dX12_thing_177
      · refine z_tabOut (tgt := 178) F dX12_thing_44 (by omega) (by omega) (by decide +kernel) ?_
        refine z_aload_n F dX12_thing_178 rfl (q := 0) rfl ?_
        refine z_iload_n F dX12_thing_179 rfl (q := 1) rfl ?_
        refine z_aload_n F dX12_thing_180 rfl (q := 0) rfl ?_
        refine z_iload_n F dX12_thing_181 rfl (q := 1) rfl ?_
        refine zv_i (rest := [ii x0, .ref (ad 131)]) F (k_X12_lies l M14 ⟨hI, hW⟩ x0 (by omega) (by omega)) cs_X12_317 (T := TX12) (N := 44) (ci := 12) rfl gs_131 (by decide) (by decide) rfl rfl rfl (Nat.le_of_ble_eq_true rfl) dX12_thing_182 (fun v35 M36 rv35 hI p37 => ?_)
        obtain ⟨hI, hW⟩ := hI
        obtain ⟨⟨av35, bv35⟩, rfl⟩ := p37
        refine zv_i (rest := []) F (k_X12_clashesOf l M14 ⟨hI, hW⟩ x0 (by omega) (by omega) v35 (by omega) (by omega)) cs_X12_329 (T := TX12) (N := 44) (ci := 12) rfl gs_131 (by decide) (by decide) rfl rfl rfl (Nat.le_of_ble_eq_true rfl) dX12_thing_185 (fun v38 M39 rv38 hI p40 => ?_)
        obtain ⟨hI, hW⟩ := hI
        obtain ⟨⟨av38, bv38⟩, fp40⟩ := p40
        have hF := hF.call fp40 (by decide)
        exact hret _ _ 188 _ (by omega) ⟨hI, hW⟩ ⟨⟨by omega, by omega⟩, hF⟩ dX12_thing_188
  · refine z_iconst F dX12_thing_10 ?_
    refine z_goto (tgt := 31) F dX12_thing_11 (by decide +kernel) ?_
    refine pf_X12_73 F hI gs_131 rfl bd_131_4 rfl rfl dX12_thing_31 (by omega) (by omega) (fun M42 hI sf41 f41 => ?_)
    have hF := hF.wrf f41 (by decide) (by decide)
    have hW : WFk M42 := hW.site f41 (by decide)
    refine z_aload_n F dX12_thing_34 rfl (q := 0) rfl ?_
    refine gf_X12_73 F hI gs_131 rfl bd_131_4 dX12_thing_35 (fun v43 ev43 av43 bv43 => ?_)
    have zv43 : 1 = v43 := sf41.symm.trans ev43.symm
    subst zv43
    refine z_if_le (tgt := 43) F dX12_thing_38 (by decide +kernel) (by omega) (fun c44 => by exfalso; omega) (fun c44 => ?_)
    refine z_iconst F dX12_thing_41 ?_
    exact hret _ _ 42 _ (by omega) ⟨hI, hW⟩ ⟨⟨by omega, by omega⟩, hF⟩ dX12_thing_42
set_option maxRecDepth 4000 in
theorem k_X12_place (l : Launch) (M : Mem) (hJ : Iw M) (x0 : Int) (hx0a : (-2147483648) ≤ x0) (hx0b : x0 ≤ 2147483647) (x1 : Int) (hx1a : (-2147483648) ≤ x1) (hx1b : x1 ≤ 2147483647) : CI l yX12_place cX12_place 5 (some .int) 3 (fun ad => [.ref (ad 131), ii x0, ii x1]) M (fun z M' => ((-1) ≤ z ∧ z ≤ 1023) ∧ Fr [131] M M') := by
  obtain ⟨hI, hW⟩ := hJ
  have hF : Fr [131] M M := Fr.rf
  refine en_i (by decide +kernel) (fun ad => by exact Nat.le_of_ble_eq_true rfl) (fun D cy ad A p e s m args below meth c Q F hret => ?_)
  refine z_eq (ls' := [(0, .ref (ad 131)), (1, ii x0), (2, ii x1)]) rfl rfl rfl ?_
  refine z_aload_n F dX12_place_0 rfl (q := 0) rfl ?_
  refine z_aload_n F dX12_place_1 rfl (q := 0) rfl ?_
  refine z_iload_n F dX12_place_2 rfl (q := 1) rfl ?_
  refine z_i2l F dX12_place_3 (by omega) ?_
  refine zv_i (rest := [.ref (ad 131)]) F (k_X12_isPlace l M ⟨hI, hW⟩ x0 (by omega) (by omega)) cs_X12_341 (T := TX12) (N := 44) (ci := 12) rfl gs_131 (by decide) (by decide) rfl rfl rfl (Nat.le_of_ble_eq_true rfl) dX12_place_4 (fun v1 M2 rv1 hI p3 => ?_)
  obtain ⟨hI, hW⟩ := hI
  obtain ⟨⟨av1, bv1⟩, rfl, xp3⟩ := p3
  refine z_if_ne (tgt := 14) F dX12_place_7 (by decide +kernel) (by omega) (fun c4 => ?_) (fun c4 => ?_)
  · refine z_iload_n F dX12_place_14 rfl (q := 2) rfl ?_
    refine z_i2l F dX12_place_15 (by omega) ?_
    refine z_lconst (x := 0) F dX12_place_16 (by decide +kernel) ?_
    refine z_ldc2 (x := 2) F dX12_place_17 (gin lm_93 rfl) (by decide +kernel) ?_
    refine zs_i (rest := [.ref (ad 131)]) F (k_X12_within l M ⟨hI, hW⟩ x1 (by omega) (by omega) 0 (by omega) (by omega) 2 (by omega) (by omega)) cs_X12_137 (by decide) (by decide) rfl rfl rfl (Nat.le_of_ble_eq_true rfl) dX12_place_20 (fun v5 M6 rv5 hI p7 => ?_)
    obtain ⟨hI, hW⟩ := hI
    obtain ⟨⟨av5, bv5⟩, rfl, xp7⟩ := p7
    refine z_if_eq (tgt := 30) F dX12_place_23 (by decide +kernel) (by omega) (fun c8 => ?_) (fun c8 => ?_)
    · refine z_iconst F dX12_place_30 ?_
      refine pf_X12_73 F hI gs_131 rfl bd_131_4 rfl rfl dX12_place_31 (by omega) (by omega) (fun M10 hI sf9 f9 => ?_)
      have hF := hF.wrf f9 (by decide) (by decide)
      have hW : WFk M10 := hW.site f9 (by decide)
      refine z_aload_n F dX12_place_34 rfl (q := 0) rfl ?_
      refine gf_X12_73 F hI gs_131 rfl bd_131_4 dX12_place_35 (fun v11 ev11 av11 bv11 => ?_)
      have zv11 : 2 = v11 := sf9.symm.trans ev11.symm
      subst zv11
      refine z_if_le (tgt := 43) F dX12_place_38 (by decide +kernel) (by omega) (fun c12 => by exfalso; omega) (fun c12 => ?_)
      refine z_iconst F dX12_place_41 ?_
      exact hret _ _ 42 _ (by omega) ⟨hI, hW⟩ ⟨⟨by omega, by omega⟩, hF⟩ dX12_place_42
    · refine z_iconst F dX12_place_26 ?_
      refine z_goto (tgt := 31) F dX12_place_27 (by decide +kernel) ?_
      refine pf_X12_73 F hI gs_131 rfl bd_131_4 rfl rfl dX12_place_31 (by omega) (by omega) (fun M14 hI sf13 f13 => ?_)
      have hF := hF.wrf f13 (by decide) (by decide)
      have hW : WFk M14 := hW.site f13 (by decide)
      refine z_aload_n F dX12_place_34 rfl (q := 0) rfl ?_
      refine gf_X12_73 F hI gs_131 rfl bd_131_4 dX12_place_35 (fun v15 ev15 av15 bv15 => ?_)
      have zv15 : 0 = v15 := sf13.symm.trans ev15.symm
      subst zv15
      refine z_if_le (tgt := 43) F dX12_place_38 (by decide +kernel) (by omega) (fun c16 => ?_) (fun c16 => by exfalso; omega)
      refine z_iload_n F dX12_place_43 rfl (q := 2) rfl ?_
      refine z_if_ne (tgt := 56) F dX12_place_44 (by decide +kernel) (by omega) (fun c17 => ?_) (fun c17 => ?_)
      · refine z_iconst F dX12_place_56 ?_
        refine z_istore_n F dX12_place_57 rfl (by decide) (ls' := [(3, ii 0), (0, .ref (ad 131)), (1, ii x0), (2, ii x1)]) rfl ?_
        refine z_iconst F dX12_place_58 ?_
        refine z_istore F dX12_place_59 (by decide) (ls' := [(4, ii 0), (3, ii 0), (0, .ref (ad 131)), (1, ii x0), (2, ii x1)]) rfl ?_
        refine z_loc [2, 3, 4, 1, 0] (ls' := [(0, .ref (ad 131)), (1, ii x0), (2, ii x1), (3, ii 0), (4, ii 0)]) rfl ?_
        suffices key61 : ∀ (n : Nat) (y19 : Int) (y20 : Int), 0 ≤ y19 → y19 ≤ 1023 → 0 ≤ y20 → y20 ≤ 10 → 10 - y20 < (n : Int) → Z D cy ad p l e (RMh 3) s m args below meth c A 5 0 0 Q 61 [(0, .ref (ad 131)), (1, ii x0), (2, ii x1), (3, ii y19), (4, ii y20)] [] M14 from key61 11 0 0 (by omega) (by omega) (by omega) (by omega) (by omega)
        intro n61
        induction n61 with
        | zero => intro y19 y20 ay19 by19 ay20 by20 hn61; exfalso; omega
        | succ n61 ih61 =>
          intro y19 y20 ay19 by19 ay20 by20 hn61
          refine z_iload F dX12_place_61 (q := 4) rfl ?_
          refine z_aload_n F dX12_place_63 rfl (q := 0) rfl ?_
          refine zv_i (rest := [ii y20]) F (k_X12_places l M14 ⟨hI, hW⟩) cs_X12_273 (T := TX12) (N := 44) (ci := 12) rfl gs_131 (by decide) (by decide) rfl rfl rfl (Nat.le_of_ble_eq_true rfl) dX12_place_64 (fun v21 M22 rv21 hI p23 => ?_)
          obtain ⟨hI, hW⟩ := hI
          obtain ⟨⟨av21, bv21⟩, rfl, xp23⟩ := p23
          refine z_icmp_ge (tgt := 113) F dX12_place_67 (by decide +kernel) (by omega) (by omega) (fun c24 => ?_) (fun c24 => ?_)
          · refine z_iload_n F dX12_place_113 rfl (q := 3) rfl ?_
            exact hret _ _ 114 _ (by omega) ⟨hI, hW⟩ ⟨⟨by omega, by omega⟩, hF⟩ dX12_place_114
          · refine z_iload_n F dX12_place_70 rfl (q := 3) rfl ?_
            refine z_iload_n F dX12_place_71 rfl (q := 2) rfl ?_
            refine z_iconst F dX12_place_72 ?_
            refine z_icmp_ne (tgt := 86) F dX12_place_73 (by decide +kernel) (by omega) (by omega) (fun c25 => ?_) (fun c25 => ?_)
            · refine z_aload_n F dX12_place_86 rfl (q := 0) rfl ?_
              refine z_iload_n F dX12_place_87 rfl (q := 1) rfl ?_
              refine z_iload F dX12_place_88 (q := 4) rfl ?_
              refine zv_i (rest := [ii y19]) F (k_X12_touch l M14 ⟨hI, hW⟩ x0 (by omega) (by omega) y20 (by omega) (by omega)) cs_X12_320 (T := TX12) (N := 44) (ci := 12) rfl gs_131 (by decide) (by decide) rfl rfl rfl (Nat.le_of_ble_eq_true rfl) dX12_place_90 (fun v26 M27 rv26 hI p28 => ?_)
              obtain ⟨hI, hW⟩ := hI
              obtain ⟨⟨av26, bv26⟩, rfl, yp28⟩ := p28
              refine z_iconst F dX12_place_93 ?_
              refine z_icmp_ne (tgt := 104) F dX12_place_94 (by decide +kernel) (by omega) (by omega) (fun c29 => ?_) (fun c29 => ?_)
              · refine z_iconst F dX12_place_104 ?_
                refine z_ior_k (k := 10) F dX12_place_105 (by decide) (by omega) (by omega) (by omega) (by omega) (fun v30 av30 bv30 => ?_)
                refine z_istore_n F dX12_place_106 rfl (by decide) (ls' := [(3, ii v30), (0, .ref (ad 131)), (1, ii x0), (2, ii x1), (4, ii y20)]) rfl ?_
                refine z_iincN F dX12_place_107 (q := 4) rfl (by decide) (fun v31 ev31 => ?_)
                refine z_eq (ls' := [(4, ii v31), (3, ii v30), (0, .ref (ad 131)), (1, ii x0), (2, ii x1)]) rfl rfl rfl ?_
                refine z_goto (tgt := 61) F dX12_place_110 (by decide +kernel) ?_
                refine z_loc [2, 3, 4, 1, 0] (ls' := [(0, .ref (ad 131)), (1, ii x0), (2, ii x1), (3, ii v30), (4, ii v31)]) rfl ?_
                exact ih61 v30 v31 (by omega) (by omega) (by omega) (by omega) (by omega)
              · refine z_iconst F dX12_place_97 ?_
                refine z_iload F dX12_place_98 (q := 4) rfl ?_
                refine z_shl1 (k := 9) F dX12_place_100 (by decide) (by omega) (by omega) (fun v32 ev32 av32 bv32 => ?_)
                refine z_goto (tgt := 105) F dX12_place_101 (by decide +kernel) ?_
                refine z_ior_k (k := 10) F dX12_place_105 (by decide) (by omega) (by omega) (by omega) (by omega) (fun v33 av33 bv33 => ?_)
                refine z_istore_n F dX12_place_106 rfl (by decide) (ls' := [(3, ii v33), (0, .ref (ad 131)), (1, ii x0), (2, ii x1), (4, ii y20)]) rfl ?_
                refine z_iincN F dX12_place_107 (q := 4) rfl (by decide) (fun v34 ev34 => ?_)
                refine z_eq (ls' := [(4, ii v34), (3, ii v33), (0, .ref (ad 131)), (1, ii x0), (2, ii x1)]) rfl rfl rfl ?_
                refine z_goto (tgt := 61) F dX12_place_110 (by decide +kernel) ?_
                refine z_loc [2, 3, 4, 1, 0] (ls' := [(0, .ref (ad 131)), (1, ii x0), (2, ii x1), (3, ii v33), (4, ii v34)]) rfl ?_
                exact ih61 v33 v34 (by omega) (by omega) (by omega) (by omega) (by omega)
            · refine z_aload_n F dX12_place_76 rfl (q := 0) rfl ?_
              refine z_iload_n F dX12_place_77 rfl (q := 1) rfl ?_
              refine z_iload F dX12_place_78 (q := 4) rfl ?_
              refine zv_i (rest := [ii y19]) F (k_X12_touch l M14 ⟨hI, hW⟩ x0 (by omega) (by omega) y20 (by omega) (by omega)) cs_X12_320 (T := TX12) (N := 44) (ci := 12) rfl gs_131 (by decide) (by decide) rfl rfl rfl (Nat.le_of_ble_eq_true rfl) dX12_place_80 (fun v35 M36 rv35 hI p37 => ?_)
              obtain ⟨hI, hW⟩ := hI
              obtain ⟨⟨av35, bv35⟩, rfl, yp37⟩ := p37
              refine z_if_ne (tgt := 97) F dX12_place_83 (by decide +kernel) (by omega) (fun c38 => ?_) (fun c38 => ?_)
              · refine z_iconst F dX12_place_97 ?_
                refine z_iload F dX12_place_98 (q := 4) rfl ?_
                refine z_shl1 (k := 9) F dX12_place_100 (by decide) (by omega) (by omega) (fun v39 ev39 av39 bv39 => ?_)
                refine z_goto (tgt := 105) F dX12_place_101 (by decide +kernel) ?_
                refine z_ior_k (k := 10) F dX12_place_105 (by decide) (by omega) (by omega) (by omega) (by omega) (fun v40 av40 bv40 => ?_)
                refine z_istore_n F dX12_place_106 rfl (by decide) (ls' := [(3, ii v40), (0, .ref (ad 131)), (1, ii x0), (2, ii x1), (4, ii y20)]) rfl ?_
                refine z_iincN F dX12_place_107 (q := 4) rfl (by decide) (fun v41 ev41 => ?_)
                refine z_eq (ls' := [(4, ii v41), (3, ii v40), (0, .ref (ad 131)), (1, ii x0), (2, ii x1)]) rfl rfl rfl ?_
                refine z_goto (tgt := 61) F dX12_place_110 (by decide +kernel) ?_
                refine z_loc [2, 3, 4, 1, 0] (ls' := [(0, .ref (ad 131)), (1, ii x0), (2, ii x1), (3, ii v40), (4, ii v41)]) rfl ?_
                exact ih61 v40 v41 (by omega) (by omega) (by omega) (by omega) (by omega)
              · refine z_aload_n F dX12_place_86 rfl (q := 0) rfl ?_
                refine z_iload_n F dX12_place_87 rfl (q := 1) rfl ?_
                refine z_iload F dX12_place_88 (q := 4) rfl ?_
                refine zv_i (rest := [ii y19]) F (k_X12_touch l M14 ⟨hI, hW⟩ x0 (by omega) (by omega) y20 (by omega) (by omega)) cs_X12_320 (T := TX12) (N := 44) (ci := 12) rfl gs_131 (by decide) (by decide) rfl rfl rfl (Nat.le_of_ble_eq_true rfl) dX12_place_90 (fun v42 M43 rv42 hI p44 => ?_)
                obtain ⟨hI, hW⟩ := hI
                obtain ⟨⟨av42, bv42⟩, rfl, yp44⟩ := p44
                refine z_iconst F dX12_place_93 ?_
                refine z_icmp_ne (tgt := 104) F dX12_place_94 (by decide +kernel) (by omega) (by omega) (fun c45 => ?_) (fun c45 => ?_)
                · refine z_iconst F dX12_place_104 ?_
                  refine z_ior_k (k := 10) F dX12_place_105 (by decide) (by omega) (by omega) (by omega) (by omega) (fun v46 av46 bv46 => ?_)
                  refine z_istore_n F dX12_place_106 rfl (by decide) (ls' := [(3, ii v46), (0, .ref (ad 131)), (1, ii x0), (2, ii x1), (4, ii y20)]) rfl ?_
                  refine z_iincN F dX12_place_107 (q := 4) rfl (by decide) (fun v47 ev47 => ?_)
                  refine z_eq (ls' := [(4, ii v47), (3, ii v46), (0, .ref (ad 131)), (1, ii x0), (2, ii x1)]) rfl rfl rfl ?_
                  refine z_goto (tgt := 61) F dX12_place_110 (by decide +kernel) ?_
                  refine z_loc [2, 3, 4, 1, 0] (ls' := [(0, .ref (ad 131)), (1, ii x0), (2, ii x1), (3, ii v46), (4, ii v47)]) rfl ?_
                  exact ih61 v46 v47 (by omega) (by omega) (by omega) (by omega) (by omega)
                · refine z_iconst F dX12_place_97 ?_
                  refine z_iload F dX12_place_98 (q := 4) rfl ?_
                  refine z_shl1 (k := 9) F dX12_place_100 (by decide) (by omega) (by omega) (fun v48 ev48 av48 bv48 => ?_)
                  refine z_goto (tgt := 105) F dX12_place_101 (by decide +kernel) ?_
                  refine z_ior_k (k := 10) F dX12_place_105 (by decide) (by omega) (by omega) (by omega) (by omega) (fun v49 av49 bv49 => ?_)
                  refine z_istore_n F dX12_place_106 rfl (by decide) (ls' := [(3, ii v49), (0, .ref (ad 131)), (1, ii x0), (2, ii x1), (4, ii y20)]) rfl ?_
                  refine z_iincN F dX12_place_107 (q := 4) rfl (by decide) (fun v50 ev50 => ?_)
                  refine z_eq (ls' := [(4, ii v50), (3, ii v49), (0, .ref (ad 131)), (1, ii x0), (2, ii x1)]) rfl rfl rfl ?_
                  refine z_goto (tgt := 61) F dX12_place_110 (by decide +kernel) ?_
                  refine z_loc [2, 3, 4, 1, 0] (ls' := [(0, .ref (ad 131)), (1, ii x0), (2, ii x1), (3, ii v49), (4, ii v50)]) rfl ?_
                  exact ih61 v49 v50 (by omega) (by omega) (by omega) (by omega) (by omega)
      · refine z_aload_n F dX12_place_47 rfl (q := 0) rfl ?_
        refine rf_X12_9 F gs_131 rfl dX12_place_48 ?_
        refine z_iload_n F dX12_place_51 rfl (q := 1) rfl ?_
        refine zs_i (rest := []) F (k_X12_thingAt_132 l M14 ⟨hI, hW⟩ x0 (by omega) (by omega)) cs_X12_209 (by decide) (by decide) rfl rfl rfl (Nat.le_of_ble_eq_true rfl) dX12_place_52 (fun v51 M52 rv51 hI p53 => ?_)
        obtain ⟨hI, hW⟩ := hI
        obtain ⟨⟨av51, bv51⟩, rfl⟩ := p53
        exact hret _ _ 55 _ (by omega) ⟨hI, hW⟩ ⟨⟨by omega, by omega⟩, hF⟩ dX12_place_55
  · refine z_iconst F dX12_place_10 ?_
    refine z_goto (tgt := 31) F dX12_place_11 (by decide +kernel) ?_
    refine pf_X12_73 F hI gs_131 rfl bd_131_4 rfl rfl dX12_place_31 (by omega) (by omega) (fun M55 hI sf54 f54 => ?_)
    have hF := hF.wrf f54 (by decide) (by decide)
    have hW : WFk M55 := hW.site f54 (by decide)
    refine z_aload_n F dX12_place_34 rfl (q := 0) rfl ?_
    refine gf_X12_73 F hI gs_131 rfl bd_131_4 dX12_place_35 (fun v56 ev56 av56 bv56 => ?_)
    have zv56 : 1 = v56 := sf54.symm.trans ev56.symm
    subst zv56
    refine z_if_le (tgt := 43) F dX12_place_38 (by decide +kernel) (by omega) (fun c57 => by exfalso; omega) (fun c57 => ?_)
    refine z_iconst F dX12_place_41 ?_
    exact hret _ _ 42 _ (by omega) ⟨hI, hW⟩ ⟨⟨by omega, by omega⟩, hF⟩ dX12_place_42
set_option maxRecDepth 4000 in
theorem k_X12_stepsOf (l : Launch) (M : Mem) (hJ : Iw M) (x0 : Int) (hx0a : 0 ≤ x0) (hx0b : x0 ≤ 9) (x1 : Int) (hx1a : 0 ≤ x1) (hx1b : x1 ≤ 9) : CI l yX12_stepsOf cX12_stepsOf 8 (some .int) 2 (fun ad => [.ref (ad 131), ii x0, ii x1]) M (fun z M' => ((-1) ≤ z ∧ z ≤ 9) ∧ M = M') := by
  obtain ⟨hI, hW⟩ := hJ
  refine en_i (by decide +kernel) (fun ad => by exact Nat.le_of_ble_eq_true rfl) (fun D cy ad A p e s m args below meth c Q F hret => ?_)
  refine z_eq (ls' := [(0, .ref (ad 131)), (1, ii x0), (2, ii x1)]) rfl rfl rfl ?_
  refine z_iconst F dX12_stepsOf_0 ?_
  refine z_iload_n F dX12_stepsOf_1 rfl (q := 1) rfl ?_
  refine z_shl1 (k := 9) F dX12_stepsOf_2 (by decide) (by omega) (by omega) (fun v1 ev1 av1 bv1 => ?_)
  refine z_istore_n F dX12_stepsOf_3 rfl (by decide) (ls' := [(3, ii v1), (0, .ref (ad 131)), (1, ii x0), (2, ii x1)]) rfl ?_
  refine z_iconst F dX12_stepsOf_4 ?_
  refine z_istore F dX12_stepsOf_5 (by decide) (ls' := [(4, ii 0), (3, ii v1), (0, .ref (ad 131)), (1, ii x0), (2, ii x1)]) rfl ?_
  refine z_loc [2, 4, 1, 0] (ls' := [(0, .ref (ad 131)), (2, ii x1), (3, ii v1), (4, ii 0)]) rfl ?_
  suffices key7 : ∀ (n : Nat) (y3 : Int) (y4 : Int), 0 ≤ y3 → y3 ≤ 1023 → 0 ≤ y4 → y4 ≤ 10 → 10 - y4 < (n : Int) → Z D cy ad p l e (RMh 2) s m args below meth c A 8 0 0 Q 7 [(0, .ref (ad 131)), (2, ii x1), (3, ii y3), (4, ii y4)] [] M from key7 11 v1 0 (by omega) (by omega) (by omega) (by omega) (by omega)
  intro n7
  induction n7 with
  | zero => intro y3 y4 ay3 by3 ay4 by4 hn7; exfalso; omega
  | succ n7 ih7 =>
    intro y3 y4 ay3 by3 ay4 by4 hn7
    refine z_iload F dX12_stepsOf_7 (q := 3) rfl ?_
    refine z_bipush F dX12_stepsOf_9 (by decide +kernel) ?_
    refine z_icmp_ge (tgt := 102) F dX12_stepsOf_11 (by decide +kernel) (by omega) (by omega) (fun c5 => ?_) (fun c5 => ?_)
    · refine z_iconst F dX12_stepsOf_102 ?_
      exact hret _ _ 103 _ (by omega) ⟨hI, hW⟩ ⟨⟨by omega, by omega⟩, rfl⟩ dX12_stepsOf_103
    · refine z_iload_n F dX12_stepsOf_14 rfl (q := 2) rfl ?_
      refine z_iload_n F dX12_stepsOf_15 rfl (q := 1) rfl ?_
      refine zs_i (rest := []) F (k_X12_has l M ⟨hI, hW⟩ y3 (by omega) (by omega) x1 (by omega) (by omega)) cs_X12_346 (by decide) (by decide) rfl rfl rfl (Nat.le_of_ble_eq_true rfl) dX12_stepsOf_16 (fun v6 M7 rv6 hI p8 => ?_)
      obtain ⟨hI, hW⟩ := hI
      obtain ⟨⟨av6, bv6⟩, rfl, xp8⟩ := p8
      have hbqx1 := xp8
      refine z_if_eq (tgt := 25) F dX12_stepsOf_19 (by decide +kernel) (by omega) (fun c9 => ?_) (fun c9 => ?_)
      · refine z_iload_n F dX12_stepsOf_25 rfl (q := 2) rfl ?_
        refine z_istore F dX12_stepsOf_26 (by decide) (ls' := [(5, ii y3), (0, .ref (ad 131)), (2, ii x1), (3, ii y3), (4, ii y4)]) rfl ?_
        refine z_iconst F dX12_stepsOf_28 ?_
        refine z_istore F dX12_stepsOf_29 (by decide) (ls' := [(6, ii 0), (5, ii y3), (0, .ref (ad 131)), (2, ii x1), (3, ii y3), (4, ii y4)]) rfl ?_
        refine z_loc [2, 3, 4, 5, 1, 0] (ls' := [(0, .ref (ad 131)), (2, ii x1), (3, ii y3), (4, ii y4), (5, ii y3), (6, ii 0)]) rfl ?_
        suffices key31 : ∀ (n : Nat) (y11 : Int) (y12 : Int), 0 ≤ y11 → y11 ≤ 1023 → 0 ≤ y12 → y12 ≤ 10 → 10 - y12 < (n : Int) → Z D cy ad p l e (RMh 2) s m args below meth c A 8 0 0 Q 31 [(0, .ref (ad 131)), (2, ii x1), (3, ii y3), (4, ii y4), (5, ii y11), (6, ii y12)] [] M from key31 11 y3 0 (by omega) (by omega) (by omega) (by omega) (by omega)
        intro n31
        induction n31 with
        | zero => intro y11 y12 ay11 by11 ay12 by12 hn31; exfalso; omega
        | succ n31 ih31 =>
          intro y11 y12 ay11 by11 ay12 by12 hn31
          refine z_iload F dX12_stepsOf_31 (q := 5) rfl ?_
          refine z_aload_n F dX12_stepsOf_33 rfl (q := 0) rfl ?_
          refine zv_i (rest := [ii y12]) F (k_X12_places l M ⟨hI, hW⟩) cs_X12_273 (T := TX12) (N := 44) (ci := 12) rfl gs_131 (by decide) (by decide) rfl rfl rfl (Nat.le_of_ble_eq_true rfl) dX12_stepsOf_34 (fun v13 M14 rv13 hI p15 => ?_)
          obtain ⟨hI, hW⟩ := hI
          obtain ⟨⟨av13, bv13⟩, rfl, xp15⟩ := p15
          refine z_icmp_ge (tgt := 93) F dX12_stepsOf_37 (by decide +kernel) (by omega) (by omega) (fun c16 => ?_) (fun c16 => ?_)
          · refine z_iload F dX12_stepsOf_93 (q := 4) rfl ?_
            refine z_istore_n F dX12_stepsOf_95 rfl (by decide) (ls' := [(3, ii y11), (0, .ref (ad 131)), (2, ii x1), (4, ii y4), (5, ii y11), (6, ii y12)]) rfl ?_
            refine z_iincN F dX12_stepsOf_96 (q := 3) rfl (by decide) (fun v17 ev17 => ?_)
            refine z_eq (ls' := [(4, ii v17), (3, ii y11), (0, .ref (ad 131)), (2, ii x1), (5, ii y11), (6, ii y12)]) rfl rfl rfl ?_
            refine z_goto (tgt := 7) F dX12_stepsOf_99 (by decide +kernel) ?_
            refine z_loc [2, 3, 1, 0] (ls' := [(0, .ref (ad 131)), (2, ii x1), (3, ii y11), (4, ii v17)]) rfl ?_
            exact ih7 y11 v17 (by omega) (by omega) (by omega) (by omega) (by omega)
          · refine z_iconst F dX12_stepsOf_40 ?_
            refine z_istore F dX12_stepsOf_41 (by decide) (ls' := [(7, ii 0), (0, .ref (ad 131)), (2, ii x1), (3, ii y3), (4, ii y4), (5, ii y11), (6, ii y12)]) rfl ?_
            refine z_loc [1, 2, 3, 4, 5, 6, 0] (ls' := [(0, .ref (ad 131)), (2, ii x1), (3, ii y3), (4, ii y4), (5, ii y11), (6, ii y12), (7, ii 0)]) rfl ?_
            suffices key43 : ∀ (n : Nat) (y19 : Int) (y20 : Int), 0 ≤ y19 → y19 ≤ 1023 → 0 ≤ y20 → y20 ≤ 10 → 10 - y20 < (n : Int) → Z D cy ad p l e (RMh 2) s m args below meth c A 8 0 0 Q 43 [(0, .ref (ad 131)), (2, ii x1), (3, ii y3), (4, ii y4), (5, ii y19), (6, ii y12), (7, ii y20)] [] M from key43 11 y11 0 (by omega) (by omega) (by omega) (by omega) (by omega)
            intro n43
            induction n43 with
            | zero => intro y19 y20 ay19 by19 ay20 by20 hn43; exfalso; omega
            | succ n43 ih43 =>
              intro y19 y20 ay19 by19 ay20 by20 hn43
              refine z_iload F dX12_stepsOf_43 (q := 6) rfl ?_
              refine z_aload_n F dX12_stepsOf_45 rfl (q := 0) rfl ?_
              refine zv_i (rest := [ii y20]) F (k_X12_places l M ⟨hI, hW⟩) cs_X12_273 (T := TX12) (N := 44) (ci := 12) rfl gs_131 (by decide) (by decide) rfl rfl rfl (Nat.le_of_ble_eq_true rfl) dX12_stepsOf_46 (fun v21 M22 rv21 hI p23 => ?_)
              obtain ⟨hI, hW⟩ := hI
              obtain ⟨⟨av21, bv21⟩, rfl, xp23⟩ := p23
              have zv21 : v13 = v21 := xp15.trans xp23.symm
              subst zv21
              refine z_icmp_ge (tgt := 87) F dX12_stepsOf_49 (by decide +kernel) (by omega) (by omega) (fun c24 => ?_) (fun c24 => ?_)
              · refine z_iincN F dX12_stepsOf_87 (q := 5) rfl (by decide) (fun v25 ev25 => ?_)
                refine z_eq (ls' := [(6, ii v25), (0, .ref (ad 131)), (2, ii x1), (3, ii y3), (4, ii y4), (5, ii y19), (7, ii y20)]) rfl rfl rfl ?_
                refine z_goto (tgt := 31) F dX12_stepsOf_90 (by decide +kernel) ?_
                refine z_loc [1, 2, 3, 4, 5, 0] (ls' := [(0, .ref (ad 131)), (2, ii x1), (3, ii y3), (4, ii y4), (5, ii y19), (6, ii v25)]) rfl ?_
                exact ih31 y19 v25 (by omega) (by omega) (by omega) (by omega) (by omega)
              · refine z_iload_n F dX12_stepsOf_52 rfl (q := 2) rfl ?_
                refine z_iload F dX12_stepsOf_53 (q := 5) rfl ?_
                refine zs_i (rest := []) F (k_X12_has l M ⟨hI, hW⟩ y3 (by omega) (by omega) y12 (by omega) (by omega)) cs_X12_346 (by decide) (by decide) rfl rfl rfl (Nat.le_of_ble_eq_true rfl) dX12_stepsOf_55 (fun v26 M27 rv26 hI p28 => ?_)
                obtain ⟨hI, hW⟩ := hI
                obtain ⟨⟨av26, bv26⟩, rfl, xp28⟩ := p28
                have hbqy12 := xp28
                refine z_if_eq (tgt := 81) F dX12_stepsOf_58 (by decide +kernel) (by omega) (fun c29 => ?_) (fun c29 => ?_)
                · refine z_iincN F dX12_stepsOf_81 (q := 6) rfl (by decide) (fun v30 ev30 => ?_)
                  refine z_eq (ls' := [(7, ii v30), (0, .ref (ad 131)), (2, ii x1), (3, ii y3), (4, ii y4), (5, ii y19), (6, ii y12)]) rfl rfl rfl ?_
                  refine z_goto (tgt := 43) F dX12_stepsOf_84 (by decide +kernel) ?_
                  refine z_loc [1, 2, 3, 4, 5, 6, 0] (ls' := [(0, .ref (ad 131)), (2, ii x1), (3, ii y3), (4, ii y4), (5, ii y19), (6, ii y12), (7, ii v30)]) rfl ?_
                  exact ih43 y19 v30 (by omega) (by omega) (by omega) (by omega) (by omega)
                · refine z_aload_n F dX12_stepsOf_61 rfl (q := 0) rfl ?_
                  refine z_iload F dX12_stepsOf_62 (q := 5) rfl ?_
                  refine z_iload F dX12_stepsOf_64 (q := 6) rfl ?_
                  refine zv_i (rest := []) F (k_X12_touch l M ⟨hI, hW⟩ y12 (by omega) (by omega) y20 (by omega) (by omega)) cs_X12_320 (T := TX12) (N := 44) (ci := 12) rfl gs_131 (by decide) (by decide) rfl rfl rfl (Nat.le_of_ble_eq_true rfl) dX12_stepsOf_66 (fun v31 M32 rv31 hI p33 => ?_)
                  obtain ⟨hI, hW⟩ := hI
                  obtain ⟨⟨av31, bv31⟩, rfl, yp33⟩ := p33
                  refine z_if_eq (tgt := 81) F dX12_stepsOf_69 (by decide +kernel) (by omega) (fun c34 => ?_) (fun c34 => ?_)
                  · refine z_iincN F dX12_stepsOf_81 (q := 6) rfl (by decide) (fun v35 ev35 => ?_)
                    refine z_eq (ls' := [(7, ii v35), (0, .ref (ad 131)), (2, ii x1), (3, ii y3), (4, ii y4), (5, ii y19), (6, ii y12)]) rfl rfl rfl ?_
                    refine z_goto (tgt := 43) F dX12_stepsOf_84 (by decide +kernel) ?_
                    refine z_loc [1, 2, 3, 4, 5, 6, 0] (ls' := [(0, .ref (ad 131)), (2, ii x1), (3, ii y3), (4, ii y4), (5, ii y19), (6, ii y12), (7, ii v35)]) rfl ?_
                    exact ih43 y19 v35 (by omega) (by omega) (by omega) (by omega) (by omega)
                  · refine z_iload F dX12_stepsOf_72 (q := 4) rfl ?_
                    refine z_iconst F dX12_stepsOf_74 ?_
                    refine z_iload F dX12_stepsOf_75 (q := 6) rfl ?_
                    refine z_shl1 (k := 9) F dX12_stepsOf_77 (by decide) (by omega) (by omega) (fun v36 ev36 av36 bv36 => ?_)
                    refine z_ior_k (k := 10) F dX12_stepsOf_78 (by decide) (by omega) (by omega) (by omega) (by omega) (fun v37 av37 bv37 => ?_)
                    refine z_istore F dX12_stepsOf_79 (by decide) (ls' := [(5, ii v37), (0, .ref (ad 131)), (2, ii x1), (3, ii y3), (4, ii y4), (6, ii y12), (7, ii y20)]) rfl ?_
                    refine z_iincN F dX12_stepsOf_81 (q := 6) rfl (by decide) (fun v38 ev38 => ?_)
                    refine z_eq (ls' := [(7, ii v38), (5, ii v37), (0, .ref (ad 131)), (2, ii x1), (3, ii y3), (4, ii y4), (6, ii y12)]) rfl rfl rfl ?_
                    refine z_goto (tgt := 43) F dX12_stepsOf_84 (by decide +kernel) ?_
                    refine z_loc [2, 3, 4, 5, 1, 6, 0] (ls' := [(0, .ref (ad 131)), (2, ii x1), (3, ii y3), (4, ii y4), (5, ii v37), (6, ii y12), (7, ii v38)]) rfl ?_
                    exact ih43 v37 v38 (by omega) (by omega) (by omega) (by omega) (by omega)
      · refine z_iload F dX12_stepsOf_22 (q := 3) rfl ?_
        exact hret _ _ 24 _ (by omega) ⟨hI, hW⟩ ⟨⟨by omega, by omega⟩, rfl⟩ dX12_stepsOf_24
set_option maxRecDepth 4000 in
theorem k_X12_steps (l : Launch) (M : Mem) (hJ : Iw M) (x0 : Int) (hx0a : (-2147483648) ≤ x0) (hx0b : x0 ≤ 2147483647) (x1 : Int) (hx1a : (-2147483648) ≤ x1) (hx1b : x1 ≤ 2147483647) : CI l yX12_steps cX12_steps 3 (some .int) 3 (fun ad => [.ref (ad 131), ii x0, ii x1]) M (fun z M' => ((-1) ≤ z ∧ z ≤ 9) ∧ Fr [131] M M') := by
  obtain ⟨hI, hW⟩ := hJ
  have hF : Fr [131] M M := Fr.rf
  refine en_i (by decide +kernel) (fun ad => by exact Nat.le_of_ble_eq_true rfl) (fun D cy ad A p e s m args below meth c Q F hret => ?_)
  refine z_eq (ls' := [(0, .ref (ad 131)), (1, ii x0), (2, ii x1)]) rfl rfl rfl ?_
  refine z_aload_n F dX12_steps_0 rfl (q := 0) rfl ?_
  refine z_iconst F dX12_steps_1 ?_
  refine pf_X12_73 F hI gs_131 rfl bd_131_4 rfl rfl dX12_steps_2 (by omega) (by omega) (fun M2 hI sf1 f1 => ?_)
  have hF := hF.wrf f1 (by decide) (by decide)
  have hW : WFk M2 := hW.site f1 (by decide)
  refine z_aload_n F dX12_steps_5 rfl (q := 0) rfl ?_
  refine z_iload_n F dX12_steps_6 rfl (q := 1) rfl ?_
  refine z_i2l F dX12_steps_7 (by omega) ?_
  refine zv_i (rest := []) F (k_X12_isPlace l M2 ⟨hI, hW⟩ x0 (by omega) (by omega)) cs_X12_341 (T := TX12) (N := 44) (ci := 12) rfl gs_131 (by decide) (by decide) rfl rfl rfl (Nat.le_of_ble_eq_true rfl) dX12_steps_8 (fun v3 M4 rv3 hI p5 => ?_)
  obtain ⟨hI, hW⟩ := hI
  obtain ⟨⟨av3, bv3⟩, rfl, xp5⟩ := p5
  refine z_if_eq (tgt := 32) F dX12_steps_11 (by decide +kernel) (by omega) (fun c6 => ?_) (fun c6 => ?_)
  · refine z_aload_n F dX12_steps_32 rfl (q := 0) rfl ?_
    refine z_iconst F dX12_steps_33 ?_
    refine zv_i (rest := []) F (k_X12_fails l M2 ⟨hI, hW⟩ 1 (by omega) (by omega)) cs_X12_262 (T := TX12) (N := 44) (ci := 12) rfl gs_131 (by decide) (by decide) rfl rfl rfl (Nat.le_of_ble_eq_true rfl) dX12_steps_34 (fun v7 M8 rv7 hI p9 => ?_)
    obtain ⟨hI, hW⟩ := hI
    obtain ⟨⟨av7, bv7⟩, fp9, xp9⟩ := p9
    have hF := hF.call fp9 (by decide)
    exact hret _ _ 37 _ (by omega) ⟨hI, hW⟩ ⟨⟨by omega, by omega⟩, hF⟩ dX12_steps_37
  · refine z_aload_n F dX12_steps_14 rfl (q := 0) rfl ?_
    refine z_iload_n F dX12_steps_15 rfl (q := 2) rfl ?_
    refine z_i2l F dX12_steps_16 (by omega) ?_
    refine zv_i (rest := []) F (k_X12_isPlace l M2 ⟨hI, hW⟩ x1 (by omega) (by omega)) cs_X12_341 (T := TX12) (N := 44) (ci := 12) rfl gs_131 (by decide) (by decide) rfl rfl rfl (Nat.le_of_ble_eq_true rfl) dX12_steps_17 (fun v10 M11 rv10 hI p12 => ?_)
    obtain ⟨hI, hW⟩ := hI
    obtain ⟨⟨av10, bv10⟩, rfl, xp12⟩ := p12
    refine z_if_eq (tgt := 32) F dX12_steps_20 (by decide +kernel) (by omega) (fun c13 => ?_) (fun c13 => ?_)
    · refine z_aload_n F dX12_steps_32 rfl (q := 0) rfl ?_
      refine z_iconst F dX12_steps_33 ?_
      refine zv_i (rest := []) F (k_X12_fails l M2 ⟨hI, hW⟩ 1 (by omega) (by omega)) cs_X12_262 (T := TX12) (N := 44) (ci := 12) rfl gs_131 (by decide) (by decide) rfl rfl rfl (Nat.le_of_ble_eq_true rfl) dX12_steps_34 (fun v14 M15 rv14 hI p16 => ?_)
      obtain ⟨hI, hW⟩ := hI
      obtain ⟨⟨av14, bv14⟩, fp16, xp16⟩ := p16
      have hF := hF.call fp16 (by decide)
      exact hret _ _ 37 _ (by omega) ⟨hI, hW⟩ ⟨⟨by omega, by omega⟩, hF⟩ dX12_steps_37
    · refine z_aload_n F dX12_steps_23 rfl (q := 0) rfl ?_
      refine z_iload_n F dX12_steps_24 rfl (q := 1) rfl ?_
      refine z_iload_n F dX12_steps_25 rfl (q := 2) rfl ?_
      refine zv_i (rest := []) F (k_X12_stepsOf l M2 ⟨hI, hW⟩ x0 (by omega) (by omega) x1 (by omega) (by omega)) cs_X12_349 (T := TX12) (N := 44) (ci := 12) rfl gs_131 (by decide) (by decide) rfl rfl rfl (Nat.le_of_ble_eq_true rfl) dX12_steps_26 (fun v17 M18 rv17 hI p19 => ?_)
      obtain ⟨hI, hW⟩ := hI
      obtain ⟨⟨av17, bv17⟩, rfl⟩ := p19
      refine z_goto (tgt := 37) F dX12_steps_29 (by decide +kernel) ?_
      exact hret _ _ 37 _ (by omega) ⟨hI, hW⟩ ⟨⟨by omega, by omega⟩, hF⟩ dX12_steps_37
set_option maxRecDepth 4000 in
theorem k_X12_clash (l : Launch) (M : Mem) (hJ : Iw M) (x0 : Int) (hx0a : (-2147483648) ≤ x0) (hx0b : x0 ≤ 2147483647) (x1 : Int) (hx1a : (-2147483648) ≤ x1) (hx1b : x1 ≤ 2147483647) (x2 : Int) (hx2a : 0 ≤ x2) (hx2b : x2 ≤ 1) : CI l yX12_clash cX12_clash 4 (some .boolean) 5 (fun ad => [.ref (ad 131), ii x0, ii x1, ii x2]) M (fun z M' => (0 ≤ z ∧ z ≤ 1) ∧ Fr [131, 137] M M') := by
  obtain ⟨hI, hW⟩ := hJ
  have hF : Fr [131, 137] M M := Fr.rf
  refine en_z (by decide +kernel) (fun ad => by exact Nat.le_of_ble_eq_true rfl) (fun D cy ad A p e s m args below meth c Q F hret => ?_)
  refine z_eq (ls' := [(0, .ref (ad 131)), (1, ii x0), (2, ii x1), (3, ii x2)]) rfl rfl rfl ?_
  refine z_aload_n F dX12_clash_0 rfl (q := 0) rfl ?_
  refine z_aload_n F dX12_clash_1 rfl (q := 0) rfl ?_
  refine z_iload_n F dX12_clash_2 rfl (q := 1) rfl ?_
  refine z_i2l F dX12_clash_3 (by omega) ?_
  refine zv_i (rest := [.ref (ad 131)]) F (k_X12_isThing l M ⟨hI, hW⟩ x0 (by omega) (by omega)) cs_X12_335 (T := TX12) (N := 44) (ci := 12) rfl gs_131 (by decide) (by decide) rfl rfl rfl (Nat.le_of_ble_eq_true rfl) dX12_clash_4 (fun v1 M2 rv1 hI p3 => ?_)
  obtain ⟨hI, hW⟩ := hI
  obtain ⟨⟨av1, bv1⟩, rfl, xp3⟩ := p3
  refine z_if_eq (tgt := 19) F dX12_clash_7 (by decide +kernel) (by omega) (fun c4 => ?_) (fun c4 => ?_)
  · refine z_iconst F dX12_clash_19 ?_
    refine z_goto (tgt := 33) F dX12_clash_20 (by decide +kernel) ?_
    refine pf_X12_73 F hI gs_131 rfl bd_131_4 rfl rfl dX12_clash_33 (by omega) (by omega) (fun M6 hI sf5 f5 => ?_)
    have hF := hF.wrf f5 (by decide) (by decide)
    have hW : WFk M6 := hW.site f5 (by decide)
    refine z_aload_n F dX12_clash_36 rfl (q := 0) rfl ?_
    refine gf_X12_73 F hI gs_131 rfl bd_131_4 dX12_clash_37 (fun v7 ev7 av7 bv7 => ?_)
    have zv7 : 1 = v7 := sf5.symm.trans ev7.symm
    subst zv7
    refine z_if_ne (tgt := 57) F dX12_clash_40 (by decide +kernel) (by omega) (fun c8 => ?_) (fun c8 => by exfalso; omega)
    refine z_iconst F dX12_clash_57 ?_
    exact hret _ _ 58 _ ⟨by omega, by omega⟩ ⟨hI, hW⟩ ⟨⟨by omega, by omega⟩, hF⟩ dX12_clash_58
  · refine z_aload_n F dX12_clash_10 rfl (q := 0) rfl ?_
    refine z_iload_n F dX12_clash_11 rfl (q := 2) rfl ?_
    refine z_i2l F dX12_clash_12 (by omega) ?_
    refine zv_i (rest := [.ref (ad 131)]) F (k_X12_isThing l M ⟨hI, hW⟩ x1 (by omega) (by omega)) cs_X12_335 (T := TX12) (N := 44) (ci := 12) rfl gs_131 (by decide) (by decide) rfl rfl rfl (Nat.le_of_ble_eq_true rfl) dX12_clash_13 (fun v9 M10 rv9 hI p11 => ?_)
    obtain ⟨hI, hW⟩ := hI
    obtain ⟨⟨av9, bv9⟩, rfl, xp11⟩ := p11
    refine z_if_ne (tgt := 23) F dX12_clash_16 (by decide +kernel) (by omega) (fun c12 => ?_) (fun c12 => ?_)
    · refine z_iload_n F dX12_clash_23 rfl (q := 1) rfl ?_
      refine z_iload_n F dX12_clash_24 rfl (q := 2) rfl ?_
      refine z_icmp_ne (tgt := 32) F dX12_clash_25 (by decide +kernel) (by omega) (by omega) (fun c13 => ?_) (fun c13 => ?_)
      · refine z_iconst F dX12_clash_32 ?_
        refine pf_X12_73 F hI gs_131 rfl bd_131_4 rfl rfl dX12_clash_33 (by omega) (by omega) (fun M15 hI sf14 f14 => ?_)
        have hF := hF.wrf f14 (by decide) (by decide)
        have hW : WFk M15 := hW.site f14 (by decide)
        refine z_aload_n F dX12_clash_36 rfl (q := 0) rfl ?_
        refine gf_X12_73 F hI gs_131 rfl bd_131_4 dX12_clash_37 (fun v16 ev16 av16 bv16 => ?_)
        have zv16 : 0 = v16 := sf14.symm.trans ev16.symm
        subst zv16
        refine z_if_ne (tgt := 57) F dX12_clash_40 (by decide +kernel) (by omega) (fun c17 => by exfalso; omega) (fun c17 => ?_)
        refine z_aload_n F dX12_clash_43 rfl (q := 0) rfl ?_
        refine z_iload_n F dX12_clash_44 rfl (q := 1) rfl ?_
        refine z_iload_n F dX12_clash_45 rfl (q := 2) rfl ?_
        refine z_iload_n F dX12_clash_46 rfl (q := 3) rfl ?_
        refine zv_i (rest := []) F (k_X12_wouldClash l M15 ⟨hI, hW⟩ x0 (by omega) (by omega) x1 (by omega) (by omega) x2 (by omega) (by omega)) cs_X12_322 (T := TX12) (N := 44) (ci := 12) rfl gs_131 (by decide) (by decide) rfl rfl rfl (Nat.le_of_ble_eq_true rfl) dX12_clash_47 (fun v18 M19 rv18 hI p20 => ?_)
        obtain ⟨hI, hW⟩ := hI
        obtain ⟨⟨av18, bv18⟩, fp20⟩ := p20
        have hF := hF.call fp20 (by decide)
        refine z_if_eq (tgt := 57) F dX12_clash_50 (by decide +kernel) (by omega) (fun c21 => ?_) (fun c21 => ?_)
        · refine z_iconst F dX12_clash_57 ?_
          exact hret _ _ 58 _ ⟨by omega, by omega⟩ ⟨hI, hW⟩ ⟨⟨by omega, by omega⟩, hF⟩ dX12_clash_58
        · refine z_iconst F dX12_clash_53 ?_
          refine z_goto (tgt := 58) F dX12_clash_54 (by decide +kernel) ?_
          exact hret _ _ 58 _ ⟨by omega, by omega⟩ ⟨hI, hW⟩ ⟨⟨by omega, by omega⟩, hF⟩ dX12_clash_58
      · refine z_iconst F dX12_clash_28 ?_
        refine z_goto (tgt := 33) F dX12_clash_29 (by decide +kernel) ?_
        refine pf_X12_73 F hI gs_131 rfl bd_131_4 rfl rfl dX12_clash_33 (by omega) (by omega) (fun M23 hI sf22 f22 => ?_)
        have hF := hF.wrf f22 (by decide) (by decide)
        have hW : WFk M23 := hW.site f22 (by decide)
        refine z_aload_n F dX12_clash_36 rfl (q := 0) rfl ?_
        refine gf_X12_73 F hI gs_131 rfl bd_131_4 dX12_clash_37 (fun v24 ev24 av24 bv24 => ?_)
        have zv24 : 2 = v24 := sf22.symm.trans ev24.symm
        subst zv24
        refine z_if_ne (tgt := 57) F dX12_clash_40 (by decide +kernel) (by omega) (fun c25 => ?_) (fun c25 => by exfalso; omega)
        refine z_iconst F dX12_clash_57 ?_
        exact hret _ _ 58 _ ⟨by omega, by omega⟩ ⟨hI, hW⟩ ⟨⟨by omega, by omega⟩, hF⟩ dX12_clash_58
    · refine z_iconst F dX12_clash_19 ?_
      refine z_goto (tgt := 33) F dX12_clash_20 (by decide +kernel) ?_
      refine pf_X12_73 F hI gs_131 rfl bd_131_4 rfl rfl dX12_clash_33 (by omega) (by omega) (fun M27 hI sf26 f26 => ?_)
      have hF := hF.wrf f26 (by decide) (by decide)
      have hW : WFk M27 := hW.site f26 (by decide)
      refine z_aload_n F dX12_clash_36 rfl (q := 0) rfl ?_
      refine gf_X12_73 F hI gs_131 rfl bd_131_4 dX12_clash_37 (fun v28 ev28 av28 bv28 => ?_)
      have zv28 : 1 = v28 := sf26.symm.trans ev28.symm
      subst zv28
      refine z_if_ne (tgt := 57) F dX12_clash_40 (by decide +kernel) (by omega) (fun c29 => ?_) (fun c29 => by exfalso; omega)
      refine z_iconst F dX12_clash_57 ?_
      exact hret _ _ 58 _ ⟨by omega, by omega⟩ ⟨hI, hW⟩ ⟨⟨by omega, by omega⟩, hF⟩ dX12_clash_58
set_option maxRecDepth 4000 in
theorem k_X12_clashes (l : Launch) (M : Mem) (hJ : Iw M) : CI l yX12_clashes cX12_clashes 1 (some .int) 8 (fun ad => [.ref (ad 131)]) M (fun z M' => ((-2147483648) ≤ z ∧ z ≤ 2147483647) ∧ Fr [131, 137] M M') := by
  obtain ⟨hI, hW⟩ := hJ
  have hF : Fr [131, 137] M M := Fr.rf
  refine en_i (by decide +kernel) (fun ad => by exact Nat.le_of_ble_eq_true rfl) (fun D cy ad A p e s m args below meth c Q F hret => ?_)
  refine z_eq (ls' := [(0, .ref (ad 131))]) rfl rfl rfl ?_
  refine z_aload_n F dX12_clashes_0 rfl (q := 0) rfl ?_
  refine z_iconst F dX12_clashes_1 ?_
  refine pf_X12_73 F hI gs_131 rfl bd_131_4 rfl rfl dX12_clashes_2 (by omega) (by omega) (fun M2 hI sf1 f1 => ?_)
  have hF := hF.wrf f1 (by decide) (by decide)
  have hW : WFk M2 := hW.site f1 (by decide)
  refine z_aload_n F dX12_clashes_5 rfl (q := 0) rfl ?_
  refine zv_i (rest := []) F (k_X12_allClashes l M2 ⟨hI, hW⟩) cs_X12_352 (T := TX12) (N := 44) (ci := 12) rfl gs_131 (by decide) (by decide) rfl rfl rfl (Nat.le_of_ble_eq_true rfl) dX12_clashes_6 (fun v3 M4 rv3 hI p5 => ?_)
  obtain ⟨hI, hW⟩ := hI
  obtain ⟨⟨av3, bv3⟩, fp5⟩ := p5
  have hF := hF.call fp5 (by decide)
  exact hret _ _ 9 _ (by omega) ⟨hI, hW⟩ ⟨⟨by omega, by omega⟩, hF⟩ dX12_clashes_9
set_option maxRecDepth 4000 in
theorem k_X12_firstOf (l : Launch) (M : Mem) (hJ : Iw M) : CI l yX12_firstOf cX12_firstOf 3 (some .int) 6 (fun ad => [.ref (ad 131)]) M (fun z M' => ((-1) ≤ z ∧ z ≤ 77) ∧ Fr [137] M M' ∧ ((z = -1 ∨ 0 ≤ z ∧ z % 10 ≤ 7 ∧ z / 10 ≤ 7))) := by
  obtain ⟨hI, hW⟩ := hJ
  have hF : Fr [137] M M := Fr.rf
  refine en_i (by decide +kernel) (fun ad => by exact Nat.le_of_ble_eq_true rfl) (fun D cy ad A p e s m args below meth c Q F hret => ?_)
  refine z_eq (ls' := [(0, .ref (ad 131))]) rfl rfl rfl ?_
  refine z_iconst F dX12_firstOf_0 ?_
  refine z_istore_n F dX12_firstOf_1 rfl (by decide) (ls' := [(1, ii 0), (0, .ref (ad 131))]) rfl ?_
  refine z_loc [1, 0] (ls' := [(0, .ref (ad 131)), (1, ii 0)]) rfl ?_
  suffices key2 : ∀ (n : Nat) (y2 : Int) (M1 : Mem), Inv M1 → WFk M1 → Fr [137] M M1 → 0 ≤ y2 → y2 ≤ 8 → 8 - y2 < (n : Int) → Z D cy ad p l e (RMh 6) s m args below meth c A 3 0 0 Q 2 [(0, .ref (ad 131)), (1, ii y2)] [] M1 from key2 9 0 M hI hW hF (by omega) (by omega) (by omega)
  intro n2
  induction n2 with
  | zero => intro y2 M1 hI hW hF ay2 by2 hn2; exfalso; omega
  | succ n2 ih2 =>
    intro y2 M1 hI hW hF ay2 by2 hn2
    refine z_iload_n F dX12_firstOf_2 rfl (q := 1) rfl ?_
    refine z_aload_n F dX12_firstOf_3 rfl (q := 0) rfl ?_
    refine zv_i (rest := [ii y2]) F (k_X12_things l M1 ⟨hI, hW⟩) cs_X12_275 (T := TX12) (N := 44) (ci := 12) rfl gs_131 (by decide) (by decide) rfl rfl rfl (Nat.le_of_ble_eq_true rfl) dX12_firstOf_4 (fun v3 M4 rv3 hI p5 => ?_)
    obtain ⟨hI, hW⟩ := hI
    obtain ⟨⟨av3, bv3⟩, rfl, xp5⟩ := p5
    refine z_icmp_ge (tgt := 55) F dX12_firstOf_7 (by decide +kernel) (by omega) (by omega) (fun c6 => ?_) (fun c6 => ?_)
    · refine z_iconst F dX12_firstOf_55 ?_
      exact hret _ _ 56 _ (by omega) ⟨hI, hW⟩ ⟨⟨by omega, by omega⟩, hF, (by omega)⟩ dX12_firstOf_56
    · refine z_iload_n F dX12_firstOf_10 rfl (q := 1) rfl ?_
      refine z_iconst F dX12_firstOf_11 ?_
      refine z_iadd F dX12_firstOf_12 ?_
      refine z_nm (fun v7 ev7 => ?_)
      refine z_istore_n F dX12_firstOf_13 rfl (by decide) (ls' := [(2, ii v7), (0, .ref (ad 131)), (1, ii y2)]) rfl ?_
      refine z_loc [1, 2, 0] (ls' := [(0, .ref (ad 131)), (1, ii y2), (2, ii v7)]) rfl ?_
      suffices key14 : ∀ (n : Nat) (y9 : Int) (M8 : Mem), Inv M8 → WFk M8 → Fr [137] M M8 → 1 ≤ y9 → y9 ≤ 8 → 8 - y9 < (n : Int) → Z D cy ad p l e (RMh 6) s m args below meth c A 3 0 0 Q 14 [(0, .ref (ad 131)), (1, ii y2), (2, ii y9)] [] M8 from key14 8 v7 M1 hI hW hF (by omega) (by omega) (by omega)
      intro n14
      induction n14 with
      | zero => intro y9 M8 hI hW hF ay9 by9 hn14; exfalso; omega
      | succ n14 ih14 =>
        intro y9 M8 hI hW hF ay9 by9 hn14
        refine z_iload_n F dX12_firstOf_14 rfl (q := 2) rfl ?_
        refine z_aload_n F dX12_firstOf_15 rfl (q := 0) rfl ?_
        refine zv_i (rest := [ii y9]) F (k_X12_things l M8 ⟨hI, hW⟩) cs_X12_275 (T := TX12) (N := 44) (ci := 12) rfl gs_131 (by decide) (by decide) rfl rfl rfl (Nat.le_of_ble_eq_true rfl) dX12_firstOf_16 (fun v10 M11 rv10 hI p12 => ?_)
        obtain ⟨hI, hW⟩ := hI
        obtain ⟨⟨av10, bv10⟩, rfl, xp12⟩ := p12
        refine z_icmp_ge (tgt := 49) F dX12_firstOf_19 (by decide +kernel) (by omega) (by omega) (fun c13 => ?_) (fun c13 => ?_)
        · refine z_iincN F dX12_firstOf_49 (q := 1) rfl (by decide) (fun v14 ev14 => ?_)
          refine z_eq (ls' := [(1, ii v14), (0, .ref (ad 131)), (2, ii y9)]) rfl rfl rfl ?_
          refine z_goto (tgt := 2) F dX12_firstOf_52 (by decide +kernel) ?_
          refine z_loc [1, 0] (ls' := [(0, .ref (ad 131)), (1, ii v14)]) rfl ?_
          exact ih2 v14 M8 hI hW hF (by omega) (by omega) (by omega)
        · refine z_aload_n F dX12_firstOf_22 rfl (q := 0) rfl ?_
          refine z_iload_n F dX12_firstOf_23 rfl (q := 1) rfl ?_
          refine z_aload_n F dX12_firstOf_24 rfl (q := 0) rfl ?_
          refine z_iload_n F dX12_firstOf_25 rfl (q := 1) rfl ?_
          refine zv_i (rest := [ii y2, .ref (ad 131)]) F (k_X12_lies l M8 ⟨hI, hW⟩ y2 (by omega) (by omega)) cs_X12_317 (T := TX12) (N := 44) (ci := 12) rfl gs_131 (by decide) (by decide) rfl rfl rfl (Nat.le_of_ble_eq_true rfl) dX12_firstOf_26 (fun v15 M16 rv15 hI p17 => ?_)
          obtain ⟨hI, hW⟩ := hI
          obtain ⟨⟨av15, bv15⟩, rfl⟩ := p17
          refine z_iload_n F dX12_firstOf_29 rfl (q := 2) rfl ?_
          refine zv_i (rest := []) F (k_X12_clashAt l M8 ⟨hI, hW⟩ y2 (by omega) (by omega) v15 (by omega) (by omega) y9 (by omega) (by omega)) cs_X12_325 (T := TX12) (N := 44) (ci := 12) rfl gs_131 (by decide) (by decide) rfl rfl rfl (Nat.le_of_ble_eq_true rfl) dX12_firstOf_30 (fun v18 M19 rv18 hI p20 => ?_)
          obtain ⟨hI, hW⟩ := hI
          obtain ⟨⟨av18, bv18⟩, fp20⟩ := p20
          have hF := hF.call fp20 (by decide)
          refine z_if_eq (tgt := 43) F dX12_firstOf_33 (by decide +kernel) (by omega) (fun c21 => ?_) (fun c21 => ?_)
          · refine z_iincN F dX12_firstOf_43 (q := 2) rfl (by decide) (fun v22 ev22 => ?_)
            refine z_eq (ls' := [(2, ii v22), (0, .ref (ad 131)), (1, ii y2)]) rfl rfl rfl ?_
            refine z_goto (tgt := 14) F dX12_firstOf_46 (by decide +kernel) ?_
            refine z_loc [1, 2, 0] (ls' := [(0, .ref (ad 131)), (1, ii y2), (2, ii v22)]) rfl ?_
            exact ih14 v22 M19 hI hW hF (by omega) (by omega) (by omega)
          · refine z_bipush F dX12_firstOf_36 (by decide +kernel) ?_
            refine z_iload_n F dX12_firstOf_38 rfl (q := 1) rfl ?_
            refine z_imul F dX12_firstOf_39 ?_
            refine z_iload_n F dX12_firstOf_40 rfl (q := 2) rfl ?_
            refine z_iadd F dX12_firstOf_41 ?_
            exact hret _ _ 42 _ (by omega) ⟨hI, hW⟩ ⟨⟨by omega, by omega⟩, hF, (by omega)⟩ dX12_firstOf_42
set_option maxRecDepth 4000 in
theorem k_X12_firstClash (l : Launch) (M : Mem) (hJ : Iw M) : CI l yX12_firstClash cX12_firstClash 1 (some .int) 7 (fun ad => [.ref (ad 131)]) M (fun z M' => ((-1) ≤ z ∧ z ≤ 77) ∧ Fr [131, 137] M M') := by
  obtain ⟨hI, hW⟩ := hJ
  have hF : Fr [131, 137] M M := Fr.rf
  refine en_i (by decide +kernel) (fun ad => by exact Nat.le_of_ble_eq_true rfl) (fun D cy ad A p e s m args below meth c Q F hret => ?_)
  refine z_eq (ls' := [(0, .ref (ad 131))]) rfl rfl rfl ?_
  refine z_aload_n F dX12_firstClash_0 rfl (q := 0) rfl ?_
  refine z_iconst F dX12_firstClash_1 ?_
  refine pf_X12_73 F hI gs_131 rfl bd_131_4 rfl rfl dX12_firstClash_2 (by omega) (by omega) (fun M2 hI sf1 f1 => ?_)
  have hF := hF.wrf f1 (by decide) (by decide)
  have hW : WFk M2 := hW.site f1 (by decide)
  refine z_aload_n F dX12_firstClash_5 rfl (q := 0) rfl ?_
  refine zv_i (rest := []) F (k_X12_firstOf l M2 ⟨hI, hW⟩) cs_X12_355 (T := TX12) (N := 44) (ci := 12) rfl gs_131 (by decide) (by decide) rfl rfl rfl (Nat.le_of_ble_eq_true rfl) dX12_firstClash_6 (fun v3 M4 rv3 hI p5 => ?_)
  obtain ⟨hI, hW⟩ := hI
  obtain ⟨⟨av3, bv3⟩, fp5, xp5⟩ := p5
  have hF := hF.call fp5 (by decide)
  exact hret _ _ 9 _ (by omega) ⟨hI, hW⟩ ⟨⟨by omega, by omega⟩, hF⟩ dX12_firstClash_9
set_option maxRecDepth 4000 in
theorem k_X12_keeps (l : Launch) (M : Mem) (hJ : Iw M) : CV l yX12_keeps cX12_keeps 2 none 1 (fun ad => [.ref (ad 131)]) M (fun M' => Fr [132] M M') := by
  obtain ⟨hI, hW⟩ := hJ
  have hF : Fr [132] M M := Fr.rf
  refine en_v (by decide +kernel) (fun ad => by exact Nat.le_of_ble_eq_true rfl) (fun D cy ad A p e s m args below meth c Q F hret => ?_)
  refine z_eq (ls' := [(0, .ref (ad 131))]) rfl rfl rfl ?_
  refine z_aload_n F dX12_keeps_0 rfl (q := 0) rfl ?_
  refine rf_X12_9 F gs_131 rfl dX12_keeps_1 ?_
  refine z_bipush F dX12_keeps_4 (by decide +kernel) ?_
  refine z_iald F hI gs_132 (by omega) (by omega) (by decide) (show Bd 132 7 = (0, 12) from rfl) dX12_keeps_6 (fun v1 (ev1 : v1 = M 132 7) av1 bv1 => ?_)
  refine z_bipush F dX12_keeps_7 (by decide +kernel) ?_
  refine z_icmp_ne (tgt := 55) F dX12_keeps_9 (by decide +kernel) (by omega) (by omega) (fun c2 => ?_) (fun c2 => ?_)
  · refine z_iconst F dX12_keeps_55 ?_
    refine z_istore_n F dX12_keeps_56 rfl (by decide) (ls' := [(1, ii 0), (0, .ref (ad 131))]) rfl ?_
    refine z_loc [1, 0] (ls' := [(0, .ref (ad 131)), (1, ii 0)]) rfl ?_
    suffices key57 : ∀ (n : Nat) (y4 : Int) (M3 : Mem), Inv M3 → WFk M3 → Fr [132] M M3 → 0 ≤ y4 → y4 ≤ 18 → (M3 132 7 ≤ 11) → 18 - y4 < (n : Int) → Z D cy ad p l e (RMh 1) s m args below meth c A 2 0 0 Q 57 [(0, .ref (ad 131)), (1, ii y4)] [] M3 from key57 19 0 M hI hW hF (by omega) (by omega) (by omega) (by omega)
    intro n57
    induction n57 with
    | zero => intro y4 M3 hI hW hF ay4 by4 i57_0 hn57; exfalso; omega
    | succ n57 ih57 =>
      intro y4 M3 hI hW hF ay4 by4 i57_0 hn57
      obtain ⟨u5, eu5⟩ : ∃ v : Int, v = M3 132 7 := ⟨_, rfl⟩
      have ku5 : 0 ≤ u5 ∧ u5 ≤ 11 := by have := hI.at (show Bd 132 7 = (0, 12) from rfl); omega
      refine z_iload_n F dX12_keeps_57 rfl (q := 1) rfl ?_
      refine z_bipush F dX12_keeps_58 (by decide +kernel) ?_
      refine z_icmp_ge (tgt := 99) F dX12_keeps_60 (by decide +kernel) (by omega) (by omega) (fun c6 => ?_) (fun c6 => ?_)
      · refine z_aload_n F dX12_keeps_99 rfl (q := 0) rfl ?_
        refine rf_X12_9 F gs_131 rfl dX12_keeps_100 ?_
        refine z_bipush F dX12_keeps_103 (by decide +kernel) ?_
        refine z_dup2 F dX12_keeps_105 rfl rfl ?_
        refine z_iald F hI gs_132 (by omega) (by omega) (by decide) (show Bd 132 7 = (0, 12) from rfl) dX12_keeps_106 (fun v7 (ev7 : v7 = M3 132 7) av7 bv7 => ?_)
        have zv7 : u5 = v7 := eu5.trans ev7.symm
        subst zv7
        refine z_iconst F dX12_keeps_107 ?_
        refine z_iadd F dX12_keeps_108 ?_
        refine z_nm (fun v9 ev9 => ?_)
        refine z_iast F hI gs_132 (by omega) (by omega) (by decide) (show Bd 132 7 = (0, 12) from rfl) dX12_keeps_109 (by omega) (by omega) (fun M10 hI sf8 f8 => ?_)
        have hF := hF.wrk f8 (by decide) (by omega)
        have hW : WFk M10 := hW.known f8 (by omega)
        have sf8 : M10 132 7 = v9 := sf8
        exact hret _ 110 _ ⟨hI, hW⟩ hF dX12_keeps_110
      · refine z_aload_n F dX12_keeps_63 rfl (q := 0) rfl ?_
        refine rf_X12_9 F gs_131 rfl dX12_keeps_64 ?_
        refine z_sipush F dX12_keeps_67 (by decide +kernel) ?_
        refine z_bipush F dX12_keeps_70 (by decide +kernel) ?_
        refine z_aload_n F dX12_keeps_72 rfl (q := 0) rfl ?_
        refine rf_X12_9 F gs_131 rfl dX12_keeps_73 ?_
        refine z_bipush F dX12_keeps_76 (by decide +kernel) ?_
        refine z_iald F hI gs_132 (by omega) (by omega) (by decide) (show Bd 132 7 = (0, 12) from rfl) dX12_keeps_78 (fun v11 (ev11 : v11 = M3 132 7) av11 bv11 => ?_)
        have zv11 : u5 = v11 := eu5.trans ev11.symm
        subst zv11
        refine z_imul F dX12_keeps_79 ?_
        refine z_iadd F dX12_keeps_80 ?_
        refine z_iload_n F dX12_keeps_81 rfl (q := 1) rfl ?_
        refine z_iadd F dX12_keeps_82 ?_
        refine z_aload_n F dX12_keeps_83 rfl (q := 0) rfl ?_
        refine rf_X12_9 F gs_131 rfl dX12_keeps_84 ?_
        refine z_bipush F dX12_keeps_87 (by decide +kernel) ?_
        refine z_iload_n F dX12_keeps_89 rfl (q := 1) rfl ?_
        refine z_iadd F dX12_keeps_90 ?_
        refine z_ialdB F hI gs_132 (by omega) (by omega) (by decide) kn_w dX12_keeps_91 (fun v12 ev12 av12 bv12 rv12 => ?_)
        refine z_iastB F hI gs_132 (by omega) (by omega) (by decide) dX12_keeps_92 (bq_in (Eq.trans (bq_un (y := y4) u5 (by omega) (by omega) (by omega) (by omega) (by omega)) (Eq.symm (bq_as (y := y4) (by omega) (by omega) (by omega)))) av12 bv12) (fun M14 hI sf13 f13 => ?_)
        have hF := hF.wrk f13 (by decide) (by omega)
        have hW : WFk M14 := hW.known f13 (by omega)
        refine z_iincN F dX12_keeps_93 (q := 1) rfl (by decide) (fun v15 ev15 => ?_)
        refine z_eq (ls' := [(1, ii v15), (0, .ref (ad 131))]) rfl rfl rfl ?_
        refine z_goto (tgt := 57) F dX12_keeps_96 (by decide +kernel) ?_
        refine z_loc [1, 0] (ls' := [(0, .ref (ad 131)), (1, ii v15)]) rfl ?_
        have q16 : u5 = M14 132 7 := eu5.trans (f13 132 7 (fun q => by omega)).symm
        exact ih57 v15 M14 hI hW hF (by omega) (by omega) (by omega) (by omega)
  · refine z_sipush F dX12_keeps_12 (by decide +kernel) ?_
    refine z_istore_n F dX12_keeps_15 rfl (by decide) (ls' := [(1, ii 168), (0, .ref (ad 131))]) rfl ?_
    refine z_loc [1, 0] (ls' := [(0, .ref (ad 131)), (1, ii 168)]) rfl ?_
    suffices key16 : ∀ (n : Nat) (y18 : Int) (M17 : Mem), Inv M17 → WFk M17 → Fr [132] M M17 → 168 ≤ y18 → y18 ≤ 366 → (M17 132 7 = 12) → 366 - y18 < (n : Int) → Z D cy ad p l e (RMh 1) s m args below meth c A 2 0 0 Q 16 [(0, .ref (ad 131)), (1, ii y18)] [] M17 from key16 199 168 M hI hW hF (by omega) (by omega) (by omega) (by omega)
    intro n16
    induction n16 with
    | zero => intro y18 M17 hI hW hF ay18 by18 i16_0 hn16; exfalso; omega
    | succ n16 ih16 =>
      intro y18 M17 hI hW hF ay18 by18 i16_0 hn16
      obtain ⟨u19, eu19⟩ : ∃ v : Int, v = M17 132 7 := ⟨_, rfl⟩
      have ku19 : 12 ≤ u19 ∧ u19 ≤ 12 := by have := hI.at (show Bd 132 7 = (0, 12) from rfl); omega
      refine z_iload_n F dX12_keeps_16 rfl (q := 1) rfl ?_
      refine z_sipush F dX12_keeps_17 (by decide +kernel) ?_
      refine z_icmp_ge (tgt := 44) F dX12_keeps_20 (by decide +kernel) (by omega) (by omega) (fun c20 => ?_) (fun c20 => ?_)
      · refine z_aload_n F dX12_keeps_44 rfl (q := 0) rfl ?_
        refine rf_X12_9 F gs_131 rfl dX12_keeps_45 ?_
        refine z_bipush F dX12_keeps_48 (by decide +kernel) ?_
        refine z_dup2 F dX12_keeps_50 rfl rfl ?_
        refine z_iald F hI gs_132 (by omega) (by omega) (by decide) (show Bd 132 7 = (0, 12) from rfl) dX12_keeps_51 (fun v21 (ev21 : v21 = M17 132 7) av21 bv21 => ?_)
        have zv21 : u19 = v21 := eu19.trans ev21.symm
        subst zv21
        refine z_iconst F dX12_keeps_52 ?_
        refine z_isub F dX12_keeps_53 ?_
        refine z_nm (fun v23 ev23 => ?_)
        refine z_iast F hI gs_132 (by omega) (by omega) (by decide) (show Bd 132 7 = (0, 12) from rfl) dX12_keeps_54 (by omega) (by omega) (fun M24 hI sf22 f22 => ?_)
        have hF := hF.wrk f22 (by decide) (by omega)
        have hW : WFk M24 := hW.known f22 (by omega)
        have sf22 : M24 132 7 = v23 := sf22
        refine z_iconst F dX12_keeps_55 ?_
        refine z_istore_n F dX12_keeps_56 rfl (by decide) (ls' := [(1, ii 0), (0, .ref (ad 131))]) rfl ?_
        refine z_loc [1, 0] (ls' := [(0, .ref (ad 131)), (1, ii 0)]) rfl ?_
        suffices key57 : ∀ (n : Nat) (y26 : Int) (M25 : Mem), Inv M25 → WFk M25 → Fr [132] M M25 → 0 ≤ y26 → y26 ≤ 18 → (M25 132 7 ≤ 11) → 18 - y26 < (n : Int) → Z D cy ad p l e (RMh 1) s m args below meth c A 2 0 0 Q 57 [(0, .ref (ad 131)), (1, ii y26)] [] M25 from key57 19 0 M24 hI hW hF (by omega) (by omega) (by omega) (by omega)
        intro n57
        induction n57 with
        | zero => intro y26 M25 hI hW hF ay26 by26 i57_0 hn57; exfalso; omega
        | succ n57 ih57 =>
          intro y26 M25 hI hW hF ay26 by26 i57_0 hn57
          obtain ⟨u27, eu27⟩ : ∃ v : Int, v = M25 132 7 := ⟨_, rfl⟩
          have ku27 : 0 ≤ u27 ∧ u27 ≤ 11 := by have := hI.at (show Bd 132 7 = (0, 12) from rfl); omega
          refine z_iload_n F dX12_keeps_57 rfl (q := 1) rfl ?_
          refine z_bipush F dX12_keeps_58 (by decide +kernel) ?_
          refine z_icmp_ge (tgt := 99) F dX12_keeps_60 (by decide +kernel) (by omega) (by omega) (fun c28 => ?_) (fun c28 => ?_)
          · refine z_aload_n F dX12_keeps_99 rfl (q := 0) rfl ?_
            refine rf_X12_9 F gs_131 rfl dX12_keeps_100 ?_
            refine z_bipush F dX12_keeps_103 (by decide +kernel) ?_
            refine z_dup2 F dX12_keeps_105 rfl rfl ?_
            refine z_iald F hI gs_132 (by omega) (by omega) (by decide) (show Bd 132 7 = (0, 12) from rfl) dX12_keeps_106 (fun v29 (ev29 : v29 = M25 132 7) av29 bv29 => ?_)
            have zv29 : u27 = v29 := eu27.trans ev29.symm
            subst zv29
            refine z_iconst F dX12_keeps_107 ?_
            refine z_iadd F dX12_keeps_108 ?_
            refine z_nm (fun v31 ev31 => ?_)
            refine z_iast F hI gs_132 (by omega) (by omega) (by decide) (show Bd 132 7 = (0, 12) from rfl) dX12_keeps_109 (by omega) (by omega) (fun M32 hI sf30 f30 => ?_)
            have hF := hF.wrk f30 (by decide) (by omega)
            have hW : WFk M32 := hW.known f30 (by omega)
            have sf30 : M32 132 7 = v31 := sf30
            exact hret _ 110 _ ⟨hI, hW⟩ hF dX12_keeps_110
          · refine z_aload_n F dX12_keeps_63 rfl (q := 0) rfl ?_
            refine rf_X12_9 F gs_131 rfl dX12_keeps_64 ?_
            refine z_sipush F dX12_keeps_67 (by decide +kernel) ?_
            refine z_bipush F dX12_keeps_70 (by decide +kernel) ?_
            refine z_aload_n F dX12_keeps_72 rfl (q := 0) rfl ?_
            refine rf_X12_9 F gs_131 rfl dX12_keeps_73 ?_
            refine z_bipush F dX12_keeps_76 (by decide +kernel) ?_
            refine z_iald F hI gs_132 (by omega) (by omega) (by decide) (show Bd 132 7 = (0, 12) from rfl) dX12_keeps_78 (fun v33 (ev33 : v33 = M25 132 7) av33 bv33 => ?_)
            have zv33 : u27 = v33 := eu27.trans ev33.symm
            subst zv33
            refine z_imul F dX12_keeps_79 ?_
            refine z_iadd F dX12_keeps_80 ?_
            refine z_iload_n F dX12_keeps_81 rfl (q := 1) rfl ?_
            refine z_iadd F dX12_keeps_82 ?_
            refine z_aload_n F dX12_keeps_83 rfl (q := 0) rfl ?_
            refine rf_X12_9 F gs_131 rfl dX12_keeps_84 ?_
            refine z_bipush F dX12_keeps_87 (by decide +kernel) ?_
            refine z_iload_n F dX12_keeps_89 rfl (q := 1) rfl ?_
            refine z_iadd F dX12_keeps_90 ?_
            refine z_ialdB F hI gs_132 (by omega) (by omega) (by decide) kn_w dX12_keeps_91 (fun v34 ev34 av34 bv34 rv34 => ?_)
            refine z_iastB F hI gs_132 (by omega) (by omega) (by decide) dX12_keeps_92 (bq_in (Eq.trans (bq_un (y := y26) u27 (by omega) (by omega) (by omega) (by omega) (by omega)) (Eq.symm (bq_as (y := y26) (by omega) (by omega) (by omega)))) av34 bv34) (fun M36 hI sf35 f35 => ?_)
            have hF := hF.wrk f35 (by decide) (by omega)
            have hW : WFk M36 := hW.known f35 (by omega)
            refine z_iincN F dX12_keeps_93 (q := 1) rfl (by decide) (fun v37 ev37 => ?_)
            refine z_eq (ls' := [(1, ii v37), (0, .ref (ad 131))]) rfl rfl rfl ?_
            refine z_goto (tgt := 57) F dX12_keeps_96 (by decide +kernel) ?_
            refine z_loc [1, 0] (ls' := [(0, .ref (ad 131)), (1, ii v37)]) rfl ?_
            have q38 : u27 = M36 132 7 := eu27.trans (f35 132 7 (fun q => by omega)).symm
            exact ih57 v37 M36 hI hW hF (by omega) (by omega) (by omega) (by omega)
      · refine z_aload_n F dX12_keeps_23 rfl (q := 0) rfl ?_
        refine rf_X12_9 F gs_131 rfl dX12_keeps_24 ?_
        refine z_iload_n F dX12_keeps_27 rfl (q := 1) rfl ?_
        refine z_aload_n F dX12_keeps_28 rfl (q := 0) rfl ?_
        refine rf_X12_9 F gs_131 rfl dX12_keeps_29 ?_
        refine z_iload_n F dX12_keeps_32 rfl (q := 1) rfl ?_
        refine z_bipush F dX12_keeps_33 (by decide +kernel) ?_
        refine z_iadd F dX12_keeps_35 ?_
        refine z_ialdB F hI gs_132 (by omega) (by omega) (by decide) kn_w dX12_keeps_36 (fun v39 ev39 av39 bv39 rv39 => ?_)
        refine z_iastB F hI gs_132 (by omega) (by omega) (by decide) dX12_keeps_37 (bq_in (bq_18 (by omega) (by omega) (by omega)) av39 bv39) (fun M41 hI sf40 f40 => ?_)
        have hF := hF.wrk f40 (by decide) (by omega)
        have hW : WFk M41 := hW.known f40 (by omega)
        refine z_iincN F dX12_keeps_38 (q := 1) rfl (by decide) (fun v42 ev42 => ?_)
        refine z_eq (ls' := [(1, ii v42), (0, .ref (ad 131))]) rfl rfl rfl ?_
        refine z_goto (tgt := 16) F dX12_keeps_41 (by decide +kernel) ?_
        refine z_loc [1, 0] (ls' := [(0, .ref (ad 131)), (1, ii v42)]) rfl ?_
        have q43 : u19 = M41 132 7 := eu19.trans (f40 132 7 (fun q => by omega)).symm
        exact ih16 v42 M41 hI hW hF (by omega) (by omega) (by omega) (by omega)
set_option maxRecDepth 4000 in
theorem k_X12_putsAside (l : Launch) (M : Mem) (hJ : Iw M) : CV l yX12_putsAside cX12_putsAside 2 none 1 (fun ad => [.ref (ad 131)]) M (fun M' => Fr [138] M M') := by
  obtain ⟨hI, hW⟩ := hJ
  have hF : Fr [138] M M := Fr.rf
  refine en_v (by decide +kernel) (fun ad => by exact Nat.le_of_ble_eq_true rfl) (fun D cy ad A p e s m args below meth c Q F hret => ?_)
  refine z_eq (ls' := [(0, .ref (ad 131))]) rfl rfl rfl ?_
  refine z_iconst F dX12_putsAside_0 ?_
  refine z_istore_n F dX12_putsAside_1 rfl (by decide) (ls' := [(1, ii 0), (0, .ref (ad 131))]) rfl ?_
  refine z_loc [1, 0] (ls' := [(0, .ref (ad 131)), (1, ii 0)]) rfl ?_
  suffices key2 : ∀ (n : Nat) (y2 : Int) (M1 : Mem), Inv M1 → WFk M1 → Fr [138] M M1 → 0 ≤ y2 → y2 ≤ 18 → 18 - y2 < (n : Int) → Z D cy ad p l e (RMh 1) s m args below meth c A 2 0 0 Q 2 [(0, .ref (ad 131)), (1, ii y2)] [] M1 from key2 19 0 M hI hW hF (by omega) (by omega) (by omega)
  intro n2
  induction n2 with
  | zero => intro y2 M1 hI hW hF ay2 by2 hn2; exfalso; omega
  | succ n2 ih2 =>
    intro y2 M1 hI hW hF ay2 by2 hn2
    refine z_iload_n F dX12_putsAside_2 rfl (q := 1) rfl ?_
    refine z_bipush F dX12_putsAside_3 (by decide +kernel) ?_
    refine z_icmp_ge (tgt := 29) F dX12_putsAside_5 (by decide +kernel) (by omega) (by omega) (fun c3 => ?_) (fun c3 => ?_)
    · exact hret _ 29 _ ⟨hI, hW⟩ hF dX12_putsAside_29
    · refine z_aload_n F dX12_putsAside_8 rfl (q := 0) rfl ?_
      refine rf_X12_33 F gs_131 rfl dX12_putsAside_9 ?_
      refine z_iload_n F dX12_putsAside_12 rfl (q := 1) rfl ?_
      refine z_aload_n F dX12_putsAside_13 rfl (q := 0) rfl ?_
      refine rf_X12_9 F gs_131 rfl dX12_putsAside_14 ?_
      refine z_bipush F dX12_putsAside_17 (by decide +kernel) ?_
      refine z_iload_n F dX12_putsAside_19 rfl (q := 1) rfl ?_
      refine z_iadd F dX12_putsAside_20 ?_
      refine z_ialdB F hI gs_132 (by omega) (by omega) (by decide) kn_w dX12_putsAside_21 (fun v4 ev4 av4 bv4 rv4 => ?_)
      refine z_iastB F hI gs_138 (by omega) (by omega) (by decide) dX12_putsAside_22 (bq_in (Eq.trans (rfl : Bd 138 _ = as18 _) (Eq.symm (bq_as (y := y2) (by omega) (by omega) (by omega)))) av4 bv4) (fun M6 hI sf5 f5 => ?_)
      have hF := hF.wr f5 (by decide) (by decide)
      have hW : WFk M6 := hW.site f5 (by decide)
      refine z_iincN F dX12_putsAside_23 (q := 1) rfl (by decide) (fun v7 ev7 => ?_)
      refine z_eq (ls' := [(1, ii v7), (0, .ref (ad 131))]) rfl rfl rfl ?_
      refine z_goto (tgt := 2) F dX12_putsAside_26 (by decide +kernel) ?_
      refine z_loc [1, 0] (ls' := [(0, .ref (ad 131)), (1, ii v7)]) rfl ?_
      exact ih2 v7 M6 hI hW hF (by omega) (by omega) (by omega)
set_option maxRecDepth 4000 in
theorem k_X12_putsBack (l : Launch) (M : Mem) (hJ : Iw M) : CV l yX12_putsBack cX12_putsBack 2 none 1 (fun ad => [.ref (ad 131)]) M (fun M' => Fr [132] M M') := by
  obtain ⟨hI, hW⟩ := hJ
  have hF : Fr [132] M M := Fr.rf
  refine en_v (by decide +kernel) (fun ad => by exact Nat.le_of_ble_eq_true rfl) (fun D cy ad A p e s m args below meth c Q F hret => ?_)
  refine z_eq (ls' := [(0, .ref (ad 131))]) rfl rfl rfl ?_
  refine z_iconst F dX12_putsBack_0 ?_
  refine z_istore_n F dX12_putsBack_1 rfl (by decide) (ls' := [(1, ii 0), (0, .ref (ad 131))]) rfl ?_
  refine z_loc [1, 0] (ls' := [(0, .ref (ad 131)), (1, ii 0)]) rfl ?_
  suffices key2 : ∀ (n : Nat) (y2 : Int) (M1 : Mem), Inv M1 → WFk M1 → Fr [132] M M1 → 0 ≤ y2 → y2 ≤ 18 → 18 - y2 < (n : Int) → Z D cy ad p l e (RMh 1) s m args below meth c A 2 0 0 Q 2 [(0, .ref (ad 131)), (1, ii y2)] [] M1 from key2 19 0 M hI hW hF (by omega) (by omega) (by omega)
  intro n2
  induction n2 with
  | zero => intro y2 M1 hI hW hF ay2 by2 hn2; exfalso; omega
  | succ n2 ih2 =>
    intro y2 M1 hI hW hF ay2 by2 hn2
    refine z_iload_n F dX12_putsBack_2 rfl (q := 1) rfl ?_
    refine z_bipush F dX12_putsBack_3 (by decide +kernel) ?_
    refine z_icmp_ge (tgt := 29) F dX12_putsBack_5 (by decide +kernel) (by omega) (by omega) (fun c3 => ?_) (fun c3 => ?_)
    · exact hret _ 29 _ ⟨hI, hW⟩ hF dX12_putsBack_29
    · refine z_aload_n F dX12_putsBack_8 rfl (q := 0) rfl ?_
      refine rf_X12_9 F gs_131 rfl dX12_putsBack_9 ?_
      refine z_bipush F dX12_putsBack_12 (by decide +kernel) ?_
      refine z_iload_n F dX12_putsBack_14 rfl (q := 1) rfl ?_
      refine z_iadd F dX12_putsBack_15 ?_
      refine z_aload_n F dX12_putsBack_16 rfl (q := 0) rfl ?_
      refine rf_X12_33 F gs_131 rfl dX12_putsBack_17 ?_
      refine z_iload_n F dX12_putsBack_20 rfl (q := 1) rfl ?_
      refine z_ialdB F hI gs_138 (by omega) (by omega) (by decide) as_w dX12_putsBack_21 (fun v4 ev4 av4 bv4 rv4 => ?_)
      refine z_iastB F hI gs_132 (by omega) (by omega) (by decide) dX12_putsBack_22 (bq_in (Eq.trans (bq_as (y := y2) (by omega) (by omega) (by omega)) (Eq.symm (rfl : Bd 138 _ = as18 _))) av4 bv4) (fun M6 hI sf5 f5 => ?_)
      have hF := hF.wrk f5 (by decide) (by omega)
      have hW : WFk M6 := hW.known f5 (by omega)
      refine z_iincN F dX12_putsBack_23 (q := 1) rfl (by decide) (fun v7 ev7 => ?_)
      refine z_eq (ls' := [(1, ii v7), (0, .ref (ad 131))]) rfl rfl rfl ?_
      refine z_goto (tgt := 2) F dX12_putsBack_26 (by decide +kernel) ?_
      refine z_loc [1, 0] (ls' := [(0, .ref (ad 131)), (1, ii v7)]) rfl ?_
      exact ih2 v7 M6 hI hW hF (by omega) (by omega) (by omega)
set_option maxRecDepth 4000 in
theorem k_X12_adds (l : Launch) (M : Mem) (hJ : Iw M) (x0 : Int) (hx0a : 0 ≤ x0) (hx0b : x0 ≤ 7) (x1 : Int) (hx1a : (-2147483648) ≤ x1) (hx1b : x1 ≤ 2147483647) : CV l yX12_adds cX12_adds 3 none 1 (fun ad => [.ref (ad 131), ii x0, ii x1]) M (fun M' => Fr [132] M M') := by
  obtain ⟨hI, hW⟩ := hJ
  have hF : Fr [132] M M := Fr.rf
  refine en_v (by decide +kernel) (fun ad => by exact Nat.le_of_ble_eq_true rfl) (fun D cy ad A p e s m args below meth c Q F hret => ?_)
  refine z_eq (ls' := [(0, .ref (ad 131)), (1, ii x0), (2, ii x1)]) rfl rfl rfl ?_
  refine z_aload_n F dX12_adds_0 rfl (q := 0) rfl ?_
  refine rf_X12_9 F gs_131 rfl dX12_adds_1 ?_
  refine z_bipush F dX12_adds_4 (by decide +kernel) ?_
  refine z_iload_n F dX12_adds_6 rfl (q := 1) rfl ?_
  refine z_iadd F dX12_adds_7 ?_
  refine z_iconst F dX12_adds_8 ?_
  refine z_bipush F dX12_adds_9 (by decide +kernel) ?_
  refine z_aload_n F dX12_adds_11 rfl (q := 0) rfl ?_
  refine rf_X12_9 F gs_131 rfl dX12_adds_12 ?_
  refine z_bipush F dX12_adds_15 (by decide +kernel) ?_
  refine z_iload_n F dX12_adds_17 rfl (q := 1) rfl ?_
  refine z_iadd F dX12_adds_18 ?_
  refine z_iald F hI gs_132 (by omega) (by omega) (by decide) (bd_132.trans (kn_any (by omega) (by omega))) dX12_adds_19 (fun v1 (ev1 : v1 = M 132 _) av1 bv1 => ?_)
  refine z_iload_n F dX12_adds_20 rfl (q := 2) rfl ?_
  refine z_iadd F dX12_adds_21 ?_
  refine z_wrap (fun v2 rv2 wv2 => ?_)
  refine z_min F mm_X12_309 (Nat.le_of_ble_eq_true rfl) dX12_adds_22 (by omega) (by omega) (fun v3 ev3 => ?_)
  refine z_max F mm_X12_311 (Nat.le_of_ble_eq_true rfl) dX12_adds_25 (by omega) (by omega) (fun v4 ev4 => ?_)
  refine z_iast F hI gs_132 (by omega) (by omega) (by decide) (bd_132.trans (kn_any (by omega) (by omega))) dX12_adds_28 (by omega) (by omega) (fun M6 hI sf5 f5 => ?_)
  have hF := hF.wrk f5 (by decide) (by omega)
  have hW : WFk M6 := hW.known f5 (by omega)
  exact hret _ 29 _ ⟨hI, hW⟩ hF dX12_adds_29
set_option maxRecDepth 4000 in
theorem k_X12_goesOn (l : Launch) (M : Mem) (hJ : Iw M) (x0 : Int) (hx0a : (-2147483648) ≤ x0) (hx0b : x0 ≤ 2147483647) : CV l yX12_goesOn cX12_goesOn 2 none 8 (fun ad => [.ref (ad 131), ii x0]) M (fun M' => Fr [132, 137] M M') := by
  obtain ⟨hI, hW⟩ := hJ
  have hF : Fr [132, 137] M M := Fr.rf
  refine en_v (by decide +kernel) (fun ad => by exact Nat.le_of_ble_eq_true rfl) (fun D cy ad A p e s m args below meth c Q F hret => ?_)
  refine z_eq (ls' := [(0, .ref (ad 131)), (1, ii x0)]) rfl rfl rfl ?_
  refine z_aload_n F dX12_goesOn_0 rfl (q := 0) rfl ?_
  refine rf_X12_9 F gs_131 rfl dX12_goesOn_1 ?_
  refine z_bipush F dX12_goesOn_4 (by decide +kernel) ?_
  refine z_dup2 F dX12_goesOn_6 rfl rfl ?_
  refine z_iald F hI gs_132 (by omega) (by omega) (by decide) (show Bd 132 25 = (-2147483648, 2147483647) from rfl) dX12_goesOn_7 (fun v1 (ev1 : v1 = M 132 25) av1 bv1 => ?_)
  refine z_iload_n F dX12_goesOn_8 rfl (q := 1) rfl ?_
  refine z_aload_n F dX12_goesOn_9 rfl (q := 0) rfl ?_
  refine zv_i (rest := [ii x0, ii v1, ii 25, .ref (ad 132)]) F (k_X12_allClashes l M ⟨hI, hW⟩) cs_X12_352 (T := TX12) (N := 44) (ci := 12) rfl gs_131 (by decide) (by decide) rfl rfl rfl (Nat.le_of_ble_eq_true rfl) dX12_goesOn_10 (fun v2 M3 rv2 hI p4 => ?_)
  obtain ⟨hI, hW⟩ := hI
  obtain ⟨⟨av2, bv2⟩, fp4⟩ := p4
  have hF := hF.call fp4 (by decide)
  refine z_imul F dX12_goesOn_13 ?_
  refine z_wrap (fun v5 rv5 _ => ?_)
  refine z_iadd F dX12_goesOn_14 ?_
  refine z_wrap (fun v6 rv6 wv6 => ?_)
  refine z_iast F hI gs_132 (by omega) (by omega) (by decide) (show Bd 132 25 = (-2147483648, 2147483647) from rfl) dX12_goesOn_15 (by omega) (by omega) (fun M8 hI sf7 f7 => ?_)
  have hF := hF.wrk f7 (by decide) (by omega)
  have hW : WFk M8 := hW.known f7 (by omega)
  have sf7 : M8 132 25 = v6 := sf7
  refine z_aload_n F dX12_goesOn_16 rfl (q := 0) rfl ?_
  refine rf_X12_9 F gs_131 rfl dX12_goesOn_17 ?_
  refine z_bipush F dX12_goesOn_20 (by decide +kernel) ?_
  refine z_dup2 F dX12_goesOn_22 rfl rfl ?_
  refine z_iald F hI gs_132 (by omega) (by omega) (by decide) (show Bd 132 24 = (-2147483648, 2147483647) from rfl) dX12_goesOn_23 (fun v9 (ev9 : v9 = M8 132 24) av9 bv9 => ?_)
  refine z_iload_n F dX12_goesOn_24 rfl (q := 1) rfl ?_
  refine z_iadd F dX12_goesOn_25 ?_
  refine z_wrap (fun v10 rv10 wv10 => ?_)
  refine z_iast F hI gs_132 (by omega) (by omega) (by decide) (show Bd 132 24 = (-2147483648, 2147483647) from rfl) dX12_goesOn_26 (by omega) (by omega) (fun M12 hI sf11 f11 => ?_)
  have hF := hF.wrk f11 (by decide) (by omega)
  have hW : WFk M12 := hW.known f11 (by omega)
  have sf11 : M12 132 24 = v10 := sf11
  exact hret _ 27 _ ⟨hI, hW⟩ hF dX12_goesOn_27
set_option maxRecDepth 4000 in
theorem k_X12_whyNot (l : Launch) (M : Mem) (hJ : Iw M) (x0 : Int) (hx0a : (-9223372036854775808) ≤ x0) (hx0b : x0 ≤ 9223372036854775807) (x1 : Int) (hx1a : (-9223372036854775808) ≤ x1) (hx1b : x1 ≤ 9223372036854775807) : CI l yX12_whyNot cX12_whyNot 5 (some .int) 3 (fun ad => [.ref (ad 131), ll x0, ll x1]) M (fun z M' => (0 ≤ z ∧ z ≤ 4) ∧ M = M' ∧ (z = 0 → 0 ≤ x0 ∧ x0 ≤ 7 ∧ 0 ≤ x1 ∧ x1 ≤ 9)) := by
  obtain ⟨hI, hW⟩ := hJ
  refine en_i (by decide +kernel) (fun ad => by exact Nat.le_of_ble_eq_true rfl) (fun D cy ad A p e s m args below meth c Q F hret => ?_)
  refine z_eq (ls' := [(0, .ref (ad 131)), (1, ll x0), (3, ll x1)]) rfl rfl rfl ?_
  refine z_aload_n F dX12_whyNot_0 rfl (q := 0) rfl ?_
  refine z_lload_n F dX12_whyNot_1 rfl (q := 1) rfl ?_
  refine zv_i (rest := []) F (k_X12_isThing l M ⟨hI, hW⟩ x0 (by omega) (by omega)) cs_X12_335 (T := TX12) (N := 44) (ci := 12) rfl gs_131 (by decide) (by decide) rfl rfl rfl (Nat.le_of_ble_eq_true rfl) dX12_whyNot_2 (fun v1 M2 rv1 hI p3 => ?_)
  obtain ⟨hI, hW⟩ := hI
  obtain ⟨⟨av1, bv1⟩, rfl, xp3⟩ := p3
  refine z_if_eq (tgt := 16) F dX12_whyNot_5 (by decide +kernel) (by omega) (fun c4 => ?_) (fun c4 => ?_)
  · refine z_iconst F dX12_whyNot_16 ?_
    exact hret _ _ 17 _ (by omega) ⟨hI, hW⟩ ⟨⟨by omega, by omega⟩, rfl, (by omega)⟩ dX12_whyNot_17
  · refine z_aload_n F dX12_whyNot_8 rfl (q := 0) rfl ?_
    refine z_lload_n F dX12_whyNot_9 rfl (q := 2) rfl ?_
    refine zv_i (rest := []) F (k_X12_isPlace l M ⟨hI, hW⟩ x1 (by omega) (by omega)) cs_X12_341 (T := TX12) (N := 44) (ci := 12) rfl gs_131 (by decide) (by decide) rfl rfl rfl (Nat.le_of_ble_eq_true rfl) dX12_whyNot_10 (fun v5 M6 rv5 hI p7 => ?_)
    obtain ⟨hI, hW⟩ := hI
    obtain ⟨⟨av5, bv5⟩, rfl, xp7⟩ := p7
    refine z_if_ne (tgt := 18) F dX12_whyNot_13 (by decide +kernel) (by omega) (fun c8 => ?_) (fun c8 => ?_)
    · refine z_aload_n F dX12_whyNot_18 rfl (q := 0) rfl ?_
      refine rf_X12_9 F gs_131 rfl dX12_whyNot_19 ?_
      refine z_bipush F dX12_whyNot_22 (by decide +kernel) ?_
      refine z_lload_n F dX12_whyNot_24 rfl (q := 1) rfl ?_
      refine z_l2i F dX12_whyNot_25 (by omega) ?_
      refine z_iadd F dX12_whyNot_26 ?_
      refine z_iald F hI gs_132 (by omega) (by omega) (by decide) (bd_132.trans (kn_any (by omega) (by omega))) dX12_whyNot_27 (fun v9 (ev9 : v9 = M 132 _) av9 bv9 => ?_)
      refine z_iconst F dX12_whyNot_28 ?_
      refine z_icmp_ne (tgt := 34) F dX12_whyNot_29 (by decide +kernel) (by omega) (by omega) (fun c10 => ?_) (fun c10 => ?_)
      · refine z_aload_n F dX12_whyNot_34 rfl (q := 0) rfl ?_
        refine rf_X12_9 F gs_131 rfl dX12_whyNot_35 ?_
        refine z_lload_n F dX12_whyNot_38 rfl (q := 2) rfl ?_
        refine z_l2i F dX12_whyNot_39 (by omega) ?_
        refine zs_i (rest := []) F (k_X12_thingAt_132 l M ⟨hI, hW⟩ x1 (by omega) (by omega)) cs_X12_209 (by decide) (by decide) rfl rfl rfl (Nat.le_of_ble_eq_true rfl) dX12_whyNot_40 (fun v11 M12 rv11 hI p13 => ?_)
        obtain ⟨hI, hW⟩ := hI
        obtain ⟨⟨av11, bv11⟩, rfl⟩ := p13
        refine z_iconst F dX12_whyNot_43 ?_
        refine z_icmp_eq (tgt := 49) F dX12_whyNot_44 (by decide +kernel) (by omega) (by omega) (fun c14 => ?_) (fun c14 => ?_)
        · refine z_aload_n F dX12_whyNot_49 rfl (q := 0) rfl ?_
          refine z_aload_n F dX12_whyNot_50 rfl (q := 0) rfl ?_
          refine z_lload_n F dX12_whyNot_51 rfl (q := 1) rfl ?_
          refine z_l2i F dX12_whyNot_52 (by omega) ?_
          refine zv_i (rest := [.ref (ad 131)]) F (k_X12_lies l M ⟨hI, hW⟩ x0 (by omega) (by omega)) cs_X12_317 (T := TX12) (N := 44) (ci := 12) rfl gs_131 (by decide) (by decide) rfl rfl rfl (Nat.le_of_ble_eq_true rfl) dX12_whyNot_53 (fun v15 M16 rv15 hI p17 => ?_)
          obtain ⟨hI, hW⟩ := hI
          obtain ⟨⟨av15, bv15⟩, rfl⟩ := p17
          refine z_lload_n F dX12_whyNot_56 rfl (q := 2) rfl ?_
          refine z_l2i F dX12_whyNot_57 (by omega) ?_
          refine zv_i (rest := []) F (k_X12_stepsOf l M ⟨hI, hW⟩ v15 (by omega) (by omega) x1 (by omega) (by omega)) cs_X12_349 (T := TX12) (N := 44) (ci := 12) rfl gs_131 (by decide) (by decide) rfl rfl rfl (Nat.le_of_ble_eq_true rfl) dX12_whyNot_58 (fun v18 M19 rv18 hI p20 => ?_)
          obtain ⟨hI, hW⟩ := hI
          obtain ⟨⟨av18, bv18⟩, rfl⟩ := p20
          refine z_iconst F dX12_whyNot_61 ?_
          refine z_icmp_ne (tgt := 69) F dX12_whyNot_62 (by decide +kernel) (by omega) (by omega) (fun c21 => ?_) (fun c21 => ?_)
          · refine z_iconst F dX12_whyNot_69 ?_
            exact hret _ _ 70 _ (by omega) ⟨hI, hW⟩ ⟨⟨by omega, by omega⟩, rfl, (by omega)⟩ dX12_whyNot_70
          · refine z_iconst F dX12_whyNot_65 ?_
            refine z_goto (tgt := 70) F dX12_whyNot_66 (by decide +kernel) ?_
            exact hret _ _ 70 _ (by omega) ⟨hI, hW⟩ ⟨⟨by omega, by omega⟩, rfl, (by omega)⟩ dX12_whyNot_70
        · refine z_iconst F dX12_whyNot_47 ?_
          exact hret _ _ 48 _ (by omega) ⟨hI, hW⟩ ⟨⟨by omega, by omega⟩, rfl, (by omega)⟩ dX12_whyNot_48
      · refine z_iconst F dX12_whyNot_32 ?_
        exact hret _ _ 33 _ (by omega) ⟨hI, hW⟩ ⟨⟨by omega, by omega⟩, rfl, (by omega)⟩ dX12_whyNot_33
    · refine z_iconst F dX12_whyNot_16 ?_
      exact hret _ _ 17 _ (by omega) ⟨hI, hW⟩ ⟨⟨by omega, by omega⟩, rfl, (by omega)⟩ dX12_whyNot_17
set_option maxRecDepth 4000 in
theorem k_X12_minutesOf (l : Launch) (M : Mem) (hJ : Iw M) (x0 : Int) (hx0a : 0 ≤ x0) (hx0b : x0 ≤ 7) (x1 : Int) (hx1a : 0 ≤ x1) (hx1b : x1 ≤ 9) : CI l yX12_minutesOf cX12_minutesOf 3 (some .int) 3 (fun ad => [.ref (ad 131), ii x0, ii x1]) M (fun z M' => ((-2147483648) ≤ z ∧ z ≤ 2147483647) ∧ M = M') := by
  obtain ⟨hI, hW⟩ := hJ
  refine en_i (by decide +kernel) (fun ad => by exact Nat.le_of_ble_eq_true rfl) (fun D cy ad A p e s m args below meth c Q F hret => ?_)
  refine z_eq (ls' := [(0, .ref (ad 131)), (1, ii x0), (2, ii x1)]) rfl rfl rfl ?_
  refine z_aload_n F dX12_minutesOf_0 rfl (q := 0) rfl ?_
  refine z_aload_n F dX12_minutesOf_1 rfl (q := 0) rfl ?_
  refine z_iload_n F dX12_minutesOf_2 rfl (q := 1) rfl ?_
  refine zv_i (rest := [.ref (ad 131)]) F (k_X12_lies l M ⟨hI, hW⟩ x0 (by omega) (by omega)) cs_X12_317 (T := TX12) (N := 44) (ci := 12) rfl gs_131 (by decide) (by decide) rfl rfl rfl (Nat.le_of_ble_eq_true rfl) dX12_minutesOf_3 (fun v1 M2 rv1 hI p3 => ?_)
  obtain ⟨hI, hW⟩ := hI
  obtain ⟨⟨av1, bv1⟩, rfl⟩ := p3
  refine z_iload_n F dX12_minutesOf_6 rfl (q := 2) rfl ?_
  refine zv_i (rest := []) F (k_X12_stepsOf l M ⟨hI, hW⟩ v1 (by omega) (by omega) x1 (by omega) (by omega)) cs_X12_349 (T := TX12) (N := 44) (ci := 12) rfl gs_131 (by decide) (by decide) rfl rfl rfl (Nat.le_of_ble_eq_true rfl) dX12_minutesOf_7 (fun v4 M5 rv4 hI p6 => ?_)
  obtain ⟨hI, hW⟩ := hI
  obtain ⟨⟨av4, bv4⟩, rfl⟩ := p6
  refine z_aload_n F dX12_minutesOf_10 rfl (q := 0) rfl ?_
  refine rf_X12_9 F gs_131 rfl dX12_minutesOf_11 ?_
  refine z_bipush F dX12_minutesOf_14 (by decide +kernel) ?_
  refine z_iload_n F dX12_minutesOf_16 rfl (q := 1) rfl ?_
  refine z_iadd F dX12_minutesOf_17 ?_
  refine z_iald F hI gs_132 (by omega) (by omega) (by decide) (bd_132.trans (kn_any (by omega) (by omega))) dX12_minutesOf_18 (fun v7 (ev7 : v7 = M 132 _) av7 bv7 => ?_)
  refine z_imul F dX12_minutesOf_19 ?_
  refine z_wrap (fun v8 rv8 _ => ?_)
  exact hret _ _ 20 _ (by omega) ⟨hI, hW⟩ ⟨⟨by omega, by omega⟩, rfl⟩ dX12_minutesOf_20
set_option maxRecDepth 4000 in
theorem k_X12_moves (l : Launch) (M : Mem) (hJ : Iw M) (x0 : Int) (hx0a : 0 ≤ x0) (hx0b : x0 ≤ 7) (x1 : Int) (hx1a : 0 ≤ x1) (hx1b : x1 ≤ 9) : CI l yX12_moves cX12_moves 4 (some .int) 9 (fun ad => [.ref (ad 131), ii x0, ii x1]) M (fun z M' => ((-2147483648) ≤ z ∧ z ≤ 2147483647) ∧ Fr [132, 137] M M') := by
  obtain ⟨hI, hW⟩ := hJ
  have hF : Fr [132, 137] M M := Fr.rf
  refine en_i (by decide +kernel) (fun ad => by exact Nat.le_of_ble_eq_true rfl) (fun D cy ad A p e s m args below meth c Q F hret => ?_)
  refine z_eq (ls' := [(0, .ref (ad 131)), (1, ii x0), (2, ii x1)]) rfl rfl rfl ?_
  refine z_aload_n F dX12_moves_0 rfl (q := 0) rfl ?_
  refine z_iload_n F dX12_moves_1 rfl (q := 1) rfl ?_
  refine z_iload_n F dX12_moves_2 rfl (q := 2) rfl ?_
  refine zv_i (rest := []) F (k_X12_minutesOf l M ⟨hI, hW⟩ x0 (by omega) (by omega) x1 (by omega) (by omega)) cs_X12_358 (T := TX12) (N := 44) (ci := 12) rfl gs_131 (by decide) (by decide) rfl rfl rfl (Nat.le_of_ble_eq_true rfl) dX12_moves_3 (fun v1 M2 rv1 hI p3 => ?_)
  obtain ⟨hI, hW⟩ := hI
  obtain ⟨⟨av1, bv1⟩, rfl⟩ := p3
  refine z_istore_n F dX12_moves_6 rfl (by decide) (ls' := [(3, ii v1), (0, .ref (ad 131)), (1, ii x0), (2, ii x1)]) rfl ?_
  refine z_aload_n F dX12_moves_7 rfl (q := 1) rfl ?_
  refine z_iload_n F dX12_moves_8 rfl (q := 0) rfl ?_
  refine zv_v (rest := []) F (k_X12_goesOn l M ⟨hI, hW⟩ v1 (by omega) (by omega)) cs_X12_361 (T := TX12) (N := 44) (ci := 12) rfl gs_131 (by decide) (by decide) rfl rfl rfl (Nat.le_of_ble_eq_true rfl) dX12_moves_9 (fun M4 hI p5 => ?_)
  obtain ⟨hI, hW⟩ := hI
  have fp5 := p5
  have hF := hF.call fp5 (by decide)
  refine z_aload_n F dX12_moves_12 rfl (q := 1) rfl ?_
  refine rf_X12_9 F gs_131 rfl dX12_moves_13 ?_
  refine z_bipush F dX12_moves_16 (by decide +kernel) ?_
  refine z_iload_n F dX12_moves_18 rfl (q := 2) rfl ?_
  refine z_iadd F dX12_moves_19 ?_
  refine z_iload_n F dX12_moves_20 rfl (q := 3) rfl ?_
  refine z_iast F hI gs_132 (by omega) (by omega) (by decide) (bd_132.trans (kn_at (by omega) (by omega))) dX12_moves_21 (by omega) (by omega) (fun M7 hI sf6 f6 => ?_)
  have hF := hF.wrk f6 (by decide) (by omega)
  have hW : WFk M7 := hW.known f6 (by omega)
  refine z_iload_n F dX12_moves_22 rfl (q := 0) rfl ?_
  exact hret _ _ 23 _ (by omega) ⟨hI, hW⟩ ⟨⟨by omega, by omega⟩, hF⟩ dX12_moves_23
set_option maxRecDepth 4000 in
theorem k_X12_eventBehind (l : Launch) (M : Mem) (hJ : Iw M) (x0 : Int) (hx0a : (-1) ≤ x0) (hx0b : x0 ≤ 5) : CI l yX12_eventBehind cX12_eventBehind 5 (some .int) 1 (fun ad => [.ref (ad 131), ii x0]) M (fun z M' => ((-1) ≤ z ∧ z ≤ 5) ∧ M = M' ∧ ((z = -1 ∨ x0 = -1 ∨ M 132 (150 + 3 * x0).toNat < M 132 (150 + 3 * z).toNat ∨ M 132 (150 + 3 * x0).toNat = M 132 (150 + 3 * z).toNat ∧ x0 < z))) := by
  obtain ⟨hI, hW⟩ := hJ
  refine en_i (by decide +kernel) (fun ad => by exact Nat.le_of_ble_eq_true rfl) (fun D cy ad A p e s m args below meth c Q F hret => ?_)
  refine z_eq (ls' := [(0, .ref (ad 131)), (1, ii x0)]) rfl rfl rfl ?_
  refine z_iconst F dX12_eventBehind_0 ?_
  refine z_istore_n F dX12_eventBehind_1 rfl (by decide) (ls' := [(2, ii (-1)), (0, .ref (ad 131)), (1, ii x0)]) rfl ?_
  refine z_iconst F dX12_eventBehind_2 ?_
  refine z_istore_n F dX12_eventBehind_3 rfl (by decide) (ls' := [(3, ii 0), (2, ii (-1)), (0, .ref (ad 131)), (1, ii x0)]) rfl ?_
  refine z_loc [2, 3, 1, 0] (ls' := [(0, .ref (ad 131)), (1, ii x0), (2, ii (-1)), (3, ii 0)]) rfl ?_
  suffices key4 : ∀ (n : Nat) (y2 : Int) (y3 : Int), (-1) ≤ y2 → y2 ≤ 5 → 0 ≤ y3 → y3 ≤ 6 → ((y2 = -1 ∨ x0 = -1 ∨ M 132 (150 + 3 * x0).toNat < M 132 (150 + 3 * y2).toNat ∨ M 132 (150 + 3 * x0).toNat = M 132 (150 + 3 * y2).toNat ∧ x0 < y2)) → 6 - y3 < (n : Int) → Z D cy ad p l e (RMh 1) s m args below meth c A 5 0 0 Q 4 [(0, .ref (ad 131)), (1, ii x0), (2, ii y2), (3, ii y3)] [] M from key4 7 (-1) 0 (by omega) (by omega) (by omega) (by omega) (by omega) (by omega)
  intro n4
  induction n4 with
  | zero => intro y2 y3 ay2 by2 ay3 by3 i4_0 hn4; exfalso; omega
  | succ n4 ih4 =>
    intro y2 y3 ay2 by2 ay3 by3 i4_0 hn4
    refine z_iload_n F dX12_eventBehind_4 rfl (q := 3) rfl ?_
    refine z_aload_n F dX12_eventBehind_5 rfl (q := 0) rfl ?_
    refine rf_X12_9 F gs_131 rfl dX12_eventBehind_6 ?_
    refine z_iconst F dX12_eventBehind_9 ?_
    refine z_iald F hI gs_132 (by omega) (by omega) (by decide) (show Bd 132 4 = (0, 6) from rfl) dX12_eventBehind_10 (fun v4 (ev4 : v4 = M 132 4) av4 bv4 => ?_)
    refine z_icmp_ge (tgt := 108) F dX12_eventBehind_11 (by decide +kernel) (by omega) (by omega) (fun c5 => ?_) (fun c5 => ?_)
    · refine z_iload_n F dX12_eventBehind_108 rfl (q := 2) rfl ?_
      exact hret _ _ 109 _ (by omega) ⟨hI, hW⟩ ⟨⟨by omega, by omega⟩, rfl, (by omega)⟩ dX12_eventBehind_109
    · refine z_iload_n F dX12_eventBehind_14 rfl (q := 1) rfl ?_
      refine z_iconst F dX12_eventBehind_15 ?_
      refine z_icmp_ne (tgt := 23) F dX12_eventBehind_16 (by decide +kernel) (by omega) (by omega) (fun c6 => ?_) (fun c6 => ?_)
      · refine z_aload_n F dX12_eventBehind_23 rfl (q := 0) rfl ?_
        refine rf_X12_9 F gs_131 rfl dX12_eventBehind_24 ?_
        refine z_sipush F dX12_eventBehind_27 (by decide +kernel) ?_
        refine z_iconst F dX12_eventBehind_30 ?_
        refine z_iload_n F dX12_eventBehind_31 rfl (q := 3) rfl ?_
        refine z_imul F dX12_eventBehind_32 ?_
        refine z_iadd F dX12_eventBehind_33 ?_
        refine z_iald F hI gs_132 (by omega) (by omega) (by decide) (bd_132.trans (kn_ev0 (by omega) (by omega) (by omega))) dX12_eventBehind_34 (fun v7 (ev7 : v7 = M 132 _) av7 bv7 => ?_)
        refine z_aload_n F dX12_eventBehind_35 rfl (q := 0) rfl ?_
        refine rf_X12_9 F gs_131 rfl dX12_eventBehind_36 ?_
        refine z_sipush F dX12_eventBehind_39 (by decide +kernel) ?_
        refine z_iconst F dX12_eventBehind_42 ?_
        refine z_iload_n F dX12_eventBehind_43 rfl (q := 1) rfl ?_
        refine z_imul F dX12_eventBehind_44 ?_
        refine z_iadd F dX12_eventBehind_45 ?_
        refine z_iald F hI gs_132 (by omega) (by omega) (by decide) (bd_132.trans (kn_ev0 (by omega) (by omega) (by omega))) dX12_eventBehind_46 (fun v8 (ev8 : v8 = M 132 _) av8 bv8 => ?_)
        refine z_isub F dX12_eventBehind_47 ?_
        refine z_nm (fun v9 ev9 => ?_)
        refine z_istore F dX12_eventBehind_48 (by decide) (ls' := [(4, ii v9), (0, .ref (ad 131)), (1, ii x0), (2, ii y2), (3, ii y3)]) rfl ?_
        refine z_iload F dX12_eventBehind_50 (q := 0) rfl ?_
        refine z_if_lt (tgt := 102) F dX12_eventBehind_52 (by decide +kernel) (by omega) (fun c10 => ?_) (fun c10 => ?_)
        · refine z_iincN F dX12_eventBehind_102 (q := 4) rfl (by decide) (fun v11 ev11 => ?_)
          refine z_eq (ls' := [(3, ii v11), (4, ii v9), (0, .ref (ad 131)), (1, ii x0), (2, ii y2)]) rfl rfl rfl ?_
          refine z_goto (tgt := 4) F dX12_eventBehind_105 (by decide +kernel) ?_
          refine z_loc [2, 3, 4, 0] (ls' := [(0, .ref (ad 131)), (1, ii x0), (2, ii y2), (3, ii v11)]) rfl ?_
          exact ih4 y2 v11 (by omega) (by omega) (by omega) (by omega) (by omega) (by omega)
        · refine z_iload F dX12_eventBehind_55 (q := 0) rfl ?_
          refine z_if_ne (tgt := 68) F dX12_eventBehind_57 (by decide +kernel) (by omega) (fun c12 => ?_) (fun c12 => ?_)
          · refine z_iload_n F dX12_eventBehind_68 rfl (q := 3) rfl ?_
            refine z_iconst F dX12_eventBehind_69 ?_
            refine z_icmp_eq (tgt := 100) F dX12_eventBehind_70 (by decide +kernel) (by omega) (by omega) (fun c13 => ?_) (fun c13 => ?_)
            · refine z_iload_n F dX12_eventBehind_100 rfl (q := 4) rfl ?_
              refine z_istore_n F dX12_eventBehind_101 rfl (by decide) (ls' := [(2, ii y3), (4, ii v9), (0, .ref (ad 131)), (1, ii x0), (3, ii y3)]) rfl ?_
              refine z_iincN F dX12_eventBehind_102 (q := 4) rfl (by decide) (fun v14 ev14 => ?_)
              refine z_eq (ls' := [(3, ii v14), (2, ii y3), (4, ii v9), (0, .ref (ad 131)), (1, ii x0)]) rfl rfl rfl ?_
              refine z_goto (tgt := 4) F dX12_eventBehind_105 (by decide +kernel) ?_
              refine z_loc [3, 4, 1, 0] (ls' := [(0, .ref (ad 131)), (1, ii x0), (2, ii y3), (3, ii v14)]) rfl ?_
              exact ih4 y3 v14 (by omega) (by omega) (by omega) (by omega) (by omega) (by omega)
            · refine z_aload_n F dX12_eventBehind_73 rfl (q := 1) rfl ?_
              refine rf_X12_9 F gs_131 rfl dX12_eventBehind_74 ?_
              refine z_sipush F dX12_eventBehind_77 (by decide +kernel) ?_
              refine z_iconst F dX12_eventBehind_80 ?_
              refine z_iload_n F dX12_eventBehind_81 rfl (q := 4) rfl ?_
              refine z_imul F dX12_eventBehind_82 ?_
              refine z_iadd F dX12_eventBehind_83 ?_
              refine z_iald F hI gs_132 (by omega) (by omega) (by decide) (bd_132.trans (kn_ev0 (by omega) (by omega) (by omega))) dX12_eventBehind_84 (fun v15 (ev15 : v15 = M 132 _) av15 bv15 => ?_)
              have zv15 : v7 = v15 := ev7.trans ev15.symm
              subst zv15
              refine z_aload_n F dX12_eventBehind_85 rfl (q := 1) rfl ?_
              refine rf_X12_9 F gs_131 rfl dX12_eventBehind_86 ?_
              refine z_sipush F dX12_eventBehind_89 (by decide +kernel) ?_
              refine z_iconst F dX12_eventBehind_92 ?_
              refine z_iload_n F dX12_eventBehind_93 rfl (q := 3) rfl ?_
              refine z_imul F dX12_eventBehind_94 ?_
              refine z_iadd F dX12_eventBehind_95 ?_
              refine z_iald F hI gs_132 (by omega) (by omega) (by decide) (bd_132.trans (kn_ev0 (by omega) (by omega) (by omega))) dX12_eventBehind_96 (fun v16 (ev16 : v16 = M 132 _) av16 bv16 => ?_)
              refine z_icmp_ge (tgt := 102) F dX12_eventBehind_97 (by decide +kernel) (by omega) (by omega) (fun c17 => ?_) (fun c17 => ?_)
              · refine z_iincN F dX12_eventBehind_102 (q := 4) rfl (by decide) (fun v18 ev18 => ?_)
                refine z_eq (ls' := [(3, ii v18), (4, ii v9), (0, .ref (ad 131)), (1, ii x0), (2, ii y2)]) rfl rfl rfl ?_
                refine z_goto (tgt := 4) F dX12_eventBehind_105 (by decide +kernel) ?_
                refine z_loc [2, 3, 4, 0] (ls' := [(0, .ref (ad 131)), (1, ii x0), (2, ii y2), (3, ii v18)]) rfl ?_
                exact ih4 y2 v18 (by omega) (by omega) (by omega) (by omega) (by omega) (by omega)
              · refine z_iload_n F dX12_eventBehind_100 rfl (q := 4) rfl ?_
                refine z_istore_n F dX12_eventBehind_101 rfl (by decide) (ls' := [(2, ii y3), (4, ii v9), (0, .ref (ad 131)), (1, ii x0), (3, ii y3)]) rfl ?_
                refine z_iincN F dX12_eventBehind_102 (q := 4) rfl (by decide) (fun v19 ev19 => ?_)
                refine z_eq (ls' := [(3, ii v19), (2, ii y3), (4, ii v9), (0, .ref (ad 131)), (1, ii x0)]) rfl rfl rfl ?_
                refine z_goto (tgt := 4) F dX12_eventBehind_105 (by decide +kernel) ?_
                refine z_loc [3, 4, 1, 0] (ls' := [(0, .ref (ad 131)), (1, ii x0), (2, ii y3), (3, ii v19)]) rfl ?_
                exact ih4 y3 v19 (by omega) (by omega) (by omega) (by omega) (by omega) (by omega)
          · refine z_iload_n F dX12_eventBehind_60 rfl (q := 4) rfl ?_
            refine z_iload_n F dX12_eventBehind_61 rfl (q := 2) rfl ?_
            refine z_icmp_gt (tgt := 68) F dX12_eventBehind_62 (by decide +kernel) (by omega) (by omega) (fun c20 => ?_) (fun c20 => ?_)
            · refine z_iload_n F dX12_eventBehind_68 rfl (q := 3) rfl ?_
              refine z_iconst F dX12_eventBehind_69 ?_
              refine z_icmp_eq (tgt := 100) F dX12_eventBehind_70 (by decide +kernel) (by omega) (by omega) (fun c21 => ?_) (fun c21 => ?_)
              · refine z_iload_n F dX12_eventBehind_100 rfl (q := 4) rfl ?_
                refine z_istore_n F dX12_eventBehind_101 rfl (by decide) (ls' := [(2, ii y3), (4, ii v9), (0, .ref (ad 131)), (1, ii x0), (3, ii y3)]) rfl ?_
                refine z_iincN F dX12_eventBehind_102 (q := 4) rfl (by decide) (fun v22 ev22 => ?_)
                refine z_eq (ls' := [(3, ii v22), (2, ii y3), (4, ii v9), (0, .ref (ad 131)), (1, ii x0)]) rfl rfl rfl ?_
                refine z_goto (tgt := 4) F dX12_eventBehind_105 (by decide +kernel) ?_
                refine z_loc [3, 4, 1, 0] (ls' := [(0, .ref (ad 131)), (1, ii x0), (2, ii y3), (3, ii v22)]) rfl ?_
                exact ih4 y3 v22 (by omega) (by omega) (by omega) (by omega) (by omega) (by omega)
              · refine z_aload_n F dX12_eventBehind_73 rfl (q := 1) rfl ?_
                refine rf_X12_9 F gs_131 rfl dX12_eventBehind_74 ?_
                refine z_sipush F dX12_eventBehind_77 (by decide +kernel) ?_
                refine z_iconst F dX12_eventBehind_80 ?_
                refine z_iload_n F dX12_eventBehind_81 rfl (q := 4) rfl ?_
                refine z_imul F dX12_eventBehind_82 ?_
                refine z_iadd F dX12_eventBehind_83 ?_
                refine z_iald F hI gs_132 (by omega) (by omega) (by decide) (bd_132.trans (kn_ev0 (by omega) (by omega) (by omega))) dX12_eventBehind_84 (fun v23 (ev23 : v23 = M 132 _) av23 bv23 => ?_)
                have zv23 : v7 = v23 := ev7.trans ev23.symm
                subst zv23
                refine z_aload_n F dX12_eventBehind_85 rfl (q := 1) rfl ?_
                refine rf_X12_9 F gs_131 rfl dX12_eventBehind_86 ?_
                refine z_sipush F dX12_eventBehind_89 (by decide +kernel) ?_
                refine z_iconst F dX12_eventBehind_92 ?_
                refine z_iload_n F dX12_eventBehind_93 rfl (q := 3) rfl ?_
                refine z_imul F dX12_eventBehind_94 ?_
                refine z_iadd F dX12_eventBehind_95 ?_
                refine z_iald F hI gs_132 (by omega) (by omega) (by decide) (bd_132.trans (kn_ev0 (by omega) (by omega) (by omega))) dX12_eventBehind_96 (fun v24 (ev24 : v24 = M 132 _) av24 bv24 => ?_)
                refine z_icmp_ge (tgt := 102) F dX12_eventBehind_97 (by decide +kernel) (by omega) (by omega) (fun c25 => ?_) (fun c25 => ?_)
                · refine z_iincN F dX12_eventBehind_102 (q := 4) rfl (by decide) (fun v26 ev26 => ?_)
                  refine z_eq (ls' := [(3, ii v26), (4, ii v9), (0, .ref (ad 131)), (1, ii x0), (2, ii y2)]) rfl rfl rfl ?_
                  refine z_goto (tgt := 4) F dX12_eventBehind_105 (by decide +kernel) ?_
                  refine z_loc [2, 3, 4, 0] (ls' := [(0, .ref (ad 131)), (1, ii x0), (2, ii y2), (3, ii v26)]) rfl ?_
                  exact ih4 y2 v26 (by omega) (by omega) (by omega) (by omega) (by omega) (by omega)
                · refine z_iload_n F dX12_eventBehind_100 rfl (q := 4) rfl ?_
                  refine z_istore_n F dX12_eventBehind_101 rfl (by decide) (ls' := [(2, ii y3), (4, ii v9), (0, .ref (ad 131)), (1, ii x0), (3, ii y3)]) rfl ?_
                  refine z_iincN F dX12_eventBehind_102 (q := 4) rfl (by decide) (fun v27 ev27 => ?_)
                  refine z_eq (ls' := [(3, ii v27), (2, ii y3), (4, ii v9), (0, .ref (ad 131)), (1, ii x0)]) rfl rfl rfl ?_
                  refine z_goto (tgt := 4) F dX12_eventBehind_105 (by decide +kernel) ?_
                  refine z_loc [3, 4, 1, 0] (ls' := [(0, .ref (ad 131)), (1, ii x0), (2, ii y3), (3, ii v27)]) rfl ?_
                  exact ih4 y3 v27 (by omega) (by omega) (by omega) (by omega) (by omega) (by omega)
            · refine z_goto (tgt := 102) F dX12_eventBehind_65 (by decide +kernel) ?_
              refine z_iincN F dX12_eventBehind_102 (q := 4) rfl (by decide) (fun v28 ev28 => ?_)
              refine z_eq (ls' := [(3, ii v28), (4, ii v9), (0, .ref (ad 131)), (1, ii x0), (2, ii y2)]) rfl rfl rfl ?_
              refine z_goto (tgt := 4) F dX12_eventBehind_105 (by decide +kernel) ?_
              refine z_loc [2, 3, 4, 0] (ls' := [(0, .ref (ad 131)), (1, ii x0), (2, ii y2), (3, ii v28)]) rfl ?_
              exact ih4 y2 v28 (by omega) (by omega) (by omega) (by omega) (by omega) (by omega)
      · refine z_iconst F dX12_eventBehind_19 ?_
        refine z_goto (tgt := 48) F dX12_eventBehind_20 (by decide +kernel) ?_
        refine z_istore F dX12_eventBehind_48 (by decide) (ls' := [(4, ii 1), (0, .ref (ad 131)), (1, ii x0), (2, ii y2), (3, ii y3)]) rfl ?_
        refine z_iload F dX12_eventBehind_50 (q := 0) rfl ?_
        refine z_if_lt (tgt := 102) F dX12_eventBehind_52 (by decide +kernel) (by omega) (fun c29 => by exfalso; omega) (fun c29 => ?_)
        refine z_iload F dX12_eventBehind_55 (q := 0) rfl ?_
        refine z_if_ne (tgt := 68) F dX12_eventBehind_57 (by decide +kernel) (by omega) (fun c30 => ?_) (fun c30 => by exfalso; omega)
        refine z_iload_n F dX12_eventBehind_68 rfl (q := 3) rfl ?_
        refine z_iconst F dX12_eventBehind_69 ?_
        refine z_icmp_eq (tgt := 100) F dX12_eventBehind_70 (by decide +kernel) (by omega) (by omega) (fun c31 => ?_) (fun c31 => ?_)
        · refine z_iload_n F dX12_eventBehind_100 rfl (q := 4) rfl ?_
          refine z_istore_n F dX12_eventBehind_101 rfl (by decide) (ls' := [(2, ii y3), (4, ii 1), (0, .ref (ad 131)), (1, ii x0), (3, ii y3)]) rfl ?_
          refine z_iincN F dX12_eventBehind_102 (q := 4) rfl (by decide) (fun v32 ev32 => ?_)
          refine z_eq (ls' := [(3, ii v32), (2, ii y3), (4, ii 1), (0, .ref (ad 131)), (1, ii x0)]) rfl rfl rfl ?_
          refine z_goto (tgt := 4) F dX12_eventBehind_105 (by decide +kernel) ?_
          refine z_loc [3, 4, 1, 0] (ls' := [(0, .ref (ad 131)), (1, ii x0), (2, ii y3), (3, ii v32)]) rfl ?_
          exact ih4 y3 v32 (by omega) (by omega) (by omega) (by omega) (by omega) (by omega)
        · refine z_aload_n F dX12_eventBehind_73 rfl (q := 1) rfl ?_
          refine rf_X12_9 F gs_131 rfl dX12_eventBehind_74 ?_
          refine z_sipush F dX12_eventBehind_77 (by decide +kernel) ?_
          refine z_iconst F dX12_eventBehind_80 ?_
          refine z_iload_n F dX12_eventBehind_81 rfl (q := 4) rfl ?_
          refine z_imul F dX12_eventBehind_82 ?_
          refine z_iadd F dX12_eventBehind_83 ?_
          refine z_iald F hI gs_132 (by omega) (by omega) (by decide) (bd_132.trans (kn_ev0 (by omega) (by omega) (by omega))) dX12_eventBehind_84 (fun v33 (ev33 : v33 = M 132 _) av33 bv33 => ?_)
          refine z_aload_n F dX12_eventBehind_85 rfl (q := 1) rfl ?_
          refine rf_X12_9 F gs_131 rfl dX12_eventBehind_86 ?_
          refine z_sipush F dX12_eventBehind_89 (by decide +kernel) ?_
          refine z_iconst F dX12_eventBehind_92 ?_
          refine z_iload_n F dX12_eventBehind_93 rfl (q := 3) rfl ?_
          refine z_imul F dX12_eventBehind_94 ?_
          refine z_iadd F dX12_eventBehind_95 ?_
          refine z_iald F hI gs_132 (by omega) (by omega) (by decide) (bd_132.trans (kn_ev0 (by omega) (by omega) (by omega))) dX12_eventBehind_96 (fun v34 (ev34 : v34 = M 132 _) av34 bv34 => ?_)
          refine z_icmp_ge (tgt := 102) F dX12_eventBehind_97 (by decide +kernel) (by omega) (by omega) (fun c35 => ?_) (fun c35 => ?_)
          · refine z_iincN F dX12_eventBehind_102 (q := 4) rfl (by decide) (fun v36 ev36 => ?_)
            refine z_eq (ls' := [(3, ii v36), (4, ii 1), (0, .ref (ad 131)), (1, ii x0), (2, ii y2)]) rfl rfl rfl ?_
            refine z_goto (tgt := 4) F dX12_eventBehind_105 (by decide +kernel) ?_
            refine z_loc [2, 3, 4, 0] (ls' := [(0, .ref (ad 131)), (1, ii x0), (2, ii y2), (3, ii v36)]) rfl ?_
            exact ih4 y2 v36 (by omega) (by omega) (by omega) (by omega) (by omega) (by omega)
          · refine z_iload_n F dX12_eventBehind_100 rfl (q := 4) rfl ?_
            refine z_istore_n F dX12_eventBehind_101 rfl (by decide) (ls' := [(2, ii y3), (4, ii 1), (0, .ref (ad 131)), (1, ii x0), (3, ii y3)]) rfl ?_
            refine z_iincN F dX12_eventBehind_102 (q := 4) rfl (by decide) (fun v37 ev37 => ?_)
            refine z_eq (ls' := [(3, ii v37), (2, ii y3), (4, ii 1), (0, .ref (ad 131)), (1, ii x0)]) rfl rfl rfl ?_
            refine z_goto (tgt := 4) F dX12_eventBehind_105 (by decide +kernel) ?_
            refine z_loc [3, 4, 1, 0] (ls' := [(0, .ref (ad 131)), (1, ii x0), (2, ii y3), (3, ii v37)]) rfl ?_
            exact ih4 y3 v37 (by omega) (by omega) (by omega) (by omega) (by omega) (by omega)
set_option maxRecDepth 4000 in
theorem k_X12_goesDay (l : Launch) (M : Mem) (hJ : Iw M) : CV l yX12_goesDay cX12_goesDay 3 none 9 (fun ad => [.ref (ad 131)]) M (fun M' => Fr [132, 137] M M') := by
  obtain ⟨hI, hW⟩ := hJ
  have hF : Fr [132, 137] M M := Fr.rf
  have hI0 := hI
  have hW0 := hW
  refine en_v (by decide +kernel) (fun ad => by exact Nat.le_of_ble_eq_true rfl) (fun D cy ad A p e s m args below meth c Q F hret => ?_)
  refine z_eq (ls' := [(0, .ref (ad 131))]) rfl rfl rfl ?_
  refine z_aload_n F dX12_goesDay_0 rfl (q := 0) rfl ?_
  refine rf_X12_9 F gs_131 rfl dX12_goesDay_1 ?_
  refine z_bipush F dX12_goesDay_4 (by decide +kernel) ?_
  refine z_iald F hI gs_132 (by omega) (by omega) (by decide) (show Bd 132 24 = (-2147483648, 2147483647) from rfl) dX12_goesDay_6 (fun v1 (ev1 : v1 = M 132 24) av1 bv1 => ?_)
  refine z_istore_n F dX12_goesDay_7 rfl (by decide) (ls' := [(1, ii v1), (0, .ref (ad 131))]) rfl ?_
  refine z_aload_n F dX12_goesDay_8 rfl (q := 1) rfl ?_
  refine z_iconst F dX12_goesDay_9 ?_
  refine zv_i (rest := []) F (k_X12_eventBehind l M ⟨hI, hW⟩ (-1) (by omega) (by omega)) cs_X12_364 (T := TX12) (N := 44) (ci := 12) rfl gs_131 (by decide) (by decide) rfl rfl rfl (Nat.le_of_ble_eq_true rfl) dX12_goesDay_10 (fun v2 M3 rv2 hI p4 => ?_)
  obtain ⟨hI, hW⟩ := hI
  obtain ⟨⟨av2, bv2⟩, rfl, xp4⟩ := p4
  refine z_istore_n F dX12_goesDay_13 rfl (by decide) (ls' := [(2, ii v2), (1, ii v1), (0, .ref (ad 131))]) rfl ?_
  rcases (show v2 = (-1) ∨ 0 ≤ v2 by omega) with c5 | c5
  · refine z_iload_n F dX12_goesDay_14 rfl (q := 0) rfl ?_
    refine z_iconst F dX12_goesDay_15 ?_
    refine z_icmp_eq (tgt := 86) F dX12_goesDay_16 (by decide +kernel) (by omega) (by omega) (fun c6 => ?_) (fun c6 => by exfalso; omega)
    refine z_aload_n F dX12_goesDay_86 rfl (q := 2) rfl ?_
    refine z_iload_n F dX12_goesDay_87 rfl (q := 1) rfl ?_
    refine z_sipush F dX12_goesDay_88 (by decide +kernel) ?_
    refine z_iadd F dX12_goesDay_91 ?_
    refine z_wrap (fun v7 rv7 wv7 => ?_)
    refine z_aload_n F dX12_goesDay_92 rfl (q := 2) rfl ?_
    refine rf_X12_9 F gs_131 rfl dX12_goesDay_93 ?_
    refine z_bipush F dX12_goesDay_96 (by decide +kernel) ?_
    refine z_iald F hI gs_132 (by omega) (by omega) (by decide) (show Bd 132 24 = (-2147483648, 2147483647) from rfl) dX12_goesDay_98 (fun v8 (ev8 : v8 = M 132 24) av8 bv8 => ?_)
    have zv8 : v1 = v8 := ev1.trans ev8.symm
    subst zv8
    refine z_isub F dX12_goesDay_99 ?_
    refine z_wrap (fun v9 rv9 wv9 => ?_)
    refine zv_v (rest := []) F (k_X12_goesOn l M ⟨hI, hW⟩ v9 (by omega) (by omega)) cs_X12_361 (T := TX12) (N := 44) (ci := 12) rfl gs_131 (by decide) (by decide) rfl rfl rfl (Nat.le_of_ble_eq_true rfl) dX12_goesDay_100 (fun M10 hI p11 => ?_)
    obtain ⟨hI, hW⟩ := hI
    have fp11 := p11
    have hF := hF.call fp11 (by decide)
    exact hret _ 103 _ ⟨hI, hW⟩ hF dX12_goesDay_103
  · refine z_loc [2, 1, 0] (ls' := [(0, .ref (ad 131)), (1, ii v1), (2, ii v2)]) rfl ?_
    have hev := (hI0.at (show Bd 132 (150 + 3 * v2).toNat = (0, 999) from bd_132.trans (kn_ev0 (by omega) (by omega) (by omega))))
    suffices key14 : ∀ (n : Nat) (y13 : Int) (M12 : Mem), Inv M12 → WFk M12 → Fr [132, 137] M M12 → 0 ≤ y13 → y13 ≤ 5 → (0 ≤ M 132 (150 + 3 * y13).toNat ∧ M 132 (150 + 3 * y13).toNat ≤ 999) → (999 - M 132 (150 + 3 * y13).toNat) * 8 + (7 - y13) < (n : Int) → Z D cy ad p l e (RMh 9) s m args below meth c A 3 0 0 Q 14 [(0, .ref (ad 131)), (1, ii v1), (2, ii y13)] [] M12 from key14 8101 v2 M hI hW hF (by omega) (by omega) (hI0.at (show Bd 132 (150 + 3 * v2).toNat = (0, 999) from bd_132.trans (kn_ev0 (by omega) (by omega) (by omega)))) (by omega)
    intro n14
    induction n14 with
    | zero => intro y13 M12 hI hW hF ay13 by13 i14_0 hn14; exfalso; omega
    | succ n14 ih14 =>
      intro y13 M12 hI hW hF ay13 by13 i14_0 hn14
      refine z_iload_n F dX12_goesDay_14 rfl (q := 2) rfl ?_
      refine z_iconst F dX12_goesDay_15 ?_
      refine z_icmp_eq (tgt := 86) F dX12_goesDay_16 (by decide +kernel) (by omega) (by omega) (fun c14 => by exfalso; omega) (fun c14 => ?_)
      refine z_aload_n F dX12_goesDay_19 rfl (q := 0) rfl ?_
      refine z_iload_n F dX12_goesDay_20 rfl (q := 1) rfl ?_
      refine z_aload_n F dX12_goesDay_21 rfl (q := 0) rfl ?_
      refine rf_X12_9 F gs_131 rfl dX12_goesDay_22 ?_
      refine z_sipush F dX12_goesDay_25 (by decide +kernel) ?_
      refine z_iconst F dX12_goesDay_28 ?_
      refine z_iload_n F dX12_goesDay_29 rfl (q := 2) rfl ?_
      refine z_imul F dX12_goesDay_30 ?_
      refine z_iadd F dX12_goesDay_31 ?_
      refine z_iald F hI gs_132 (by omega) (by omega) (by decide) (bd_132.trans (kn_ev0 (by omega) (by omega) (by omega))) dX12_goesDay_32 (fun v15 (ev15 : v15 = M12 132 _) av15 bv15 => ?_)
      refine z_iadd F dX12_goesDay_33 ?_
      refine z_wrap (fun v16 rv16 wv16 => ?_)
      refine z_aload_n F dX12_goesDay_34 rfl (q := 0) rfl ?_
      refine rf_X12_9 F gs_131 rfl dX12_goesDay_35 ?_
      refine z_bipush F dX12_goesDay_38 (by decide +kernel) ?_
      refine z_iald F hI gs_132 (by omega) (by omega) (by decide) (show Bd 132 24 = (-2147483648, 2147483647) from rfl) dX12_goesDay_40 (fun v17 (ev17 : v17 = M12 132 24) av17 bv17 => ?_)
      refine z_isub F dX12_goesDay_41 ?_
      refine z_wrap (fun v18 rv18 wv18 => ?_)
      refine zv_v (rest := []) F (k_X12_goesOn l M12 ⟨hI, hW⟩ v18 (by omega) (by omega)) cs_X12_361 (T := TX12) (N := 44) (ci := 12) rfl gs_131 (by decide) (by decide) rfl rfl rfl (Nat.le_of_ble_eq_true rfl) dX12_goesDay_42 (fun M19 hI p20 => ?_)
      obtain ⟨hI, hW⟩ := hI
      have fp20 := p20
      have hF := hF.call fp20 (by decide)
      refine z_aload_n F dX12_goesDay_45 rfl (q := 0) rfl ?_
      refine z_aload_n F dX12_goesDay_46 rfl (q := 0) rfl ?_
      refine rf_X12_9 F gs_131 rfl dX12_goesDay_47 ?_
      refine z_sipush F dX12_goesDay_50 (by decide +kernel) ?_
      refine z_iconst F dX12_goesDay_53 ?_
      refine z_iload_n F dX12_goesDay_54 rfl (q := 2) rfl ?_
      refine z_imul F dX12_goesDay_55 ?_
      refine z_iadd F dX12_goesDay_56 ?_
      refine z_iconst F dX12_goesDay_57 ?_
      refine z_iadd F dX12_goesDay_58 ?_
      refine z_iald F hI gs_132 (by omega) (by omega) (by decide) (bd_132.trans (kn_ev1 (by omega) (by omega) (by omega))) dX12_goesDay_59 (fun v21 (ev21 : v21 = M19 132 _) av21 bv21 => ?_)
      refine z_aload_n F dX12_goesDay_60 rfl (q := 0) rfl ?_
      refine rf_X12_9 F gs_131 rfl dX12_goesDay_61 ?_
      refine z_sipush F dX12_goesDay_64 (by decide +kernel) ?_
      refine z_iconst F dX12_goesDay_67 ?_
      refine z_iload_n F dX12_goesDay_68 rfl (q := 2) rfl ?_
      refine z_imul F dX12_goesDay_69 ?_
      refine z_iadd F dX12_goesDay_70 ?_
      refine z_iconst F dX12_goesDay_71 ?_
      refine z_iadd F dX12_goesDay_72 ?_
      refine z_iald F hI gs_132 (by omega) (by omega) (by decide) (bd_132.trans (kn_ev2 (by omega) (by omega) (by omega))) dX12_goesDay_73 (fun v22 (ev22 : v22 = M19 132 _) av22 bv22 => ?_)
      refine zv_v (rest := []) F (k_X12_adds l M19 ⟨hI, hW⟩ v21 (by omega) (by omega) v22 (by omega) (by omega)) cs_X12_367 (T := TX12) (N := 44) (ci := 12) rfl gs_131 (by decide) (by decide) rfl rfl rfl (Nat.le_of_ble_eq_true rfl) dX12_goesDay_74 (fun M23 hI p24 => ?_)
      obtain ⟨hI, hW⟩ := hI
      have fp24 := p24
      have hF := hF.call fp24 (by decide)
      refine z_aload_n F dX12_goesDay_77 rfl (q := 0) rfl ?_
      refine z_iload_n F dX12_goesDay_78 rfl (q := 2) rfl ?_
      refine zv_i (rest := []) F (k_X12_eventBehind l M23 ⟨hI, hW⟩ y13 (by omega) (by omega)) cs_X12_364 (T := TX12) (N := 44) (ci := 12) rfl gs_131 (by decide) (by decide) rfl rfl rfl (Nat.le_of_ble_eq_true rfl) dX12_goesDay_79 (fun v25 M26 rv25 hI p27 => ?_)
      obtain ⟨hI, hW⟩ := hI
      obtain ⟨⟨av25, bv25⟩, rfl, xp27⟩ := p27
      refine z_istore_n F dX12_goesDay_82 rfl (by decide) (ls' := [(2, ii v25), (0, .ref (ad 131)), (1, ii v1)]) rfl ?_
      refine z_goto (tgt := 14) F dX12_goesDay_83 (by decide +kernel) ?_
      rcases (show v25 = (-1) ∨ 0 ≤ v25 by omega) with c28 | c28
      · refine z_iload_n F dX12_goesDay_14 rfl (q := 0) rfl ?_
        refine z_iconst F dX12_goesDay_15 ?_
        refine z_icmp_eq (tgt := 86) F dX12_goesDay_16 (by decide +kernel) (by omega) (by omega) (fun c29 => ?_) (fun c29 => by exfalso; omega)
        refine z_aload_n F dX12_goesDay_86 rfl (q := 1) rfl ?_
        refine z_iload_n F dX12_goesDay_87 rfl (q := 2) rfl ?_
        refine z_sipush F dX12_goesDay_88 (by decide +kernel) ?_
        refine z_iadd F dX12_goesDay_91 ?_
        refine z_wrap (fun v30 rv30 wv30 => ?_)
        refine z_aload_n F dX12_goesDay_92 rfl (q := 1) rfl ?_
        refine rf_X12_9 F gs_131 rfl dX12_goesDay_93 ?_
        refine z_bipush F dX12_goesDay_96 (by decide +kernel) ?_
        refine z_iald F hI gs_132 (by omega) (by omega) (by decide) (show Bd 132 24 = (-2147483648, 2147483647) from rfl) dX12_goesDay_98 (fun v31 (ev31 : v31 = M23 132 24) av31 bv31 => ?_)
        refine z_isub F dX12_goesDay_99 ?_
        refine z_wrap (fun v32 rv32 wv32 => ?_)
        refine zv_v (rest := []) F (k_X12_goesOn l M23 ⟨hI, hW⟩ v32 (by omega) (by omega)) cs_X12_361 (T := TX12) (N := 44) (ci := 12) rfl gs_131 (by decide) (by decide) rfl rfl rfl (Nat.le_of_ble_eq_true rfl) dX12_goesDay_100 (fun M33 hI p34 => ?_)
        obtain ⟨hI, hW⟩ := hI
        have fp34 := p34
        have hF := hF.call fp34 (by decide)
        exact hret _ 103 _ ⟨hI, hW⟩ hF dX12_goesDay_103
      · refine z_loc [1, 2, 0] (ls' := [(0, .ref (ad 131)), (1, ii v1), (2, ii v25)]) rfl ?_
        have hev2 := (hI0.at (show Bd 132 (150 + 3 * v25).toNat = (0, 999) from bd_132.trans (kn_ev0 (by omega) (by omega) (by omega))))
        have hsy13 := hF.st (b := (150 + 3 * y13).toNat) (by decide) (by unfold stat; omega)
        have hsv25 := hF.st (b := (150 + 3 * v25).toNat) (by decide) (by unfold stat; omega)
        exact ih14 v25 M23 hI hW hF (by omega) (by omega) (hI0.at (show Bd 132 (150 + 3 * v25).toNat = (0, 999) from bd_132.trans (kn_ev0 (by omega) (by omega) (by omega)))) (by omega)
