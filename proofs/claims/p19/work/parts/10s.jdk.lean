theorem dJ0_charAt_5068e_0 : decode cJ0_charAt_5068e 0 = .ok (.aload_n 0, 1) := by decide +kernel
theorem dJ0_charAt_5068e_1 : decode cJ0_charAt_5068e 1 = .ok (.invokevirtual 492, 3) := by decide +kernel
theorem dJ0_charAt_5068e_11 : decode cJ0_charAt_5068e 11 = .ok (.iload_n 1, 1) := by decide +kernel
theorem dJ0_charAt_5068e_12 : decode cJ0_charAt_5068e 12 = .ok (.invokestatic 495, 3) := by decide +kernel
theorem dJ0_charAt_5068e_15 : decode cJ0_charAt_5068e 15 = .ok (.ireturn, 1) := by decide +kernel
theorem dJ0_charAt_5068e_4 : decode cJ0_charAt_5068e 4 = .ok (.ifCond .eq 12, 3) := by decide +kernel
theorem dJ0_charAt_5068e_7 : decode cJ0_charAt_5068e 7 = .ok (.aload_n 0, 1) := by decide +kernel
theorem dJ0_charAt_5068e_8 : decode cJ0_charAt_5068e 8 = .ok (.getfield 9, 3) := by decide +kernel
theorem dJ0_checkIndex_df160_0 : decode cJ0_checkIndex_df160 0 = .ok (.iload_n 0, 1) := by decide +kernel
theorem dJ0_checkIndex_df160_1 : decode cJ0_checkIndex_df160 1 = .ok (.iload_n 1, 1) := by decide +kernel
theorem dJ0_checkIndex_df160_2 : decode cJ0_checkIndex_df160 2 = .ok (.getstatic 1053, 3) := by decide +kernel
theorem dJ0_checkIndex_df160_5 : decode cJ0_checkIndex_df160 5 = .ok (.invokestatic 1059, 3) := by decide +kernel
theorem dJ0_checkIndex_df160_8 : decode cJ0_checkIndex_df160 8 = .ok (.pop, 1) := by decide +kernel
theorem dJ0_checkIndex_df160_9 : decode cJ0_checkIndex_df160 9 = .ok (.return_, 1) := by decide +kernel
theorem dJ0_coder_7d493_0 : decode cJ0_coder_7d493 0 = .ok (.getstatic 38, 3) := by decide +kernel
theorem dJ0_coder_7d493_10 : decode cJ0_coder_7d493 10 = .ok (.goto 4, 3) := by decide +kernel
theorem dJ0_coder_7d493_14 : decode cJ0_coder_7d493 14 = .ok (.ireturn, 1) := by decide +kernel
theorem dJ0_coder_7d493_3 : decode cJ0_coder_7d493 3 = .ok (.ifCond .eq 10, 3) := by decide +kernel
theorem dJ0_coder_7d493_6 : decode cJ0_coder_7d493 6 = .ok (.aload_n 0, 1) := by decide +kernel
theorem dJ0_coder_7d493_7 : decode cJ0_coder_7d493 7 = .ok (.getfield 15, 3) := by decide +kernel
theorem dJ0_indexOf_0f7a4_0 : decode cJ0_indexOf_0f7a4 0 = .ok (.aload_n 0, 1) := by decide +kernel
theorem dJ0_indexOf_0f7a4_1 : decode cJ0_indexOf_0f7a4 1 = .ok (.iload_n 1, 1) := by decide +kernel
theorem dJ0_indexOf_0f7a4_2 : decode cJ0_indexOf_0f7a4 2 = .ok (.iconst 0, 1) := by decide +kernel
theorem dJ0_indexOf_0f7a4_3 : decode cJ0_indexOf_0f7a4 3 = .ok (.invokevirtual 633, 3) := by decide +kernel
theorem dJ0_indexOf_0f7a4_6 : decode cJ0_indexOf_0f7a4 6 = .ok (.ireturn, 1) := by decide +kernel
theorem dJ0_indexOf_7cf53_0 : decode cJ0_indexOf_7cf53 0 = .ok (.aload_n 0, 1) := by decide +kernel
theorem dJ0_indexOf_7cf53_1 : decode cJ0_indexOf_7cf53 1 = .ok (.invokevirtual 492, 3) := by decide +kernel
theorem dJ0_indexOf_7cf53_11 : decode cJ0_indexOf_7cf53 11 = .ok (.iload_n 1, 1) := by decide +kernel
theorem dJ0_indexOf_7cf53_12 : decode cJ0_indexOf_7cf53 12 = .ok (.iload_n 2, 1) := by decide +kernel
theorem dJ0_indexOf_7cf53_13 : decode cJ0_indexOf_7cf53 13 = .ok (.aload_n 0, 1) := by decide +kernel
theorem dJ0_indexOf_7cf53_14 : decode cJ0_indexOf_7cf53 14 = .ok (.invokevirtual 505, 3) := by decide +kernel
theorem dJ0_indexOf_7cf53_17 : decode cJ0_indexOf_7cf53 17 = .ok (.invokestatic 637, 3) := by decide +kernel
theorem dJ0_indexOf_7cf53_20 : decode cJ0_indexOf_7cf53 20 = .ok (.goto 16, 3) := by decide +kernel
theorem dJ0_indexOf_7cf53_36 : decode cJ0_indexOf_7cf53 36 = .ok (.ireturn, 1) := by decide +kernel
theorem dJ0_indexOf_7cf53_4 : decode cJ0_indexOf_7cf53 4 = .ok (.ifCond .eq 19, 3) := by decide +kernel
theorem dJ0_indexOf_7cf53_7 : decode cJ0_indexOf_7cf53 7 = .ok (.aload_n 0, 1) := by decide +kernel
theorem dJ0_indexOf_7cf53_8 : decode cJ0_indexOf_7cf53 8 = .ok (.getfield 9, 3) := by decide +kernel
theorem dJ0_isLatin1_aae02_0 : decode cJ0_isLatin1_aae02 0 = .ok (.getstatic 38, 3) := by decide +kernel
theorem dJ0_isLatin1_aae02_10 : decode cJ0_isLatin1_aae02 10 = .ok (.ifCond .ne 7, 3) := by decide +kernel
theorem dJ0_isLatin1_aae02_13 : decode cJ0_isLatin1_aae02 13 = .ok (.iconst 1, 1) := by decide +kernel
theorem dJ0_isLatin1_aae02_14 : decode cJ0_isLatin1_aae02 14 = .ok (.goto 4, 3) := by decide +kernel
theorem dJ0_isLatin1_aae02_18 : decode cJ0_isLatin1_aae02 18 = .ok (.ireturn, 1) := by decide +kernel
theorem dJ0_isLatin1_aae02_3 : decode cJ0_isLatin1_aae02 3 = .ok (.ifCond .eq 14, 3) := by decide +kernel
theorem dJ0_isLatin1_aae02_6 : decode cJ0_isLatin1_aae02 6 = .ok (.aload_n 0, 1) := by decide +kernel
theorem dJ0_isLatin1_aae02_7 : decode cJ0_isLatin1_aae02 7 = .ok (.getfield 15, 3) := by decide +kernel
theorem dJ0_length_8abf5_0 : decode cJ0_length_8abf5 0 = .ok (.aload_n 0, 1) := by decide +kernel
theorem dJ0_length_8abf5_1 : decode cJ0_length_8abf5 1 = .ok (.getfield 9, 3) := by decide +kernel
theorem dJ0_length_8abf5_10 : decode cJ0_length_8abf5 10 = .ok (.ireturn, 1) := by decide +kernel
theorem dJ0_length_8abf5_4 : decode cJ0_length_8abf5 4 = .ok (.arraylength, 1) := by decide +kernel
theorem dJ0_length_8abf5_5 : decode cJ0_length_8abf5 5 = .ok (.aload_n 0, 1) := by decide +kernel
theorem dJ0_length_8abf5_6 : decode cJ0_length_8abf5 6 = .ok (.invokevirtual 335, 3) := by decide +kernel
theorem dJ0_length_8abf5_9 : decode cJ0_length_8abf5 9 = .ok (.ishr, 1) := by decide +kernel
theorem dJ1_canEncode_9a6ad_0 : decode cJ1_canEncode_9a6ad 0 = .ok (.iload_n 0, 1) := by decide +kernel
theorem dJ1_canEncode_9a6ad_1 : decode cJ1_canEncode_9a6ad 1 = .ok (.ifCond .lt 14, 3) := by decide +kernel
theorem dJ1_canEncode_9a6ad_11 : decode cJ1_canEncode_9a6ad 11 = .ok (.iconst 1, 1) := by decide +kernel
theorem dJ1_canEncode_9a6ad_12 : decode cJ1_canEncode_9a6ad 12 = .ok (.goto 4, 3) := by decide +kernel
theorem dJ1_canEncode_9a6ad_15 : decode cJ1_canEncode_9a6ad 15 = .ok (.iconst 0, 1) := by decide +kernel
theorem dJ1_canEncode_9a6ad_16 : decode cJ1_canEncode_9a6ad 16 = .ok (.ireturn, 1) := by decide +kernel
theorem dJ1_canEncode_9a6ad_4 : decode cJ1_canEncode_9a6ad 4 = .ok (.iload_n 0, 1) := by decide +kernel
theorem dJ1_canEncode_9a6ad_5 : decode cJ1_canEncode_9a6ad 5 = .ok (.sipush 255, 3) := by decide +kernel
theorem dJ1_canEncode_9a6ad_8 : decode cJ1_canEncode_9a6ad 8 = .ok (.if_icmp .gt 7, 3) := by decide +kernel
theorem dJ1_charAt_3b067_0 : decode cJ1_charAt_3b067 0 = .ok (.iload_n 1, 1) := by decide +kernel
theorem dJ1_charAt_3b067_1 : decode cJ1_charAt_3b067 1 = .ok (.aload_n 0, 1) := by decide +kernel
theorem dJ1_charAt_3b067_12 : decode cJ1_charAt_3b067 12 = .ok (.iand, 1) := by decide +kernel
theorem dJ1_charAt_3b067_13 : decode cJ1_charAt_3b067 13 = .ok (.i2c, 1) := by decide +kernel
theorem dJ1_charAt_3b067_14 : decode cJ1_charAt_3b067 14 = .ok (.ireturn, 1) := by decide +kernel
theorem dJ1_charAt_3b067_2 : decode cJ1_charAt_3b067 2 = .ok (.arraylength, 1) := by decide +kernel
theorem dJ1_charAt_3b067_3 : decode cJ1_charAt_3b067 3 = .ok (.invokestatic 9, 3) := by decide +kernel
theorem dJ1_charAt_3b067_6 : decode cJ1_charAt_3b067 6 = .ok (.aload_n 0, 1) := by decide +kernel
theorem dJ1_charAt_3b067_7 : decode cJ1_charAt_3b067 7 = .ok (.iload_n 1, 1) := by decide +kernel
theorem dJ1_charAt_3b067_8 : decode cJ1_charAt_3b067 8 = .ok (.baload, 1) := by decide +kernel
theorem dJ1_charAt_3b067_9 : decode cJ1_charAt_3b067 9 = .ok (.sipush 255, 3) := by decide +kernel
theorem dJ1_indexOfChar_4cfef_0 : decode cJ1_indexOfChar_4cfef 0 = .ok (.iload_n 1, 1) := by decide +kernel
theorem dJ1_indexOfChar_4cfef_1 : decode cJ1_indexOfChar_4cfef 1 = .ok (.i2b, 1) := by decide +kernel
theorem dJ1_indexOfChar_4cfef_10 : decode cJ1_indexOfChar_4cfef 10 = .ok (.if_icmp .ge 21, 3) := by decide +kernel
theorem dJ1_indexOfChar_4cfef_13 : decode cJ1_indexOfChar_4cfef 13 = .ok (.aload_n 0, 1) := by decide +kernel
theorem dJ1_indexOfChar_4cfef_14 : decode cJ1_indexOfChar_4cfef 14 = .ok (.iload 5, 2) := by decide +kernel
theorem dJ1_indexOfChar_4cfef_16 : decode cJ1_indexOfChar_4cfef 16 = .ok (.baload, 1) := by decide +kernel
theorem dJ1_indexOfChar_4cfef_17 : decode cJ1_indexOfChar_4cfef 17 = .ok (.iload 4, 2) := by decide +kernel
theorem dJ1_indexOfChar_4cfef_19 : decode cJ1_indexOfChar_4cfef 19 = .ok (.if_icmp .ne 6, 3) := by decide +kernel
theorem dJ1_indexOfChar_4cfef_2 : decode cJ1_indexOfChar_4cfef 2 = .ok (.istore 4, 2) := by decide +kernel
theorem dJ1_indexOfChar_4cfef_22 : decode cJ1_indexOfChar_4cfef 22 = .ok (.iload 5, 2) := by decide +kernel
theorem dJ1_indexOfChar_4cfef_24 : decode cJ1_indexOfChar_4cfef 24 = .ok (.ireturn, 1) := by decide +kernel
theorem dJ1_indexOfChar_4cfef_25 : decode cJ1_indexOfChar_4cfef 25 = .ok (.iinc 5 1, 3) := by decide +kernel
theorem dJ1_indexOfChar_4cfef_28 : decode cJ1_indexOfChar_4cfef 28 = .ok (.goto (-21), 3) := by decide +kernel
theorem dJ1_indexOfChar_4cfef_31 : decode cJ1_indexOfChar_4cfef 31 = .ok (.iconst (-1), 1) := by decide +kernel
theorem dJ1_indexOfChar_4cfef_32 : decode cJ1_indexOfChar_4cfef 32 = .ok (.ireturn, 1) := by decide +kernel
theorem dJ1_indexOfChar_4cfef_4 : decode cJ1_indexOfChar_4cfef 4 = .ok (.iload_n 2, 1) := by decide +kernel
theorem dJ1_indexOfChar_4cfef_5 : decode cJ1_indexOfChar_4cfef 5 = .ok (.istore 5, 2) := by decide +kernel
theorem dJ1_indexOfChar_4cfef_7 : decode cJ1_indexOfChar_4cfef 7 = .ok (.iload 5, 2) := by decide +kernel
theorem dJ1_indexOfChar_4cfef_9 : decode cJ1_indexOfChar_4cfef 9 = .ok (.iload_n 3, 1) := by decide +kernel
theorem dJ1_indexOf_4cfef_0 : decode cJ1_indexOf_4cfef 0 = .ok (.iload_n 1, 1) := by decide +kernel
theorem dJ1_indexOf_4cfef_1 : decode cJ1_indexOf_4cfef 1 = .ok (.invokestatic 88, 3) := by decide +kernel
theorem dJ1_indexOf_4cfef_10 : decode cJ1_indexOf_4cfef 10 = .ok (.iconst 0, 1) := by decide +kernel
theorem dJ1_indexOf_4cfef_11 : decode cJ1_indexOf_4cfef 11 = .ok (.invokestatic 92, 3) := by decide +kernel
theorem dJ1_indexOf_4cfef_14 : decode cJ1_indexOf_4cfef 14 = .ok (.istore_n 2, 1) := by decide +kernel
theorem dJ1_indexOf_4cfef_15 : decode cJ1_indexOf_4cfef 15 = .ok (.iload_n 3, 1) := by decide +kernel
theorem dJ1_indexOf_4cfef_16 : decode cJ1_indexOf_4cfef 16 = .ok (.aload_n 0, 1) := by decide +kernel
theorem dJ1_indexOf_4cfef_17 : decode cJ1_indexOf_4cfef 17 = .ok (.arraylength, 1) := by decide +kernel
theorem dJ1_indexOf_4cfef_18 : decode cJ1_indexOf_4cfef 18 = .ok (.invokestatic 38, 3) := by decide +kernel
theorem dJ1_indexOf_4cfef_21 : decode cJ1_indexOf_4cfef 21 = .ok (.istore_n 3, 1) := by decide +kernel
theorem dJ1_indexOf_4cfef_22 : decode cJ1_indexOf_4cfef 22 = .ok (.iload_n 2, 1) := by decide +kernel
theorem dJ1_indexOf_4cfef_23 : decode cJ1_indexOf_4cfef 23 = .ok (.iload_n 3, 1) := by decide +kernel
theorem dJ1_indexOf_4cfef_24 : decode cJ1_indexOf_4cfef 24 = .ok (.if_icmp .lt 5, 3) := by decide +kernel
theorem dJ1_indexOf_4cfef_27 : decode cJ1_indexOf_4cfef 27 = .ok (.iconst (-1), 1) := by decide +kernel
theorem dJ1_indexOf_4cfef_28 : decode cJ1_indexOf_4cfef 28 = .ok (.ireturn, 1) := by decide +kernel
theorem dJ1_indexOf_4cfef_29 : decode cJ1_indexOf_4cfef 29 = .ok (.aload_n 0, 1) := by decide +kernel
theorem dJ1_indexOf_4cfef_30 : decode cJ1_indexOf_4cfef 30 = .ok (.iload_n 1, 1) := by decide +kernel
theorem dJ1_indexOf_4cfef_31 : decode cJ1_indexOf_4cfef 31 = .ok (.iload_n 2, 1) := by decide +kernel
theorem dJ1_indexOf_4cfef_32 : decode cJ1_indexOf_4cfef 32 = .ok (.iload_n 3, 1) := by decide +kernel
theorem dJ1_indexOf_4cfef_33 : decode cJ1_indexOf_4cfef 33 = .ok (.invokestatic 95, 3) := by decide +kernel
theorem dJ1_indexOf_4cfef_36 : decode cJ1_indexOf_4cfef 36 = .ok (.ireturn, 1) := by decide +kernel
theorem dJ1_indexOf_4cfef_4 : decode cJ1_indexOf_4cfef 4 = .ok (.ifCond .ne 5, 3) := by decide +kernel
theorem dJ1_indexOf_4cfef_7 : decode cJ1_indexOf_4cfef 7 = .ok (.iconst (-1), 1) := by decide +kernel
theorem dJ1_indexOf_4cfef_8 : decode cJ1_indexOf_4cfef 8 = .ok (.ireturn, 1) := by decide +kernel
theorem dJ1_indexOf_4cfef_9 : decode cJ1_indexOf_4cfef 9 = .ok (.iload_n 2, 1) := by decide +kernel
theorem dJ3_checkIndex_8e157_0 : decode cJ3_checkIndex_8e157 0 = .ok (.iload_n 0, 1) := by decide +kernel
theorem dJ3_checkIndex_8e157_1 : decode cJ3_checkIndex_8e157 1 = .ok (.ifCond .lt 8, 3) := by decide +kernel
theorem dJ3_checkIndex_8e157_16 : decode cJ3_checkIndex_8e157 16 = .ok (.iload_n 0, 1) := by decide +kernel
theorem dJ3_checkIndex_8e157_17 : decode cJ3_checkIndex_8e157 17 = .ok (.ireturn, 1) := by decide +kernel
theorem dJ3_checkIndex_8e157_4 : decode cJ3_checkIndex_8e157 4 = .ok (.iload_n 0, 1) := by decide +kernel
theorem dJ3_checkIndex_8e157_5 : decode cJ3_checkIndex_8e157 5 = .ok (.iload_n 1, 1) := by decide +kernel
theorem dJ3_checkIndex_8e157_6 : decode cJ3_checkIndex_8e157 6 = .ok (.if_icmp .lt 10, 3) := by decide +kernel
theorem cs_J0_335 : GoodIn gtbl (wsV RJ0 335 "java/lang/String" yJ0_coder_7d493 (Cond.code yJ0_coder_7d493 cJ0_coder_7d493 1 (some .byte) :: gtbl)) ∧ yJ0_coder_7d493.cls = "java/lang/String" ∧ yJ0_coder_7d493.cls ≠ "java/lang/invoke/MethodHandle" ∧ yJ0_coder_7d493.cls ≠ "java/lang/invoke/VarHandle" ∧ (parseMethodDescriptor yJ0_coder_7d493.desc).map (fun d => d.parameters.length) = some 0 := ⟨goodV lm_1002 lm_1003 lm_1004 lm_1005 lm_1006 rfl rfl, by decide +kernel⟩
theorem cs_J1_88 : GoodIn gtbl (va_wsS RJ1 88 yJ1_canEncode_9a6ad (Cond.code yJ1_canEncode_9a6ad cJ1_canEncode_9a6ad 1 (some .boolean) :: gtbl)) ∧ yJ1_canEncode_9a6ad.cls ≠ "java/lang/invoke/MethodHandle" ∧ yJ1_canEncode_9a6ad.cls ≠ "java/lang/invoke/VarHandle" ∧ (parseMethodDescriptor yJ1_canEncode_9a6ad.desc).map (fun d => d.parameters.length) = some 1 := ⟨goodS lm_1007 lm_1008 lm_1009 lm_1010 rfl rfl, by decide +kernel⟩
theorem mm_J1_92 : Cond.methodLink RJ1 92 Lib.Math.max.name ∈ gtbl ∧ Cond.static Lib.Math.max.name ∈ gtbl ∧ Cond.initialized "java/lang/Math" ∈ gtbl ∧ Cond.code Lib.Math.max.name Lib.Math.max.code 2 (some .int) ∈ gtbl := ⟨gin lm_1011 rfl, gin lm_55 rfl, gin lm_27 rfl, gin lm_56 rfl⟩
theorem mm_J1_38 : Cond.methodLink RJ1 38 Lib.Math.min.name ∈ gtbl ∧ Cond.static Lib.Math.min.name ∈ gtbl ∧ Cond.initialized "java/lang/Math" ∈ gtbl ∧ Cond.code Lib.Math.min.name Lib.Math.min.code 2 (some .int) ∈ gtbl := ⟨gin lm_1012 rfl, gin lm_52 rfl, gin lm_27 rfl, gin lm_53 rfl⟩
theorem cs_J1_95 : GoodIn gtbl (va_wsS RJ1 95 yJ1_indexOfChar_4cfef (Cond.code yJ1_indexOfChar_4cfef cJ1_indexOfChar_4cfef 6 (some .int) :: gtbl)) ∧ yJ1_indexOfChar_4cfef.cls ≠ "java/lang/invoke/MethodHandle" ∧ yJ1_indexOfChar_4cfef.cls ≠ "java/lang/invoke/VarHandle" ∧ (parseMethodDescriptor yJ1_indexOfChar_4cfef.desc).map (fun d => d.parameters.length) = some 4 := ⟨goodS lm_1013 lm_1014 lm_1009 lm_1015 rfl rfl, by decide +kernel⟩
theorem cs_J0_492 : GoodIn gtbl (wsV RJ0 492 "java/lang/String" yJ0_isLatin1_aae02 (Cond.code yJ0_isLatin1_aae02 cJ0_isLatin1_aae02 1 (some .boolean) :: gtbl)) ∧ yJ0_isLatin1_aae02.cls = "java/lang/String" ∧ yJ0_isLatin1_aae02.cls ≠ "java/lang/invoke/MethodHandle" ∧ yJ0_isLatin1_aae02.cls ≠ "java/lang/invoke/VarHandle" ∧ (parseMethodDescriptor yJ0_isLatin1_aae02.desc).map (fun d => d.parameters.length) = some 0 := ⟨goodV lm_1016 lm_1017 lm_1018 lm_1005 lm_1019 rfl rfl, by decide +kernel⟩
theorem cs_J0_505 : GoodIn gtbl (wsV RJ0 505 "java/lang/String" yJ0_length_8abf5 (Cond.code yJ0_length_8abf5 cJ0_length_8abf5 1 (some .int) :: gtbl)) ∧ yJ0_length_8abf5.cls = "java/lang/String" ∧ yJ0_length_8abf5.cls ≠ "java/lang/invoke/MethodHandle" ∧ yJ0_length_8abf5.cls ≠ "java/lang/invoke/VarHandle" ∧ (parseMethodDescriptor yJ0_length_8abf5.desc).map (fun d => d.parameters.length) = some 0 := ⟨goodV lm_1020 lm_1021 lm_1022 lm_1005 lm_1023 rfl rfl, by decide +kernel⟩
theorem cs_J0_637 : GoodIn gtbl (va_wsS RJ0 637 yJ1_indexOf_4cfef (Cond.code yJ1_indexOf_4cfef cJ1_indexOf_4cfef 4 (some .int) :: gtbl)) ∧ yJ1_indexOf_4cfef.cls ≠ "java/lang/invoke/MethodHandle" ∧ yJ1_indexOf_4cfef.cls ≠ "java/lang/invoke/VarHandle" ∧ (parseMethodDescriptor yJ1_indexOf_4cfef.desc).map (fun d => d.parameters.length) = some 4 := ⟨goodS lm_1024 lm_1025 lm_1009 lm_1026 rfl rfl, by decide +kernel⟩
theorem cs_J0_633 : GoodIn gtbl (wsV RJ0 633 "java/lang/String" yJ0_indexOf_7cf53 (Cond.code yJ0_indexOf_7cf53 cJ0_indexOf_7cf53 3 (some .int) :: gtbl)) ∧ yJ0_indexOf_7cf53.cls = "java/lang/String" ∧ yJ0_indexOf_7cf53.cls ≠ "java/lang/invoke/MethodHandle" ∧ yJ0_indexOf_7cf53.cls ≠ "java/lang/invoke/VarHandle" ∧ (parseMethodDescriptor yJ0_indexOf_7cf53.desc).map (fun d => d.parameters.length) = some 2 := ⟨goodV lm_1027 lm_1028 lm_1029 lm_1005 lm_1030 rfl rfl, by decide +kernel⟩
theorem cs_J0_1059 : GoodIn gtbl (va_wsS RJ0 1059 yJ3_checkIndex_8e157 (Cond.code yJ3_checkIndex_8e157 cJ3_checkIndex_8e157 3 (some .int) :: gtbl)) ∧ yJ3_checkIndex_8e157.cls ≠ "java/lang/invoke/MethodHandle" ∧ yJ3_checkIndex_8e157.cls ≠ "java/lang/invoke/VarHandle" ∧ (parseMethodDescriptor yJ3_checkIndex_8e157.desc).map (fun d => d.parameters.length) = some 3 := ⟨goodS lm_1031 lm_1032 lm_1033 lm_1034 rfl rfl, by decide +kernel⟩
theorem cs_J1_9 : GoodIn gtbl (va_wsS RJ1 9 yJ0_checkIndex_df160 (Cond.code yJ0_checkIndex_df160 cJ0_checkIndex_df160 2 none :: gtbl)) ∧ yJ0_checkIndex_df160.cls ≠ "java/lang/invoke/MethodHandle" ∧ yJ0_checkIndex_df160.cls ≠ "java/lang/invoke/VarHandle" ∧ (parseMethodDescriptor yJ0_checkIndex_df160.desc).map (fun d => d.parameters.length) = some 2 := ⟨goodS lm_1036 lm_1037 lm_1005 lm_1038 rfl rfl, by decide +kernel⟩
theorem cs_J0_495 : GoodIn gtbl (va_wsS RJ0 495 yJ1_charAt_3b067 (Cond.code yJ1_charAt_3b067 cJ1_charAt_3b067 2 (some .char) :: gtbl)) ∧ yJ1_charAt_3b067.cls ≠ "java/lang/invoke/MethodHandle" ∧ yJ1_charAt_3b067.cls ≠ "java/lang/invoke/VarHandle" ∧ (parseMethodDescriptor yJ1_charAt_3b067.desc).map (fun d => d.parameters.length) = some 2 := ⟨goodS lm_1039 lm_1040 lm_1009 lm_1041 rfl rfl, by decide +kernel⟩
theorem kS_cod (l : Launch) (M : Mem) (hJ : Iw M) (i : Nat) (hi : i < strs.length) : CI l yJ0_coder_7d493 cJ0_coder_7d493 1 (some .byte) 1 (fun ad => [.ref (ad (1000 + i))]) M (fun z M' => z = 0 ∧ M = M') := by
  refine en_b (by decide +kernel) (fun ad => by exact Nat.le_of_ble_eq_true rfl) (fun D cy ad A p e s m args below meth c Q F hret => ?_)
  refine z_eq (ls' := [(0, .ref (ad (1000 + i)))]) rfl rfl rfl ?_
  refine z_comp F (gin lm_999 rfl) dJ0_coder_7d493_0 ?_
  refine z_if_eq (tgt := 13) F dJ0_coder_7d493_3 (by decide +kernel) (by omega) (fun c1 => by exfalso; omega) (fun c1 => ?_)
  refine z_aload_n F dJ0_coder_7d493_6 rfl (q := 0) rfl ?_
  refine z_scod F hi (gin lm_1000 rfl) dJ0_coder_7d493_7 ?_
  refine z_goto (tgt := 14) F dJ0_coder_7d493_10 (by decide +kernel) ?_
  exact hret _ _ 14 _ ⟨by omega, by omega⟩ hJ ⟨rfl, rfl⟩ dJ0_coder_7d493_14
theorem kS_lat (l : Launch) (M : Mem) (hJ : Iw M) (i : Nat) (hi : i < strs.length) : CI l yJ0_isLatin1_aae02 cJ0_isLatin1_aae02 1 (some .boolean) 1 (fun ad => [.ref (ad (1000 + i))]) M (fun z M' => z = 1 ∧ M = M') := by
  refine en_z (by decide +kernel) (fun ad => by exact Nat.le_of_ble_eq_true rfl) (fun D cy ad A p e s m args below meth c Q F hret => ?_)
  refine z_eq (ls' := [(0, .ref (ad (1000 + i)))]) rfl rfl rfl ?_
  refine z_comp F (gin lm_999 rfl) dJ0_isLatin1_aae02_0 ?_
  refine z_if_eq (tgt := 17) F dJ0_isLatin1_aae02_3 (by decide +kernel) (by omega) (fun c1 => by exfalso; omega) (fun c1 => ?_)
  refine z_aload_n F dJ0_isLatin1_aae02_6 rfl (q := 0) rfl ?_
  refine z_scod F hi (gin lm_1000 rfl) dJ0_isLatin1_aae02_7 ?_
  refine z_if_ne (tgt := 17) F dJ0_isLatin1_aae02_10 (by decide +kernel) (by omega) (fun c2 => by exfalso; omega) (fun c2 => ?_)
  refine z_iconst F dJ0_isLatin1_aae02_13 ?_
  refine z_goto (tgt := 18) F dJ0_isLatin1_aae02_14 (by decide +kernel) ?_
  exact hret _ _ 18 _ ⟨by omega, by omega⟩ hJ ⟨rfl, rfl⟩ dJ0_isLatin1_aae02_18
theorem kS_len (l : Launch) (M : Mem) (hJ : Iw M) (i : Nat) (hi : i < strs.length) : CI l yJ0_length_8abf5 cJ0_length_8abf5 1 (some .int) 2 (fun ad => [.ref (ad (1000 + i))]) M (fun z M' => z = ((sbyt.getD i []).length : Int) ∧ M = M') := by
  refine en_i (by decide +kernel) (fun ad => by exact Nat.le_of_ble_eq_true rfl) (fun D cy ad A p e s m args below meth c Q F hret => ?_)
  refine z_eq (ls' := [(0, .ref (ad (1000 + i)))]) rfl rfl rfl ?_
  refine z_aload_n F dJ0_length_8abf5_0 rfl (q := 0) rfl ?_
  refine z_sval F hi (gin lm_1001 rfl) dJ0_length_8abf5_1 ?_
  refine z_slen F hi dJ0_length_8abf5_4 ?_
  refine z_aload_n F dJ0_length_8abf5_5 rfl (q := 0) rfl ?_
  refine zvs_i (rest := [ii ((sbyt.getD i []).length : Int)]) F (kS_cod l M hJ i hi) cs_J0_335 hi (by decide) (by decide) rfl rfl rfl (Nat.le_of_ble_eq_true rfl) dJ0_length_8abf5_6 (fun v1 M1 r1 hJ p1 => ?_)
  obtain ⟨rfl, rfl⟩ := p1
  have hL := sb_len i hi
  refine z_ishr0 F dJ0_length_8abf5_9 (fun v2 e2 r2 => ?_)
  have e3 : v2 = ((sbyt.getD i []).length : Int) := by rw [e2, show Int32.ofInt ((sbyt.getD i []).length : Int) >>> (Int32.ofInt 0 &&& 31) = Int32.ofInt ((sbyt.getD i []).length : Int) from Int32.shiftRight_zero]; exact o32 ⟨by omega, by omega⟩
  exact hret _ _ 10 _ r2 hJ ⟨e3, rfl⟩ dJ0_length_8abf5_10
theorem kS_enc (l : Launch) (M : Mem) (hJ : Iw M) (x0 : Int) (h0 : In32 x0) : CI l yJ1_canEncode_9a6ad cJ1_canEncode_9a6ad 1 (some .boolean) 1 (fun ad => [ii x0]) M (fun z M' => (z = 1 ∧ 0 ≤ x0 ∧ x0 ≤ 255 ∨ z = 0 ∧ (x0 < 0 ∨ 255 < x0)) ∧ M = M') := by
  refine en_z (by decide +kernel) (fun ad => by exact Nat.le_of_ble_eq_true rfl) (fun D cy ad A p e s m args below meth c Q F hret => ?_)
  refine z_eq (ls' := [(0, ii x0)]) rfl rfl rfl ?_
  refine z_iload_n F dJ1_canEncode_9a6ad_0 rfl (q := 0) rfl ?_
  refine z_if_lt (tgt := 15) F dJ1_canEncode_9a6ad_1 (by decide +kernel) h0 (fun c1 => ?_) (fun c1 => ?_)
  · refine z_iconst F dJ1_canEncode_9a6ad_15 ?_
    exact hret _ _ 16 _ ⟨by omega, by omega⟩ hJ ⟨by omega, rfl⟩ dJ1_canEncode_9a6ad_16
  · refine z_iload_n F dJ1_canEncode_9a6ad_4 rfl (q := 0) rfl ?_
    refine z_sipush F dJ1_canEncode_9a6ad_5 (by decide +kernel) ?_
    refine z_icmp_gt (tgt := 15) F dJ1_canEncode_9a6ad_8 (by decide +kernel) h0 (by omega) (fun c2 => ?_) (fun c2 => ?_)
    · refine z_iconst F dJ1_canEncode_9a6ad_15 ?_
      exact hret _ _ 16 _ ⟨by omega, by omega⟩ hJ ⟨by omega, rfl⟩ dJ1_canEncode_9a6ad_16
    · refine z_iconst F dJ1_canEncode_9a6ad_11 ?_
      refine z_goto (tgt := 16) F dJ1_canEncode_9a6ad_12 (by decide +kernel) ?_
      exact hret _ _ 16 _ ⟨by omega, by omega⟩ hJ ⟨by omega, rfl⟩ dJ1_canEncode_9a6ad_16
theorem kS_ixc (l : Launch) (M : Mem) (hJ : Iw M) (i : Nat) (hi : i < strs.length) (x1 : Int) (h1 : In32 x1) (x2 : Int) (h2 : 0 ≤ x2) (h2b : x2 ≤ 100) (x3 : Int) (h3 : 0 ≤ x3) (h4 : x3 ≤ ((sbyt.getD i []).length : Int)) : CI l yJ1_indexOfChar_4cfef cJ1_indexOfChar_4cfef 6 (some .int) 1 (fun ad => [.ref (ad (2000 + i)), ii x1, ii x2, ii x3]) M (fun z M' => ((-1 ≤ z ∧ z < ((sbyt.getD i []).length : Int)) ∧ (0 ≤ x1 → x1 ≤ 127 → (0 ≤ z ∧ sbc i z.toNat = x1 ∨ z = -1 ∧ ∀ j : Nat, x2 ≤ j → (j : Int) < x3 → ¬ sbc i j = x1))) ∧ M = M') := by
  refine en_i (by decide +kernel) (fun ad => by exact Nat.le_of_ble_eq_true rfl) (fun D cy ad A p e s m args below meth c Q F hret => ?_)
  refine z_eq (ls' := [(0, .ref (ad (2000 + i))), (1, ii x1), (2, ii x2), (3, ii x3)]) rfl rfl rfl ?_
  have hL := sb_len i hi
  refine z_iload_n F dJ1_indexOfChar_4cfef_0 rfl (q := 1) rfl ?_
  refine z_i2b F dJ1_indexOfChar_4cfef_1 (fun v1 e1 a1 b1 => ?_)
  refine z_istore F dJ1_indexOfChar_4cfef_2 (by decide) (ls' := [(4, ii v1), (0, .ref (ad (2000 + i))), (1, ii x1), (2, ii x2), (3, ii x3)]) rfl ?_
  refine z_iload_n F dJ1_indexOfChar_4cfef_4 rfl (q := 3) rfl ?_
  refine z_istore F dJ1_indexOfChar_4cfef_5 (by decide) (ls' := [(5, ii x2), (4, ii v1), (0, .ref (ad (2000 + i))), (1, ii x1), (2, ii x2), (3, ii x3)]) rfl ?_
  refine z_loc [0, 1, 2, 5] (ls' := [(5, ii x2), (4, ii v1), (0, .ref (ad (2000 + i))), (3, ii x3)]) rfl ?_
  suffices key : ∀ (n : Nat) (w : Int), 0 ≤ w → w ≤ 100 → (∀ j : Nat, x2 ≤ j → (j : Int) < w → ¬ sbc i j = v1) → 100 - w < (n : Int) → Z D cy ad p l e (RMh 1) s m args below meth c A 6 0 0 Q 7 [(5, ii w), (4, ii v1), (0, .ref (ad (2000 + i))), (3, ii x3)] [] M from key 101 x2 h2 h2b (fun j a b => by omega) (by omega)
  intro n
  induction n with
  | zero => intro w a b hs hn; exfalso; omega
  | succ n ih =>
    intro w a b hs hn
    refine z_iload F dJ1_indexOfChar_4cfef_7 (q := 0) rfl ?_
    refine z_iload_n F dJ1_indexOfChar_4cfef_9 rfl (q := 3) rfl ?_
    refine z_icmp_ge (tgt := 31) F dJ1_indexOfChar_4cfef_10 (by decide +kernel) (by omega) (by omega) (fun c1 => ?_) (fun c1 => ?_)
    · refine z_iconst F dJ1_indexOfChar_4cfef_31 ?_
      exact hret _ _ 32 _ (by omega) hJ ⟨⟨by omega, fun g0 g1 => Or.inr ⟨rfl, fun j q1 q2 => by rw [← i2b_s g0 g1 e1]; exact hs j q1 (by omega)⟩⟩, rfl⟩ dJ1_indexOfChar_4cfef_32
    · refine z_aload_n F dJ1_indexOfChar_4cfef_13 rfl (q := 2) rfl ?_
      refine z_iload F dJ1_indexOfChar_4cfef_14 (q := 0) rfl ?_
      refine z_sb F hi (by omega) (by omega) dJ1_indexOfChar_4cfef_16 ?_
      refine z_iload F dJ1_indexOfChar_4cfef_17 (q := 1) rfl ?_
      refine z_icmp_ne (tgt := 25) F dJ1_indexOfChar_4cfef_19 (by decide +kernel) (r32 _) (by omega) (fun c2 => ?_) (fun c2 => ?_)
      · refine z_iincN F dJ1_indexOfChar_4cfef_25 (q := 0) rfl (by decide) (fun v3 e3 => ?_)
        refine z_eq (ls' := [(5, ii v3), (4, ii v1), (0, .ref (ad (2000 + i))), (3, ii x3)]) rfl rfl rfl ?_
        refine z_goto (tgt := 7) F dJ1_indexOfChar_4cfef_28 (by decide +kernel) ?_
        exact ih v3 (by omega) (by omega) (fun j q1 q2 => if hq : (j : Int) < w then hs j q1 hq else (by rw [← (show w.toNat = j from by omega)]; exact c2)) (by omega)
      · refine z_iload F dJ1_indexOfChar_4cfef_22 (q := 0) rfl ?_
        exact hret _ _ 24 _ (by omega) hJ ⟨⟨by omega, fun g0 g1 => Or.inl ⟨by omega, (by rw [← i2b_s g0 g1 e1]; exact c2)⟩⟩, rfl⟩ dJ1_indexOfChar_4cfef_24
theorem kS_ix1 (l : Launch) (M : Mem) (hJ : Iw M) (i : Nat) (hi : i < strs.length) (x1 : Int) (h1 : In32 x1) (x2 : Int) (h2 : 0 ≤ x2) (h2b : x2 ≤ 100) (x3 : Int) (h3 : 0 ≤ x3) (h4 : x3 ≤ ((sbyt.getD i []).length : Int)) : CI l yJ1_indexOf_4cfef cJ1_indexOf_4cfef 4 (some .int) 2 (fun ad => [.ref (ad (2000 + i)), ii x1, ii x2, ii x3]) M (fun z M' => ((-1 ≤ z ∧ z < ((sbyt.getD i []).length : Int)) ∧ (0 ≤ x1 → x1 ≤ 127 → (0 ≤ z ∧ sbc i z.toNat = x1 ∨ z = -1 ∧ ∀ j : Nat, x2 ≤ j → (j : Int) < x3 → ¬ sbc i j = x1))) ∧ M = M') := by
  refine en_i (by decide +kernel) (fun ad => by exact Nat.le_of_ble_eq_true rfl) (fun D cy ad A p e s m args below meth c Q F hret => ?_)
  refine z_eq (ls' := [(0, .ref (ad (2000 + i))), (1, ii x1), (2, ii x2), (3, ii x3)]) rfl rfl rfl ?_
  have hL := sb_len i hi
  refine z_iload_n F dJ1_indexOf_4cfef_0 rfl (q := 1) rfl ?_
  refine zs_i (rest := []) F (kS_enc l M hJ x1 h1) cs_J1_88 (by decide) (by decide) rfl rfl rfl (Nat.le_of_ble_eq_true rfl) dJ1_indexOf_4cfef_1 (fun v1 M1 r1 hJ p1 => ?_)
  obtain ⟨p1, rfl⟩ := p1
  refine z_if_ne (tgt := 9) F dJ1_indexOf_4cfef_4 (by decide +kernel) r1 (fun c1 => ?_) (fun c1 => ?_)
  · refine z_iload_n F dJ1_indexOf_4cfef_9 rfl (q := 2) rfl ?_
    refine z_iconst F dJ1_indexOf_4cfef_10 ?_
    refine z_max F mm_J1_92 (Nat.le_of_ble_eq_true rfl) dJ1_indexOf_4cfef_11 (by omega) (by omega) (fun v2 e2 => ?_)
    refine z_istore_n F dJ1_indexOf_4cfef_14 rfl (by decide) (ls' := [(2, ii v2), (0, .ref (ad (2000 + i))), (1, ii x1), (3, ii x3)]) rfl ?_
    refine z_iload_n F dJ1_indexOf_4cfef_15 rfl (q := 3) rfl ?_
    refine z_aload_n F dJ1_indexOf_4cfef_16 rfl (q := 1) rfl ?_
    refine z_slen F hi dJ1_indexOf_4cfef_17 ?_
    refine z_min F mm_J1_38 (Nat.le_of_ble_eq_true rfl) dJ1_indexOf_4cfef_18 (by omega) (by omega) (fun v3 e3 => ?_)
    refine z_istore_n F dJ1_indexOf_4cfef_21 rfl (by decide) (ls' := [(3, ii v3), (2, ii v2), (0, .ref (ad (2000 + i))), (1, ii x1)]) rfl ?_
    refine z_iload_n F dJ1_indexOf_4cfef_22 rfl (q := 1) rfl ?_
    refine z_iload_n F dJ1_indexOf_4cfef_23 rfl (q := 0) rfl ?_
    refine z_icmp_lt (tgt := 29) F dJ1_indexOf_4cfef_24 (by decide +kernel) (by omega) (by omega) (fun c2 => ?_) (fun c2 => ?_)
    · refine z_aload_n F dJ1_indexOf_4cfef_29 rfl (q := 2) rfl ?_
      refine z_iload_n F dJ1_indexOf_4cfef_30 rfl (q := 3) rfl ?_
      refine z_iload_n F dJ1_indexOf_4cfef_31 rfl (q := 1) rfl ?_
      refine z_iload_n F dJ1_indexOf_4cfef_32 rfl (q := 0) rfl ?_
      refine zs_i (rest := []) F (kS_ixc l M hJ i hi x1 h1 v2 (by omega) (by omega) v3 (by omega) (by omega)) cs_J1_95 (by decide) (by decide) rfl rfl rfl (Nat.le_of_ble_eq_true rfl) dJ1_indexOf_4cfef_33 (fun v4 M4 r4 hJ p4 => ?_)
      obtain ⟨p4, rfl⟩ := p4
      exact hret _ _ 36 _ r4 hJ ⟨⟨p4.1, fun g0 g1 => (p4.2 g0 g1).elim Or.inl (fun q => Or.inr ⟨q.1, fun j a b => q.2 j (by omega) (by omega)⟩)⟩, rfl⟩ dJ1_indexOf_4cfef_36
    · refine z_iconst F dJ1_indexOf_4cfef_27 ?_
      exact hret _ _ 28 _ (by omega) hJ ⟨⟨by omega, fun g0 g1 => Or.inr ⟨rfl, fun j a b => by exfalso; omega⟩⟩, rfl⟩ dJ1_indexOf_4cfef_28
  · refine z_iconst F dJ1_indexOf_4cfef_7 ?_
    exact hret _ _ 8 _ (by omega) hJ ⟨⟨by omega, fun g0 g1 => by exfalso; omega⟩, rfl⟩ dJ1_indexOf_4cfef_8
theorem kS_ix2 (l : Launch) (M : Mem) (hJ : Iw M) (i : Nat) (hi : i < strs.length) (x1 : Int) (h1 : In32 x1) : CI l yJ0_indexOf_7cf53 cJ0_indexOf_7cf53 3 (some .int) 3 (fun ad => [.ref (ad (1000 + i)), ii x1, ii 0]) M (fun z M' => ((-1 ≤ z ∧ z < ((sbyt.getD i []).length : Int)) ∧ (0 ≤ x1 → x1 ≤ 127 → (0 ≤ z ∧ sbc i z.toNat = x1 ∨ z = -1 ∧ ∀ j : Nat, (j : Int) < ((sbyt.getD i []).length : Int) → ¬ sbc i j = x1))) ∧ M = M') := by
  refine en_i (by decide +kernel) (fun ad => by exact Nat.le_of_ble_eq_true rfl) (fun D cy ad A p e s m args below meth c Q F hret => ?_)
  refine z_eq (ls' := [(0, .ref (ad (1000 + i))), (1, ii x1), (2, ii 0)]) rfl rfl rfl ?_
  have hL := sb_len i hi
  refine z_aload_n F dJ0_indexOf_7cf53_0 rfl (q := 0) rfl ?_
  refine zvs_i (rest := []) F (kS_lat l M hJ i hi) cs_J0_492 hi (by decide) (by decide) rfl rfl rfl (Nat.le_of_ble_eq_true rfl) dJ0_indexOf_7cf53_1 (fun v1 M1 r1 hJ p1 => ?_)
  obtain ⟨rfl, rfl⟩ := p1
  refine z_if_eq (tgt := 23) F dJ0_indexOf_7cf53_4 (by decide +kernel) (by omega) (fun c1 => by exfalso; omega) (fun c1 => ?_)
  refine z_aload_n F dJ0_indexOf_7cf53_7 rfl (q := 0) rfl ?_
  refine z_sval F hi (gin lm_1001 rfl) dJ0_indexOf_7cf53_8 ?_
  refine z_iload_n F dJ0_indexOf_7cf53_11 rfl (q := 1) rfl ?_
  refine z_iload_n F dJ0_indexOf_7cf53_12 rfl (q := 2) rfl ?_
  refine z_aload_n F dJ0_indexOf_7cf53_13 rfl (q := 0) rfl ?_
  refine zvs_i (rest := [ii 0, ii x1, .ref (ad (2000 + i))]) F (kS_len l M hJ i hi) cs_J0_505 hi (by decide) (by decide) rfl rfl rfl (Nat.le_of_ble_eq_true rfl) dJ0_indexOf_7cf53_14 (fun v2 M2 r2 hJ p2 => ?_)
  obtain ⟨rfl, rfl⟩ := p2
  refine zs_i (rest := []) F (kS_ix1 l M hJ i hi x1 h1 0 (by omega) (by omega) _ (by omega) (by omega)) cs_J0_637 (by decide) (by decide) rfl rfl rfl (Nat.le_of_ble_eq_true rfl) dJ0_indexOf_7cf53_17 (fun v3 M3 r3 hJ p3 => ?_)
  obtain ⟨p3, rfl⟩ := p3
  refine z_goto (tgt := 36) F dJ0_indexOf_7cf53_20 (by decide +kernel) ?_
  exact hret _ _ 36 _ r3 hJ ⟨⟨p3.1, fun g0 g1 => (p3.2 g0 g1).elim Or.inl (fun q => Or.inr ⟨q.1, fun j b => q.2 j (by omega) b⟩)⟩, rfl⟩ dJ0_indexOf_7cf53_36
theorem kS_ix (l : Launch) (M : Mem) (hJ : Iw M) (i : Nat) (hi : i < strs.length) (x1 : Int) (h1 : In32 x1) : CI l yJ0_indexOf_0f7a4 cJ0_indexOf_0f7a4 2 (some .int) 4 (fun ad => [.ref (ad (1000 + i)), ii x1]) M (fun z M' => ((-1 ≤ z ∧ z < ((sbyt.getD i []).length : Int)) ∧ (0 ≤ x1 → x1 ≤ 127 → (0 ≤ z ∧ sbc i z.toNat = x1 ∨ z = -1 ∧ ∀ j : Nat, (j : Int) < ((sbyt.getD i []).length : Int) → ¬ sbc i j = x1))) ∧ M = M') := by
  refine en_i (by decide +kernel) (fun ad => by exact Nat.le_of_ble_eq_true rfl) (fun D cy ad A p e s m args below meth c Q F hret => ?_)
  refine z_eq (ls' := [(0, .ref (ad (1000 + i))), (1, ii x1)]) rfl rfl rfl ?_
  refine z_aload_n F dJ0_indexOf_0f7a4_0 rfl (q := 0) rfl ?_
  refine z_iload_n F dJ0_indexOf_0f7a4_1 rfl (q := 1) rfl ?_
  refine z_iconst F dJ0_indexOf_0f7a4_2 ?_
  refine zvs_i (rest := []) F (kS_ix2 l M hJ i hi x1 h1) cs_J0_633 hi (by decide) (by decide) rfl rfl rfl (Nat.le_of_ble_eq_true rfl) dJ0_indexOf_0f7a4_3 (fun v1 M1 r1 hJ p1 => ?_)
  obtain ⟨p1, rfl⟩ := p1
  exact hret _ _ 6 _ r1 hJ ⟨p1, rfl⟩ dJ0_indexOf_0f7a4_6
theorem kS_preN (l : Launch) (M : Mem) (hJ : Iw M) (x0 : Int) (h0 : 0 ≤ x0) (x1 : Int) (h1 : x0 < x1) (h2 : x1 ≤ 100) : CI l yJ3_checkIndex_8e157 cJ3_checkIndex_8e157 3 (some .int) 1 (fun ad => [ii x0, ii x1, .null]) M (fun z M' => z = x0 ∧ M = M') := by
  refine en_i (by decide +kernel) (fun ad => by exact Nat.le_of_ble_eq_true rfl) (fun D cy ad A p e s m args below meth c Q F hret => ?_)
  refine z_eq (ls' := [(0, ii x0), (1, ii x1), (2, .null)]) rfl rfl rfl ?_
  refine z_iload_n F dJ3_checkIndex_8e157_0 rfl (q := 0) rfl ?_
  refine z_if_lt (tgt := 9) F dJ3_checkIndex_8e157_1 (by decide +kernel) (by omega) (fun c1 => by exfalso; omega) (fun c1 => ?_)
  refine z_iload_n F dJ3_checkIndex_8e157_4 rfl (q := 0) rfl ?_
  refine z_iload_n F dJ3_checkIndex_8e157_5 rfl (q := 1) rfl ?_
  refine z_icmp_lt (tgt := 16) F dJ3_checkIndex_8e157_6 (by decide +kernel) (by omega) (by omega) (fun c2 => ?_) (fun c2 => by exfalso; omega)
  refine z_iload_n F dJ3_checkIndex_8e157_16 rfl (q := 0) rfl ?_
  exact hret _ _ 17 _ (by omega) hJ ⟨rfl, rfl⟩ dJ3_checkIndex_8e157_17
theorem kS_preR (l : Launch) (M : Mem) (hJ : Iw M) (t : Nat) (x0 : Int) (h0 : 0 ≤ x0) (x1 : Int) (h1 : x0 < x1) (h2 : x1 ≤ 100) : CI l yJ3_checkIndex_8e157 cJ3_checkIndex_8e157 3 (some .int) 1 (fun ad => [ii x0, ii x1, .ref t]) M (fun z M' => z = x0 ∧ M = M') := by
  refine en_i (by decide +kernel) (fun ad => by exact Nat.le_of_ble_eq_true rfl) (fun D cy ad A p e s m args below meth c Q F hret => ?_)
  refine z_eq (ls' := [(0, ii x0), (1, ii x1), (2, .ref t)]) rfl rfl rfl ?_
  refine z_iload_n F dJ3_checkIndex_8e157_0 rfl (q := 0) rfl ?_
  refine z_if_lt (tgt := 9) F dJ3_checkIndex_8e157_1 (by decide +kernel) (by omega) (fun c1 => by exfalso; omega) (fun c1 => ?_)
  refine z_iload_n F dJ3_checkIndex_8e157_4 rfl (q := 0) rfl ?_
  refine z_iload_n F dJ3_checkIndex_8e157_5 rfl (q := 1) rfl ?_
  refine z_icmp_lt (tgt := 16) F dJ3_checkIndex_8e157_6 (by decide +kernel) (by omega) (by omega) (fun c2 => ?_) (fun c2 => by exfalso; omega)
  refine z_iload_n F dJ3_checkIndex_8e157_16 rfl (q := 0) rfl ?_
  exact hret _ _ 17 _ (by omega) hJ ⟨rfl, rfl⟩ dJ3_checkIndex_8e157_17
theorem kS_chk (l : Launch) (M : Mem) (hJ : Iw M) (x0 : Int) (h0 : 0 ≤ x0) (x1 : Int) (h1 : x0 < x1) (h2 : x1 ≤ 100) : CV l yJ0_checkIndex_df160 cJ0_checkIndex_df160 2 none 2 (fun ad => [ii x0, ii x1]) M (fun M' => M = M') := by
  refine en_v (by decide +kernel) (fun ad => by exact Nat.le_of_ble_eq_true rfl) (fun D cy ad A p e s m args below meth c Q F hret => ?_)
  refine z_eq (ls' := [(0, ii x0), (1, ii x1)]) rfl rfl rfl ?_
  refine z_iload_n F dJ0_checkIndex_df160_0 rfl (q := 0) rfl ?_
  refine z_iload_n F dJ0_checkIndex_df160_1 rfl (q := 1) rfl ?_
  refine z_fmt F (gin lm_1035 rfl) dJ0_checkIndex_df160_2 ?_ (fun t => ?_)
  · refine zs_i (rest := []) F (kS_preN l M hJ x0 h0 x1 h1 h2) cs_J0_1059 (by decide) (by decide) rfl rfl rfl (Nat.le_of_ble_eq_true rfl) dJ0_checkIndex_df160_5 (fun v1 M1 r1 hJ p1 => ?_)
    obtain ⟨-, rfl⟩ := p1
    refine z_pop F dJ0_checkIndex_df160_8 rfl ?_
    exact hret _ 9 _ hJ rfl dJ0_checkIndex_df160_9
  · refine zs_i (rest := []) F (kS_preR l M hJ t x0 h0 x1 h1 h2) cs_J0_1059 (by decide) (by decide) rfl rfl rfl (Nat.le_of_ble_eq_true rfl) dJ0_checkIndex_df160_5 (fun v1 M1 r1 hJ p1 => ?_)
    obtain ⟨-, rfl⟩ := p1
    refine z_pop F dJ0_checkIndex_df160_8 rfl ?_
    exact hret _ 9 _ hJ rfl dJ0_checkIndex_df160_9
theorem kS_chr1 (l : Launch) (M : Mem) (hJ : Iw M) (i : Nat) (hi : i < strs.length) (x0 : Int) (h0 : 0 ≤ x0) (h1 : x0 < ((sbyt.getD i []).length : Int)) : CI l yJ1_charAt_3b067 cJ1_charAt_3b067 2 (some .char) 3 (fun ad => [.ref (ad (2000 + i)), ii x0]) M (fun z M' => (0 ≤ z ∧ z ≤ 65535 ∧ z = sbc i x0.toNat) ∧ M = M') := by
  refine en_c (by decide +kernel) (fun ad => by exact Nat.le_of_ble_eq_true rfl) (fun D cy ad A p e s m args below meth c Q F hret => ?_)
  refine z_eq (ls' := [(0, .ref (ad (2000 + i))), (1, ii x0)]) rfl rfl rfl ?_
  have hL := sb_len i hi
  refine z_iload_n F dJ1_charAt_3b067_0 rfl (q := 1) rfl ?_
  refine z_aload_n F dJ1_charAt_3b067_1 rfl (q := 0) rfl ?_
  refine z_slen F hi dJ1_charAt_3b067_2 ?_
  refine zs_v (rest := []) F (kS_chk l M hJ x0 h0 _ h1 (by omega)) cs_J1_9 (by decide) (by decide) rfl rfl rfl (Nat.le_of_ble_eq_true rfl) dJ1_charAt_3b067_3 (fun M1 hJ p1 => ?_)
  subst p1
  refine z_aload_n F dJ1_charAt_3b067_6 rfl (q := 0) rfl ?_
  refine z_iload_n F dJ1_charAt_3b067_7 rfl (q := 1) rfl ?_
  refine z_sb F hi h0 h1 dJ1_charAt_3b067_8 ?_
  refine z_sipush F dJ1_charAt_3b067_9 (by decide +kernel) ?_
  refine z_iand_r F dJ1_charAt_3b067_12 (by omega) (by omega) (fun v2 e2 a2 b2 => ?_)
  refine z_i2c F dJ1_charAt_3b067_13 (fun v3 e3 r3 => ?_)
  have q3 := i2c_r e3
  exact hret _ _ 14 _ q3 hJ ⟨⟨q3.1, q3.2, chr_eq (sb_rng i hi x0.toNat (by omega)) e2 e3⟩, rfl⟩ dJ1_charAt_3b067_14
theorem kS_chr (l : Launch) (M : Mem) (hJ : Iw M) (i : Nat) (hi : i < strs.length) (x0 : Int) (h0 : 0 ≤ x0) (h1 : x0 < ((sbyt.getD i []).length : Int)) : CI l yJ0_charAt_5068e cJ0_charAt_5068e 2 (some .char) 4 (fun ad => [.ref (ad (1000 + i)), ii x0]) M (fun z M' => (0 ≤ z ∧ z ≤ 65535 ∧ z = sbc i x0.toNat) ∧ M = M') := by
  refine en_c (by decide +kernel) (fun ad => by exact Nat.le_of_ble_eq_true rfl) (fun D cy ad A p e s m args below meth c Q F hret => ?_)
  refine z_eq (ls' := [(0, .ref (ad (1000 + i))), (1, ii x0)]) rfl rfl rfl ?_
  refine z_aload_n F dJ0_charAt_5068e_0 rfl (q := 0) rfl ?_
  refine zvs_i (rest := []) F (kS_lat l M hJ i hi) cs_J0_492 hi (by decide) (by decide) rfl rfl rfl (Nat.le_of_ble_eq_true rfl) dJ0_charAt_5068e_1 (fun v1 M1 r1 hJ p1 => ?_)
  obtain ⟨rfl, rfl⟩ := p1
  refine z_if_eq (tgt := 16) F dJ0_charAt_5068e_4 (by decide +kernel) (by omega) (fun c1 => by exfalso; omega) (fun c1 => ?_)
  refine z_aload_n F dJ0_charAt_5068e_7 rfl (q := 0) rfl ?_
  refine z_sval F hi (gin lm_1001 rfl) dJ0_charAt_5068e_8 ?_
  refine z_iload_n F dJ0_charAt_5068e_11 rfl (q := 1) rfl ?_
  refine zs_i (rest := []) F (kS_chr1 l M hJ i hi x0 h0 h1) cs_J0_495 (by decide) (by decide) rfl rfl rfl (Nat.le_of_ble_eq_true rfl) dJ0_charAt_5068e_12 (fun v2 M2 r2 hJ p2 => ?_)
  obtain ⟨p2, rfl⟩ := p2
  exact hret _ _ 15 _ ⟨p2.1, p2.2.1⟩ hJ ⟨p2, rfl⟩ dJ0_charAt_5068e_15
