/-! ===== the JDK on texts ===== -/
theorem dJ0_coder_7d493_0 : decode cJ0_coder_7d493 0 = .ok (.getstatic 38, 3) := by decide +kernel
theorem dJ0_coder_7d493_3 : decode cJ0_coder_7d493 3 = .ok (.ifCond .eq 10, 3) := by decide +kernel
theorem dJ0_coder_7d493_6 : decode cJ0_coder_7d493 6 = .ok (.aload_n 0, 1) := by decide +kernel
theorem dJ0_coder_7d493_7 : decode cJ0_coder_7d493 7 = .ok (.getfield 15, 3) := by decide +kernel
theorem dJ0_coder_7d493_10 : decode cJ0_coder_7d493 10 = .ok (.goto 4, 3) := by decide +kernel
theorem dJ0_coder_7d493_13 : decode cJ0_coder_7d493 13 = .ok (.iconst 1, 1) := by decide +kernel
theorem dJ0_coder_7d493_14 : decode cJ0_coder_7d493 14 = .ok (.ireturn, 1) := by decide +kernel
theorem dJ0_isLatin1_aae02_0 : decode cJ0_isLatin1_aae02 0 = .ok (.getstatic 38, 3) := by decide +kernel
theorem dJ0_isLatin1_aae02_3 : decode cJ0_isLatin1_aae02 3 = .ok (.ifCond .eq 14, 3) := by decide +kernel
theorem dJ0_isLatin1_aae02_6 : decode cJ0_isLatin1_aae02 6 = .ok (.aload_n 0, 1) := by decide +kernel
theorem dJ0_isLatin1_aae02_7 : decode cJ0_isLatin1_aae02 7 = .ok (.getfield 15, 3) := by decide +kernel
theorem dJ0_isLatin1_aae02_10 : decode cJ0_isLatin1_aae02 10 = .ok (.ifCond .ne 7, 3) := by decide +kernel
theorem dJ0_isLatin1_aae02_13 : decode cJ0_isLatin1_aae02 13 = .ok (.iconst 1, 1) := by decide +kernel
theorem dJ0_isLatin1_aae02_14 : decode cJ0_isLatin1_aae02 14 = .ok (.goto 4, 3) := by decide +kernel
theorem dJ0_isLatin1_aae02_17 : decode cJ0_isLatin1_aae02 17 = .ok (.iconst 0, 1) := by decide +kernel
theorem dJ0_isLatin1_aae02_18 : decode cJ0_isLatin1_aae02 18 = .ok (.ireturn, 1) := by decide +kernel
theorem dJ0_length_8abf5_0 : decode cJ0_length_8abf5 0 = .ok (.aload_n 0, 1) := by decide +kernel
theorem dJ0_length_8abf5_1 : decode cJ0_length_8abf5 1 = .ok (.getfield 9, 3) := by decide +kernel
theorem dJ0_length_8abf5_4 : decode cJ0_length_8abf5 4 = .ok (.arraylength, 1) := by decide +kernel
theorem dJ0_length_8abf5_5 : decode cJ0_length_8abf5 5 = .ok (.aload_n 0, 1) := by decide +kernel
theorem dJ0_length_8abf5_6 : decode cJ0_length_8abf5 6 = .ok (.invokevirtual 335, 3) := by decide +kernel
theorem dJ0_length_8abf5_9 : decode cJ0_length_8abf5 9 = .ok (.ishr, 1) := by decide +kernel
theorem dJ0_length_8abf5_10 : decode cJ0_length_8abf5 10 = .ok (.ireturn, 1) := by decide +kernel
theorem dJ3_checkIndex_8e157_0 : decode cJ3_checkIndex_8e157 0 = .ok (.iload_n 0, 1) := by decide +kernel
theorem dJ3_checkIndex_8e157_1 : decode cJ3_checkIndex_8e157 1 = .ok (.ifCond .lt 8, 3) := by decide +kernel
theorem dJ3_checkIndex_8e157_4 : decode cJ3_checkIndex_8e157 4 = .ok (.iload_n 0, 1) := by decide +kernel
theorem dJ3_checkIndex_8e157_5 : decode cJ3_checkIndex_8e157 5 = .ok (.iload_n 1, 1) := by decide +kernel
theorem dJ3_checkIndex_8e157_6 : decode cJ3_checkIndex_8e157 6 = .ok (.if_icmp .lt 10, 3) := by decide +kernel
theorem dJ3_checkIndex_8e157_9 : decode cJ3_checkIndex_8e157 9 = .ok (.aload_n 2, 1) := by decide +kernel
theorem dJ3_checkIndex_8e157_10 : decode cJ3_checkIndex_8e157 10 = .ok (.iload_n 0, 1) := by decide +kernel
theorem dJ3_checkIndex_8e157_11 : decode cJ3_checkIndex_8e157 11 = .ok (.iload_n 1, 1) := by decide +kernel
theorem dJ3_checkIndex_8e157_12 : decode cJ3_checkIndex_8e157 12 = .ok (.invokestatic 95, 3) := by decide +kernel
theorem dJ3_checkIndex_8e157_15 : decode cJ3_checkIndex_8e157 15 = .ok (.athrow, 1) := by decide +kernel
theorem dJ3_checkIndex_8e157_16 : decode cJ3_checkIndex_8e157 16 = .ok (.iload_n 0, 1) := by decide +kernel
theorem dJ3_checkIndex_8e157_17 : decode cJ3_checkIndex_8e157 17 = .ok (.ireturn, 1) := by decide +kernel
theorem dJ0_checkIndex_df160_0 : decode cJ0_checkIndex_df160 0 = .ok (.iload_n 0, 1) := by decide +kernel
theorem dJ0_checkIndex_df160_1 : decode cJ0_checkIndex_df160 1 = .ok (.iload_n 1, 1) := by decide +kernel
theorem dJ0_checkIndex_df160_2 : decode cJ0_checkIndex_df160 2 = .ok (.getstatic 1053, 3) := by decide +kernel
theorem dJ0_checkIndex_df160_5 : decode cJ0_checkIndex_df160 5 = .ok (.invokestatic 1059, 3) := by decide +kernel
theorem dJ0_checkIndex_df160_8 : decode cJ0_checkIndex_df160 8 = .ok (.pop, 1) := by decide +kernel
theorem dJ0_checkIndex_df160_9 : decode cJ0_checkIndex_df160 9 = .ok (.return_, 1) := by decide +kernel
theorem dJ1_charAt_3b067_0 : decode cJ1_charAt_3b067 0 = .ok (.iload_n 1, 1) := by decide +kernel
theorem dJ1_charAt_3b067_1 : decode cJ1_charAt_3b067 1 = .ok (.aload_n 0, 1) := by decide +kernel
theorem dJ1_charAt_3b067_2 : decode cJ1_charAt_3b067 2 = .ok (.arraylength, 1) := by decide +kernel
theorem dJ1_charAt_3b067_3 : decode cJ1_charAt_3b067 3 = .ok (.invokestatic 9, 3) := by decide +kernel
theorem dJ1_charAt_3b067_6 : decode cJ1_charAt_3b067 6 = .ok (.aload_n 0, 1) := by decide +kernel
theorem dJ1_charAt_3b067_7 : decode cJ1_charAt_3b067 7 = .ok (.iload_n 1, 1) := by decide +kernel
theorem dJ1_charAt_3b067_8 : decode cJ1_charAt_3b067 8 = .ok (.baload, 1) := by decide +kernel
theorem dJ1_charAt_3b067_9 : decode cJ1_charAt_3b067 9 = .ok (.sipush 255, 3) := by decide +kernel
theorem dJ1_charAt_3b067_12 : decode cJ1_charAt_3b067 12 = .ok (.iand, 1) := by decide +kernel
theorem dJ1_charAt_3b067_13 : decode cJ1_charAt_3b067 13 = .ok (.i2c, 1) := by decide +kernel
theorem dJ1_charAt_3b067_14 : decode cJ1_charAt_3b067 14 = .ok (.ireturn, 1) := by decide +kernel
theorem dJ0_charAt_5068e_0 : decode cJ0_charAt_5068e 0 = .ok (.aload_n 0, 1) := by decide +kernel
theorem dJ0_charAt_5068e_1 : decode cJ0_charAt_5068e 1 = .ok (.invokevirtual 492, 3) := by decide +kernel
theorem dJ0_charAt_5068e_4 : decode cJ0_charAt_5068e 4 = .ok (.ifCond .eq 12, 3) := by decide +kernel
theorem dJ0_charAt_5068e_7 : decode cJ0_charAt_5068e 7 = .ok (.aload_n 0, 1) := by decide +kernel
theorem dJ0_charAt_5068e_8 : decode cJ0_charAt_5068e 8 = .ok (.getfield 9, 3) := by decide +kernel
theorem dJ0_charAt_5068e_11 : decode cJ0_charAt_5068e 11 = .ok (.iload_n 1, 1) := by decide +kernel
theorem dJ0_charAt_5068e_12 : decode cJ0_charAt_5068e 12 = .ok (.invokestatic 495, 3) := by decide +kernel
theorem dJ0_charAt_5068e_15 : decode cJ0_charAt_5068e 15 = .ok (.ireturn, 1) := by decide +kernel
theorem dJ0_charAt_5068e_16 : decode cJ0_charAt_5068e 16 = .ok (.aload_n 0, 1) := by decide +kernel
theorem dJ0_charAt_5068e_17 : decode cJ0_charAt_5068e 17 = .ok (.getfield 9, 3) := by decide +kernel
theorem dJ0_charAt_5068e_20 : decode cJ0_charAt_5068e 20 = .ok (.iload_n 1, 1) := by decide +kernel
theorem dJ0_charAt_5068e_21 : decode cJ0_charAt_5068e 21 = .ok (.invokestatic 498, 3) := by decide +kernel
theorem dJ0_charAt_5068e_24 : decode cJ0_charAt_5068e 24 = .ok (.ireturn, 1) := by decide +kernel
theorem dJ1_canEncode_9a6ad_0 : decode cJ1_canEncode_9a6ad 0 = .ok (.iload_n 0, 1) := by decide +kernel
theorem dJ1_canEncode_9a6ad_1 : decode cJ1_canEncode_9a6ad 1 = .ok (.ifCond .lt 14, 3) := by decide +kernel
theorem dJ1_canEncode_9a6ad_4 : decode cJ1_canEncode_9a6ad 4 = .ok (.iload_n 0, 1) := by decide +kernel
theorem dJ1_canEncode_9a6ad_5 : decode cJ1_canEncode_9a6ad 5 = .ok (.sipush 255, 3) := by decide +kernel
theorem dJ1_canEncode_9a6ad_8 : decode cJ1_canEncode_9a6ad 8 = .ok (.if_icmp .gt 7, 3) := by decide +kernel
theorem dJ1_canEncode_9a6ad_11 : decode cJ1_canEncode_9a6ad 11 = .ok (.iconst 1, 1) := by decide +kernel
theorem dJ1_canEncode_9a6ad_12 : decode cJ1_canEncode_9a6ad 12 = .ok (.goto 4, 3) := by decide +kernel
theorem dJ1_canEncode_9a6ad_15 : decode cJ1_canEncode_9a6ad 15 = .ok (.iconst 0, 1) := by decide +kernel
theorem dJ1_canEncode_9a6ad_16 : decode cJ1_canEncode_9a6ad 16 = .ok (.ireturn, 1) := by decide +kernel
theorem dJ1_indexOfChar_4cfef_0 : decode cJ1_indexOfChar_4cfef 0 = .ok (.iload_n 1, 1) := by decide +kernel
theorem dJ1_indexOfChar_4cfef_1 : decode cJ1_indexOfChar_4cfef 1 = .ok (.i2b, 1) := by decide +kernel
theorem dJ1_indexOfChar_4cfef_2 : decode cJ1_indexOfChar_4cfef 2 = .ok (.istore 4, 2) := by decide +kernel
theorem dJ1_indexOfChar_4cfef_4 : decode cJ1_indexOfChar_4cfef 4 = .ok (.iload_n 2, 1) := by decide +kernel
theorem dJ1_indexOfChar_4cfef_5 : decode cJ1_indexOfChar_4cfef 5 = .ok (.istore 5, 2) := by decide +kernel
theorem dJ1_indexOfChar_4cfef_7 : decode cJ1_indexOfChar_4cfef 7 = .ok (.iload 5, 2) := by decide +kernel
theorem dJ1_indexOfChar_4cfef_9 : decode cJ1_indexOfChar_4cfef 9 = .ok (.iload_n 3, 1) := by decide +kernel
theorem dJ1_indexOfChar_4cfef_10 : decode cJ1_indexOfChar_4cfef 10 = .ok (.if_icmp .ge 21, 3) := by decide +kernel
theorem dJ1_indexOfChar_4cfef_13 : decode cJ1_indexOfChar_4cfef 13 = .ok (.aload_n 0, 1) := by decide +kernel
theorem dJ1_indexOfChar_4cfef_14 : decode cJ1_indexOfChar_4cfef 14 = .ok (.iload 5, 2) := by decide +kernel
theorem dJ1_indexOfChar_4cfef_16 : decode cJ1_indexOfChar_4cfef 16 = .ok (.baload, 1) := by decide +kernel
theorem dJ1_indexOfChar_4cfef_17 : decode cJ1_indexOfChar_4cfef 17 = .ok (.iload 4, 2) := by decide +kernel
theorem dJ1_indexOfChar_4cfef_19 : decode cJ1_indexOfChar_4cfef 19 = .ok (.if_icmp .ne 6, 3) := by decide +kernel
theorem dJ1_indexOfChar_4cfef_22 : decode cJ1_indexOfChar_4cfef 22 = .ok (.iload 5, 2) := by decide +kernel
theorem dJ1_indexOfChar_4cfef_24 : decode cJ1_indexOfChar_4cfef 24 = .ok (.ireturn, 1) := by decide +kernel
theorem dJ1_indexOfChar_4cfef_25 : decode cJ1_indexOfChar_4cfef 25 = .ok (.iinc 5 1, 3) := by decide +kernel
theorem dJ1_indexOfChar_4cfef_28 : decode cJ1_indexOfChar_4cfef 28 = .ok (.goto (-21), 3) := by decide +kernel
theorem dJ1_indexOfChar_4cfef_31 : decode cJ1_indexOfChar_4cfef 31 = .ok (.iconst (-1), 1) := by decide +kernel
theorem dJ1_indexOfChar_4cfef_32 : decode cJ1_indexOfChar_4cfef 32 = .ok (.ireturn, 1) := by decide +kernel
theorem dJ1_indexOf_4cfef_0 : decode cJ1_indexOf_4cfef 0 = .ok (.iload_n 1, 1) := by decide +kernel
theorem dJ1_indexOf_4cfef_1 : decode cJ1_indexOf_4cfef 1 = .ok (.invokestatic 88, 3) := by decide +kernel
theorem dJ1_indexOf_4cfef_4 : decode cJ1_indexOf_4cfef 4 = .ok (.ifCond .ne 5, 3) := by decide +kernel
theorem dJ1_indexOf_4cfef_7 : decode cJ1_indexOf_4cfef 7 = .ok (.iconst (-1), 1) := by decide +kernel
theorem dJ1_indexOf_4cfef_8 : decode cJ1_indexOf_4cfef 8 = .ok (.ireturn, 1) := by decide +kernel
theorem dJ1_indexOf_4cfef_9 : decode cJ1_indexOf_4cfef 9 = .ok (.iload_n 2, 1) := by decide +kernel
theorem dJ1_indexOf_4cfef_10 : decode cJ1_indexOf_4cfef 10 = .ok (.iconst 0, 1) := by decide +kernel
theorem dJ1_indexOf_4cfef_11 : decode cJ1_indexOf_4cfef 11 = .ok (.invokestatic 92, 3) := by decide +kernel
theorem dJ1_indexOf_4cfef_14 : decode cJ1_indexOf_4cfef 14 = .ok (.istore_n 2, 1) := by decide +kernel
theorem dJ1_indexOf_4cfef_15 : decode cJ1_indexOf_4cfef 15 = .ok (.iload_n 3, 1) := by decide +kernel
theorem dJ1_indexOf_4cfef_16 : decode cJ1_indexOf_4cfef 16 = .ok (.aload_n 0, 1) := by decide +kernel
theorem dJ1_indexOf_4cfef_17 : decode cJ1_indexOf_4cfef 17 = .ok (.arraylength, 1) := by decide +kernel
theorem dJ1_indexOf_4cfef_18 : decode cJ1_indexOf_4cfef 18 = .ok (.invokestatic 38, 3) := by decide +kernel
theorem dJ1_indexOf_4cfef_21 : decode cJ1_indexOf_4cfef 21 = .ok (.istore_n 3, 1) := by decide +kernel
theorem dJ1_indexOf_4cfef_22 : decode cJ1_indexOf_4cfef 22 = .ok (.iload_n 2, 1) := by decide +kernel
theorem dJ1_indexOf_4cfef_23 : decode cJ1_indexOf_4cfef 23 = .ok (.iload_n 3, 1) := by decide +kernel
theorem dJ1_indexOf_4cfef_24 : decode cJ1_indexOf_4cfef 24 = .ok (.if_icmp .lt 5, 3) := by decide +kernel
theorem dJ1_indexOf_4cfef_27 : decode cJ1_indexOf_4cfef 27 = .ok (.iconst (-1), 1) := by decide +kernel
theorem dJ1_indexOf_4cfef_28 : decode cJ1_indexOf_4cfef 28 = .ok (.ireturn, 1) := by decide +kernel
theorem dJ1_indexOf_4cfef_29 : decode cJ1_indexOf_4cfef 29 = .ok (.aload_n 0, 1) := by decide +kernel
theorem dJ1_indexOf_4cfef_30 : decode cJ1_indexOf_4cfef 30 = .ok (.iload_n 1, 1) := by decide +kernel
theorem dJ1_indexOf_4cfef_31 : decode cJ1_indexOf_4cfef 31 = .ok (.iload_n 2, 1) := by decide +kernel
theorem dJ1_indexOf_4cfef_32 : decode cJ1_indexOf_4cfef 32 = .ok (.iload_n 3, 1) := by decide +kernel
theorem dJ1_indexOf_4cfef_33 : decode cJ1_indexOf_4cfef 33 = .ok (.invokestatic 95, 3) := by decide +kernel
theorem dJ1_indexOf_4cfef_36 : decode cJ1_indexOf_4cfef 36 = .ok (.ireturn, 1) := by decide +kernel
theorem dJ0_indexOf_7cf53_0 : decode cJ0_indexOf_7cf53 0 = .ok (.aload_n 0, 1) := by decide +kernel
theorem dJ0_indexOf_7cf53_1 : decode cJ0_indexOf_7cf53 1 = .ok (.invokevirtual 492, 3) := by decide +kernel
theorem dJ0_indexOf_7cf53_4 : decode cJ0_indexOf_7cf53 4 = .ok (.ifCond .eq 19, 3) := by decide +kernel
theorem dJ0_indexOf_7cf53_7 : decode cJ0_indexOf_7cf53 7 = .ok (.aload_n 0, 1) := by decide +kernel
theorem dJ0_indexOf_7cf53_8 : decode cJ0_indexOf_7cf53 8 = .ok (.getfield 9, 3) := by decide +kernel
theorem dJ0_indexOf_7cf53_11 : decode cJ0_indexOf_7cf53 11 = .ok (.iload_n 1, 1) := by decide +kernel
theorem dJ0_indexOf_7cf53_12 : decode cJ0_indexOf_7cf53 12 = .ok (.iload_n 2, 1) := by decide +kernel
theorem dJ0_indexOf_7cf53_13 : decode cJ0_indexOf_7cf53 13 = .ok (.aload_n 0, 1) := by decide +kernel
theorem dJ0_indexOf_7cf53_14 : decode cJ0_indexOf_7cf53 14 = .ok (.invokevirtual 505, 3) := by decide +kernel
theorem dJ0_indexOf_7cf53_17 : decode cJ0_indexOf_7cf53 17 = .ok (.invokestatic 637, 3) := by decide +kernel
theorem dJ0_indexOf_7cf53_20 : decode cJ0_indexOf_7cf53 20 = .ok (.goto 16, 3) := by decide +kernel
theorem dJ0_indexOf_7cf53_23 : decode cJ0_indexOf_7cf53 23 = .ok (.aload_n 0, 1) := by decide +kernel
theorem dJ0_indexOf_7cf53_24 : decode cJ0_indexOf_7cf53 24 = .ok (.getfield 9, 3) := by decide +kernel
theorem dJ0_indexOf_7cf53_27 : decode cJ0_indexOf_7cf53 27 = .ok (.iload_n 1, 1) := by decide +kernel
theorem dJ0_indexOf_7cf53_28 : decode cJ0_indexOf_7cf53 28 = .ok (.iload_n 2, 1) := by decide +kernel
theorem dJ0_indexOf_7cf53_29 : decode cJ0_indexOf_7cf53 29 = .ok (.aload_n 0, 1) := by decide +kernel
theorem dJ0_indexOf_7cf53_30 : decode cJ0_indexOf_7cf53 30 = .ok (.invokevirtual 505, 3) := by decide +kernel
theorem dJ0_indexOf_7cf53_33 : decode cJ0_indexOf_7cf53 33 = .ok (.invokestatic 640, 3) := by decide +kernel
theorem dJ0_indexOf_7cf53_36 : decode cJ0_indexOf_7cf53 36 = .ok (.ireturn, 1) := by decide +kernel
theorem dJ0_indexOf_0f7a4_0 : decode cJ0_indexOf_0f7a4 0 = .ok (.aload_n 0, 1) := by decide +kernel
theorem dJ0_indexOf_0f7a4_1 : decode cJ0_indexOf_0f7a4 1 = .ok (.iload_n 1, 1) := by decide +kernel
theorem dJ0_indexOf_0f7a4_2 : decode cJ0_indexOf_0f7a4 2 = .ok (.iconst 0, 1) := by decide +kernel
theorem dJ0_indexOf_0f7a4_3 : decode cJ0_indexOf_0f7a4 3 = .ok (.invokevirtual 633, 3) := by decide +kernel
theorem dJ0_indexOf_0f7a4_6 : decode cJ0_indexOf_0f7a4 6 = .ok (.ireturn, 1) := by decide +kernel
theorem ckJ0_335 : CKB RJ0 335 yJ0_coder_7d493 cJ0_coder_7d493 1 (some .byte) 0 := ⟨(lw_gi 615 (by decide +kernel) rfl : Cond.code yJ0_coder_7d493 cJ0_coder_7d493 1 (some .byte) ∈ lw_g), (lw_gi 130 (by decide +kernel) rfl : Cond.initialized yJ0_coder_7d493.cls ∈ lw_g), by decide +kernel, by decide +kernel, (lw_gi 612 (by decide +kernel) rfl : Cond.methodLink RJ0 335 yJ0_coder_7d493 ∈ lw_g)⟩
theorem im_J0_coder_7d493 : Cond.instanceMethod yJ0_coder_7d493 ∈ lw_g := (lw_gi 613 (by decide +kernel) rfl : Cond.instanceMethod yJ0_coder_7d493 ∈ lw_g)
theorem se_J0_coder_7d493 : Cond.selects RJ0 yJ0_coder_7d493 yJ0_coder_7d493 ∈ lw_g := (lw_gi 614 (by decide +kernel) rfl : Cond.selects RJ0 yJ0_coder_7d493 yJ0_coder_7d493 ∈ lw_g)
theorem ckJ0_1059 : CKB RJ0 1059 yJ3_checkIndex_8e157 cJ3_checkIndex_8e157 3 (some .int) 3 := ⟨(lw_gi 707 (by decide +kernel) rfl : Cond.code yJ3_checkIndex_8e157 cJ3_checkIndex_8e157 3 (some .int) ∈ lw_g), (lw_gi 133 (by decide +kernel) rfl : Cond.initialized yJ3_checkIndex_8e157.cls ∈ lw_g), by decide +kernel, by decide +kernel, (lw_gi 705 (by decide +kernel) rfl : Cond.methodLink RJ0 1059 yJ3_checkIndex_8e157 ∈ lw_g)⟩
theorem sm_J3_checkIndex_8e157 : Cond.static yJ3_checkIndex_8e157 ∈ lw_g := (lw_gi 706 (by decide +kernel) rfl : Cond.static yJ3_checkIndex_8e157 ∈ lw_g)
theorem ckJ1_9 : CKB RJ1 9 yJ0_checkIndex_df160 cJ0_checkIndex_df160 2 none 2 := ⟨(lw_gi 704 (by decide +kernel) rfl : Cond.code yJ0_checkIndex_df160 cJ0_checkIndex_df160 2 none ∈ lw_g), (lw_gi 130 (by decide +kernel) rfl : Cond.initialized yJ0_checkIndex_df160.cls ∈ lw_g), by decide +kernel, by decide +kernel, (lw_gi 702 (by decide +kernel) rfl : Cond.methodLink RJ1 9 yJ0_checkIndex_df160 ∈ lw_g)⟩
theorem sm_J0_checkIndex_df160 : Cond.static yJ0_checkIndex_df160 ∈ lw_g := (lw_gi 703 (by decide +kernel) rfl : Cond.static yJ0_checkIndex_df160 ∈ lw_g)
theorem ckJ0_492 : CKB RJ0 492 yJ0_isLatin1_aae02 cJ0_isLatin1_aae02 1 (some .boolean) 0 := ⟨(lw_gi 605 (by decide +kernel) rfl : Cond.code yJ0_isLatin1_aae02 cJ0_isLatin1_aae02 1 (some .boolean) ∈ lw_g), (lw_gi 130 (by decide +kernel) rfl : Cond.initialized yJ0_isLatin1_aae02.cls ∈ lw_g), by decide +kernel, by decide +kernel, (lw_gi 602 (by decide +kernel) rfl : Cond.methodLink RJ0 492 yJ0_isLatin1_aae02 ∈ lw_g)⟩
theorem im_J0_isLatin1_aae02 : Cond.instanceMethod yJ0_isLatin1_aae02 ∈ lw_g := (lw_gi 603 (by decide +kernel) rfl : Cond.instanceMethod yJ0_isLatin1_aae02 ∈ lw_g)
theorem se_J0_isLatin1_aae02 : Cond.selects RJ0 yJ0_isLatin1_aae02 yJ0_isLatin1_aae02 ∈ lw_g := (lw_gi 604 (by decide +kernel) rfl : Cond.selects RJ0 yJ0_isLatin1_aae02 yJ0_isLatin1_aae02 ∈ lw_g)
theorem ckJ0_495 : CKB RJ0 495 yJ1_charAt_3b067 cJ1_charAt_3b067 2 (some .char) 2 := ⟨(lw_gi 701 (by decide +kernel) rfl : Cond.code yJ1_charAt_3b067 cJ1_charAt_3b067 2 (some .char) ∈ lw_g), (lw_gi 131 (by decide +kernel) rfl : Cond.initialized yJ1_charAt_3b067.cls ∈ lw_g), by decide +kernel, by decide +kernel, (lw_gi 699 (by decide +kernel) rfl : Cond.methodLink RJ0 495 yJ1_charAt_3b067 ∈ lw_g)⟩
theorem sm_J1_charAt_3b067 : Cond.static yJ1_charAt_3b067 ∈ lw_g := (lw_gi 700 (by decide +kernel) rfl : Cond.static yJ1_charAt_3b067 ∈ lw_g)
theorem ckJ1_88 : CKB RJ1 88 yJ1_canEncode_9a6ad cJ1_canEncode_9a6ad 1 (some .boolean) 1 := ⟨(lw_gi 621 (by decide +kernel) rfl : Cond.code yJ1_canEncode_9a6ad cJ1_canEncode_9a6ad 1 (some .boolean) ∈ lw_g), (lw_gi 131 (by decide +kernel) rfl : Cond.initialized yJ1_canEncode_9a6ad.cls ∈ lw_g), by decide +kernel, by decide +kernel, (lw_gi 619 (by decide +kernel) rfl : Cond.methodLink RJ1 88 yJ1_canEncode_9a6ad ∈ lw_g)⟩
theorem sm_J1_canEncode_9a6ad : Cond.static yJ1_canEncode_9a6ad ∈ lw_g := (lw_gi 620 (by decide +kernel) rfl : Cond.static yJ1_canEncode_9a6ad ∈ lw_g)
theorem ckJ1_95 : CKB RJ1 95 yJ1_indexOfChar_4cfef cJ1_indexOfChar_4cfef 6 (some .int) 4 := ⟨(lw_gi 628 (by decide +kernel) rfl : Cond.code yJ1_indexOfChar_4cfef cJ1_indexOfChar_4cfef 6 (some .int) ∈ lw_g), (lw_gi 131 (by decide +kernel) rfl : Cond.initialized yJ1_indexOfChar_4cfef.cls ∈ lw_g), by decide +kernel, by decide +kernel, (lw_gi 626 (by decide +kernel) rfl : Cond.methodLink RJ1 95 yJ1_indexOfChar_4cfef ∈ lw_g)⟩
theorem sm_J1_indexOfChar_4cfef : Cond.static yJ1_indexOfChar_4cfef ∈ lw_g := (lw_gi 627 (by decide +kernel) rfl : Cond.static yJ1_indexOfChar_4cfef ∈ lw_g)
theorem ckJ0_505 : CKB RJ0 505 yJ0_length_8abf5 cJ0_length_8abf5 1 (some .int) 0 := ⟨(lw_gi 611 (by decide +kernel) rfl : Cond.code yJ0_length_8abf5 cJ0_length_8abf5 1 (some .int) ∈ lw_g), (lw_gi 130 (by decide +kernel) rfl : Cond.initialized yJ0_length_8abf5.cls ∈ lw_g), by decide +kernel, by decide +kernel, (lw_gi 608 (by decide +kernel) rfl : Cond.methodLink RJ0 505 yJ0_length_8abf5 ∈ lw_g)⟩
theorem im_J0_length_8abf5 : Cond.instanceMethod yJ0_length_8abf5 ∈ lw_g := (lw_gi 609 (by decide +kernel) rfl : Cond.instanceMethod yJ0_length_8abf5 ∈ lw_g)
theorem se_J0_length_8abf5 : Cond.selects RJ0 yJ0_length_8abf5 yJ0_length_8abf5 ∈ lw_g := (lw_gi 610 (by decide +kernel) rfl : Cond.selects RJ0 yJ0_length_8abf5 yJ0_length_8abf5 ∈ lw_g)
theorem ckJ0_637 : CKB RJ0 637 yJ1_indexOf_4cfef cJ1_indexOf_4cfef 4 (some .int) 4 := ⟨(lw_gi 618 (by decide +kernel) rfl : Cond.code yJ1_indexOf_4cfef cJ1_indexOf_4cfef 4 (some .int) ∈ lw_g), (lw_gi 131 (by decide +kernel) rfl : Cond.initialized yJ1_indexOf_4cfef.cls ∈ lw_g), by decide +kernel, by decide +kernel, (lw_gi 616 (by decide +kernel) rfl : Cond.methodLink RJ0 637 yJ1_indexOf_4cfef ∈ lw_g)⟩
theorem sm_J1_indexOf_4cfef : Cond.static yJ1_indexOf_4cfef ∈ lw_g := (lw_gi 617 (by decide +kernel) rfl : Cond.static yJ1_indexOf_4cfef ∈ lw_g)
theorem ckJ0_633 : CKB RJ0 633 yJ0_indexOf_7cf53 cJ0_indexOf_7cf53 3 (some .int) 2 := ⟨(lw_gi 601 (by decide +kernel) rfl : Cond.code yJ0_indexOf_7cf53 cJ0_indexOf_7cf53 3 (some .int) ∈ lw_g), (lw_gi 130 (by decide +kernel) rfl : Cond.initialized yJ0_indexOf_7cf53.cls ∈ lw_g), by decide +kernel, by decide +kernel, (lw_gi 598 (by decide +kernel) rfl : Cond.methodLink RJ0 633 yJ0_indexOf_7cf53 ∈ lw_g)⟩
theorem im_J0_indexOf_7cf53 : Cond.instanceMethod yJ0_indexOf_7cf53 ∈ lw_g := (lw_gi 599 (by decide +kernel) rfl : Cond.instanceMethod yJ0_indexOf_7cf53 ∈ lw_g)
theorem se_J0_indexOf_7cf53 : Cond.selects RJ0 yJ0_indexOf_7cf53 yJ0_indexOf_7cf53 ∈ lw_g := (lw_gi 600 (by decide +kernel) rfl : Cond.selects RJ0 yJ0_indexOf_7cf53 yJ0_indexOf_7cf53 ∈ lw_g)
set_option maxHeartbeats 4000000 in
set_option maxRecDepth 100000 in
theorem j_coder {D : va_G} {ad : Nat → Nat} {cA : Nat → ClassId} {X : XT} {i : Nat} (hi : i < 7) : MetS (wX D ad cA) yJ0_coder_7d493 cJ0_coder_7d493 1 (some .byte) 0 0 [.ref (900 + i)] X (fun r X' => X' = X ∧ ∃ u : Int, r = some (.int (iI u)) ∧ u = 0) := by
  refine MetS.mk (own := RJ0) (by decide +kernel) rfl (nle rfl) (fun E C HS hQ => ?_)
  refine Wx_lv (lv' := [(0, .ref (900 + i))]) rfl ?_
  refine x_getsC C HS (lw_gi 606 (by decide +kernel) rfl : Cond.fieldLink RJ0 38 RJ0 "COMPACT_STRINGS" "Z" ∈ lw_g) dJ0_coder_7d493_0 ?_
  refine x_if_eq (tgt := 13) C dJ0_coder_7d493_3 (by decide) ⟨by omega, by omega⟩ (fun h1 => by exfalso; omega) (fun h1 => ?_)
  refine x_aload_n (i := 0) C dJ0_coder_7d493_6 rfl rfl ?_
  refine x_strC C HS hi (lw_gi 1962 (by decide +kernel) rfl : Cond.fieldLink RJ0 15 RJ0 "coder" "B" ∈ lw_g) dJ0_coder_7d493_7 ?_
  refine x_goto (tgt := 14) C dJ0_coder_7d493_10 (by decide) ?_
  exact x_nret C hQ (nrr_b (by omega) (by omega)) dJ0_coder_7d493_14 (⟨rfl, _, rfl, rfl⟩)
set_option maxHeartbeats 4000000 in
set_option maxRecDepth 100000 in
theorem j_isLatin1 {D : va_G} {ad : Nat → Nat} {cA : Nat → ClassId} {X : XT} {i : Nat} (hi : i < 7) : MetS (wX D ad cA) yJ0_isLatin1_aae02 cJ0_isLatin1_aae02 1 (some .boolean) 0 0 [.ref (900 + i)] X (fun r X' => X' = X ∧ ∃ u : Int, r = some (.int (iI u)) ∧ u = 1) := by
  refine MetS.mk (own := RJ0) (by decide +kernel) rfl (nle rfl) (fun E C HS hQ => ?_)
  refine Wx_lv (lv' := [(0, .ref (900 + i))]) rfl ?_
  refine x_getsC C HS (lw_gi 606 (by decide +kernel) rfl : Cond.fieldLink RJ0 38 RJ0 "COMPACT_STRINGS" "Z" ∈ lw_g) dJ0_isLatin1_aae02_0 ?_
  refine x_if_eq (tgt := 17) C dJ0_isLatin1_aae02_3 (by decide) ⟨by omega, by omega⟩ (fun h1 => by exfalso; omega) (fun h1 => ?_)
  refine x_aload_n (i := 0) C dJ0_isLatin1_aae02_6 rfl rfl ?_
  refine x_strC C HS hi (lw_gi 1962 (by decide +kernel) rfl : Cond.fieldLink RJ0 15 RJ0 "coder" "B" ∈ lw_g) dJ0_isLatin1_aae02_7 ?_
  refine x_if_ne (tgt := 17) C dJ0_isLatin1_aae02_10 (by decide) ⟨by omega, by omega⟩ (fun h2 => by exfalso; omega) (fun h2 => ?_)
  refine x_iconst C dJ0_isLatin1_aae02_13 ?_
  refine x_goto (tgt := 18) C dJ0_isLatin1_aae02_14 (by decide) ?_
  exact x_zret C hQ (by omega) dJ0_isLatin1_aae02_18 (⟨rfl, _, rfl, rfl⟩)
set_option maxHeartbeats 4000000 in
set_option maxRecDepth 100000 in
theorem j_length {D : va_G} {ad : Nat → Nat} {cA : Nat → ClassId} {X : XT} {i : Nat} (hi : i < 7) : MetS (wX D ad cA) yJ0_length_8abf5 cJ0_length_8abf5 1 (some .int) 1 20 [.ref (900 + i)] X (fun r X' => X' = X ∧ ∃ u : Int, r = some (.int (iI u)) ∧ u = ((tzL.getD i 0 : Nat) : Int)) := by
  refine MetS.mk (own := RJ0) (by decide +kernel) rfl (nle rfl) (fun E C HS hQ => ?_)
  refine Wx_lv (lv' := [(0, .ref (900 + i))]) rfl ?_
  refine x_aload_n (i := 0) C dJ0_length_8abf5_0 rfl rfl ?_
  refine x_strV C HS hi (lw_gi 1963 (by decide +kernel) rfl : Cond.fieldLink RJ0 9 RJ0 "value" "[B" ∈ lw_g) dJ0_length_8abf5_1 ?_
  refine x_strN C HS hi dJ0_length_8abf5_4 ?_
  refine x_gen (fun v1 ev1 => ?_)
  have bv1 := tzL_bd (i) hi
  refine x_aload_n (i := 0) C dJ0_length_8abf5_5 rfl rfl ?_
  refine x_callST (As := []) C HS hi (by exact (j_coder (i := i) hi)) ckJ0_335 im_J0_coder_7d493 se_J0_coder_7d493 rfl rfl (nle rfl) (by exact ⟨nle rfl, nle rfl⟩) dJ0_length_8abf5_6 ?_
  rintro _ Xv2 ⟨hxv2, v2, rfl, ev2⟩
  rw [hxv2]
  refine Wx_st (st' := [.int (iI (v2)), .int (iI (v1))]) rfl ?_
  refine x_ishr C dJ0_length_8abf5_9 ?_
  refine x_topi (fun v3 rv3 ev3 => ?_)
  unfold inR at rv3
  have yv3 := ishr0 (v := v1) (by omega) (by omega) rv3 (by rw [ev3, ev2])
  exact x_iret C hQ dJ0_length_8abf5_10 (⟨rfl, _, rfl, by omega⟩)
set_option maxHeartbeats 4000000 in
set_option maxRecDepth 100000 in
theorem j_pciN {D : va_G} {ad : Nat → Nat} {cA : Nat → ClassId} {X : XT} {k n : Int} (k0 : 0 ≤ k) (k1 : k < n) (n1 : n ≤ 255) : MetS (wX D ad cA) yJ3_checkIndex_8e157 cJ3_checkIndex_8e157 3 (some .int) 0 0 [.int (iI (k)), .int (iI (n)), .null] X (fun r X' => X' = X ∧ ∃ u : Int, r = some (.int (iI u)) ∧ u = k) := by
  refine MetS.mk (own := RJ3) (by decide +kernel) rfl (nle rfl) (fun E C HS hQ => ?_)
  refine Wx_lv (lv' := [(0, .int (iI (k))), (1, .int (iI (n))), (2, .null)]) rfl ?_
  refine x_iload_n (i := 0) C dJ3_checkIndex_8e157_0 rfl rfl ?_
  refine x_if_lt (tgt := 9) C dJ3_checkIndex_8e157_1 (by decide) ⟨by omega, by omega⟩ (fun h1 => by exfalso; omega) (fun h1 => ?_)
  refine x_iload_n (i := 0) C dJ3_checkIndex_8e157_4 rfl rfl ?_
  refine x_iload_n (i := 1) C dJ3_checkIndex_8e157_5 rfl rfl ?_
  refine x_icmp_lt (tgt := 16) C dJ3_checkIndex_8e157_6 (by decide) ⟨by omega, by omega⟩ ⟨by omega, by omega⟩ (fun h2 => ?_) (fun h2 => by exfalso; omega)
  refine x_iload_n (i := 0) C dJ3_checkIndex_8e157_16 rfl rfl ?_
  exact x_iret C hQ dJ3_checkIndex_8e157_17 (⟨rfl, _, rfl, rfl⟩)
set_option maxHeartbeats 4000000 in
set_option maxRecDepth 100000 in
theorem j_pciR {D : va_G} {ad : Nat → Nat} {cA : Nat → ClassId} {X : XT} {k n : Int} (k0 : 0 ≤ k) (k1 : k < n) (n1 : n ≤ 255) : MetS (wX D ad cA) yJ3_checkIndex_8e157 cJ3_checkIndex_8e157 3 (some .int) 0 0 [.int (iI (k)), .int (iI (n)), .ref 920] X (fun r X' => X' = X ∧ ∃ u : Int, r = some (.int (iI u)) ∧ u = k) := by
  refine MetS.mk (own := RJ3) (by decide +kernel) rfl (nle rfl) (fun E C HS hQ => ?_)
  refine Wx_lv (lv' := [(0, .int (iI (k))), (1, .int (iI (n))), (2, .ref 920)]) rfl ?_
  refine x_iload_n (i := 0) C dJ3_checkIndex_8e157_0 rfl rfl ?_
  refine x_if_lt (tgt := 9) C dJ3_checkIndex_8e157_1 (by decide) ⟨by omega, by omega⟩ (fun h1 => by exfalso; omega) (fun h1 => ?_)
  refine x_iload_n (i := 0) C dJ3_checkIndex_8e157_4 rfl rfl ?_
  refine x_iload_n (i := 1) C dJ3_checkIndex_8e157_5 rfl rfl ?_
  refine x_icmp_lt (tgt := 16) C dJ3_checkIndex_8e157_6 (by decide) ⟨by omega, by omega⟩ ⟨by omega, by omega⟩ (fun h2 => ?_) (fun h2 => by exfalso; omega)
  refine x_iload_n (i := 0) C dJ3_checkIndex_8e157_16 rfl rfl ?_
  exact x_iret C hQ dJ3_checkIndex_8e157_17 (⟨rfl, _, rfl, rfl⟩)
set_option maxHeartbeats 4000000 in
set_option maxRecDepth 100000 in
theorem j_checkIndex {D : va_G} {ad : Nat → Nat} {cA : Nat → ClassId} {X : XT} {k n : Int} (k0 : 0 ≤ k) (k1 : k < n) (n1 : n ≤ 255) : MetS (wX D ad cA) yJ0_checkIndex_df160 cJ0_checkIndex_df160 2 none 1 22 [.int (iI (k)), .int (iI (n))] X (fun r X' => X' = X ∧ r = none) := by
  refine MetS.mk (own := RJ0) (by decide +kernel) rfl (nle rfl) (fun E C HS hQ => ?_)
  refine Wx_lv (lv' := [(0, .int (iI (k))), (1, .int (iI (n)))]) rfl ?_
  refine x_iload_n (i := 0) C dJ0_checkIndex_df160_0 rfl rfl ?_
  refine x_iload_n (i := 1) C dJ0_checkIndex_df160_1 rfl rfl ?_
  refine x_getsF C HS (lw_gi 647 (by decide +kernel) rfl : Cond.fieldLink RJ0 1053 RJ3 "SIOOBE_FORMATTER" fmtD ∈ lw_g) dJ0_checkIndex_df160_2 ?_ ?_
  · refine x_callTT (As := [.int (iI (k)), .int (iI (n)), .null]) C HS (by exact (j_pciN (k := k) (n := n) (by omega) (by omega) (by omega))) ckJ0_1059 sm_J3_checkIndex_8e157 rfl rfl (nle rfl) (by exact ⟨nle rfl, nle rfl⟩) dJ0_checkIndex_df160_5 ?_
    rintro _ Xv1 ⟨hxv1, v1, rfl, ev1⟩
    rw [hxv1]
    refine Wx_st (st' := [.int (iI (v1))]) rfl ?_
    refine x_pop C dJ0_checkIndex_df160_8 rfl ?_
    exact x_vret C hQ dJ0_checkIndex_df160_9 (⟨rfl, rfl⟩)
  · refine x_callTT (As := [.int (iI (k)), .int (iI (n)), .ref 920]) C HS (by exact (j_pciR (k := k) (n := n) (by omega) (by omega) (by omega))) ckJ0_1059 sm_J3_checkIndex_8e157 rfl rfl (nle rfl) (by exact ⟨nle rfl, nle rfl⟩) dJ0_checkIndex_df160_5 ?_
    rintro _ Xv2 ⟨hxv2, v2, rfl, ev2⟩
    rw [hxv2]
    refine Wx_st (st' := [.int (iI (v2))]) rfl ?_
    refine x_pop C dJ0_checkIndex_df160_8 rfl ?_
    exact x_vret C hQ dJ0_checkIndex_df160_9 (⟨rfl, rfl⟩)
set_option maxHeartbeats 4000000 in
set_option maxRecDepth 100000 in
theorem j_latinAt {D : va_G} {ad : Nat → Nat} {cA : Nat → ClassId} {X : XT} {i : Nat} (hi : i < 7) {k : Int} (k0 : 0 ≤ k) (k1 : k < ((tzL.getD i 0 : Nat) : Int)) : MetS (wX D ad cA) yJ1_charAt_3b067 cJ1_charAt_3b067 2 (some .char) 2 43 [.ref (910 + i), .int (iI (k))] X (fun r X' => X' = X ∧ ∃ u : Int, r = some (.int (iI u)) ∧ u = sBy i k.toNat) := by
  refine MetS.mk (own := RJ1) (by decide +kernel) rfl (nle rfl) (fun E C HS hQ => ?_)
  refine Wx_lv (lv' := [(0, .ref (910 + i)), (1, .int (iI (k)))]) rfl ?_
  refine x_iload_n (i := 1) C dJ1_charAt_3b067_0 rfl rfl ?_
  refine x_aload_n (i := 0) C dJ1_charAt_3b067_1 rfl rfl ?_
  refine x_strN C HS hi dJ1_charAt_3b067_2 ?_
  refine x_gen (fun v1 ev1 => ?_)
  have bv1 := tzL_bd (i) hi
  refine x_callTT (As := [.int (iI (k)), .int (iI (v1))]) C HS (by exact (j_checkIndex (k := k) (n := v1) (by omega) (by omega) (by omega))) ckJ1_9 sm_J0_checkIndex_df160 rfl rfl (nle rfl) (by exact ⟨nle rfl, nle rfl⟩) dJ1_charAt_3b067_3 ?_
  rintro _ Xv2 ⟨hxv2, rfl⟩
  rw [hxv2]
  refine Wx_st (st' := []) rfl ?_
  refine x_aload_n (i := 0) C dJ1_charAt_3b067_6 rfl rfl ?_
  refine x_iload_n (i := 1) C dJ1_charAt_3b067_7 rfl rfl ?_
  refine x_strB C HS hi (by omega) (by omega) dJ1_charAt_3b067_8 ?_
  refine x_gen (fun v3 ev3 => ?_)
  have cv3 := tzL_bd (i) hi
  have bv3 := sBy_bd (i) hi (k).toNat (by omega)
  rw [← ev3] at bv3
  refine x_sipush C dJ1_charAt_3b067_9 (by decide) ?_
  refine x_iand C dJ1_charAt_3b067_12 ?_
  refine x_topi (fun v4 rv4 ev4 => ?_)
  unfold inR at rv4
  have bv4 := and_bd (m := 255) (by decide) (by decide) rv4 ev4
  have yv4 := and255 (v := v3) (by omega) (by omega) rv4 ev4
  refine x_i2c C dJ1_charAt_3b067_13 ?_
  refine x_topi (fun v5 rv5 ev5 => ?_)
  unfold inR at rv5
  have bv5 := i2c_bd rv5 ev5
  have zv5 := i2c_id (v := v4) (by omega) (by omega) rv5 ev5
  exact x_nret C hQ (nrr_c (by omega) (by omega)) dJ1_charAt_3b067_14 (⟨rfl, _, rfl, by omega⟩)
set_option maxHeartbeats 4000000 in
set_option maxRecDepth 100000 in
theorem j_charAt {D : va_G} {ad : Nat → Nat} {cA : Nat → ClassId} {X : XT} {i : Nat} (hi : i < 7) {k : Int} (k0 : 0 ≤ k) (k1 : k < ((tzL.getD i 0 : Nat) : Int)) : MetS (wX D ad cA) yJ0_charAt_5068e cJ0_charAt_5068e 2 (some .char) 4 85 [.ref (900 + i), .int (iI (k))] X (fun r X' => X' = X ∧ ∃ u : Int, r = some (.int (iI u)) ∧ u = sBy i k.toNat) := by
  refine MetS.mk (own := RJ0) (by decide +kernel) rfl (nle rfl) (fun E C HS hQ => ?_)
  refine Wx_lv (lv' := [(0, .ref (900 + i)), (1, .int (iI (k)))]) rfl ?_
  refine x_aload_n (i := 0) C dJ0_charAt_5068e_0 rfl rfl ?_
  refine x_callST (As := []) C HS hi (by exact (j_isLatin1 (i := i) hi)) ckJ0_492 im_J0_isLatin1_aae02 se_J0_isLatin1_aae02 rfl rfl (nle rfl) (by exact ⟨nle rfl, nle rfl⟩) dJ0_charAt_5068e_1 ?_
  rintro _ Xv1 ⟨hxv1, v1, rfl, ev1⟩
  rw [hxv1]
  refine Wx_st (st' := [.int (iI (v1))]) rfl ?_
  refine x_if_eq (tgt := 16) C dJ0_charAt_5068e_4 (by decide) ⟨by omega, by omega⟩ (fun h2 => by exfalso; omega) (fun h2 => ?_)
  refine x_aload_n (i := 0) C dJ0_charAt_5068e_7 rfl rfl ?_
  refine x_strV C HS hi (lw_gi 1963 (by decide +kernel) rfl : Cond.fieldLink RJ0 9 RJ0 "value" "[B" ∈ lw_g) dJ0_charAt_5068e_8 ?_
  refine x_iload_n (i := 1) C dJ0_charAt_5068e_11 rfl rfl ?_
  refine x_callTT (As := [.ref (910 + i), .int (iI (k))]) C HS (by exact (j_latinAt (i := i) hi (k := k) (by omega) (by omega))) ckJ0_495 sm_J1_charAt_3b067 rfl rfl (nle rfl) (by exact ⟨nle rfl, nle rfl⟩) dJ0_charAt_5068e_12 ?_
  rintro _ Xv3 ⟨hxv3, v3, rfl, ev3⟩
  rw [hxv3]
  have cv3 := tzL_bd (i) hi
  have bv3 := sBy_bd (i) hi (k).toNat (by omega)
  rw [← ev3] at bv3
  refine Wx_st (st' := [.int (iI (v3))]) rfl ?_
  exact x_nret C hQ (nrr_c (by omega) (by omega)) dJ0_charAt_5068e_15 (⟨rfl, _, rfl, by omega⟩)
set_option maxHeartbeats 4000000 in
set_option maxRecDepth 100000 in
theorem j_canEncode {D : va_G} {ad : Nat → Nat} {cA : Nat → ClassId} {X : XT} {c : Int} (c0 : 0 ≤ c) (c1 : c ≤ 255) : MetS (wX D ad cA) yJ1_canEncode_9a6ad cJ1_canEncode_9a6ad 1 (some .boolean) 0 0 [.int (iI (c))] X (fun r X' => X' = X ∧ ∃ u : Int, r = some (.int (iI u)) ∧ u = 1) := by
  refine MetS.mk (own := RJ1) (by decide +kernel) rfl (nle rfl) (fun E C HS hQ => ?_)
  refine Wx_lv (lv' := [(0, .int (iI (c)))]) rfl ?_
  refine x_iload_n (i := 0) C dJ1_canEncode_9a6ad_0 rfl rfl ?_
  refine x_if_lt (tgt := 15) C dJ1_canEncode_9a6ad_1 (by decide) ⟨by omega, by omega⟩ (fun h1 => by exfalso; omega) (fun h1 => ?_)
  refine x_iload_n (i := 0) C dJ1_canEncode_9a6ad_4 rfl rfl ?_
  refine x_sipush C dJ1_canEncode_9a6ad_5 (by decide) ?_
  refine x_icmp_gt (tgt := 15) C dJ1_canEncode_9a6ad_8 (by decide) ⟨by omega, by omega⟩ ⟨by omega, by omega⟩ (fun h2 => by exfalso; omega) (fun h2 => ?_)
  refine x_iconst C dJ1_canEncode_9a6ad_11 ?_
  refine x_goto (tgt := 16) C dJ1_canEncode_9a6ad_12 (by decide) ?_
  exact x_zret C hQ (by omega) dJ1_canEncode_9a6ad_16 (⟨rfl, _, rfl, rfl⟩)
def ixS (i : Nat) (c u : Int) : Prop := (u = -1 ∧ ∀ j : Nat, (j : Int) < ((tzL.getD i 0 : Nat) : Int) → sBy i j ≠ c) ∨ (0 ≤ u ∧ u < ((tzL.getD i 0 : Nat) : Int) ∧ sBy i u.toNat = c ∧ ∀ j : Nat, (j : Int) < u → sBy i j ≠ c)
set_option maxHeartbeats 4000000 in
set_option maxRecDepth 100000 in
theorem j_ixl {D : va_G} {ad : Nat → Nat} {cA : Nat → ClassId} {X : XT} {i : Nat} (hi : i < 7) {c d : Int} (hd : d = if c ≤ 127 then c else c - 256) (c0 : 0 ≤ c) (c1 : c ≤ 255) {E : ET} {rm : Room} (C : CX E (wX D ad cA) cJ1_indexOfChar_4cfef 6 RJ1 (some .int) rm) (HS : SE E (wX D ad cA)) (hQ : EQ E (wX D ad cA) (fun r X' => X' = X ∧ ∃ u : Int, r = some (.int (iI u)) ∧ ixS i c u)) : ∀ (n : Nat) (p : Int), ((tzL.getD i 0 : Nat) : Int) - p < n → 0 ≤ p → p ≤ ((tzL.getD i 0 : Nat) : Int) → (∀ j : Nat, (j : Int) < p → sBy i j ≠ c) → Wx E (wX D ad cA) 6 (PX (wX D ad cA) X) 7 [(5, .int (iI (p))), (4, .int (iI (d))), (0, .ref (910 + i)), (1, .int (iI (c))), (2, .int (iI (0))), (3, .int (iI (((tzL.getD i 0 : Nat) : Int))))] [] := by
  intro n
  induction n with
  | zero => intro p hn p0 p1 hp; exfalso; omega
  | succ n ih =>
    intro p hn p0 p1 hp
    have lb := tzL_bd i hi
    refine x_iload C dJ1_indexOfChar_4cfef_7 rfl ?_
    refine x_iload_n (i := 3) C dJ1_indexOfChar_4cfef_9 rfl rfl ?_
    refine x_icmp_ge (tgt := 31) C dJ1_indexOfChar_4cfef_10 (by decide) ⟨by omega, by omega⟩ ⟨by omega, by omega⟩ (fun h1 => ?_) (fun h1 => ?_)
    · refine x_iconst C dJ1_indexOfChar_4cfef_31 ?_
      exact x_iret C hQ dJ1_indexOfChar_4cfef_32 (⟨rfl, _, rfl, .inl ⟨rfl, fun j hj => hp j (by omega)⟩⟩)
    · refine x_aload_n (i := 0) C dJ1_indexOfChar_4cfef_13 rfl rfl ?_
      refine x_iload C dJ1_indexOfChar_4cfef_14 rfl ?_
      refine x_strB C HS hi (by omega) (by omega) dJ1_indexOfChar_4cfef_16 ?_
      refine x_gen (fun v2 ev2 => ?_)
      have cv2 := tzL_bd (i) hi
      have bv2 := sBy_bd (i) hi (p).toNat (by omega)
      rw [← ev2] at bv2
      refine x_iload C dJ1_indexOfChar_4cfef_17 rfl ?_
      refine x_icmp_ne (tgt := 25) C dJ1_indexOfChar_4cfef_19 (by decide) ⟨by omega, by omega⟩ ⟨by omega, by omega⟩ (fun h3 => ?_) (fun h3 => ?_)
      · refine x_iinc (lv' := [(5, .int (iI (p + 1))), (4, .int (iI (d))), (0, .ref (910 + i)), (1, .int (iI (c))), (2, .int (iI (0))), (3, .int (iI (((tzL.getD i 0 : Nat) : Int))))]) C dJ1_indexOfChar_4cfef_25 rfl (nlt rfl) rfl ?_
        refine x_goto (tgt := 7) C dJ1_indexOfChar_4cfef_28 (by decide) ?_
        refine Wx_pick [5, 4, 0, 1, 2, 3] ?_
        refine Wx_lv (lv' := [(5, .int (iI (p + 1))), (4, .int (iI (d))), (0, .ref (910 + i)), (1, .int (iI (c))), (2, .int (iI (0))), (3, .int (iI (((tzL.getD i 0 : Nat) : Int))))]) rfl ?_
        exact ih _ (by omega) (by omega) (by omega) (fun j hj => by
          by_cases ej : j = p.toNat
          · subst ej
            rw [← ev2]
            split at hd <;> omega
          · exact hp j (by omega))
      · refine x_iload C dJ1_indexOfChar_4cfef_22 rfl ?_
        exact x_iret C hQ dJ1_indexOfChar_4cfef_24 (⟨rfl, _, rfl, .inr ⟨by omega, by omega, by split at hd <;> omega, hp⟩⟩)
set_option maxHeartbeats 4000000 in
set_option maxRecDepth 100000 in
theorem j_ixc {D : va_G} {ad : Nat → Nat} {cA : Nat → ClassId} {X : XT} {i : Nat} (hi : i < 7) {c : Int} (c0 : 0 ≤ c) (c1 : c ≤ 255) : MetS (wX D ad cA) yJ1_indexOfChar_4cfef cJ1_indexOfChar_4cfef 6 (some .int) 0 0 [.ref (910 + i), .int (iI (c)), .int (iI (0)), .int (iI (((tzL.getD i 0 : Nat) : Int)))] X (fun r X' => X' = X ∧ ∃ u : Int, r = some (.int (iI u)) ∧ ixS i c u) := by
  have lb := tzL_bd i hi
  refine MetS.mk (own := RJ1) (by decide +kernel) rfl (nle rfl) (fun E C HS hQ => ?_)
  refine Wx_lv (lv' := [(0, .ref (910 + i)), (1, .int (iI (c))), (2, .int (iI (0))), (3, .int (iI (((tzL.getD i 0 : Nat) : Int))))]) rfl ?_
  refine x_iload_n (i := 1) C dJ1_indexOfChar_4cfef_0 rfl rfl ?_
  refine x_i2b C dJ1_indexOfChar_4cfef_1 ?_
  refine x_topi (fun v1 rv1 ev1 => ?_)
  unfold inR at rv1
  have bv1 := i2b_bd rv1 ev1
  have yv1 := i2b_c c0 c1 rv1 ev1
  refine x_istore (lv' := [(4, .int (iI (v1))), (0, .ref (910 + i)), (1, .int (iI (c))), (2, .int (iI (0))), (3, .int (iI (((tzL.getD i 0 : Nat) : Int))))]) C dJ1_indexOfChar_4cfef_2 (nlt rfl) rfl ?_
  refine x_iload_n (i := 2) C dJ1_indexOfChar_4cfef_4 rfl rfl ?_
  refine x_istore (lv' := [(5, .int (iI (0))), (4, .int (iI (v1))), (0, .ref (910 + i)), (1, .int (iI (c))), (2, .int (iI (0))), (3, .int (iI (((tzL.getD i 0 : Nat) : Int))))]) C dJ1_indexOfChar_4cfef_5 (nlt rfl) rfl ?_
  refine Wx_pick [5, 4, 0, 1, 2, 3] ?_
  refine Wx_lv (lv' := [(5, .int (iI (0))), (4, .int (iI (v1))), (0, .ref (910 + i)), (1, .int (iI (c))), (2, .int (iI (0))), (3, .int (iI (((tzL.getD i 0 : Nat) : Int))))]) rfl ?_
  exact j_ixl hi yv1 c0 c1 C HS hQ 12 0 (by omega) (by omega) (by omega) (fun j hj => by omega)
set_option maxHeartbeats 4000000 in
set_option maxRecDepth 100000 in
theorem j_ixL {D : va_G} {ad : Nat → Nat} {cA : Nat → ClassId} {X : XT} {i : Nat} (hi : i < 7) {c : Int} (c0 : 0 ≤ c) (c1 : c ≤ 255) : MetS (wX D ad cA) yJ1_indexOf_4cfef cJ1_indexOf_4cfef 4 (some .int) 1 40 [.ref (910 + i), .int (iI (c)), .int (iI (0)), .int (iI (((tzL.getD i 0 : Nat) : Int)))] X (fun r X' => X' = X ∧ ∃ u : Int, r = some (.int (iI u)) ∧ ixS i c u) := by
  have lb := tzL_bd i hi
  refine MetS.mk (own := RJ1) (by decide +kernel) rfl (nle rfl) (fun E C HS hQ => ?_)
  refine Wx_lv (lv' := [(0, .ref (910 + i)), (1, .int (iI (c))), (2, .int (iI (0))), (3, .int (iI (((tzL.getD i 0 : Nat) : Int))))]) rfl ?_
  refine x_iload_n (i := 1) C dJ1_indexOf_4cfef_0 rfl rfl ?_
  refine x_callTT (As := [.int (iI (c))]) C HS (by exact (j_canEncode (c := c) (by omega) (by omega))) ckJ1_88 sm_J1_canEncode_9a6ad rfl rfl (nle rfl) (by exact ⟨nle rfl, nle rfl⟩) dJ1_indexOf_4cfef_1 ?_
  rintro _ Xv1 ⟨hxv1, v1, rfl, ev1⟩
  rw [hxv1]
  refine Wx_st (st' := [.int (iI (v1))]) rfl ?_
  refine x_if_ne (tgt := 9) C dJ1_indexOf_4cfef_4 (by decide) ⟨by omega, by omega⟩ (fun h2 => ?_) (fun h2 => by exfalso; omega)
  refine x_iload_n (i := 2) C dJ1_indexOf_4cfef_9 rfl rfl ?_
  refine x_iconst C dJ1_indexOf_4cfef_10 ?_
  refine x_mmax C ⟨by omega, by omega⟩ ⟨by omega, by omega⟩ (lw_gi 622 (by decide +kernel) rfl : Cond.methodLink RJ1 92 Lib.Math.max.name ∈ lw_g) (lw_gi 623 (by decide +kernel) rfl : Cond.static Lib.Math.max.name ∈ lw_g) (lw_gi 129 (by decide +kernel) rfl : Cond.initialized "java/lang/Math" ∈ lw_g) (lw_gi 624 (by decide +kernel) rfl : Cond.code Lib.Math.max.name Lib.Math.max.code 2 (some .int) ∈ lw_g) (nle rfl) (nle rfl) dJ1_indexOf_4cfef_11 (fun v3 h4 => ?_)
  obtain rfl : v3 = 0 := by omega
  refine x_istore_n (i := 2) (lv' := [(2, .int (iI (0))), (0, .ref (910 + i)), (1, .int (iI (c))), (3, .int (iI (((tzL.getD i 0 : Nat) : Int))))]) C dJ1_indexOf_4cfef_14 rfl (nlt rfl) rfl ?_
  refine x_iload_n (i := 3) C dJ1_indexOf_4cfef_15 rfl rfl ?_
  refine x_aload_n (i := 0) C dJ1_indexOf_4cfef_16 rfl rfl ?_
  refine x_strN C HS hi dJ1_indexOf_4cfef_17 ?_
  refine x_gen (fun v5 ev5 => ?_)
  have bv5 := tzL_bd (i) hi
  refine x_mmin C ⟨by omega, by omega⟩ ⟨by omega, by omega⟩ (lw_gi 625 (by decide +kernel) rfl : Cond.methodLink RJ1 38 Lib.Math.min.name ∈ lw_g) (lw_gi 576 (by decide +kernel) rfl : Cond.static Lib.Math.min.name ∈ lw_g) (lw_gi 129 (by decide +kernel) rfl : Cond.initialized "java/lang/Math" ∈ lw_g) (lw_gi 577 (by decide +kernel) rfl : Cond.code Lib.Math.min.name Lib.Math.min.code 2 (some .int) ∈ lw_g) (nle rfl) (nle rfl) dJ1_indexOf_4cfef_18 (fun v6 h7 => ?_)
  refine x_istore_n (i := 3) (lv' := [(3, .int (iI (v6))), (2, .int (iI (0))), (0, .ref (910 + i)), (1, .int (iI (c)))]) C dJ1_indexOf_4cfef_21 rfl (nlt rfl) rfl ?_
  refine x_iload_n (i := 2) C dJ1_indexOf_4cfef_22 rfl rfl ?_
  refine x_iload_n (i := 3) C dJ1_indexOf_4cfef_23 rfl rfl ?_
  refine x_icmp_lt (tgt := 29) C dJ1_indexOf_4cfef_24 (by decide) ⟨by omega, by omega⟩ ⟨by omega, by omega⟩ (fun h8 => ?_) (fun h8 => by exfalso; omega)
  rw [show v6 = ((tzL.getD i 0 : Nat) : Int) by omega]
  refine x_aload_n (i := 0) C dJ1_indexOf_4cfef_29 rfl rfl ?_
  refine x_iload_n (i := 1) C dJ1_indexOf_4cfef_30 rfl rfl ?_
  refine x_iload_n (i := 2) C dJ1_indexOf_4cfef_31 rfl rfl ?_
  refine x_iload_n (i := 3) C dJ1_indexOf_4cfef_32 rfl rfl ?_
  refine x_callTT (As := [.ref (910 + i), .int (iI (c)), .int (iI (0)), .int (iI (((tzL.getD i 0 : Nat) : Int)))]) C HS (by exact (j_ixc (i := i) hi (c := c) (by omega) (by omega))) ckJ1_95 sm_J1_indexOfChar_4cfef rfl rfl (nle rfl) (by exact ⟨nle rfl, nle rfl⟩) dJ1_indexOf_4cfef_33 ?_
  rintro _ Xq ⟨hxq, q, rfl, eq⟩
  rw [hxq]
  refine Wx_st (st' := [.int (iI (q))]) rfl ?_
  exact x_iret C hQ dJ1_indexOf_4cfef_36 (⟨rfl, _, rfl, eq⟩)
set_option maxHeartbeats 4000000 in
set_option maxRecDepth 100000 in
theorem j_ix2 {D : va_G} {ad : Nat → Nat} {cA : Nat → ClassId} {X : XT} {i : Nat} (hi : i < 7) {c : Int} (c0 : 0 ≤ c) (c1 : c ≤ 255) : MetS (wX D ad cA) yJ0_indexOf_7cf53 cJ0_indexOf_7cf53 3 (some .int) 5 116 [.ref (900 + i), .int (iI (c)), .int (iI (0))] X (fun r X' => X' = X ∧ ∃ u : Int, r = some (.int (iI u)) ∧ ixS i c u) := by
  refine MetS.mk (own := RJ0) (by decide +kernel) rfl (nle rfl) (fun E C HS hQ => ?_)
  refine Wx_lv (lv' := [(0, .ref (900 + i)), (1, .int (iI (c))), (2, .int (iI (0)))]) rfl ?_
  refine x_aload_n (i := 0) C dJ0_indexOf_7cf53_0 rfl rfl ?_
  refine x_callST (As := []) C HS hi (by exact (j_isLatin1 (i := i) hi)) ckJ0_492 im_J0_isLatin1_aae02 se_J0_isLatin1_aae02 rfl rfl (nle rfl) (by exact ⟨nle rfl, nle rfl⟩) dJ0_indexOf_7cf53_1 ?_
  rintro _ Xv1 ⟨hxv1, v1, rfl, ev1⟩
  rw [hxv1]
  refine Wx_st (st' := [.int (iI (v1))]) rfl ?_
  refine x_if_eq (tgt := 23) C dJ0_indexOf_7cf53_4 (by decide) ⟨by omega, by omega⟩ (fun h2 => by exfalso; omega) (fun h2 => ?_)
  refine x_aload_n (i := 0) C dJ0_indexOf_7cf53_7 rfl rfl ?_
  refine x_strV C HS hi (lw_gi 1963 (by decide +kernel) rfl : Cond.fieldLink RJ0 9 RJ0 "value" "[B" ∈ lw_g) dJ0_indexOf_7cf53_8 ?_
  refine x_iload_n (i := 1) C dJ0_indexOf_7cf53_11 rfl rfl ?_
  refine x_iload_n (i := 2) C dJ0_indexOf_7cf53_12 rfl rfl ?_
  refine x_aload_n (i := 0) C dJ0_indexOf_7cf53_13 rfl rfl ?_
  refine x_callST (As := []) C HS hi (by exact (j_length (i := i) hi)) ckJ0_505 im_J0_length_8abf5 se_J0_length_8abf5 rfl rfl (nle rfl) (by exact ⟨nle rfl, nle rfl⟩) dJ0_indexOf_7cf53_14 ?_
  rintro _ Xv3 ⟨hxv3, v3, rfl, ev3⟩
  rw [hxv3]
  have bv3 := tzL_bd (i) hi
  refine Wx_st (st' := [.int (iI (v3)), .int (iI (0)), .int (iI (c)), .ref (910 + i)]) rfl ?_
  rw [ev3]
  refine x_callTT (As := [.ref (910 + i), .int (iI (c)), .int (iI (0)), .int (iI (((tzL.getD i 0 : Nat) : Int)))]) C HS (by exact (j_ixL (i := i) hi (c := c) (by omega) (by omega))) ckJ0_637 sm_J1_indexOf_4cfef rfl rfl (nle rfl) (by exact ⟨nle rfl, nle rfl⟩) dJ0_indexOf_7cf53_17 ?_
  rintro _ Xq ⟨hxq, q, rfl, eq⟩
  rw [hxq]
  refine Wx_st (st' := [.int (iI (q))]) rfl ?_
  refine x_goto (tgt := 36) C dJ0_indexOf_7cf53_20 (by decide) ?_
  exact x_iret C hQ dJ0_indexOf_7cf53_36 (⟨rfl, _, rfl, eq⟩)
set_option maxHeartbeats 4000000 in
set_option maxRecDepth 100000 in
theorem j_indexOf {D : va_G} {ad : Nat → Nat} {cA : Nat → ClassId} {X : XT} {i : Nat} (hi : i < 7) {c : Int} (c0 : 0 ≤ c) (c1 : c ≤ 255) : MetS (wX D ad cA) yJ0_indexOf_0f7a4 cJ0_indexOf_0f7a4 2 (some .int) 6 138 [.ref (900 + i), .int (iI (c))] X (fun r X' => X' = X ∧ ∃ u : Int, r = some (.int (iI u)) ∧ ixS i c u) := by
  refine MetS.mk (own := RJ0) (by decide +kernel) rfl (nle rfl) (fun E C HS hQ => ?_)
  refine Wx_lv (lv' := [(0, .ref (900 + i)), (1, .int (iI (c)))]) rfl ?_
  refine x_aload_n (i := 0) C dJ0_indexOf_0f7a4_0 rfl rfl ?_
  refine x_iload_n (i := 1) C dJ0_indexOf_0f7a4_1 rfl rfl ?_
  refine x_iconst C dJ0_indexOf_0f7a4_2 ?_
  refine x_callST (As := [.int (iI (c)), .int (iI (0))]) C HS hi (by exact (j_ix2 (i := i) hi (c := c) (by omega) (by omega))) ckJ0_633 im_J0_indexOf_7cf53 se_J0_indexOf_7cf53 rfl rfl (nle rfl) (by exact ⟨nle rfl, nle rfl⟩) dJ0_indexOf_0f7a4_3 ?_
  rintro _ Xq ⟨hxq, q, rfl, eq⟩
  rw [hxq]
  refine Wx_st (st' := [.int (iI (q))]) rfl ?_
  exact x_iret C hQ dJ0_indexOf_0f7a4_6 (⟨rfl, _, rfl, eq⟩)
