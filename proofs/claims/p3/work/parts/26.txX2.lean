/-! ===== the class reads, on ===== -/
theorem dX6_takeRule_0 : decode cX6_takeRule 0 = .ok (.aload_n 0, 1) := by decide +kernel
theorem dX6_takeRule_1 : decode cX6_takeRule 1 = .ok (.getfield 61, 3) := by decide +kernel
theorem dX6_takeRule_4 : decode cX6_takeRule 4 = .ok (.iconst 1, 1) := by decide +kernel
theorem dX6_takeRule_5 : decode cX6_takeRule 5 = .ok (.if_icmp .ne 17, 3) := by decide +kernel
theorem dX6_takeRule_8 : decode cX6_takeRule 8 = .ok (.aload_n 0, 1) := by decide +kernel
theorem dX6_takeRule_9 : decode cX6_takeRule 9 = .ok (.getfield 39, 3) := by decide +kernel
theorem dX6_takeRule_12 : decode cX6_takeRule 12 = .ok (.aload_n 0, 1) := by decide +kernel
theorem dX6_takeRule_13 : decode cX6_takeRule 13 = .ok (.getfield 73, 3) := by decide +kernel
theorem dX6_takeRule_16 : decode cX6_takeRule 16 = .ok (.isub, 1) := by decide +kernel
theorem dX6_takeRule_17 : decode cX6_takeRule 17 = .ok (.bipush 9, 2) := by decide +kernel
theorem dX6_takeRule_19 : decode cX6_takeRule 19 = .ok (.if_icmp .le 5, 3) := by decide +kernel
theorem dX6_takeRule_22 : decode cX6_takeRule 22 = .ok (.iconst 0, 1) := by decide +kernel
theorem dX6_takeRule_23 : decode cX6_takeRule 23 = .ok (.ireturn, 1) := by decide +kernel
theorem dX6_takeRule_24 : decode cX6_takeRule 24 = .ok (.lconst 0, 1) := by decide +kernel
theorem dX6_takeRule_25 : decode cX6_takeRule 25 = .ok (.lstore_n 1, 1) := by decide +kernel
theorem dX6_takeRule_26 : decode cX6_takeRule 26 = .ok (.iconst 0, 1) := by decide +kernel
theorem dX6_takeRule_27 : decode cX6_takeRule 27 = .ok (.istore_n 3, 1) := by decide +kernel
theorem dX6_takeRule_28 : decode cX6_takeRule 28 = .ok (.aload_n 0, 1) := by decide +kernel
theorem dX6_takeRule_29 : decode cX6_takeRule 29 = .ok (.getfield 73, 3) := by decide +kernel
theorem dX6_takeRule_32 : decode cX6_takeRule 32 = .ok (.istore 4, 2) := by decide +kernel
theorem dX6_takeRule_34 : decode cX6_takeRule 34 = .ok (.iload 4, 2) := by decide +kernel
theorem dX6_takeRule_36 : decode cX6_takeRule 36 = .ok (.aload_n 0, 1) := by decide +kernel
theorem dX6_takeRule_37 : decode cX6_takeRule 37 = .ok (.getfield 39, 3) := by decide +kernel
theorem dX6_takeRule_40 : decode cX6_takeRule 40 = .ok (.if_icmp .ge 66, 3) := by decide +kernel
theorem dX6_takeRule_43 : decode cX6_takeRule 43 = .ok (.ldc 145, 2) := by decide +kernel
theorem dX6_takeRule_45 : decode cX6_takeRule 45 = .ok (.aload_n 0, 1) := by decide +kernel
theorem dX6_takeRule_46 : decode cX6_takeRule 46 = .ok (.getfield 25, 3) := by decide +kernel
theorem dX6_takeRule_49 : decode cX6_takeRule 49 = .ok (.iload 4, 2) := by decide +kernel
theorem dX6_takeRule_51 : decode cX6_takeRule 51 = .ok (.iaload, 1) := by decide +kernel
theorem dX6_takeRule_52 : decode cX6_takeRule 52 = .ok (.i2c, 1) := by decide +kernel
theorem dX6_takeRule_53 : decode cX6_takeRule 53 = .ok (.invokevirtual 147, 3) := by decide +kernel
theorem dX6_takeRule_56 : decode cX6_takeRule 56 = .ok (.istore 5, 2) := by decide +kernel
theorem dX6_takeRule_58 : decode cX6_takeRule 58 = .ok (.iload 5, 2) := by decide +kernel
theorem dX6_takeRule_60 : decode cX6_takeRule 60 = .ok (.ifCond .lt 14, 3) := by decide +kernel
theorem dX6_takeRule_63 : decode cX6_takeRule 63 = .ok (.iload 5, 2) := by decide +kernel
theorem dX6_takeRule_65 : decode cX6_takeRule 65 = .ok (.bipush 10, 2) := by decide +kernel
theorem dX6_takeRule_67 : decode cX6_takeRule 67 = .ok (.if_icmp .ne 9, 3) := by decide +kernel
theorem dX6_takeRule_70 : decode cX6_takeRule 70 = .ok (.iload_n 3, 1) := by decide +kernel
theorem dX6_takeRule_71 : decode cX6_takeRule 71 = .ok (.ifCond .eq 5, 3) := by decide +kernel
theorem dX6_takeRule_74 : decode cX6_takeRule 74 = .ok (.iconst 0, 1) := by decide +kernel
theorem dX6_takeRule_75 : decode cX6_takeRule 75 = .ok (.ireturn, 1) := by decide +kernel
theorem dX6_takeRule_76 : decode cX6_takeRule 76 = .ok (.iload_n 3, 1) := by decide +kernel
theorem dX6_takeRule_77 : decode cX6_takeRule 77 = .ok (.ifCond .ne 10, 3) := by decide +kernel
theorem dX6_takeRule_80 : decode cX6_takeRule 80 = .ok (.iload 5, 2) := by decide +kernel
theorem dX6_takeRule_82 : decode cX6_takeRule 82 = .ok (.bipush 10, 2) := by decide +kernel
theorem dX6_takeRule_84 : decode cX6_takeRule 84 = .ok (.if_icmp .ne 7, 3) := by decide +kernel
theorem dX6_takeRule_87 : decode cX6_takeRule 87 = .ok (.iconst 1, 1) := by decide +kernel
theorem dX6_takeRule_88 : decode cX6_takeRule 88 = .ok (.goto 4, 3) := by decide +kernel
theorem dX6_takeRule_91 : decode cX6_takeRule 91 = .ok (.iconst 0, 1) := by decide +kernel
theorem dX6_takeRule_92 : decode cX6_takeRule 92 = .ok (.istore_n 3, 1) := by decide +kernel
theorem dX6_takeRule_93 : decode cX6_takeRule 93 = .ok (.lload_n 1, 1) := by decide +kernel
theorem dX6_takeRule_94 : decode cX6_takeRule 94 = .ok (.iload 5, 2) := by decide +kernel
theorem dX6_takeRule_96 : decode cX6_takeRule 96 = .ok (.invokestatic 153, 3) := by decide +kernel
theorem dX6_takeRule_99 : decode cX6_takeRule 99 = .ok (.lstore_n 1, 1) := by decide +kernel
theorem dX6_takeRule_100 : decode cX6_takeRule 100 = .ok (.iinc 4 1, 3) := by decide +kernel
theorem dX6_takeRule_103 : decode cX6_takeRule 103 = .ok (.goto (-69), 3) := by decide +kernel
theorem dX6_takeRule_106 : decode cX6_takeRule 106 = .ok (.aload_n 0, 1) := by decide +kernel
theorem dX6_takeRule_107 : decode cX6_takeRule 107 = .ok (.lload_n 1, 1) := by decide +kernel
theorem dX6_takeRule_108 : decode cX6_takeRule 108 = .ok (.putfield 138, 3) := by decide +kernel
theorem dX6_takeRule_111 : decode cX6_takeRule 111 = .ok (.aload_n 0, 1) := by decide +kernel
theorem dX6_takeRule_112 : decode cX6_takeRule 112 = .ok (.invokevirtual 54, 3) := by decide +kernel
theorem dX6_takeRule_115 : decode cX6_takeRule 115 = .ok (.iconst 1, 1) := by decide +kernel
theorem dX6_takeRule_116 : decode cX6_takeRule 116 = .ok (.ireturn, 1) := by decide +kernel
theorem dX0_addMan_0 : decode cX0_addMan 0 = .ok (.aload_n 0, 1) := by decide +kernel
theorem dX0_addMan_1 : decode cX0_addMan 1 = .ok (.getfield 32, 3) := by decide +kernel
theorem dX0_addMan_4 : decode cX0_addMan 4 = .ok (.bipush 6, 2) := by decide +kernel
theorem dX0_addMan_6 : decode cX0_addMan 6 = .ok (.if_icmp .ge 33, 3) := by decide +kernel
theorem dX0_addMan_9 : decode cX0_addMan 9 = .ok (.aload_n 0, 1) := by decide +kernel
theorem dX0_addMan_10 : decode cX0_addMan 10 = .ok (.getfield 9, 3) := by decide +kernel
theorem dX0_addMan_13 : decode cX0_addMan 13 = .ok (.aload_n 0, 1) := by decide +kernel
theorem dX0_addMan_14 : decode cX0_addMan 14 = .ok (.getfield 32, 3) := by decide +kernel
theorem dX0_addMan_17 : decode cX0_addMan 17 = .ok (.iload_n 1, 1) := by decide +kernel
theorem dX0_addMan_18 : decode cX0_addMan 18 = .ok (.iastore, 1) := by decide +kernel
theorem dX0_addMan_19 : decode cX0_addMan 19 = .ok (.aload_n 0, 1) := by decide +kernel
theorem dX0_addMan_20 : decode cX0_addMan 20 = .ok (.getfield 15, 3) := by decide +kernel
theorem dX0_addMan_23 : decode cX0_addMan 23 = .ok (.aload_n 0, 1) := by decide +kernel
theorem dX0_addMan_24 : decode cX0_addMan 24 = .ok (.getfield 32, 3) := by decide +kernel
theorem dX0_addMan_27 : decode cX0_addMan 27 = .ok (.iload_n 2, 1) := by decide +kernel
theorem dX0_addMan_28 : decode cX0_addMan 28 = .ok (.iastore, 1) := by decide +kernel
theorem dX0_addMan_29 : decode cX0_addMan 29 = .ok (.aload_n 0, 1) := by decide +kernel
theorem dX0_addMan_30 : decode cX0_addMan 30 = .ok (.dup, 1) := by decide +kernel
theorem dX0_addMan_31 : decode cX0_addMan 31 = .ok (.getfield 32, 3) := by decide +kernel
theorem dX0_addMan_34 : decode cX0_addMan 34 = .ok (.iconst 1, 1) := by decide +kernel
theorem dX0_addMan_35 : decode cX0_addMan 35 = .ok (.iadd, 1) := by decide +kernel
theorem dX0_addMan_36 : decode cX0_addMan 36 = .ok (.putfield 32, 3) := by decide +kernel
theorem dX0_addMan_39 : decode cX0_addMan 39 = .ok (.return_, 1) := by decide +kernel
theorem dX2_addMove_0 : decode cX2_addMove 0 = .ok (.aload_n 0, 1) := by decide +kernel
theorem dX2_addMove_1 : decode cX2_addMove 1 = .ok (.getfield 19, 3) := by decide +kernel
theorem dX2_addMove_4 : decode cX2_addMove 4 = .ok (.bipush 30, 2) := by decide +kernel
theorem dX2_addMove_6 : decode cX2_addMove 6 = .ok (.if_icmp .ge 33, 3) := by decide +kernel
theorem dX2_addMove_9 : decode cX2_addMove 9 = .ok (.aload_n 0, 1) := by decide +kernel
theorem dX2_addMove_10 : decode cX2_addMove 10 = .ok (.getfield 9, 3) := by decide +kernel
theorem dX2_addMove_13 : decode cX2_addMove 13 = .ok (.aload_n 0, 1) := by decide +kernel
theorem dX2_addMove_14 : decode cX2_addMove 14 = .ok (.getfield 19, 3) := by decide +kernel
theorem dX2_addMove_17 : decode cX2_addMove 17 = .ok (.lload_n 1, 1) := by decide +kernel
theorem dX2_addMove_18 : decode cX2_addMove 18 = .ok (.lastore, 1) := by decide +kernel
theorem dX2_addMove_19 : decode cX2_addMove 19 = .ok (.aload_n 0, 1) := by decide +kernel
theorem dX2_addMove_20 : decode cX2_addMove 20 = .ok (.getfield 15, 3) := by decide +kernel
theorem dX2_addMove_23 : decode cX2_addMove 23 = .ok (.aload_n 0, 1) := by decide +kernel
theorem dX2_addMove_24 : decode cX2_addMove 24 = .ok (.getfield 19, 3) := by decide +kernel
theorem dX2_addMove_27 : decode cX2_addMove 27 = .ok (.iload_n 3, 1) := by decide +kernel
theorem dX2_addMove_28 : decode cX2_addMove 28 = .ok (.iastore, 1) := by decide +kernel
theorem dX2_addMove_29 : decode cX2_addMove 29 = .ok (.aload_n 0, 1) := by decide +kernel
theorem dX2_addMove_30 : decode cX2_addMove 30 = .ok (.dup, 1) := by decide +kernel
theorem dX2_addMove_31 : decode cX2_addMove 31 = .ok (.getfield 19, 3) := by decide +kernel
theorem dX2_addMove_34 : decode cX2_addMove 34 = .ok (.iconst 1, 1) := by decide +kernel
theorem dX2_addMove_35 : decode cX2_addMove 35 = .ok (.iadd, 1) := by decide +kernel
theorem dX2_addMove_36 : decode cX2_addMove 36 = .ok (.putfield 19, 3) := by decide +kernel
theorem dX2_addMove_39 : decode cX2_addMove 39 = .ok (.return_, 1) := by decide +kernel
theorem dX6_readSize_0 : decode cX6_readSize 0 = .ok (.aload_n 0, 1) := by decide +kernel
theorem dX6_readSize_1 : decode cX6_readSize 1 = .ok (.iconst 2, 1) := by decide +kernel
theorem dX6_readSize_2 : decode cX6_readSize 2 = .ok (.bipush 6, 2) := by decide +kernel
theorem dX6_readSize_4 : decode cX6_readSize 4 = .ok (.invokevirtual 118, 3) := by decide +kernel
theorem dX6_readSize_7 : decode cX6_readSize 7 = .ok (.istore_n 1, 1) := by decide +kernel
theorem dX6_readSize_8 : decode cX6_readSize 8 = .ok (.aload_n 0, 1) := by decide +kernel
theorem dX6_readSize_9 : decode cX6_readSize 9 = .ok (.iconst 2, 1) := by decide +kernel
theorem dX6_readSize_10 : decode cX6_readSize 10 = .ok (.bipush 6, 2) := by decide +kernel
theorem dX6_readSize_12 : decode cX6_readSize 12 = .ok (.invokevirtual 118, 3) := by decide +kernel
theorem dX6_readSize_15 : decode cX6_readSize 15 = .ok (.istore_n 2, 1) := by decide +kernel
theorem dX6_readSize_16 : decode cX6_readSize 16 = .ok (.aload_n 0, 1) := by decide +kernel
theorem dX6_readSize_17 : decode cX6_readSize 17 = .ok (.getfield 12, 3) := by decide +kernel
theorem dX6_readSize_20 : decode cX6_readSize 20 = .ok (.iload_n 1, 1) := by decide +kernel
theorem dX6_readSize_21 : decode cX6_readSize 21 = .ok (.putfield 121, 3) := by decide +kernel
theorem dX6_readSize_24 : decode cX6_readSize 24 = .ok (.aload_n 0, 1) := by decide +kernel
theorem dX6_readSize_25 : decode cX6_readSize 25 = .ok (.getfield 12, 3) := by decide +kernel
theorem dX6_readSize_28 : decode cX6_readSize 28 = .ok (.iload_n 2, 1) := by decide +kernel
theorem dX6_readSize_29 : decode cX6_readSize 29 = .ok (.putfield 124, 3) := by decide +kernel
theorem dX6_readSize_32 : decode cX6_readSize 32 = .ok (.iload_n 1, 1) := by decide +kernel
theorem dX6_readSize_33 : decode cX6_readSize 33 = .ok (.iconst (-1), 1) := by decide +kernel
theorem dX6_readSize_34 : decode cX6_readSize 34 = .ok (.if_icmp .eq 12, 3) := by decide +kernel
theorem dX6_readSize_37 : decode cX6_readSize 37 = .ok (.iload_n 2, 1) := by decide +kernel
theorem dX6_readSize_38 : decode cX6_readSize 38 = .ok (.iconst (-1), 1) := by decide +kernel
theorem dX6_readSize_39 : decode cX6_readSize 39 = .ok (.if_icmp .eq 7, 3) := by decide +kernel
theorem dX6_readSize_42 : decode cX6_readSize 42 = .ok (.iconst 1, 1) := by decide +kernel
theorem dX6_readSize_43 : decode cX6_readSize 43 = .ok (.goto 4, 3) := by decide +kernel
theorem dX6_readSize_46 : decode cX6_readSize 46 = .ok (.iconst 0, 1) := by decide +kernel
theorem dX6_readSize_47 : decode cX6_readSize 47 = .ok (.ireturn, 1) := by decide +kernel
theorem dX6_readMan_0 : decode cX6_readMan 0 = .ok (.aload_n 0, 1) := by decide +kernel
theorem dX6_readMan_1 : decode cX6_readMan 1 = .ok (.iconst 0, 1) := by decide +kernel
theorem dX6_readMan_2 : decode cX6_readMan 2 = .ok (.iconst 1, 1) := by decide +kernel
theorem dX6_readMan_3 : decode cX6_readMan 3 = .ok (.invokevirtual 118, 3) := by decide +kernel
theorem dX6_readMan_6 : decode cX6_readMan 6 = .ok (.istore_n 1, 1) := by decide +kernel
theorem dX6_readMan_7 : decode cX6_readMan 7 = .ok (.aload_n 0, 1) := by decide +kernel
theorem dX6_readMan_8 : decode cX6_readMan 8 = .ok (.iconst 0, 1) := by decide +kernel
theorem dX6_readMan_9 : decode cX6_readMan 9 = .ok (.bipush 35, 2) := by decide +kernel
theorem dX6_readMan_11 : decode cX6_readMan 11 = .ok (.invokevirtual 118, 3) := by decide +kernel
theorem dX6_readMan_14 : decode cX6_readMan 14 = .ok (.istore_n 2, 1) := by decide +kernel
theorem dX6_readMan_15 : decode cX6_readMan 15 = .ok (.aload_n 0, 1) := by decide +kernel
theorem dX6_readMan_16 : decode cX6_readMan 16 = .ok (.getfield 12, 3) := by decide +kernel
theorem dX6_readMan_19 : decode cX6_readMan 19 = .ok (.iload_n 1, 1) := by decide +kernel
theorem dX6_readMan_20 : decode cX6_readMan 20 = .ok (.iload_n 2, 1) := by decide +kernel
theorem dX6_readMan_21 : decode cX6_readMan 21 = .ok (.invokevirtual 127, 3) := by decide +kernel
theorem dX6_readMan_24 : decode cX6_readMan 24 = .ok (.iload_n 1, 1) := by decide +kernel
theorem dX6_readMan_25 : decode cX6_readMan 25 = .ok (.iconst (-1), 1) := by decide +kernel
theorem dX6_readMan_26 : decode cX6_readMan 26 = .ok (.if_icmp .eq 12, 3) := by decide +kernel
theorem dX6_readMan_29 : decode cX6_readMan 29 = .ok (.iload_n 2, 1) := by decide +kernel
theorem dX6_readMan_30 : decode cX6_readMan 30 = .ok (.iconst (-1), 1) := by decide +kernel
theorem dX6_readMan_31 : decode cX6_readMan 31 = .ok (.if_icmp .eq 7, 3) := by decide +kernel
theorem dX6_readMan_34 : decode cX6_readMan 34 = .ok (.iconst 1, 1) := by decide +kernel
theorem dX6_readMan_35 : decode cX6_readMan 35 = .ok (.goto 4, 3) := by decide +kernel
theorem dX6_readMan_38 : decode cX6_readMan 38 = .ok (.iconst 0, 1) := by decide +kernel
theorem dX6_readMan_39 : decode cX6_readMan 39 = .ok (.ireturn, 1) := by decide +kernel
theorem pkX_X6_138 {D : va_G} {ad : Nat → Nat} {cA : Nat → ClassId} : PKw (wX D ad cA) RX6 138 6 11 2 1 (tyX6 2) := ⟨RX6, TX6, tyX6, rfl, by decide, rfl, inX6, (lw_gi 285 (by decide +kernel) rfl : Cond.fieldLink RX6 138 RX6 (TX6 2).2.1 (TX6 2).2.2.1 ∈ lw_g), rfl, tyX6_ok, nmX6, rfl, rfl⟩
theorem ckX6_147 : CKB RX6 147 yJ0_indexOf_0f7a4 cJ0_indexOf_0f7a4 2 (some .int) 1 := ⟨(lw_gi 597 (by decide +kernel) rfl : Cond.code yJ0_indexOf_0f7a4 cJ0_indexOf_0f7a4 2 (some .int) ∈ lw_g), (lw_gi 130 (by decide +kernel) rfl : Cond.initialized yJ0_indexOf_0f7a4.cls ∈ lw_g), by decide +kernel, by decide +kernel, (lw_gi 594 (by decide +kernel) rfl : Cond.methodLink RX6 147 yJ0_indexOf_0f7a4 ∈ lw_g)⟩
theorem im_J0_indexOf_0f7a4 : Cond.instanceMethod yJ0_indexOf_0f7a4 ∈ lw_g := (lw_gi 595 (by decide +kernel) rfl : Cond.instanceMethod yJ0_indexOf_0f7a4 ∈ lw_g)
theorem se_J0_indexOf_0f7a4 : Cond.selects RJ0 yJ0_indexOf_0f7a4 yJ0_indexOf_0f7a4 ∈ lw_g := (lw_gi 596 (by decide +kernel) rfl : Cond.selects RJ0 yJ0_indexOf_0f7a4 yJ0_indexOf_0f7a4 ∈ lw_g)
theorem cnX6_153 : CKN RX6 153 yX11_withSign "WrittenMoves" cX11_withSign 3 (some .long) 2 := ⟨(lw_gi 680 (by decide +kernel) rfl : Cond.code yX11_withSign cX11_withSign 3 (some .long) ∈ lw_g), (lw_gi 116 (by decide +kernel) rfl : Cond.initialized yX11_withSign.cls ∈ lw_g), by decide +kernel, by decide +kernel, List.mem_of_getElem? (i := 12) (by decide +kernel), (lw_gi 679 (by decide +kernel) rfl : Cond.static yX11_withSign ∈ lw_g)⟩
theorem ckX6_118 : CKB RX6 118 yX6_takeNumber cX6_takeNumber 4 (some .int) 2 := ⟨(lw_gi 722 (by decide +kernel) rfl : Cond.code yX6_takeNumber cX6_takeNumber 4 (some .int) ∈ lw_g), (lw_gi 120 (by decide +kernel) rfl : Cond.initialized yX6_takeNumber.cls ∈ lw_g), by decide +kernel, by decide +kernel, (lw_gi 719 (by decide +kernel) rfl : Cond.methodLink RX6 118 yX6_takeNumber ∈ lw_g)⟩
theorem im_X6_takeNumber : Cond.instanceMethod yX6_takeNumber ∈ lw_g := (lw_gi 721 (by decide +kernel) rfl : Cond.instanceMethod yX6_takeNumber ∈ lw_g)
theorem se_X6_takeNumber : Cond.selects RX6 yX6_takeNumber yX6_takeNumber ∈ lw_g := (lw_gi 5 (by decide +kernel) rfl : Cond.selects RX6 yX6_takeNumber yX6_takeNumber ∈ lw_g)
theorem fkX_X6_12 {D : va_G} {ad : Nat → Nat} {cA : Nat → ClassId} : FKw (wX D ad cA) RX6 12 6 11 0 2 := ⟨RX6, TX6, rfl, by decide, rfl, inX6, (lw_gi 281 (by decide +kernel) rfl : Cond.fieldLink RX6 12 RX6 (TX6 0).2.1 (TX6 0).2.2.1 ∈ lw_g), rfl⟩
theorem pkX_X6_121 {D : va_G} {ad : Nat → Nat} {cA : Nat → ClassId} : PKw (wX D ad cA) RX6 121 0 7 0 0 (tyX0 0) := ⟨RX0, TX0, tyX0, rfl, by decide, rfl, inX0, (lw_gi 164 (by decide +kernel) rfl : Cond.fieldLink RX6 121 RX0 (TX0 0).2.1 (TX0 0).2.2.1 ∈ lw_g), rfl, tyX0_ok, nmX0, rfl, rfl⟩
theorem pkX_X6_124 {D : va_G} {ad : Nat → Nat} {cA : Nat → ClassId} : PKw (wX D ad cA) RX6 124 0 7 1 0 (tyX0 1) := ⟨RX0, TX0, tyX0, rfl, by decide, rfl, inX0, (lw_gi 170 (by decide +kernel) rfl : Cond.fieldLink RX6 124 RX0 (TX0 1).2.1 (TX0 1).2.2.1 ∈ lw_g), rfl, tyX0_ok, nmX0, rfl, rfl⟩
theorem ckX6_127 : CKB RX6 127 yX0_addMan cX0_addMan 3 none 2 := ⟨(lw_gi 739 (by decide +kernel) rfl : Cond.code yX0_addMan cX0_addMan 3 none ∈ lw_g), (lw_gi 118 (by decide +kernel) rfl : Cond.initialized yX0_addMan.cls ∈ lw_g), by decide +kernel, by decide +kernel, (lw_gi 736 (by decide +kernel) rfl : Cond.methodLink RX6 127 yX0_addMan ∈ lw_g)⟩
theorem im_X0_addMan : Cond.instanceMethod yX0_addMan ∈ lw_g := (lw_gi 737 (by decide +kernel) rfl : Cond.instanceMethod yX0_addMan ∈ lw_g)
theorem se_X0_addMan : Cond.selects RX0 yX0_addMan yX0_addMan ∈ lw_g := (lw_gi 738 (by decide +kernel) rfl : Cond.selects RX0 yX0_addMan yX0_addMan ∈ lw_g)
set_option maxHeartbeats 4000000 in
set_option maxRecDepth 100000 in
theorem c_takeRuleL {D : va_G} {ad : Nat → Nat} {cA : Nat → ClassId} {X0 : XT} {b : Nat → Int} {N : Nat} (hT0 : TPX b N X0) (hH : HG vX X0) {s : Nat} (hF : FR mdTR X0 X0) (hK : TKX b N s X0) (k1 : tK b N s = 1) (kl : tE b N s ≤ s + 9) {E : ET} (C : CX E (wX D ad cA) cX6_takeRule 6 RX6 (some .boolean) { frames := 7, cells := 0, slots := 0, locals := 159 }) (HS : SE E (wX D ad cA)) (hQ : EQ E (wX D ad cA) (fun r X1 => ∃ u : Int, r = some (.int (iI u)) ∧ HG vX X1 ∧ FR mdTR X0 X1 ∧ ((u = 1 ∧ tr b N s ∧ TKX b N (nx b N s) X1 ∧ X1.2.1 21 2 = rV b N s) ∨ (u = 0 ∧ ¬ tr b N s ∧ TKX b N s X1)))) : ∀ (n : Nat) (j : Nat), ((20 - j : Nat) : Int) < n → s + j ≤ tE b N s → rOK b s j → Wx E (wX D ad cA) 6 (PX (wX D ad cA) X0) 34 [(4, .int (iI ((s : Int) + (j : Int)))), (3, .int (iI (zB (rP b s j).2))), (1, .long ((rP b s j).1)), (0, .ref 21)] [] := by
  intro n
  induction n with
  | zero => intro j hn j1 hr; exfalso; omega
  | succ n ih =>
    intro j hn j1 hr
    have ke := hK.2.1
    have ks := hK.1
    have kn := hK.2.2.1
    have te := tE_bd b N s hK.2.2.2.2
    have n6 := hT0.2.2.1
    refine x_iload C dX6_takeRule_34 rfl ?_
    refine x_aload_n (i := 0) C dX6_takeRule_36 rfl rfl ?_
    refine x_getI C fkX_X6_39 (nlt rfl) rfl dX6_takeRule_37 ?_
    refine x_gen (fun v1 ev1 => ?_)
    have qv1 : ((-2147483648) : Int) ≤ v1 ∧ v1 ≤ (2147483647 : Int) := by
      rw [ev1]
      exact hH.rF (k := 21) (i := 9) rfl rfl
    refine x_icmp_ge (tgt := 106) C dX6_takeRule_40 (by decide) ⟨by omega, by omega⟩ ⟨by omega, by omega⟩ (fun h2 => ?_) (fun h2 => ?_)
    · have jj : j = tE b N s - s := by omega
      refine x_aload_n (i := 0) C dX6_takeRule_106 rfl rfl ?_
      refine x_lload_n (i := 1) C dX6_takeRule_107 rfl rfl ?_
      refine x_putL C pkX_X6_138 (nlt rfl) rfl dX6_takeRule_108 ?_
      refine x_gX (fun Yy3 eYy3 => ?_)
      have hHy3 : HG vX Yy3 := by
        rw [eYy3]
        exact hg_wLF hH (p := ((-9223372036854775808), 9223372036854775807)) rfl (l64 _)
      have hFy3 : FR mdTR X0 Yy3 := by
        rw [eYy3]
        exact FR.upL hF (rfl)
      replace eYy3 : Yy3 = upL X0 21 2 ((rP b s j).1) := eYy3
      have hGy3 : FR [(21, some 2)] X0 Yy3 := by
        rw [eYy3]
        exact FR.upL FR.rf rfl
      have hKy3 := hK.fr hGy3 rfl
      refine x_aload_n (i := 0) C dX6_takeRule_111 rfl rfl ?_
      refine x_callV (As := []) C (by exact (c_adv (s := s) (hT0.fr hFy3 rfl) hHy3 hKy3 FR.rf)) ckX6_54 im_X6_advance se_X6_advance (nlt rfl) rfl rfl rfl rfl (nle rfl) (by exact ⟨nle rfl, nle rfl⟩) dX6_takeRule_112 ?_
      rintro _ Yy4 ⟨rfl, hHy4, hGy4, hKy4⟩
      have hFy4 : FR mdTR X0 Yy4 := FR.tr hFy3 hGy4 (by decide)
      refine Wx_st (st' := []) rfl ?_
      refine x_iconst C dX6_takeRule_115 ?_
      exact x_zret C hQ (by omega) dX6_takeRule_116 (⟨_, rfl, hHy4, hFy4, .inl ⟨rfl, ⟨k1, by omega, by rw [← jj]; exact hr⟩, hKy4, by rw [(hGy4 21 2 rfl).2.1, eYy3, upL_at]; unfold rV; rw [← jj]⟩⟩)
    · refine x_ldcS (i := 6) C HS (by decide) rfl dX6_takeRule_43 ?_
      refine x_aload_n (i := 0) C dX6_takeRule_45 rfl rfl ?_
      refine x_getRs (r := 2) C fkX_X6_25 (nlt rfl) rfl (hT0.fr hF rfl).1 dX6_takeRule_46 ?_
      refine x_iload C dX6_takeRule_49 rfl ?_
      refine x_iald C (nlt rfl) rfl rfl (nle rfl) (by omega) (by omega) dX6_takeRule_51 ?_
      refine x_gen (fun v5 ev5 => ?_)
      have qv5 : (0 : Int) ≤ v5 ∧ v5 ≤ (255 : Int) := by
        rw [ev5]
        exact hH.rA (k := 2) (n := 600) (p := (0, 255)) (nlt rfl) rfl (by decide +kernel) (by omega)
      have tv5 : v5 = b ((s : Int) + (j : Int)).toNat := by rw [ev5]; exact (hT0.fr hF rfl).2.2.2 _ (by omega)
      refine x_i2c C dX6_takeRule_52 ?_
      refine x_topi (fun v6 rv6 ev6 => ?_)
      unfold inR at rv6
      have bv6 := i2c_bd rv6 ev6
      have iz : v6 = v5 := i2c_id (by omega) (by omega) rv6 ev6
      have bz : v5 = b (s + j) := by rw [tv5]; congr 1 <;> omega
      refine x_callST (As := [.int (iI (v6))]) C HS (by decide) (by exact (j_indexOf (i := 6) (by decide) (c := v6) (by omega) (by omega))) ckX6_147 im_J0_indexOf_0f7a4 se_J0_indexOf_0f7a4 rfl rfl (nle rfl) (by exact ⟨nle rfl, nle rfl⟩) dX6_takeRule_53 ?_
      rintro _ Xv7 ⟨hxv7, v7, rfl, ev7⟩
      rw [hxv7]
      refine Wx_st (st' := [.int (iI (v7))]) rfl ?_
      have gz : v7 = sgF (b (s + j)) := by rw [← bz, ← iz]; exact ixS_sg ev7
      have gb := sgF_bd (b (s + j))
      have q01 := zB_01 (rP b s j).2
      refine x_istore (lv' := [(5, .int (iI (v7))), (4, .int (iI ((s : Int) + (j : Int)))), (3, .int (iI (zB (rP b s j).2))), (1, .long ((rP b s j).1)), (0, .ref 21)]) C dX6_takeRule_56 (nlt rfl) rfl ?_
      refine x_iload C dX6_takeRule_58 rfl ?_
      refine x_if_lt (tgt := 74) C dX6_takeRule_60 (by decide) ⟨by omega, by omega⟩ (fun h8 => ?_) (fun h8 => ?_)
      · refine x_iconst C dX6_takeRule_74 ?_
        exact x_zret C hQ (by omega) dX6_takeRule_75 (⟨_, rfl, hH, hF, .inr ⟨rfl, fun q => by have q3 := q.2.2 j (by omega); rw [← gz] at q3; omega, hK⟩⟩)
      · refine x_iload C dX6_takeRule_63 rfl ?_
        refine x_bipush C dX6_takeRule_65 (by decide) ?_
        refine x_icmp_ne (tgt := 76) C dX6_takeRule_67 (by decide) ⟨by omega, by omega⟩ ⟨by omega, by omega⟩ (fun h9 => ?_) (fun h9 => ?_)
        · have qv0 : sgF (b (s + j)) = 10 → zB (rP b s j).2 = 0 := fun g => by omega
          refine x_iload_n (i := 3) C dX6_takeRule_76 rfl rfl ?_
          refine x_if_ne (tgt := 87) C dX6_takeRule_77 (by decide) ⟨by omega, by omega⟩ (fun h10 => ?_) (fun h10 => ?_)
          · refine x_iconst C dX6_takeRule_87 ?_
            refine x_goto (tgt := 92) C dX6_takeRule_88 (by decide) ?_
            refine x_istore_n (i := 3) (lv' := [(3, .int (iI (1))), (5, .int (iI (v7))), (4, .int (iI ((s : Int) + (j : Int)))), (1, .long ((rP b s j).1)), (0, .ref 21)]) C dX6_takeRule_92 rfl (nlt rfl) rfl ?_
            refine x_lload_n (i := 1) C dX6_takeRule_93 rfl rfl ?_
            refine x_iload C dX6_takeRule_94 rfl ?_
            refine x_callSN (As := [.long ((rP b s j).1), .int (iI (v7))]) C (by exact (c_withSign (r := (rP b s j).1) (g := v7) (by omega) (by omega))) cnX6_153 rfl rfl (nle rfl) (by exact ⟨nle rfl, nle rfl⟩) dX6_takeRule_96 ?_
            rintro _ Xl11 ⟨hxl11, rfl⟩
            rw [hxl11]
            refine Wx_st (st' := [.long (wsL ((rP b s j).1) (v7))]) rfl ?_
            refine x_genL (fun l11 el11 => ?_)
            refine Wx_st (st' := [.long (l11)]) rfl ?_
            refine x_lstore_n (i := 1) (lv' := [(1, .long (l11)), (3, .int (iI (1))), (5, .int (iI (v7))), (4, .int (iI ((s : Int) + (j : Int)))), (0, .ref 21)]) C dX6_takeRule_99 rfl (nlt rfl) rfl ?_
            refine x_iinc (lv' := [(4, .int (iI ((s : Int) + (j : Int) + 1))), (1, .long (l11)), (3, .int (iI (1))), (5, .int (iI (v7))), (0, .ref 21)]) C dX6_takeRule_100 rfl (nlt rfl) rfl ?_
            refine x_goto (tgt := 34) C dX6_takeRule_103 (by decide) ?_
            have n1 : l11 = (rP b s (j + 1)).1 := by show l11 = wsL _ _; rw [el11, ← gz]
            have n2 : 1 = zB (rP b s (j + 1)).2 := by show _ = zB ((rP b s j).2 || decide (sgF (b (s + j)) = 10)); rw [← gz]; rw [zB_or]; split <;> omega
            rw [show (s : Int) + j + 1 = (s : Int) + ((j + 1 : Nat) : Int) by omega, n1]
            rw [show iI (1) = iI (zB (rP b s (j + 1)).2) by rw [← n2]]
            refine Wx_pick [4, 3, 1, 0] ?_
            refine Wx_lv (lv' := [(4, .int (iI ((s : Int) + ((j + 1 : Nat) : Int)))), (3, .int (iI (zB (rP b s (j + 1)).2))), (1, .long ((rP b s (j + 1)).1)), (0, .ref 21)]) rfl ?_
            exact ih (j + 1) (by omega) (by omega) (fun i hi => by
              by_cases ei : i = j
              · subst ei
                rw [← gz]
                exact ⟨by omega, fun q => by (cases qq : (rP b s i).2); (rfl); (rw [qq] at qv0; exfalso; have : zB true = 1 := rfl; omega)⟩
              · exact hr i (by omega))
          · refine x_iload C dX6_takeRule_80 rfl ?_
            refine x_bipush C dX6_takeRule_82 (by decide) ?_
            refine x_icmp_ne (tgt := 91) C dX6_takeRule_84 (by decide) ⟨by omega, by omega⟩ ⟨by omega, by omega⟩ (fun h12 => ?_) (fun h12 => ?_)
            · refine x_iconst C dX6_takeRule_91 ?_
              refine x_istore_n (i := 3) (lv' := [(3, .int (iI (0))), (5, .int (iI (v7))), (4, .int (iI ((s : Int) + (j : Int)))), (1, .long ((rP b s j).1)), (0, .ref 21)]) C dX6_takeRule_92 rfl (nlt rfl) rfl ?_
              refine x_lload_n (i := 1) C dX6_takeRule_93 rfl rfl ?_
              refine x_iload C dX6_takeRule_94 rfl ?_
              refine x_callSN (As := [.long ((rP b s j).1), .int (iI (v7))]) C (by exact (c_withSign (r := (rP b s j).1) (g := v7) (by omega) (by omega))) cnX6_153 rfl rfl (nle rfl) (by exact ⟨nle rfl, nle rfl⟩) dX6_takeRule_96 ?_
              rintro _ Xl13 ⟨hxl13, rfl⟩
              rw [hxl13]
              refine Wx_st (st' := [.long (wsL ((rP b s j).1) (v7))]) rfl ?_
              refine x_genL (fun l13 el13 => ?_)
              refine Wx_st (st' := [.long (l13)]) rfl ?_
              refine x_lstore_n (i := 1) (lv' := [(1, .long (l13)), (3, .int (iI (0))), (5, .int (iI (v7))), (4, .int (iI ((s : Int) + (j : Int)))), (0, .ref 21)]) C dX6_takeRule_99 rfl (nlt rfl) rfl ?_
              refine x_iinc (lv' := [(4, .int (iI ((s : Int) + (j : Int) + 1))), (1, .long (l13)), (3, .int (iI (0))), (5, .int (iI (v7))), (0, .ref 21)]) C dX6_takeRule_100 rfl (nlt rfl) rfl ?_
              refine x_goto (tgt := 34) C dX6_takeRule_103 (by decide) ?_
              have n1 : l13 = (rP b s (j + 1)).1 := by show l13 = wsL _ _; rw [el13, ← gz]
              have n2 : 0 = zB (rP b s (j + 1)).2 := by show _ = zB ((rP b s j).2 || decide (sgF (b (s + j)) = 10)); rw [← gz]; rw [zB_or]; split <;> omega
              rw [show (s : Int) + j + 1 = (s : Int) + ((j + 1 : Nat) : Int) by omega, n1]
              rw [show iI (0) = iI (zB (rP b s (j + 1)).2) by rw [← n2]]
              refine Wx_pick [4, 3, 1, 0] ?_
              refine Wx_lv (lv' := [(4, .int (iI ((s : Int) + ((j + 1 : Nat) : Int)))), (3, .int (iI (zB (rP b s (j + 1)).2))), (1, .long ((rP b s (j + 1)).1)), (0, .ref 21)]) rfl ?_
              exact ih (j + 1) (by omega) (by omega) (fun i hi => by
                by_cases ei : i = j
                · subst ei
                  rw [← gz]
                  exact ⟨by omega, fun q => by (cases qq : (rP b s i).2); (rfl); (rw [qq] at qv0; exfalso; have : zB true = 1 := rfl; omega)⟩
                · exact hr i (by omega))
            · refine x_iconst C dX6_takeRule_87 ?_
              refine x_goto (tgt := 92) C dX6_takeRule_88 (by decide) ?_
              refine x_istore_n (i := 3) (lv' := [(3, .int (iI (1))), (5, .int (iI (v7))), (4, .int (iI ((s : Int) + (j : Int)))), (1, .long ((rP b s j).1)), (0, .ref 21)]) C dX6_takeRule_92 rfl (nlt rfl) rfl ?_
              refine x_lload_n (i := 1) C dX6_takeRule_93 rfl rfl ?_
              refine x_iload C dX6_takeRule_94 rfl ?_
              refine x_callSN (As := [.long ((rP b s j).1), .int (iI (v7))]) C (by exact (c_withSign (r := (rP b s j).1) (g := v7) (by omega) (by omega))) cnX6_153 rfl rfl (nle rfl) (by exact ⟨nle rfl, nle rfl⟩) dX6_takeRule_96 ?_
              rintro _ Xl14 ⟨hxl14, rfl⟩
              rw [hxl14]
              refine Wx_st (st' := [.long (wsL ((rP b s j).1) (v7))]) rfl ?_
              refine x_genL (fun l14 el14 => ?_)
              refine Wx_st (st' := [.long (l14)]) rfl ?_
              refine x_lstore_n (i := 1) (lv' := [(1, .long (l14)), (3, .int (iI (1))), (5, .int (iI (v7))), (4, .int (iI ((s : Int) + (j : Int)))), (0, .ref 21)]) C dX6_takeRule_99 rfl (nlt rfl) rfl ?_
              refine x_iinc (lv' := [(4, .int (iI ((s : Int) + (j : Int) + 1))), (1, .long (l14)), (3, .int (iI (1))), (5, .int (iI (v7))), (0, .ref 21)]) C dX6_takeRule_100 rfl (nlt rfl) rfl ?_
              refine x_goto (tgt := 34) C dX6_takeRule_103 (by decide) ?_
              have n1 : l14 = (rP b s (j + 1)).1 := by show l14 = wsL _ _; rw [el14, ← gz]
              have n2 : 1 = zB (rP b s (j + 1)).2 := by show _ = zB ((rP b s j).2 || decide (sgF (b (s + j)) = 10)); rw [← gz]; rw [zB_or]; split <;> omega
              rw [show (s : Int) + j + 1 = (s : Int) + ((j + 1 : Nat) : Int) by omega, n1]
              rw [show iI (1) = iI (zB (rP b s (j + 1)).2) by rw [← n2]]
              refine Wx_pick [4, 3, 1, 0] ?_
              refine Wx_lv (lv' := [(4, .int (iI ((s : Int) + ((j + 1 : Nat) : Int)))), (3, .int (iI (zB (rP b s (j + 1)).2))), (1, .long ((rP b s (j + 1)).1)), (0, .ref 21)]) rfl ?_
              exact ih (j + 1) (by omega) (by omega) (fun i hi => by
                by_cases ei : i = j
                · subst ei
                  rw [← gz]
                  exact ⟨by omega, fun q => by (cases qq : (rP b s i).2); (rfl); (rw [qq] at qv0; exfalso; have : zB true = 1 := rfl; omega)⟩
                · exact hr i (by omega))
        · refine x_iload_n (i := 3) C dX6_takeRule_70 rfl rfl ?_
          refine x_if_eq (tgt := 76) C dX6_takeRule_71 (by decide) ⟨by omega, by omega⟩ (fun h15 => ?_) (fun h15 => ?_)
          · have qv0 : sgF (b (s + j)) = 10 → zB (rP b s j).2 = 0 := fun g => by omega
            refine x_iload_n (i := 3) C dX6_takeRule_76 rfl rfl ?_
            refine x_if_ne (tgt := 87) C dX6_takeRule_77 (by decide) ⟨by omega, by omega⟩ (fun h16 => ?_) (fun h16 => ?_)
            · refine x_iconst C dX6_takeRule_87 ?_
              refine x_goto (tgt := 92) C dX6_takeRule_88 (by decide) ?_
              refine x_istore_n (i := 3) (lv' := [(3, .int (iI (1))), (5, .int (iI (v7))), (4, .int (iI ((s : Int) + (j : Int)))), (1, .long ((rP b s j).1)), (0, .ref 21)]) C dX6_takeRule_92 rfl (nlt rfl) rfl ?_
              refine x_lload_n (i := 1) C dX6_takeRule_93 rfl rfl ?_
              refine x_iload C dX6_takeRule_94 rfl ?_
              refine x_callSN (As := [.long ((rP b s j).1), .int (iI (v7))]) C (by exact (c_withSign (r := (rP b s j).1) (g := v7) (by omega) (by omega))) cnX6_153 rfl rfl (nle rfl) (by exact ⟨nle rfl, nle rfl⟩) dX6_takeRule_96 ?_
              rintro _ Xl17 ⟨hxl17, rfl⟩
              rw [hxl17]
              refine Wx_st (st' := [.long (wsL ((rP b s j).1) (v7))]) rfl ?_
              refine x_genL (fun l17 el17 => ?_)
              refine Wx_st (st' := [.long (l17)]) rfl ?_
              refine x_lstore_n (i := 1) (lv' := [(1, .long (l17)), (3, .int (iI (1))), (5, .int (iI (v7))), (4, .int (iI ((s : Int) + (j : Int)))), (0, .ref 21)]) C dX6_takeRule_99 rfl (nlt rfl) rfl ?_
              refine x_iinc (lv' := [(4, .int (iI ((s : Int) + (j : Int) + 1))), (1, .long (l17)), (3, .int (iI (1))), (5, .int (iI (v7))), (0, .ref 21)]) C dX6_takeRule_100 rfl (nlt rfl) rfl ?_
              refine x_goto (tgt := 34) C dX6_takeRule_103 (by decide) ?_
              have n1 : l17 = (rP b s (j + 1)).1 := by show l17 = wsL _ _; rw [el17, ← gz]
              have n2 : 1 = zB (rP b s (j + 1)).2 := by show _ = zB ((rP b s j).2 || decide (sgF (b (s + j)) = 10)); rw [← gz]; rw [zB_or]; split <;> omega
              rw [show (s : Int) + j + 1 = (s : Int) + ((j + 1 : Nat) : Int) by omega, n1]
              rw [show iI (1) = iI (zB (rP b s (j + 1)).2) by rw [← n2]]
              refine Wx_pick [4, 3, 1, 0] ?_
              refine Wx_lv (lv' := [(4, .int (iI ((s : Int) + ((j + 1 : Nat) : Int)))), (3, .int (iI (zB (rP b s (j + 1)).2))), (1, .long ((rP b s (j + 1)).1)), (0, .ref 21)]) rfl ?_
              exact ih (j + 1) (by omega) (by omega) (fun i hi => by
                by_cases ei : i = j
                · subst ei
                  rw [← gz]
                  exact ⟨by omega, fun q => by (cases qq : (rP b s i).2); (rfl); (rw [qq] at qv0; exfalso; have : zB true = 1 := rfl; omega)⟩
                · exact hr i (by omega))
            · refine x_iload C dX6_takeRule_80 rfl ?_
              refine x_bipush C dX6_takeRule_82 (by decide) ?_
              refine x_icmp_ne (tgt := 91) C dX6_takeRule_84 (by decide) ⟨by omega, by omega⟩ ⟨by omega, by omega⟩ (fun h18 => ?_) (fun h18 => ?_)
              · refine x_iconst C dX6_takeRule_91 ?_
                refine x_istore_n (i := 3) (lv' := [(3, .int (iI (0))), (5, .int (iI (v7))), (4, .int (iI ((s : Int) + (j : Int)))), (1, .long ((rP b s j).1)), (0, .ref 21)]) C dX6_takeRule_92 rfl (nlt rfl) rfl ?_
                refine x_lload_n (i := 1) C dX6_takeRule_93 rfl rfl ?_
                refine x_iload C dX6_takeRule_94 rfl ?_
                refine x_callSN (As := [.long ((rP b s j).1), .int (iI (v7))]) C (by exact (c_withSign (r := (rP b s j).1) (g := v7) (by omega) (by omega))) cnX6_153 rfl rfl (nle rfl) (by exact ⟨nle rfl, nle rfl⟩) dX6_takeRule_96 ?_
                rintro _ Xl19 ⟨hxl19, rfl⟩
                rw [hxl19]
                refine Wx_st (st' := [.long (wsL ((rP b s j).1) (v7))]) rfl ?_
                refine x_genL (fun l19 el19 => ?_)
                refine Wx_st (st' := [.long (l19)]) rfl ?_
                refine x_lstore_n (i := 1) (lv' := [(1, .long (l19)), (3, .int (iI (0))), (5, .int (iI (v7))), (4, .int (iI ((s : Int) + (j : Int)))), (0, .ref 21)]) C dX6_takeRule_99 rfl (nlt rfl) rfl ?_
                refine x_iinc (lv' := [(4, .int (iI ((s : Int) + (j : Int) + 1))), (1, .long (l19)), (3, .int (iI (0))), (5, .int (iI (v7))), (0, .ref 21)]) C dX6_takeRule_100 rfl (nlt rfl) rfl ?_
                refine x_goto (tgt := 34) C dX6_takeRule_103 (by decide) ?_
                have n1 : l19 = (rP b s (j + 1)).1 := by show l19 = wsL _ _; rw [el19, ← gz]
                have n2 : 0 = zB (rP b s (j + 1)).2 := by show _ = zB ((rP b s j).2 || decide (sgF (b (s + j)) = 10)); rw [← gz]; rw [zB_or]; split <;> omega
                rw [show (s : Int) + j + 1 = (s : Int) + ((j + 1 : Nat) : Int) by omega, n1]
                rw [show iI (0) = iI (zB (rP b s (j + 1)).2) by rw [← n2]]
                refine Wx_pick [4, 3, 1, 0] ?_
                refine Wx_lv (lv' := [(4, .int (iI ((s : Int) + ((j + 1 : Nat) : Int)))), (3, .int (iI (zB (rP b s (j + 1)).2))), (1, .long ((rP b s (j + 1)).1)), (0, .ref 21)]) rfl ?_
                exact ih (j + 1) (by omega) (by omega) (fun i hi => by
                  by_cases ei : i = j
                  · subst ei
                    rw [← gz]
                    exact ⟨by omega, fun q => by (cases qq : (rP b s i).2); (rfl); (rw [qq] at qv0; exfalso; have : zB true = 1 := rfl; omega)⟩
                  · exact hr i (by omega))
              · refine x_iconst C dX6_takeRule_87 ?_
                refine x_goto (tgt := 92) C dX6_takeRule_88 (by decide) ?_
                refine x_istore_n (i := 3) (lv' := [(3, .int (iI (1))), (5, .int (iI (v7))), (4, .int (iI ((s : Int) + (j : Int)))), (1, .long ((rP b s j).1)), (0, .ref 21)]) C dX6_takeRule_92 rfl (nlt rfl) rfl ?_
                refine x_lload_n (i := 1) C dX6_takeRule_93 rfl rfl ?_
                refine x_iload C dX6_takeRule_94 rfl ?_
                refine x_callSN (As := [.long ((rP b s j).1), .int (iI (v7))]) C (by exact (c_withSign (r := (rP b s j).1) (g := v7) (by omega) (by omega))) cnX6_153 rfl rfl (nle rfl) (by exact ⟨nle rfl, nle rfl⟩) dX6_takeRule_96 ?_
                rintro _ Xl20 ⟨hxl20, rfl⟩
                rw [hxl20]
                refine Wx_st (st' := [.long (wsL ((rP b s j).1) (v7))]) rfl ?_
                refine x_genL (fun l20 el20 => ?_)
                refine Wx_st (st' := [.long (l20)]) rfl ?_
                refine x_lstore_n (i := 1) (lv' := [(1, .long (l20)), (3, .int (iI (1))), (5, .int (iI (v7))), (4, .int (iI ((s : Int) + (j : Int)))), (0, .ref 21)]) C dX6_takeRule_99 rfl (nlt rfl) rfl ?_
                refine x_iinc (lv' := [(4, .int (iI ((s : Int) + (j : Int) + 1))), (1, .long (l20)), (3, .int (iI (1))), (5, .int (iI (v7))), (0, .ref 21)]) C dX6_takeRule_100 rfl (nlt rfl) rfl ?_
                refine x_goto (tgt := 34) C dX6_takeRule_103 (by decide) ?_
                have n1 : l20 = (rP b s (j + 1)).1 := by show l20 = wsL _ _; rw [el20, ← gz]
                have n2 : 1 = zB (rP b s (j + 1)).2 := by show _ = zB ((rP b s j).2 || decide (sgF (b (s + j)) = 10)); rw [← gz]; rw [zB_or]; split <;> omega
                rw [show (s : Int) + j + 1 = (s : Int) + ((j + 1 : Nat) : Int) by omega, n1]
                rw [show iI (1) = iI (zB (rP b s (j + 1)).2) by rw [← n2]]
                refine Wx_pick [4, 3, 1, 0] ?_
                refine Wx_lv (lv' := [(4, .int (iI ((s : Int) + ((j + 1 : Nat) : Int)))), (3, .int (iI (zB (rP b s (j + 1)).2))), (1, .long ((rP b s (j + 1)).1)), (0, .ref 21)]) rfl ?_
                exact ih (j + 1) (by omega) (by omega) (fun i hi => by
                  by_cases ei : i = j
                  · subst ei
                    rw [← gz]
                    exact ⟨by omega, fun q => by (cases qq : (rP b s i).2); (rfl); (rw [qq] at qv0; exfalso; have : zB true = 1 := rfl; omega)⟩
                  · exact hr i (by omega))
          · refine x_iconst C dX6_takeRule_74 ?_
            exact x_zret C hQ (by omega) dX6_takeRule_75 (⟨_, rfl, hH, hF, .inr ⟨rfl, fun q => by have q3 := q.2.2 j (by omega); rw [← gz] at q3; (have q4 := q3.2 (by omega); have q5 : zB (rP b s j).2 = 0 := (by rw [q4]; rfl); omega), hK⟩⟩)
set_option maxHeartbeats 4000000 in
set_option maxRecDepth 100000 in
theorem c_takeRule {D : va_G} {ad : Nat → Nat} {cA : Nat → ClassId} {X0 : XT} {b : Nat → Int} {N : Nat} (hT0 : TPX b N X0) (hH : HG vX X0) {s : Nat} (hF : FR mdTR X0 X0) (hK : TKX b N s X0) : MetS (wX D ad cA) yX6_takeRule cX6_takeRule 6 (some .boolean) 7 159 [.ref 21] X0 (fun r X1 => ∃ u : Int, r = some (.int (iI u)) ∧ HG vX X1 ∧ FR mdTR X0 X1 ∧ ((u = 1 ∧ tr b N s ∧ TKX b N (nx b N s) X1 ∧ X1.2.1 21 2 = rV b N s) ∨ (u = 0 ∧ ¬ tr b N s ∧ TKX b N s X1))) := by
  have ke := hK.2.1
  have ks := hK.1
  have kn := hK.2.2.1
  have te := tE_bd b N s hK.2.2.2.2
  have n6 := hT0.2.2.1
  refine MetS.mk (own := RX6) (by decide +kernel) rfl (nle rfl) (fun E C HS hQ => ?_)
  refine Wx_lv (lv' := [(0, .ref 21)]) rfl ?_
  refine x_aload_n (i := 0) C dX6_takeRule_0 rfl rfl ?_
  refine x_getI C fkX_X6_61 (nlt rfl) rfl dX6_takeRule_1 ?_
  refine x_gen (fun v1 ev1 => ?_)
  have qv1 : ((-2147483648) : Int) ≤ v1 ∧ v1 ≤ (2147483647 : Int) := by
    rw [ev1]
    exact hH.rF (k := 21) (i := 7) rfl rfl
  refine x_iconst C dX6_takeRule_4 ?_
  refine x_icmp_ne (tgt := 22) C dX6_takeRule_5 (by decide) ⟨by omega, by omega⟩ ⟨by omega, by omega⟩ (fun h2 => ?_) (fun h2 => ?_)
  · refine x_iconst C dX6_takeRule_22 ?_
    exact x_zret C hQ (by omega) dX6_takeRule_23 (⟨_, rfl, hH, hF, .inr ⟨rfl, fun q => by have q1 := q.1; have q2 := q.2.1; omega, hK⟩⟩)
  · refine x_aload_n (i := 0) C dX6_takeRule_8 rfl rfl ?_
    refine x_getI C fkX_X6_39 (nlt rfl) rfl dX6_takeRule_9 ?_
    refine x_gen (fun v3 ev3 => ?_)
    have qv3 : ((-2147483648) : Int) ≤ v3 ∧ v3 ≤ (2147483647 : Int) := by
      rw [ev3]
      exact hH.rF (k := 21) (i := 9) rfl rfl
    refine x_aload_n (i := 0) C dX6_takeRule_12 rfl rfl ?_
    refine x_getI C fkX_X6_73 (nlt rfl) rfl dX6_takeRule_13 ?_
    refine x_gen (fun v4 ev4 => ?_)
    have qv4 : ((-2147483648) : Int) ≤ v4 ∧ v4 ≤ (2147483647 : Int) := by
      rw [ev4]
      exact hH.rF (k := 21) (i := 8) rfl rfl
    refine x_isub C dX6_takeRule_16 ?_
    refine x_bipush C dX6_takeRule_17 (by decide) ?_
    refine x_icmp_le (tgt := 24) C dX6_takeRule_19 (by decide) ⟨by omega, by omega⟩ ⟨by omega, by omega⟩ (fun h5 => ?_) (fun h5 => ?_)
    · refine x_lconst C dX6_takeRule_24 ?_
      refine x_eqL (b := 0) rfl ?_
      refine x_lstore_n (i := 1) (lv' := [(1, .long (0)), (0, .ref 21)]) C dX6_takeRule_25 rfl (nlt rfl) rfl ?_
      refine x_iconst C dX6_takeRule_26 ?_
      refine x_istore_n (i := 3) (lv' := [(3, .int (iI (0))), (1, .long (0)), (0, .ref 21)]) C dX6_takeRule_27 rfl (nlt rfl) rfl ?_
      refine x_aload_n (i := 0) C dX6_takeRule_28 rfl rfl ?_
      refine x_getI C fkX_X6_73 (nlt rfl) rfl dX6_takeRule_29 ?_
      refine x_gen (fun v6 ev6 => ?_)
      have qv6 : ((-2147483648) : Int) ≤ v6 ∧ v6 ≤ (2147483647 : Int) := by
        rw [ev6]
        exact hH.rF (k := 21) (i := 8) rfl rfl
      refine x_istore (lv' := [(4, .int (iI (v6))), (3, .int (iI (0))), (1, .long (0)), (0, .ref 21)]) C dX6_takeRule_32 (nlt rfl) rfl ?_
      rw [show v6 = (s : Int) + ((0 : Nat) : Int) by omega]
      refine Wx_pick [4, 3, 1, 0] ?_
      refine Wx_lv (lv' := [(4, .int (iI ((s : Int) + ((0 : Nat) : Int)))), (3, .int (iI (0))), (1, .long (0)), (0, .ref 21)]) rfl ?_
      exact c_takeRuleL hT0 hH hF hK (by omega) (by omega) C HS hQ 21 0 (by omega) (by omega) (fun i hi => absurd hi (by omega))
    · refine x_iconst C dX6_takeRule_22 ?_
      exact x_zret C hQ (by omega) dX6_takeRule_23 (⟨_, rfl, hH, hF, .inr ⟨rfl, fun q => by have q1 := q.1; have q2 := q.2.1; omega, hK⟩⟩)
set_option maxHeartbeats 4000000 in
set_option maxRecDepth 100000 in
theorem c_addMan {D : va_G} {ad : Nat → Nat} {cA : Nat → ClassId} {X0 : XT} {B : BC} {f p : Int} (ff : inR f) (pp : inR p) (m0 : 0 ≤ B.2.2.2.2.1) (m1 : B.2.2.2.2.1 ≤ 6) (hH : HG vX X0) (hF : FR mdMN X0 X0) (hB : BDX B X0) : MetX (wX D ad cA) yX0_addMan cX0_addMan 3 none 0 0 [.ref 22, .int (iI (f)), .int (iI (p))] X0 (fun r X1 => r = none ∧ HG vX X1 ∧ FR mdMN X0 X1 ∧ BDX (bmn B f p) X1) := by
  unfold inR at ff pp
  have bm := hB.2.2.2.2.1
  refine MetX.mk (own := RX0) (by decide +kernel) rfl (nle rfl) (fun E C hQ => ?_)
  refine Wx_lv (lv' := [(0, .ref 22), (1, .int (iI (f))), (2, .int (iI (p)))]) rfl ?_
  refine x_aload_n (i := 0) C dX0_addMan_0 rfl rfl ?_
  refine x_getI C fkX_X0_32 (nlt rfl) rfl dX0_addMan_1 ?_
  refine x_gen (fun v1 ev1 => ?_)
  have qv1 : ((-2147483648) : Int) ≤ v1 ∧ v1 ≤ (2147483647 : Int) := by
    rw [ev1]
    exact hH.rF (k := 22) (i := 4) rfl rfl
  refine x_bipush C dX0_addMan_4 (by decide) ?_
  refine x_icmp_ge (tgt := 39) C dX0_addMan_6 (by decide) ⟨by omega, by omega⟩ ⟨by omega, by omega⟩ (fun h2 => ?_) (fun h2 => ?_)
  · exact x_vret C hQ dX0_addMan_39 (⟨rfl, hH, hF, by unfold bmn; rw [if_neg (by have := hB.2.2.2.2.1; omega)]; exact hB⟩)
  · refine x_aload_n (i := 0) C dX0_addMan_9 rfl rfl ?_
    refine x_getRs (r := 23) C fkX_X0_9 (nlt rfl) rfl (HG.rR hH (k := 22) (i := 5) rfl rfl) dX0_addMan_10 ?_
    refine x_aload_n (i := 0) C dX0_addMan_13 rfl rfl ?_
    refine x_getI C fkX_X0_32 (nlt rfl) rfl dX0_addMan_14 ?_
    refine x_gen (fun v3 ev3 => ?_)
    have qv3 : ((-2147483648) : Int) ≤ v3 ∧ v3 ≤ (2147483647 : Int) := by
      rw [ev3]
      exact hH.rF (k := 22) (i := 4) rfl rfl
    refine x_iload_n (i := 1) C dX0_addMan_17 rfl rfl ?_
    refine x_iast C (nlt rfl) rfl rfl (nle rfl) (by omega) (by omega) dX0_addMan_18 ?_
    refine x_gX (fun Yy4 eYy4 => ?_)
    have hHy4 : HG vX Yy4 := by
      rw [eYy4]
      exact hg_wA hH (n := 6) (p := ((-2147483648), 2147483647)) (by decide +kernel) (by omega) ⟨by omega, by omega⟩
    have hFy4 : FR mdMN X0 Yy4 := by
      rw [eYy4]
      exact FR.upI hF (rfl)
    have hGy4 : FR [(23, none)] X0 Yy4 := by
      rw [eYy4]
      exact FR.upI FR.rf rfl
    refine x_aload_n (i := 0) C dX0_addMan_19 rfl rfl ?_
    refine x_getRs (r := 24) C fkX_X0_15 (nlt rfl) rfl (HG.rR hHy4 (k := 22) (i := 6) rfl rfl) dX0_addMan_20 ?_
    refine x_aload_n (i := 0) C dX0_addMan_23 rfl rfl ?_
    refine x_getI C fkX_X0_32 (nlt rfl) rfl dX0_addMan_24 ?_
    refine x_gen (fun v5 ev5 => ?_)
    have qv5 : ((-2147483648) : Int) ≤ v5 ∧ v5 ≤ (2147483647 : Int) := by
      rw [ev5]
      exact hHy4.rF (k := 22) (i := 4) rfl rfl
    have kv5 : v5 = X0.1 22 4 := by rw [ev5, eYy4, upI_nc (by decide)]
    refine x_iload_n (i := 2) C dX0_addMan_27 rfl rfl ?_
    refine x_iast C (nlt rfl) rfl rfl (nle rfl) (by omega) (by omega) dX0_addMan_28 ?_
    refine x_gX (fun Yy6 eYy6 => ?_)
    have hHy6 : HG vX Yy6 := by
      rw [eYy6]
      exact hg_wA hHy4 (n := 6) (p := ((-2147483648), 2147483647)) (by decide +kernel) (by omega) ⟨by omega, by omega⟩
    have hFy6 : FR mdMN X0 Yy6 := by
      rw [eYy6]
      exact FR.upI hFy4 (rfl)
    have hGy6 : FR [(24, none)] Yy4 Yy6 := by
      rw [eYy6]
      exact FR.upI FR.rf rfl
    refine x_aload_n (i := 0) C dX0_addMan_29 rfl rfl ?_
    refine x_dup C dX0_addMan_30 rfl ?_
    refine x_getI C fkX_X0_32 (nlt rfl) rfl dX0_addMan_31 ?_
    refine x_gen (fun v7 ev7 => ?_)
    have qv7 : ((-2147483648) : Int) ≤ v7 ∧ v7 ≤ (2147483647 : Int) := by
      rw [ev7]
      exact hHy6.rF (k := 22) (i := 4) rfl rfl
    have kv7 : v7 = X0.1 22 4 := by rw [ev7, eYy6, upI_nc (by decide), eYy4, upI_nc (by decide)]
    refine x_iconst C dX0_addMan_34 ?_
    refine x_iadd C dX0_addMan_35 ?_
    refine x_putI C pkX_X0_32 (nlt rfl) rfl dX0_addMan_36 ?_
    refine x_gX (fun Yy8 eYy8 => ?_)
    have hHy8 : HG vX Yy8 := by
      rw [eYy8]
      exact hg_wF hHy6 (p := ((-2147483648), 2147483647)) rfl ⟨by omega, by omega⟩
    have hFy8 : FR mdMN X0 Yy8 := by
      rw [eYy8]
      exact FR.upI hFy6 (rfl)
    replace eYy8 : Yy8 = upI Yy6 22 4 (v7 + 1) := eYy8
    have hGy8 : FR [(22, some 4)] Yy6 Yy8 := by
      rw [eYy8]
      exact FR.upI FR.rf rfl
    exact x_vret C hQ dX0_addMan_39 (⟨rfl, hHy8, hFy8, by unfold bmn; rw [if_pos (by omega)]; exact ⟨by rw [eYy8, upI_ne (by decide), eYy6, upI_nc (by decide), eYy4, upI_nc (by decide)]; exact hB.1, by rw [eYy8, upI_ne (by decide), eYy6, upI_nc (by decide), eYy4, upI_nc (by decide)]; exact hB.2.1, by rw [eYy8, upI_2, eYy6, upI_2, eYy4, upI_2]; exact hB.2.2.1, by rw [eYy8, upI_2, eYy6, upI_2, eYy4, upI_2]; exact hB.2.2.2.1, by rw [eYy8, upI_at]; show _ = B.2.2.2.2.1 + 1; omega, fun j hj => ⟨by (by_cases ej : j = (v3).toNat); (rw [ej, eYy8, upI_nc (by decide), eYy6, upI_nc (by decide), eYy4, upI_at]; show _ = upF B.2.2.2.2.2.1 B.2.2.2.2.1 f _; unfold upF; rw [if_pos (by omega)]); (rw [eYy8, upI_nc (by decide), eYy6, upI_nc (by decide), eYy4, upI_ne ej]; show _ = upF B.2.2.2.2.2.1 B.2.2.2.2.1 f _; unfold upF; rw [if_neg (by omega)]; exact (hB.2.2.2.2.2 j hj).1), by (by_cases ej : j = (v5).toNat); (rw [ej, eYy8, upI_nc (by decide), eYy6, upI_at]; show _ = upF B.2.2.2.2.2.2 B.2.2.2.2.1 p _; unfold upF; rw [if_pos (by omega)]); (rw [eYy8, upI_nc (by decide), eYy6, upI_ne ej, eYy4, upI_nc (by decide)]; show _ = upF B.2.2.2.2.2.2 B.2.2.2.2.1 p _; unfold upF; rw [if_neg (by omega)]; exact (hB.2.2.2.2.2 j hj).2)⟩⟩⟩)
set_option maxHeartbeats 4000000 in
set_option maxRecDepth 100000 in
theorem c_addMove {D : va_G} {ad : Nat → Nat} {cA : Nat → ClassId} {X0 : XT} {G : GC} {f : Int64} {p : Int} (pp : inR p) (m0 : 0 ≤ G.1) (m1 : G.1 ≤ 30) (hH : HG vX X0) (hF : FR mdMV X0 X0) (hM : GMX G X0) : MetX (wX D ad cA) yX2_addMove cX2_addMove 4 none 0 0 [.ref 25, .long (f), .int (iI (p))] X0 (fun r X1 => r = none ∧ HG vX X1 ∧ FR mdMV X0 X1 ∧ GMX (gmv G f p) X1) := by
  unfold inR at pp
  have bm := hM.1
  refine MetX.mk (own := RX2) (by decide +kernel) rfl (nle rfl) (fun E C hQ => ?_)
  refine Wx_lv (lv' := [(0, .ref 25), (1, .long (f)), (3, .int (iI (p)))]) rfl ?_
  refine x_aload_n (i := 0) C dX2_addMove_0 rfl rfl ?_
  refine x_getI C fkX_X2_19 (nlt rfl) rfl dX2_addMove_1 ?_
  refine x_gen (fun v1 ev1 => ?_)
  have qv1 : ((-2147483648) : Int) ≤ v1 ∧ v1 ≤ (2147483647 : Int) := by
    rw [ev1]
    exact hH.rF (k := 25) (i := 0) rfl rfl
  refine x_bipush C dX2_addMove_4 (by decide) ?_
  refine x_icmp_ge (tgt := 39) C dX2_addMove_6 (by decide) ⟨by omega, by omega⟩ ⟨by omega, by omega⟩ (fun h2 => ?_) (fun h2 => ?_)
  · exact x_vret C hQ dX2_addMove_39 (⟨rfl, hH, hF, by unfold gmv; rw [if_neg (by have := hM.1; omega)]; exact hM⟩)
  · refine x_aload_n (i := 0) C dX2_addMove_9 rfl rfl ?_
    refine x_getRs (r := 26) C fkX_X2_9 (nlt rfl) rfl (HG.rR hH (k := 25) (i := 1) rfl rfl) dX2_addMove_10 ?_
    refine x_aload_n (i := 0) C dX2_addMove_13 rfl rfl ?_
    refine x_getI C fkX_X2_19 (nlt rfl) rfl dX2_addMove_14 ?_
    refine x_gen (fun v3 ev3 => ?_)
    have qv3 : ((-2147483648) : Int) ≤ v3 ∧ v3 ≤ (2147483647 : Int) := by
      rw [ev3]
      exact hH.rF (k := 25) (i := 0) rfl rfl
    refine x_lload_n (i := 1) C dX2_addMove_17 rfl rfl ?_
    refine x_last C (nlt rfl) rfl rfl (nle rfl) (by omega) (by omega) dX2_addMove_18 ?_
    refine x_gX (fun Yy4 eYy4 => ?_)
    have hHy4 : HG vX Yy4 := by
      rw [eYy4]
      exact hg_wLA hH (n := 30) (p := ((-9223372036854775808), 9223372036854775807)) (by decide +kernel) (by omega) (l64 _)
    have hFy4 : FR mdMV X0 Yy4 := by
      rw [eYy4]
      exact FR.upL hF (rfl)
    have hGy4 : FR [(26, none)] X0 Yy4 := by
      rw [eYy4]
      exact FR.upL FR.rf rfl
    refine x_aload_n (i := 0) C dX2_addMove_19 rfl rfl ?_
    refine x_getRs (r := 27) C fkX_X2_15 (nlt rfl) rfl (HG.rR hHy4 (k := 25) (i := 2) rfl rfl) dX2_addMove_20 ?_
    refine x_aload_n (i := 0) C dX2_addMove_23 rfl rfl ?_
    refine x_getI C fkX_X2_19 (nlt rfl) rfl dX2_addMove_24 ?_
    refine x_gen (fun v5 ev5 => ?_)
    have qv5 : ((-2147483648) : Int) ≤ v5 ∧ v5 ≤ (2147483647 : Int) := by
      rw [ev5]
      exact hHy4.rF (k := 25) (i := 0) rfl rfl
    have kv5 : v5 = X0.1 25 0 := by rw [ev5, eYy4, upL_1]
    refine x_iload_n (i := 3) C dX2_addMove_27 rfl rfl ?_
    refine x_iast C (nlt rfl) rfl rfl (nle rfl) (by omega) (by omega) dX2_addMove_28 ?_
    refine x_gX (fun Yy6 eYy6 => ?_)
    have hHy6 : HG vX Yy6 := by
      rw [eYy6]
      exact hg_wA hHy4 (n := 30) (p := ((-2147483648), 2147483647)) (by decide +kernel) (by omega) ⟨by omega, by omega⟩
    have hFy6 : FR mdMV X0 Yy6 := by
      rw [eYy6]
      exact FR.upI hFy4 (rfl)
    have hGy6 : FR [(27, none)] Yy4 Yy6 := by
      rw [eYy6]
      exact FR.upI FR.rf rfl
    refine x_aload_n (i := 0) C dX2_addMove_29 rfl rfl ?_
    refine x_dup C dX2_addMove_30 rfl ?_
    refine x_getI C fkX_X2_19 (nlt rfl) rfl dX2_addMove_31 ?_
    refine x_gen (fun v7 ev7 => ?_)
    have qv7 : ((-2147483648) : Int) ≤ v7 ∧ v7 ≤ (2147483647 : Int) := by
      rw [ev7]
      exact hHy6.rF (k := 25) (i := 0) rfl rfl
    have kv7 : v7 = X0.1 25 0 := by rw [ev7, eYy6, upI_nc (by decide), eYy4, upL_1]
    refine x_iconst C dX2_addMove_34 ?_
    refine x_iadd C dX2_addMove_35 ?_
    refine x_putI C pkX_X2_19 (nlt rfl) rfl dX2_addMove_36 ?_
    refine x_gX (fun Yy8 eYy8 => ?_)
    have hHy8 : HG vX Yy8 := by
      rw [eYy8]
      exact hg_wF hHy6 (p := ((-2147483648), 2147483647)) rfl ⟨by omega, by omega⟩
    have hFy8 : FR mdMV X0 Yy8 := by
      rw [eYy8]
      exact FR.upI hFy6 (rfl)
    replace eYy8 : Yy8 = upI Yy6 25 0 (v7 + 1) := eYy8
    have hGy8 : FR [(25, some 0)] Yy6 Yy8 := by
      rw [eYy8]
      exact FR.upI FR.rf rfl
    exact x_vret C hQ dX2_addMove_39 (⟨rfl, hHy8, hFy8, by unfold gmv; rw [if_pos (by omega)]; exact ⟨by rw [eYy8, upI_at]; show _ = G.1 + 1; omega, fun j hj => ⟨by (by_cases ej : j = (v3).toNat); (rw [ej, eYy8, upI_2, eYy6, upI_2, eYy4, upL_at]; show _ = upJ G.2.1 G.1 f _; unfold upJ; rw [if_pos (by omega)]); (rw [eYy8, upI_2, eYy6, upI_2, eYy4, upL_ne ej]; show _ = upJ G.2.1 G.1 f _; unfold upJ; rw [if_neg (by omega)]; exact (hM.2 j hj).1), by (by_cases ej : j = (v5).toNat); (rw [ej, eYy8, upI_nc (by decide), eYy6, upI_at]; show _ = upF G.2.2 G.1 p _; unfold upF; rw [if_pos (by omega)]); (rw [eYy8, upI_nc (by decide), eYy6, upI_ne ej, eYy4, upL_1]; show _ = upF G.2.2 G.1 p _; unfold upF; rw [if_neg (by omega)]; exact (hM.2 j hj).2)⟩⟩⟩)
set_option maxHeartbeats 4000000 in
set_option maxRecDepth 100000 in
theorem c_readSize {D : va_G} {ad : Nat → Nat} {cA : Nat → ClassId} {X0 : XT} {b : Nat → Int} {N : Nat} (hT0 : TPX b N X0) (hH : HG vX X0) {s : Nat} {F : Int × Int} {B : BC} (m0 : 0 ≤ B.2.2.2.2.1) (m1 : B.2.2.2.2.1 ≤ 6) (hF : FR mdBL X0 X0) (hK : TKX b N s X0) (hL : FLX F X0) (hB : BDX B X0) : MetX (wX D ad cA) yX6_readSize cX6_readSize 3 (some .boolean) 3 65 [.ref 21] X0 (fun r X1 => ∃ u : Int, r = some (.int (iI u)) ∧ HG vX X1 ∧ FR mdBL X0 X1 ∧ TKX b N (tnS b N (tnS b N s)) X1 ∧ FLX (tnF b N 2 6 (tnS b N s) (tnF b N 2 6 s F)) X1 ∧ BDX (bsz B (tnV b N s) (tnV b N (tnS b N s))) X1 ∧ ((u = 1 ∧ tnV b N s ≠ -1 ∧ tnV b N (tnS b N s) ≠ -1) ∨ (u = 0 ∧ ¬ (tnV b N s ≠ -1 ∧ tnV b N (tnS b N s) ≠ -1)))) := by
  refine MetX.mk (own := RX6) (by decide +kernel) rfl (nle rfl) (fun E C hQ => ?_)
  refine Wx_lv (lv' := [(0, .ref 21)]) rfl ?_
  refine x_aload_n (i := 0) C dX6_readSize_0 rfl rfl ?_
  refine x_iconst C dX6_readSize_1 ?_
  refine x_bipush C dX6_readSize_2 (by decide) ?_
  refine x_callV (As := [.int (iI (2)), .int (iI (6))]) C (by exact (c_takeNumber (s := s) (F := F) (lo := 2) (hi := 6) (hT0.fr hF rfl) hH (by omega) (by omega) (by omega) (by omega) FR.rf hK hL)) ckX6_118 im_X6_takeNumber se_X6_takeNumber (nlt rfl) rfl rfl rfl rfl (nle rfl) (by exact ⟨nle rfl, nle rfl⟩) dX6_readSize_4 ?_
  rintro _ Yy1 ⟨v2, rfl, ev2, hHy1, hGy1, hKy1, hLy1⟩
  have hFy1 : FR mdBL X0 Yy1 := FR.tr hF hGy1 (by decide)
  have bv2 : -1 ≤ v2 ∧ v2 ≤ 99 := by
    rw [ev2]
    unfold tnV
    split
    · rename_i k2
      have := tV_bd k2 hK.2.2.2.2
      omega
    · omega
  have hBy1 := hB.fr hGy1 rfl
  refine Wx_st (st' := [.int (iI (v2))]) rfl ?_
  refine x_istore_n (i := 1) (lv' := [(1, .int (iI (v2))), (0, .ref 21)]) C dX6_readSize_7 rfl (nlt rfl) rfl ?_
  refine x_aload_n (i := 0) C dX6_readSize_8 rfl rfl ?_
  refine x_iconst C dX6_readSize_9 ?_
  refine x_bipush C dX6_readSize_10 (by decide) ?_
  refine x_callV (As := [.int (iI (2)), .int (iI (6))]) C (by exact (c_takeNumber (s := (tnS b N s)) (F := (tnF b N 2 6 s F)) (lo := 2) (hi := 6) (hT0.fr hFy1 rfl) hHy1 (by omega) (by omega) (by omega) (by omega) FR.rf hKy1 hLy1)) ckX6_118 im_X6_takeNumber se_X6_takeNumber (nlt rfl) rfl rfl rfl rfl (nle rfl) (by exact ⟨nle rfl, nle rfl⟩) dX6_readSize_12 ?_
  rintro _ Yy3 ⟨v4, rfl, ev4, hHy3, hGy3, hKy3, hLy3⟩
  have hFy3 : FR mdBL X0 Yy3 := FR.tr hFy1 hGy3 (by decide)
  have bv4 : -1 ≤ v4 ∧ v4 ≤ 99 := by
    rw [ev4]
    unfold tnV
    split
    · rename_i k2
      have := tV_bd k2 hKy1.2.2.2.2
      omega
    · omega
  have hBy3 := hBy1.fr hGy3 rfl
  refine Wx_st (st' := [.int (iI (v4))]) rfl ?_
  refine x_istore_n (i := 2) (lv' := [(2, .int (iI (v4))), (1, .int (iI (v2))), (0, .ref 21)]) C dX6_readSize_15 rfl (nlt rfl) rfl ?_
  refine x_aload_n (i := 0) C dX6_readSize_16 rfl rfl ?_
  refine x_getRs (r := 22) C fkX_X6_12 (nlt rfl) rfl (HG.rR hHy3 (k := 21) (i := 0) rfl rfl) dX6_readSize_17 ?_
  refine x_iload_n (i := 1) C dX6_readSize_20 rfl rfl ?_
  refine x_putI C pkX_X6_121 (nlt rfl) rfl dX6_readSize_21 ?_
  refine x_gX (fun Yy5 eYy5 => ?_)
  have hHy5 : HG vX Yy5 := by
    rw [eYy5]
    exact hg_wF hHy3 (p := ((-2147483648), 2147483647)) rfl ⟨by omega, by omega⟩
  have hFy5 : FR mdBL X0 Yy5 := by
    rw [eYy5]
    exact FR.upI hFy3 (rfl)
  replace eYy5 : Yy5 = upI Yy3 22 0 (v2) := eYy5
  have hGy5 : FR [(22, some 0)] Yy3 Yy5 := by
    rw [eYy5]
    exact FR.upI FR.rf rfl
  have hKy5 := hKy3.fr hGy5 rfl
  have hLy5 := hLy3.fr hGy5 rfl
  refine x_aload_n (i := 0) C dX6_readSize_24 rfl rfl ?_
  refine x_getRs (r := 22) C fkX_X6_12 (nlt rfl) rfl (HG.rR hHy5 (k := 21) (i := 0) rfl rfl) dX6_readSize_25 ?_
  refine x_iload_n (i := 2) C dX6_readSize_28 rfl rfl ?_
  refine x_putI C pkX_X6_124 (nlt rfl) rfl dX6_readSize_29 ?_
  refine x_gX (fun Yy6 eYy6 => ?_)
  have hHy6 : HG vX Yy6 := by
    rw [eYy6]
    exact hg_wF hHy5 (p := ((-2147483648), 2147483647)) rfl ⟨by omega, by omega⟩
  have hFy6 : FR mdBL X0 Yy6 := by
    rw [eYy6]
    exact FR.upI hFy5 (rfl)
  replace eYy6 : Yy6 = upI Yy5 22 1 (v4) := eYy6
  have hGy6 : FR [(22, some 1)] Yy5 Yy6 := by
    rw [eYy6]
    exact FR.upI FR.rf rfl
  have hKy6 := hKy5.fr hGy6 rfl
  have hLy6 := hLy5.fr hGy6 rfl
  refine x_iload_n (i := 1) C dX6_readSize_32 rfl rfl ?_
  refine x_iconst C dX6_readSize_33 ?_
  refine x_icmp_eq (tgt := 46) C dX6_readSize_34 (by decide) ⟨by omega, by omega⟩ ⟨by omega, by omega⟩ (fun h7 => ?_) (fun h7 => ?_)
  · refine x_iconst C dX6_readSize_46 ?_
    exact x_zret C hQ (by omega) dX6_readSize_47 (⟨_, rfl, hHy6, hFy6, hKy6, hLy6, ⟨by rw [eYy6, upI_ne (by decide), eYy5, upI_at]; exact ev2, by rw [eYy6, upI_at]; exact ev4, by rw [eYy6, upI_2, eYy5, upI_2, (hGy3 22 2 rfl).2.1, (hGy1 22 2 rfl).2.1]; exact hB.2.2.1, by rw [eYy6, upI_2, eYy5, upI_2, (hGy3 22 3 rfl).2.1, (hGy1 22 3 rfl).2.1]; exact hB.2.2.2.1, by rw [eYy6, upI_ne (by decide), eYy5, upI_ne (by decide), (hGy3 22 4 rfl).1, (hGy1 22 4 rfl).1]; exact hB.2.2.2.2.1, fun j hj => ⟨by rw [eYy6, upI_nc (by decide), eYy5, upI_nc (by decide), (hGy3 23 j rfl).1, (hGy1 23 j rfl).1]; exact (hB.2.2.2.2.2 j hj).1, by rw [eYy6, upI_nc (by decide), eYy5, upI_nc (by decide), (hGy3 24 j rfl).1, (hGy1 24 j rfl).1]; exact (hB.2.2.2.2.2 j hj).2⟩⟩, .inr ⟨rfl, by omega⟩⟩)
  · refine x_iload_n (i := 2) C dX6_readSize_37 rfl rfl ?_
    refine x_iconst C dX6_readSize_38 ?_
    refine x_icmp_eq (tgt := 46) C dX6_readSize_39 (by decide) ⟨by omega, by omega⟩ ⟨by omega, by omega⟩ (fun h8 => ?_) (fun h8 => ?_)
    · refine x_iconst C dX6_readSize_46 ?_
      exact x_zret C hQ (by omega) dX6_readSize_47 (⟨_, rfl, hHy6, hFy6, hKy6, hLy6, ⟨by rw [eYy6, upI_ne (by decide), eYy5, upI_at]; exact ev2, by rw [eYy6, upI_at]; exact ev4, by rw [eYy6, upI_2, eYy5, upI_2, (hGy3 22 2 rfl).2.1, (hGy1 22 2 rfl).2.1]; exact hB.2.2.1, by rw [eYy6, upI_2, eYy5, upI_2, (hGy3 22 3 rfl).2.1, (hGy1 22 3 rfl).2.1]; exact hB.2.2.2.1, by rw [eYy6, upI_ne (by decide), eYy5, upI_ne (by decide), (hGy3 22 4 rfl).1, (hGy1 22 4 rfl).1]; exact hB.2.2.2.2.1, fun j hj => ⟨by rw [eYy6, upI_nc (by decide), eYy5, upI_nc (by decide), (hGy3 23 j rfl).1, (hGy1 23 j rfl).1]; exact (hB.2.2.2.2.2 j hj).1, by rw [eYy6, upI_nc (by decide), eYy5, upI_nc (by decide), (hGy3 24 j rfl).1, (hGy1 24 j rfl).1]; exact (hB.2.2.2.2.2 j hj).2⟩⟩, .inr ⟨rfl, by omega⟩⟩)
    · refine x_iconst C dX6_readSize_42 ?_
      refine x_goto (tgt := 47) C dX6_readSize_43 (by decide) ?_
      exact x_zret C hQ (by omega) dX6_readSize_47 (⟨_, rfl, hHy6, hFy6, hKy6, hLy6, ⟨by rw [eYy6, upI_ne (by decide), eYy5, upI_at]; exact ev2, by rw [eYy6, upI_at]; exact ev4, by rw [eYy6, upI_2, eYy5, upI_2, (hGy3 22 2 rfl).2.1, (hGy1 22 2 rfl).2.1]; exact hB.2.2.1, by rw [eYy6, upI_2, eYy5, upI_2, (hGy3 22 3 rfl).2.1, (hGy1 22 3 rfl).2.1]; exact hB.2.2.2.1, by rw [eYy6, upI_ne (by decide), eYy5, upI_ne (by decide), (hGy3 22 4 rfl).1, (hGy1 22 4 rfl).1]; exact hB.2.2.2.2.1, fun j hj => ⟨by rw [eYy6, upI_nc (by decide), eYy5, upI_nc (by decide), (hGy3 23 j rfl).1, (hGy1 23 j rfl).1]; exact (hB.2.2.2.2.2 j hj).1, by rw [eYy6, upI_nc (by decide), eYy5, upI_nc (by decide), (hGy3 24 j rfl).1, (hGy1 24 j rfl).1]; exact (hB.2.2.2.2.2 j hj).2⟩⟩, .inl ⟨rfl, by omega, by omega⟩⟩)
set_option maxHeartbeats 4000000 in
set_option maxRecDepth 100000 in
theorem c_readMan {D : va_G} {ad : Nat → Nat} {cA : Nat → ClassId} {X0 : XT} {b : Nat → Int} {N : Nat} (hT0 : TPX b N X0) (hH : HG vX X0) {s : Nat} {F : Int × Int} {B : BC} (m0 : 0 ≤ B.2.2.2.2.1) (m1 : B.2.2.2.2.1 ≤ 6) (hF : FR mdBL X0 X0) (hK : TKX b N s X0) (hL : FLX F X0) (hB : BDX B X0) : MetX (wX D ad cA) yX6_readMan cX6_readMan 3 (some .boolean) 3 65 [.ref 21] X0 (fun r X1 => ∃ u : Int, r = some (.int (iI u)) ∧ HG vX X1 ∧ FR mdBL X0 X1 ∧ TKX b N (tnS b N (tnS b N s)) X1 ∧ FLX (tnF b N 0 35 (tnS b N s) (tnF b N 0 1 s F)) X1 ∧ BDX (bmn B (tnV b N s) (tnV b N (tnS b N s))) X1 ∧ ((u = 1 ∧ tnV b N s ≠ -1 ∧ tnV b N (tnS b N s) ≠ -1) ∨ (u = 0 ∧ ¬ (tnV b N s ≠ -1 ∧ tnV b N (tnS b N s) ≠ -1)))) := by
  refine MetX.mk (own := RX6) (by decide +kernel) rfl (nle rfl) (fun E C hQ => ?_)
  refine Wx_lv (lv' := [(0, .ref 21)]) rfl ?_
  refine x_aload_n (i := 0) C dX6_readMan_0 rfl rfl ?_
  refine x_iconst C dX6_readMan_1 ?_
  refine x_iconst C dX6_readMan_2 ?_
  refine x_callV (As := [.int (iI (0)), .int (iI (1))]) C (by exact (c_takeNumber (s := s) (F := F) (lo := 0) (hi := 1) (hT0.fr hF rfl) hH (by omega) (by omega) (by omega) (by omega) FR.rf hK hL)) ckX6_118 im_X6_takeNumber se_X6_takeNumber (nlt rfl) rfl rfl rfl rfl (nle rfl) (by exact ⟨nle rfl, nle rfl⟩) dX6_readMan_3 ?_
  rintro _ Yy1 ⟨v2, rfl, ev2, hHy1, hGy1, hKy1, hLy1⟩
  have hFy1 : FR mdBL X0 Yy1 := FR.tr hF hGy1 (by decide)
  have bv2 : -1 ≤ v2 ∧ v2 ≤ 99 := by
    rw [ev2]
    unfold tnV
    split
    · rename_i k2
      have := tV_bd k2 hK.2.2.2.2
      omega
    · omega
  have hBy1 := hB.fr hGy1 rfl
  refine Wx_st (st' := [.int (iI (v2))]) rfl ?_
  refine x_istore_n (i := 1) (lv' := [(1, .int (iI (v2))), (0, .ref 21)]) C dX6_readMan_6 rfl (nlt rfl) rfl ?_
  refine x_aload_n (i := 0) C dX6_readMan_7 rfl rfl ?_
  refine x_iconst C dX6_readMan_8 ?_
  refine x_bipush C dX6_readMan_9 (by decide) ?_
  refine x_callV (As := [.int (iI (0)), .int (iI (35))]) C (by exact (c_takeNumber (s := (tnS b N s)) (F := (tnF b N 0 1 s F)) (lo := 0) (hi := 35) (hT0.fr hFy1 rfl) hHy1 (by omega) (by omega) (by omega) (by omega) FR.rf hKy1 hLy1)) ckX6_118 im_X6_takeNumber se_X6_takeNumber (nlt rfl) rfl rfl rfl rfl (nle rfl) (by exact ⟨nle rfl, nle rfl⟩) dX6_readMan_11 ?_
  rintro _ Yy3 ⟨v4, rfl, ev4, hHy3, hGy3, hKy3, hLy3⟩
  have hFy3 : FR mdBL X0 Yy3 := FR.tr hFy1 hGy3 (by decide)
  have bv4 : -1 ≤ v4 ∧ v4 ≤ 99 := by
    rw [ev4]
    unfold tnV
    split
    · rename_i k2
      have := tV_bd k2 hKy1.2.2.2.2
      omega
    · omega
  have hBy3 := hBy1.fr hGy3 rfl
  refine Wx_st (st' := [.int (iI (v4))]) rfl ?_
  refine x_istore_n (i := 2) (lv' := [(2, .int (iI (v4))), (1, .int (iI (v2))), (0, .ref 21)]) C dX6_readMan_14 rfl (nlt rfl) rfl ?_
  refine x_aload_n (i := 0) C dX6_readMan_15 rfl rfl ?_
  refine x_getRs (r := 22) C fkX_X6_12 (nlt rfl) rfl (HG.rR hHy3 (k := 21) (i := 0) rfl rfl) dX6_readMan_16 ?_
  refine x_iload_n (i := 1) C dX6_readMan_19 rfl rfl ?_
  refine x_iload_n (i := 2) C dX6_readMan_20 rfl rfl ?_
  refine x_callV (As := [.int (iI (v2)), .int (iI (v4))]) C (by exact (c_addMan (B := B) (f := v2) (p := v4) ⟨by omega, by omega⟩ ⟨by omega, by omega⟩ m0 m1 hHy3 FR.rf hBy3)) ckX6_127 im_X0_addMan se_X0_addMan (nlt rfl) rfl rfl rfl rfl (nle rfl) (by exact ⟨nle rfl, nle rfl⟩) dX6_readMan_21 ?_
  rintro _ Yy5 ⟨rfl, hHy5, hGy5, hBy5⟩
  have hFy5 : FR mdBL X0 Yy5 := FR.tr hFy3 hGy5 (by decide)
  have hKy5 := hKy3.fr hGy5 rfl
  have hLy5 := hLy3.fr hGy5 rfl
  rw [ev2, ev4] at hBy5
  refine Wx_st (st' := []) rfl ?_
  refine x_iload_n (i := 1) C dX6_readMan_24 rfl rfl ?_
  refine x_iconst C dX6_readMan_25 ?_
  refine x_icmp_eq (tgt := 38) C dX6_readMan_26 (by decide) ⟨by omega, by omega⟩ ⟨by omega, by omega⟩ (fun h6 => ?_) (fun h6 => ?_)
  · refine x_iconst C dX6_readMan_38 ?_
    exact x_zret C hQ (by omega) dX6_readMan_39 (⟨_, rfl, hHy5, hFy5, hKy5, hLy5, hBy5, .inr ⟨rfl, by omega⟩⟩)
  · refine x_iload_n (i := 2) C dX6_readMan_29 rfl rfl ?_
    refine x_iconst C dX6_readMan_30 ?_
    refine x_icmp_eq (tgt := 38) C dX6_readMan_31 (by decide) ⟨by omega, by omega⟩ ⟨by omega, by omega⟩ (fun h7 => ?_) (fun h7 => ?_)
    · refine x_iconst C dX6_readMan_38 ?_
      exact x_zret C hQ (by omega) dX6_readMan_39 (⟨_, rfl, hHy5, hFy5, hKy5, hLy5, hBy5, .inr ⟨rfl, by omega⟩⟩)
    · refine x_iconst C dX6_readMan_34 ?_
      refine x_goto (tgt := 39) C dX6_readMan_35 (by decide) ?_
      exact x_zret C hQ (by omega) dX6_readMan_39 (⟨_, rfl, hHy5, hFy5, hKy5, hLy5, hBy5, .inl ⟨rfl, by omega, by omega⟩⟩)
