/-! ===== the class reads: lines ===== -/
theorem dX6_readFields_0 : decode cX6_readFields 0 = .ok (.lconst 0, 1) := by decide +kernel
theorem dX6_readFields_1 : decode cX6_readFields 1 = .ok (.lstore_n 1, 1) := by decide +kernel
theorem dX6_readFields_2 : decode cX6_readFields 2 = .ok (.iconst 0, 1) := by decide +kernel
theorem dX6_readFields_3 : decode cX6_readFields 3 = .ok (.istore_n 3, 1) := by decide +kernel
theorem dX6_readFields_4 : decode cX6_readFields 4 = .ok (.iload_n 3, 1) := by decide +kernel
theorem dX6_readFields_5 : decode cX6_readFields 5 = .ok (.sipush 600, 3) := by decide +kernel
theorem dX6_readFields_8 : decode cX6_readFields 8 = .ok (.if_icmp .ge 30, 3) := by decide +kernel
theorem dX6_readFields_11 : decode cX6_readFields 11 = .ok (.aload_n 0, 1) := by decide +kernel
theorem dX6_readFields_12 : decode cX6_readFields 12 = .ok (.getfield 61, 3) := by decide +kernel
theorem dX6_readFields_15 : decode cX6_readFields 15 = .ok (.iconst 2, 1) := by decide +kernel
theorem dX6_readFields_16 : decode cX6_readFields 16 = .ok (.if_icmp .ne 22, 3) := by decide +kernel
theorem dX6_readFields_19 : decode cX6_readFields 19 = .ok (.lload_n 1, 1) := by decide +kernel
theorem dX6_readFields_20 : decode cX6_readFields 20 = .ok (.aload_n 0, 1) := by decide +kernel
theorem dX6_readFields_21 : decode cX6_readFields 21 = .ok (.iconst 0, 1) := by decide +kernel
theorem dX6_readFields_22 : decode cX6_readFields 22 = .ok (.bipush 35, 2) := by decide +kernel
theorem dX6_readFields_24 : decode cX6_readFields 24 = .ok (.invokevirtual 118, 3) := by decide +kernel
theorem dX6_readFields_27 : decode cX6_readFields 27 = .ok (.invokestatic 130, 3) := by decide +kernel
theorem dX6_readFields_30 : decode cX6_readFields 30 = .ok (.lor, 1) := by decide +kernel
theorem dX6_readFields_31 : decode cX6_readFields 31 = .ok (.lstore_n 1, 1) := by decide +kernel
theorem dX6_readFields_32 : decode cX6_readFields 32 = .ok (.iinc 3 1, 3) := by decide +kernel
theorem dX6_readFields_35 : decode cX6_readFields 35 = .ok (.goto (-31), 3) := by decide +kernel
theorem dX6_readFields_38 : decode cX6_readFields 38 = .ok (.lload_n 1, 1) := by decide +kernel
theorem dX6_readFields_39 : decode cX6_readFields 39 = .ok (.lreturn, 1) := by decide +kernel
theorem dX6_readBoardLine_0 : decode cX6_readBoardLine 0 = .ok (.aload_n 0, 1) := by decide +kernel
theorem dX6_readBoardLine_1 : decode cX6_readBoardLine 1 = .ok (.ldc 83, 2) := by decide +kernel
theorem dX6_readBoardLine_3 : decode cX6_readBoardLine 3 = .ok (.invokevirtual 85, 3) := by decide +kernel
theorem dX6_readBoardLine_6 : decode cX6_readBoardLine 6 = .ok (.ifCond .eq 27, 3) := by decide +kernel
theorem dX6_readBoardLine_9 : decode cX6_readBoardLine 9 = .ok (.aload_n 0, 1) := by decide +kernel
theorem dX6_readBoardLine_10 : decode cX6_readBoardLine 10 = .ok (.invokevirtual 54, 3) := by decide +kernel
theorem dX6_readBoardLine_13 : decode cX6_readBoardLine 13 = .ok (.aload_n 0, 1) := by decide +kernel
theorem dX6_readBoardLine_14 : decode cX6_readBoardLine 14 = .ok (.invokevirtual 89, 3) := by decide +kernel
theorem dX6_readBoardLine_17 : decode cX6_readBoardLine 17 = .ok (.ifCond .eq 14, 3) := by decide +kernel
theorem dX6_readBoardLine_20 : decode cX6_readBoardLine 20 = .ok (.aload_n 0, 1) := by decide +kernel
theorem dX6_readBoardLine_21 : decode cX6_readBoardLine 21 = .ok (.invokevirtual 92, 3) := by decide +kernel
theorem dX6_readBoardLine_24 : decode cX6_readBoardLine 24 = .ok (.ifCond .eq 7, 3) := by decide +kernel
theorem dX6_readBoardLine_27 : decode cX6_readBoardLine 27 = .ok (.iconst 1, 1) := by decide +kernel
theorem dX6_readBoardLine_28 : decode cX6_readBoardLine 28 = .ok (.goto 4, 3) := by decide +kernel
theorem dX6_readBoardLine_31 : decode cX6_readBoardLine 31 = .ok (.iconst 0, 1) := by decide +kernel
theorem dX6_readBoardLine_32 : decode cX6_readBoardLine 32 = .ok (.ireturn, 1) := by decide +kernel
theorem dX6_readBoardLine_33 : decode cX6_readBoardLine 33 = .ok (.aload_n 0, 1) := by decide +kernel
theorem dX6_readBoardLine_34 : decode cX6_readBoardLine 34 = .ok (.ldc 95, 2) := by decide +kernel
theorem dX6_readBoardLine_36 : decode cX6_readBoardLine 36 = .ok (.invokevirtual 85, 3) := by decide +kernel
theorem dX6_readBoardLine_39 : decode cX6_readBoardLine 39 = .ok (.ifCond .eq 48, 3) := by decide +kernel
theorem dX6_readBoardLine_42 : decode cX6_readBoardLine 42 = .ok (.aload_n 0, 1) := by decide +kernel
theorem dX6_readBoardLine_43 : decode cX6_readBoardLine 43 = .ok (.getfield 12, 3) := by decide +kernel
theorem dX6_readBoardLine_46 : decode cX6_readBoardLine 46 = .ok (.getfield 97, 3) := by decide +kernel
theorem dX6_readBoardLine_49 : decode cX6_readBoardLine 49 = .ok (.bipush 6, 2) := by decide +kernel
theorem dX6_readBoardLine_51 : decode cX6_readBoardLine 51 = .ok (.if_icmp .ne 12, 3) := by decide +kernel
theorem dX6_readBoardLine_54 : decode cX6_readBoardLine 54 = .ok (.aload_n 0, 1) := by decide +kernel
theorem dX6_readBoardLine_55 : decode cX6_readBoardLine 55 = .ok (.iconst 3, 1) := by decide +kernel
theorem dX6_readBoardLine_56 : decode cX6_readBoardLine 56 = .ok (.aload_n 0, 1) := by decide +kernel
theorem dX6_readBoardLine_57 : decode cX6_readBoardLine 57 = .ok (.getfield 73, 3) := by decide +kernel
theorem dX6_readBoardLine_60 : decode cX6_readBoardLine 60 = .ok (.invokevirtual 79, 3) := by decide +kernel
theorem dX6_readBoardLine_63 : decode cX6_readBoardLine 63 = .ok (.aload_n 0, 1) := by decide +kernel
theorem dX6_readBoardLine_64 : decode cX6_readBoardLine 64 = .ok (.invokevirtual 54, 3) := by decide +kernel
theorem dX6_readBoardLine_67 : decode cX6_readBoardLine 67 = .ok (.aload_n 0, 1) := by decide +kernel
theorem dX6_readBoardLine_68 : decode cX6_readBoardLine 68 = .ok (.invokevirtual 100, 3) := by decide +kernel
theorem dX6_readBoardLine_71 : decode cX6_readBoardLine 71 = .ok (.ifCond .eq 14, 3) := by decide +kernel
theorem dX6_readBoardLine_74 : decode cX6_readBoardLine 74 = .ok (.aload_n 0, 1) := by decide +kernel
theorem dX6_readBoardLine_75 : decode cX6_readBoardLine 75 = .ok (.invokevirtual 92, 3) := by decide +kernel
theorem dX6_readBoardLine_78 : decode cX6_readBoardLine 78 = .ok (.ifCond .eq 7, 3) := by decide +kernel
theorem dX6_readBoardLine_81 : decode cX6_readBoardLine 81 = .ok (.iconst 1, 1) := by decide +kernel
theorem dX6_readBoardLine_82 : decode cX6_readBoardLine 82 = .ok (.goto 4, 3) := by decide +kernel
theorem dX6_readBoardLine_85 : decode cX6_readBoardLine 85 = .ok (.iconst 0, 1) := by decide +kernel
theorem dX6_readBoardLine_86 : decode cX6_readBoardLine 86 = .ok (.ireturn, 1) := by decide +kernel
theorem dX6_readBoardLine_87 : decode cX6_readBoardLine 87 = .ok (.aload_n 0, 1) := by decide +kernel
theorem dX6_readBoardLine_88 : decode cX6_readBoardLine 88 = .ok (.ldc 103, 2) := by decide +kernel
theorem dX6_readBoardLine_90 : decode cX6_readBoardLine 90 = .ok (.invokevirtual 85, 3) := by decide +kernel
theorem dX6_readBoardLine_93 : decode cX6_readBoardLine 93 = .ok (.ifCond .eq 44, 3) := by decide +kernel
theorem dX6_readBoardLine_96 : decode cX6_readBoardLine 96 = .ok (.aload_n 0, 1) := by decide +kernel
theorem dX6_readBoardLine_97 : decode cX6_readBoardLine 97 = .ok (.invokevirtual 54, 3) := by decide +kernel
theorem dX6_readBoardLine_100 : decode cX6_readBoardLine 100 = .ok (.aload_n 0, 1) := by decide +kernel
theorem dX6_readBoardLine_101 : decode cX6_readBoardLine 101 = .ok (.invokevirtual 105, 3) := by decide +kernel
theorem dX6_readBoardLine_104 : decode cX6_readBoardLine 104 = .ok (.lstore_n 1, 1) := by decide +kernel
theorem dX6_readBoardLine_105 : decode cX6_readBoardLine 105 = .ok (.aload_n 0, 1) := by decide +kernel
theorem dX6_readBoardLine_106 : decode cX6_readBoardLine 106 = .ok (.getfield 12, 3) := by decide +kernel
theorem dX6_readBoardLine_109 : decode cX6_readBoardLine 109 = .ok (.dup, 1) := by decide +kernel
theorem dX6_readBoardLine_110 : decode cX6_readBoardLine 110 = .ok (.getfield 109, 3) := by decide +kernel
theorem dX6_readBoardLine_113 : decode cX6_readBoardLine 113 = .ok (.lload_n 1, 1) := by decide +kernel
theorem dX6_readBoardLine_114 : decode cX6_readBoardLine 114 = .ok (.lor, 1) := by decide +kernel
theorem dX6_readBoardLine_115 : decode cX6_readBoardLine 115 = .ok (.putfield 109, 3) := by decide +kernel
theorem dX6_readBoardLine_118 : decode cX6_readBoardLine 118 = .ok (.lload_n 1, 1) := by decide +kernel
theorem dX6_readBoardLine_119 : decode cX6_readBoardLine 119 = .ok (.lconst 0, 1) := by decide +kernel
theorem dX6_readBoardLine_120 : decode cX6_readBoardLine 120 = .ok (.lcmp, 1) := by decide +kernel
theorem dX6_readBoardLine_121 : decode cX6_readBoardLine 121 = .ok (.ifCond .eq 14, 3) := by decide +kernel
theorem dX6_readBoardLine_124 : decode cX6_readBoardLine 124 = .ok (.aload_n 0, 1) := by decide +kernel
theorem dX6_readBoardLine_125 : decode cX6_readBoardLine 125 = .ok (.invokevirtual 92, 3) := by decide +kernel
theorem dX6_readBoardLine_128 : decode cX6_readBoardLine 128 = .ok (.ifCond .eq 7, 3) := by decide +kernel
theorem dX6_readBoardLine_131 : decode cX6_readBoardLine 131 = .ok (.iconst 1, 1) := by decide +kernel
theorem dX6_readBoardLine_132 : decode cX6_readBoardLine 132 = .ok (.goto 4, 3) := by decide +kernel
theorem dX6_readBoardLine_135 : decode cX6_readBoardLine 135 = .ok (.iconst 0, 1) := by decide +kernel
theorem dX6_readBoardLine_136 : decode cX6_readBoardLine 136 = .ok (.ireturn, 1) := by decide +kernel
theorem dX6_readBoardLine_137 : decode cX6_readBoardLine 137 = .ok (.aload_n 0, 1) := by decide +kernel
theorem dX6_readBoardLine_138 : decode cX6_readBoardLine 138 = .ok (.ldc 113, 2) := by decide +kernel
theorem dX6_readBoardLine_140 : decode cX6_readBoardLine 140 = .ok (.invokevirtual 85, 3) := by decide +kernel
theorem dX6_readBoardLine_143 : decode cX6_readBoardLine 143 = .ok (.ifCond .eq 44, 3) := by decide +kernel
theorem dX6_readBoardLine_146 : decode cX6_readBoardLine 146 = .ok (.aload_n 0, 1) := by decide +kernel
theorem dX6_readBoardLine_147 : decode cX6_readBoardLine 147 = .ok (.invokevirtual 54, 3) := by decide +kernel
theorem dX6_readBoardLine_150 : decode cX6_readBoardLine 150 = .ok (.aload_n 0, 1) := by decide +kernel
theorem dX6_readBoardLine_151 : decode cX6_readBoardLine 151 = .ok (.invokevirtual 105, 3) := by decide +kernel
theorem dX6_readBoardLine_154 : decode cX6_readBoardLine 154 = .ok (.lstore_n 1, 1) := by decide +kernel
theorem dX6_readBoardLine_155 : decode cX6_readBoardLine 155 = .ok (.aload_n 0, 1) := by decide +kernel
theorem dX6_readBoardLine_156 : decode cX6_readBoardLine 156 = .ok (.getfield 12, 3) := by decide +kernel
theorem dX6_readBoardLine_159 : decode cX6_readBoardLine 159 = .ok (.dup, 1) := by decide +kernel
theorem dX6_readBoardLine_160 : decode cX6_readBoardLine 160 = .ok (.getfield 115, 3) := by decide +kernel
theorem dX6_readBoardLine_163 : decode cX6_readBoardLine 163 = .ok (.lload_n 1, 1) := by decide +kernel
theorem dX6_readBoardLine_164 : decode cX6_readBoardLine 164 = .ok (.lor, 1) := by decide +kernel
theorem dX6_readBoardLine_165 : decode cX6_readBoardLine 165 = .ok (.putfield 115, 3) := by decide +kernel
theorem dX6_readBoardLine_168 : decode cX6_readBoardLine 168 = .ok (.lload_n 1, 1) := by decide +kernel
theorem dX6_readBoardLine_169 : decode cX6_readBoardLine 169 = .ok (.lconst 0, 1) := by decide +kernel
theorem dX6_readBoardLine_170 : decode cX6_readBoardLine 170 = .ok (.lcmp, 1) := by decide +kernel
theorem dX6_readBoardLine_171 : decode cX6_readBoardLine 171 = .ok (.ifCond .eq 14, 3) := by decide +kernel
theorem dX6_readBoardLine_174 : decode cX6_readBoardLine 174 = .ok (.aload_n 0, 1) := by decide +kernel
theorem dX6_readBoardLine_175 : decode cX6_readBoardLine 175 = .ok (.invokevirtual 92, 3) := by decide +kernel
theorem dX6_readBoardLine_178 : decode cX6_readBoardLine 178 = .ok (.ifCond .eq 7, 3) := by decide +kernel
theorem dX6_readBoardLine_181 : decode cX6_readBoardLine 181 = .ok (.iconst 1, 1) := by decide +kernel
theorem dX6_readBoardLine_182 : decode cX6_readBoardLine 182 = .ok (.goto 4, 3) := by decide +kernel
theorem dX6_readBoardLine_185 : decode cX6_readBoardLine 185 = .ok (.iconst 0, 1) := by decide +kernel
theorem dX6_readBoardLine_186 : decode cX6_readBoardLine 186 = .ok (.ireturn, 1) := by decide +kernel
theorem dX6_readBoardLine_187 : decode cX6_readBoardLine 187 = .ok (.iconst 0, 1) := by decide +kernel
theorem dX6_readBoardLine_188 : decode cX6_readBoardLine 188 = .ok (.ireturn, 1) := by decide +kernel
theorem cnX6_130 : CKN RX6 130 yX11_bit "WrittenMoves" cX11_bit 1 (some .long) 1 := ⟨(lw_gi 747 (by decide +kernel) rfl : Cond.code yX11_bit cX11_bit 1 (some .long) ∈ lw_g), (lw_gi 116 (by decide +kernel) rfl : Cond.initialized yX11_bit.cls ∈ lw_g), by decide +kernel, by decide +kernel, List.mem_of_getElem? (i := 13) (by decide +kernel), (lw_gi 746 (by decide +kernel) rfl : Cond.static yX11_bit ∈ lw_g)⟩
theorem ckX6_85 : CKB RX6 85 yX6_isWord cX6_isWord 3 (some .boolean) 1 := ⟨(lw_gi 693 (by decide +kernel) rfl : Cond.code yX6_isWord cX6_isWord 3 (some .boolean) ∈ lw_g), (lw_gi 120 (by decide +kernel) rfl : Cond.initialized yX6_isWord.cls ∈ lw_g), by decide +kernel, by decide +kernel, (lw_gi 690 (by decide +kernel) rfl : Cond.methodLink RX6 85 yX6_isWord ∈ lw_g)⟩
theorem im_X6_isWord : Cond.instanceMethod yX6_isWord ∈ lw_g := (lw_gi 692 (by decide +kernel) rfl : Cond.instanceMethod yX6_isWord ∈ lw_g)
theorem se_X6_isWord : Cond.selects RX6 yX6_isWord yX6_isWord ∈ lw_g := (lw_gi 3 (by decide +kernel) rfl : Cond.selects RX6 yX6_isWord yX6_isWord ∈ lw_g)
theorem ckX6_105 : CKB RX6 105 yX6_readFields cX6_readFields 4 (some .long) 0 := ⟨(lw_gi 744 (by decide +kernel) rfl : Cond.code yX6_readFields cX6_readFields 4 (some .long) ∈ lw_g), (lw_gi 120 (by decide +kernel) rfl : Cond.initialized yX6_readFields.cls ∈ lw_g), by decide +kernel, by decide +kernel, (lw_gi 741 (by decide +kernel) rfl : Cond.methodLink RX6 105 yX6_readFields ∈ lw_g)⟩
theorem im_X6_readFields : Cond.instanceMethod yX6_readFields ∈ lw_g := (lw_gi 743 (by decide +kernel) rfl : Cond.instanceMethod yX6_readFields ∈ lw_g)
theorem se_X6_readFields : Cond.selects RX6 yX6_readFields yX6_readFields ∈ lw_g := (lw_gi 9 (by decide +kernel) rfl : Cond.selects RX6 yX6_readFields yX6_readFields ∈ lw_g)
theorem fkX_X6_115 {D : va_G} {ad : Nat → Nat} {cA : Nat → ClassId} : FKw (wX D ad cA) RX6 115 0 7 3 1 := ⟨RX0, TX0, rfl, by decide, rfl, inX0, (lw_gi 180 (by decide +kernel) rfl : Cond.fieldLink RX6 115 RX0 (TX0 3).2.1 (TX0 3).2.2.1 ∈ lw_g), rfl⟩
theorem pkX_X6_115 {D : va_G} {ad : Nat → Nat} {cA : Nat → ClassId} : PKw (wX D ad cA) RX6 115 0 7 3 1 (tyX0 3) := ⟨RX0, TX0, tyX0, rfl, by decide, rfl, inX0, (lw_gi 180 (by decide +kernel) rfl : Cond.fieldLink RX6 115 RX0 (TX0 3).2.1 (TX0 3).2.2.1 ∈ lw_g), rfl, tyX0_ok, nmX0, rfl, rfl⟩
theorem ckX6_92 : CKB RX6 92 yX6_takeMark cX6_takeMark 1 (some .boolean) 0 := ⟨(lw_gi 730 (by decide +kernel) rfl : Cond.code yX6_takeMark cX6_takeMark 1 (some .boolean) ∈ lw_g), (lw_gi 120 (by decide +kernel) rfl : Cond.initialized yX6_takeMark.cls ∈ lw_g), by decide +kernel, by decide +kernel, (lw_gi 727 (by decide +kernel) rfl : Cond.methodLink RX6 92 yX6_takeMark ∈ lw_g)⟩
theorem im_X6_takeMark : Cond.instanceMethod yX6_takeMark ∈ lw_g := (lw_gi 729 (by decide +kernel) rfl : Cond.instanceMethod yX6_takeMark ∈ lw_g)
theorem se_X6_takeMark : Cond.selects RX6 yX6_takeMark yX6_takeMark ∈ lw_g := (lw_gi 7 (by decide +kernel) rfl : Cond.selects RX6 yX6_takeMark yX6_takeMark ∈ lw_g)
theorem fkX_X6_109 {D : va_G} {ad : Nat → Nat} {cA : Nat → ClassId} : FKw (wX D ad cA) RX6 109 0 7 2 1 := ⟨RX0, TX0, rfl, by decide, rfl, inX0, (lw_gi 175 (by decide +kernel) rfl : Cond.fieldLink RX6 109 RX0 (TX0 2).2.1 (TX0 2).2.2.1 ∈ lw_g), rfl⟩
theorem pkX_X6_109 {D : va_G} {ad : Nat → Nat} {cA : Nat → ClassId} : PKw (wX D ad cA) RX6 109 0 7 2 1 (tyX0 2) := ⟨RX0, TX0, tyX0, rfl, by decide, rfl, inX0, (lw_gi 175 (by decide +kernel) rfl : Cond.fieldLink RX6 109 RX0 (TX0 2).2.1 (TX0 2).2.2.1 ∈ lw_g), rfl, tyX0_ok, nmX0, rfl, rfl⟩
theorem fkX_X6_97 {D : va_G} {ad : Nat → Nat} {cA : Nat → ClassId} : FKw (wX D ad cA) RX6 97 0 7 4 0 := ⟨RX0, TX0, rfl, by decide, rfl, inX0, (lw_gi 185 (by decide +kernel) rfl : Cond.fieldLink RX6 97 RX0 (TX0 4).2.1 (TX0 4).2.2.1 ∈ lw_g), rfl⟩
theorem ckX6_100 : CKB RX6 100 yX6_readMan cX6_readMan 3 (some .boolean) 0 := ⟨(lw_gi 735 (by decide +kernel) rfl : Cond.code yX6_readMan cX6_readMan 3 (some .boolean) ∈ lw_g), (lw_gi 120 (by decide +kernel) rfl : Cond.initialized yX6_readMan.cls ∈ lw_g), by decide +kernel, by decide +kernel, (lw_gi 732 (by decide +kernel) rfl : Cond.methodLink RX6 100 yX6_readMan ∈ lw_g)⟩
theorem im_X6_readMan : Cond.instanceMethod yX6_readMan ∈ lw_g := (lw_gi 734 (by decide +kernel) rfl : Cond.instanceMethod yX6_readMan ∈ lw_g)
theorem se_X6_readMan : Cond.selects RX6 yX6_readMan yX6_readMan ∈ lw_g := (lw_gi 8 (by decide +kernel) rfl : Cond.selects RX6 yX6_readMan yX6_readMan ∈ lw_g)
theorem ckX6_89 : CKB RX6 89 yX6_readSize cX6_readSize 3 (some .boolean) 0 := ⟨(lw_gi 718 (by decide +kernel) rfl : Cond.code yX6_readSize cX6_readSize 3 (some .boolean) ∈ lw_g), (lw_gi 120 (by decide +kernel) rfl : Cond.initialized yX6_readSize.cls ∈ lw_g), by decide +kernel, by decide +kernel, (lw_gi 715 (by decide +kernel) rfl : Cond.methodLink RX6 89 yX6_readSize ∈ lw_g)⟩
theorem im_X6_readSize : Cond.instanceMethod yX6_readSize ∈ lw_g := (lw_gi 717 (by decide +kernel) rfl : Cond.instanceMethod yX6_readSize ∈ lw_g)
theorem se_X6_readSize : Cond.selects RX6 yX6_readSize yX6_readSize ∈ lw_g := (lw_gi 4 (by decide +kernel) rfl : Cond.selects RX6 yX6_readSize yX6_readSize ∈ lw_g)
set_option maxHeartbeats 4000000 in
set_option maxRecDepth 100000 in
theorem c_readFieldsL {D : va_G} {ad : Nat → Nat} {cA : Nat → ClassId} {X0 : XT} {b : Nat → Int} {N : Nat} (hT0 : TPX b N X0) {s : Nat} {F : Int × Int} {E : ET} (C : CX E (wX D ad cA) cX6_readFields 4 RX6 (some .long) { frames := 3, cells := 0, slots := 0, locals := 65 }) (hQ : EQ E (wX D ad cA) (fun r X1 => ∃ w : Int64, r = some (.long w) ∧ w = (rF b N 600 s F 0).2.2 ∧ HG vX X1 ∧ FR mdTN X0 X1 ∧ TKX b N (rF b N 600 s F 0).1 X1 ∧ FLX (rF b N 600 s F 0).2.1 X1)) : ∀ (n : Nat) (k : Int) (w : Int64) (t : Nat) (G : Int × Int) (X : XT), ((601 - k.toNat : Nat) : Int) < n → 0 ≤ k → k ≤ 600 → HG vX X → FR mdTN X0 X → TKX b N t X → FLX G X → rF b N (600 - k.toNat) t G w = rF b N 600 s F 0 → Wx E (wX D ad cA) 4 (PX (wX D ad cA) X) 4 [(3, .int (iI (k))), (1, .long (w)), (0, .ref 21)] [] := by
  intro n
  induction n with
  | zero => intro k w t G X hn k0 k1 hH hF hK hL hr; exfalso; omega
  | succ n ih =>
    intro k w t G X hn k0 k1 hH hF hK hL hr
    refine x_iload_n (i := 3) C dX6_readFields_4 rfl rfl ?_
    refine x_sipush C dX6_readFields_5 (by decide) ?_
    refine x_icmp_ge (tgt := 38) C dX6_readFields_8 (by decide) ⟨by omega, by omega⟩ ⟨by omega, by omega⟩ (fun h1 => ?_) (fun h1 => ?_)
    · have er : rF b N 600 s F 0 = (t, G, w) := by
        rw [← hr]
        first | exact rF_E (by have := hK.2.1; omega) | (rw [show 600 - k.toNat = 0 by omega]; rfl)
      refine x_lload_n (i := 1) C dX6_readFields_38 rfl rfl ?_
      exact x_lret C hQ dX6_readFields_39 (⟨_, rfl, by rw [er], hH, hF, by rw [er]; exact hK, by rw [er]; exact hL⟩)
    · refine x_aload_n (i := 0) C dX6_readFields_11 rfl rfl ?_
      refine x_getI C fkX_X6_61 (nlt rfl) rfl dX6_readFields_12 ?_
      refine x_gen (fun v2 ev2 => ?_)
      have qv2 : ((-2147483648) : Int) ≤ v2 ∧ v2 ≤ (2147483647 : Int) := by
        rw [ev2]
        exact hH.rF (k := 21) (i := 7) rfl rfl
      refine x_iconst C dX6_readFields_15 ?_
      refine x_icmp_ne (tgt := 38) C dX6_readFields_16 (by decide) ⟨by omega, by omega⟩ ⟨by omega, by omega⟩ (fun h3 => ?_) (fun h3 => ?_)
      · have er : rF b N 600 s F 0 = (t, G, w) := by
          rw [← hr]
          first | exact rF_E (by have := hK.2.1; omega) | (rw [show 600 - k.toNat = 0 by omega]; rfl)
        refine x_lload_n (i := 1) C dX6_readFields_38 rfl rfl ?_
        exact x_lret C hQ dX6_readFields_39 (⟨_, rfl, by rw [er], hH, hF, by rw [er]; exact hK, by rw [er]; exact hL⟩)
      · refine x_lload_n (i := 1) C dX6_readFields_19 rfl rfl ?_
        refine x_aload_n (i := 0) C dX6_readFields_20 rfl rfl ?_
        refine x_iconst C dX6_readFields_21 ?_
        refine x_bipush C dX6_readFields_22 (by decide) ?_
        refine x_callV (As := [.int (iI (0)), .int (iI (35))]) C (by exact (c_takeNumber (s := t) (F := G) (lo := 0) (hi := 35) (hT0.fr hF rfl) hH (by omega) (by omega) (by omega) (by omega) FR.rf hK hL)) ckX6_118 im_X6_takeNumber se_X6_takeNumber (nlt rfl) rfl rfl rfl rfl (nle rfl) (by exact ⟨nle rfl, nle rfl⟩) dX6_readFields_24 ?_
        rintro _ Yy4 ⟨v5, rfl, ev5, hHy4, hGy4, hKy4, hLy4⟩
        have hFy4 : FR mdTN X0 Yy4 := FR.tr hF hGy4 (by decide)
        have bv5 : -1 ≤ v5 ∧ v5 ≤ 99 := by
          rw [ev5]
          unfold tnV
          split
          · rename_i k2
            have := tV_bd k2 hK.2.2.2.2
            omega
          · omega
        refine Wx_st (st' := [.int (iI (v5)), .long (w)]) rfl ?_
        refine x_callSN (As := [.int (iI (v5))]) C (by exact (xf_bit (f := v5))) cnX6_130 rfl rfl (nle rfl) (by exact ⟨nle rfl, nle rfl⟩) dX6_readFields_27 ?_
        rintro _ Xl6 ⟨hxl6, rfl⟩
        rw [hxl6]
        refine Wx_st (st' := [.long ((1 : Int64) <<< ((iI (v5)).toInt64 &&& 63)), .long (w)]) rfl ?_
        refine x_genL (fun l6 el6 => ?_)
        refine Wx_st (st' := [.long (l6), .long (w)]) rfl ?_
        refine x_lor C dX6_readFields_30 ?_
        refine x_genL (fun l7 el7 => ?_)
        refine x_lstore_n (i := 1) (lv' := [(1, .long (l7)), (3, .int (iI (k))), (0, .ref 21)]) C dX6_readFields_31 rfl (nlt rfl) rfl ?_
        refine x_iinc (lv' := [(3, .int (iI (k + 1))), (1, .long (l7)), (0, .ref 21)]) C dX6_readFields_32 rfl (nlt rfl) rfl ?_
        refine x_goto (tgt := 4) C dX6_readFields_35 (by decide) ?_
        have k2 : tK b N t = 2 := by have := hK.2.1; omega
        have zv : v5 = tV b N t := by rw [ev5]; unfold tnV; rw [if_pos k2]
        have e1 : tnS b N t = nx b N t := by unfold tnS; rw [if_pos k2]
        have e2 : l7 = w ||| bitI (tV b N t) := by rw [el7, el6, zv]; rfl
        have e3 : rF b N (600 - (k + 1).toNat) (tnS b N t) (tnF b N 0 35 t G) l7 = rF b N 600 s F 0 := by rw [← hr, show 600 - k.toNat = (600 - (k + 1).toNat) + 1 by omega, rF_S k2, e1, e2]
        refine Wx_pick [3, 1, 0] ?_
        refine Wx_lv (lv' := [(3, .int (iI (k + 1))), (1, .long (l7)), (0, .ref 21)]) rfl ?_
        exact ih (k + 1) _ _ _ _ (by omega) (by omega) (by omega) hHy4 hFy4 hKy4 hLy4 e3
set_option maxHeartbeats 4000000 in
set_option maxRecDepth 100000 in
theorem c_readFields {D : va_G} {ad : Nat → Nat} {cA : Nat → ClassId} {X0 : XT} {b : Nat → Int} {N : Nat} (hT0 : TPX b N X0) (hH : HG vX X0) {s : Nat} {F : Int × Int} (hF : FR mdTN X0 X0) (hK : TKX b N s X0) (hL : FLX F X0) : MetX (wX D ad cA) yX6_readFields cX6_readFields 4 (some .long) 3 65 [.ref 21] X0 (fun r X1 => ∃ w : Int64, r = some (.long w) ∧ w = (rF b N 600 s F 0).2.2 ∧ HG vX X1 ∧ FR mdTN X0 X1 ∧ TKX b N (rF b N 600 s F 0).1 X1 ∧ FLX (rF b N 600 s F 0).2.1 X1) := by
  refine MetX.mk (own := RX6) (by decide +kernel) rfl (nle rfl) (fun E C hQ => ?_)
  refine Wx_lv (lv' := [(0, .ref 21)]) rfl ?_
  refine x_lconst C dX6_readFields_0 ?_
  refine x_eqL (b := 0) rfl ?_
  refine x_lstore_n (i := 1) (lv' := [(1, .long (0)), (0, .ref 21)]) C dX6_readFields_1 rfl (nlt rfl) rfl ?_
  refine x_iconst C dX6_readFields_2 ?_
  refine x_istore_n (i := 3) (lv' := [(3, .int (iI (0))), (1, .long (0)), (0, .ref 21)]) C dX6_readFields_3 rfl (nlt rfl) rfl ?_
  refine Wx_pick [3, 1, 0] ?_
  refine Wx_lv (lv' := [(3, .int (iI (0))), (1, .long (0)), (0, .ref 21)]) rfl ?_
  exact c_readFieldsL hT0 C hQ 602 0 0 s F X0 (by omega) (by omega) (by omega) hH hF hK hL rfl
set_option maxHeartbeats 4000000 in
set_option maxRecDepth 100000 in
theorem c_readBoardLine {D : va_G} {ad : Nat → Nat} {cA : Nat → ClassId} {X0 : XT} {b : Nat → Int} {N : Nat} (hT0 : TPX b N X0) (hH : HG vX X0) {s : Nat} {F : Int × Int} {B : BC} (m0 : 0 ≤ B.2.2.2.2.1) (m1 : B.2.2.2.2.1 ≤ 6) (hF : FR mdBL X0 X0) (hK : TKX b N s X0) (hL : FLX F X0) (hB : BDX B X0) : MetS (wX D ad cA) yX6_readBoardLine cX6_readBoardLine 3 (some .boolean) 6 128 [.ref 21] X0 (fun r X1 => ∃ u : Int, r = some (.int (iI u)) ∧ HG vX X1 ∧ FR mdBL X0 X1 ∧ u = zB (bLine b N s F B).1 ∧ TKX b N (bLine b N s F B).2.1 X1 ∧ FLX (bLine b N s F B).2.2.1 X1 ∧ BDX (bLine b N s F B).2.2.2 X1) := by
  have bm := hB.2.2.2.2.1
  have n6 := hT0.2.2.1
  have s6 := hK.2.2.2.2
  refine MetS.mk (own := RX6) (by decide +kernel) rfl (nle rfl) (fun E C HS hQ => ?_)
  refine Wx_lv (lv' := [(0, .ref 21)]) rfl ?_
  refine x_aload_n (i := 0) C dX6_readBoardLine_0 rfl rfl ?_
  refine x_ldcS (i := 0) C HS (by decide) rfl dX6_readBoardLine_1 ?_
  refine x_callVT (As := [.ref (900 + 0)]) C HS (by exact (c_isWord (s := s) (i := 0) (hT0.fr hF rfl) hH (by decide) FR.rf hK)) ckX6_85 im_X6_isWord se_X6_isWord (nlt rfl) rfl rfl rfl rfl (nle rfl) (by exact ⟨nle rfl, nle rfl⟩) dX6_readBoardLine_3 ?_
  rintro _ Xv1 ⟨hxv1, v1, rfl, wv1⟩
  rw [hxv1]
  refine Wx_st (st' := [.int (iI (v1))]) rfl ?_
  refine x_if_eq (tgt := 33) C dX6_readBoardLine_6 (by decide) ⟨by omega, by omega⟩ (fun h2 => ?_) (fun h2 => ?_)
  · have W0 : ¬ isW b N 0 s := wv1.elim (fun q => absurd q.1 (by omega)) (fun q => q.2)
    refine x_aload_n (i := 0) C dX6_readBoardLine_33 rfl rfl ?_
    refine x_ldcS (i := 1) C HS (by decide) rfl dX6_readBoardLine_34 ?_
    refine x_callVT (As := [.ref (900 + 1)]) C HS (by exact (c_isWord (s := s) (i := 1) (hT0.fr hF rfl) hH (by decide) FR.rf hK)) ckX6_85 im_X6_isWord se_X6_isWord (nlt rfl) rfl rfl rfl rfl (nle rfl) (by exact ⟨nle rfl, nle rfl⟩) dX6_readBoardLine_36 ?_
    rintro _ Xv3 ⟨hxv3, v3, rfl, wv3⟩
    rw [hxv3]
    refine Wx_st (st' := [.int (iI (v3))]) rfl ?_
    refine x_if_eq (tgt := 87) C dX6_readBoardLine_39 (by decide) ⟨by omega, by omega⟩ (fun h4 => ?_) (fun h4 => ?_)
    · have W1 : ¬ isW b N 1 s := wv3.elim (fun q => absurd q.1 (by omega)) (fun q => q.2)
      refine x_aload_n (i := 0) C dX6_readBoardLine_87 rfl rfl ?_
      refine x_ldcS (i := 2) C HS (by decide) rfl dX6_readBoardLine_88 ?_
      refine x_callVT (As := [.ref (900 + 2)]) C HS (by exact (c_isWord (s := s) (i := 2) (hT0.fr hF rfl) hH (by decide) FR.rf hK)) ckX6_85 im_X6_isWord se_X6_isWord (nlt rfl) rfl rfl rfl rfl (nle rfl) (by exact ⟨nle rfl, nle rfl⟩) dX6_readBoardLine_90 ?_
      rintro _ Xv5 ⟨hxv5, v5, rfl, wv5⟩
      rw [hxv5]
      refine Wx_st (st' := [.int (iI (v5))]) rfl ?_
      refine x_if_eq (tgt := 137) C dX6_readBoardLine_93 (by decide) ⟨by omega, by omega⟩ (fun h6 => ?_) (fun h6 => ?_)
      · have W2 : ¬ isW b N 2 s := wv5.elim (fun q => absurd q.1 (by omega)) (fun q => q.2)
        refine x_aload_n (i := 0) C dX6_readBoardLine_137 rfl rfl ?_
        refine x_ldcS (i := 3) C HS (by decide) rfl dX6_readBoardLine_138 ?_
        refine x_callVT (As := [.ref (900 + 3)]) C HS (by exact (c_isWord (s := s) (i := 3) (hT0.fr hF rfl) hH (by decide) FR.rf hK)) ckX6_85 im_X6_isWord se_X6_isWord (nlt rfl) rfl rfl rfl rfl (nle rfl) (by exact ⟨nle rfl, nle rfl⟩) dX6_readBoardLine_140 ?_
        rintro _ Xv7 ⟨hxv7, v7, rfl, wv7⟩
        rw [hxv7]
        refine Wx_st (st' := [.int (iI (v7))]) rfl ?_
        refine x_if_eq (tgt := 187) C dX6_readBoardLine_143 (by decide) ⟨by omega, by omega⟩ (fun h8 => ?_) (fun h8 => ?_)
        · have W3 : ¬ isW b N 3 s := wv7.elim (fun q => absurd q.1 (by omega)) (fun q => q.2)
          refine x_iconst C dX6_readBoardLine_187 ?_
          exact x_zret C hQ (by omega) dX6_readBoardLine_188 (⟨_, rfl, hH, hF, by rw [bL_4 W0 W1 W2 W3]; rfl, by rw [bL_4 W0 W1 W2 W3]; exact hK, by rw [bL_4 W0 W1 W2 W3]; exact hL, by rw [bL_4 W0 W1 W2 W3]; exact hB⟩)
        · have W3 : isW b N 3 s := wv7.elim (fun q => q.2) (fun q => absurd q.1 (by omega))
          refine x_aload_n (i := 0) C dX6_readBoardLine_146 rfl rfl ?_
          refine x_callV (As := []) C (by exact (c_adv (s := s) (hT0.fr hF rfl) hH hK FR.rf)) ckX6_54 im_X6_advance se_X6_advance (nlt rfl) rfl rfl rfl rfl (nle rfl) (by exact ⟨nle rfl, nle rfl⟩) dX6_readBoardLine_147 ?_
          rintro _ Yy9 ⟨rfl, hHy9, hGy9, hKy9⟩
          have hFy9 : FR mdBL X0 Yy9 := FR.tr hF hGy9 (by decide)
          have hLy9 := hL.fr hGy9 rfl
          have hBy9 := hB.fr hGy9 rfl
          refine Wx_st (st' := []) rfl ?_
          refine x_aload_n (i := 0) C dX6_readBoardLine_150 rfl rfl ?_
          refine x_callV (As := []) C (by exact (c_readFields (s := (nx b N s)) (F := F) (hT0.fr hFy9 rfl) hHy9 FR.rf hKy9 hLy9)) ckX6_105 im_X6_readFields se_X6_readFields (nlt rfl) rfl rfl rfl rfl (nle rfl) (by exact ⟨nle rfl, nle rfl⟩) dX6_readBoardLine_151 ?_
          rintro _ Yy10 ⟨l11, rfl, el11, hHy10, hGy10, hKy10, hLy10⟩
          have hFy10 : FR mdBL X0 Yy10 := FR.tr hFy9 hGy10 (by decide)
          have hBy10 := hBy9.fr hGy10 rfl
          refine Wx_st (st' := [.long (l11)]) rfl ?_
          refine x_lstore_n (i := 1) (lv' := [(1, .long (l11)), (0, .ref 21)]) C dX6_readBoardLine_154 rfl (nlt rfl) rfl ?_
          refine x_aload_n (i := 0) C dX6_readBoardLine_155 rfl rfl ?_
          refine x_getRs (r := 22) C fkX_X6_12 (nlt rfl) rfl (HG.rR hHy10 (k := 21) (i := 0) rfl rfl) dX6_readBoardLine_156 ?_
          refine x_dup C dX6_readBoardLine_159 rfl ?_
          refine x_getL C fkX_X6_115 (nlt rfl) rfl dX6_readBoardLine_160 ?_
          refine x_genL (fun l12 el12 => ?_)
          refine x_lload_n (i := 1) C dX6_readBoardLine_163 rfl rfl ?_
          refine x_lor C dX6_readBoardLine_164 ?_
          refine x_genL (fun l13 el13 => ?_)
          refine x_putL C pkX_X6_115 (nlt rfl) rfl dX6_readBoardLine_165 ?_
          refine x_gX (fun Yy14 eYy14 => ?_)
          have hHy14 : HG vX Yy14 := by
            rw [eYy14]
            exact hg_wLF hHy10 (p := ((-9223372036854775808), 9223372036854775807)) rfl (l64 _)
          have hFy14 : FR mdBL X0 Yy14 := by
            rw [eYy14]
            exact FR.upL hFy10 (rfl)
          replace eYy14 : Yy14 = upL Yy10 22 3 (l13) := eYy14
          have hGy14 : FR [(22, some 3)] Yy10 Yy14 := by
            rw [eYy14]
            exact FR.upL FR.rf rfl
          have hKy14 := hKy10.fr hGy14 rfl
          have hLy14 := hLy10.fr hGy14 rfl
          have hBy14 : BDX (bpt B (rF b N 600 (nx b N s) F 0).2.2) Yy14 := ⟨by rw [eYy14, upL_1]; exact hBy10.1, by rw [eYy14, upL_1]; exact hBy10.2.1, by rw [eYy14, upL_ne (by decide)]; exact hBy10.2.2.1, by rw [eYy14, upL_at]; exact (by rw [el13, el12, hBy10.2.2.2.1, ← el11]; rfl), by rw [eYy14, upL_1]; exact hBy10.2.2.2.2.1, fun j hj => ⟨by rw [eYy14, upL_1]; exact (hBy10.2.2.2.2.2 j hj).1, by rw [eYy14, upL_1]; exact (hBy10.2.2.2.2.2 j hj).2⟩⟩
          refine x_lload_n (i := 1) C dX6_readBoardLine_168 rfl rfl ?_
          refine x_lconst C dX6_readBoardLine_169 ?_
          refine x_eqL (b := 0) rfl ?_
          refine x_lcmp C dX6_readBoardLine_170 ?_
          refine x_topi (fun v15 rv15 ev15 => ?_)
          have cv15 := lcmp_iff rv15 ev15
          unfold inR at rv15
          refine x_if_eq (tgt := 185) C dX6_readBoardLine_171 (by decide) ⟨by omega, by omega⟩ (fun h16 => ?_) (fun h16 => ?_)
          · refine x_iconst C dX6_readBoardLine_185 ?_
            exact x_zret C hQ (by omega) dX6_readBoardLine_186 (⟨_, rfl, hHy14, hFy14, by rw [(bL_3 W0 W1 W2 W3).trans (finB_n (.inl (by rw [← el11]; exact fun g => g (cv15.1.mp (by omega)))))]; rfl, by rw [(bL_3 W0 W1 W2 W3).trans (finB_n (.inl (by rw [← el11]; exact fun g => g (cv15.1.mp (by omega)))))]; exact hKy14, by rw [(bL_3 W0 W1 W2 W3).trans (finB_n (.inl (by rw [← el11]; exact fun g => g (cv15.1.mp (by omega)))))]; exact hLy14, by rw [(bL_3 W0 W1 W2 W3).trans (finB_n (.inl (by rw [← el11]; exact fun g => g (cv15.1.mp (by omega)))))]; exact hBy14⟩)
          · refine x_aload_n (i := 0) C dX6_readBoardLine_174 rfl rfl ?_
            refine x_callV (As := []) C (by exact (c_takeMark (s := (rF b N 600 (nx b N s) F 0).1) (hT0.fr hFy14 rfl) hHy14 FR.rf hKy14)) ckX6_92 im_X6_takeMark se_X6_takeMark (nlt rfl) rfl rfl rfl rfl (nle rfl) (by exact ⟨nle rfl, nle rfl⟩) dX6_readBoardLine_175 ?_
            rintro _ Yy17 ⟨v18, rfl, hHy17, hGy17, mk⟩
            have hFy17 : FR mdBL X0 Yy17 := FR.tr hFy14 hGy17 (by decide)
            have hLy17 := hLy14.fr hGy17 rfl
            have hBy17 := hBy14.fr hGy17 rfl
            refine Wx_st (st' := [.int (iI (v18))]) rfl ?_
            refine x_if_eq (tgt := 185) C dX6_readBoardLine_178 (by decide) ⟨by omega, by omega⟩ (fun h19 => ?_) (fun h19 => ?_)
            · refine x_iconst C dX6_readBoardLine_185 ?_
              exact x_zret C hQ (by omega) dX6_readBoardLine_186 (mk.elim (fun q => absurd q.1 (by omega)) (fun q => ⟨_, rfl, hHy17, hFy17, by rw [(bL_3 W0 W1 W2 W3).trans (finB_n (.inr q.2.1))]; rfl, by rw [(bL_3 W0 W1 W2 W3).trans (finB_n (.inr q.2.1))]; exact q.2.2, by rw [(bL_3 W0 W1 W2 W3).trans (finB_n (.inr q.2.1))]; exact hLy17, by rw [(bL_3 W0 W1 W2 W3).trans (finB_n (.inr q.2.1))]; exact hBy17⟩))
            · refine x_iconst C dX6_readBoardLine_181 ?_
              refine x_goto (tgt := 186) C dX6_readBoardLine_182 (by decide) ?_
              exact x_zret C hQ (by omega) dX6_readBoardLine_186 (mk.elim (fun q => ⟨_, rfl, hHy17, hFy17, by rw [(bL_3 W0 W1 W2 W3).trans (finB_y (by rw [← el11]; exact fun g => absurd (cv15.1.mpr g) (by omega)) q.2.1)]; rfl, by rw [(bL_3 W0 W1 W2 W3).trans (finB_y (by rw [← el11]; exact fun g => absurd (cv15.1.mpr g) (by omega)) q.2.1)]; exact q.2.2, by rw [(bL_3 W0 W1 W2 W3).trans (finB_y (by rw [← el11]; exact fun g => absurd (cv15.1.mpr g) (by omega)) q.2.1)]; exact hLy17, by rw [(bL_3 W0 W1 W2 W3).trans (finB_y (by rw [← el11]; exact fun g => absurd (cv15.1.mpr g) (by omega)) q.2.1)]; exact hBy17⟩) (fun q => absurd q.1 (by omega)))
      · have W2 : isW b N 2 s := wv5.elim (fun q => q.2) (fun q => absurd q.1 (by omega))
        refine x_aload_n (i := 0) C dX6_readBoardLine_96 rfl rfl ?_
        refine x_callV (As := []) C (by exact (c_adv (s := s) (hT0.fr hF rfl) hH hK FR.rf)) ckX6_54 im_X6_advance se_X6_advance (nlt rfl) rfl rfl rfl rfl (nle rfl) (by exact ⟨nle rfl, nle rfl⟩) dX6_readBoardLine_97 ?_
        rintro _ Yy20 ⟨rfl, hHy20, hGy20, hKy20⟩
        have hFy20 : FR mdBL X0 Yy20 := FR.tr hF hGy20 (by decide)
        have hLy20 := hL.fr hGy20 rfl
        have hBy20 := hB.fr hGy20 rfl
        refine Wx_st (st' := []) rfl ?_
        refine x_aload_n (i := 0) C dX6_readBoardLine_100 rfl rfl ?_
        refine x_callV (As := []) C (by exact (c_readFields (s := (nx b N s)) (F := F) (hT0.fr hFy20 rfl) hHy20 FR.rf hKy20 hLy20)) ckX6_105 im_X6_readFields se_X6_readFields (nlt rfl) rfl rfl rfl rfl (nle rfl) (by exact ⟨nle rfl, nle rfl⟩) dX6_readBoardLine_101 ?_
        rintro _ Yy21 ⟨l22, rfl, el22, hHy21, hGy21, hKy21, hLy21⟩
        have hFy21 : FR mdBL X0 Yy21 := FR.tr hFy20 hGy21 (by decide)
        have hBy21 := hBy20.fr hGy21 rfl
        refine Wx_st (st' := [.long (l22)]) rfl ?_
        refine x_lstore_n (i := 1) (lv' := [(1, .long (l22)), (0, .ref 21)]) C dX6_readBoardLine_104 rfl (nlt rfl) rfl ?_
        refine x_aload_n (i := 0) C dX6_readBoardLine_105 rfl rfl ?_
        refine x_getRs (r := 22) C fkX_X6_12 (nlt rfl) rfl (HG.rR hHy21 (k := 21) (i := 0) rfl rfl) dX6_readBoardLine_106 ?_
        refine x_dup C dX6_readBoardLine_109 rfl ?_
        refine x_getL C fkX_X6_109 (nlt rfl) rfl dX6_readBoardLine_110 ?_
        refine x_genL (fun l23 el23 => ?_)
        refine x_lload_n (i := 1) C dX6_readBoardLine_113 rfl rfl ?_
        refine x_lor C dX6_readBoardLine_114 ?_
        refine x_genL (fun l24 el24 => ?_)
        refine x_putL C pkX_X6_109 (nlt rfl) rfl dX6_readBoardLine_115 ?_
        refine x_gX (fun Yy25 eYy25 => ?_)
        have hHy25 : HG vX Yy25 := by
          rw [eYy25]
          exact hg_wLF hHy21 (p := ((-9223372036854775808), 9223372036854775807)) rfl (l64 _)
        have hFy25 : FR mdBL X0 Yy25 := by
          rw [eYy25]
          exact FR.upL hFy21 (rfl)
        replace eYy25 : Yy25 = upL Yy21 22 2 (l24) := eYy25
        have hGy25 : FR [(22, some 2)] Yy21 Yy25 := by
          rw [eYy25]
          exact FR.upL FR.rf rfl
        have hKy25 := hKy21.fr hGy25 rfl
        have hLy25 := hLy21.fr hGy25 rfl
        have hBy25 : BDX (bwl B (rF b N 600 (nx b N s) F 0).2.2) Yy25 := ⟨by rw [eYy25, upL_1]; exact hBy21.1, by rw [eYy25, upL_1]; exact hBy21.2.1, by rw [eYy25, upL_at]; exact (by rw [el24, el23, hBy21.2.2.1, ← el22]; rfl), by rw [eYy25, upL_ne (by decide)]; exact hBy21.2.2.2.1, by rw [eYy25, upL_1]; exact hBy21.2.2.2.2.1, fun j hj => ⟨by rw [eYy25, upL_1]; exact (hBy21.2.2.2.2.2 j hj).1, by rw [eYy25, upL_1]; exact (hBy21.2.2.2.2.2 j hj).2⟩⟩
        refine x_lload_n (i := 1) C dX6_readBoardLine_118 rfl rfl ?_
        refine x_lconst C dX6_readBoardLine_119 ?_
        refine x_eqL (b := 0) rfl ?_
        refine x_lcmp C dX6_readBoardLine_120 ?_
        refine x_topi (fun v26 rv26 ev26 => ?_)
        have cv26 := lcmp_iff rv26 ev26
        unfold inR at rv26
        refine x_if_eq (tgt := 135) C dX6_readBoardLine_121 (by decide) ⟨by omega, by omega⟩ (fun h27 => ?_) (fun h27 => ?_)
        · refine x_iconst C dX6_readBoardLine_135 ?_
          exact x_zret C hQ (by omega) dX6_readBoardLine_136 (⟨_, rfl, hHy25, hFy25, by rw [(bL_2 W0 W1 W2).trans (finB_n (.inl (by rw [← el22]; exact fun g => g (cv26.1.mp (by omega)))))]; rfl, by rw [(bL_2 W0 W1 W2).trans (finB_n (.inl (by rw [← el22]; exact fun g => g (cv26.1.mp (by omega)))))]; exact hKy25, by rw [(bL_2 W0 W1 W2).trans (finB_n (.inl (by rw [← el22]; exact fun g => g (cv26.1.mp (by omega)))))]; exact hLy25, by rw [(bL_2 W0 W1 W2).trans (finB_n (.inl (by rw [← el22]; exact fun g => g (cv26.1.mp (by omega)))))]; exact hBy25⟩)
        · refine x_aload_n (i := 0) C dX6_readBoardLine_124 rfl rfl ?_
          refine x_callV (As := []) C (by exact (c_takeMark (s := (rF b N 600 (nx b N s) F 0).1) (hT0.fr hFy25 rfl) hHy25 FR.rf hKy25)) ckX6_92 im_X6_takeMark se_X6_takeMark (nlt rfl) rfl rfl rfl rfl (nle rfl) (by exact ⟨nle rfl, nle rfl⟩) dX6_readBoardLine_125 ?_
          rintro _ Yy28 ⟨v29, rfl, hHy28, hGy28, mk⟩
          have hFy28 : FR mdBL X0 Yy28 := FR.tr hFy25 hGy28 (by decide)
          have hLy28 := hLy25.fr hGy28 rfl
          have hBy28 := hBy25.fr hGy28 rfl
          refine Wx_st (st' := [.int (iI (v29))]) rfl ?_
          refine x_if_eq (tgt := 135) C dX6_readBoardLine_128 (by decide) ⟨by omega, by omega⟩ (fun h30 => ?_) (fun h30 => ?_)
          · refine x_iconst C dX6_readBoardLine_135 ?_
            exact x_zret C hQ (by omega) dX6_readBoardLine_136 (mk.elim (fun q => absurd q.1 (by omega)) (fun q => ⟨_, rfl, hHy28, hFy28, by rw [(bL_2 W0 W1 W2).trans (finB_n (.inr q.2.1))]; rfl, by rw [(bL_2 W0 W1 W2).trans (finB_n (.inr q.2.1))]; exact q.2.2, by rw [(bL_2 W0 W1 W2).trans (finB_n (.inr q.2.1))]; exact hLy28, by rw [(bL_2 W0 W1 W2).trans (finB_n (.inr q.2.1))]; exact hBy28⟩))
          · refine x_iconst C dX6_readBoardLine_131 ?_
            refine x_goto (tgt := 136) C dX6_readBoardLine_132 (by decide) ?_
            exact x_zret C hQ (by omega) dX6_readBoardLine_136 (mk.elim (fun q => ⟨_, rfl, hHy28, hFy28, by rw [(bL_2 W0 W1 W2).trans (finB_y (by rw [← el22]; exact fun g => absurd (cv26.1.mpr g) (by omega)) q.2.1)]; rfl, by rw [(bL_2 W0 W1 W2).trans (finB_y (by rw [← el22]; exact fun g => absurd (cv26.1.mpr g) (by omega)) q.2.1)]; exact q.2.2, by rw [(bL_2 W0 W1 W2).trans (finB_y (by rw [← el22]; exact fun g => absurd (cv26.1.mpr g) (by omega)) q.2.1)]; exact hLy28, by rw [(bL_2 W0 W1 W2).trans (finB_y (by rw [← el22]; exact fun g => absurd (cv26.1.mpr g) (by omega)) q.2.1)]; exact hBy28⟩) (fun q => absurd q.1 (by omega)))
    · have W1 : isW b N 1 s := wv3.elim (fun q => q.2) (fun q => absurd q.1 (by omega))
      refine x_aload_n (i := 0) C dX6_readBoardLine_42 rfl rfl ?_
      refine x_getRs (r := 22) C fkX_X6_12 (nlt rfl) rfl (HG.rR hH (k := 21) (i := 0) rfl rfl) dX6_readBoardLine_43 ?_
      refine x_getI C fkX_X6_97 (nlt rfl) rfl dX6_readBoardLine_46 ?_
      refine x_gen (fun v31 ev31 => ?_)
      have qv31 : ((-2147483648) : Int) ≤ v31 ∧ v31 ≤ (2147483647 : Int) := by
        rw [ev31]
        exact hH.rF (k := 22) (i := 4) rfl rfl
      refine x_bipush C dX6_readBoardLine_49 (by decide) ?_
      refine x_icmp_ne (tgt := 63) C dX6_readBoardLine_51 (by decide) ⟨by omega, by omega⟩ ⟨by omega, by omega⟩ (fun h32 => ?_) (fun h32 => ?_)
      · have ifF : (if B.2.2.2.2.1 = 6 then ntF F 3 ((s : Nat) : Int) else F) = F := if_neg (by omega)
        rw [← ifF] at hL
        refine x_aload_n (i := 0) C dX6_readBoardLine_63 rfl rfl ?_
        refine x_callV (As := []) C (by exact (c_adv (s := s) (hT0.fr hF rfl) hH hK FR.rf)) ckX6_54 im_X6_advance se_X6_advance (nlt rfl) rfl rfl rfl rfl (nle rfl) (by exact ⟨nle rfl, nle rfl⟩) dX6_readBoardLine_64 ?_
        rintro _ Yy33 ⟨rfl, hHy33, hGy33, hKy33⟩
        have hFy33 : FR mdBL X0 Yy33 := FR.tr hF hGy33 (by decide)
        have hLy33 := hL.fr hGy33 rfl
        have hBy33 := hB.fr hGy33 rfl
        refine Wx_st (st' := []) rfl ?_
        refine x_aload_n (i := 0) C dX6_readBoardLine_67 rfl rfl ?_
        refine x_callV (As := []) C (by exact (c_readMan (s := (nx b N s)) (F := (if B.2.2.2.2.1 = 6 then ntF F 3 ((s : Nat) : Int) else F)) (B := B) (hT0.fr hFy33 rfl) hHy33 m0 m1 FR.rf hKy33 hLy33 hBy33)) ckX6_100 im_X6_readMan se_X6_readMan (nlt rfl) rfl rfl rfl rfl (nle rfl) (by exact ⟨nle rfl, nle rfl⟩) dX6_readBoardLine_68 ?_
        rintro _ Yy34 ⟨v35, rfl, hHy34, hGy34, hKy34, hLy34, hBy34, rs⟩
        have hFy34 : FR mdBL X0 Yy34 := FR.tr hFy33 hGy34 (by decide)
        refine Wx_st (st' := [.int (iI (v35))]) rfl ?_
        refine x_if_eq (tgt := 85) C dX6_readBoardLine_71 (by decide) ⟨by omega, by omega⟩ (fun h36 => ?_) (fun h36 => ?_)
        · refine x_iconst C dX6_readBoardLine_85 ?_
          exact x_zret C hQ (by omega) dX6_readBoardLine_86 (⟨_, rfl, hHy34, hFy34, by rw [(bL_1 W0 W1).trans (finB_n (.inl (rs.elim (fun g => absurd g.1 (by omega)) (fun g => g.2))))]; rfl, by rw [(bL_1 W0 W1).trans (finB_n (.inl (rs.elim (fun g => absurd g.1 (by omega)) (fun g => g.2))))]; exact hKy34, by rw [(bL_1 W0 W1).trans (finB_n (.inl (rs.elim (fun g => absurd g.1 (by omega)) (fun g => g.2))))]; exact hLy34, by rw [(bL_1 W0 W1).trans (finB_n (.inl (rs.elim (fun g => absurd g.1 (by omega)) (fun g => g.2))))]; exact hBy34⟩)
        · refine x_aload_n (i := 0) C dX6_readBoardLine_74 rfl rfl ?_
          refine x_callV (As := []) C (by exact (c_takeMark (s := (tnS b N (tnS b N (nx b N s)))) (hT0.fr hFy34 rfl) hHy34 FR.rf hKy34)) ckX6_92 im_X6_takeMark se_X6_takeMark (nlt rfl) rfl rfl rfl rfl (nle rfl) (by exact ⟨nle rfl, nle rfl⟩) dX6_readBoardLine_75 ?_
          rintro _ Yy37 ⟨v38, rfl, hHy37, hGy37, mk⟩
          have hFy37 : FR mdBL X0 Yy37 := FR.tr hFy34 hGy37 (by decide)
          have hLy37 := hLy34.fr hGy37 rfl
          have hBy37 := hBy34.fr hGy37 rfl
          refine Wx_st (st' := [.int (iI (v38))]) rfl ?_
          refine x_if_eq (tgt := 85) C dX6_readBoardLine_78 (by decide) ⟨by omega, by omega⟩ (fun h39 => ?_) (fun h39 => ?_)
          · refine x_iconst C dX6_readBoardLine_85 ?_
            exact x_zret C hQ (by omega) dX6_readBoardLine_86 (mk.elim (fun q => absurd q.1 (by omega)) (fun q => ⟨_, rfl, hHy37, hFy37, by rw [(bL_1 W0 W1).trans (finB_n (.inr q.2.1))]; rfl, by rw [(bL_1 W0 W1).trans (finB_n (.inr q.2.1))]; exact q.2.2, by rw [(bL_1 W0 W1).trans (finB_n (.inr q.2.1))]; exact hLy37, by rw [(bL_1 W0 W1).trans (finB_n (.inr q.2.1))]; exact hBy37⟩))
          · refine x_iconst C dX6_readBoardLine_81 ?_
            refine x_goto (tgt := 86) C dX6_readBoardLine_82 (by decide) ?_
            exact x_zret C hQ (by omega) dX6_readBoardLine_86 (mk.elim (fun q => ⟨_, rfl, hHy37, hFy37, by rw [(bL_1 W0 W1).trans (finB_y (rs.elim (fun g => g.2) (fun g => absurd g.1 (by omega))) q.2.1)]; rfl, by rw [(bL_1 W0 W1).trans (finB_y (rs.elim (fun g => g.2) (fun g => absurd g.1 (by omega))) q.2.1)]; exact q.2.2, by rw [(bL_1 W0 W1).trans (finB_y (rs.elim (fun g => g.2) (fun g => absurd g.1 (by omega))) q.2.1)]; exact hLy37, by rw [(bL_1 W0 W1).trans (finB_y (rs.elim (fun g => g.2) (fun g => absurd g.1 (by omega))) q.2.1)]; exact hBy37⟩) (fun q => absurd q.1 (by omega)))
      · refine x_aload_n (i := 0) C dX6_readBoardLine_54 rfl rfl ?_
        refine x_iconst C dX6_readBoardLine_55 ?_
        refine x_aload_n (i := 0) C dX6_readBoardLine_56 rfl rfl ?_
        refine x_getI C fkX_X6_73 (nlt rfl) rfl dX6_readBoardLine_57 ?_
        refine x_gen (fun v40 ev40 => ?_)
        have qv40 : ((-2147483648) : Int) ≤ v40 ∧ v40 ≤ (2147483647 : Int) := by
          rw [ev40]
          exact hH.rF (k := 21) (i := 8) rfl rfl
        refine x_callV (As := [.int (iI (3)), .int (iI (v40))]) C (by exact (c_note (F := F) (f := 3) (p := v40) ⟨by omega, by omega⟩ ⟨by omega, by omega⟩ hH FR.rf hL)) ckX6_79 im_X6_note se_X6_note (nlt rfl) rfl rfl rfl rfl (nle rfl) (by exact ⟨nle rfl, nle rfl⟩) dX6_readBoardLine_60 ?_
        rintro _ Yy41 ⟨rfl, hHy41, hGy41, hLy41⟩
        have hFy41 : FR mdBL X0 Yy41 := FR.tr hF hGy41 (by decide)
        have hKy41 := hK.fr hGy41 rfl
        have hBy41 := hB.fr hGy41 rfl
        have pvy41 : v40 = ((s : Nat) : Int) := by have := hK.1; omega
        rw [pvy41] at hLy41
        refine Wx_st (st' := []) rfl ?_
        have ifF : (if B.2.2.2.2.1 = 6 then ntF F 3 ((s : Nat) : Int) else F) = (ntF F 3 ((s : Nat) : Int)) := if_pos (by omega)
        rw [← ifF] at hLy41
        refine x_aload_n (i := 0) C dX6_readBoardLine_63 rfl rfl ?_
        refine x_callV (As := []) C (by exact (c_adv (s := s) (hT0.fr hFy41 rfl) hHy41 hKy41 FR.rf)) ckX6_54 im_X6_advance se_X6_advance (nlt rfl) rfl rfl rfl rfl (nle rfl) (by exact ⟨nle rfl, nle rfl⟩) dX6_readBoardLine_64 ?_
        rintro _ Yy42 ⟨rfl, hHy42, hGy42, hKy42⟩
        have hFy42 : FR mdBL X0 Yy42 := FR.tr hFy41 hGy42 (by decide)
        have hLy42 := hLy41.fr hGy42 rfl
        have hBy42 := hBy41.fr hGy42 rfl
        refine Wx_st (st' := []) rfl ?_
        refine x_aload_n (i := 0) C dX6_readBoardLine_67 rfl rfl ?_
        refine x_callV (As := []) C (by exact (c_readMan (s := (nx b N s)) (F := (if B.2.2.2.2.1 = 6 then ntF F 3 ((s : Nat) : Int) else F)) (B := B) (hT0.fr hFy42 rfl) hHy42 m0 m1 FR.rf hKy42 hLy42 hBy42)) ckX6_100 im_X6_readMan se_X6_readMan (nlt rfl) rfl rfl rfl rfl (nle rfl) (by exact ⟨nle rfl, nle rfl⟩) dX6_readBoardLine_68 ?_
        rintro _ Yy43 ⟨v44, rfl, hHy43, hGy43, hKy43, hLy43, hBy43, rs⟩
        have hFy43 : FR mdBL X0 Yy43 := FR.tr hFy42 hGy43 (by decide)
        refine Wx_st (st' := [.int (iI (v44))]) rfl ?_
        refine x_if_eq (tgt := 85) C dX6_readBoardLine_71 (by decide) ⟨by omega, by omega⟩ (fun h45 => ?_) (fun h45 => ?_)
        · refine x_iconst C dX6_readBoardLine_85 ?_
          exact x_zret C hQ (by omega) dX6_readBoardLine_86 (⟨_, rfl, hHy43, hFy43, by rw [(bL_1 W0 W1).trans (finB_n (.inl (rs.elim (fun g => absurd g.1 (by omega)) (fun g => g.2))))]; rfl, by rw [(bL_1 W0 W1).trans (finB_n (.inl (rs.elim (fun g => absurd g.1 (by omega)) (fun g => g.2))))]; exact hKy43, by rw [(bL_1 W0 W1).trans (finB_n (.inl (rs.elim (fun g => absurd g.1 (by omega)) (fun g => g.2))))]; exact hLy43, by rw [(bL_1 W0 W1).trans (finB_n (.inl (rs.elim (fun g => absurd g.1 (by omega)) (fun g => g.2))))]; exact hBy43⟩)
        · refine x_aload_n (i := 0) C dX6_readBoardLine_74 rfl rfl ?_
          refine x_callV (As := []) C (by exact (c_takeMark (s := (tnS b N (tnS b N (nx b N s)))) (hT0.fr hFy43 rfl) hHy43 FR.rf hKy43)) ckX6_92 im_X6_takeMark se_X6_takeMark (nlt rfl) rfl rfl rfl rfl (nle rfl) (by exact ⟨nle rfl, nle rfl⟩) dX6_readBoardLine_75 ?_
          rintro _ Yy46 ⟨v47, rfl, hHy46, hGy46, mk⟩
          have hFy46 : FR mdBL X0 Yy46 := FR.tr hFy43 hGy46 (by decide)
          have hLy46 := hLy43.fr hGy46 rfl
          have hBy46 := hBy43.fr hGy46 rfl
          refine Wx_st (st' := [.int (iI (v47))]) rfl ?_
          refine x_if_eq (tgt := 85) C dX6_readBoardLine_78 (by decide) ⟨by omega, by omega⟩ (fun h48 => ?_) (fun h48 => ?_)
          · refine x_iconst C dX6_readBoardLine_85 ?_
            exact x_zret C hQ (by omega) dX6_readBoardLine_86 (mk.elim (fun q => absurd q.1 (by omega)) (fun q => ⟨_, rfl, hHy46, hFy46, by rw [(bL_1 W0 W1).trans (finB_n (.inr q.2.1))]; rfl, by rw [(bL_1 W0 W1).trans (finB_n (.inr q.2.1))]; exact q.2.2, by rw [(bL_1 W0 W1).trans (finB_n (.inr q.2.1))]; exact hLy46, by rw [(bL_1 W0 W1).trans (finB_n (.inr q.2.1))]; exact hBy46⟩))
          · refine x_iconst C dX6_readBoardLine_81 ?_
            refine x_goto (tgt := 86) C dX6_readBoardLine_82 (by decide) ?_
            exact x_zret C hQ (by omega) dX6_readBoardLine_86 (mk.elim (fun q => ⟨_, rfl, hHy46, hFy46, by rw [(bL_1 W0 W1).trans (finB_y (rs.elim (fun g => g.2) (fun g => absurd g.1 (by omega))) q.2.1)]; rfl, by rw [(bL_1 W0 W1).trans (finB_y (rs.elim (fun g => g.2) (fun g => absurd g.1 (by omega))) q.2.1)]; exact q.2.2, by rw [(bL_1 W0 W1).trans (finB_y (rs.elim (fun g => g.2) (fun g => absurd g.1 (by omega))) q.2.1)]; exact hLy46, by rw [(bL_1 W0 W1).trans (finB_y (rs.elim (fun g => g.2) (fun g => absurd g.1 (by omega))) q.2.1)]; exact hBy46⟩) (fun q => absurd q.1 (by omega)))
  · have W0 : isW b N 0 s := wv1.elim (fun q => q.2) (fun q => absurd q.1 (by omega))
    refine x_aload_n (i := 0) C dX6_readBoardLine_9 rfl rfl ?_
    refine x_callV (As := []) C (by exact (c_adv (s := s) (hT0.fr hF rfl) hH hK FR.rf)) ckX6_54 im_X6_advance se_X6_advance (nlt rfl) rfl rfl rfl rfl (nle rfl) (by exact ⟨nle rfl, nle rfl⟩) dX6_readBoardLine_10 ?_
    rintro _ Yy49 ⟨rfl, hHy49, hGy49, hKy49⟩
    have hFy49 : FR mdBL X0 Yy49 := FR.tr hF hGy49 (by decide)
    have hLy49 := hL.fr hGy49 rfl
    have hBy49 := hB.fr hGy49 rfl
    refine Wx_st (st' := []) rfl ?_
    refine x_aload_n (i := 0) C dX6_readBoardLine_13 rfl rfl ?_
    refine x_callV (As := []) C (by exact (c_readSize (s := (nx b N s)) (F := F) (B := B) (hT0.fr hFy49 rfl) hHy49 m0 m1 FR.rf hKy49 hLy49 hBy49)) ckX6_89 im_X6_readSize se_X6_readSize (nlt rfl) rfl rfl rfl rfl (nle rfl) (by exact ⟨nle rfl, nle rfl⟩) dX6_readBoardLine_14 ?_
    rintro _ Yy50 ⟨v51, rfl, hHy50, hGy50, hKy50, hLy50, hBy50, rs⟩
    have hFy50 : FR mdBL X0 Yy50 := FR.tr hFy49 hGy50 (by decide)
    refine Wx_st (st' := [.int (iI (v51))]) rfl ?_
    refine x_if_eq (tgt := 31) C dX6_readBoardLine_17 (by decide) ⟨by omega, by omega⟩ (fun h52 => ?_) (fun h52 => ?_)
    · refine x_iconst C dX6_readBoardLine_31 ?_
      exact x_zret C hQ (by omega) dX6_readBoardLine_32 (⟨_, rfl, hHy50, hFy50, by rw [(bL_0 W0).trans (finB_n (.inl (rs.elim (fun g => absurd g.1 (by omega)) (fun g => g.2))))]; rfl, by rw [(bL_0 W0).trans (finB_n (.inl (rs.elim (fun g => absurd g.1 (by omega)) (fun g => g.2))))]; exact hKy50, by rw [(bL_0 W0).trans (finB_n (.inl (rs.elim (fun g => absurd g.1 (by omega)) (fun g => g.2))))]; exact hLy50, by rw [(bL_0 W0).trans (finB_n (.inl (rs.elim (fun g => absurd g.1 (by omega)) (fun g => g.2))))]; exact hBy50⟩)
    · refine x_aload_n (i := 0) C dX6_readBoardLine_20 rfl rfl ?_
      refine x_callV (As := []) C (by exact (c_takeMark (s := (tnS b N (tnS b N (nx b N s)))) (hT0.fr hFy50 rfl) hHy50 FR.rf hKy50)) ckX6_92 im_X6_takeMark se_X6_takeMark (nlt rfl) rfl rfl rfl rfl (nle rfl) (by exact ⟨nle rfl, nle rfl⟩) dX6_readBoardLine_21 ?_
      rintro _ Yy53 ⟨v54, rfl, hHy53, hGy53, mk⟩
      have hFy53 : FR mdBL X0 Yy53 := FR.tr hFy50 hGy53 (by decide)
      have hLy53 := hLy50.fr hGy53 rfl
      have hBy53 := hBy50.fr hGy53 rfl
      refine Wx_st (st' := [.int (iI (v54))]) rfl ?_
      refine x_if_eq (tgt := 31) C dX6_readBoardLine_24 (by decide) ⟨by omega, by omega⟩ (fun h55 => ?_) (fun h55 => ?_)
      · refine x_iconst C dX6_readBoardLine_31 ?_
        exact x_zret C hQ (by omega) dX6_readBoardLine_32 (mk.elim (fun q => absurd q.1 (by omega)) (fun q => ⟨_, rfl, hHy53, hFy53, by rw [(bL_0 W0).trans (finB_n (.inr q.2.1))]; rfl, by rw [(bL_0 W0).trans (finB_n (.inr q.2.1))]; exact q.2.2, by rw [(bL_0 W0).trans (finB_n (.inr q.2.1))]; exact hLy53, by rw [(bL_0 W0).trans (finB_n (.inr q.2.1))]; exact hBy53⟩))
      · refine x_iconst C dX6_readBoardLine_27 ?_
        refine x_goto (tgt := 32) C dX6_readBoardLine_28 (by decide) ?_
        exact x_zret C hQ (by omega) dX6_readBoardLine_32 (mk.elim (fun q => ⟨_, rfl, hHy53, hFy53, by rw [(bL_0 W0).trans (finB_y (rs.elim (fun g => g.2) (fun g => absurd g.1 (by omega))) q.2.1)]; rfl, by rw [(bL_0 W0).trans (finB_y (rs.elim (fun g => g.2) (fun g => absurd g.1 (by omega))) q.2.1)]; exact q.2.2, by rw [(bL_0 W0).trans (finB_y (rs.elim (fun g => g.2) (fun g => absurd g.1 (by omega))) q.2.1)]; exact hLy53, by rw [(bL_0 W0).trans (finB_y (rs.elim (fun g => g.2) (fun g => absurd g.1 (by omega))) q.2.1)]; exact hBy53⟩) (fun q => absurd q.1 (by omega)))
