/-! ===== the class reads: games, boards that are sound ===== -/
theorem dX6_readGameLine_0 : decode cX6_readGameLine 0 = .ok (.aload_n 0, 1) := by decide +kernel
theorem dX6_readGameLine_1 : decode cX6_readGameLine 1 = .ok (.ldc 134, 2) := by decide +kernel
theorem dX6_readGameLine_3 : decode cX6_readGameLine 3 = .ok (.invokevirtual 85, 3) := by decide +kernel
theorem dX6_readGameLine_6 : decode cX6_readGameLine 6 = .ok (.ifCond .ne 5, 3) := by decide +kernel
theorem dX6_readGameLine_9 : decode cX6_readGameLine 9 = .ok (.iconst 0, 1) := by decide +kernel
theorem dX6_readGameLine_10 : decode cX6_readGameLine 10 = .ok (.ireturn, 1) := by decide +kernel
theorem dX6_readGameLine_11 : decode cX6_readGameLine 11 = .ok (.aload_n 0, 1) := by decide +kernel
theorem dX6_readGameLine_12 : decode cX6_readGameLine 12 = .ok (.getfield 21, 3) := by decide +kernel
theorem dX6_readGameLine_15 : decode cX6_readGameLine 15 = .ok (.getfield 51, 3) := by decide +kernel
theorem dX6_readGameLine_18 : decode cX6_readGameLine 18 = .ok (.bipush 30, 2) := by decide +kernel
theorem dX6_readGameLine_20 : decode cX6_readGameLine 20 = .ok (.if_icmp .ne 12, 3) := by decide +kernel
theorem dX6_readGameLine_23 : decode cX6_readGameLine 23 = .ok (.aload_n 0, 1) := by decide +kernel
theorem dX6_readGameLine_24 : decode cX6_readGameLine 24 = .ok (.iconst 3, 1) := by decide +kernel
theorem dX6_readGameLine_25 : decode cX6_readGameLine 25 = .ok (.aload_n 0, 1) := by decide +kernel
theorem dX6_readGameLine_26 : decode cX6_readGameLine 26 = .ok (.getfield 73, 3) := by decide +kernel
theorem dX6_readGameLine_29 : decode cX6_readGameLine 29 = .ok (.invokevirtual 79, 3) := by decide +kernel
theorem dX6_readGameLine_32 : decode cX6_readGameLine 32 = .ok (.aload_n 0, 1) := by decide +kernel
theorem dX6_readGameLine_33 : decode cX6_readGameLine 33 = .ok (.invokevirtual 54, 3) := by decide +kernel
theorem dX6_readGameLine_36 : decode cX6_readGameLine 36 = .ok (.aload_n 0, 1) := by decide +kernel
theorem dX6_readGameLine_37 : decode cX6_readGameLine 37 = .ok (.invokevirtual 57, 3) := by decide +kernel
theorem dX6_readGameLine_40 : decode cX6_readGameLine 40 = .ok (.ifCond .ne 5, 3) := by decide +kernel
theorem dX6_readGameLine_43 : decode cX6_readGameLine 43 = .ok (.iconst 0, 1) := by decide +kernel
theorem dX6_readGameLine_44 : decode cX6_readGameLine 44 = .ok (.ireturn, 1) := by decide +kernel
theorem dX6_readGameLine_45 : decode cX6_readGameLine 45 = .ok (.iconst (-1), 1) := by decide +kernel
theorem dX6_readGameLine_46 : decode cX6_readGameLine 46 = .ok (.istore_n 1, 1) := by decide +kernel
theorem dX6_readGameLine_47 : decode cX6_readGameLine 47 = .ok (.aload_n 0, 1) := by decide +kernel
theorem dX6_readGameLine_48 : decode cX6_readGameLine 48 = .ok (.ldc 136, 2) := by decide +kernel
theorem dX6_readGameLine_50 : decode cX6_readGameLine 50 = .ok (.invokevirtual 85, 3) := by decide +kernel
theorem dX6_readGameLine_53 : decode cX6_readGameLine 53 = .ok (.ifCond .eq 22, 3) := by decide +kernel
theorem dX6_readGameLine_56 : decode cX6_readGameLine 56 = .ok (.aload_n 0, 1) := by decide +kernel
theorem dX6_readGameLine_57 : decode cX6_readGameLine 57 = .ok (.invokevirtual 54, 3) := by decide +kernel
theorem dX6_readGameLine_60 : decode cX6_readGameLine 60 = .ok (.aload_n 0, 1) := by decide +kernel
theorem dX6_readGameLine_61 : decode cX6_readGameLine 61 = .ok (.iconst 0, 1) := by decide +kernel
theorem dX6_readGameLine_62 : decode cX6_readGameLine 62 = .ok (.bipush 35, 2) := by decide +kernel
theorem dX6_readGameLine_64 : decode cX6_readGameLine 64 = .ok (.invokevirtual 118, 3) := by decide +kernel
theorem dX6_readGameLine_67 : decode cX6_readGameLine 67 = .ok (.istore_n 1, 1) := by decide +kernel
theorem dX6_readGameLine_68 : decode cX6_readGameLine 68 = .ok (.iload_n 1, 1) := by decide +kernel
theorem dX6_readGameLine_69 : decode cX6_readGameLine 69 = .ok (.iconst (-1), 1) := by decide +kernel
theorem dX6_readGameLine_70 : decode cX6_readGameLine 70 = .ok (.if_icmp .ne 5, 3) := by decide +kernel
theorem dX6_readGameLine_73 : decode cX6_readGameLine 73 = .ok (.iconst 0, 1) := by decide +kernel
theorem dX6_readGameLine_74 : decode cX6_readGameLine 74 = .ok (.ireturn, 1) := by decide +kernel
theorem dX6_readGameLine_75 : decode cX6_readGameLine 75 = .ok (.aload_n 0, 1) := by decide +kernel
theorem dX6_readGameLine_76 : decode cX6_readGameLine 76 = .ok (.getfield 21, 3) := by decide +kernel
theorem dX6_readGameLine_79 : decode cX6_readGameLine 79 = .ok (.aload_n 0, 1) := by decide +kernel
theorem dX6_readGameLine_80 : decode cX6_readGameLine 80 = .ok (.getfield 138, 3) := by decide +kernel
theorem dX6_readGameLine_83 : decode cX6_readGameLine 83 = .ok (.iload_n 1, 1) := by decide +kernel
theorem dX6_readGameLine_84 : decode cX6_readGameLine 84 = .ok (.invokevirtual 141, 3) := by decide +kernel
theorem dX6_readGameLine_87 : decode cX6_readGameLine 87 = .ok (.aload_n 0, 1) := by decide +kernel
theorem dX6_readGameLine_88 : decode cX6_readGameLine 88 = .ok (.invokevirtual 92, 3) := by decide +kernel
theorem dX6_readGameLine_91 : decode cX6_readGameLine 91 = .ok (.ireturn, 1) := by decide +kernel
theorem dX0_clear_0 : decode cX0_clear 0 = .ok (.aload_n 0, 1) := by decide +kernel
theorem dX0_clear_1 : decode cX0_clear 1 = .ok (.iconst 4, 1) := by decide +kernel
theorem dX0_clear_2 : decode cX0_clear 2 = .ok (.putfield 18, 3) := by decide +kernel
theorem dX0_clear_5 : decode cX0_clear 5 = .ok (.aload_n 0, 1) := by decide +kernel
theorem dX0_clear_6 : decode cX0_clear 6 = .ok (.iconst 4, 1) := by decide +kernel
theorem dX0_clear_7 : decode cX0_clear 7 = .ok (.putfield 22, 3) := by decide +kernel
theorem dX0_clear_10 : decode cX0_clear 10 = .ok (.aload_n 0, 1) := by decide +kernel
theorem dX0_clear_11 : decode cX0_clear 11 = .ok (.lconst 0, 1) := by decide +kernel
theorem dX0_clear_12 : decode cX0_clear 12 = .ok (.putfield 25, 3) := by decide +kernel
theorem dX0_clear_15 : decode cX0_clear 15 = .ok (.aload_n 0, 1) := by decide +kernel
theorem dX0_clear_16 : decode cX0_clear 16 = .ok (.lconst 0, 1) := by decide +kernel
theorem dX0_clear_17 : decode cX0_clear 17 = .ok (.putfield 29, 3) := by decide +kernel
theorem dX0_clear_20 : decode cX0_clear 20 = .ok (.aload_n 0, 1) := by decide +kernel
theorem dX0_clear_21 : decode cX0_clear 21 = .ok (.iconst 0, 1) := by decide +kernel
theorem dX0_clear_22 : decode cX0_clear 22 = .ok (.putfield 32, 3) := by decide +kernel
theorem dX0_clear_25 : decode cX0_clear 25 = .ok (.return_, 1) := by decide +kernel
theorem dX0_settle_0 : decode cX0_settle 0 = .ok (.aload_n 0, 1) := by decide +kernel
theorem dX0_settle_1 : decode cX0_settle 1 = .ok (.dup, 1) := by decide +kernel
theorem dX0_settle_2 : decode cX0_settle 2 = .ok (.getfield 29, 3) := by decide +kernel
theorem dX0_settle_5 : decode cX0_settle 5 = .ok (.aload_n 0, 1) := by decide +kernel
theorem dX0_settle_6 : decode cX0_settle 6 = .ok (.getfield 25, 3) := by decide +kernel
theorem dX0_settle_9 : decode cX0_settle 9 = .ok (.ldc2_w 41, 3) := by decide +kernel
theorem dX0_settle_12 : decode cX0_settle 12 = .ok (.lxor, 1) := by decide +kernel
theorem dX0_settle_13 : decode cX0_settle 13 = .ok (.land, 1) := by decide +kernel
theorem dX0_settle_14 : decode cX0_settle 14 = .ok (.putfield 29, 3) := by decide +kernel
theorem dX0_settle_17 : decode cX0_settle 17 = .ok (.return_, 1) := by decide +kernel
theorem dX0_isSound_0 : decode cX0_isSound 0 = .ok (.aload_n 0, 1) := by decide +kernel
theorem dX0_isSound_1 : decode cX0_isSound 1 = .ok (.getfield 18, 3) := by decide +kernel
theorem dX0_isSound_4 : decode cX0_isSound 4 = .ok (.aload_n 0, 1) := by decide +kernel
theorem dX0_isSound_5 : decode cX0_isSound 5 = .ok (.getfield 22, 3) := by decide +kernel
theorem dX0_isSound_8 : decode cX0_isSound 8 = .ok (.imul, 1) := by decide +kernel
theorem dX0_isSound_9 : decode cX0_isSound 9 = .ok (.invokestatic 43, 3) := by decide +kernel
theorem dX0_isSound_12 : decode cX0_isSound 12 = .ok (.lconst 1, 1) := by decide +kernel
theorem dX0_isSound_13 : decode cX0_isSound 13 = .ok (.lsub, 1) := by decide +kernel
theorem dX0_isSound_14 : decode cX0_isSound 14 = .ok (.lstore_n 1, 1) := by decide +kernel
theorem dX0_isSound_15 : decode cX0_isSound 15 = .ok (.aload_n 0, 1) := by decide +kernel
theorem dX0_isSound_16 : decode cX0_isSound 16 = .ok (.getfield 25, 3) := by decide +kernel
theorem dX0_isSound_19 : decode cX0_isSound 19 = .ok (.aload_n 0, 1) := by decide +kernel
theorem dX0_isSound_20 : decode cX0_isSound 20 = .ok (.getfield 29, 3) := by decide +kernel
theorem dX0_isSound_23 : decode cX0_isSound 23 = .ok (.lor, 1) := by decide +kernel
theorem dX0_isSound_24 : decode cX0_isSound 24 = .ok (.lstore_n 3, 1) := by decide +kernel
theorem dX0_isSound_25 : decode cX0_isSound 25 = .ok (.lload_n 3, 1) := by decide +kernel
theorem dX0_isSound_26 : decode cX0_isSound 26 = .ok (.lload_n 1, 1) := by decide +kernel
theorem dX0_isSound_27 : decode cX0_isSound 27 = .ok (.ldc2_w 41, 3) := by decide +kernel
theorem dX0_isSound_30 : decode cX0_isSound 30 = .ok (.lxor, 1) := by decide +kernel
theorem dX0_isSound_31 : decode cX0_isSound 31 = .ok (.land, 1) := by decide +kernel
theorem dX0_isSound_32 : decode cX0_isSound 32 = .ok (.lconst 0, 1) := by decide +kernel
theorem dX0_isSound_33 : decode cX0_isSound 33 = .ok (.lcmp, 1) := by decide +kernel
theorem dX0_isSound_34 : decode cX0_isSound 34 = .ok (.ifCond .eq 5, 3) := by decide +kernel
theorem dX0_isSound_37 : decode cX0_isSound 37 = .ok (.iconst 0, 1) := by decide +kernel
theorem dX0_isSound_38 : decode cX0_isSound 38 = .ok (.ireturn, 1) := by decide +kernel
theorem dX0_isSound_39 : decode cX0_isSound 39 = .ok (.iconst 0, 1) := by decide +kernel
theorem dX0_isSound_40 : decode cX0_isSound 40 = .ok (.istore 5, 2) := by decide +kernel
theorem dX0_isSound_42 : decode cX0_isSound 42 = .ok (.iload 5, 2) := by decide +kernel
theorem dX0_isSound_44 : decode cX0_isSound 44 = .ok (.aload_n 0, 1) := by decide +kernel
theorem dX0_isSound_45 : decode cX0_isSound 45 = .ok (.getfield 32, 3) := by decide +kernel
theorem dX0_isSound_48 : decode cX0_isSound 48 = .ok (.if_icmp .ge 43, 3) := by decide +kernel
theorem dX0_isSound_51 : decode cX0_isSound 51 = .ok (.aload_n 0, 1) := by decide +kernel
theorem dX0_isSound_52 : decode cX0_isSound 52 = .ok (.getfield 15, 3) := by decide +kernel
theorem dX0_isSound_55 : decode cX0_isSound 55 = .ok (.iload 5, 2) := by decide +kernel
theorem dX0_isSound_57 : decode cX0_isSound 57 = .ok (.iaload, 1) := by decide +kernel
theorem dX0_isSound_58 : decode cX0_isSound 58 = .ok (.invokestatic 43, 3) := by decide +kernel
theorem dX0_isSound_61 : decode cX0_isSound 61 = .ok (.lstore 6, 2) := by decide +kernel
theorem dX0_isSound_63 : decode cX0_isSound 63 = .ok (.lload 6, 2) := by decide +kernel
theorem dX0_isSound_65 : decode cX0_isSound 65 = .ok (.lload_n 1, 1) := by decide +kernel
theorem dX0_isSound_66 : decode cX0_isSound 66 = .ok (.land, 1) := by decide +kernel
theorem dX0_isSound_67 : decode cX0_isSound 67 = .ok (.lload_n 3, 1) := by decide +kernel
theorem dX0_isSound_68 : decode cX0_isSound 68 = .ok (.ldc2_w 41, 3) := by decide +kernel
theorem dX0_isSound_71 : decode cX0_isSound 71 = .ok (.lxor, 1) := by decide +kernel
theorem dX0_isSound_72 : decode cX0_isSound 72 = .ok (.land, 1) := by decide +kernel
theorem dX0_isSound_73 : decode cX0_isSound 73 = .ok (.lconst 0, 1) := by decide +kernel
theorem dX0_isSound_74 : decode cX0_isSound 74 = .ok (.lcmp, 1) := by decide +kernel
theorem dX0_isSound_75 : decode cX0_isSound 75 = .ok (.ifCond .ne 5, 3) := by decide +kernel
theorem dX0_isSound_78 : decode cX0_isSound 78 = .ok (.iconst 0, 1) := by decide +kernel
theorem dX0_isSound_79 : decode cX0_isSound 79 = .ok (.ireturn, 1) := by decide +kernel
theorem dX0_isSound_80 : decode cX0_isSound 80 = .ok (.lload_n 3, 1) := by decide +kernel
theorem dX0_isSound_81 : decode cX0_isSound 81 = .ok (.lload 6, 2) := by decide +kernel
theorem dX0_isSound_83 : decode cX0_isSound 83 = .ok (.lor, 1) := by decide +kernel
theorem dX0_isSound_84 : decode cX0_isSound 84 = .ok (.lstore_n 3, 1) := by decide +kernel
theorem dX0_isSound_85 : decode cX0_isSound 85 = .ok (.iinc 5 1, 3) := by decide +kernel
theorem dX0_isSound_88 : decode cX0_isSound 88 = .ok (.goto (-46), 3) := by decide +kernel
theorem dX0_isSound_91 : decode cX0_isSound 91 = .ok (.iconst 1, 1) := by decide +kernel
theorem dX0_isSound_92 : decode cX0_isSound 92 = .ok (.ireturn, 1) := by decide +kernel
theorem fkX_X6_21 {D : va_G} {ad : Nat → Nat} {cA : Nat → ClassId} : FKw (wX D ad cA) RX6 21 6 11 1 2 := ⟨RX6, TX6, rfl, by decide, rfl, inX6, (lw_gi 283 (by decide +kernel) rfl : Cond.fieldLink RX6 21 RX6 (TX6 1).2.1 (TX6 1).2.2.1 ∈ lw_g), rfl⟩
theorem fkX_X6_51 {D : va_G} {ad : Nat → Nat} {cA : Nat → ClassId} : FKw (wX D ad cA) RX6 51 2 3 0 0 := ⟨RX2, TX2, rfl, by decide, rfl, inX2, (lw_gi 223 (by decide +kernel) rfl : Cond.fieldLink RX6 51 RX2 (TX2 0).2.1 (TX2 0).2.2.1 ∈ lw_g), rfl⟩
theorem ckX6_57 : CKB RX6 57 yX6_takeRule cX6_takeRule 6 (some .boolean) 0 := ⟨(lw_gi 592 (by decide +kernel) rfl : Cond.code yX6_takeRule cX6_takeRule 6 (some .boolean) ∈ lw_g), (lw_gi 120 (by decide +kernel) rfl : Cond.initialized yX6_takeRule.cls ∈ lw_g), by decide +kernel, by decide +kernel, (lw_gi 589 (by decide +kernel) rfl : Cond.methodLink RX6 57 yX6_takeRule ∈ lw_g)⟩
theorem im_X6_takeRule : Cond.instanceMethod yX6_takeRule ∈ lw_g := (lw_gi 591 (by decide +kernel) rfl : Cond.instanceMethod yX6_takeRule ∈ lw_g)
theorem se_X6_takeRule : Cond.selects RX6 yX6_takeRule yX6_takeRule ∈ lw_g := (lw_gi 1 (by decide +kernel) rfl : Cond.selects RX6 yX6_takeRule yX6_takeRule ∈ lw_g)
theorem fkX_X6_138 {D : va_G} {ad : Nat → Nat} {cA : Nat → ClassId} : FKw (wX D ad cA) RX6 138 6 11 2 1 := ⟨RX6, TX6, rfl, by decide, rfl, inX6, (lw_gi 285 (by decide +kernel) rfl : Cond.fieldLink RX6 138 RX6 (TX6 2).2.1 (TX6 2).2.2.1 ∈ lw_g), rfl⟩
theorem ckX6_141 : CKB RX6 141 yX2_addMove cX2_addMove 4 none 2 := ⟨(lw_gi 758 (by decide +kernel) rfl : Cond.code yX2_addMove cX2_addMove 4 none ∈ lw_g), (lw_gi 119 (by decide +kernel) rfl : Cond.initialized yX2_addMove.cls ∈ lw_g), by decide +kernel, by decide +kernel, (lw_gi 755 (by decide +kernel) rfl : Cond.methodLink RX6 141 yX2_addMove ∈ lw_g)⟩
theorem im_X2_addMove : Cond.instanceMethod yX2_addMove ∈ lw_g := (lw_gi 756 (by decide +kernel) rfl : Cond.instanceMethod yX2_addMove ∈ lw_g)
theorem se_X2_addMove : Cond.selects RX2 yX2_addMove yX2_addMove ∈ lw_g := (lw_gi 757 (by decide +kernel) rfl : Cond.selects RX2 yX2_addMove yX2_addMove ∈ lw_g)
theorem cnX0_41 : Cond.constantLong RX0 41 ((-1)) ∈ lw_g := lw_gi 763 (by decide +kernel) rfl
def RUX (r : Int64) (X : XT) : Prop := X.2.1 21 2 = r
theorem RUX.fr {r : Int64} {md : List (Nat × Option Nat)} {X Y : XT} (h : RUX r X) (hF : FR md X Y) (ho : ovl [(21, some 2)] md = false) : RUX r Y := by
  unfold RUX
  rw [(hF _ _ (ovl_no ho rfl)).2.1]
  exact h
set_option maxHeartbeats 4000000 in
set_option maxRecDepth 100000 in
theorem c_readGameLine {D : va_G} {ad : Nat → Nat} {cA : Nat → ClassId} {X0 : XT} {b : Nat → Int} {N : Nat} (hT0 : TPX b N X0) (hH : HG vX X0) {s : Nat} {F : Int × Int} {G : GC} (m0 : 0 ≤ G.1) (m1 : G.1 ≤ 30) (hF : FR mdGL X0 X0) (hK : TKX b N s X0) (hL : FLX F X0) (hM : GMX G X0) : MetS (wX D ad cA) yX6_readGameLine cX6_readGameLine 2 (some .boolean) 8 184 [.ref 21] X0 (fun r X1 => ∃ u : Int, r = some (.int (iI u)) ∧ HG vX X1 ∧ FR mdGL X0 X1 ∧ u = zB (gLine b N s F G).1 ∧ TKX b N (gLine b N s F G).2.1 X1 ∧ FLX (gLine b N s F G).2.2.1 X1 ∧ GMX (gLine b N s F G).2.2.2 X1) := by
  have bm := hM.1
  have n6 := hT0.2.2.1
  have s6 := hK.2.2.2.2
  refine MetS.mk (own := RX6) (by decide +kernel) rfl (nle rfl) (fun E C HS hQ => ?_)
  refine Wx_lv (lv' := [(0, .ref 21)]) rfl ?_
  refine x_aload_n (i := 0) C dX6_readGameLine_0 rfl rfl ?_
  refine x_ldcS (i := 4) C HS (by decide) rfl dX6_readGameLine_1 ?_
  refine x_callVT (As := [.ref (900 + 4)]) C HS (by exact (c_isWord (s := s) (i := 4) (hT0.fr hF rfl) hH (by decide) FR.rf hK)) ckX6_85 im_X6_isWord se_X6_isWord (nlt rfl) rfl rfl rfl rfl (nle rfl) (by exact ⟨nle rfl, nle rfl⟩) dX6_readGameLine_3 ?_
  rintro _ Xv1 ⟨hxv1, v1, rfl, wv1⟩
  rw [hxv1]
  refine Wx_st (st' := [.int (iI (v1))]) rfl ?_
  refine x_if_ne (tgt := 11) C dX6_readGameLine_6 (by decide) ⟨by omega, by omega⟩ (fun h2 => ?_) (fun h2 => ?_)
  · have W4 : isW b N 4 s := wv1.elim (fun q => q.2) (fun q => absurd q.1 (by omega))
    refine x_aload_n (i := 0) C dX6_readGameLine_11 rfl rfl ?_
    refine x_getRs (r := 25) C fkX_X6_21 (nlt rfl) rfl (HG.rR hH (k := 21) (i := 1) rfl rfl) dX6_readGameLine_12 ?_
    refine x_getI C fkX_X6_51 (nlt rfl) rfl dX6_readGameLine_15 ?_
    refine x_gen (fun v3 ev3 => ?_)
    have qv3 : ((-2147483648) : Int) ≤ v3 ∧ v3 ≤ (2147483647 : Int) := by
      rw [ev3]
      exact hH.rF (k := 25) (i := 0) rfl rfl
    refine x_bipush C dX6_readGameLine_18 (by decide) ?_
    refine x_icmp_ne (tgt := 32) C dX6_readGameLine_20 (by decide) ⟨by omega, by omega⟩ ⟨by omega, by omega⟩ (fun h4 => ?_) (fun h4 => ?_)
    · have ifF : (if G.1 = 30 then ntF F 3 ((s : Nat) : Int) else F) = F := if_neg (by omega)
      rw [← ifF] at hL
      refine x_aload_n (i := 0) C dX6_readGameLine_32 rfl rfl ?_
      refine x_callV (As := []) C (by exact (c_adv (s := s) (hT0.fr hF rfl) hH hK FR.rf)) ckX6_54 im_X6_advance se_X6_advance (nlt rfl) rfl rfl rfl rfl (nle rfl) (by exact ⟨nle rfl, nle rfl⟩) dX6_readGameLine_33 ?_
      rintro _ Yy5 ⟨rfl, hHy5, hGy5, hKy5⟩
      have hFy5 : FR mdGL X0 Yy5 := FR.tr hF hGy5 (by decide)
      have hLy5 := hL.fr hGy5 rfl
      have hMy5 := hM.fr hGy5 rfl
      refine Wx_st (st' := []) rfl ?_
      refine x_aload_n (i := 0) C dX6_readGameLine_36 rfl rfl ?_
      refine x_callVT (As := []) C HS (by exact (c_takeRule (s := (nx b N s)) (hT0.fr hFy5 rfl) hHy5 FR.rf hKy5)) ckX6_57 im_X6_takeRule se_X6_takeRule (nlt rfl) rfl rfl rfl rfl (nle rfl) (by exact ⟨nle rfl, nle rfl⟩) dX6_readGameLine_37 ?_
      rintro _ Yy6 ⟨v7, rfl, hHy6, hGy6, trr⟩
      have hFy6 : FR mdGL X0 Yy6 := FR.tr hFy5 hGy6 (by decide)
      have hLy6 := hLy5.fr hGy6 rfl
      have hMy6 := hMy5.fr hGy6 rfl
      refine Wx_st (st' := [.int (iI (v7))]) rfl ?_
      refine x_if_ne (tgt := 45) C dX6_readGameLine_40 (by decide) ⟨by omega, by omega⟩ (fun h8 => ?_) (fun h8 => ?_)
      · have R1 : tr b N (nx b N s) ∧ TKX b N (nx b N (nx b N s)) Yy6 ∧ Yy6.2.1 21 2 = rV b N (nx b N s) := trr.elim (fun q => q.2) (fun q => absurd q.1 (by omega))
        have hKy6 := R1.2.1
        have hRy6 : RUX (rV b N (nx b N s)) Yy6 := R1.2.2
        refine x_iconst C dX6_readGameLine_45 ?_
        refine x_istore_n (i := 1) (lv' := [(1, .int (iI ((-1)))), (0, .ref 21)]) C dX6_readGameLine_46 rfl (nlt rfl) rfl ?_
        refine x_aload_n (i := 0) C dX6_readGameLine_47 rfl rfl ?_
        refine x_ldcS (i := 5) C HS (by decide) rfl dX6_readGameLine_48 ?_
        refine x_callVT (As := [.ref (900 + 5)]) C HS (by exact (c_isWord (s := (nx b N (nx b N s))) (i := 5) (hT0.fr hFy6 rfl) hHy6 (by decide) FR.rf hKy6)) ckX6_85 im_X6_isWord se_X6_isWord (nlt rfl) rfl rfl rfl rfl (nle rfl) (by exact ⟨nle rfl, nle rfl⟩) dX6_readGameLine_50 ?_
        rintro _ Xv9 ⟨hxv9, v9, rfl, wv9⟩
        rw [hxv9]
        refine Wx_st (st' := [.int (iI (v9))]) rfl ?_
        refine x_if_eq (tgt := 75) C dX6_readGameLine_53 (by decide) ⟨by omega, by omega⟩ (fun h10 => ?_) (fun h10 => ?_)
        · have W5 : ¬ isW b N 5 (nx b N (nx b N s)) := wv9.elim (fun q => absurd q.1 (by omega)) (fun q => q.2)
          refine x_aload_n (i := 0) C dX6_readGameLine_75 rfl rfl ?_
          refine x_getRs (r := 25) C fkX_X6_21 (nlt rfl) rfl (HG.rR hHy6 (k := 21) (i := 1) rfl rfl) dX6_readGameLine_76 ?_
          refine x_aload_n (i := 0) C dX6_readGameLine_79 rfl rfl ?_
          refine x_getL C fkX_X6_138 (nlt rfl) rfl dX6_readGameLine_80 ?_
          refine x_genL (fun l11 el11 => ?_)
          refine x_iload_n (i := 1) C dX6_readGameLine_83 rfl rfl ?_
          refine x_callV (As := [.long (l11), .int (iI ((-1)))]) C (by exact (c_addMove (G := G) (f := l11) (p := (-1)) ⟨by omega, by omega⟩ m0 m1 hHy6 FR.rf hMy6)) ckX6_141 im_X2_addMove se_X2_addMove (nlt rfl) rfl rfl rfl rfl (nle rfl) (by exact ⟨nle rfl, nle rfl⟩) dX6_readGameLine_84 ?_
          rintro _ Yy12 ⟨rfl, hHy12, hGy12, hMy12⟩
          have hFy12 : FR mdGL X0 Yy12 := FR.tr hFy6 hGy12 (by decide)
          have hLy12 := hLy6.fr hGy12 rfl
          have hKy12 := hKy6.fr hGy12 rfl
          have hRy12 := hRy6.fr hGy12 rfl
          rw [show l11 = (rV b N (nx b N s)) by (rw [el11]; exact hRy6)] at hMy12
          refine Wx_st (st' := []) rfl ?_
          refine x_aload_n (i := 0) C dX6_readGameLine_87 rfl rfl ?_
          refine x_callV (As := []) C (by exact (c_takeMark (s := (nx b N (nx b N s))) (hT0.fr hFy12 rfl) hHy12 FR.rf hKy12)) ckX6_92 im_X6_takeMark se_X6_takeMark (nlt rfl) rfl rfl rfl rfl (nle rfl) (by exact ⟨nle rfl, nle rfl⟩) dX6_readGameLine_88 ?_
          rintro _ Yy13 ⟨v14, rfl, hHy13, hGy13, mk⟩
          have hFy13 : FR mdGL X0 Yy13 := FR.tr hFy12 hGy13 (by decide)
          have hMy13 := hMy12.fr hGy13 rfl
          have hLy13 := hLy12.fr hGy13 rfl
          have hRy13 := hRy12.fr hGy13 rfl
          have mb : v14 = 0 ∨ v14 = 1 := mk.elim (fun q => .inr q.1) (fun q => .inl q.1)
          refine Wx_st (st' := [.int (iI (v14))]) rfl ?_
          exact x_zret C hQ (by omega) dX6_readGameLine_91 (mk.elim (fun q => ⟨_, rfl, hHy13, hFy13, by rw [(gL_y W4 R1.1 W5).trans (finG_y q.2.1)]; exact q.1, by rw [(gL_y W4 R1.1 W5).trans (finG_y q.2.1)]; exact q.2.2, by rw [(gL_y W4 R1.1 W5).trans (finG_y q.2.1)]; exact hLy13, by rw [(gL_y W4 R1.1 W5).trans (finG_y q.2.1)]; exact hMy13⟩) (fun q => ⟨_, rfl, hHy13, hFy13, by rw [(gL_y W4 R1.1 W5).trans (finG_n q.2.1)]; exact q.1, by rw [(gL_y W4 R1.1 W5).trans (finG_n q.2.1)]; exact q.2.2, by rw [(gL_y W4 R1.1 W5).trans (finG_n q.2.1)]; exact hLy13, by rw [(gL_y W4 R1.1 W5).trans (finG_n q.2.1)]; exact hMy13⟩))
        · have W5 : isW b N 5 (nx b N (nx b N s)) := wv9.elim (fun q => q.2) (fun q => absurd q.1 (by omega))
          refine x_aload_n (i := 0) C dX6_readGameLine_56 rfl rfl ?_
          refine x_callV (As := []) C (by exact (c_adv (s := (nx b N (nx b N s))) (hT0.fr hFy6 rfl) hHy6 hKy6 FR.rf)) ckX6_54 im_X6_advance se_X6_advance (nlt rfl) rfl rfl rfl rfl (nle rfl) (by exact ⟨nle rfl, nle rfl⟩) dX6_readGameLine_57 ?_
          rintro _ Yy15 ⟨rfl, hHy15, hGy15, hKy15⟩
          have hFy15 : FR mdGL X0 Yy15 := FR.tr hFy6 hGy15 (by decide)
          have hLy15 := hLy6.fr hGy15 rfl
          have hMy15 := hMy6.fr hGy15 rfl
          have hRy15 := hRy6.fr hGy15 rfl
          refine Wx_st (st' := []) rfl ?_
          refine x_aload_n (i := 0) C dX6_readGameLine_60 rfl rfl ?_
          refine x_iconst C dX6_readGameLine_61 ?_
          refine x_bipush C dX6_readGameLine_62 (by decide) ?_
          refine x_callV (As := [.int (iI (0)), .int (iI (35))]) C (by exact (c_takeNumber (s := (nx b N (nx b N (nx b N s)))) (F := (if G.1 = 30 then ntF F 3 ((s : Nat) : Int) else F)) (lo := 0) (hi := 35) (hT0.fr hFy15 rfl) hHy15 (by omega) (by omega) (by omega) (by omega) FR.rf hKy15 hLy15)) ckX6_118 im_X6_takeNumber se_X6_takeNumber (nlt rfl) rfl rfl rfl rfl (nle rfl) (by exact ⟨nle rfl, nle rfl⟩) dX6_readGameLine_64 ?_
          rintro _ Yy16 ⟨v17, rfl, ev17, hHy16, hGy16, hKy16, hLy16⟩
          have hFy16 : FR mdGL X0 Yy16 := FR.tr hFy15 hGy16 (by decide)
          have bv17 : -1 ≤ v17 ∧ v17 ≤ 99 := by
            rw [ev17]
            unfold tnV
            split
            · rename_i k2
              have := tV_bd k2 hKy15.2.2.2.2
              omega
            · omega
          have hMy16 := hMy15.fr hGy16 rfl
          have hRy16 := hRy15.fr hGy16 rfl
          refine Wx_st (st' := [.int (iI (v17))]) rfl ?_
          refine x_istore_n (i := 1) (lv' := [(1, .int (iI (v17))), (0, .ref 21)]) C dX6_readGameLine_67 rfl (nlt rfl) rfl ?_
          refine x_iload_n (i := 1) C dX6_readGameLine_68 rfl rfl ?_
          refine x_iconst C dX6_readGameLine_69 ?_
          refine x_icmp_ne (tgt := 75) C dX6_readGameLine_70 (by decide) ⟨by omega, by omega⟩ ⟨by omega, by omega⟩ (fun h18 => ?_) (fun h18 => ?_)
          · refine x_aload_n (i := 0) C dX6_readGameLine_75 rfl rfl ?_
            refine x_getRs (r := 25) C fkX_X6_21 (nlt rfl) rfl (HG.rR hHy16 (k := 21) (i := 1) rfl rfl) dX6_readGameLine_76 ?_
            refine x_aload_n (i := 0) C dX6_readGameLine_79 rfl rfl ?_
            refine x_getL C fkX_X6_138 (nlt rfl) rfl dX6_readGameLine_80 ?_
            refine x_genL (fun l19 el19 => ?_)
            refine x_iload_n (i := 1) C dX6_readGameLine_83 rfl rfl ?_
            refine x_callV (As := [.long (l19), .int (iI (v17))]) C (by exact (c_addMove (G := G) (f := l19) (p := v17) ⟨by omega, by omega⟩ m0 m1 hHy16 FR.rf hMy16)) ckX6_141 im_X2_addMove se_X2_addMove (nlt rfl) rfl rfl rfl rfl (nle rfl) (by exact ⟨nle rfl, nle rfl⟩) dX6_readGameLine_84 ?_
            rintro _ Yy20 ⟨rfl, hHy20, hGy20, hMy20⟩
            have hFy20 : FR mdGL X0 Yy20 := FR.tr hFy16 hGy20 (by decide)
            have hKy20 := hKy16.fr hGy20 rfl
            have hLy20 := hLy16.fr hGy20 rfl
            have hRy20 := hRy16.fr hGy20 rfl
            rw [show l19 = (rV b N (nx b N s)) by (rw [el19]; exact hRy16)] at hMy20
            rw [ev17] at hMy20
            refine Wx_st (st' := []) rfl ?_
            refine x_aload_n (i := 0) C dX6_readGameLine_87 rfl rfl ?_
            refine x_callV (As := []) C (by exact (c_takeMark (s := (tnS b N (nx b N (nx b N (nx b N s))))) (hT0.fr hFy20 rfl) hHy20 FR.rf hKy20)) ckX6_92 im_X6_takeMark se_X6_takeMark (nlt rfl) rfl rfl rfl rfl (nle rfl) (by exact ⟨nle rfl, nle rfl⟩) dX6_readGameLine_88 ?_
            rintro _ Yy21 ⟨v22, rfl, hHy21, hGy21, mk⟩
            have hFy21 : FR mdGL X0 Yy21 := FR.tr hFy20 hGy21 (by decide)
            have hMy21 := hMy20.fr hGy21 rfl
            have hLy21 := hLy20.fr hGy21 rfl
            have hRy21 := hRy20.fr hGy21 rfl
            have mb : v22 = 0 ∨ v22 = 1 := mk.elim (fun q => .inr q.1) (fun q => .inl q.1)
            refine Wx_st (st' := [.int (iI (v22))]) rfl ?_
            exact x_zret C hQ (by omega) dX6_readGameLine_91 (mk.elim (fun q => ⟨_, rfl, hHy21, hFy21, by rw [(gL_gy W4 R1.1 W5 (by omega)).trans (finG_y q.2.1)]; exact q.1, by rw [(gL_gy W4 R1.1 W5 (by omega)).trans (finG_y q.2.1)]; exact q.2.2, by rw [(gL_gy W4 R1.1 W5 (by omega)).trans (finG_y q.2.1)]; exact hLy21, by rw [(gL_gy W4 R1.1 W5 (by omega)).trans (finG_y q.2.1)]; exact hMy21⟩) (fun q => ⟨_, rfl, hHy21, hFy21, by rw [(gL_gy W4 R1.1 W5 (by omega)).trans (finG_n q.2.1)]; exact q.1, by rw [(gL_gy W4 R1.1 W5 (by omega)).trans (finG_n q.2.1)]; exact q.2.2, by rw [(gL_gy W4 R1.1 W5 (by omega)).trans (finG_n q.2.1)]; exact hLy21, by rw [(gL_gy W4 R1.1 W5 (by omega)).trans (finG_n q.2.1)]; exact hMy21⟩))
          · have kn : tK b N (nx b N (nx b N (nx b N s))) ≠ 2 := tn_m1 (by omega) (nx_bd b N _ (nx_bd b N _ (nx_bd b N s s6).2.1).2.1).2.1
            refine x_iconst C dX6_readGameLine_73 ?_
            exact x_zret C hQ (by omega) dX6_readGameLine_74 (⟨_, rfl, hHy16, hFy16, by rw [gL_gn W4 R1.1 W5 (by omega)]; rfl, by rw [gL_gn W4 R1.1 W5 (by omega)]; exact (by have t := hKy16; rw [tnS_n kn] at t; exact t), by rw [gL_gn W4 R1.1 W5 (by omega)]; exact (by have t := hLy16; rw [tnF_n kn] at t; exact t), by rw [gL_gn W4 R1.1 W5 (by omega)]; exact hMy16⟩)
      · have R0 : ¬ tr b N (nx b N s) ∧ TKX b N (nx b N s) Yy6 := trr.elim (fun q => absurd q.1 (by omega)) (fun q => q.2)
        refine x_iconst C dX6_readGameLine_43 ?_
        exact x_zret C hQ (by omega) dX6_readGameLine_44 (⟨_, rfl, hHy6, hFy6, by rw [gL_nr W4 R0.1]; rfl, by rw [gL_nr W4 R0.1]; exact R0.2, by rw [gL_nr W4 R0.1]; exact hLy6, by rw [gL_nr W4 R0.1]; exact hMy6⟩)
    · refine x_aload_n (i := 0) C dX6_readGameLine_23 rfl rfl ?_
      refine x_iconst C dX6_readGameLine_24 ?_
      refine x_aload_n (i := 0) C dX6_readGameLine_25 rfl rfl ?_
      refine x_getI C fkX_X6_73 (nlt rfl) rfl dX6_readGameLine_26 ?_
      refine x_gen (fun v23 ev23 => ?_)
      have qv23 : ((-2147483648) : Int) ≤ v23 ∧ v23 ≤ (2147483647 : Int) := by
        rw [ev23]
        exact hH.rF (k := 21) (i := 8) rfl rfl
      refine x_callV (As := [.int (iI (3)), .int (iI (v23))]) C (by exact (c_note (F := F) (f := 3) (p := v23) ⟨by omega, by omega⟩ ⟨by omega, by omega⟩ hH FR.rf hL)) ckX6_79 im_X6_note se_X6_note (nlt rfl) rfl rfl rfl rfl (nle rfl) (by exact ⟨nle rfl, nle rfl⟩) dX6_readGameLine_29 ?_
      rintro _ Yy24 ⟨rfl, hHy24, hGy24, hLy24⟩
      have hFy24 : FR mdGL X0 Yy24 := FR.tr hF hGy24 (by decide)
      have hKy24 := hK.fr hGy24 rfl
      have hMy24 := hM.fr hGy24 rfl
      have pvy24 : v23 = ((s : Nat) : Int) := by have := hK.1; omega
      rw [pvy24] at hLy24
      refine Wx_st (st' := []) rfl ?_
      have ifF : (if G.1 = 30 then ntF F 3 ((s : Nat) : Int) else F) = (ntF F 3 ((s : Nat) : Int)) := if_pos (by omega)
      rw [← ifF] at hLy24
      refine x_aload_n (i := 0) C dX6_readGameLine_32 rfl rfl ?_
      refine x_callV (As := []) C (by exact (c_adv (s := s) (hT0.fr hFy24 rfl) hHy24 hKy24 FR.rf)) ckX6_54 im_X6_advance se_X6_advance (nlt rfl) rfl rfl rfl rfl (nle rfl) (by exact ⟨nle rfl, nle rfl⟩) dX6_readGameLine_33 ?_
      rintro _ Yy25 ⟨rfl, hHy25, hGy25, hKy25⟩
      have hFy25 : FR mdGL X0 Yy25 := FR.tr hFy24 hGy25 (by decide)
      have hLy25 := hLy24.fr hGy25 rfl
      have hMy25 := hMy24.fr hGy25 rfl
      refine Wx_st (st' := []) rfl ?_
      refine x_aload_n (i := 0) C dX6_readGameLine_36 rfl rfl ?_
      refine x_callVT (As := []) C HS (by exact (c_takeRule (s := (nx b N s)) (hT0.fr hFy25 rfl) hHy25 FR.rf hKy25)) ckX6_57 im_X6_takeRule se_X6_takeRule (nlt rfl) rfl rfl rfl rfl (nle rfl) (by exact ⟨nle rfl, nle rfl⟩) dX6_readGameLine_37 ?_
      rintro _ Yy26 ⟨v27, rfl, hHy26, hGy26, trr⟩
      have hFy26 : FR mdGL X0 Yy26 := FR.tr hFy25 hGy26 (by decide)
      have hLy26 := hLy25.fr hGy26 rfl
      have hMy26 := hMy25.fr hGy26 rfl
      refine Wx_st (st' := [.int (iI (v27))]) rfl ?_
      refine x_if_ne (tgt := 45) C dX6_readGameLine_40 (by decide) ⟨by omega, by omega⟩ (fun h28 => ?_) (fun h28 => ?_)
      · have R1 : tr b N (nx b N s) ∧ TKX b N (nx b N (nx b N s)) Yy26 ∧ Yy26.2.1 21 2 = rV b N (nx b N s) := trr.elim (fun q => q.2) (fun q => absurd q.1 (by omega))
        have hKy26 := R1.2.1
        have hRy26 : RUX (rV b N (nx b N s)) Yy26 := R1.2.2
        refine x_iconst C dX6_readGameLine_45 ?_
        refine x_istore_n (i := 1) (lv' := [(1, .int (iI ((-1)))), (0, .ref 21)]) C dX6_readGameLine_46 rfl (nlt rfl) rfl ?_
        refine x_aload_n (i := 0) C dX6_readGameLine_47 rfl rfl ?_
        refine x_ldcS (i := 5) C HS (by decide) rfl dX6_readGameLine_48 ?_
        refine x_callVT (As := [.ref (900 + 5)]) C HS (by exact (c_isWord (s := (nx b N (nx b N s))) (i := 5) (hT0.fr hFy26 rfl) hHy26 (by decide) FR.rf hKy26)) ckX6_85 im_X6_isWord se_X6_isWord (nlt rfl) rfl rfl rfl rfl (nle rfl) (by exact ⟨nle rfl, nle rfl⟩) dX6_readGameLine_50 ?_
        rintro _ Xv29 ⟨hxv29, v29, rfl, wv29⟩
        rw [hxv29]
        refine Wx_st (st' := [.int (iI (v29))]) rfl ?_
        refine x_if_eq (tgt := 75) C dX6_readGameLine_53 (by decide) ⟨by omega, by omega⟩ (fun h30 => ?_) (fun h30 => ?_)
        · have W5 : ¬ isW b N 5 (nx b N (nx b N s)) := wv29.elim (fun q => absurd q.1 (by omega)) (fun q => q.2)
          refine x_aload_n (i := 0) C dX6_readGameLine_75 rfl rfl ?_
          refine x_getRs (r := 25) C fkX_X6_21 (nlt rfl) rfl (HG.rR hHy26 (k := 21) (i := 1) rfl rfl) dX6_readGameLine_76 ?_
          refine x_aload_n (i := 0) C dX6_readGameLine_79 rfl rfl ?_
          refine x_getL C fkX_X6_138 (nlt rfl) rfl dX6_readGameLine_80 ?_
          refine x_genL (fun l31 el31 => ?_)
          refine x_iload_n (i := 1) C dX6_readGameLine_83 rfl rfl ?_
          refine x_callV (As := [.long (l31), .int (iI ((-1)))]) C (by exact (c_addMove (G := G) (f := l31) (p := (-1)) ⟨by omega, by omega⟩ m0 m1 hHy26 FR.rf hMy26)) ckX6_141 im_X2_addMove se_X2_addMove (nlt rfl) rfl rfl rfl rfl (nle rfl) (by exact ⟨nle rfl, nle rfl⟩) dX6_readGameLine_84 ?_
          rintro _ Yy32 ⟨rfl, hHy32, hGy32, hMy32⟩
          have hFy32 : FR mdGL X0 Yy32 := FR.tr hFy26 hGy32 (by decide)
          have hLy32 := hLy26.fr hGy32 rfl
          have hKy32 := hKy26.fr hGy32 rfl
          have hRy32 := hRy26.fr hGy32 rfl
          rw [show l31 = (rV b N (nx b N s)) by (rw [el31]; exact hRy26)] at hMy32
          refine Wx_st (st' := []) rfl ?_
          refine x_aload_n (i := 0) C dX6_readGameLine_87 rfl rfl ?_
          refine x_callV (As := []) C (by exact (c_takeMark (s := (nx b N (nx b N s))) (hT0.fr hFy32 rfl) hHy32 FR.rf hKy32)) ckX6_92 im_X6_takeMark se_X6_takeMark (nlt rfl) rfl rfl rfl rfl (nle rfl) (by exact ⟨nle rfl, nle rfl⟩) dX6_readGameLine_88 ?_
          rintro _ Yy33 ⟨v34, rfl, hHy33, hGy33, mk⟩
          have hFy33 : FR mdGL X0 Yy33 := FR.tr hFy32 hGy33 (by decide)
          have hMy33 := hMy32.fr hGy33 rfl
          have hLy33 := hLy32.fr hGy33 rfl
          have hRy33 := hRy32.fr hGy33 rfl
          have mb : v34 = 0 ∨ v34 = 1 := mk.elim (fun q => .inr q.1) (fun q => .inl q.1)
          refine Wx_st (st' := [.int (iI (v34))]) rfl ?_
          exact x_zret C hQ (by omega) dX6_readGameLine_91 (mk.elim (fun q => ⟨_, rfl, hHy33, hFy33, by rw [(gL_y W4 R1.1 W5).trans (finG_y q.2.1)]; exact q.1, by rw [(gL_y W4 R1.1 W5).trans (finG_y q.2.1)]; exact q.2.2, by rw [(gL_y W4 R1.1 W5).trans (finG_y q.2.1)]; exact hLy33, by rw [(gL_y W4 R1.1 W5).trans (finG_y q.2.1)]; exact hMy33⟩) (fun q => ⟨_, rfl, hHy33, hFy33, by rw [(gL_y W4 R1.1 W5).trans (finG_n q.2.1)]; exact q.1, by rw [(gL_y W4 R1.1 W5).trans (finG_n q.2.1)]; exact q.2.2, by rw [(gL_y W4 R1.1 W5).trans (finG_n q.2.1)]; exact hLy33, by rw [(gL_y W4 R1.1 W5).trans (finG_n q.2.1)]; exact hMy33⟩))
        · have W5 : isW b N 5 (nx b N (nx b N s)) := wv29.elim (fun q => q.2) (fun q => absurd q.1 (by omega))
          refine x_aload_n (i := 0) C dX6_readGameLine_56 rfl rfl ?_
          refine x_callV (As := []) C (by exact (c_adv (s := (nx b N (nx b N s))) (hT0.fr hFy26 rfl) hHy26 hKy26 FR.rf)) ckX6_54 im_X6_advance se_X6_advance (nlt rfl) rfl rfl rfl rfl (nle rfl) (by exact ⟨nle rfl, nle rfl⟩) dX6_readGameLine_57 ?_
          rintro _ Yy35 ⟨rfl, hHy35, hGy35, hKy35⟩
          have hFy35 : FR mdGL X0 Yy35 := FR.tr hFy26 hGy35 (by decide)
          have hLy35 := hLy26.fr hGy35 rfl
          have hMy35 := hMy26.fr hGy35 rfl
          have hRy35 := hRy26.fr hGy35 rfl
          refine Wx_st (st' := []) rfl ?_
          refine x_aload_n (i := 0) C dX6_readGameLine_60 rfl rfl ?_
          refine x_iconst C dX6_readGameLine_61 ?_
          refine x_bipush C dX6_readGameLine_62 (by decide) ?_
          refine x_callV (As := [.int (iI (0)), .int (iI (35))]) C (by exact (c_takeNumber (s := (nx b N (nx b N (nx b N s)))) (F := (if G.1 = 30 then ntF F 3 ((s : Nat) : Int) else F)) (lo := 0) (hi := 35) (hT0.fr hFy35 rfl) hHy35 (by omega) (by omega) (by omega) (by omega) FR.rf hKy35 hLy35)) ckX6_118 im_X6_takeNumber se_X6_takeNumber (nlt rfl) rfl rfl rfl rfl (nle rfl) (by exact ⟨nle rfl, nle rfl⟩) dX6_readGameLine_64 ?_
          rintro _ Yy36 ⟨v37, rfl, ev37, hHy36, hGy36, hKy36, hLy36⟩
          have hFy36 : FR mdGL X0 Yy36 := FR.tr hFy35 hGy36 (by decide)
          have bv37 : -1 ≤ v37 ∧ v37 ≤ 99 := by
            rw [ev37]
            unfold tnV
            split
            · rename_i k2
              have := tV_bd k2 hKy35.2.2.2.2
              omega
            · omega
          have hMy36 := hMy35.fr hGy36 rfl
          have hRy36 := hRy35.fr hGy36 rfl
          refine Wx_st (st' := [.int (iI (v37))]) rfl ?_
          refine x_istore_n (i := 1) (lv' := [(1, .int (iI (v37))), (0, .ref 21)]) C dX6_readGameLine_67 rfl (nlt rfl) rfl ?_
          refine x_iload_n (i := 1) C dX6_readGameLine_68 rfl rfl ?_
          refine x_iconst C dX6_readGameLine_69 ?_
          refine x_icmp_ne (tgt := 75) C dX6_readGameLine_70 (by decide) ⟨by omega, by omega⟩ ⟨by omega, by omega⟩ (fun h38 => ?_) (fun h38 => ?_)
          · refine x_aload_n (i := 0) C dX6_readGameLine_75 rfl rfl ?_
            refine x_getRs (r := 25) C fkX_X6_21 (nlt rfl) rfl (HG.rR hHy36 (k := 21) (i := 1) rfl rfl) dX6_readGameLine_76 ?_
            refine x_aload_n (i := 0) C dX6_readGameLine_79 rfl rfl ?_
            refine x_getL C fkX_X6_138 (nlt rfl) rfl dX6_readGameLine_80 ?_
            refine x_genL (fun l39 el39 => ?_)
            refine x_iload_n (i := 1) C dX6_readGameLine_83 rfl rfl ?_
            refine x_callV (As := [.long (l39), .int (iI (v37))]) C (by exact (c_addMove (G := G) (f := l39) (p := v37) ⟨by omega, by omega⟩ m0 m1 hHy36 FR.rf hMy36)) ckX6_141 im_X2_addMove se_X2_addMove (nlt rfl) rfl rfl rfl rfl (nle rfl) (by exact ⟨nle rfl, nle rfl⟩) dX6_readGameLine_84 ?_
            rintro _ Yy40 ⟨rfl, hHy40, hGy40, hMy40⟩
            have hFy40 : FR mdGL X0 Yy40 := FR.tr hFy36 hGy40 (by decide)
            have hKy40 := hKy36.fr hGy40 rfl
            have hLy40 := hLy36.fr hGy40 rfl
            have hRy40 := hRy36.fr hGy40 rfl
            rw [show l39 = (rV b N (nx b N s)) by (rw [el39]; exact hRy36)] at hMy40
            rw [ev37] at hMy40
            refine Wx_st (st' := []) rfl ?_
            refine x_aload_n (i := 0) C dX6_readGameLine_87 rfl rfl ?_
            refine x_callV (As := []) C (by exact (c_takeMark (s := (tnS b N (nx b N (nx b N (nx b N s))))) (hT0.fr hFy40 rfl) hHy40 FR.rf hKy40)) ckX6_92 im_X6_takeMark se_X6_takeMark (nlt rfl) rfl rfl rfl rfl (nle rfl) (by exact ⟨nle rfl, nle rfl⟩) dX6_readGameLine_88 ?_
            rintro _ Yy41 ⟨v42, rfl, hHy41, hGy41, mk⟩
            have hFy41 : FR mdGL X0 Yy41 := FR.tr hFy40 hGy41 (by decide)
            have hMy41 := hMy40.fr hGy41 rfl
            have hLy41 := hLy40.fr hGy41 rfl
            have hRy41 := hRy40.fr hGy41 rfl
            have mb : v42 = 0 ∨ v42 = 1 := mk.elim (fun q => .inr q.1) (fun q => .inl q.1)
            refine Wx_st (st' := [.int (iI (v42))]) rfl ?_
            exact x_zret C hQ (by omega) dX6_readGameLine_91 (mk.elim (fun q => ⟨_, rfl, hHy41, hFy41, by rw [(gL_gy W4 R1.1 W5 (by omega)).trans (finG_y q.2.1)]; exact q.1, by rw [(gL_gy W4 R1.1 W5 (by omega)).trans (finG_y q.2.1)]; exact q.2.2, by rw [(gL_gy W4 R1.1 W5 (by omega)).trans (finG_y q.2.1)]; exact hLy41, by rw [(gL_gy W4 R1.1 W5 (by omega)).trans (finG_y q.2.1)]; exact hMy41⟩) (fun q => ⟨_, rfl, hHy41, hFy41, by rw [(gL_gy W4 R1.1 W5 (by omega)).trans (finG_n q.2.1)]; exact q.1, by rw [(gL_gy W4 R1.1 W5 (by omega)).trans (finG_n q.2.1)]; exact q.2.2, by rw [(gL_gy W4 R1.1 W5 (by omega)).trans (finG_n q.2.1)]; exact hLy41, by rw [(gL_gy W4 R1.1 W5 (by omega)).trans (finG_n q.2.1)]; exact hMy41⟩))
          · have kn : tK b N (nx b N (nx b N (nx b N s))) ≠ 2 := tn_m1 (by omega) (nx_bd b N _ (nx_bd b N _ (nx_bd b N s s6).2.1).2.1).2.1
            refine x_iconst C dX6_readGameLine_73 ?_
            exact x_zret C hQ (by omega) dX6_readGameLine_74 (⟨_, rfl, hHy36, hFy36, by rw [gL_gn W4 R1.1 W5 (by omega)]; rfl, by rw [gL_gn W4 R1.1 W5 (by omega)]; exact (by have t := hKy36; rw [tnS_n kn] at t; exact t), by rw [gL_gn W4 R1.1 W5 (by omega)]; exact (by have t := hLy36; rw [tnF_n kn] at t; exact t), by rw [gL_gn W4 R1.1 W5 (by omega)]; exact hMy36⟩)
      · have R0 : ¬ tr b N (nx b N s) ∧ TKX b N (nx b N s) Yy26 := trr.elim (fun q => absurd q.1 (by omega)) (fun q => q.2)
        refine x_iconst C dX6_readGameLine_43 ?_
        exact x_zret C hQ (by omega) dX6_readGameLine_44 (⟨_, rfl, hHy26, hFy26, by rw [gL_nr W4 R0.1]; rfl, by rw [gL_nr W4 R0.1]; exact R0.2, by rw [gL_nr W4 R0.1]; exact hLy26, by rw [gL_nr W4 R0.1]; exact hMy26⟩)
  · have W4 : ¬ isW b N 4 s := wv1.elim (fun q => absurd q.1 (by omega)) (fun q => q.2)
    refine x_iconst C dX6_readGameLine_9 ?_
    exact x_zret C hQ (by omega) dX6_readGameLine_10 (⟨_, rfl, hH, hF, by rw [gL_no W4]; rfl, by rw [gL_no W4]; exact hK, by rw [gL_no W4]; exact hL, by rw [gL_no W4]; exact hM⟩)
abbrev mdCL : List (Nat × Option Nat) := [(22, some 0), (22, some 1), (22, some 2), (22, some 3), (22, some 4)]
set_option maxHeartbeats 4000000 in
set_option maxRecDepth 100000 in
theorem c_clear {D : va_G} {ad : Nat → Nat} {cA : Nat → ClassId} {X0 : XT} {B : BC} (hH : HG vX X0) (hF : FR mdCL X0 X0) (hB : BDX B X0) : MetX (wX D ad cA) yX0_clear cX0_clear 1 none 0 0 [.ref 22] X0 (fun r X1 => r = none ∧ HG vX X1 ∧ FR mdCL X0 X1 ∧ BDX (4, 4, 0, 0, 0, B.2.2.2.2.2) X1) := by
  refine MetX.mk (own := RX0) (by decide +kernel) rfl (nle rfl) (fun E C hQ => ?_)
  refine Wx_lv (lv' := [(0, .ref 22)]) rfl ?_
  refine x_aload_n (i := 0) C dX0_clear_0 rfl rfl ?_
  refine x_iconst C dX0_clear_1 ?_
  refine x_putI C pkX_X0_18 (nlt rfl) rfl dX0_clear_2 ?_
  refine x_gX (fun Yy1 eYy1 => ?_)
  have hHy1 : HG vX Yy1 := by
    rw [eYy1]
    exact hg_wF hH (p := ((-2147483648), 2147483647)) rfl ⟨by omega, by omega⟩
  have hFy1 : FR mdCL X0 Yy1 := by
    rw [eYy1]
    exact FR.upI hF (rfl)
  replace eYy1 : Yy1 = upI X0 22 0 (4) := eYy1
  have hGy1 : FR [(22, some 0)] X0 Yy1 := by
    rw [eYy1]
    exact FR.upI FR.rf rfl
  refine x_aload_n (i := 0) C dX0_clear_5 rfl rfl ?_
  refine x_iconst C dX0_clear_6 ?_
  refine x_putI C pkX_X0_22 (nlt rfl) rfl dX0_clear_7 ?_
  refine x_gX (fun Yy2 eYy2 => ?_)
  have hHy2 : HG vX Yy2 := by
    rw [eYy2]
    exact hg_wF hHy1 (p := ((-2147483648), 2147483647)) rfl ⟨by omega, by omega⟩
  have hFy2 : FR mdCL X0 Yy2 := by
    rw [eYy2]
    exact FR.upI hFy1 (rfl)
  replace eYy2 : Yy2 = upI Yy1 22 1 (4) := eYy2
  have hGy2 : FR [(22, some 1)] Yy1 Yy2 := by
    rw [eYy2]
    exact FR.upI FR.rf rfl
  refine x_aload_n (i := 0) C dX0_clear_10 rfl rfl ?_
  refine x_lconst C dX0_clear_11 ?_
  refine x_eqL (b := 0) rfl ?_
  refine x_putL C pkX_X0_25 (nlt rfl) rfl dX0_clear_12 ?_
  refine x_gX (fun Yy3 eYy3 => ?_)
  have hHy3 : HG vX Yy3 := by
    rw [eYy3]
    exact hg_wLF hHy2 (p := ((-9223372036854775808), 9223372036854775807)) rfl (l64 _)
  have hFy3 : FR mdCL X0 Yy3 := by
    rw [eYy3]
    exact FR.upL hFy2 (rfl)
  replace eYy3 : Yy3 = upL Yy2 22 2 (0) := eYy3
  have hGy3 : FR [(22, some 2)] Yy2 Yy3 := by
    rw [eYy3]
    exact FR.upL FR.rf rfl
  refine x_aload_n (i := 0) C dX0_clear_15 rfl rfl ?_
  refine x_lconst C dX0_clear_16 ?_
  refine x_eqL (b := 0) rfl ?_
  refine x_putL C pkX_X0_29 (nlt rfl) rfl dX0_clear_17 ?_
  refine x_gX (fun Yy4 eYy4 => ?_)
  have hHy4 : HG vX Yy4 := by
    rw [eYy4]
    exact hg_wLF hHy3 (p := ((-9223372036854775808), 9223372036854775807)) rfl (l64 _)
  have hFy4 : FR mdCL X0 Yy4 := by
    rw [eYy4]
    exact FR.upL hFy3 (rfl)
  replace eYy4 : Yy4 = upL Yy3 22 3 (0) := eYy4
  have hGy4 : FR [(22, some 3)] Yy3 Yy4 := by
    rw [eYy4]
    exact FR.upL FR.rf rfl
  refine x_aload_n (i := 0) C dX0_clear_20 rfl rfl ?_
  refine x_iconst C dX0_clear_21 ?_
  refine x_putI C pkX_X0_32 (nlt rfl) rfl dX0_clear_22 ?_
  refine x_gX (fun Yy5 eYy5 => ?_)
  have hHy5 : HG vX Yy5 := by
    rw [eYy5]
    exact hg_wF hHy4 (p := ((-2147483648), 2147483647)) rfl ⟨by omega, by omega⟩
  have hFy5 : FR mdCL X0 Yy5 := by
    rw [eYy5]
    exact FR.upI hFy4 (rfl)
  replace eYy5 : Yy5 = upI Yy4 22 4 (0) := eYy5
  have hGy5 : FR [(22, some 4)] Yy4 Yy5 := by
    rw [eYy5]
    exact FR.upI FR.rf rfl
  exact x_vret C hQ dX0_clear_25 (⟨rfl, hHy5, hFy5, ⟨by rw [eYy5, upI_ne (by decide), eYy4, upL_1, eYy3, upL_1, eYy2, upI_ne (by decide), eYy1, upI_at], by rw [eYy5, upI_ne (by decide), eYy4, upL_1, eYy3, upL_1, eYy2, upI_at], by rw [eYy5, upI_2, eYy4, upL_ne (by decide), eYy3, upL_at], by rw [eYy5, upI_2, eYy4, upL_at], by rw [eYy5, upI_at], fun j hj => ⟨by rw [eYy5, upI_nc (by decide), eYy4, upL_1, eYy3, upL_1, eYy2, upI_nc (by decide), eYy1, upI_nc (by decide)]; exact (hB.2.2.2.2.2 j hj).1, by rw [eYy5, upI_nc (by decide), eYy4, upL_1, eYy3, upL_1, eYy2, upI_nc (by decide), eYy1, upI_nc (by decide)]; exact (hB.2.2.2.2.2 j hj).2⟩⟩⟩)
set_option maxHeartbeats 4000000 in
set_option maxRecDepth 100000 in
theorem c_settle {D : va_G} {ad : Nat → Nat} {cA : Nat → ClassId} {X0 : XT} {B : BC} (hH : HG vX X0) (hF : FR mdCL X0 X0) (hB : BDX B X0) : MetX (wX D ad cA) yX0_settle cX0_settle 1 none 0 0 [.ref 22] X0 (fun r X1 => r = none ∧ HG vX X1 ∧ FR mdCL X0 X1 ∧ BDX (bst B) X1) := by
  refine MetX.mk (own := RX0) (by decide +kernel) rfl (nle rfl) (fun E C hQ => ?_)
  refine Wx_lv (lv' := [(0, .ref 22)]) rfl ?_
  refine x_aload_n (i := 0) C dX0_settle_0 rfl rfl ?_
  refine x_dup C dX0_settle_1 rfl ?_
  refine x_getL C fkX_X0_29 (nlt rfl) rfl dX0_settle_2 ?_
  refine x_genL (fun l1 el1 => ?_)
  refine x_aload_n (i := 0) C dX0_settle_5 rfl rfl ?_
  refine x_getL C fkX_X0_25 (nlt rfl) rfl dX0_settle_6 ?_
  refine x_genL (fun l2 el2 => ?_)
  refine x_ldc2 C dX0_settle_9 cnX0_41 ?_
  refine x_lxor C dX0_settle_12 ?_
  refine x_genL (fun l3 el3 => ?_)
  refine x_land C dX0_settle_13 ?_
  refine x_genL (fun l4 el4 => ?_)
  refine x_putL C pkX_X0_29 (nlt rfl) rfl dX0_settle_14 ?_
  refine x_gX (fun Yy5 eYy5 => ?_)
  have hHy5 : HG vX Yy5 := by
    rw [eYy5]
    exact hg_wLF hH (p := ((-9223372036854775808), 9223372036854775807)) rfl (l64 _)
  have hFy5 : FR mdCL X0 Yy5 := by
    rw [eYy5]
    exact FR.upL hF (rfl)
  replace eYy5 : Yy5 = upL X0 22 3 (l4) := eYy5
  have hGy5 : FR [(22, some 3)] X0 Yy5 := by
    rw [eYy5]
    exact FR.upL FR.rf rfl
  exact x_vret C hQ dX0_settle_17 (⟨rfl, hHy5, hFy5, ⟨by rw [eYy5, upL_1]; exact hB.1, by rw [eYy5, upL_1]; exact hB.2.1, by rw [eYy5, upL_ne (by decide)]; exact hB.2.2.1, by rw [eYy5, upL_at]; exact (by rw [el4, el3, el1, el2, hB.2.2.2.1, hB.2.2.1]; rfl), by rw [eYy5, upL_1]; exact hB.2.2.2.2.1, fun j hj => ⟨by rw [eYy5, upL_1]; exact (hB.2.2.2.2.2 j hj).1, by rw [eYy5, upL_1]; exact (hB.2.2.2.2.2 j hj).2⟩⟩⟩)
set_option maxHeartbeats 4000000 in
set_option maxRecDepth 100000 in
theorem c_isSoundL {D : va_G} {ad : Nat → Nat} {cA : Nat → ClassId} {X0 : XT} {B : BC} (m0 : 0 ≤ B.2.2.2.2.1) (m1 : B.2.2.2.2.1 ≤ 6) (hH : HG vX X0) (hF : FR mdCL X0 X0) (hB : BDX B X0) {E : ET} (C : CX E (wX D ad cA) cX0_isSound 8 RX0 (some .boolean) { frames := 1, cells := 0, slots := 0, locals := 20 }) (hQ : EQ E (wX D ad cA) (fun r X1 => X1 = X0 ∧ ∃ u : Int, r = some (.int (iI u)) ∧ u = zB (bSound B))) : ∀ (n : Nat) (j : Nat) (t : Int64), ((7 - j : Nat) : Int) < n → (j : Int) ≤ B.2.2.2.2.1 → sdL (alL B) B.2.2.2.2.2.2 (B.2.2.2.2.1.toNat - j) j t = bSound B → Wx E (wX D ad cA) 8 (PX (wX D ad cA) X0) 42 [(5, .int (iI ((j : Int)))), (3, .long (t)), (1, .long ((alL B))), (0, .ref 22)] [] := by
  intro n
  induction n with
  | zero => intro j t hn j1 hr; exfalso; omega
  | succ n ih =>
    intro j t hn j1 hr
    have bm := hB.2.2.2.2.1
    refine x_iload C dX0_isSound_42 rfl ?_
    refine x_aload_n (i := 0) C dX0_isSound_44 rfl rfl ?_
    refine x_getI C fkX_X0_32 (nlt rfl) rfl dX0_isSound_45 ?_
    refine x_gen (fun v1 ev1 => ?_)
    have qv1 : ((-2147483648) : Int) ≤ v1 ∧ v1 ≤ (2147483647 : Int) := by
      rw [ev1]
      exact hH.rF (k := 22) (i := 4) rfl rfl
    refine x_icmp_ge (tgt := 91) C dX0_isSound_48 (by decide) ⟨by omega, by omega⟩ ⟨by omega, by omega⟩ (fun h2 => ?_) (fun h2 => ?_)
    · refine x_iconst C dX0_isSound_91 ?_
      exact x_zret C hQ (by omega) dX0_isSound_92 (⟨rfl, _, rfl, by rw [← hr, show B.2.2.2.2.1.toNat - j = 0 by omega]; rfl⟩)
    · refine x_aload_n (i := 0) C dX0_isSound_51 rfl rfl ?_
      refine x_getRs (r := 24) C fkX_X0_15 (nlt rfl) rfl (HG.rR hH (k := 22) (i := 6) rfl rfl) dX0_isSound_52 ?_
      refine x_iload C dX0_isSound_55 rfl ?_
      refine x_iald C (nlt rfl) rfl rfl (nle rfl) (by omega) (by omega) dX0_isSound_57 ?_
      refine x_gen (fun v3 ev3 => ?_)
      have qv3 : ((-2147483648) : Int) ≤ v3 ∧ v3 ≤ (2147483647 : Int) := by
        rw [ev3]
        exact hH.rA (k := 24) (n := 6) (p := ((-2147483648), 2147483647)) (nlt rfl) rfl (by decide +kernel) (by omega)
      refine x_callSN (As := [.int (iI (v3))]) C (by exact (xf_bit (f := v3))) cnX0_43 rfl rfl (nle rfl) (by exact ⟨nle rfl, nle rfl⟩) dX0_isSound_58 ?_
      rintro _ Xl4 ⟨hxl4, rfl⟩
      rw [hxl4]
      refine Wx_st (st' := [.long ((1 : Int64) <<< ((iI (v3)).toInt64 &&& 63))]) rfl ?_
      refine x_genL (fun l4 el4 => ?_)
      refine Wx_st (st' := [.long (l4)]) rfl ?_
      have fj : v3 = B.2.2.2.2.2.2 j := by rw [ev3]; exact (hB.2.2.2.2.2 j (by omega)).2
      refine x_lstore (lv' := [(6, .long (l4)), (5, .int (iI ((j : Int)))), (3, .long (t)), (1, .long ((alL B))), (0, .ref 22)]) C dX0_isSound_61 (nlt rfl) rfl ?_
      refine x_lload C dX0_isSound_63 rfl ?_
      refine x_lload_n (i := 1) C dX0_isSound_65 rfl rfl ?_
      refine x_land C dX0_isSound_66 ?_
      refine x_genL (fun l5 el5 => ?_)
      refine x_lload_n (i := 3) C dX0_isSound_67 rfl rfl ?_
      refine x_ldc2 C dX0_isSound_68 cnX0_41 ?_
      refine x_lxor C dX0_isSound_71 ?_
      refine x_genL (fun l6 el6 => ?_)
      refine x_land C dX0_isSound_72 ?_
      refine x_genL (fun l7 el7 => ?_)
      refine x_lconst C dX0_isSound_73 ?_
      refine x_eqL (b := 0) rfl ?_
      refine x_lcmp C dX0_isSound_74 ?_
      refine x_topi (fun v8 rv8 ev8 => ?_)
      have cv8 := lcmp_iff rv8 ev8
      unfold inR at rv8
      have fb : l7 = (bitI (B.2.2.2.2.2.2 j) &&& alL B) &&& (t ^^^ (-1)) := by rw [el7, el5, el6, el4, fj]; rfl
      refine x_if_ne (tgt := 80) C dX0_isSound_75 (by decide) ⟨by omega, by omega⟩ (fun h9 => ?_) (fun h9 => ?_)
      · refine x_lload_n (i := 3) C dX0_isSound_80 rfl rfl ?_
        refine x_lload C dX0_isSound_81 rfl ?_
        refine x_lor C dX0_isSound_83 ?_
        refine x_genL (fun l10 el10 => ?_)
        refine x_lstore_n (i := 3) (lv' := [(3, .long (l10)), (6, .long (l4)), (5, .int (iI ((j : Int)))), (1, .long ((alL B))), (0, .ref 22)]) C dX0_isSound_84 rfl (nlt rfl) rfl ?_
        refine x_iinc (lv' := [(5, .int (iI ((j : Int) + 1))), (3, .long (l10)), (6, .long (l4)), (1, .long ((alL B))), (0, .ref 22)]) C dX0_isSound_85 rfl (nlt rfl) rfl ?_
        refine x_goto (tgt := 42) C dX0_isSound_88 (by decide) ?_
        have tb2 : l10 = t ||| bitI (B.2.2.2.2.2.2 j) := by rw [el10, el4, fj]; rfl
        rw [show (j : Int) + 1 = ((j + 1 : Nat) : Int) by omega]
        refine Wx_pick [5, 3, 1, 0] ?_
        refine Wx_lv (lv' := [(5, .int (iI (((j + 1 : Nat) : Int)))), (3, .long (l10)), (1, .long ((alL B))), (0, .ref 22)]) rfl ?_
        exact ih (j + 1) _ (by omega) (by omega) (by rw [← hr, show B.2.2.2.2.1.toNat - j = (B.2.2.2.2.1.toNat - (j + 1)) + 1 by omega, tb2]; show _ = (if _ then _ else _); rw [if_neg (by rw [← fb]; exact fun g => absurd (cv8.1.mpr g) (by omega))])
      · refine x_iconst C dX0_isSound_78 ?_
        exact x_zret C hQ (by omega) dX0_isSound_79 (⟨rfl, _, rfl, by rw [← hr, show B.2.2.2.2.1.toNat - j = (B.2.2.2.2.1.toNat - (j + 1)) + 1 by omega]; show _ = zB (if _ then _ else _); rw [if_pos (by rw [← fb]; exact cv8.1.mp (by omega))]; rfl⟩)
set_option maxHeartbeats 4000000 in
set_option maxRecDepth 100000 in
theorem c_isSound {D : va_G} {ad : Nat → Nat} {cA : Nat → ClassId} {X0 : XT} {B : BC} (m0 : 0 ≤ B.2.2.2.2.1) (m1 : B.2.2.2.2.1 ≤ 6) (hH : HG vX X0) (hF : FR mdCL X0 X0) (hB : BDX B X0) : MetX (wX D ad cA) yX0_isSound cX0_isSound 8 (some .boolean) 1 20 [.ref 22] X0 (fun r X1 => X1 = X0 ∧ ∃ u : Int, r = some (.int (iI u)) ∧ u = zB (bSound B)) := by
  have bm := hB.2.2.2.2.1
  refine MetX.mk (own := RX0) (by decide +kernel) rfl (nle rfl) (fun E C hQ => ?_)
  refine Wx_lv (lv' := [(0, .ref 22)]) rfl ?_
  refine x_aload_n (i := 0) C dX0_isSound_0 rfl rfl ?_
  refine x_getI C fkX_X0_18 (nlt rfl) rfl dX0_isSound_1 ?_
  refine x_gen (fun v1 ev1 => ?_)
  have qv1 : ((-2147483648) : Int) ≤ v1 ∧ v1 ≤ (2147483647 : Int) := by
    rw [ev1]
    exact hH.rF (k := 22) (i := 0) rfl rfl
  refine x_aload_n (i := 0) C dX0_isSound_4 rfl rfl ?_
  refine x_getI C fkX_X0_22 (nlt rfl) rfl dX0_isSound_5 ?_
  refine x_gen (fun v2 ev2 => ?_)
  have qv2 : ((-2147483648) : Int) ≤ v2 ∧ v2 ≤ (2147483647 : Int) := by
    rw [ev2]
    exact hH.rF (k := 22) (i := 1) rfl rfl
  refine x_imul C dX0_isSound_8 ?_
  refine x_callSN (As := [.int (iI (v1 * v2))]) C (by exact (xf_bit (f := v1 * v2))) cnX0_43 rfl rfl (nle rfl) (by exact ⟨nle rfl, nle rfl⟩) dX0_isSound_9 ?_
  rintro _ Xl3 ⟨hxl3, rfl⟩
  rw [hxl3]
  refine Wx_st (st' := [.long ((1 : Int64) <<< ((iI (v1 * v2)).toInt64 &&& 63))]) rfl ?_
  refine x_genL (fun l3 el3 => ?_)
  refine Wx_st (st' := [.long (l3)]) rfl ?_
  refine x_lconst C dX0_isSound_12 ?_
  refine x_eqL (b := 1) rfl ?_
  refine x_lsub C dX0_isSound_13 ?_
  refine x_genL (fun l4 el4 => ?_)
  have al : l4 = alL B := by rw [el4, el3]; unfold alL; rw [← hB.1, ← hB.2.1, ← ev1, ← ev2]; rfl
  refine x_lstore_n (i := 1) (lv' := [(1, .long (l4)), (0, .ref 22)]) C dX0_isSound_14 rfl (nlt rfl) rfl ?_
  refine x_aload_n (i := 0) C dX0_isSound_15 rfl rfl ?_
  refine x_getL C fkX_X0_25 (nlt rfl) rfl dX0_isSound_16 ?_
  refine x_genL (fun l5 el5 => ?_)
  refine x_aload_n (i := 0) C dX0_isSound_19 rfl rfl ?_
  refine x_getL C fkX_X0_29 (nlt rfl) rfl dX0_isSound_20 ?_
  refine x_genL (fun l6 el6 => ?_)
  refine x_lor C dX0_isSound_23 ?_
  refine x_genL (fun l7 el7 => ?_)
  have tk : l7 = B.2.2.1 ||| B.2.2.2.1 := by rw [el7, el5, el6, hB.2.2.1, hB.2.2.2.1]
  refine x_lstore_n (i := 3) (lv' := [(3, .long (l7)), (1, .long (l4)), (0, .ref 22)]) C dX0_isSound_24 rfl (nlt rfl) rfl ?_
  refine x_lload_n (i := 3) C dX0_isSound_25 rfl rfl ?_
  refine x_lload_n (i := 1) C dX0_isSound_26 rfl rfl ?_
  refine x_ldc2 C dX0_isSound_27 cnX0_41 ?_
  refine x_lxor C dX0_isSound_30 ?_
  refine x_genL (fun l8 el8 => ?_)
  refine x_land C dX0_isSound_31 ?_
  refine x_genL (fun l9 el9 => ?_)
  refine x_lconst C dX0_isSound_32 ?_
  refine x_eqL (b := 0) rfl ?_
  refine x_lcmp C dX0_isSound_33 ?_
  refine x_topi (fun v10 rv10 ev10 => ?_)
  have cv10 := lcmp_iff rv10 ev10
  unfold inR at rv10
  have fb : l9 = (B.2.2.1 ||| B.2.2.2.1) &&& (alL B ^^^ (-1)) := by rw [el9, el8, al, tk]
  refine x_if_eq (tgt := 39) C dX0_isSound_34 (by decide) ⟨by omega, by omega⟩ (fun h11 => ?_) (fun h11 => ?_)
  · refine x_iconst C dX0_isSound_39 ?_
    refine x_istore (lv' := [(5, .int (iI (0))), (3, .long (l7)), (1, .long (l4)), (0, .ref 22)]) C dX0_isSound_40 (nlt rfl) rfl ?_
    rw [show iI 0 = iI ((0 : Nat) : Int) from rfl, al]
    refine Wx_pick [5, 3, 1, 0] ?_
    refine Wx_lv (lv' := [(5, .int (iI (((0 : Nat) : Int)))), (3, .long (l7)), (1, .long ((alL B))), (0, .ref 22)]) rfl ?_
    exact c_isSoundL m0 m1 hH hF hB C hQ 8 0 _ (by omega) (by omega) (by unfold bSound; rw [if_neg (fun g => g (by rw [← fb]; exact cv10.1.mp (by omega))), tk]; rfl)
  · refine x_iconst C dX0_isSound_37 ?_
    exact x_zret C hQ (by omega) dX0_isSound_38 (⟨rfl, _, rfl, by unfold bSound; rw [if_pos (by rw [← fb]; exact fun g => absurd (cv10.1.mpr g) (by omega))]; rfl⟩)
