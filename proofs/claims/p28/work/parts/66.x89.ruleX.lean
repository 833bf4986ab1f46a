/-! ===== the class: rule ===== -/
theorem dX8_hasRule_0 : decode cX8_hasRule 0 = .ok (.iload_n 1, 1) := by decide +kernel
theorem dX8_hasRule_1 : decode cX8_hasRule 1 = .ok (.ifCond .lt 17, 3) := by decide +kernel
theorem dX8_hasRule_4 : decode cX8_hasRule 4 = .ok (.iload_n 1, 1) := by decide +kernel
theorem dX8_hasRule_5 : decode cX8_hasRule 5 = .ok (.aload_n 0, 1) := by decide +kernel
theorem dX8_hasRule_6 : decode cX8_hasRule 6 = .ok (.getfield 19, 3) := by decide +kernel
theorem dX8_hasRule_9 : decode cX8_hasRule 9 = .ok (.iconst 1, 1) := by decide +kernel
theorem dX8_hasRule_10 : decode cX8_hasRule 10 = .ok (.iaload, 1) := by decide +kernel
theorem dX8_hasRule_11 : decode cX8_hasRule 11 = .ok (.if_icmp .ge 7, 3) := by decide +kernel
theorem dX8_hasRule_14 : decode cX8_hasRule 14 = .ok (.iconst 1, 1) := by decide +kernel
theorem dX8_hasRule_15 : decode cX8_hasRule 15 = .ok (.goto 4, 3) := by decide +kernel
theorem dX8_hasRule_18 : decode cX8_hasRule 18 = .ok (.iconst 0, 1) := by decide +kernel
theorem dX8_hasRule_19 : decode cX8_hasRule 19 = .ok (.ireturn, 1) := by decide +kernel
theorem dX11_signOf_0 : decode cX11_signOf 0 = .ok (.lload_n 0, 1) := by decide +kernel
theorem dX11_signOf_1 : decode cX11_signOf 1 = .ok (.iconst 4, 1) := by decide +kernel
theorem dX11_signOf_2 : decode cX11_signOf 2 = .ok (.iload_n 2, 1) := by decide +kernel
theorem dX11_signOf_3 : decode cX11_signOf 3 = .ok (.imul, 1) := by decide +kernel
theorem dX11_signOf_4 : decode cX11_signOf 4 = .ok (.iconst 4, 1) := by decide +kernel
theorem dX11_signOf_5 : decode cX11_signOf 5 = .ok (.iadd, 1) := by decide +kernel
theorem dX11_signOf_6 : decode cX11_signOf 6 = .ok (.lushr, 1) := by decide +kernel
theorem dX11_signOf_7 : decode cX11_signOf 7 = .ok (.l2i, 1) := by decide +kernel
theorem dX11_signOf_8 : decode cX11_signOf 8 = .ok (.bipush 15, 2) := by decide +kernel
theorem dX11_signOf_10 : decode cX11_signOf 10 = .ok (.iand, 1) := by decide +kernel
theorem dX11_signOf_11 : decode cX11_signOf 11 = .ok (.ireturn, 1) := by decide +kernel
theorem dX11_rule_0 : decode cX11_rule 0 = .ok (.aload_n 0, 1) := by decide +kernel
theorem dX11_rule_1 : decode cX11_rule 1 = .ok (.getfield 10, 3) := by decide +kernel
theorem dX11_rule_4 : decode cX11_rule 4 = .ok (.iload_n 1, 1) := by decide +kernel
theorem dX11_rule_5 : decode cX11_rule 5 = .ok (.invokevirtual 138, 3) := by decide +kernel
theorem dX11_rule_8 : decode cX11_rule 8 = .ok (.ifCond .ne 6, 3) := by decide +kernel
theorem dX11_rule_11 : decode cX11_rule 11 = .ok (.bipush (-2), 2) := by decide +kernel
theorem dX11_rule_13 : decode cX11_rule 13 = .ok (.ireturn, 1) := by decide +kernel
theorem dX11_rule_14 : decode cX11_rule 14 = .ok (.aload_n 0, 1) := by decide +kernel
theorem dX11_rule_15 : decode cX11_rule 15 = .ok (.getfield 10, 3) := by decide +kernel
theorem dX11_rule_18 : decode cX11_rule 18 = .ok (.getfield 141, 3) := by decide +kernel
theorem dX11_rule_21 : decode cX11_rule 21 = .ok (.iload_n 1, 1) := by decide +kernel
theorem dX11_rule_22 : decode cX11_rule 22 = .ok (.laload, 1) := by decide +kernel
theorem dX11_rule_23 : decode cX11_rule 23 = .ok (.lstore_n 3, 1) := by decide +kernel
theorem dX11_rule_24 : decode cX11_rule 24 = .ok (.iload_n 2, 1) := by decide +kernel
theorem dX11_rule_25 : decode cX11_rule 25 = .ok (.iconst (-1), 1) := by decide +kernel
theorem dX11_rule_26 : decode cX11_rule 26 = .ok (.if_icmp .ne 8, 3) := by decide +kernel
theorem dX11_rule_29 : decode cX11_rule 29 = .ok (.lload_n 3, 1) := by decide +kernel
theorem dX11_rule_30 : decode cX11_rule 30 = .ok (.invokestatic 145, 3) := by decide +kernel
theorem dX11_rule_33 : decode cX11_rule 33 = .ok (.ireturn, 1) := by decide +kernel
theorem dX11_rule_34 : decode cX11_rule 34 = .ok (.iload_n 2, 1) := by decide +kernel
theorem dX11_rule_35 : decode cX11_rule 35 = .ok (.ifCond .lt 19, 3) := by decide +kernel
theorem dX11_rule_38 : decode cX11_rule 38 = .ok (.iload_n 2, 1) := by decide +kernel
theorem dX11_rule_39 : decode cX11_rule 39 = .ok (.lload_n 3, 1) := by decide +kernel
theorem dX11_rule_40 : decode cX11_rule 40 = .ok (.invokestatic 145, 3) := by decide +kernel
theorem dX11_rule_43 : decode cX11_rule 43 = .ok (.if_icmp .ge 11, 3) := by decide +kernel
theorem dX11_rule_46 : decode cX11_rule 46 = .ok (.lload_n 3, 1) := by decide +kernel
theorem dX11_rule_47 : decode cX11_rule 47 = .ok (.iload_n 2, 1) := by decide +kernel
theorem dX11_rule_48 : decode cX11_rule 48 = .ok (.invokestatic 148, 3) := by decide +kernel
theorem dX11_rule_51 : decode cX11_rule 51 = .ok (.goto 5, 3) := by decide +kernel
theorem dX11_rule_54 : decode cX11_rule 54 = .ok (.bipush (-2), 2) := by decide +kernel
theorem dX11_rule_56 : decode cX11_rule 56 = .ok (.ireturn, 1) := by decide +kernel

/-- the sign at k of a RULE's long -/
def sgR (r : Int64) (k u : Int) : Prop := ∃ z : Int64, z = (r.toUInt64 >>> ((iI (4 * k + 4)).toInt64.toUInt64 &&& Int64.toUInt64 63)).toInt64 ∧ iI u = z.toInt32 &&& iI 15
def RLAX (n k : Int) (X : XT) (u : Int) : Prop := (¬ (0 ≤ n ∧ n < X.1 3 1) ∧ u = -2) ∨ (0 ≤ n ∧ n < X.1 3 1 ∧ ((k = -1 ∧ u = lenL (X.2.1 5 n.toNat)) ∨ (0 ≤ k ∧ k < lenL (X.2.1 5 n.toNat) ∧ sgR (X.2.1 5 n.toNat) k u) ∨ (k ≠ -1 ∧ ¬ (0 ≤ k ∧ k < lenL (X.2.1 5 n.toNat)) ∧ u = -2)))
set_option maxHeartbeats 4000000 in
set_option maxRecDepth 100000 in
theorem c_hasRule {D : va_G} {ad : Nat → Nat} {cA : Nat → ClassId} {X : XT} {n : Int} (nn : inR n) (hH : HG vX X) : MetX (wX D ad cA) yX8_hasRule cX8_hasRule 2 (some .boolean) 0 0 [.ref 1, .int (iI (n))] X (fun r X' => X' = X ∧ ∃ u : Int, r = some (.int (iI u)) ∧ ((u = 1 ∧ 0 ≤ n ∧ n < X.1 3 1) ∨ (u = 0 ∧ ¬ (0 ≤ n ∧ n < X.1 3 1)))) := by
  unfold inR at nn
  refine MetX.mk (own := RX8) (by decide +kernel) rfl (nle rfl) (fun E C hQ => ?_)
  refine Wx_lv (lv' := [(0, .ref 1), (1, .int (iI (n)))]) rfl ?_
  refine x_iload_n (i := 1) C dX8_hasRule_0 rfl rfl ?_
  refine x_if_lt (tgt := 18) C dX8_hasRule_1 (by decide) ⟨by omega, by omega⟩ (fun h1 => ?_) (fun h1 => ?_)
  · refine x_iconst C dX8_hasRule_18 ?_
    exact x_zret C hQ (by omega) dX8_hasRule_19 (⟨rfl, _, rfl, by omega⟩)
  · refine x_iload_n (i := 1) C dX8_hasRule_4 rfl rfl ?_
    refine x_aload_n (i := 0) C dX8_hasRule_5 rfl rfl ?_
    refine x_getRs (r := 3) C fkX_X8_19 (nlt rfl) rfl (HG.rR hH (k := 1) (i := 4) rfl rfl) dX8_hasRule_6 ?_
    refine x_iconst C dX8_hasRule_9 ?_
    refine x_iald C (nlt rfl) rfl rfl (nle rfl) (by omega) (by omega) dX8_hasRule_10 ?_
    refine x_gen (fun v2 ev2 => ?_)
    replace ev2 : v2 = X.1 3 1 := ev2
    have qv2 : (0 : Int) ≤ v2 ∧ v2 ≤ (3 : Int) := by
      rw [ev2]
      exact hH.rF (k := 3) (i := 1) (p := (0, 3)) rfl rfl
    refine x_icmp_ge (tgt := 18) C dX8_hasRule_11 (by decide) ⟨by omega, by omega⟩ ⟨by omega, by omega⟩ (fun h3 => ?_) (fun h3 => ?_)
    · refine x_iconst C dX8_hasRule_18 ?_
      exact x_zret C hQ (by omega) dX8_hasRule_19 (⟨rfl, _, rfl, by omega⟩)
    · refine x_iconst C dX8_hasRule_14 ?_
      refine x_goto (tgt := 19) C dX8_hasRule_15 (by decide) ?_
      exact x_zret C hQ (by omega) dX8_hasRule_19 (⟨rfl, _, rfl, by omega⟩)
set_option maxHeartbeats 4000000 in
set_option maxRecDepth 100000 in
theorem c_signOf {D : va_G} {ad : Nat → Nat} {cA : Nat → ClassId} {X : XT} {r : Int64} {k : Int} (k0 : 0 ≤ k) (k1 : k ≤ 14) : MetX (wX D ad cA) yX11_signOf cX11_signOf 3 (some .int) 0 0 [.long (r), .int (iI (k))] X (fun r1 X' => X' = X ∧ ∃ u : Int, r1 = some (.int (iI u)) ∧ inR u ∧ sgR r k u) := by
  refine MetX.mk (own := RX11) (by decide +kernel) rfl (nle rfl) (fun E C hQ => ?_)
  refine Wx_lv (lv' := [(0, .long (r)), (2, .int (iI (k)))]) rfl ?_
  refine x_lload_n (i := 0) C dX11_signOf_0 rfl rfl ?_
  refine x_iconst C dX11_signOf_1 ?_
  refine x_iload_n (i := 2) C dX11_signOf_2 rfl rfl ?_
  refine x_imul C dX11_signOf_3 ?_
  refine x_iconst C dX11_signOf_4 ?_
  refine x_iadd C dX11_signOf_5 ?_
  refine x_lushr C dX11_signOf_6 ?_
  refine x_genL (fun l1 el1 => ?_)
  refine x_l2i C dX11_signOf_7 ?_
  refine x_topi (fun v2 rv2 ev2 => ?_)
  unfold inR at rv2
  refine x_bipush C dX11_signOf_8 (by decide) ?_
  refine x_iand C dX11_signOf_10 ?_
  refine x_topi (fun v3 rv3 ev3 => ?_)
  unfold inR at rv3
  have bv3 := and_bd (m := 15) (by decide) (by decide) rv3 ev3
  exact x_iret C hQ dX11_signOf_11 (⟨rfl, _, rfl, ⟨by omega, by omega⟩, l1, el1, by rw [ev3, ev2]⟩)
set_option maxHeartbeats 4000000 in
set_option maxRecDepth 100000 in
theorem c_rule {D : va_G} {ad : Nat → Nat} {cA : Nat → ClassId} {X : XT} {n k : Int} (nn : inR n) (kk : inR k) (hH : HG vX X) : MetX (wX D ad cA) yX11_rule cX11_rule 5 (some .int) 1 22 [.ref 0, .int (iI (n)), .int (iI (k))] X (fun r X' => X' = X ∧ ∃ u : Int, r = some (.int (iI u)) ∧ inR u ∧ RLAX n k X u) := by
  unfold inR at nn kk
  have cb : (0 : Int) ≤ X.1 3 1 ∧ X.1 3 1 ≤ 3 := hH.rF (k := 3) (i := 1) (p := (0, 3)) rfl rfl
  refine MetX.mk (own := RX11) (by decide +kernel) rfl (nle rfl) (fun E C hQ => ?_)
  refine Wx_lv (lv' := [(0, .ref 0), (1, .int (iI (n))), (2, .int (iI (k)))]) rfl ?_
  refine x_aload_n (i := 0) C dX11_rule_0 rfl rfl ?_
  refine x_getRs (r := 1) C fkX_X11_10 (nlt rfl) rfl (HG.rR hH (k := 0) (i := 0) rfl rfl) dX11_rule_1 ?_
  refine x_iload_n (i := 1) C dX11_rule_4 rfl rfl ?_
  refine x_callV (As := [.int (iI (n))]) C (by exact (c_hasRule (n := n) ⟨by omega, by omega⟩ hH)) ckX11_138 im_X8_hasRule se_X8_hasRule (nlt rfl) rfl rfl rfl rfl (nle rfl) (by exact ⟨nle rfl, nle rfl⟩) dX11_rule_5 ?_
  rintro _ Xv1 ⟨hxv1, v1, rfl, ev1⟩
  rw [hxv1]
  refine Wx_st (st' := [.int (iI (v1))]) rfl ?_
  refine x_if_ne (tgt := 14) C dX11_rule_8 (by decide) ⟨by omega, by omega⟩ (fun h2 => ?_) (fun h2 => ?_)
  · refine x_aload_n (i := 0) C dX11_rule_14 rfl rfl ?_
    refine x_getRs (r := 1) C fkX_X11_10 (nlt rfl) rfl (HG.rR hH (k := 0) (i := 0) rfl rfl) dX11_rule_15 ?_
    refine x_getRs (r := 5) C fkX_X11_141 (nlt rfl) rfl (HG.rR hH (k := 1) (i := 6) rfl rfl) dX11_rule_18 ?_
    refine x_iload_n (i := 1) C dX11_rule_21 rfl rfl ?_
    refine x_lald C (nlt rfl) rfl rfl (nle rfl) (by omega) (by omega) dX11_rule_22 ?_
    refine x_genL (fun l3 el3 => ?_)
    refine x_lstore_n (i := 3) (lv' := [(3, .long (l3)), (0, .ref 0), (1, .int (iI (n))), (2, .int (iI (k)))]) C dX11_rule_23 rfl (nlt rfl) rfl ?_
    refine x_iload_n (i := 2) C dX11_rule_24 rfl rfl ?_
    refine x_iconst C dX11_rule_25 ?_
    refine x_icmp_ne (tgt := 34) C dX11_rule_26 (by decide) ⟨by omega, by omega⟩ ⟨by omega, by omega⟩ (fun h4 => ?_) (fun h4 => ?_)
    · refine x_iload_n (i := 2) C dX11_rule_34 rfl rfl ?_
      refine x_if_lt (tgt := 54) C dX11_rule_35 (by decide) ⟨by omega, by omega⟩ (fun h5 => ?_) (fun h5 => ?_)
      · refine x_bipush C dX11_rule_54 (by decide) ?_
        exact x_iret C hQ dX11_rule_56 (⟨rfl, _, rfl, ⟨by omega, by omega⟩, .inr ⟨by omega, by omega, by first | exact .inl ⟨by omega, by rw [← el3]; omega⟩ | exact .inr (.inr ⟨by omega, by rw [← el3]; omega, by omega⟩) | exact .inr (.inl ⟨by omega, by rw [← el3]; omega, by rw [← el3]; assumption⟩)⟩⟩)
      · refine x_iload_n (i := 2) C dX11_rule_38 rfl rfl ?_
        refine x_lload_n (i := 3) C dX11_rule_39 rfl rfl ?_
        refine x_callS (As := [.long (l3)]) C (by exact (c_lengthOf (r := l3))) ckX11_145 sm_X11_lengthOf rfl rfl (nle rfl) (by exact ⟨nle rfl, nle rfl⟩) dX11_rule_40 ?_
        rintro _ Xv6 ⟨hxv6, v6, rfl, ev6, bv6, cv6⟩
        rw [hxv6]
        refine Wx_st (st' := [.int (iI (v6)), .int (iI (k))]) rfl ?_
        refine x_icmp_ge (tgt := 54) C dX11_rule_43 (by decide) ⟨by omega, by omega⟩ ⟨by omega, by omega⟩ (fun h7 => ?_) (fun h7 => ?_)
        · refine x_bipush C dX11_rule_54 (by decide) ?_
          exact x_iret C hQ dX11_rule_56 (⟨rfl, _, rfl, ⟨by omega, by omega⟩, .inr ⟨by omega, by omega, by first | exact .inl ⟨by omega, by rw [← el3]; omega⟩ | exact .inr (.inr ⟨by omega, by rw [← el3]; omega, by omega⟩) | exact .inr (.inl ⟨by omega, by rw [← el3]; omega, by rw [← el3]; assumption⟩)⟩⟩)
        · refine x_lload_n (i := 3) C dX11_rule_46 rfl rfl ?_
          refine x_iload_n (i := 2) C dX11_rule_47 rfl rfl ?_
          refine x_callS (As := [.long (l3), .int (iI (k))]) C (by exact (c_signOf (r := l3) (k := k) (by omega) (by omega))) ckX11_148 sm_X11_signOf rfl rfl (nle rfl) (by exact ⟨nle rfl, nle rfl⟩) dX11_rule_48 ?_
          rintro _ Xv8 ⟨hxv8, v8, rfl, rv8, sgv8⟩
          rw [hxv8]
          unfold inR at rv8
          refine Wx_st (st' := [.int (iI (v8))]) rfl ?_
          refine x_goto (tgt := 56) C dX11_rule_51 (by decide) ?_
          exact x_iret C hQ dX11_rule_56 (⟨rfl, _, rfl, ⟨by omega, by omega⟩, .inr ⟨by omega, by omega, by first | exact .inl ⟨by omega, by rw [← el3]; omega⟩ | exact .inr (.inr ⟨by omega, by rw [← el3]; omega, by omega⟩) | exact .inr (.inl ⟨by omega, by rw [← el3]; omega, by rw [← el3]; assumption⟩)⟩⟩)
    · refine x_lload_n (i := 3) C dX11_rule_29 rfl rfl ?_
      refine x_callS (As := [.long (l3)]) C (by exact (c_lengthOf (r := l3))) ckX11_145 sm_X11_lengthOf rfl rfl (nle rfl) (by exact ⟨nle rfl, nle rfl⟩) dX11_rule_30 ?_
      rintro _ Xv9 ⟨hxv9, v9, rfl, ev9, bv9, cv9⟩
      rw [hxv9]
      refine Wx_st (st' := [.int (iI (v9))]) rfl ?_
      exact x_iret C hQ dX11_rule_33 (⟨rfl, _, rfl, ⟨by omega, by omega⟩, .inr ⟨by omega, by omega, by first | exact .inl ⟨by omega, by rw [← el3]; omega⟩ | exact .inr (.inr ⟨by omega, by rw [← el3]; omega, by omega⟩) | exact .inr (.inl ⟨by omega, by rw [← el3]; omega, by rw [← el3]; assumption⟩)⟩⟩)
  · refine x_bipush C dX11_rule_11 (by decide) ?_
    exact x_iret C hQ dX11_rule_13 (⟨rfl, _, rfl, ⟨by omega, by omega⟩, .inl ⟨by omega, by omega⟩⟩)
