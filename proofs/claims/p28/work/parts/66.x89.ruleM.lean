/-! ===== the reference: rule ===== -/
theorem dX12_rule_0 : decode cX12_rule 0 = .ok (.aload_n 0, 1) := by decide +kernel
theorem dX12_rule_1 : decode cX12_rule 1 = .ok (.iconst 0, 1) := by decide +kernel
theorem dX12_rule_2 : decode cX12_rule 2 = .ok (.putfield 157, 3) := by decide +kernel
theorem dX12_rule_5 : decode cX12_rule 5 = .ok (.aload_n 0, 1) := by decide +kernel
theorem dX12_rule_6 : decode cX12_rule 6 = .ok (.iconst 1, 1) := by decide +kernel
theorem dX12_rule_7 : decode cX12_rule 7 = .ok (.iload_n 1, 1) := by decide +kernel
theorem dX12_rule_8 : decode cX12_rule 8 = .ok (.invokevirtual 268, 3) := by decide +kernel
theorem dX12_rule_11 : decode cX12_rule 11 = .ok (.ifCond .ne 6, 3) := by decide +kernel
theorem dX12_rule_14 : decode cX12_rule 14 = .ok (.bipush (-2), 2) := by decide +kernel
theorem dX12_rule_16 : decode cX12_rule 16 = .ok (.ireturn, 1) := by decide +kernel
theorem dX12_rule_17 : decode cX12_rule 17 = .ok (.aload_n 0, 1) := by decide +kernel
theorem dX12_rule_18 : decode cX12_rule 18 = .ok (.getfield 29, 3) := by decide +kernel
theorem dX12_rule_21 : decode cX12_rule 21 = .ok (.bipush 10, 2) := by decide +kernel
theorem dX12_rule_23 : decode cX12_rule 23 = .ok (.iload_n 1, 1) := by decide +kernel
theorem dX12_rule_24 : decode cX12_rule 24 = .ok (.imul, 1) := by decide +kernel
theorem dX12_rule_25 : decode cX12_rule 25 = .ok (.iaload, 1) := by decide +kernel
theorem dX12_rule_26 : decode cX12_rule 26 = .ok (.istore_n 3, 1) := by decide +kernel
theorem dX12_rule_27 : decode cX12_rule 27 = .ok (.iload_n 2, 1) := by decide +kernel
theorem dX12_rule_28 : decode cX12_rule 28 = .ok (.iconst (-1), 1) := by decide +kernel
theorem dX12_rule_29 : decode cX12_rule 29 = .ok (.if_icmp .ne 7, 3) := by decide +kernel
theorem dX12_rule_32 : decode cX12_rule 32 = .ok (.iload_n 3, 1) := by decide +kernel
theorem dX12_rule_33 : decode cX12_rule 33 = .ok (.goto 32, 3) := by decide +kernel
theorem dX12_rule_36 : decode cX12_rule 36 = .ok (.iload_n 2, 1) := by decide +kernel
theorem dX12_rule_37 : decode cX12_rule 37 = .ok (.iconst 0, 1) := by decide +kernel
theorem dX12_rule_38 : decode cX12_rule 38 = .ok (.iload_n 3, 1) := by decide +kernel
theorem dX12_rule_39 : decode cX12_rule 39 = .ok (.iconst 1, 1) := by decide +kernel
theorem dX12_rule_40 : decode cX12_rule 40 = .ok (.isub, 1) := by decide +kernel
theorem dX12_rule_41 : decode cX12_rule 41 = .ok (.invokestatic 165, 3) := by decide +kernel
theorem dX12_rule_44 : decode cX12_rule 44 = .ok (.ifCond .eq 19, 3) := by decide +kernel
theorem dX12_rule_47 : decode cX12_rule 47 = .ok (.aload_n 0, 1) := by decide +kernel
theorem dX12_rule_48 : decode cX12_rule 48 = .ok (.getfield 29, 3) := by decide +kernel
theorem dX12_rule_51 : decode cX12_rule 51 = .ok (.bipush 10, 2) := by decide +kernel
theorem dX12_rule_53 : decode cX12_rule 53 = .ok (.iload_n 1, 1) := by decide +kernel
theorem dX12_rule_54 : decode cX12_rule 54 = .ok (.imul, 1) := by decide +kernel
theorem dX12_rule_55 : decode cX12_rule 55 = .ok (.iconst 1, 1) := by decide +kernel
theorem dX12_rule_56 : decode cX12_rule 56 = .ok (.iadd, 1) := by decide +kernel
theorem dX12_rule_57 : decode cX12_rule 57 = .ok (.iload_n 2, 1) := by decide +kernel
theorem dX12_rule_58 : decode cX12_rule 58 = .ok (.iadd, 1) := by decide +kernel
theorem dX12_rule_59 : decode cX12_rule 59 = .ok (.iaload, 1) := by decide +kernel
theorem dX12_rule_60 : decode cX12_rule 60 = .ok (.goto 5, 3) := by decide +kernel
theorem dX12_rule_63 : decode cX12_rule 63 = .ok (.bipush (-2), 2) := by decide +kernel
theorem dX12_rule_65 : decode cX12_rule 65 = .ok (.ireturn, 1) := by decide +kernel

def RLAM (n k : Int) (X : XT) (u : Int) : Prop := (¬ (0 ≤ n ∧ n < X.1 5 1) ∧ u = -2) ∨ (0 ≤ n ∧ n < X.1 5 1 ∧ ((k = -1 ∧ u = X.1 7 (10 * n).toNat) ∨ (0 ≤ k ∧ k < X.1 7 (10 * n).toNat ∧ u = X.1 7 (10 * n + 1 + k).toNat) ∨ (k ≠ -1 ∧ ¬ (0 ≤ k ∧ k < X.1 7 (10 * n).toNat) ∧ u = -2)))
set_option maxHeartbeats 4000000 in
set_option maxRecDepth 100000 in
theorem r_rule {D : va_G} {ad : Nat → Nat} {cA : Nat → ClassId} {X : XT} {n k : Int} (nn : inR n) (kk : inR k) (hH : HG vM X) (hF : FR mmCO X X) : MetX (wM D ad cA) yX12_rule cX12_rule 4 (some .int) 2 44 [.ref 0, .int (iI (n)), .int (iI (k))] X (fun r X1 => HG vM X1 ∧ FR mmCO X X1 ∧ ∃ u : Int, r = some (.int (iI u)) ∧ inR u ∧ RLAM n k X u) := by
  unfold inR at nn kk
  have cb : (0 : Int) ≤ X.1 5 1 ∧ X.1 5 1 ≤ 3 := hH.rF (k := 5) (i := 1) (p := (0, 3)) rfl rfl
  refine MetX.mk (own := RX12) (by decide +kernel) rfl (nle rfl) (fun E C hQ => ?_)
  refine Wx_lv (lv' := [(0, .ref 0), (1, .int (iI (n))), (2, .int (iI (k)))]) rfl ?_
  refine x_aload_n (i := 0) C dX12_rule_0 rfl rfl ?_
  refine x_iconst C dX12_rule_1 ?_
  refine x_putI C pkM_X12_157 (nlt rfl) rfl dX12_rule_2 ?_
  refine x_gX (fun Yy1 eYy1 => ?_)
  have hHy1 : HG vM Yy1 := by
    rw [eYy1]
    exact hg_wF hH (p := ((-2147483648), 2147483647)) rfl ⟨by omega, by omega⟩
  have hFy1 : FR mmCO X Yy1 := by
    rw [eYy1]
    exact FR.upI hF (rfl)
  refine x_aload_n (i := 0) C dX12_rule_5 rfl rfl ?_
  refine x_iconst C dX12_rule_6 ?_
  refine x_iload_n (i := 1) C dX12_rule_7 rfl rfl ?_
  refine x_callV (As := [.int (iI (1)), .int (iI (n))]) C (by exact (r_is1 (k := n) ⟨by omega, by omega⟩ hHy1)) ckX12_268 im_X12_is se_X12_is (nlt rfl) rfl rfl rfl rfl (nle rfl) (by exact ⟨nle rfl, nle rfl⟩) dX12_rule_8 ?_
  rintro _ Xv2 ⟨hxv2, v2, rfl, isv2⟩
  rw [hxv2]
  have myv2 : Yy1.1 5 1 = X.1 5 1 := by rw [eYy1, upI_nc (by decide)]
  refine Wx_st (st' := [.int (iI (v2))]) rfl ?_
  refine x_if_ne (tgt := 17) C dX12_rule_11 (by decide) ⟨by omega, by omega⟩ (fun h3 => ?_) (fun h3 => ?_)
  · refine x_aload_n (i := 0) C dX12_rule_17 rfl rfl ?_
    refine x_getRs (r := 7) C fkM_X12_29 (nlt rfl) rfl (HG.rR hHy1 (k := 0) (i := 7) rfl rfl) dX12_rule_18 ?_
    refine x_bipush C dX12_rule_21 (by decide) ?_
    refine x_iload_n (i := 1) C dX12_rule_23 rfl rfl ?_
    refine x_imul C dX12_rule_24 ?_
    refine x_iald C (nlt rfl) rfl rfl (nle rfl) (by omega) (by omega) dX12_rule_25 ?_
    refine x_gen (fun v4 ev4 => ?_)
    have qv4 : (0 : Int) ≤ v4 ∧ v4 ≤ (10 : Int) := by
      rw [ev4]
      exact hHy1.rA (k := 7) (n := 120) (p := (0, 10)) (nlt rfl) rfl (by decide +kernel) (by omega)
    have rwv4 : v4 = X.1 7 (10 * n).toNat := by rw [ev4, eYy1, upI_nc (by decide)]
    refine x_istore_n (i := 3) (lv' := [(3, .int (iI (v4))), (0, .ref 0), (1, .int (iI (n))), (2, .int (iI (k)))]) C dX12_rule_26 rfl (nlt rfl) rfl ?_
    refine x_iload_n (i := 2) C dX12_rule_27 rfl rfl ?_
    refine x_iconst C dX12_rule_28 ?_
    refine x_icmp_ne (tgt := 36) C dX12_rule_29 (by decide) ⟨by omega, by omega⟩ ⟨by omega, by omega⟩ (fun h5 => ?_) (fun h5 => ?_)
    · refine x_iload_n (i := 2) C dX12_rule_36 rfl rfl ?_
      refine x_iconst C dX12_rule_37 ?_
      refine x_iload_n (i := 3) C dX12_rule_38 rfl rfl ?_
      refine x_iconst C dX12_rule_39 ?_
      refine x_isub C dX12_rule_40 ?_
      refine x_callS (As := [.int (iI (k)), .int (iI (0)), .int (iI (v4 - 1))]) C (by exact (q_in (v := k) (a := 0) (b := v4 - 1) ⟨by omega, by omega⟩ ⟨by omega, by omega⟩ ⟨by omega, by omega⟩)) ckX12_165 sm_X12_in rfl rfl (nle rfl) (by exact ⟨nle rfl, nle rfl⟩) dX12_rule_41 ?_
      rintro _ Xv6 ⟨hxv6, v6, rfl, ev6⟩
      rw [hxv6]
      refine Wx_st (st' := [.int (iI (v6))]) rfl ?_
      refine x_if_eq (tgt := 63) C dX12_rule_44 (by decide) ⟨by omega, by omega⟩ (fun h7 => ?_) (fun h7 => ?_)
      · refine x_bipush C dX12_rule_63 (by decide) ?_
        exact x_iret C hQ dX12_rule_65 (⟨hHy1, hFy1, _, rfl, ⟨by omega, by omega⟩, .inr ⟨by omega, by omega, by first | exact .inl ⟨by omega, by omega⟩ | exact .inr (.inr ⟨by omega, by omega, by omega⟩) | exact .inr (.inl ⟨by omega, by omega, by omega⟩)⟩⟩)
      · refine x_aload_n (i := 0) C dX12_rule_47 rfl rfl ?_
        refine x_getRs (r := 7) C fkM_X12_29 (nlt rfl) rfl (HG.rR hHy1 (k := 0) (i := 7) rfl rfl) dX12_rule_48 ?_
        refine x_bipush C dX12_rule_51 (by decide) ?_
        refine x_iload_n (i := 1) C dX12_rule_53 rfl rfl ?_
        refine x_imul C dX12_rule_54 ?_
        refine x_iconst C dX12_rule_55 ?_
        refine x_iadd C dX12_rule_56 ?_
        refine x_iload_n (i := 2) C dX12_rule_57 rfl rfl ?_
        refine x_iadd C dX12_rule_58 ?_
        refine x_iald C (nlt rfl) rfl rfl (nle rfl) (by omega) (by omega) dX12_rule_59 ?_
        refine x_gen (fun v8 ev8 => ?_)
        have qv8 : (0 : Int) ≤ v8 ∧ v8 ≤ (10 : Int) := by
          rw [ev8]
          exact hHy1.rA (k := 7) (n := 120) (p := (0, 10)) (nlt rfl) rfl (by decide +kernel) (by omega)
        have rwv8 : v8 = X.1 7 (((10 * n) + 1) + k).toNat := by rw [ev8, eYy1, upI_nc (by decide)]
        refine x_goto (tgt := 65) C dX12_rule_60 (by decide) ?_
        exact x_iret C hQ dX12_rule_65 (⟨hHy1, hFy1, _, rfl, ⟨by omega, by omega⟩, .inr ⟨by omega, by omega, by first | exact .inl ⟨by omega, by omega⟩ | exact .inr (.inr ⟨by omega, by omega, by omega⟩) | exact .inr (.inl ⟨by omega, by omega, by omega⟩)⟩⟩)
    · refine x_iload_n (i := 3) C dX12_rule_32 rfl rfl ?_
      refine x_goto (tgt := 65) C dX12_rule_33 (by decide) ?_
      exact x_iret C hQ dX12_rule_65 (⟨hHy1, hFy1, _, rfl, ⟨by omega, by omega⟩, .inr ⟨by omega, by omega, by first | exact .inl ⟨by omega, by omega⟩ | exact .inr (.inr ⟨by omega, by omega, by omega⟩) | exact .inr (.inl ⟨by omega, by omega, by omega⟩)⟩⟩)
  · refine x_bipush C dX12_rule_14 (by decide) ?_
    exact x_iret C hQ dX12_rule_16 (⟨hHy1, hFy1, _, rfl, ⟨by omega, by omega⟩, .inl ⟨by omega, by omega⟩⟩)
