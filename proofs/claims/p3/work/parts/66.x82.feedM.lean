/-! ===== the reference: feed ===== -/
theorem dX12_four_0 : decode cX12_four 0 = .ok (.bipush 24, 2) := by decide +kernel
theorem dX12_four_2 : decode cX12_four 2 = .ok (.istore_n 2, 1) := by decide +kernel
theorem dX12_four_3 : decode cX12_four 3 = .ok (.iload_n 2, 1) := by decide +kernel
theorem dX12_four_4 : decode cX12_four 4 = .ok (.ifCond .lt 34, 3) := by decide +kernel
theorem dX12_four_7 : decode cX12_four 7 = .ok (.aload_n 0, 1) := by decide +kernel
theorem dX12_four_8 : decode cX12_four 8 = .ok (.getfield 7, 3) := by decide +kernel
theorem dX12_four_11 : decode cX12_four 11 = .ok (.aload_n 0, 1) := by decide +kernel
theorem dX12_four_12 : decode cX12_four 12 = .ok (.getfield 13, 3) := by decide +kernel
theorem dX12_four_15 : decode cX12_four 15 = .ok (.iconst 0, 1) := by decide +kernel
theorem dX12_four_16 : decode cX12_four 16 = .ok (.iaload, 1) := by decide +kernel
theorem dX12_four_17 : decode cX12_four 17 = .ok (.iload_n 1, 1) := by decide +kernel
theorem dX12_four_18 : decode cX12_four 18 = .ok (.iload_n 2, 1) := by decide +kernel
theorem dX12_four_19 : decode cX12_four 19 = .ok (.ishr, 1) := by decide +kernel
theorem dX12_four_20 : decode cX12_four 20 = .ok (.i2b, 1) := by decide +kernel
theorem dX12_four_21 : decode cX12_four 21 = .ok (.bastore, 1) := by decide +kernel
theorem dX12_four_22 : decode cX12_four 22 = .ok (.aload_n 0, 1) := by decide +kernel
theorem dX12_four_23 : decode cX12_four 23 = .ok (.getfield 13, 3) := by decide +kernel
theorem dX12_four_26 : decode cX12_four 26 = .ok (.iconst 0, 1) := by decide +kernel
theorem dX12_four_27 : decode cX12_four 27 = .ok (.dup2, 1) := by decide +kernel
theorem dX12_four_28 : decode cX12_four 28 = .ok (.iaload, 1) := by decide +kernel
theorem dX12_four_29 : decode cX12_four 29 = .ok (.iconst 1, 1) := by decide +kernel
theorem dX12_four_30 : decode cX12_four 30 = .ok (.iadd, 1) := by decide +kernel
theorem dX12_four_31 : decode cX12_four 31 = .ok (.iastore, 1) := by decide +kernel
theorem dX12_four_32 : decode cX12_four 32 = .ok (.iinc 2 (-8), 3) := by decide +kernel
theorem dX12_four_35 : decode cX12_four 35 = .ok (.goto (-32), 3) := by decide +kernel
theorem dX12_four_38 : decode cX12_four 38 = .ok (.return_, 1) := by decide +kernel
theorem dX12_feed_0 : decode cX12_feed 0 = .ok (.aload_n 0, 1) := by decide +kernel
theorem dX12_feed_1 : decode cX12_feed 1 = .ok (.iconst 0, 1) := by decide +kernel
theorem dX12_feed_2 : decode cX12_feed 2 = .ok (.putfield 157, 3) := by decide +kernel
theorem dX12_feed_5 : decode cX12_feed 5 = .ok (.aload_n 0, 1) := by decide +kernel
theorem dX12_feed_6 : decode cX12_feed 6 = .ok (.getfield 13, 3) := by decide +kernel
theorem dX12_feed_9 : decode cX12_feed 9 = .ok (.iconst 0, 1) := by decide +kernel
theorem dX12_feed_10 : decode cX12_feed 10 = .ok (.iaload, 1) := by decide +kernel
theorem dX12_feed_11 : decode cX12_feed 11 = .ok (.bipush 20, 2) := by decide +kernel
theorem dX12_feed_13 : decode cX12_feed 13 = .ok (.iadd, 1) := by decide +kernel
theorem dX12_feed_14 : decode cX12_feed 14 = .ok (.sipush 600, 3) := by decide +kernel
theorem dX12_feed_17 : decode cX12_feed 17 = .ok (.if_icmp .le 5, 3) := by decide +kernel
theorem dX12_feed_20 : decode cX12_feed 20 = .ok (.iconst (-1), 1) := by decide +kernel
theorem dX12_feed_21 : decode cX12_feed 21 = .ok (.ireturn, 1) := by decide +kernel
theorem dX12_feed_22 : decode cX12_feed 22 = .ok (.aload_n 0, 1) := by decide +kernel
theorem dX12_feed_23 : decode cX12_feed 23 = .ok (.iload_n 1, 1) := by decide +kernel
theorem dX12_feed_24 : decode cX12_feed 24 = .ok (.invokevirtual 169, 3) := by decide +kernel
theorem dX12_feed_27 : decode cX12_feed 27 = .ok (.aload_n 0, 1) := by decide +kernel
theorem dX12_feed_28 : decode cX12_feed 28 = .ok (.iload_n 2, 1) := by decide +kernel
theorem dX12_feed_29 : decode cX12_feed 29 = .ok (.invokevirtual 169, 3) := by decide +kernel
theorem dX12_feed_32 : decode cX12_feed 32 = .ok (.aload_n 0, 1) := by decide +kernel
theorem dX12_feed_33 : decode cX12_feed 33 = .ok (.iload_n 3, 1) := by decide +kernel
theorem dX12_feed_34 : decode cX12_feed 34 = .ok (.invokevirtual 169, 3) := by decide +kernel
theorem dX12_feed_37 : decode cX12_feed 37 = .ok (.aload_n 0, 1) := by decide +kernel
theorem dX12_feed_38 : decode cX12_feed 38 = .ok (.iload 4, 2) := by decide +kernel
theorem dX12_feed_40 : decode cX12_feed 40 = .ok (.invokevirtual 169, 3) := by decide +kernel
theorem dX12_feed_43 : decode cX12_feed 43 = .ok (.aload_n 0, 1) := by decide +kernel
theorem dX12_feed_44 : decode cX12_feed 44 = .ok (.iload 5, 2) := by decide +kernel
theorem dX12_feed_46 : decode cX12_feed 46 = .ok (.invokevirtual 169, 3) := by decide +kernel
theorem dX12_feed_49 : decode cX12_feed 49 = .ok (.aload_n 0, 1) := by decide +kernel
theorem dX12_feed_50 : decode cX12_feed 50 = .ok (.getfield 13, 3) := by decide +kernel
theorem dX12_feed_53 : decode cX12_feed 53 = .ok (.iconst 0, 1) := by decide +kernel
theorem dX12_feed_54 : decode cX12_feed 54 = .ok (.iaload, 1) := by decide +kernel
theorem dX12_feed_55 : decode cX12_feed 55 = .ok (.ireturn, 1) := by decide +kernel

abbrev mmPT : List (Nat × Option Nat) := [(2, some 0), (1, none)]
set_option maxHeartbeats 4000000 in
set_option maxRecDepth 100000 in
theorem r_four {D : va_G} {ad : Nat → Nat} {cA : Nat → ClassId} {X0 : XT} {l : Nat} {n : Int} (nn : inR n) (hl : X0.1 2 0 = (l : Int)) (l6 : l ≤ 596) (hH : HG vM X0) (hF : FR mmPT X0 X0) : MetX (wM D ad cA) yX12_four cX12_four 3 none 0 0 [.ref 0, .int (iI (n))] X0 (fun r X1 => r = none ∧ HG vM X1 ∧ FR mmPT X0 X1 ∧ X1.1 2 0 = (l : Int) + 4 ∧ (∀ t : Nat, t < 4 → X1.1 1 (l + t) % 256 = byF n t) ∧ ∀ i : Nat, (i < l ∨ l + 4 ≤ i) → X1.1 1 i = X0.1 1 i) := by
  unfold inR at nn
  refine MetX.mk (own := RX12) (by decide +kernel) rfl (nle rfl) (fun E C hQ => ?_)
  refine Wx_lv (lv' := [(0, .ref 0), (1, .int (iI (n)))]) rfl ?_
  refine x_bipush C dX12_four_0 (by decide) ?_
  refine x_istore_n (i := 2) (lv' := [(2, .int (iI (24))), (0, .ref 0), (1, .int (iI (n)))]) C dX12_four_2 rfl (nlt rfl) rfl ?_
  refine x_iload_n (i := 2) C dX12_four_3 rfl rfl ?_
  refine x_if_lt (tgt := 38) C dX12_four_4 (by decide) ⟨by omega, by omega⟩ (fun h1 => by exfalso; omega) (fun h1 => ?_)
  refine x_aload_n (i := 0) C dX12_four_7 rfl rfl ?_
  refine x_getRs (r := 1) C fkM_X12_7 (nlt rfl) rfl (HG.rR hH (k := 0) (i := 1) rfl rfl) dX12_four_8 ?_
  refine x_aload_n (i := 0) C dX12_four_11 rfl rfl ?_
  refine x_getRs (r := 2) C fkM_X12_13 (nlt rfl) rfl (HG.rR hH (k := 0) (i := 2) rfl rfl) dX12_four_12 ?_
  refine x_iconst C dX12_four_15 ?_
  refine x_iald C (nlt rfl) rfl rfl (nle rfl) (by omega) (by omega) dX12_four_16 ?_
  refine x_gen (fun v2 ev2 => ?_)
  replace ev2 : v2 = X0.1 2 0 := ev2
  have qv2 : (0 : Int) ≤ v2 ∧ v2 ≤ (600 : Int) := by
    rw [ev2]
    exact hH.rF (k := 2) (i := 0) (p := (0, 600)) rfl rfl
  have lv2 : v2 = (l : Int) + 0 := by rw [ev2]; omega
  refine x_iload_n (i := 1) C dX12_four_17 rfl rfl ?_
  refine x_iload_n (i := 2) C dX12_four_18 rfl rfl ?_
  refine x_ishr C dX12_four_19 ?_
  refine x_topi (fun v3 rv3 ev3 => ?_)
  unfold inR at rv3
  refine x_i2b C dX12_four_20 ?_
  refine x_topi (fun v4 rv4 ev4 => ?_)
  unfold inR at rv4
  have bv4 := i2b_bd rv4 ev4
  refine x_bast C (nlt rfl) rfl rfl (nle rfl) (by omega) (by omega) ⟨by omega, by omega⟩ dX12_four_21 ?_
  have w0 : v4 % 256 = byF n 0 := rb_0 ⟨by omega, by omega⟩ ⟨by omega, by omega⟩ ⟨by omega, by omega⟩ ev3 ev4
  refine x_gX (fun Yy5 eYy5 => ?_)
  have hHy5 : HG vM Yy5 := by
    rw [eYy5]
    exact hg_wA hH (n := 2400) (p := ((-128), 127)) (by decide +kernel) (by omega) ⟨by omega, by omega⟩
  have hFy5 : FR mmPT X0 Yy5 := by
    rw [eYy5]
    exact FR.upI hF (rfl)
  rw [show (v2).toNat = l + 0 by omega] at eYy5
  refine x_aload_n (i := 0) C dX12_four_22 rfl rfl ?_
  refine x_getRs (r := 2) C fkM_X12_13 (nlt rfl) rfl (HG.rR hHy5 (k := 0) (i := 2) rfl rfl) dX12_four_23 ?_
  refine x_iconst C dX12_four_26 ?_
  refine x_dup2_11 C dX12_four_27 rfl rfl ?_
  refine x_iald C (nlt rfl) rfl rfl (nle rfl) (by omega) (by omega) dX12_four_28 ?_
  refine x_gen (fun v6 ev6 => ?_)
  replace ev6 : v6 = Yy5.1 2 0 := ev6
  have qv6 : (0 : Int) ≤ v6 ∧ v6 ≤ (600 : Int) := by
    rw [ev6]
    exact hHy5.rF (k := 2) (i := 0) (p := (0, 600)) rfl rfl
  have lv6 : v6 = (l : Int) + 0 := by rw [ev6, eYy5, upI_nc (by decide)]; omega
  refine x_iconst C dX12_four_29 ?_
  refine x_iadd C dX12_four_30 ?_
  refine x_iast C (nlt rfl) rfl rfl (nle rfl) (by omega) (by omega) dX12_four_31 ?_
  refine x_gX (fun Yy7 eYy7 => ?_)
  have hHy7 : HG vM Yy7 := by
    rw [eYy7]
    exact hg_wF hHy5 (p := (0, 600)) rfl ⟨by omega, by omega⟩
  have hFy7 : FR mmPT X0 Yy7 := by
    rw [eYy7]
    exact FR.upI hFy5 (rfl)
  replace eYy7 : Yy7 = upI Yy5 2 0 (v6 + 1) := eYy7
  refine x_iinc (lv' := [(2, .int (iI (24 + (-8)))), (0, .ref 0), (1, .int (iI (n)))]) C dX12_four_32 rfl (nlt rfl) rfl ?_
  refine Wx_lv (lv' := [(2, .int (iI (16))), (0, .ref 0), (1, .int (iI (n)))]) rfl ?_
  refine x_goto (tgt := 3) C dX12_four_35 (by decide) ?_
  refine x_iload_n (i := 2) C dX12_four_3 rfl rfl ?_
  refine x_if_lt (tgt := 38) C dX12_four_4 (by decide) ⟨by omega, by omega⟩ (fun h8 => by exfalso; omega) (fun h8 => ?_)
  refine x_aload_n (i := 0) C dX12_four_7 rfl rfl ?_
  refine x_getRs (r := 1) C fkM_X12_7 (nlt rfl) rfl (HG.rR hHy7 (k := 0) (i := 1) rfl rfl) dX12_four_8 ?_
  refine x_aload_n (i := 0) C dX12_four_11 rfl rfl ?_
  refine x_getRs (r := 2) C fkM_X12_13 (nlt rfl) rfl (HG.rR hHy7 (k := 0) (i := 2) rfl rfl) dX12_four_12 ?_
  refine x_iconst C dX12_four_15 ?_
  refine x_iald C (nlt rfl) rfl rfl (nle rfl) (by omega) (by omega) dX12_four_16 ?_
  refine x_gen (fun v9 ev9 => ?_)
  replace ev9 : v9 = Yy7.1 2 0 := ev9
  have qv9 : (0 : Int) ≤ v9 ∧ v9 ≤ (600 : Int) := by
    rw [ev9]
    exact hHy7.rF (k := 2) (i := 0) (p := (0, 600)) rfl rfl
  have lv9 : v9 = (l : Int) + 1 := by rw [ev9, eYy7, upI_at]; omega
  refine x_iload_n (i := 1) C dX12_four_17 rfl rfl ?_
  refine x_iload_n (i := 2) C dX12_four_18 rfl rfl ?_
  refine x_ishr C dX12_four_19 ?_
  refine x_topi (fun v10 rv10 ev10 => ?_)
  unfold inR at rv10
  refine x_i2b C dX12_four_20 ?_
  refine x_topi (fun v11 rv11 ev11 => ?_)
  unfold inR at rv11
  have bv11 := i2b_bd rv11 ev11
  refine x_bast C (nlt rfl) rfl rfl (nle rfl) (by omega) (by omega) ⟨by omega, by omega⟩ dX12_four_21 ?_
  have w1 : v11 % 256 = byF n 1 := rb_1 ⟨by omega, by omega⟩ ⟨by omega, by omega⟩ ⟨by omega, by omega⟩ ev10 ev11
  refine x_gX (fun Yy12 eYy12 => ?_)
  have hHy12 : HG vM Yy12 := by
    rw [eYy12]
    exact hg_wA hHy7 (n := 2400) (p := ((-128), 127)) (by decide +kernel) (by omega) ⟨by omega, by omega⟩
  have hFy12 : FR mmPT X0 Yy12 := by
    rw [eYy12]
    exact FR.upI hFy7 (rfl)
  rw [show (v9).toNat = l + 1 by omega] at eYy12
  refine x_aload_n (i := 0) C dX12_four_22 rfl rfl ?_
  refine x_getRs (r := 2) C fkM_X12_13 (nlt rfl) rfl (HG.rR hHy12 (k := 0) (i := 2) rfl rfl) dX12_four_23 ?_
  refine x_iconst C dX12_four_26 ?_
  refine x_dup2_11 C dX12_four_27 rfl rfl ?_
  refine x_iald C (nlt rfl) rfl rfl (nle rfl) (by omega) (by omega) dX12_four_28 ?_
  refine x_gen (fun v13 ev13 => ?_)
  replace ev13 : v13 = Yy12.1 2 0 := ev13
  have qv13 : (0 : Int) ≤ v13 ∧ v13 ≤ (600 : Int) := by
    rw [ev13]
    exact hHy12.rF (k := 2) (i := 0) (p := (0, 600)) rfl rfl
  have lv13 : v13 = (l : Int) + 1 := by rw [ev13, eYy12, upI_nc (by decide), eYy7, upI_at]; omega
  refine x_iconst C dX12_four_29 ?_
  refine x_iadd C dX12_four_30 ?_
  refine x_iast C (nlt rfl) rfl rfl (nle rfl) (by omega) (by omega) dX12_four_31 ?_
  refine x_gX (fun Yy14 eYy14 => ?_)
  have hHy14 : HG vM Yy14 := by
    rw [eYy14]
    exact hg_wF hHy12 (p := (0, 600)) rfl ⟨by omega, by omega⟩
  have hFy14 : FR mmPT X0 Yy14 := by
    rw [eYy14]
    exact FR.upI hFy12 (rfl)
  replace eYy14 : Yy14 = upI Yy12 2 0 (v13 + 1) := eYy14
  refine x_iinc (lv' := [(2, .int (iI (16 + (-8)))), (0, .ref 0), (1, .int (iI (n)))]) C dX12_four_32 rfl (nlt rfl) rfl ?_
  refine Wx_lv (lv' := [(2, .int (iI (8))), (0, .ref 0), (1, .int (iI (n)))]) rfl ?_
  refine x_goto (tgt := 3) C dX12_four_35 (by decide) ?_
  refine x_iload_n (i := 2) C dX12_four_3 rfl rfl ?_
  refine x_if_lt (tgt := 38) C dX12_four_4 (by decide) ⟨by omega, by omega⟩ (fun h15 => by exfalso; omega) (fun h15 => ?_)
  refine x_aload_n (i := 0) C dX12_four_7 rfl rfl ?_
  refine x_getRs (r := 1) C fkM_X12_7 (nlt rfl) rfl (HG.rR hHy14 (k := 0) (i := 1) rfl rfl) dX12_four_8 ?_
  refine x_aload_n (i := 0) C dX12_four_11 rfl rfl ?_
  refine x_getRs (r := 2) C fkM_X12_13 (nlt rfl) rfl (HG.rR hHy14 (k := 0) (i := 2) rfl rfl) dX12_four_12 ?_
  refine x_iconst C dX12_four_15 ?_
  refine x_iald C (nlt rfl) rfl rfl (nle rfl) (by omega) (by omega) dX12_four_16 ?_
  refine x_gen (fun v16 ev16 => ?_)
  replace ev16 : v16 = Yy14.1 2 0 := ev16
  have qv16 : (0 : Int) ≤ v16 ∧ v16 ≤ (600 : Int) := by
    rw [ev16]
    exact hHy14.rF (k := 2) (i := 0) (p := (0, 600)) rfl rfl
  have lv16 : v16 = (l : Int) + 2 := by rw [ev16, eYy14, upI_at]; omega
  refine x_iload_n (i := 1) C dX12_four_17 rfl rfl ?_
  refine x_iload_n (i := 2) C dX12_four_18 rfl rfl ?_
  refine x_ishr C dX12_four_19 ?_
  refine x_topi (fun v17 rv17 ev17 => ?_)
  unfold inR at rv17
  refine x_i2b C dX12_four_20 ?_
  refine x_topi (fun v18 rv18 ev18 => ?_)
  unfold inR at rv18
  have bv18 := i2b_bd rv18 ev18
  refine x_bast C (nlt rfl) rfl rfl (nle rfl) (by omega) (by omega) ⟨by omega, by omega⟩ dX12_four_21 ?_
  have w2 : v18 % 256 = byF n 2 := rb_2 ⟨by omega, by omega⟩ ⟨by omega, by omega⟩ ⟨by omega, by omega⟩ ev17 ev18
  refine x_gX (fun Yy19 eYy19 => ?_)
  have hHy19 : HG vM Yy19 := by
    rw [eYy19]
    exact hg_wA hHy14 (n := 2400) (p := ((-128), 127)) (by decide +kernel) (by omega) ⟨by omega, by omega⟩
  have hFy19 : FR mmPT X0 Yy19 := by
    rw [eYy19]
    exact FR.upI hFy14 (rfl)
  rw [show (v16).toNat = l + 2 by omega] at eYy19
  refine x_aload_n (i := 0) C dX12_four_22 rfl rfl ?_
  refine x_getRs (r := 2) C fkM_X12_13 (nlt rfl) rfl (HG.rR hHy19 (k := 0) (i := 2) rfl rfl) dX12_four_23 ?_
  refine x_iconst C dX12_four_26 ?_
  refine x_dup2_11 C dX12_four_27 rfl rfl ?_
  refine x_iald C (nlt rfl) rfl rfl (nle rfl) (by omega) (by omega) dX12_four_28 ?_
  refine x_gen (fun v20 ev20 => ?_)
  replace ev20 : v20 = Yy19.1 2 0 := ev20
  have qv20 : (0 : Int) ≤ v20 ∧ v20 ≤ (600 : Int) := by
    rw [ev20]
    exact hHy19.rF (k := 2) (i := 0) (p := (0, 600)) rfl rfl
  have lv20 : v20 = (l : Int) + 2 := by rw [ev20, eYy19, upI_nc (by decide), eYy14, upI_at]; omega
  refine x_iconst C dX12_four_29 ?_
  refine x_iadd C dX12_four_30 ?_
  refine x_iast C (nlt rfl) rfl rfl (nle rfl) (by omega) (by omega) dX12_four_31 ?_
  refine x_gX (fun Yy21 eYy21 => ?_)
  have hHy21 : HG vM Yy21 := by
    rw [eYy21]
    exact hg_wF hHy19 (p := (0, 600)) rfl ⟨by omega, by omega⟩
  have hFy21 : FR mmPT X0 Yy21 := by
    rw [eYy21]
    exact FR.upI hFy19 (rfl)
  replace eYy21 : Yy21 = upI Yy19 2 0 (v20 + 1) := eYy21
  refine x_iinc (lv' := [(2, .int (iI (8 + (-8)))), (0, .ref 0), (1, .int (iI (n)))]) C dX12_four_32 rfl (nlt rfl) rfl ?_
  refine Wx_lv (lv' := [(2, .int (iI (0))), (0, .ref 0), (1, .int (iI (n)))]) rfl ?_
  refine x_goto (tgt := 3) C dX12_four_35 (by decide) ?_
  refine x_iload_n (i := 2) C dX12_four_3 rfl rfl ?_
  refine x_if_lt (tgt := 38) C dX12_four_4 (by decide) ⟨by omega, by omega⟩ (fun h22 => by exfalso; omega) (fun h22 => ?_)
  refine x_aload_n (i := 0) C dX12_four_7 rfl rfl ?_
  refine x_getRs (r := 1) C fkM_X12_7 (nlt rfl) rfl (HG.rR hHy21 (k := 0) (i := 1) rfl rfl) dX12_four_8 ?_
  refine x_aload_n (i := 0) C dX12_four_11 rfl rfl ?_
  refine x_getRs (r := 2) C fkM_X12_13 (nlt rfl) rfl (HG.rR hHy21 (k := 0) (i := 2) rfl rfl) dX12_four_12 ?_
  refine x_iconst C dX12_four_15 ?_
  refine x_iald C (nlt rfl) rfl rfl (nle rfl) (by omega) (by omega) dX12_four_16 ?_
  refine x_gen (fun v23 ev23 => ?_)
  replace ev23 : v23 = Yy21.1 2 0 := ev23
  have qv23 : (0 : Int) ≤ v23 ∧ v23 ≤ (600 : Int) := by
    rw [ev23]
    exact hHy21.rF (k := 2) (i := 0) (p := (0, 600)) rfl rfl
  have lv23 : v23 = (l : Int) + 3 := by rw [ev23, eYy21, upI_at]; omega
  refine x_iload_n (i := 1) C dX12_four_17 rfl rfl ?_
  refine x_iload_n (i := 2) C dX12_four_18 rfl rfl ?_
  refine x_ishr C dX12_four_19 ?_
  refine x_topi (fun v24 rv24 ev24 => ?_)
  unfold inR at rv24
  refine x_i2b C dX12_four_20 ?_
  refine x_topi (fun v25 rv25 ev25 => ?_)
  unfold inR at rv25
  have bv25 := i2b_bd rv25 ev25
  refine x_bast C (nlt rfl) rfl rfl (nle rfl) (by omega) (by omega) ⟨by omega, by omega⟩ dX12_four_21 ?_
  have w3 : v25 % 256 = byF n 3 := rb_3 ⟨by omega, by omega⟩ ⟨by omega, by omega⟩ ⟨by omega, by omega⟩ ev24 ev25
  refine x_gX (fun Yy26 eYy26 => ?_)
  have hHy26 : HG vM Yy26 := by
    rw [eYy26]
    exact hg_wA hHy21 (n := 2400) (p := ((-128), 127)) (by decide +kernel) (by omega) ⟨by omega, by omega⟩
  have hFy26 : FR mmPT X0 Yy26 := by
    rw [eYy26]
    exact FR.upI hFy21 (rfl)
  rw [show (v23).toNat = l + 3 by omega] at eYy26
  refine x_aload_n (i := 0) C dX12_four_22 rfl rfl ?_
  refine x_getRs (r := 2) C fkM_X12_13 (nlt rfl) rfl (HG.rR hHy26 (k := 0) (i := 2) rfl rfl) dX12_four_23 ?_
  refine x_iconst C dX12_four_26 ?_
  refine x_dup2_11 C dX12_four_27 rfl rfl ?_
  refine x_iald C (nlt rfl) rfl rfl (nle rfl) (by omega) (by omega) dX12_four_28 ?_
  refine x_gen (fun v27 ev27 => ?_)
  replace ev27 : v27 = Yy26.1 2 0 := ev27
  have qv27 : (0 : Int) ≤ v27 ∧ v27 ≤ (600 : Int) := by
    rw [ev27]
    exact hHy26.rF (k := 2) (i := 0) (p := (0, 600)) rfl rfl
  have lv27 : v27 = (l : Int) + 3 := by rw [ev27, eYy26, upI_nc (by decide), eYy21, upI_at]; omega
  refine x_iconst C dX12_four_29 ?_
  refine x_iadd C dX12_four_30 ?_
  refine x_iast C (nlt rfl) rfl rfl (nle rfl) (by omega) (by omega) dX12_four_31 ?_
  refine x_gX (fun Yy28 eYy28 => ?_)
  have hHy28 : HG vM Yy28 := by
    rw [eYy28]
    exact hg_wF hHy26 (p := (0, 600)) rfl ⟨by omega, by omega⟩
  have hFy28 : FR mmPT X0 Yy28 := by
    rw [eYy28]
    exact FR.upI hFy26 (rfl)
  replace eYy28 : Yy28 = upI Yy26 2 0 (v27 + 1) := eYy28
  refine x_iinc (lv' := [(2, .int (iI (0 + (-8)))), (0, .ref 0), (1, .int (iI (n)))]) C dX12_four_32 rfl (nlt rfl) rfl ?_
  refine Wx_lv (lv' := [(2, .int (iI ((-8)))), (0, .ref 0), (1, .int (iI (n)))]) rfl ?_
  refine x_goto (tgt := 3) C dX12_four_35 (by decide) ?_
  refine x_iload_n (i := 2) C dX12_four_3 rfl rfl ?_
  refine x_if_lt (tgt := 38) C dX12_four_4 (by decide) ⟨by omega, by omega⟩ (fun h29 => ?_) (fun h29 => by exfalso; omega)
  exact x_vret C hQ dX12_four_38 (⟨rfl, hHy28, hFy28, by rw [eYy28, upI_at]; omega, (fun t ht => by rcases (show t = 0 ∨ t = 1 ∨ t = 2 ∨ t = 3 by omega) with rfl | rfl | rfl | rfl; (rw [eYy28, upI_nc (by decide), eYy26, upI_ne (by omega), eYy21, upI_nc (by decide), eYy19, upI_ne (by omega), eYy14, upI_nc (by decide), eYy12, upI_ne (by omega), eYy7, upI_nc (by decide), eYy5, upI_at]; exact w0); (rw [eYy28, upI_nc (by decide), eYy26, upI_ne (by omega), eYy21, upI_nc (by decide), eYy19, upI_ne (by omega), eYy14, upI_nc (by decide), eYy12, upI_at]; exact w1); (rw [eYy28, upI_nc (by decide), eYy26, upI_ne (by omega), eYy21, upI_nc (by decide), eYy19, upI_at]; exact w2); (rw [eYy28, upI_nc (by decide), eYy26, upI_at]; exact w3)), fun i hi => by rw [eYy28, upI_nc (by decide), eYy26, upI_ne (by omega), eYy21, upI_nc (by decide), eYy19, upI_ne (by omega), eYy14, upI_nc (by decide), eYy12, upI_ne (by omega), eYy7, upI_nc (by decide), eYy5, upI_ne (by omega)]⟩)
abbrev mmPT2 : List (Nat × Option Nat) := [(0, some 0), (2, some 0), (1, none)]
set_option maxHeartbeats 4000000 in
set_option maxRecDepth 100000 in
theorem r_feed {D : va_G} {ad : Nat → Nat} {cA : Nat → ClassId} {X0 : XT} {l : Nat} {z1 z2 z3 z4 z5 : Int} (n1 : inR z1) (n2 : inR z2) (n3 : inR z3) (n4 : inR z4) (n5 : inR z5) (hl : X0.1 2 0 = (l : Int)) (hH : HG vM X0) (hF : FR mmPT2 X0 X0) : MetX (wM D ad cA) yX12_feed cX12_feed 6 (some .int) 1 22 [.ref 0, .int (iI (z1)), .int (iI (z2)), .int (iI (z3)), .int (iI (z4)), .int (iI (z5))] X0 (fun r X1 => (∃ u : Int, r = some (.int (iI u)) ∧ inR u ∧ ((581 ≤ X0.1 2 0 ∧ u = -1 ∧ X1.1 2 0 = X0.1 2 0 ∧ ∀ i : Nat, X1.1 1 i = X0.1 1 i) ∨ ((l : Int) ≤ 580 ∧ u = (l : Int) + 20 ∧ X1.1 2 0 = (l : Int) + 20 ∧ (∀ i : Nat, i < l ∨ 600 ≤ i → X1.1 1 i = X0.1 1 i) ∧ (∀ t : Nat, t < 4 → X1.1 1 (l + 0 + t) % 256 = byF z1 t) ∧ (∀ t : Nat, t < 4 → X1.1 1 (l + 4 + t) % 256 = byF z2 t) ∧ (∀ t : Nat, t < 4 → X1.1 1 (l + 8 + t) % 256 = byF z3 t) ∧ (∀ t : Nat, t < 4 → X1.1 1 (l + 12 + t) % 256 = byF z4 t) ∧ (∀ t : Nat, t < 4 → X1.1 1 (l + 16 + t) % 256 = byF z5 t)))) ∧ HG vM X1 ∧ FR mmPT2 X0 X1) := by
  unfold inR at n1 n2 n3 n4 n5
  refine MetX.mk (own := RX12) (by decide +kernel) rfl (nle rfl) (fun E C hQ => ?_)
  refine Wx_lv (lv' := [(0, .ref 0), (1, .int (iI (z1))), (2, .int (iI (z2))), (3, .int (iI (z3))), (4, .int (iI (z4))), (5, .int (iI (z5)))]) rfl ?_
  refine x_aload_n (i := 0) C dX12_feed_0 rfl rfl ?_
  refine x_iconst C dX12_feed_1 ?_
  refine x_putI C pkM_X12_157 (nlt rfl) rfl dX12_feed_2 ?_
  refine x_gX (fun Yy1 eYy1 => ?_)
  have hHy1 : HG vM Yy1 := by
    rw [eYy1]
    exact hg_wF hH (p := ((-2147483648), 2147483647)) rfl ⟨by omega, by omega⟩
  have hFy1 : FR mmPT2 X0 Yy1 := by
    rw [eYy1]
    exact FR.upI hF (rfl)
  refine x_aload_n (i := 0) C dX12_feed_5 rfl rfl ?_
  refine x_getRs (r := 2) C fkM_X12_13 (nlt rfl) rfl (HG.rR hHy1 (k := 0) (i := 2) rfl rfl) dX12_feed_6 ?_
  refine x_iconst C dX12_feed_9 ?_
  refine x_iald C (nlt rfl) rfl rfl (nle rfl) (by omega) (by omega) dX12_feed_10 ?_
  refine x_gen (fun v2 ev2 => ?_)
  replace ev2 : v2 = Yy1.1 2 0 := ev2
  have qv2 : (0 : Int) ≤ v2 ∧ v2 ≤ (600 : Int) := by
    rw [ev2]
    exact hHy1.rF (k := 2) (i := 0) (p := (0, 600)) rfl rfl
  have lv2 : v2 = (l : Int) := by rw [ev2, eYy1, upI_nc (by decide)]; exact hl
  refine x_bipush C dX12_feed_11 (by decide) ?_
  refine x_iadd C dX12_feed_13 ?_
  refine x_sipush C dX12_feed_14 (by decide) ?_
  refine x_icmp_le (tgt := 22) C dX12_feed_17 (by decide) ⟨by omega, by omega⟩ ⟨by omega, by omega⟩ (fun h3 => ?_) (fun h3 => ?_)
  · refine x_aload_n (i := 0) C dX12_feed_22 rfl rfl ?_
    refine x_iload_n (i := 1) C dX12_feed_23 rfl rfl ?_
    refine x_callV (As := [.int (iI (z1))]) C (by exact (r_four (l := l + 0) (n := z1) ⟨by omega, by omega⟩ (by rw [eYy1, upI_nc (by decide)]; omega) (by omega) hHy1 FR.rf)) ckX12_169 im_X12_four se_X12_four (nlt rfl) rfl rfl rfl rfl (nle rfl) (by exact ⟨nle rfl, nle rfl⟩) dX12_feed_24 ?_
    rintro _ Yy4 ⟨rfl, hHy4, hGy4, pl0, pb0, pk0⟩
    have hFy4 : FR mmPT2 X0 Yy4 := FR.tr hFy1 hGy4 (by decide)
    refine Wx_st (st' := []) rfl ?_
    refine x_aload_n (i := 0) C dX12_feed_27 rfl rfl ?_
    refine x_iload_n (i := 2) C dX12_feed_28 rfl rfl ?_
    refine x_callV (As := [.int (iI (z2))]) C (by exact (r_four (l := l + 4) (n := z2) ⟨by omega, by omega⟩ (by omega) (by omega) hHy4 FR.rf)) ckX12_169 im_X12_four se_X12_four (nlt rfl) rfl rfl rfl rfl (nle rfl) (by exact ⟨nle rfl, nle rfl⟩) dX12_feed_29 ?_
    rintro _ Yy5 ⟨rfl, hHy5, hGy5, pl1, pb1, pk1⟩
    have hFy5 : FR mmPT2 X0 Yy5 := FR.tr hFy4 hGy5 (by decide)
    refine Wx_st (st' := []) rfl ?_
    refine x_aload_n (i := 0) C dX12_feed_32 rfl rfl ?_
    refine x_iload_n (i := 3) C dX12_feed_33 rfl rfl ?_
    refine x_callV (As := [.int (iI (z3))]) C (by exact (r_four (l := l + 8) (n := z3) ⟨by omega, by omega⟩ (by omega) (by omega) hHy5 FR.rf)) ckX12_169 im_X12_four se_X12_four (nlt rfl) rfl rfl rfl rfl (nle rfl) (by exact ⟨nle rfl, nle rfl⟩) dX12_feed_34 ?_
    rintro _ Yy6 ⟨rfl, hHy6, hGy6, pl2, pb2, pk2⟩
    have hFy6 : FR mmPT2 X0 Yy6 := FR.tr hFy5 hGy6 (by decide)
    refine Wx_st (st' := []) rfl ?_
    refine x_aload_n (i := 0) C dX12_feed_37 rfl rfl ?_
    refine x_iload C dX12_feed_38 rfl ?_
    refine x_callV (As := [.int (iI (z4))]) C (by exact (r_four (l := l + 12) (n := z4) ⟨by omega, by omega⟩ (by omega) (by omega) hHy6 FR.rf)) ckX12_169 im_X12_four se_X12_four (nlt rfl) rfl rfl rfl rfl (nle rfl) (by exact ⟨nle rfl, nle rfl⟩) dX12_feed_40 ?_
    rintro _ Yy7 ⟨rfl, hHy7, hGy7, pl3, pb3, pk3⟩
    have hFy7 : FR mmPT2 X0 Yy7 := FR.tr hFy6 hGy7 (by decide)
    refine Wx_st (st' := []) rfl ?_
    refine x_aload_n (i := 0) C dX12_feed_43 rfl rfl ?_
    refine x_iload C dX12_feed_44 rfl ?_
    refine x_callV (As := [.int (iI (z5))]) C (by exact (r_four (l := l + 16) (n := z5) ⟨by omega, by omega⟩ (by omega) (by omega) hHy7 FR.rf)) ckX12_169 im_X12_four se_X12_four (nlt rfl) rfl rfl rfl rfl (nle rfl) (by exact ⟨nle rfl, nle rfl⟩) dX12_feed_46 ?_
    rintro _ Yy8 ⟨rfl, hHy8, hGy8, pl4, pb4, pk4⟩
    have hFy8 : FR mmPT2 X0 Yy8 := FR.tr hFy7 hGy8 (by decide)
    refine Wx_st (st' := []) rfl ?_
    refine x_aload_n (i := 0) C dX12_feed_49 rfl rfl ?_
    refine x_getRs (r := 2) C fkM_X12_13 (nlt rfl) rfl (HG.rR hHy8 (k := 0) (i := 2) rfl rfl) dX12_feed_50 ?_
    refine x_iconst C dX12_feed_53 ?_
    refine x_iald C (nlt rfl) rfl rfl (nle rfl) (by omega) (by omega) dX12_feed_54 ?_
    refine x_gen (fun v9 ev9 => ?_)
    replace ev9 : v9 = Yy8.1 2 0 := ev9
    have qv9 : (0 : Int) ≤ v9 ∧ v9 ≤ (600 : Int) := by
      rw [ev9]
      exact hHy8.rF (k := 2) (i := 0) (p := (0, 600)) rfl rfl
    exact x_iret C hQ dX12_feed_55 (⟨⟨_, rfl, ⟨by omega, by omega⟩, .inr ⟨by omega, by omega, by omega, fun i hi => by rw [pk4 i (by omega), pk3 i (by omega), pk2 i (by omega), pk1 i (by omega), pk0 i (by omega), eYy1, upI_nc (by decide)], (fun t ht => by rw [pk4 (l + 0 + t) (by omega), pk3 (l + 0 + t) (by omega), pk2 (l + 0 + t) (by omega), pk1 (l + 0 + t) (by omega)]; exact pb0 t ht), (fun t ht => by rw [pk4 (l + 4 + t) (by omega), pk3 (l + 4 + t) (by omega), pk2 (l + 4 + t) (by omega)]; exact pb1 t ht), (fun t ht => by rw [pk4 (l + 8 + t) (by omega), pk3 (l + 8 + t) (by omega)]; exact pb2 t ht), (fun t ht => by rw [pk4 (l + 12 + t) (by omega)]; exact pb3 t ht), (fun t ht => by exact pb4 t ht)⟩⟩, hHy8, hFy8⟩)
  · refine x_iconst C dX12_feed_20 ?_
    exact x_iret C hQ dX12_feed_21 (⟨⟨_, rfl, ⟨by decide, by decide⟩, .inl ⟨by omega, rfl, by rw [eYy1, upI_nc (by decide)], fun i => by rw [eYy1, upI_nc (by decide)]⟩⟩, hHy1, hFy1⟩)
