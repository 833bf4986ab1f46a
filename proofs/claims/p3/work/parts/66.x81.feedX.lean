/-! ===== the class: feed ===== -/
theorem dX8_put_0 : decode cX8_put 0 = .ok (.bipush 24, 2) := by decide +kernel
theorem dX8_put_2 : decode cX8_put 2 = .ok (.istore_n 2, 1) := by decide +kernel
theorem dX8_put_3 : decode cX8_put 3 = .ok (.iload_n 2, 1) := by decide +kernel
theorem dX8_put_4 : decode cX8_put 4 = .ok (.ifCond .lt 45, 3) := by decide +kernel
theorem dX8_put_7 : decode cX8_put 7 = .ok (.aload_n 0, 1) := by decide +kernel
theorem dX8_put_8 : decode cX8_put 8 = .ok (.getfield 40, 3) := by decide +kernel
theorem dX8_put_11 : decode cX8_put 11 = .ok (.sipush 600, 3) := by decide +kernel
theorem dX8_put_14 : decode cX8_put 14 = .ok (.if_icmp .ge 35, 3) := by decide +kernel
theorem dX8_put_17 : decode cX8_put 17 = .ok (.aload_n 0, 1) := by decide +kernel
theorem dX8_put_18 : decode cX8_put 18 = .ok (.getfield 15, 3) := by decide +kernel
theorem dX8_put_21 : decode cX8_put 21 = .ok (.aload_n 0, 1) := by decide +kernel
theorem dX8_put_22 : decode cX8_put 22 = .ok (.getfield 40, 3) := by decide +kernel
theorem dX8_put_25 : decode cX8_put 25 = .ok (.iload_n 1, 1) := by decide +kernel
theorem dX8_put_26 : decode cX8_put 26 = .ok (.iload_n 2, 1) := by decide +kernel
theorem dX8_put_27 : decode cX8_put 27 = .ok (.iushr, 1) := by decide +kernel
theorem dX8_put_28 : decode cX8_put 28 = .ok (.sipush 255, 3) := by decide +kernel
theorem dX8_put_31 : decode cX8_put 31 = .ok (.iand, 1) := by decide +kernel
theorem dX8_put_32 : decode cX8_put 32 = .ok (.iastore, 1) := by decide +kernel
theorem dX8_put_33 : decode cX8_put 33 = .ok (.aload_n 0, 1) := by decide +kernel
theorem dX8_put_34 : decode cX8_put 34 = .ok (.dup, 1) := by decide +kernel
theorem dX8_put_35 : decode cX8_put 35 = .ok (.getfield 40, 3) := by decide +kernel
theorem dX8_put_38 : decode cX8_put 38 = .ok (.iconst 1, 1) := by decide +kernel
theorem dX8_put_39 : decode cX8_put 39 = .ok (.iadd, 1) := by decide +kernel
theorem dX8_put_40 : decode cX8_put 40 = .ok (.putfield 40, 3) := by decide +kernel
theorem dX8_put_43 : decode cX8_put 43 = .ok (.iinc 2 (-8), 3) := by decide +kernel
theorem dX8_put_46 : decode cX8_put 46 = .ok (.goto (-43), 3) := by decide +kernel
theorem dX8_put_49 : decode cX8_put 49 = .ok (.return_, 1) := by decide +kernel
theorem dX11_feed_0 : decode cX11_feed 0 = .ok (.aload_n 0, 1) := by decide +kernel
theorem dX11_feed_1 : decode cX11_feed 1 = .ok (.getfield 10, 3) := by decide +kernel
theorem dX11_feed_4 : decode cX11_feed 4 = .ok (.getfield 57, 3) := by decide +kernel
theorem dX11_feed_7 : decode cX11_feed 7 = .ok (.bipush 20, 2) := by decide +kernel
theorem dX11_feed_9 : decode cX11_feed 9 = .ok (.iadd, 1) := by decide +kernel
theorem dX11_feed_10 : decode cX11_feed 10 = .ok (.sipush 600, 3) := by decide +kernel
theorem dX11_feed_13 : decode cX11_feed 13 = .ok (.if_icmp .le 5, 3) := by decide +kernel
theorem dX11_feed_16 : decode cX11_feed 16 = .ok (.iconst (-1), 1) := by decide +kernel
theorem dX11_feed_17 : decode cX11_feed 17 = .ok (.ireturn, 1) := by decide +kernel
theorem dX11_feed_18 : decode cX11_feed 18 = .ok (.aload_n 0, 1) := by decide +kernel
theorem dX11_feed_19 : decode cX11_feed 19 = .ok (.getfield 10, 3) := by decide +kernel
theorem dX11_feed_22 : decode cX11_feed 22 = .ok (.iload_n 1, 1) := by decide +kernel
theorem dX11_feed_23 : decode cX11_feed 23 = .ok (.invokevirtual 61, 3) := by decide +kernel
theorem dX11_feed_26 : decode cX11_feed 26 = .ok (.aload_n 0, 1) := by decide +kernel
theorem dX11_feed_27 : decode cX11_feed 27 = .ok (.getfield 10, 3) := by decide +kernel
theorem dX11_feed_30 : decode cX11_feed 30 = .ok (.iload_n 2, 1) := by decide +kernel
theorem dX11_feed_31 : decode cX11_feed 31 = .ok (.invokevirtual 61, 3) := by decide +kernel
theorem dX11_feed_34 : decode cX11_feed 34 = .ok (.aload_n 0, 1) := by decide +kernel
theorem dX11_feed_35 : decode cX11_feed 35 = .ok (.getfield 10, 3) := by decide +kernel
theorem dX11_feed_38 : decode cX11_feed 38 = .ok (.iload_n 3, 1) := by decide +kernel
theorem dX11_feed_39 : decode cX11_feed 39 = .ok (.invokevirtual 61, 3) := by decide +kernel
theorem dX11_feed_42 : decode cX11_feed 42 = .ok (.aload_n 0, 1) := by decide +kernel
theorem dX11_feed_43 : decode cX11_feed 43 = .ok (.getfield 10, 3) := by decide +kernel
theorem dX11_feed_46 : decode cX11_feed 46 = .ok (.iload 4, 2) := by decide +kernel
theorem dX11_feed_48 : decode cX11_feed 48 = .ok (.invokevirtual 61, 3) := by decide +kernel
theorem dX11_feed_51 : decode cX11_feed 51 = .ok (.aload_n 0, 1) := by decide +kernel
theorem dX11_feed_52 : decode cX11_feed 52 = .ok (.getfield 10, 3) := by decide +kernel
theorem dX11_feed_55 : decode cX11_feed 55 = .ok (.iload 5, 2) := by decide +kernel
theorem dX11_feed_57 : decode cX11_feed 57 = .ok (.invokevirtual 61, 3) := by decide +kernel
theorem dX11_feed_60 : decode cX11_feed 60 = .ok (.aload_n 0, 1) := by decide +kernel
theorem dX11_feed_61 : decode cX11_feed 61 = .ok (.getfield 10, 3) := by decide +kernel
theorem dX11_feed_64 : decode cX11_feed 64 = .ok (.getfield 57, 3) := by decide +kernel
theorem dX11_feed_67 : decode cX11_feed 67 = .ok (.ireturn, 1) := by decide +kernel

abbrev mdPF : List (Nat × Option Nat) := [(1, some 0), (2, none)]
set_option maxHeartbeats 4000000 in
set_option maxRecDepth 100000 in
theorem c_put {D : va_G} {ad : Nat → Nat} {cA : Nat → ClassId} {X0 : XT} {l : Nat} {n : Int} (nn : inR n) (hl : X0.1 1 0 = (l : Int)) (l6 : l ≤ 596) (hH : HG vX X0) (hF : FR mdPF X0 X0) : MetX (wX D ad cA) yX8_put cX8_put 3 none 0 0 [.ref 1, .int (iI (n))] X0 (fun r X1 => r = none ∧ HG vX X1 ∧ FR mdPF X0 X1 ∧ X1.1 1 0 = (l : Int) + 4 ∧ (∀ t : Nat, t < 4 → X1.1 2 (l + t) = byF n t) ∧ ∀ i : Nat, (i < l ∨ l + 4 ≤ i) → X1.1 2 i = X0.1 2 i) := by
  unfold inR at nn
  refine MetX.mk (own := RX8) (by decide +kernel) rfl (nle rfl) (fun E C hQ => ?_)
  refine Wx_lv (lv' := [(0, .ref 1), (1, .int (iI (n)))]) rfl ?_
  refine x_bipush C dX8_put_0 (by decide) ?_
  refine x_istore_n (i := 2) (lv' := [(2, .int (iI (24))), (0, .ref 1), (1, .int (iI (n)))]) C dX8_put_2 rfl (nlt rfl) rfl ?_
  refine x_iload_n (i := 2) C dX8_put_3 rfl rfl ?_
  refine x_if_lt (tgt := 49) C dX8_put_4 (by decide) ⟨by omega, by omega⟩ (fun h1 => by exfalso; omega) (fun h1 => ?_)
  refine x_aload_n (i := 0) C dX8_put_7 rfl rfl ?_
  refine x_getI C fkX_X8_40 (nlt rfl) rfl dX8_put_8 ?_
  refine x_gen (fun v2 ev2 => ?_)
  have qv2 : (0 : Int) ≤ v2 ∧ v2 ≤ (600 : Int) := by
    rw [ev2]
    exact hH.rF (k := 1) (i := 0) rfl rfl
  have lv2 : v2 = (l : Int) + 0 := by rw [ev2]; omega
  refine x_sipush C dX8_put_11 (by decide) ?_
  refine x_icmp_ge (tgt := 49) C dX8_put_14 (by decide) ⟨by omega, by omega⟩ ⟨by omega, by omega⟩ (fun h3 => by exfalso; omega) (fun h3 => ?_)
  refine x_aload_n (i := 0) C dX8_put_17 rfl rfl ?_
  refine x_getRs (r := 2) C fkX_X8_15 (nlt rfl) rfl (HG.rR hH (k := 1) (i := 3) rfl rfl) dX8_put_18 ?_
  refine x_aload_n (i := 0) C dX8_put_21 rfl rfl ?_
  refine x_getI C fkX_X8_40 (nlt rfl) rfl dX8_put_22 ?_
  refine x_gen (fun v4 ev4 => ?_)
  have qv4 : (0 : Int) ≤ v4 ∧ v4 ≤ (600 : Int) := by
    rw [ev4]
    exact hH.rF (k := 1) (i := 0) rfl rfl
  have lv4 : v4 = (l : Int) + 0 := by rw [ev4]; omega
  refine x_iload_n (i := 1) C dX8_put_25 rfl rfl ?_
  refine x_iload_n (i := 2) C dX8_put_26 rfl rfl ?_
  refine x_iushr C dX8_put_27 ?_
  refine x_topi (fun v5 rv5 ev5 => ?_)
  unfold inR at rv5
  refine x_sipush C dX8_put_28 (by decide) ?_
  refine x_iand C dX8_put_31 ?_
  refine x_topi (fun v6 rv6 ev6 => ?_)
  unfold inR at rv6
  have bv6 := and_bd (m := 255) (by decide) (by decide) rv6 ev6
  refine x_iast C (nlt rfl) rfl rfl (nle rfl) (by omega) (by omega) dX8_put_32 ?_
  have w0 : v6 = byF n 0 := ub_0 ⟨by omega, by omega⟩ ⟨by omega, by omega⟩ ⟨by omega, by omega⟩ ev5 ev6
  refine x_gX (fun Yy7 eYy7 => ?_)
  have hHy7 : HG vX Yy7 := by
    rw [eYy7]
    exact hg_wA hH (n := 600) (p := (0, 255)) (by decide +kernel) (by omega) ⟨by omega, by omega⟩
  have hFy7 : FR mdPF X0 Yy7 := by
    rw [eYy7]
    exact FR.upI hF (rfl)
  rw [show (v4).toNat = l + 0 by omega] at eYy7
  refine x_aload_n (i := 0) C dX8_put_33 rfl rfl ?_
  refine x_dup C dX8_put_34 rfl ?_
  refine x_getI C fkX_X8_40 (nlt rfl) rfl dX8_put_35 ?_
  refine x_gen (fun v8 ev8 => ?_)
  have qv8 : (0 : Int) ≤ v8 ∧ v8 ≤ (600 : Int) := by
    rw [ev8]
    exact hHy7.rF (k := 1) (i := 0) rfl rfl
  have lv8 : v8 = (l : Int) + 0 := by rw [ev8, eYy7, upI_nc (by decide)]; omega
  refine x_iconst C dX8_put_38 ?_
  refine x_iadd C dX8_put_39 ?_
  refine x_putI C pkX_X8_40 (nlt rfl) rfl dX8_put_40 ?_
  refine x_gX (fun Yy9 eYy9 => ?_)
  have hHy9 : HG vX Yy9 := by
    rw [eYy9]
    exact hg_wF hHy7 (p := (0, 600)) rfl ⟨by omega, by omega⟩
  have hFy9 : FR mdPF X0 Yy9 := by
    rw [eYy9]
    exact FR.upI hFy7 (rfl)
  replace eYy9 : Yy9 = upI Yy7 1 0 (v8 + 1) := eYy9
  refine x_iinc (lv' := [(2, .int (iI (24 + (-8)))), (0, .ref 1), (1, .int (iI (n)))]) C dX8_put_43 rfl (nlt rfl) rfl ?_
  refine Wx_lv (lv' := [(2, .int (iI (16))), (0, .ref 1), (1, .int (iI (n)))]) rfl ?_
  refine x_goto (tgt := 3) C dX8_put_46 (by decide) ?_
  refine x_iload_n (i := 2) C dX8_put_3 rfl rfl ?_
  refine x_if_lt (tgt := 49) C dX8_put_4 (by decide) ⟨by omega, by omega⟩ (fun h10 => by exfalso; omega) (fun h10 => ?_)
  refine x_aload_n (i := 0) C dX8_put_7 rfl rfl ?_
  refine x_getI C fkX_X8_40 (nlt rfl) rfl dX8_put_8 ?_
  refine x_gen (fun v11 ev11 => ?_)
  have qv11 : (0 : Int) ≤ v11 ∧ v11 ≤ (600 : Int) := by
    rw [ev11]
    exact hHy9.rF (k := 1) (i := 0) rfl rfl
  have lv11 : v11 = (l : Int) + 1 := by rw [ev11, eYy9, upI_at]; omega
  refine x_sipush C dX8_put_11 (by decide) ?_
  refine x_icmp_ge (tgt := 49) C dX8_put_14 (by decide) ⟨by omega, by omega⟩ ⟨by omega, by omega⟩ (fun h12 => by exfalso; omega) (fun h12 => ?_)
  refine x_aload_n (i := 0) C dX8_put_17 rfl rfl ?_
  refine x_getRs (r := 2) C fkX_X8_15 (nlt rfl) rfl (HG.rR hHy9 (k := 1) (i := 3) rfl rfl) dX8_put_18 ?_
  refine x_aload_n (i := 0) C dX8_put_21 rfl rfl ?_
  refine x_getI C fkX_X8_40 (nlt rfl) rfl dX8_put_22 ?_
  refine x_gen (fun v13 ev13 => ?_)
  have qv13 : (0 : Int) ≤ v13 ∧ v13 ≤ (600 : Int) := by
    rw [ev13]
    exact hHy9.rF (k := 1) (i := 0) rfl rfl
  have lv13 : v13 = (l : Int) + 1 := by rw [ev13, eYy9, upI_at]; omega
  refine x_iload_n (i := 1) C dX8_put_25 rfl rfl ?_
  refine x_iload_n (i := 2) C dX8_put_26 rfl rfl ?_
  refine x_iushr C dX8_put_27 ?_
  refine x_topi (fun v14 rv14 ev14 => ?_)
  unfold inR at rv14
  have bv14 := ushr16_bd rv14 ev14
  refine x_sipush C dX8_put_28 (by decide) ?_
  refine x_iand C dX8_put_31 ?_
  refine x_topi (fun v15 rv15 ev15 => ?_)
  unfold inR at rv15
  have bv15 := and_bd (m := 255) (by decide) (by decide) rv15 ev15
  refine x_iast C (nlt rfl) rfl rfl (nle rfl) (by omega) (by omega) dX8_put_32 ?_
  have w1 : v15 = byF n 1 := ub_1 ⟨by omega, by omega⟩ ⟨by omega, by omega⟩ ⟨by omega, by omega⟩ ev14 ev15
  refine x_gX (fun Yy16 eYy16 => ?_)
  have hHy16 : HG vX Yy16 := by
    rw [eYy16]
    exact hg_wA hHy9 (n := 600) (p := (0, 255)) (by decide +kernel) (by omega) ⟨by omega, by omega⟩
  have hFy16 : FR mdPF X0 Yy16 := by
    rw [eYy16]
    exact FR.upI hFy9 (rfl)
  rw [show (v13).toNat = l + 1 by omega] at eYy16
  refine x_aload_n (i := 0) C dX8_put_33 rfl rfl ?_
  refine x_dup C dX8_put_34 rfl ?_
  refine x_getI C fkX_X8_40 (nlt rfl) rfl dX8_put_35 ?_
  refine x_gen (fun v17 ev17 => ?_)
  have qv17 : (0 : Int) ≤ v17 ∧ v17 ≤ (600 : Int) := by
    rw [ev17]
    exact hHy16.rF (k := 1) (i := 0) rfl rfl
  have lv17 : v17 = (l : Int) + 1 := by rw [ev17, eYy16, upI_nc (by decide), eYy9, upI_at]; omega
  refine x_iconst C dX8_put_38 ?_
  refine x_iadd C dX8_put_39 ?_
  refine x_putI C pkX_X8_40 (nlt rfl) rfl dX8_put_40 ?_
  refine x_gX (fun Yy18 eYy18 => ?_)
  have hHy18 : HG vX Yy18 := by
    rw [eYy18]
    exact hg_wF hHy16 (p := (0, 600)) rfl ⟨by omega, by omega⟩
  have hFy18 : FR mdPF X0 Yy18 := by
    rw [eYy18]
    exact FR.upI hFy16 (rfl)
  replace eYy18 : Yy18 = upI Yy16 1 0 (v17 + 1) := eYy18
  refine x_iinc (lv' := [(2, .int (iI (16 + (-8)))), (0, .ref 1), (1, .int (iI (n)))]) C dX8_put_43 rfl (nlt rfl) rfl ?_
  refine Wx_lv (lv' := [(2, .int (iI (8))), (0, .ref 1), (1, .int (iI (n)))]) rfl ?_
  refine x_goto (tgt := 3) C dX8_put_46 (by decide) ?_
  refine x_iload_n (i := 2) C dX8_put_3 rfl rfl ?_
  refine x_if_lt (tgt := 49) C dX8_put_4 (by decide) ⟨by omega, by omega⟩ (fun h19 => by exfalso; omega) (fun h19 => ?_)
  refine x_aload_n (i := 0) C dX8_put_7 rfl rfl ?_
  refine x_getI C fkX_X8_40 (nlt rfl) rfl dX8_put_8 ?_
  refine x_gen (fun v20 ev20 => ?_)
  have qv20 : (0 : Int) ≤ v20 ∧ v20 ≤ (600 : Int) := by
    rw [ev20]
    exact hHy18.rF (k := 1) (i := 0) rfl rfl
  have lv20 : v20 = (l : Int) + 2 := by rw [ev20, eYy18, upI_at]; omega
  refine x_sipush C dX8_put_11 (by decide) ?_
  refine x_icmp_ge (tgt := 49) C dX8_put_14 (by decide) ⟨by omega, by omega⟩ ⟨by omega, by omega⟩ (fun h21 => by exfalso; omega) (fun h21 => ?_)
  refine x_aload_n (i := 0) C dX8_put_17 rfl rfl ?_
  refine x_getRs (r := 2) C fkX_X8_15 (nlt rfl) rfl (HG.rR hHy18 (k := 1) (i := 3) rfl rfl) dX8_put_18 ?_
  refine x_aload_n (i := 0) C dX8_put_21 rfl rfl ?_
  refine x_getI C fkX_X8_40 (nlt rfl) rfl dX8_put_22 ?_
  refine x_gen (fun v22 ev22 => ?_)
  have qv22 : (0 : Int) ≤ v22 ∧ v22 ≤ (600 : Int) := by
    rw [ev22]
    exact hHy18.rF (k := 1) (i := 0) rfl rfl
  have lv22 : v22 = (l : Int) + 2 := by rw [ev22, eYy18, upI_at]; omega
  refine x_iload_n (i := 1) C dX8_put_25 rfl rfl ?_
  refine x_iload_n (i := 2) C dX8_put_26 rfl rfl ?_
  refine x_iushr C dX8_put_27 ?_
  refine x_topi (fun v23 rv23 ev23 => ?_)
  unfold inR at rv23
  refine x_sipush C dX8_put_28 (by decide) ?_
  refine x_iand C dX8_put_31 ?_
  refine x_topi (fun v24 rv24 ev24 => ?_)
  unfold inR at rv24
  have bv24 := and_bd (m := 255) (by decide) (by decide) rv24 ev24
  refine x_iast C (nlt rfl) rfl rfl (nle rfl) (by omega) (by omega) dX8_put_32 ?_
  have w2 : v24 = byF n 2 := ub_2 ⟨by omega, by omega⟩ ⟨by omega, by omega⟩ ⟨by omega, by omega⟩ ev23 ev24
  refine x_gX (fun Yy25 eYy25 => ?_)
  have hHy25 : HG vX Yy25 := by
    rw [eYy25]
    exact hg_wA hHy18 (n := 600) (p := (0, 255)) (by decide +kernel) (by omega) ⟨by omega, by omega⟩
  have hFy25 : FR mdPF X0 Yy25 := by
    rw [eYy25]
    exact FR.upI hFy18 (rfl)
  rw [show (v22).toNat = l + 2 by omega] at eYy25
  refine x_aload_n (i := 0) C dX8_put_33 rfl rfl ?_
  refine x_dup C dX8_put_34 rfl ?_
  refine x_getI C fkX_X8_40 (nlt rfl) rfl dX8_put_35 ?_
  refine x_gen (fun v26 ev26 => ?_)
  have qv26 : (0 : Int) ≤ v26 ∧ v26 ≤ (600 : Int) := by
    rw [ev26]
    exact hHy25.rF (k := 1) (i := 0) rfl rfl
  have lv26 : v26 = (l : Int) + 2 := by rw [ev26, eYy25, upI_nc (by decide), eYy18, upI_at]; omega
  refine x_iconst C dX8_put_38 ?_
  refine x_iadd C dX8_put_39 ?_
  refine x_putI C pkX_X8_40 (nlt rfl) rfl dX8_put_40 ?_
  refine x_gX (fun Yy27 eYy27 => ?_)
  have hHy27 : HG vX Yy27 := by
    rw [eYy27]
    exact hg_wF hHy25 (p := (0, 600)) rfl ⟨by omega, by omega⟩
  have hFy27 : FR mdPF X0 Yy27 := by
    rw [eYy27]
    exact FR.upI hFy25 (rfl)
  replace eYy27 : Yy27 = upI Yy25 1 0 (v26 + 1) := eYy27
  refine x_iinc (lv' := [(2, .int (iI (8 + (-8)))), (0, .ref 1), (1, .int (iI (n)))]) C dX8_put_43 rfl (nlt rfl) rfl ?_
  refine Wx_lv (lv' := [(2, .int (iI (0))), (0, .ref 1), (1, .int (iI (n)))]) rfl ?_
  refine x_goto (tgt := 3) C dX8_put_46 (by decide) ?_
  refine x_iload_n (i := 2) C dX8_put_3 rfl rfl ?_
  refine x_if_lt (tgt := 49) C dX8_put_4 (by decide) ⟨by omega, by omega⟩ (fun h28 => by exfalso; omega) (fun h28 => ?_)
  refine x_aload_n (i := 0) C dX8_put_7 rfl rfl ?_
  refine x_getI C fkX_X8_40 (nlt rfl) rfl dX8_put_8 ?_
  refine x_gen (fun v29 ev29 => ?_)
  have qv29 : (0 : Int) ≤ v29 ∧ v29 ≤ (600 : Int) := by
    rw [ev29]
    exact hHy27.rF (k := 1) (i := 0) rfl rfl
  have lv29 : v29 = (l : Int) + 3 := by rw [ev29, eYy27, upI_at]; omega
  refine x_sipush C dX8_put_11 (by decide) ?_
  refine x_icmp_ge (tgt := 49) C dX8_put_14 (by decide) ⟨by omega, by omega⟩ ⟨by omega, by omega⟩ (fun h30 => by exfalso; omega) (fun h30 => ?_)
  refine x_aload_n (i := 0) C dX8_put_17 rfl rfl ?_
  refine x_getRs (r := 2) C fkX_X8_15 (nlt rfl) rfl (HG.rR hHy27 (k := 1) (i := 3) rfl rfl) dX8_put_18 ?_
  refine x_aload_n (i := 0) C dX8_put_21 rfl rfl ?_
  refine x_getI C fkX_X8_40 (nlt rfl) rfl dX8_put_22 ?_
  refine x_gen (fun v31 ev31 => ?_)
  have qv31 : (0 : Int) ≤ v31 ∧ v31 ≤ (600 : Int) := by
    rw [ev31]
    exact hHy27.rF (k := 1) (i := 0) rfl rfl
  have lv31 : v31 = (l : Int) + 3 := by rw [ev31, eYy27, upI_at]; omega
  refine x_iload_n (i := 1) C dX8_put_25 rfl rfl ?_
  refine x_iload_n (i := 2) C dX8_put_26 rfl rfl ?_
  refine x_iushr C dX8_put_27 ?_
  refine x_topi (fun v32 rv32 ev32 => ?_)
  unfold inR at rv32
  refine x_sipush C dX8_put_28 (by decide) ?_
  refine x_iand C dX8_put_31 ?_
  refine x_topi (fun v33 rv33 ev33 => ?_)
  unfold inR at rv33
  have bv33 := and_bd (m := 255) (by decide) (by decide) rv33 ev33
  refine x_iast C (nlt rfl) rfl rfl (nle rfl) (by omega) (by omega) dX8_put_32 ?_
  have w3 : v33 = byF n 3 := ub_3 ⟨by omega, by omega⟩ ⟨by omega, by omega⟩ ⟨by omega, by omega⟩ ev32 ev33
  refine x_gX (fun Yy34 eYy34 => ?_)
  have hHy34 : HG vX Yy34 := by
    rw [eYy34]
    exact hg_wA hHy27 (n := 600) (p := (0, 255)) (by decide +kernel) (by omega) ⟨by omega, by omega⟩
  have hFy34 : FR mdPF X0 Yy34 := by
    rw [eYy34]
    exact FR.upI hFy27 (rfl)
  rw [show (v31).toNat = l + 3 by omega] at eYy34
  refine x_aload_n (i := 0) C dX8_put_33 rfl rfl ?_
  refine x_dup C dX8_put_34 rfl ?_
  refine x_getI C fkX_X8_40 (nlt rfl) rfl dX8_put_35 ?_
  refine x_gen (fun v35 ev35 => ?_)
  have qv35 : (0 : Int) ≤ v35 ∧ v35 ≤ (600 : Int) := by
    rw [ev35]
    exact hHy34.rF (k := 1) (i := 0) rfl rfl
  have lv35 : v35 = (l : Int) + 3 := by rw [ev35, eYy34, upI_nc (by decide), eYy27, upI_at]; omega
  refine x_iconst C dX8_put_38 ?_
  refine x_iadd C dX8_put_39 ?_
  refine x_putI C pkX_X8_40 (nlt rfl) rfl dX8_put_40 ?_
  refine x_gX (fun Yy36 eYy36 => ?_)
  have hHy36 : HG vX Yy36 := by
    rw [eYy36]
    exact hg_wF hHy34 (p := (0, 600)) rfl ⟨by omega, by omega⟩
  have hFy36 : FR mdPF X0 Yy36 := by
    rw [eYy36]
    exact FR.upI hFy34 (rfl)
  replace eYy36 : Yy36 = upI Yy34 1 0 (v35 + 1) := eYy36
  refine x_iinc (lv' := [(2, .int (iI (0 + (-8)))), (0, .ref 1), (1, .int (iI (n)))]) C dX8_put_43 rfl (nlt rfl) rfl ?_
  refine Wx_lv (lv' := [(2, .int (iI ((-8)))), (0, .ref 1), (1, .int (iI (n)))]) rfl ?_
  refine x_goto (tgt := 3) C dX8_put_46 (by decide) ?_
  refine x_iload_n (i := 2) C dX8_put_3 rfl rfl ?_
  refine x_if_lt (tgt := 49) C dX8_put_4 (by decide) ⟨by omega, by omega⟩ (fun h37 => ?_) (fun h37 => by exfalso; omega)
  exact x_vret C hQ dX8_put_49 (⟨rfl, hHy36, hFy36, by rw [eYy36, upI_at]; omega, (fun t ht => by rcases (show t = 0 ∨ t = 1 ∨ t = 2 ∨ t = 3 by omega) with rfl | rfl | rfl | rfl; (rw [eYy36, upI_nc (by decide), eYy34, upI_ne (by omega), eYy27, upI_nc (by decide), eYy25, upI_ne (by omega), eYy18, upI_nc (by decide), eYy16, upI_ne (by omega), eYy9, upI_nc (by decide), eYy7, upI_at]; exact w0); (rw [eYy36, upI_nc (by decide), eYy34, upI_ne (by omega), eYy27, upI_nc (by decide), eYy25, upI_ne (by omega), eYy18, upI_nc (by decide), eYy16, upI_at]; exact w1); (rw [eYy36, upI_nc (by decide), eYy34, upI_ne (by omega), eYy27, upI_nc (by decide), eYy25, upI_at]; exact w2); (rw [eYy36, upI_nc (by decide), eYy34, upI_at]; exact w3)), fun i hi => by rw [eYy36, upI_nc (by decide), eYy34, upI_ne (by omega), eYy27, upI_nc (by decide), eYy25, upI_ne (by omega), eYy18, upI_nc (by decide), eYy16, upI_ne (by omega), eYy9, upI_nc (by decide), eYy7, upI_ne (by omega)]⟩)
set_option maxHeartbeats 4000000 in
set_option maxRecDepth 100000 in
theorem c_feed {D : va_G} {ad : Nat → Nat} {cA : Nat → ClassId} {X0 : XT} {l : Nat} {z1 z2 z3 z4 z5 : Int} (n1 : inR z1) (n2 : inR z2) (n3 : inR z3) (n4 : inR z4) (n5 : inR z5) (hl : X0.1 1 0 = (l : Int)) (hH : HG vX X0) (hF : FR mdPF X0 X0) : MetX (wX D ad cA) yX11_feed cX11_feed 6 (some .int) 1 22 [.ref 0, .int (iI (z1)), .int (iI (z2)), .int (iI (z3)), .int (iI (z4)), .int (iI (z5))] X0 (fun r X1 => (∃ u : Int, r = some (.int (iI u)) ∧ inR u ∧ ((581 ≤ X0.1 1 0 ∧ u = -1 ∧ X1.1 1 0 = X0.1 1 0 ∧ ∀ i : Nat, X1.1 2 i = X0.1 2 i) ∨ ((l : Int) ≤ 580 ∧ u = (l : Int) + 20 ∧ X1.1 1 0 = (l : Int) + 20 ∧ (∀ i : Nat, i < l ∨ 600 ≤ i → X1.1 2 i = X0.1 2 i) ∧ (∀ t : Nat, t < 4 → X1.1 2 (l + 0 + t) = byF z1 t) ∧ (∀ t : Nat, t < 4 → X1.1 2 (l + 4 + t) = byF z2 t) ∧ (∀ t : Nat, t < 4 → X1.1 2 (l + 8 + t) = byF z3 t) ∧ (∀ t : Nat, t < 4 → X1.1 2 (l + 12 + t) = byF z4 t) ∧ (∀ t : Nat, t < 4 → X1.1 2 (l + 16 + t) = byF z5 t)))) ∧ HG vX X1 ∧ FR mdPF X0 X1) := by
  unfold inR at n1 n2 n3 n4 n5
  refine MetX.mk (own := RX11) (by decide +kernel) rfl (nle rfl) (fun E C hQ => ?_)
  refine Wx_lv (lv' := [(0, .ref 0), (1, .int (iI (z1))), (2, .int (iI (z2))), (3, .int (iI (z3))), (4, .int (iI (z4))), (5, .int (iI (z5)))]) rfl ?_
  refine x_aload_n (i := 0) C dX11_feed_0 rfl rfl ?_
  refine x_getRs (r := 1) C fkX_X11_10 (nlt rfl) rfl (HG.rR hH (k := 0) (i := 0) rfl rfl) dX11_feed_1 ?_
  refine x_getI C fkX_X11_57 (nlt rfl) rfl dX11_feed_4 ?_
  refine x_gen (fun v1 ev1 => ?_)
  have qv1 : (0 : Int) ≤ v1 ∧ v1 ≤ (600 : Int) := by
    rw [ev1]
    exact hH.rF (k := 1) (i := 0) rfl rfl
  have lv1 : v1 = (l : Int) := by rw [ev1]; exact hl
  refine x_bipush C dX11_feed_7 (by decide) ?_
  refine x_iadd C dX11_feed_9 ?_
  refine x_sipush C dX11_feed_10 (by decide) ?_
  refine x_icmp_le (tgt := 18) C dX11_feed_13 (by decide) ⟨by omega, by omega⟩ ⟨by omega, by omega⟩ (fun h2 => ?_) (fun h2 => ?_)
  · refine x_aload_n (i := 0) C dX11_feed_18 rfl rfl ?_
    refine x_getRs (r := 1) C fkX_X11_10 (nlt rfl) rfl (HG.rR hH (k := 0) (i := 0) rfl rfl) dX11_feed_19 ?_
    refine x_iload_n (i := 1) C dX11_feed_22 rfl rfl ?_
    refine x_callV (As := [.int (iI (z1))]) C (by exact (c_put (l := l + 0) (n := z1) ⟨by omega, by omega⟩ (by omega) (by omega) hH FR.rf)) ckX11_61 im_X8_put se_X8_put (nlt rfl) rfl rfl rfl rfl (nle rfl) (by exact ⟨nle rfl, nle rfl⟩) dX11_feed_23 ?_
    rintro _ Yy3 ⟨rfl, hHy3, hGy3, pl0, pb0, pk0⟩
    have hFy3 : FR mdPF X0 Yy3 := FR.tr hF hGy3 (by decide)
    refine Wx_st (st' := []) rfl ?_
    refine x_aload_n (i := 0) C dX11_feed_26 rfl rfl ?_
    refine x_getRs (r := 1) C fkX_X11_10 (nlt rfl) rfl (HG.rR hHy3 (k := 0) (i := 0) rfl rfl) dX11_feed_27 ?_
    refine x_iload_n (i := 2) C dX11_feed_30 rfl rfl ?_
    refine x_callV (As := [.int (iI (z2))]) C (by exact (c_put (l := l + 4) (n := z2) ⟨by omega, by omega⟩ (by omega) (by omega) hHy3 FR.rf)) ckX11_61 im_X8_put se_X8_put (nlt rfl) rfl rfl rfl rfl (nle rfl) (by exact ⟨nle rfl, nle rfl⟩) dX11_feed_31 ?_
    rintro _ Yy4 ⟨rfl, hHy4, hGy4, pl1, pb1, pk1⟩
    have hFy4 : FR mdPF X0 Yy4 := FR.tr hFy3 hGy4 (by decide)
    refine Wx_st (st' := []) rfl ?_
    refine x_aload_n (i := 0) C dX11_feed_34 rfl rfl ?_
    refine x_getRs (r := 1) C fkX_X11_10 (nlt rfl) rfl (HG.rR hHy4 (k := 0) (i := 0) rfl rfl) dX11_feed_35 ?_
    refine x_iload_n (i := 3) C dX11_feed_38 rfl rfl ?_
    refine x_callV (As := [.int (iI (z3))]) C (by exact (c_put (l := l + 8) (n := z3) ⟨by omega, by omega⟩ (by omega) (by omega) hHy4 FR.rf)) ckX11_61 im_X8_put se_X8_put (nlt rfl) rfl rfl rfl rfl (nle rfl) (by exact ⟨nle rfl, nle rfl⟩) dX11_feed_39 ?_
    rintro _ Yy5 ⟨rfl, hHy5, hGy5, pl2, pb2, pk2⟩
    have hFy5 : FR mdPF X0 Yy5 := FR.tr hFy4 hGy5 (by decide)
    refine Wx_st (st' := []) rfl ?_
    refine x_aload_n (i := 0) C dX11_feed_42 rfl rfl ?_
    refine x_getRs (r := 1) C fkX_X11_10 (nlt rfl) rfl (HG.rR hHy5 (k := 0) (i := 0) rfl rfl) dX11_feed_43 ?_
    refine x_iload C dX11_feed_46 rfl ?_
    refine x_callV (As := [.int (iI (z4))]) C (by exact (c_put (l := l + 12) (n := z4) ⟨by omega, by omega⟩ (by omega) (by omega) hHy5 FR.rf)) ckX11_61 im_X8_put se_X8_put (nlt rfl) rfl rfl rfl rfl (nle rfl) (by exact ⟨nle rfl, nle rfl⟩) dX11_feed_48 ?_
    rintro _ Yy6 ⟨rfl, hHy6, hGy6, pl3, pb3, pk3⟩
    have hFy6 : FR mdPF X0 Yy6 := FR.tr hFy5 hGy6 (by decide)
    refine Wx_st (st' := []) rfl ?_
    refine x_aload_n (i := 0) C dX11_feed_51 rfl rfl ?_
    refine x_getRs (r := 1) C fkX_X11_10 (nlt rfl) rfl (HG.rR hHy6 (k := 0) (i := 0) rfl rfl) dX11_feed_52 ?_
    refine x_iload C dX11_feed_55 rfl ?_
    refine x_callV (As := [.int (iI (z5))]) C (by exact (c_put (l := l + 16) (n := z5) ⟨by omega, by omega⟩ (by omega) (by omega) hHy6 FR.rf)) ckX11_61 im_X8_put se_X8_put (nlt rfl) rfl rfl rfl rfl (nle rfl) (by exact ⟨nle rfl, nle rfl⟩) dX11_feed_57 ?_
    rintro _ Yy7 ⟨rfl, hHy7, hGy7, pl4, pb4, pk4⟩
    have hFy7 : FR mdPF X0 Yy7 := FR.tr hFy6 hGy7 (by decide)
    refine Wx_st (st' := []) rfl ?_
    refine x_aload_n (i := 0) C dX11_feed_60 rfl rfl ?_
    refine x_getRs (r := 1) C fkX_X11_10 (nlt rfl) rfl (HG.rR hHy7 (k := 0) (i := 0) rfl rfl) dX11_feed_61 ?_
    refine x_getI C fkX_X11_57 (nlt rfl) rfl dX11_feed_64 ?_
    refine x_gen (fun v8 ev8 => ?_)
    have qv8 : (0 : Int) ≤ v8 ∧ v8 ≤ (600 : Int) := by
      rw [ev8]
      exact hHy7.rF (k := 1) (i := 0) rfl rfl
    exact x_iret C hQ dX11_feed_67 (⟨⟨_, rfl, ⟨by omega, by omega⟩, .inr ⟨by omega, by omega, by omega, fun i hi => by rw [pk4 i (by omega), pk3 i (by omega), pk2 i (by omega), pk1 i (by omega), pk0 i (by omega)], (fun t ht => by rw [pk4 (l + 0 + t) (by omega), pk3 (l + 0 + t) (by omega), pk2 (l + 0 + t) (by omega), pk1 (l + 0 + t) (by omega)]; exact pb0 t ht), (fun t ht => by rw [pk4 (l + 4 + t) (by omega), pk3 (l + 4 + t) (by omega), pk2 (l + 4 + t) (by omega)]; exact pb1 t ht), (fun t ht => by rw [pk4 (l + 8 + t) (by omega), pk3 (l + 8 + t) (by omega)]; exact pb2 t ht), (fun t ht => by rw [pk4 (l + 12 + t) (by omega)]; exact pb3 t ht), (fun t ht => by exact pb4 t ht)⟩⟩, hHy7, hFy7⟩)
  · refine x_iconst C dX11_feed_16 ?_
    exact x_iret C hQ dX11_feed_17 (⟨⟨_, rfl, ⟨by decide, by decide⟩, .inl ⟨by omega, rfl, rfl, fun i => rfl⟩⟩, hH, hF⟩)
