/-! ===== the reference: count, fault, image, again ===== -/
theorem dX12_count_0 : decode cX12_count 0 = .ok (.aload_n 0, 1) := by decide +kernel
theorem dX12_count_1 : decode cX12_count 1 = .ok (.iconst 0, 1) := by decide +kernel
theorem dX12_count_2 : decode cX12_count 2 = .ok (.putfield 157, 3) := by decide +kernel
theorem dX12_count_5 : decode cX12_count 5 = .ok (.iload_n 1, 1) := by decide +kernel
theorem dX12_count_6 : decode cX12_count 6 = .ok (.iconst 0, 1) := by decide +kernel
theorem dX12_count_7 : decode cX12_count 7 = .ok (.iconst 2, 1) := by decide +kernel
theorem dX12_count_8 : decode cX12_count 8 = .ok (.invokestatic 165, 3) := by decide +kernel
theorem dX12_count_11 : decode cX12_count 11 = .ok (.ifCond .eq 12, 3) := by decide +kernel
theorem dX12_count_14 : decode cX12_count 14 = .ok (.aload_n 0, 1) := by decide +kernel
theorem dX12_count_15 : decode cX12_count 15 = .ok (.getfield 23, 3) := by decide +kernel
theorem dX12_count_18 : decode cX12_count 18 = .ok (.iload_n 1, 1) := by decide +kernel
theorem dX12_count_19 : decode cX12_count 19 = .ok (.iaload, 1) := by decide +kernel
theorem dX12_count_20 : decode cX12_count 20 = .ok (.goto 5, 3) := by decide +kernel
theorem dX12_count_23 : decode cX12_count 23 = .ok (.bipush (-2), 2) := by decide +kernel
theorem dX12_count_25 : decode cX12_count 25 = .ok (.ireturn, 1) := by decide +kernel
theorem dX12_fault_0 : decode cX12_fault 0 = .ok (.aload_n 0, 1) := by decide +kernel
theorem dX12_fault_1 : decode cX12_fault 1 = .ok (.iconst 0, 1) := by decide +kernel
theorem dX12_fault_2 : decode cX12_fault 2 = .ok (.putfield 157, 3) := by decide +kernel
theorem dX12_fault_5 : decode cX12_fault 5 = .ok (.iload_n 1, 1) := by decide +kernel
theorem dX12_fault_6 : decode cX12_fault 6 = .ok (.ifCond .ne 12, 3) := by decide +kernel
theorem dX12_fault_9 : decode cX12_fault 9 = .ok (.aload_n 0, 1) := by decide +kernel
theorem dX12_fault_10 : decode cX12_fault 10 = .ok (.getfield 17, 3) := by decide +kernel
theorem dX12_fault_13 : decode cX12_fault 13 = .ok (.iconst 0, 1) := by decide +kernel
theorem dX12_fault_14 : decode cX12_fault 14 = .ok (.iaload, 1) := by decide +kernel
theorem dX12_fault_15 : decode cX12_fault 15 = .ok (.goto 18, 3) := by decide +kernel
theorem dX12_fault_18 : decode cX12_fault 18 = .ok (.iload_n 1, 1) := by decide +kernel
theorem dX12_fault_19 : decode cX12_fault 19 = .ok (.iconst 1, 1) := by decide +kernel
theorem dX12_fault_20 : decode cX12_fault 20 = .ok (.if_icmp .ne 12, 3) := by decide +kernel
theorem dX12_fault_23 : decode cX12_fault 23 = .ok (.aload_n 0, 1) := by decide +kernel
theorem dX12_fault_24 : decode cX12_fault 24 = .ok (.getfield 20, 3) := by decide +kernel
theorem dX12_fault_27 : decode cX12_fault 27 = .ok (.iconst 0, 1) := by decide +kernel
theorem dX12_fault_28 : decode cX12_fault 28 = .ok (.iaload, 1) := by decide +kernel
theorem dX12_fault_29 : decode cX12_fault 29 = .ok (.goto 4, 3) := by decide +kernel
theorem dX12_fault_32 : decode cX12_fault 32 = .ok (.iconst (-1), 1) := by decide +kernel
theorem dX12_fault_33 : decode cX12_fault 33 = .ok (.ireturn, 1) := by decide +kernel
theorem dX12_image_0 : decode cX12_image 0 = .ok (.aload_n 0, 1) := by decide +kernel
theorem dX12_image_1 : decode cX12_image 1 = .ok (.iconst 0, 1) := by decide +kernel
theorem dX12_image_2 : decode cX12_image 2 = .ok (.putfield 157, 3) := by decide +kernel
theorem dX12_image_5 : decode cX12_image 5 = .ok (.iload_n 1, 1) := by decide +kernel
theorem dX12_image_6 : decode cX12_image 6 = .ok (.iconst 0, 1) := by decide +kernel
theorem dX12_image_7 : decode cX12_image 7 = .ok (.iconst 2, 1) := by decide +kernel
theorem dX12_image_8 : decode cX12_image 8 = .ok (.invokestatic 165, 3) := by decide +kernel
theorem dX12_image_11 : decode cX12_image 11 = .ok (.ifCond .ne 5, 3) := by decide +kernel
theorem dX12_image_14 : decode cX12_image 14 = .ok (.iconst 0, 1) := by decide +kernel
theorem dX12_image_15 : decode cX12_image 15 = .ok (.ireturn, 1) := by decide +kernel
theorem dX12_image_16 : decode cX12_image 16 = .ok (.aload_n 0, 1) := by decide +kernel
theorem dX12_image_17 : decode cX12_image 17 = .ok (.iconst 0, 1) := by decide +kernel
theorem dX12_image_18 : decode cX12_image 18 = .ok (.iload_n 1, 1) := by decide +kernel
theorem dX12_image_19 : decode cX12_image 19 = .ok (.iconst 1, 1) := by decide +kernel
theorem dX12_image_20 : decode cX12_image 20 = .ok (.iadd, 1) := by decide +kernel
theorem dX12_image_21 : decode cX12_image 21 = .ok (.invokevirtual 562, 3) := by decide +kernel
theorem dX12_image_24 : decode cX12_image 24 = .ok (.aload_n 0, 1) := by decide +kernel
theorem dX12_image_25 : decode cX12_image 25 = .ok (.getfield 154, 3) := by decide +kernel
theorem dX12_image_28 : decode cX12_image 28 = .ok (.iload_n 1, 1) := by decide +kernel
theorem dX12_image_29 : decode cX12_image 29 = .ok (.iconst 1, 1) := by decide +kernel
theorem dX12_image_30 : decode cX12_image 30 = .ok (.bastore, 1) := by decide +kernel
theorem dX12_image_31 : decode cX12_image 31 = .ok (.iconst 1, 1) := by decide +kernel
theorem dX12_image_32 : decode cX12_image 32 = .ok (.ireturn, 1) := by decide +kernel
theorem dX12_again_0 : decode cX12_again 0 = .ok (.aload_n 0, 1) := by decide +kernel
theorem dX12_again_1 : decode cX12_again 1 = .ok (.iconst 0, 1) := by decide +kernel
theorem dX12_again_2 : decode cX12_again 2 = .ok (.putfield 157, 3) := by decide +kernel
theorem dX12_again_5 : decode cX12_again 5 = .ok (.iload_n 1, 1) := by decide +kernel
theorem dX12_again_6 : decode cX12_again 6 = .ok (.iconst 0, 1) := by decide +kernel
theorem dX12_again_7 : decode cX12_again 7 = .ok (.iconst 2, 1) := by decide +kernel
theorem dX12_again_8 : decode cX12_again 8 = .ok (.invokestatic 165, 3) := by decide +kernel
theorem dX12_again_11 : decode cX12_again 11 = .ok (.ifCond .eq 12, 3) := by decide +kernel
theorem dX12_again_14 : decode cX12_again 14 = .ok (.aload_n 0, 1) := by decide +kernel
theorem dX12_again_15 : decode cX12_again 15 = .ok (.getfield 154, 3) := by decide +kernel
theorem dX12_again_18 : decode cX12_again 18 = .ok (.iload_n 1, 1) := by decide +kernel
theorem dX12_again_19 : decode cX12_again 19 = .ok (.baload, 1) := by decide +kernel
theorem dX12_again_20 : decode cX12_again 20 = .ok (.ifCond .ne 5, 3) := by decide +kernel
theorem dX12_again_23 : decode cX12_again 23 = .ok (.iconst 0, 1) := by decide +kernel
theorem dX12_again_24 : decode cX12_again 24 = .ok (.ireturn, 1) := by decide +kernel
theorem dX12_again_25 : decode cX12_again 25 = .ok (.aload_n 0, 1) := by decide +kernel
theorem dX12_again_26 : decode cX12_again 26 = .ok (.iload_n 1, 1) := by decide +kernel
theorem dX12_again_27 : decode cX12_again 27 = .ok (.iconst 1, 1) := by decide +kernel
theorem dX12_again_28 : decode cX12_again 28 = .ok (.iadd, 1) := by decide +kernel
theorem dX12_again_29 : decode cX12_again 29 = .ok (.iconst 0, 1) := by decide +kernel
theorem dX12_again_30 : decode cX12_again 30 = .ok (.invokevirtual 562, 3) := by decide +kernel
theorem dX12_again_33 : decode cX12_again 33 = .ok (.iconst 1, 1) := by decide +kernel
theorem dX12_again_34 : decode cX12_again 34 = .ok (.ireturn, 1) := by decide +kernel

abbrev mmCO : List (Nat × Option Nat) := [(0, some 0)]
set_option maxHeartbeats 4000000 in
set_option maxRecDepth 100000 in
theorem r_count {D : va_G} {ad : Nat → Nat} {cA : Nat → ClassId} {X : XT} {n : Int} (nn : inR n) (hH : HG vM X) (hF : FR mmCO X X) : MetX (wM D ad cA) yX12_count cX12_count 2 (some .int) 1 22 [.ref 0, .int (iI (n))] X (fun r X1 => HG vM X1 ∧ FR mmCO X X1 ∧ ∃ u : Int, r = some (.int (iI u)) ∧ inR u ∧ ((0 ≤ n ∧ n ≤ 2 ∧ u = X.1 5 n.toNat) ∨ (¬ (0 ≤ n ∧ n ≤ 2) ∧ u = -2))) := by
  unfold inR at nn
  refine MetX.mk (own := RX12) (by decide +kernel) rfl (nle rfl) (fun E C hQ => ?_)
  refine Wx_lv (lv' := [(0, .ref 0), (1, .int (iI (n)))]) rfl ?_
  refine x_aload_n (i := 0) C dX12_count_0 rfl rfl ?_
  refine x_iconst C dX12_count_1 ?_
  refine x_putI C pkM_X12_157 (nlt rfl) rfl dX12_count_2 ?_
  refine x_gX (fun Yy1 eYy1 => ?_)
  have hHy1 : HG vM Yy1 := by
    rw [eYy1]
    exact hg_wF hH (p := ((-2147483648), 2147483647)) rfl ⟨by omega, by omega⟩
  have hFy1 : FR mmCO X Yy1 := by
    rw [eYy1]
    exact FR.upI hF (rfl)
  refine x_iload_n (i := 1) C dX12_count_5 rfl rfl ?_
  refine x_iconst C dX12_count_6 ?_
  refine x_iconst C dX12_count_7 ?_
  refine x_callS (As := [.int (iI (n)), .int (iI (0)), .int (iI (2))]) C (by exact (q_in (v := n) (a := 0) (b := 2) ⟨by omega, by omega⟩ ⟨by omega, by omega⟩ ⟨by omega, by omega⟩)) ckX12_165 sm_X12_in rfl rfl (nle rfl) (by exact ⟨nle rfl, nle rfl⟩) dX12_count_8 ?_
  rintro _ Xv2 ⟨hxv2, v2, rfl, ev2⟩
  rw [hxv2]
  refine Wx_st (st' := [.int (iI (v2))]) rfl ?_
  refine x_if_eq (tgt := 23) C dX12_count_11 (by decide) ⟨by omega, by omega⟩ (fun h3 => ?_) (fun h3 => ?_)
  · refine x_bipush C dX12_count_23 (by decide) ?_
    exact x_iret C hQ dX12_count_25 (⟨hHy1, hFy1, _, rfl, ⟨by omega, by omega⟩, .inr ⟨by omega, rfl⟩⟩)
  · refine x_aload_n (i := 0) C dX12_count_14 rfl rfl ?_
    refine x_getRs (r := 5) C fkM_X12_23 (nlt rfl) rfl (HG.rR hHy1 (k := 0) (i := 5) rfl rfl) dX12_count_15 ?_
    refine x_iload_n (i := 1) C dX12_count_18 rfl rfl ?_
    refine x_iald C (nlt rfl) rfl rfl (nle rfl) (by omega) (by omega) dX12_count_19 ?_
    refine x_gen (fun v4 ev4 => ?_)
    have qv4 : (0 : Int) ≤ v4 ∧ v4 ≤ (3 : Int) := by
      rw [ev4]
      exact hHy1.rA (k := 5) (n := 12) (p := (0, 3)) (nlt rfl) rfl (by decide +kernel) (by omega)
    refine x_goto (tgt := 25) C dX12_count_20 (by decide) ?_
    exact x_iret C hQ dX12_count_25 (⟨hHy1, hFy1, _, rfl, ⟨by omega, by omega⟩, .inl ⟨by omega, by omega, by rw [ev4, eYy1, upI_nc (by decide)]⟩⟩)
set_option maxHeartbeats 4000000 in
set_option maxRecDepth 100000 in
theorem r_fault {D : va_G} {ad : Nat → Nat} {cA : Nat → ClassId} {X : XT} {n : Int} (nn : inR n) (hH : HG vM X) (hF : FR mmCO X X) : MetX (wM D ad cA) yX12_fault cX12_fault 2 (some .int) 0 0 [.ref 0, .int (iI (n))] X (fun r X1 => HG vM X1 ∧ FR mmCO X X1 ∧ ∃ u : Int, r = some (.int (iI u)) ∧ inR u ∧ ((n = 0 ∧ u = X.1 3 0) ∨ (n = 1 ∧ u = X.1 4 0) ∨ (n ≠ 0 ∧ n ≠ 1 ∧ u = -1))) := by
  unfold inR at nn
  refine MetX.mk (own := RX12) (by decide +kernel) rfl (nle rfl) (fun E C hQ => ?_)
  refine Wx_lv (lv' := [(0, .ref 0), (1, .int (iI (n)))]) rfl ?_
  refine x_aload_n (i := 0) C dX12_fault_0 rfl rfl ?_
  refine x_iconst C dX12_fault_1 ?_
  refine x_putI C pkM_X12_157 (nlt rfl) rfl dX12_fault_2 ?_
  refine x_gX (fun Yy1 eYy1 => ?_)
  have hHy1 : HG vM Yy1 := by
    rw [eYy1]
    exact hg_wF hH (p := ((-2147483648), 2147483647)) rfl ⟨by omega, by omega⟩
  have hFy1 : FR mmCO X Yy1 := by
    rw [eYy1]
    exact FR.upI hF (rfl)
  refine x_iload_n (i := 1) C dX12_fault_5 rfl rfl ?_
  refine x_if_ne (tgt := 18) C dX12_fault_6 (by decide) ⟨by omega, by omega⟩ (fun h2 => ?_) (fun h2 => ?_)
  · refine x_iload_n (i := 1) C dX12_fault_18 rfl rfl ?_
    refine x_iconst C dX12_fault_19 ?_
    refine x_icmp_ne (tgt := 32) C dX12_fault_20 (by decide) ⟨by omega, by omega⟩ ⟨by omega, by omega⟩ (fun h3 => ?_) (fun h3 => ?_)
    · refine x_iconst C dX12_fault_32 ?_
      exact x_iret C hQ dX12_fault_33 (⟨hHy1, hFy1, _, rfl, ⟨by omega, by omega⟩, by omega⟩)
    · refine x_aload_n (i := 0) C dX12_fault_23 rfl rfl ?_
      refine x_getRs (r := 4) C fkM_X12_20 (nlt rfl) rfl (HG.rR hHy1 (k := 0) (i := 4) rfl rfl) dX12_fault_24 ?_
      refine x_iconst C dX12_fault_27 ?_
      refine x_iald C (nlt rfl) rfl rfl (nle rfl) (by omega) (by omega) dX12_fault_28 ?_
      refine x_gen (fun v4 ev4 => ?_)
      replace ev4 : v4 = Yy1.1 4 0 := ev4
      have qv4 : ((-2147483648) : Int) ≤ v4 ∧ v4 ≤ (2147483647 : Int) := by
        rw [ev4]
        exact hHy1.rF (k := 4) (i := 0) (p := ((-2147483648), 2147483647)) rfl rfl
      have kv4 : v4 = X.1 4 0 := by rw [ev4, eYy1, upI_nc (by decide)]
      refine x_goto (tgt := 33) C dX12_fault_29 (by decide) ?_
      exact x_iret C hQ dX12_fault_33 (⟨hHy1, hFy1, _, rfl, ⟨by omega, by omega⟩, by omega⟩)
  · refine x_aload_n (i := 0) C dX12_fault_9 rfl rfl ?_
    refine x_getRs (r := 3) C fkM_X12_17 (nlt rfl) rfl (HG.rR hHy1 (k := 0) (i := 3) rfl rfl) dX12_fault_10 ?_
    refine x_iconst C dX12_fault_13 ?_
    refine x_iald C (nlt rfl) rfl rfl (nle rfl) (by omega) (by omega) dX12_fault_14 ?_
    refine x_gen (fun v5 ev5 => ?_)
    replace ev5 : v5 = Yy1.1 3 0 := ev5
    have qv5 : ((-2147483648) : Int) ≤ v5 ∧ v5 ≤ (2147483647 : Int) := by
      rw [ev5]
      exact hHy1.rF (k := 3) (i := 0) (p := ((-2147483648), 2147483647)) rfl rfl
    have kv5 : v5 = X.1 3 0 := by rw [ev5, eYy1, upI_nc (by decide)]
    refine x_goto (tgt := 33) C dX12_fault_15 (by decide) ?_
    exact x_iret C hQ dX12_fault_33 (⟨hHy1, hFy1, _, rfl, ⟨by omega, by omega⟩, by omega⟩)
set_option maxHeartbeats 4000000 in
set_option maxRecDepth 100000 in
theorem r_imageN {D : va_G} {ad : Nat → Nat} {cA : Nat → ClassId} {X : XT} {n : Int} (nn : inR n) (hn : ¬ (0 ≤ n ∧ n ≤ 2)) (hH : HG vM X) (hF : FR mmCO X X) : MetX (wM D ad cA) yX12_image cX12_image 2 (some .boolean) 2 47 [.ref 0, .int (iI (n))] X (fun r X1 => r = some (.int (iI 0)) ∧ HG vM X1 ∧ FR mmCO X X1) := by
  unfold inR at nn
  refine MetX.mk (own := RX12) (by decide +kernel) rfl (nle rfl) (fun E C hQ => ?_)
  refine Wx_lv (lv' := [(0, .ref 0), (1, .int (iI (n)))]) rfl ?_
  refine x_aload_n (i := 0) C dX12_image_0 rfl rfl ?_
  refine x_iconst C dX12_image_1 ?_
  refine x_putI C pkM_X12_157 (nlt rfl) rfl dX12_image_2 ?_
  refine x_gX (fun Yy1 eYy1 => ?_)
  have hHy1 : HG vM Yy1 := by
    rw [eYy1]
    exact hg_wF hH (p := ((-2147483648), 2147483647)) rfl ⟨by omega, by omega⟩
  have hFy1 : FR mmCO X Yy1 := by
    rw [eYy1]
    exact FR.upI hF (rfl)
  refine x_iload_n (i := 1) C dX12_image_5 rfl rfl ?_
  refine x_iconst C dX12_image_6 ?_
  refine x_iconst C dX12_image_7 ?_
  refine x_callS (As := [.int (iI (n)), .int (iI (0)), .int (iI (2))]) C (by exact (q_in (v := n) (a := 0) (b := 2) ⟨by omega, by omega⟩ ⟨by omega, by omega⟩ ⟨by omega, by omega⟩)) ckX12_165 sm_X12_in rfl rfl (nle rfl) (by exact ⟨nle rfl, nle rfl⟩) dX12_image_8 ?_
  rintro _ Xv2 ⟨hxv2, v2, rfl, ev2⟩
  rw [hxv2]
  refine Wx_st (st' := [.int (iI (v2))]) rfl ?_
  refine x_if_ne (tgt := 16) C dX12_image_11 (by decide) ⟨by omega, by omega⟩ (fun h3 => by exfalso; omega) (fun h3 => ?_)
  refine x_iconst C dX12_image_14 ?_
  exact x_zret C hQ (by omega) dX12_image_15 (⟨rfl, hHy1, hFy1⟩)
abbrev mmIi0 : List (Nat × Option Nat) := [(0, some 0), (1, none), (2, none), (3, none), (4, none), (5, none), (6, none), (7, none), (8, none), (48, some 0)]
set_option maxHeartbeats 4000000 in
set_option maxRecDepth 100000 in
theorem r_image0 {D : va_G} {ad : Nat → Nat} {cA : Nat → ClassId} {X : XT} (bk : BOK X) (hH : HG vM X) (hF : FR mmIi0 X X) : MetX (wM D ad cA) yX12_image cX12_image 2 (some .boolean) 2 47 [.ref 0, .int (iI (0))] X (fun r X1 => r = some (.int (iI 1)) ∧ HG vM X1 ∧ BOK X1 ∧ CPR 0 1 X X1 ∧ (∀ r, r ≠ 1 → CPR r r X X1) ∧ ∀ j, j < 3 → X1.1 48 j = if j = 0 then 1 else X.1 48 j) := by
  refine MetX.mk (own := RX12) (by decide +kernel) rfl (nle rfl) (fun E C hQ => ?_)
  refine Wx_lv (lv' := [(0, .ref 0), (1, .int (iI (0)))]) rfl ?_
  refine x_aload_n (i := 0) C dX12_image_0 rfl rfl ?_
  refine x_iconst C dX12_image_1 ?_
  refine x_putI C pkM_X12_157 (nlt rfl) rfl dX12_image_2 ?_
  refine x_gX (fun Yy1 eYy1 => ?_)
  have hHy1 : HG vM Yy1 := by
    rw [eYy1]
    exact hg_wF hH (p := ((-2147483648), 2147483647)) rfl ⟨by omega, by omega⟩
  have hFy1 : FR mmIi0 X Yy1 := by
    rw [eYy1]
    exact FR.upI hF (rfl)
  refine x_iload_n (i := 1) C dX12_image_5 rfl rfl ?_
  refine x_iconst C dX12_image_6 ?_
  refine x_iconst C dX12_image_7 ?_
  refine x_callS (As := [.int (iI (0)), .int (iI (0)), .int (iI (2))]) C (by exact (q_in (v := 0) (a := 0) (b := 2) ⟨by omega, by omega⟩ ⟨by omega, by omega⟩ ⟨by omega, by omega⟩)) ckX12_165 sm_X12_in rfl rfl (nle rfl) (by exact ⟨nle rfl, nle rfl⟩) dX12_image_8 ?_
  rintro _ Xv2 ⟨hxv2, v2, rfl, ev2⟩
  rw [hxv2]
  refine Wx_st (st' := [.int (iI (v2))]) rfl ?_
  refine x_if_ne (tgt := 16) C dX12_image_11 (by decide) ⟨by omega, by omega⟩ (fun h3 => ?_) (fun h3 => by exfalso; omega)
  refine x_aload_n (i := 0) C dX12_image_16 rfl rfl ?_
  refine x_iconst C dX12_image_17 ?_
  refine x_iload_n (i := 1) C dX12_image_18 rfl rfl ?_
  refine x_iconst C dX12_image_19 ?_
  refine x_iadd C dX12_image_20 ?_
  refine x_eq (b := 1) rfl ?_
  refine x_callV (As := [.int (iI (0)), .int (iI (1))]) C (by exact (q_copyAll (f := 0) (q := 1) (by decide) (by decide) hHy1 FR.rf)) ckX12_562 im_X12_copyAll se_X12_copyAll (nlt rfl) rfl rfl rfl rfl (nle rfl) (by exact ⟨nle rfl, nle rfl⟩) dX12_image_21 ?_
  rintro _ Yy4 ⟨rfl, hHy4, hGy4, p1, p2, p3, p4, p5, p6, p7, p8⟩
  have hFy4 : FR mmIi0 X Yy4 := FR.tr hFy1 hGy4 (by decide)
  refine Wx_st (st' := []) rfl ?_
  refine x_aload_n (i := 0) C dX12_image_24 rfl rfl ?_
  refine x_getRs (r := 48) C fkM_X12_154 (nlt rfl) rfl (HG.rR hHy4 (k := 0) (i := 74) rfl rfl) dX12_image_25 ?_
  refine x_iload_n (i := 1) C dX12_image_28 rfl rfl ?_
  refine x_iconst C dX12_image_29 ?_
  refine x_zast C (nlt rfl) rfl rfl (nle rfl) (by omega) (by omega) (by omega) dX12_image_30 ?_
  refine x_gX (fun Yy5 eYy5 => ?_)
  have hHy5 : HG vM Yy5 := by
    rw [eYy5]
    exact hg_wF hHy4 (p := (0, 1)) rfl ⟨by omega, by omega⟩
  have hFy5 : FR mmIi0 X Yy5 := by
    rw [eYy5]
    exact FR.upI hFy4 (rfl)
  replace eYy5 : Yy5 = upI Yy4 48 0 (1) := eYy5
  refine x_iconst C dX12_image_31 ?_
  exact x_zret C hQ (by omega) dX12_image_32 (⟨rfl, hHy5, bok_fr (bok_cp (by decide) (by decide) (bok_fr bk (show FR mmCO X Yy1 from by rw [eYy1]; exact FR.upI FR.rf rfl) rfl) p5 p6) (show FR [(48, some 0)] Yy4 Yy5 from by rw [eYy5]; exact FR.upI FR.rf rfl) rfl, cpr_w (cpr_b (show FR mmCO X Yy1 from by rw [eYy1]; exact FR.upI FR.rf rfl) (cpr_q p1 p2 p3 p4 p5 p6 p7 p8)) (show FR [(48, some 0)] Yy4 Yy5 from by rw [eYy5]; exact FR.upI FR.rf rfl), fun r hr => cpr_w (cpr_b (show FR mmCO X Yy1 from by rw [eYy1]; exact FR.upI FR.rf rfl) (cpr_o p1 p2 p3 p4 p5 p6 p7 p8 hr)) (show FR [(48, some 0)] Yy4 Yy5 from by rw [eYy5]; exact FR.upI FR.rf rfl), fun j hj => by by_cases e : j = 0; (rw [if_pos e, e, eYy5, upI_at]); (rw [if_neg e, eYy5, upI_ne e, (hGy4 48 j rfl).1]; exact ((show FR mmCO X Yy1 from by rw [eYy1]; exact FR.upI FR.rf rfl) 48 j rfl).1)⟩)
abbrev mmIi1 : List (Nat × Option Nat) := [(0, some 0), (1, none), (2, none), (3, none), (4, none), (5, none), (6, none), (7, none), (8, none), (48, some 1)]
set_option maxHeartbeats 4000000 in
set_option maxRecDepth 100000 in
theorem r_image1 {D : va_G} {ad : Nat → Nat} {cA : Nat → ClassId} {X : XT} (bk : BOK X) (hH : HG vM X) (hF : FR mmIi1 X X) : MetX (wM D ad cA) yX12_image cX12_image 2 (some .boolean) 2 47 [.ref 0, .int (iI (1))] X (fun r X1 => r = some (.int (iI 1)) ∧ HG vM X1 ∧ BOK X1 ∧ CPR 0 2 X X1 ∧ (∀ r, r ≠ 2 → CPR r r X X1) ∧ ∀ j, j < 3 → X1.1 48 j = if j = 1 then 1 else X.1 48 j) := by
  refine MetX.mk (own := RX12) (by decide +kernel) rfl (nle rfl) (fun E C hQ => ?_)
  refine Wx_lv (lv' := [(0, .ref 0), (1, .int (iI (1)))]) rfl ?_
  refine x_aload_n (i := 0) C dX12_image_0 rfl rfl ?_
  refine x_iconst C dX12_image_1 ?_
  refine x_putI C pkM_X12_157 (nlt rfl) rfl dX12_image_2 ?_
  refine x_gX (fun Yy1 eYy1 => ?_)
  have hHy1 : HG vM Yy1 := by
    rw [eYy1]
    exact hg_wF hH (p := ((-2147483648), 2147483647)) rfl ⟨by omega, by omega⟩
  have hFy1 : FR mmIi1 X Yy1 := by
    rw [eYy1]
    exact FR.upI hF (rfl)
  refine x_iload_n (i := 1) C dX12_image_5 rfl rfl ?_
  refine x_iconst C dX12_image_6 ?_
  refine x_iconst C dX12_image_7 ?_
  refine x_callS (As := [.int (iI (1)), .int (iI (0)), .int (iI (2))]) C (by exact (q_in (v := 1) (a := 0) (b := 2) ⟨by omega, by omega⟩ ⟨by omega, by omega⟩ ⟨by omega, by omega⟩)) ckX12_165 sm_X12_in rfl rfl (nle rfl) (by exact ⟨nle rfl, nle rfl⟩) dX12_image_8 ?_
  rintro _ Xv2 ⟨hxv2, v2, rfl, ev2⟩
  rw [hxv2]
  refine Wx_st (st' := [.int (iI (v2))]) rfl ?_
  refine x_if_ne (tgt := 16) C dX12_image_11 (by decide) ⟨by omega, by omega⟩ (fun h3 => ?_) (fun h3 => by exfalso; omega)
  refine x_aload_n (i := 0) C dX12_image_16 rfl rfl ?_
  refine x_iconst C dX12_image_17 ?_
  refine x_iload_n (i := 1) C dX12_image_18 rfl rfl ?_
  refine x_iconst C dX12_image_19 ?_
  refine x_iadd C dX12_image_20 ?_
  refine x_eq (b := 2) rfl ?_
  refine x_callV (As := [.int (iI (0)), .int (iI (2))]) C (by exact (q_copyAll (f := 0) (q := 2) (by decide) (by decide) hHy1 FR.rf)) ckX12_562 im_X12_copyAll se_X12_copyAll (nlt rfl) rfl rfl rfl rfl (nle rfl) (by exact ⟨nle rfl, nle rfl⟩) dX12_image_21 ?_
  rintro _ Yy4 ⟨rfl, hHy4, hGy4, p1, p2, p3, p4, p5, p6, p7, p8⟩
  have hFy4 : FR mmIi1 X Yy4 := FR.tr hFy1 hGy4 (by decide)
  refine Wx_st (st' := []) rfl ?_
  refine x_aload_n (i := 0) C dX12_image_24 rfl rfl ?_
  refine x_getRs (r := 48) C fkM_X12_154 (nlt rfl) rfl (HG.rR hHy4 (k := 0) (i := 74) rfl rfl) dX12_image_25 ?_
  refine x_iload_n (i := 1) C dX12_image_28 rfl rfl ?_
  refine x_iconst C dX12_image_29 ?_
  refine x_zast C (nlt rfl) rfl rfl (nle rfl) (by omega) (by omega) (by omega) dX12_image_30 ?_
  refine x_gX (fun Yy5 eYy5 => ?_)
  have hHy5 : HG vM Yy5 := by
    rw [eYy5]
    exact hg_wF hHy4 (p := (0, 1)) rfl ⟨by omega, by omega⟩
  have hFy5 : FR mmIi1 X Yy5 := by
    rw [eYy5]
    exact FR.upI hFy4 (rfl)
  replace eYy5 : Yy5 = upI Yy4 48 1 (1) := eYy5
  refine x_iconst C dX12_image_31 ?_
  exact x_zret C hQ (by omega) dX12_image_32 (⟨rfl, hHy5, bok_fr (bok_cp (by decide) (by decide) (bok_fr bk (show FR mmCO X Yy1 from by rw [eYy1]; exact FR.upI FR.rf rfl) rfl) p5 p6) (show FR [(48, some 1)] Yy4 Yy5 from by rw [eYy5]; exact FR.upI FR.rf rfl) rfl, cpr_w (cpr_b (show FR mmCO X Yy1 from by rw [eYy1]; exact FR.upI FR.rf rfl) (cpr_q p1 p2 p3 p4 p5 p6 p7 p8)) (show FR [(48, some 1)] Yy4 Yy5 from by rw [eYy5]; exact FR.upI FR.rf rfl), fun r hr => cpr_w (cpr_b (show FR mmCO X Yy1 from by rw [eYy1]; exact FR.upI FR.rf rfl) (cpr_o p1 p2 p3 p4 p5 p6 p7 p8 hr)) (show FR [(48, some 1)] Yy4 Yy5 from by rw [eYy5]; exact FR.upI FR.rf rfl), fun j hj => by by_cases e : j = 1; (rw [if_pos e, e, eYy5, upI_at]); (rw [if_neg e, eYy5, upI_ne e, (hGy4 48 j rfl).1]; exact ((show FR mmCO X Yy1 from by rw [eYy1]; exact FR.upI FR.rf rfl) 48 j rfl).1)⟩)
abbrev mmIi2 : List (Nat × Option Nat) := [(0, some 0), (1, none), (2, none), (3, none), (4, none), (5, none), (6, none), (7, none), (8, none), (48, some 2)]
set_option maxHeartbeats 4000000 in
set_option maxRecDepth 100000 in
theorem r_image2 {D : va_G} {ad : Nat → Nat} {cA : Nat → ClassId} {X : XT} (bk : BOK X) (hH : HG vM X) (hF : FR mmIi2 X X) : MetX (wM D ad cA) yX12_image cX12_image 2 (some .boolean) 2 47 [.ref 0, .int (iI (2))] X (fun r X1 => r = some (.int (iI 1)) ∧ HG vM X1 ∧ BOK X1 ∧ CPR 0 3 X X1 ∧ (∀ r, r ≠ 3 → CPR r r X X1) ∧ ∀ j, j < 3 → X1.1 48 j = if j = 2 then 1 else X.1 48 j) := by
  refine MetX.mk (own := RX12) (by decide +kernel) rfl (nle rfl) (fun E C hQ => ?_)
  refine Wx_lv (lv' := [(0, .ref 0), (1, .int (iI (2)))]) rfl ?_
  refine x_aload_n (i := 0) C dX12_image_0 rfl rfl ?_
  refine x_iconst C dX12_image_1 ?_
  refine x_putI C pkM_X12_157 (nlt rfl) rfl dX12_image_2 ?_
  refine x_gX (fun Yy1 eYy1 => ?_)
  have hHy1 : HG vM Yy1 := by
    rw [eYy1]
    exact hg_wF hH (p := ((-2147483648), 2147483647)) rfl ⟨by omega, by omega⟩
  have hFy1 : FR mmIi2 X Yy1 := by
    rw [eYy1]
    exact FR.upI hF (rfl)
  refine x_iload_n (i := 1) C dX12_image_5 rfl rfl ?_
  refine x_iconst C dX12_image_6 ?_
  refine x_iconst C dX12_image_7 ?_
  refine x_callS (As := [.int (iI (2)), .int (iI (0)), .int (iI (2))]) C (by exact (q_in (v := 2) (a := 0) (b := 2) ⟨by omega, by omega⟩ ⟨by omega, by omega⟩ ⟨by omega, by omega⟩)) ckX12_165 sm_X12_in rfl rfl (nle rfl) (by exact ⟨nle rfl, nle rfl⟩) dX12_image_8 ?_
  rintro _ Xv2 ⟨hxv2, v2, rfl, ev2⟩
  rw [hxv2]
  refine Wx_st (st' := [.int (iI (v2))]) rfl ?_
  refine x_if_ne (tgt := 16) C dX12_image_11 (by decide) ⟨by omega, by omega⟩ (fun h3 => ?_) (fun h3 => by exfalso; omega)
  refine x_aload_n (i := 0) C dX12_image_16 rfl rfl ?_
  refine x_iconst C dX12_image_17 ?_
  refine x_iload_n (i := 1) C dX12_image_18 rfl rfl ?_
  refine x_iconst C dX12_image_19 ?_
  refine x_iadd C dX12_image_20 ?_
  refine x_eq (b := 3) rfl ?_
  refine x_callV (As := [.int (iI (0)), .int (iI (3))]) C (by exact (q_copyAll (f := 0) (q := 3) (by decide) (by decide) hHy1 FR.rf)) ckX12_562 im_X12_copyAll se_X12_copyAll (nlt rfl) rfl rfl rfl rfl (nle rfl) (by exact ⟨nle rfl, nle rfl⟩) dX12_image_21 ?_
  rintro _ Yy4 ⟨rfl, hHy4, hGy4, p1, p2, p3, p4, p5, p6, p7, p8⟩
  have hFy4 : FR mmIi2 X Yy4 := FR.tr hFy1 hGy4 (by decide)
  refine Wx_st (st' := []) rfl ?_
  refine x_aload_n (i := 0) C dX12_image_24 rfl rfl ?_
  refine x_getRs (r := 48) C fkM_X12_154 (nlt rfl) rfl (HG.rR hHy4 (k := 0) (i := 74) rfl rfl) dX12_image_25 ?_
  refine x_iload_n (i := 1) C dX12_image_28 rfl rfl ?_
  refine x_iconst C dX12_image_29 ?_
  refine x_zast C (nlt rfl) rfl rfl (nle rfl) (by omega) (by omega) (by omega) dX12_image_30 ?_
  refine x_gX (fun Yy5 eYy5 => ?_)
  have hHy5 : HG vM Yy5 := by
    rw [eYy5]
    exact hg_wF hHy4 (p := (0, 1)) rfl ⟨by omega, by omega⟩
  have hFy5 : FR mmIi2 X Yy5 := by
    rw [eYy5]
    exact FR.upI hFy4 (rfl)
  replace eYy5 : Yy5 = upI Yy4 48 2 (1) := eYy5
  refine x_iconst C dX12_image_31 ?_
  exact x_zret C hQ (by omega) dX12_image_32 (⟨rfl, hHy5, bok_fr (bok_cp (by decide) (by decide) (bok_fr bk (show FR mmCO X Yy1 from by rw [eYy1]; exact FR.upI FR.rf rfl) rfl) p5 p6) (show FR [(48, some 2)] Yy4 Yy5 from by rw [eYy5]; exact FR.upI FR.rf rfl) rfl, cpr_w (cpr_b (show FR mmCO X Yy1 from by rw [eYy1]; exact FR.upI FR.rf rfl) (cpr_q p1 p2 p3 p4 p5 p6 p7 p8)) (show FR [(48, some 2)] Yy4 Yy5 from by rw [eYy5]; exact FR.upI FR.rf rfl), fun r hr => cpr_w (cpr_b (show FR mmCO X Yy1 from by rw [eYy1]; exact FR.upI FR.rf rfl) (cpr_o p1 p2 p3 p4 p5 p6 p7 p8 hr)) (show FR [(48, some 2)] Yy4 Yy5 from by rw [eYy5]; exact FR.upI FR.rf rfl), fun j hj => by by_cases e : j = 2; (rw [if_pos e, e, eYy5, upI_at]); (rw [if_neg e, eYy5, upI_ne e, (hGy4 48 j rfl).1]; exact ((show FR mmCO X Yy1 from by rw [eYy1]; exact FR.upI FR.rf rfl) 48 j rfl).1)⟩)
set_option maxHeartbeats 4000000 in
set_option maxRecDepth 100000 in
theorem r_againN {D : va_G} {ad : Nat → Nat} {cA : Nat → ClassId} {X : XT} {n : Int} (nn : inR n) (hn : ¬ (0 ≤ n ∧ n ≤ 2)) (hH : HG vM X) (hF : FR mmCO X X) : MetX (wM D ad cA) yX12_again cX12_again 2 (some .boolean) 2 47 [.ref 0, .int (iI (n))] X (fun r X1 => r = some (.int (iI 0)) ∧ HG vM X1 ∧ FR mmCO X X1) := by
  unfold inR at nn
  refine MetX.mk (own := RX12) (by decide +kernel) rfl (nle rfl) (fun E C hQ => ?_)
  refine Wx_lv (lv' := [(0, .ref 0), (1, .int (iI (n)))]) rfl ?_
  refine x_aload_n (i := 0) C dX12_again_0 rfl rfl ?_
  refine x_iconst C dX12_again_1 ?_
  refine x_putI C pkM_X12_157 (nlt rfl) rfl dX12_again_2 ?_
  refine x_gX (fun Yy1 eYy1 => ?_)
  have hHy1 : HG vM Yy1 := by
    rw [eYy1]
    exact hg_wF hH (p := ((-2147483648), 2147483647)) rfl ⟨by omega, by omega⟩
  have hFy1 : FR mmCO X Yy1 := by
    rw [eYy1]
    exact FR.upI hF (rfl)
  refine x_iload_n (i := 1) C dX12_again_5 rfl rfl ?_
  refine x_iconst C dX12_again_6 ?_
  refine x_iconst C dX12_again_7 ?_
  refine x_callS (As := [.int (iI (n)), .int (iI (0)), .int (iI (2))]) C (by exact (q_in (v := n) (a := 0) (b := 2) ⟨by omega, by omega⟩ ⟨by omega, by omega⟩ ⟨by omega, by omega⟩)) ckX12_165 sm_X12_in rfl rfl (nle rfl) (by exact ⟨nle rfl, nle rfl⟩) dX12_again_8 ?_
  rintro _ Xv2 ⟨hxv2, v2, rfl, ev2⟩
  rw [hxv2]
  refine Wx_st (st' := [.int (iI (v2))]) rfl ?_
  refine x_if_eq (tgt := 23) C dX12_again_11 (by decide) ⟨by omega, by omega⟩ (fun h3 => ?_) (fun h3 => by exfalso; omega)
  refine x_iconst C dX12_again_23 ?_
  exact x_zret C hQ (by omega) dX12_again_24 (⟨rfl, hHy1, hFy1⟩)
abbrev mmIa0 : List (Nat × Option Nat) := [(0, some 0), (1, none), (2, none), (3, none), (4, none), (5, none), (6, none), (7, none), (8, none)]
set_option maxHeartbeats 4000000 in
set_option maxRecDepth 100000 in
theorem r_again0 {D : va_G} {ad : Nat → Nat} {cA : Nat → ClassId} {X : XT} (bk : BOK X) (hH : HG vM X) (hF : FR mmIa0 X X) : MetX (wM D ad cA) yX12_again cX12_again 2 (some .boolean) 2 47 [.ref 0, .int (iI (0))] X (fun r X1 => ∃ u : Int, r = some (.int (iI u)) ∧ HG vM X1 ∧ ((u = 1 ∧ X.1 48 0 ≠ 0 ∧ BOK X1 ∧ CPR 1 0 X X1 ∧ (∀ r, r ≠ 0 → CPR r r X X1) ∧ ∀ j, X1.1 48 j = X.1 48 j) ∨ (u = 0 ∧ X.1 48 0 = 0 ∧ BOK X1 ∧ FR mmCO X X1))) := by
  refine MetX.mk (own := RX12) (by decide +kernel) rfl (nle rfl) (fun E C hQ => ?_)
  refine Wx_lv (lv' := [(0, .ref 0), (1, .int (iI (0)))]) rfl ?_
  refine x_aload_n (i := 0) C dX12_again_0 rfl rfl ?_
  refine x_iconst C dX12_again_1 ?_
  refine x_putI C pkM_X12_157 (nlt rfl) rfl dX12_again_2 ?_
  refine x_gX (fun Yy1 eYy1 => ?_)
  have hHy1 : HG vM Yy1 := by
    rw [eYy1]
    exact hg_wF hH (p := ((-2147483648), 2147483647)) rfl ⟨by omega, by omega⟩
  have hFy1 : FR mmIa0 X Yy1 := by
    rw [eYy1]
    exact FR.upI hF (rfl)
  refine x_iload_n (i := 1) C dX12_again_5 rfl rfl ?_
  refine x_iconst C dX12_again_6 ?_
  refine x_iconst C dX12_again_7 ?_
  refine x_callS (As := [.int (iI (0)), .int (iI (0)), .int (iI (2))]) C (by exact (q_in (v := 0) (a := 0) (b := 2) ⟨by omega, by omega⟩ ⟨by omega, by omega⟩ ⟨by omega, by omega⟩)) ckX12_165 sm_X12_in rfl rfl (nle rfl) (by exact ⟨nle rfl, nle rfl⟩) dX12_again_8 ?_
  rintro _ Xv2 ⟨hxv2, v2, rfl, ev2⟩
  rw [hxv2]
  refine Wx_st (st' := [.int (iI (v2))]) rfl ?_
  refine x_if_eq (tgt := 23) C dX12_again_11 (by decide) ⟨by omega, by omega⟩ (fun h3 => by exfalso; omega) (fun h3 => ?_)
  refine x_aload_n (i := 0) C dX12_again_14 rfl rfl ?_
  refine x_getRs (r := 48) C fkM_X12_154 (nlt rfl) rfl (HG.rR hHy1 (k := 0) (i := 74) rfl rfl) dX12_again_15 ?_
  refine x_iload_n (i := 1) C dX12_again_18 rfl rfl ?_
  refine x_zald C (nlt rfl) rfl rfl (nle rfl) (by omega) (by omega) dX12_again_19 ?_
  refine x_gen (fun v4 ev4 => ?_)
  replace ev4 : v4 = Yy1.1 48 0 := ev4
  have qv4 : (0 : Int) ≤ v4 ∧ v4 ≤ (1 : Int) := by
    rw [ev4]
    exact hHy1.rF (k := 48) (i := 0) (p := (0, 1)) rfl rfl
  have kv4 : v4 = X.1 48 0 := by rw [ev4, eYy1, upI_nc (by decide)]
  refine x_if_ne (tgt := 25) C dX12_again_20 (by decide) ⟨by omega, by omega⟩ (fun h5 => ?_) (fun h5 => ?_)
  · refine x_aload_n (i := 0) C dX12_again_25 rfl rfl ?_
    refine x_iload_n (i := 1) C dX12_again_26 rfl rfl ?_
    refine x_iconst C dX12_again_27 ?_
    refine x_iadd C dX12_again_28 ?_
    refine x_eq (b := 1) rfl ?_
    refine x_iconst C dX12_again_29 ?_
    refine x_callV (As := [.int (iI (1)), .int (iI (0))]) C (by exact (q_copyAll (f := 1) (q := 0) (by decide) (by decide) hHy1 FR.rf)) ckX12_562 im_X12_copyAll se_X12_copyAll (nlt rfl) rfl rfl rfl rfl (nle rfl) (by exact ⟨nle rfl, nle rfl⟩) dX12_again_30 ?_
    rintro _ Yy6 ⟨rfl, hHy6, hGy6, p1, p2, p3, p4, p5, p6, p7, p8⟩
    have hFy6 : FR mmIa0 X Yy6 := FR.tr hFy1 hGy6 (by decide)
    refine Wx_st (st' := []) rfl ?_
    refine x_iconst C dX12_again_33 ?_
    exact x_zret C hQ (by omega) dX12_again_34 (⟨_, rfl, hHy6, .inl ⟨rfl, by omega, (bok_cp (by decide) (by decide) (bok_fr bk (show FR mmCO X Yy1 from by rw [eYy1]; exact FR.upI FR.rf rfl) rfl) p5 p6), cpr_b (show FR mmCO X Yy1 from by rw [eYy1]; exact FR.upI FR.rf rfl) (cpr_q p1 p2 p3 p4 p5 p6 p7 p8), fun r hr => cpr_b (show FR mmCO X Yy1 from by rw [eYy1]; exact FR.upI FR.rf rfl) (cpr_o p1 p2 p3 p4 p5 p6 p7 p8 hr), fun j => by rw [(hGy6 48 j rfl).1]; exact ((show FR mmCO X Yy1 from by rw [eYy1]; exact FR.upI FR.rf rfl) 48 j rfl).1⟩⟩)
  · refine x_iconst C dX12_again_23 ?_
    exact x_zret C hQ (by omega) dX12_again_24 (⟨_, rfl, hHy1, .inr ⟨rfl, by omega, bok_fr bk (show FR mmCO X Yy1 from by rw [eYy1]; exact FR.upI FR.rf rfl) rfl, by rw [eYy1]; exact FR.upI FR.rf rfl⟩⟩)
abbrev mmIa1 : List (Nat × Option Nat) := [(0, some 0), (1, none), (2, none), (3, none), (4, none), (5, none), (6, none), (7, none), (8, none)]
set_option maxHeartbeats 4000000 in
set_option maxRecDepth 100000 in
theorem r_again1 {D : va_G} {ad : Nat → Nat} {cA : Nat → ClassId} {X : XT} (bk : BOK X) (hH : HG vM X) (hF : FR mmIa1 X X) : MetX (wM D ad cA) yX12_again cX12_again 2 (some .boolean) 2 47 [.ref 0, .int (iI (1))] X (fun r X1 => ∃ u : Int, r = some (.int (iI u)) ∧ HG vM X1 ∧ ((u = 1 ∧ X.1 48 1 ≠ 0 ∧ BOK X1 ∧ CPR 2 0 X X1 ∧ (∀ r, r ≠ 0 → CPR r r X X1) ∧ ∀ j, X1.1 48 j = X.1 48 j) ∨ (u = 0 ∧ X.1 48 1 = 0 ∧ BOK X1 ∧ FR mmCO X X1))) := by
  refine MetX.mk (own := RX12) (by decide +kernel) rfl (nle rfl) (fun E C hQ => ?_)
  refine Wx_lv (lv' := [(0, .ref 0), (1, .int (iI (1)))]) rfl ?_
  refine x_aload_n (i := 0) C dX12_again_0 rfl rfl ?_
  refine x_iconst C dX12_again_1 ?_
  refine x_putI C pkM_X12_157 (nlt rfl) rfl dX12_again_2 ?_
  refine x_gX (fun Yy1 eYy1 => ?_)
  have hHy1 : HG vM Yy1 := by
    rw [eYy1]
    exact hg_wF hH (p := ((-2147483648), 2147483647)) rfl ⟨by omega, by omega⟩
  have hFy1 : FR mmIa1 X Yy1 := by
    rw [eYy1]
    exact FR.upI hF (rfl)
  refine x_iload_n (i := 1) C dX12_again_5 rfl rfl ?_
  refine x_iconst C dX12_again_6 ?_
  refine x_iconst C dX12_again_7 ?_
  refine x_callS (As := [.int (iI (1)), .int (iI (0)), .int (iI (2))]) C (by exact (q_in (v := 1) (a := 0) (b := 2) ⟨by omega, by omega⟩ ⟨by omega, by omega⟩ ⟨by omega, by omega⟩)) ckX12_165 sm_X12_in rfl rfl (nle rfl) (by exact ⟨nle rfl, nle rfl⟩) dX12_again_8 ?_
  rintro _ Xv2 ⟨hxv2, v2, rfl, ev2⟩
  rw [hxv2]
  refine Wx_st (st' := [.int (iI (v2))]) rfl ?_
  refine x_if_eq (tgt := 23) C dX12_again_11 (by decide) ⟨by omega, by omega⟩ (fun h3 => by exfalso; omega) (fun h3 => ?_)
  refine x_aload_n (i := 0) C dX12_again_14 rfl rfl ?_
  refine x_getRs (r := 48) C fkM_X12_154 (nlt rfl) rfl (HG.rR hHy1 (k := 0) (i := 74) rfl rfl) dX12_again_15 ?_
  refine x_iload_n (i := 1) C dX12_again_18 rfl rfl ?_
  refine x_zald C (nlt rfl) rfl rfl (nle rfl) (by omega) (by omega) dX12_again_19 ?_
  refine x_gen (fun v4 ev4 => ?_)
  replace ev4 : v4 = Yy1.1 48 1 := ev4
  have qv4 : (0 : Int) ≤ v4 ∧ v4 ≤ (1 : Int) := by
    rw [ev4]
    exact hHy1.rF (k := 48) (i := 1) (p := (0, 1)) rfl rfl
  have kv4 : v4 = X.1 48 1 := by rw [ev4, eYy1, upI_nc (by decide)]
  refine x_if_ne (tgt := 25) C dX12_again_20 (by decide) ⟨by omega, by omega⟩ (fun h5 => ?_) (fun h5 => ?_)
  · refine x_aload_n (i := 0) C dX12_again_25 rfl rfl ?_
    refine x_iload_n (i := 1) C dX12_again_26 rfl rfl ?_
    refine x_iconst C dX12_again_27 ?_
    refine x_iadd C dX12_again_28 ?_
    refine x_eq (b := 2) rfl ?_
    refine x_iconst C dX12_again_29 ?_
    refine x_callV (As := [.int (iI (2)), .int (iI (0))]) C (by exact (q_copyAll (f := 2) (q := 0) (by decide) (by decide) hHy1 FR.rf)) ckX12_562 im_X12_copyAll se_X12_copyAll (nlt rfl) rfl rfl rfl rfl (nle rfl) (by exact ⟨nle rfl, nle rfl⟩) dX12_again_30 ?_
    rintro _ Yy6 ⟨rfl, hHy6, hGy6, p1, p2, p3, p4, p5, p6, p7, p8⟩
    have hFy6 : FR mmIa1 X Yy6 := FR.tr hFy1 hGy6 (by decide)
    refine Wx_st (st' := []) rfl ?_
    refine x_iconst C dX12_again_33 ?_
    exact x_zret C hQ (by omega) dX12_again_34 (⟨_, rfl, hHy6, .inl ⟨rfl, by omega, (bok_cp (by decide) (by decide) (bok_fr bk (show FR mmCO X Yy1 from by rw [eYy1]; exact FR.upI FR.rf rfl) rfl) p5 p6), cpr_b (show FR mmCO X Yy1 from by rw [eYy1]; exact FR.upI FR.rf rfl) (cpr_q p1 p2 p3 p4 p5 p6 p7 p8), fun r hr => cpr_b (show FR mmCO X Yy1 from by rw [eYy1]; exact FR.upI FR.rf rfl) (cpr_o p1 p2 p3 p4 p5 p6 p7 p8 hr), fun j => by rw [(hGy6 48 j rfl).1]; exact ((show FR mmCO X Yy1 from by rw [eYy1]; exact FR.upI FR.rf rfl) 48 j rfl).1⟩⟩)
  · refine x_iconst C dX12_again_23 ?_
    exact x_zret C hQ (by omega) dX12_again_24 (⟨_, rfl, hHy1, .inr ⟨rfl, by omega, bok_fr bk (show FR mmCO X Yy1 from by rw [eYy1]; exact FR.upI FR.rf rfl) rfl, by rw [eYy1]; exact FR.upI FR.rf rfl⟩⟩)
abbrev mmIa2 : List (Nat × Option Nat) := [(0, some 0), (1, none), (2, none), (3, none), (4, none), (5, none), (6, none), (7, none), (8, none)]
set_option maxHeartbeats 4000000 in
set_option maxRecDepth 100000 in
theorem r_again2 {D : va_G} {ad : Nat → Nat} {cA : Nat → ClassId} {X : XT} (bk : BOK X) (hH : HG vM X) (hF : FR mmIa2 X X) : MetX (wM D ad cA) yX12_again cX12_again 2 (some .boolean) 2 47 [.ref 0, .int (iI (2))] X (fun r X1 => ∃ u : Int, r = some (.int (iI u)) ∧ HG vM X1 ∧ ((u = 1 ∧ X.1 48 2 ≠ 0 ∧ BOK X1 ∧ CPR 3 0 X X1 ∧ (∀ r, r ≠ 0 → CPR r r X X1) ∧ ∀ j, X1.1 48 j = X.1 48 j) ∨ (u = 0 ∧ X.1 48 2 = 0 ∧ BOK X1 ∧ FR mmCO X X1))) := by
  refine MetX.mk (own := RX12) (by decide +kernel) rfl (nle rfl) (fun E C hQ => ?_)
  refine Wx_lv (lv' := [(0, .ref 0), (1, .int (iI (2)))]) rfl ?_
  refine x_aload_n (i := 0) C dX12_again_0 rfl rfl ?_
  refine x_iconst C dX12_again_1 ?_
  refine x_putI C pkM_X12_157 (nlt rfl) rfl dX12_again_2 ?_
  refine x_gX (fun Yy1 eYy1 => ?_)
  have hHy1 : HG vM Yy1 := by
    rw [eYy1]
    exact hg_wF hH (p := ((-2147483648), 2147483647)) rfl ⟨by omega, by omega⟩
  have hFy1 : FR mmIa2 X Yy1 := by
    rw [eYy1]
    exact FR.upI hF (rfl)
  refine x_iload_n (i := 1) C dX12_again_5 rfl rfl ?_
  refine x_iconst C dX12_again_6 ?_
  refine x_iconst C dX12_again_7 ?_
  refine x_callS (As := [.int (iI (2)), .int (iI (0)), .int (iI (2))]) C (by exact (q_in (v := 2) (a := 0) (b := 2) ⟨by omega, by omega⟩ ⟨by omega, by omega⟩ ⟨by omega, by omega⟩)) ckX12_165 sm_X12_in rfl rfl (nle rfl) (by exact ⟨nle rfl, nle rfl⟩) dX12_again_8 ?_
  rintro _ Xv2 ⟨hxv2, v2, rfl, ev2⟩
  rw [hxv2]
  refine Wx_st (st' := [.int (iI (v2))]) rfl ?_
  refine x_if_eq (tgt := 23) C dX12_again_11 (by decide) ⟨by omega, by omega⟩ (fun h3 => by exfalso; omega) (fun h3 => ?_)
  refine x_aload_n (i := 0) C dX12_again_14 rfl rfl ?_
  refine x_getRs (r := 48) C fkM_X12_154 (nlt rfl) rfl (HG.rR hHy1 (k := 0) (i := 74) rfl rfl) dX12_again_15 ?_
  refine x_iload_n (i := 1) C dX12_again_18 rfl rfl ?_
  refine x_zald C (nlt rfl) rfl rfl (nle rfl) (by omega) (by omega) dX12_again_19 ?_
  refine x_gen (fun v4 ev4 => ?_)
  replace ev4 : v4 = Yy1.1 48 2 := ev4
  have qv4 : (0 : Int) ≤ v4 ∧ v4 ≤ (1 : Int) := by
    rw [ev4]
    exact hHy1.rF (k := 48) (i := 2) (p := (0, 1)) rfl rfl
  have kv4 : v4 = X.1 48 2 := by rw [ev4, eYy1, upI_nc (by decide)]
  refine x_if_ne (tgt := 25) C dX12_again_20 (by decide) ⟨by omega, by omega⟩ (fun h5 => ?_) (fun h5 => ?_)
  · refine x_aload_n (i := 0) C dX12_again_25 rfl rfl ?_
    refine x_iload_n (i := 1) C dX12_again_26 rfl rfl ?_
    refine x_iconst C dX12_again_27 ?_
    refine x_iadd C dX12_again_28 ?_
    refine x_eq (b := 3) rfl ?_
    refine x_iconst C dX12_again_29 ?_
    refine x_callV (As := [.int (iI (3)), .int (iI (0))]) C (by exact (q_copyAll (f := 3) (q := 0) (by decide) (by decide) hHy1 FR.rf)) ckX12_562 im_X12_copyAll se_X12_copyAll (nlt rfl) rfl rfl rfl rfl (nle rfl) (by exact ⟨nle rfl, nle rfl⟩) dX12_again_30 ?_
    rintro _ Yy6 ⟨rfl, hHy6, hGy6, p1, p2, p3, p4, p5, p6, p7, p8⟩
    have hFy6 : FR mmIa2 X Yy6 := FR.tr hFy1 hGy6 (by decide)
    refine Wx_st (st' := []) rfl ?_
    refine x_iconst C dX12_again_33 ?_
    exact x_zret C hQ (by omega) dX12_again_34 (⟨_, rfl, hHy6, .inl ⟨rfl, by omega, (bok_cp (by decide) (by decide) (bok_fr bk (show FR mmCO X Yy1 from by rw [eYy1]; exact FR.upI FR.rf rfl) rfl) p5 p6), cpr_b (show FR mmCO X Yy1 from by rw [eYy1]; exact FR.upI FR.rf rfl) (cpr_q p1 p2 p3 p4 p5 p6 p7 p8), fun r hr => cpr_b (show FR mmCO X Yy1 from by rw [eYy1]; exact FR.upI FR.rf rfl) (cpr_o p1 p2 p3 p4 p5 p6 p7 p8 hr), fun j => by rw [(hGy6 48 j rfl).1]; exact ((show FR mmCO X Yy1 from by rw [eYy1]; exact FR.upI FR.rf rfl) 48 j rfl).1⟩⟩)
  · refine x_iconst C dX12_again_23 ?_
    exact x_zret C hQ (by omega) dX12_again_24 (⟨_, rfl, hHy1, .inr ⟨rfl, by omega, bok_fr bk (show FR mmCO X Yy1 from by rw [eYy1]; exact FR.upI FR.rf rfl) rfl, by rw [eYy1]; exact FR.upI FR.rf rfl⟩⟩)
