/-! ===== the reference: end ===== -/
theorem dX12_end_0 : decode cX12_end 0 = .ok (.aload_n 0, 1) := by decide +kernel
theorem dX12_end_1 : decode cX12_end 1 = .ok (.iconst 0, 1) := by decide +kernel
theorem dX12_end_2 : decode cX12_end 2 = .ok (.putfield 157, 3) := by decide +kernel
theorem dX12_end_5 : decode cX12_end 5 = .ok (.iload_n 1, 1) := by decide +kernel
theorem dX12_end_6 : decode cX12_end 6 = .ok (.iconst 0, 1) := by decide +kernel
theorem dX12_end_7 : decode cX12_end 7 = .ok (.aload_n 0, 1) := by decide +kernel
theorem dX12_end_8 : decode cX12_end 8 = .ok (.getfield 13, 3) := by decide +kernel
theorem dX12_end_11 : decode cX12_end 11 = .ok (.iconst 0, 1) := by decide +kernel
theorem dX12_end_12 : decode cX12_end 12 = .ok (.iaload, 1) := by decide +kernel
theorem dX12_end_13 : decode cX12_end 13 = .ok (.invokestatic 165, 3) := by decide +kernel
theorem dX12_end_16 : decode cX12_end 16 = .ok (.ifCond .ne 5, 3) := by decide +kernel
theorem dX12_end_19 : decode cX12_end 19 = .ok (.iconst (-1), 1) := by decide +kernel
theorem dX12_end_20 : decode cX12_end 20 = .ok (.ireturn, 1) := by decide +kernel
theorem dX12_end_21 : decode cX12_end 21 = .ok (.aload_n 0, 1) := by decide +kernel
theorem dX12_end_22 : decode cX12_end 22 = .ok (.getfield 13, 3) := by decide +kernel
theorem dX12_end_25 : decode cX12_end 25 = .ok (.iconst 0, 1) := by decide +kernel
theorem dX12_end_26 : decode cX12_end 26 = .ok (.iload_n 1, 1) := by decide +kernel
theorem dX12_end_27 : decode cX12_end 27 = .ok (.iastore, 1) := by decide +kernel
theorem dX12_end_28 : decode cX12_end 28 = .ok (.iload_n 1, 1) := by decide +kernel
theorem dX12_end_29 : decode cX12_end 29 = .ok (.ireturn, 1) := by decide +kernel

abbrev mmEN : List (Nat × Option Nat) := [(0, some 0), (2, some 0)]
set_option maxHeartbeats 4000000 in
set_option maxRecDepth 100000 in
theorem rp_end {D : va_G} {ad : Nat → Nat} {cA : Nat → ClassId} {X : XT} {n : Int} (nn : inR n) (hH : HG vM X) (hF : FR mmEN X X) : MetX (wM D ad cA) yX12_end cX12_end 2 (some .int) 1 22 [.ref 0, .int (iI (n))] X (fun r X1 => (∃ u : Int, r = some (.int (iI u)) ∧ inR u ∧ ((0 ≤ n ∧ n ≤ X.1 2 0 ∧ u = n ∧ X1.1 2 0 = n) ∨ (¬ (0 ≤ n ∧ n ≤ X.1 2 0) ∧ u = -1 ∧ X1.1 2 0 = X.1 2 0))) ∧ HG vM X1 ∧ FR mmEN X X1) := by
  unfold inR at nn
  refine MetX.mk (own := RX12) (by decide +kernel) rfl (nle rfl) (fun E C hQ => ?_)
  refine Wx_lv (lv' := [(0, .ref 0), (1, .int (iI (n)))]) rfl ?_
  refine x_aload_n (i := 0) C dX12_end_0 rfl rfl ?_
  refine x_iconst C dX12_end_1 ?_
  refine x_putI C pkM_X12_157 (nlt rfl) rfl dX12_end_2 ?_
  refine x_gX (fun Yy1 eYy1 => ?_)
  have hHy1 : HG vM Yy1 := by
    rw [eYy1]
    exact hg_wF hH (p := ((-2147483648), 2147483647)) rfl ⟨by omega, by omega⟩
  have hFy1 : FR mmEN X Yy1 := by
    rw [eYy1]
    exact FR.upI hF (rfl)
  refine x_iload_n (i := 1) C dX12_end_5 rfl rfl ?_
  refine x_iconst C dX12_end_6 ?_
  refine x_aload_n (i := 0) C dX12_end_7 rfl rfl ?_
  refine x_getRs (r := 2) C fkM_X12_13 (nlt rfl) rfl (HG.rR hHy1 (k := 0) (i := 2) rfl rfl) dX12_end_8 ?_
  refine x_iconst C dX12_end_11 ?_
  refine x_iald C (nlt rfl) rfl rfl (nle rfl) (by omega) (by omega) dX12_end_12 ?_
  refine x_gen (fun v2 ev2 => ?_)
  replace ev2 : v2 = Yy1.1 2 0 := ev2
  have qv2 : (0 : Int) ≤ v2 ∧ v2 ≤ (600 : Int) := by
    rw [ev2]
    exact hHy1.rF (k := 2) (i := 0) (p := (0, 600)) rfl rfl
  have kv2 : v2 = X.1 2 0 := by rw [ev2, eYy1, upI_nc (by decide)]
  refine x_callS (As := [.int (iI (n)), .int (iI (0)), .int (iI (v2))]) C (by exact (q_in (v := n) (a := 0) (b := v2) ⟨by omega, by omega⟩ ⟨by omega, by omega⟩ ⟨by omega, by omega⟩)) ckX12_165 sm_X12_in rfl rfl (nle rfl) (by exact ⟨nle rfl, nle rfl⟩) dX12_end_13 ?_
  rintro _ Xv3 ⟨hxv3, v3, rfl, ev3⟩
  rw [hxv3]
  refine Wx_st (st' := [.int (iI (v3))]) rfl ?_
  refine x_if_ne (tgt := 21) C dX12_end_16 (by decide) ⟨by omega, by omega⟩ (fun h4 => ?_) (fun h4 => ?_)
  · refine x_aload_n (i := 0) C dX12_end_21 rfl rfl ?_
    refine x_getRs (r := 2) C fkM_X12_13 (nlt rfl) rfl (HG.rR hHy1 (k := 0) (i := 2) rfl rfl) dX12_end_22 ?_
    refine x_iconst C dX12_end_25 ?_
    refine x_iload_n (i := 1) C dX12_end_26 rfl rfl ?_
    refine x_iast C (nlt rfl) rfl rfl (nle rfl) (by omega) (by omega) dX12_end_27 ?_
    refine x_gX (fun Yy5 eYy5 => ?_)
    have hHy5 : HG vM Yy5 := by
      rw [eYy5]
      exact hg_wF hHy1 (p := (0, 600)) rfl ⟨by omega, by omega⟩
    have hFy5 : FR mmEN X Yy5 := by
      rw [eYy5]
      exact FR.upI hFy1 (rfl)
    replace eYy5 : Yy5 = upI Yy1 2 0 (n) := eYy5
    refine x_iload_n (i := 1) C dX12_end_28 rfl rfl ?_
    exact x_iret C hQ dX12_end_29 (⟨⟨_, rfl, ⟨by omega, by omega⟩, .inl ⟨by omega, by omega, rfl, by rw [eYy5, upI_at]⟩⟩, hHy5, hFy5⟩)
  · refine x_iconst C dX12_end_19 ?_
    exact x_iret C hQ dX12_end_20 (⟨⟨_, rfl, ⟨by decide, by decide⟩, .inr ⟨by omega, rfl, by rw [eYy1, upI_nc (by decide)]⟩⟩, hHy1, hFy1⟩)
