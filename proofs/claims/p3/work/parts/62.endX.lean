/-! ===== the class: end ===== -/
theorem dX11_end_0 : decode cX11_end 0 = .ok (.iload_n 1, 1) := by decide +kernel
theorem dX11_end_1 : decode cX11_end 1 = .ok (.ifCond .lt 14, 3) := by decide +kernel
theorem dX11_end_4 : decode cX11_end 4 = .ok (.iload_n 1, 1) := by decide +kernel
theorem dX11_end_5 : decode cX11_end 5 = .ok (.aload_n 0, 1) := by decide +kernel
theorem dX11_end_6 : decode cX11_end 6 = .ok (.getfield 10, 3) := by decide +kernel
theorem dX11_end_9 : decode cX11_end 9 = .ok (.getfield 57, 3) := by decide +kernel
theorem dX11_end_12 : decode cX11_end 12 = .ok (.if_icmp .le 5, 3) := by decide +kernel
theorem dX11_end_15 : decode cX11_end 15 = .ok (.iconst (-1), 1) := by decide +kernel
theorem dX11_end_16 : decode cX11_end 16 = .ok (.ireturn, 1) := by decide +kernel
theorem dX11_end_17 : decode cX11_end 17 = .ok (.aload_n 0, 1) := by decide +kernel
theorem dX11_end_18 : decode cX11_end 18 = .ok (.getfield 10, 3) := by decide +kernel
theorem dX11_end_21 : decode cX11_end 21 = .ok (.iload_n 1, 1) := by decide +kernel
theorem dX11_end_22 : decode cX11_end 22 = .ok (.putfield 57, 3) := by decide +kernel
theorem dX11_end_25 : decode cX11_end 25 = .ok (.iload_n 1, 1) := by decide +kernel
theorem dX11_end_26 : decode cX11_end 26 = .ok (.ireturn, 1) := by decide +kernel

abbrev mdEN : List (Nat × Option Nat) := [(1, some 0)]
set_option maxHeartbeats 4000000 in
set_option maxRecDepth 100000 in
theorem xp_end {D : va_G} {ad : Nat → Nat} {cA : Nat → ClassId} {X : XT} {n : Int} (nn : inR n) (hH : HG vX X) (hF : FR mdEN X X) : MetX (wX D ad cA) yX11_end cX11_end 2 (some .int) 0 0 [.ref 0, .int (iI (n))] X (fun r X1 => (∃ u : Int, r = some (.int (iI u)) ∧ inR u ∧ ((0 ≤ n ∧ n ≤ X.1 1 0 ∧ u = n ∧ X1.1 1 0 = n) ∨ (¬ (0 ≤ n ∧ n ≤ X.1 1 0) ∧ u = -1 ∧ X1.1 1 0 = X.1 1 0))) ∧ HG vX X1 ∧ FR mdEN X X1) := by
  unfold inR at nn
  refine MetX.mk (own := RX11) (by decide +kernel) rfl (nle rfl) (fun E C hQ => ?_)
  refine Wx_lv (lv' := [(0, .ref 0), (1, .int (iI (n)))]) rfl ?_
  refine x_iload_n (i := 1) C dX11_end_0 rfl rfl ?_
  refine x_if_lt (tgt := 15) C dX11_end_1 (by decide) ⟨by omega, by omega⟩ (fun h1 => ?_) (fun h1 => ?_)
  · refine x_iconst C dX11_end_15 ?_
    exact x_iret C hQ dX11_end_16 (⟨⟨_, rfl, ⟨by decide, by decide⟩, .inr ⟨by omega, rfl, rfl⟩⟩, hH, hF⟩)
  · refine x_iload_n (i := 1) C dX11_end_4 rfl rfl ?_
    refine x_aload_n (i := 0) C dX11_end_5 rfl rfl ?_
    refine x_getRs (r := 1) C fkX_X11_10 (nlt rfl) rfl (HG.rR hH (k := 0) (i := 0) rfl rfl) dX11_end_6 ?_
    refine x_getI C fkX_X11_57 (nlt rfl) rfl dX11_end_9 ?_
    refine x_gen (fun v2 ev2 => ?_)
    have qv2 : (0 : Int) ≤ v2 ∧ v2 ≤ (600 : Int) := by
      rw [ev2]
      exact hH.rF (k := 1) (i := 0) rfl rfl
    refine x_icmp_le (tgt := 17) C dX11_end_12 (by decide) ⟨by omega, by omega⟩ ⟨by omega, by omega⟩ (fun h3 => ?_) (fun h3 => ?_)
    · refine x_aload_n (i := 0) C dX11_end_17 rfl rfl ?_
      refine x_getRs (r := 1) C fkX_X11_10 (nlt rfl) rfl (HG.rR hH (k := 0) (i := 0) rfl rfl) dX11_end_18 ?_
      refine x_iload_n (i := 1) C dX11_end_21 rfl rfl ?_
      refine x_putI C pkX_X11_57 (nlt rfl) rfl dX11_end_22 ?_
      refine x_gX (fun Yy4 eYy4 => ?_)
      have hHy4 : HG vX Yy4 := by
        rw [eYy4]
        exact hg_wF hH (p := (0, 600)) rfl ⟨by omega, by omega⟩
      have hFy4 : FR mdEN X Yy4 := by
        rw [eYy4]
        exact FR.upI hF (rfl)
      replace eYy4 : Yy4 = upI X 1 0 (n) := eYy4
      refine x_iload_n (i := 1) C dX11_end_25 rfl rfl ?_
      exact x_iret C hQ dX11_end_26 (⟨⟨_, rfl, ⟨by omega, by omega⟩, .inl ⟨by omega, by omega, rfl, by rw [eYy4, upI_at]⟩⟩, hHy4, hFy4⟩)
    · refine x_iconst C dX11_end_15 ?_
      exact x_iret C hQ dX11_end_16 (⟨⟨_, rfl, ⟨by decide, by decide⟩, .inr ⟨by omega, rfl, rfl⟩⟩, hH, hF⟩)
