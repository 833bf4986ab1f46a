/-! ===== the class: count, fault, image, again ===== -/
theorem dX11_count_0 : decode cX11_count 0 = .ok (.iload_n 1, 1) := by decide +kernel
theorem dX11_count_1 : decode cX11_count 1 = .ok (.ifCond .lt 20, 3) := by decide +kernel
theorem dX11_count_4 : decode cX11_count 4 = .ok (.iload_n 1, 1) := by decide +kernel
theorem dX11_count_5 : decode cX11_count 5 = .ok (.iconst 3, 1) := by decide +kernel
theorem dX11_count_6 : decode cX11_count 6 = .ok (.if_icmp .ge 15, 3) := by decide +kernel
theorem dX11_count_9 : decode cX11_count 9 = .ok (.aload_n 0, 1) := by decide +kernel
theorem dX11_count_10 : decode cX11_count 10 = .ok (.getfield 10, 3) := by decide +kernel
theorem dX11_count_13 : decode cX11_count 13 = .ok (.getfield 280, 3) := by decide +kernel
theorem dX11_count_16 : decode cX11_count 16 = .ok (.iload_n 1, 1) := by decide +kernel
theorem dX11_count_17 : decode cX11_count 17 = .ok (.iaload, 1) := by decide +kernel
theorem dX11_count_18 : decode cX11_count 18 = .ok (.goto 5, 3) := by decide +kernel
theorem dX11_count_21 : decode cX11_count 21 = .ok (.bipush (-2), 2) := by decide +kernel
theorem dX11_count_23 : decode cX11_count 23 = .ok (.ireturn, 1) := by decide +kernel
theorem dX11_fault_0 : decode cX11_fault 0 = .ok (.iload_n 1, 1) := by decide +kernel
theorem dX11_fault_1 : decode cX11_fault 1 = .ok (.ifCond .ne 13, 3) := by decide +kernel
theorem dX11_fault_4 : decode cX11_fault 4 = .ok (.aload_n 0, 1) := by decide +kernel
theorem dX11_fault_5 : decode cX11_fault 5 = .ok (.getfield 10, 3) := by decide +kernel
theorem dX11_fault_8 : decode cX11_fault 8 = .ok (.getfield 65, 3) := by decide +kernel
theorem dX11_fault_11 : decode cX11_fault 11 = .ok (.goto 19, 3) := by decide +kernel
theorem dX11_fault_14 : decode cX11_fault 14 = .ok (.iload_n 1, 1) := by decide +kernel
theorem dX11_fault_15 : decode cX11_fault 15 = .ok (.iconst 1, 1) := by decide +kernel
theorem dX11_fault_16 : decode cX11_fault 16 = .ok (.if_icmp .ne 13, 3) := by decide +kernel
theorem dX11_fault_19 : decode cX11_fault 19 = .ok (.aload_n 0, 1) := by decide +kernel
theorem dX11_fault_20 : decode cX11_fault 20 = .ok (.getfield 10, 3) := by decide +kernel
theorem dX11_fault_23 : decode cX11_fault 23 = .ok (.getfield 68, 3) := by decide +kernel
theorem dX11_fault_26 : decode cX11_fault 26 = .ok (.goto 4, 3) := by decide +kernel
theorem dX11_fault_29 : decode cX11_fault 29 = .ok (.iconst (-1), 1) := by decide +kernel
theorem dX11_fault_30 : decode cX11_fault 30 = .ok (.ireturn, 1) := by decide +kernel
theorem dX11_image_0 : decode cX11_image 0 = .ok (.iload_n 1, 1) := by decide +kernel
theorem dX11_image_1 : decode cX11_image 1 = .ok (.ifCond .lt 8, 3) := by decide +kernel
theorem dX11_image_4 : decode cX11_image 4 = .ok (.iload_n 1, 1) := by decide +kernel
theorem dX11_image_5 : decode cX11_image 5 = .ok (.iconst 3, 1) := by decide +kernel
theorem dX11_image_6 : decode cX11_image 6 = .ok (.if_icmp .lt 5, 3) := by decide +kernel
theorem dX11_image_9 : decode cX11_image 9 = .ok (.iconst 0, 1) := by decide +kernel
theorem dX11_image_10 : decode cX11_image 10 = .ok (.ireturn, 1) := by decide +kernel
theorem dX11_image_11 : decode cX11_image 11 = .ok (.aload_n 0, 1) := by decide +kernel
theorem dX11_image_12 : decode cX11_image 12 = .ok (.getfield 16, 3) := by decide +kernel
theorem dX11_image_15 : decode cX11_image 15 = .ok (.iload_n 1, 1) := by decide +kernel
theorem dX11_image_16 : decode cX11_image 16 = .ok (.aaload, 1) := by decide +kernel
theorem dX11_image_17 : decode cX11_image 17 = .ok (.aload_n 0, 1) := by decide +kernel
theorem dX11_image_18 : decode cX11_image 18 = .ok (.getfield 10, 3) := by decide +kernel
theorem dX11_image_21 : decode cX11_image 21 = .ok (.invokevirtual 283, 3) := by decide +kernel
theorem dX11_image_24 : decode cX11_image 24 = .ok (.aload_n 0, 1) := by decide +kernel
theorem dX11_image_25 : decode cX11_image 25 = .ok (.getfield 20, 3) := by decide +kernel
theorem dX11_image_28 : decode cX11_image 28 = .ok (.iload_n 1, 1) := by decide +kernel
theorem dX11_image_29 : decode cX11_image 29 = .ok (.iconst 1, 1) := by decide +kernel
theorem dX11_image_30 : decode cX11_image 30 = .ok (.bastore, 1) := by decide +kernel
theorem dX11_image_31 : decode cX11_image 31 = .ok (.iconst 1, 1) := by decide +kernel
theorem dX11_image_32 : decode cX11_image 32 = .ok (.ireturn, 1) := by decide +kernel
theorem dX11_again_0 : decode cX11_again 0 = .ok (.iload_n 1, 1) := by decide +kernel
theorem dX11_again_1 : decode cX11_again 1 = .ok (.ifCond .lt 17, 3) := by decide +kernel
theorem dX11_again_4 : decode cX11_again 4 = .ok (.iload_n 1, 1) := by decide +kernel
theorem dX11_again_5 : decode cX11_again 5 = .ok (.iconst 3, 1) := by decide +kernel
theorem dX11_again_6 : decode cX11_again 6 = .ok (.if_icmp .ge 12, 3) := by decide +kernel
theorem dX11_again_9 : decode cX11_again 9 = .ok (.aload_n 0, 1) := by decide +kernel
theorem dX11_again_10 : decode cX11_again 10 = .ok (.getfield 20, 3) := by decide +kernel
theorem dX11_again_13 : decode cX11_again 13 = .ok (.iload_n 1, 1) := by decide +kernel
theorem dX11_again_14 : decode cX11_again 14 = .ok (.baload, 1) := by decide +kernel
theorem dX11_again_15 : decode cX11_again 15 = .ok (.ifCond .ne 5, 3) := by decide +kernel
theorem dX11_again_18 : decode cX11_again 18 = .ok (.iconst 0, 1) := by decide +kernel
theorem dX11_again_19 : decode cX11_again 19 = .ok (.ireturn, 1) := by decide +kernel
theorem dX11_again_20 : decode cX11_again 20 = .ok (.aload_n 0, 1) := by decide +kernel
theorem dX11_again_21 : decode cX11_again 21 = .ok (.getfield 10, 3) := by decide +kernel
theorem dX11_again_24 : decode cX11_again 24 = .ok (.aload_n 0, 1) := by decide +kernel
theorem dX11_again_25 : decode cX11_again 25 = .ok (.getfield 16, 3) := by decide +kernel
theorem dX11_again_28 : decode cX11_again 28 = .ok (.iload_n 1, 1) := by decide +kernel
theorem dX11_again_29 : decode cX11_again 29 = .ok (.aaload, 1) := by decide +kernel
theorem dX11_again_30 : decode cX11_again 30 = .ok (.invokevirtual 283, 3) := by decide +kernel
theorem dX11_again_33 : decode cX11_again 33 = .ok (.iconst 1, 1) := by decide +kernel
theorem dX11_again_34 : decode cX11_again 34 = .ok (.ireturn, 1) := by decide +kernel

set_option maxHeartbeats 4000000 in
set_option maxRecDepth 100000 in
theorem c_count {D : va_G} {ad : Nat → Nat} {cA : Nat → ClassId} {X : XT} {n : Int} (nn : inR n) (hH : HG vX X) : MetX (wX D ad cA) yX11_count cX11_count 2 (some .int) 0 0 [.ref 0, .int (iI (n))] X (fun r X' => X' = X ∧ ∃ u : Int, r = some (.int (iI u)) ∧ inR u ∧ ((0 ≤ n ∧ n ≤ 2 ∧ u = X.1 3 n.toNat) ∨ (¬ (0 ≤ n ∧ n ≤ 2) ∧ u = -2))) := by
  unfold inR at nn
  refine MetX.mk (own := RX11) (by decide +kernel) rfl (nle rfl) (fun E C hQ => ?_)
  refine Wx_lv (lv' := [(0, .ref 0), (1, .int (iI (n)))]) rfl ?_
  refine x_iload_n (i := 1) C dX11_count_0 rfl rfl ?_
  refine x_if_lt (tgt := 21) C dX11_count_1 (by decide) ⟨by omega, by omega⟩ (fun h1 => ?_) (fun h1 => ?_)
  · refine x_bipush C dX11_count_21 (by decide) ?_
    exact x_iret C hQ dX11_count_23 (⟨rfl, _, rfl, ⟨by omega, by omega⟩, .inr ⟨by omega, rfl⟩⟩)
  · refine x_iload_n (i := 1) C dX11_count_4 rfl rfl ?_
    refine x_iconst C dX11_count_5 ?_
    refine x_icmp_ge (tgt := 21) C dX11_count_6 (by decide) ⟨by omega, by omega⟩ ⟨by omega, by omega⟩ (fun h2 => ?_) (fun h2 => ?_)
    · refine x_bipush C dX11_count_21 (by decide) ?_
      exact x_iret C hQ dX11_count_23 (⟨rfl, _, rfl, ⟨by omega, by omega⟩, .inr ⟨by omega, rfl⟩⟩)
    · refine x_aload_n (i := 0) C dX11_count_9 rfl rfl ?_
      refine x_getRs (r := 1) C fkX_X11_10 (nlt rfl) rfl (HG.rR hH (k := 0) (i := 0) rfl rfl) dX11_count_10 ?_
      refine x_getRs (r := 3) C fkX_X11_280 (nlt rfl) rfl (HG.rR hH (k := 1) (i := 4) rfl rfl) dX11_count_13 ?_
      refine x_iload_n (i := 1) C dX11_count_16 rfl rfl ?_
      refine x_iald C (nlt rfl) rfl rfl (nle rfl) (by omega) (by omega) dX11_count_17 ?_
      refine x_gen (fun v3 ev3 => ?_)
      have qv3 : (0 : Int) ≤ v3 ∧ v3 ≤ (3 : Int) := by
        rw [ev3]
        exact hH.rA (k := 3) (n := 3) (p := (0, 3)) (nlt rfl) rfl (by decide +kernel) (by omega)
      refine x_goto (tgt := 23) C dX11_count_18 (by decide) ?_
      exact x_iret C hQ dX11_count_23 (⟨rfl, _, rfl, ⟨by omega, by omega⟩, .inl ⟨by omega, by omega, ev3⟩⟩)
set_option maxHeartbeats 4000000 in
set_option maxRecDepth 100000 in
theorem c_fault {D : va_G} {ad : Nat → Nat} {cA : Nat → ClassId} {X : XT} {n : Int} (nn : inR n) (hH : HG vX X) : MetX (wX D ad cA) yX11_fault cX11_fault 2 (some .int) 0 0 [.ref 0, .int (iI (n))] X (fun r X' => X' = X ∧ ∃ u : Int, r = some (.int (iI u)) ∧ inR u ∧ ((n = 0 ∧ u = X.1 1 1) ∨ (n = 1 ∧ u = X.1 1 2) ∨ (n ≠ 0 ∧ n ≠ 1 ∧ u = -1))) := by
  unfold inR at nn
  refine MetX.mk (own := RX11) (by decide +kernel) rfl (nle rfl) (fun E C hQ => ?_)
  refine Wx_lv (lv' := [(0, .ref 0), (1, .int (iI (n)))]) rfl ?_
  refine x_iload_n (i := 1) C dX11_fault_0 rfl rfl ?_
  refine x_if_ne (tgt := 14) C dX11_fault_1 (by decide) ⟨by omega, by omega⟩ (fun h1 => ?_) (fun h1 => ?_)
  · refine x_iload_n (i := 1) C dX11_fault_14 rfl rfl ?_
    refine x_iconst C dX11_fault_15 ?_
    refine x_icmp_ne (tgt := 29) C dX11_fault_16 (by decide) ⟨by omega, by omega⟩ ⟨by omega, by omega⟩ (fun h2 => ?_) (fun h2 => ?_)
    · refine x_iconst C dX11_fault_29 ?_
      exact x_iret C hQ dX11_fault_30 (⟨rfl, _, rfl, ⟨by omega, by omega⟩, by omega⟩)
    · refine x_aload_n (i := 0) C dX11_fault_19 rfl rfl ?_
      refine x_getRs (r := 1) C fkX_X11_10 (nlt rfl) rfl (HG.rR hH (k := 0) (i := 0) rfl rfl) dX11_fault_20 ?_
      refine x_getI C fkX_X11_68 (nlt rfl) rfl dX11_fault_23 ?_
      refine x_gen (fun v3 ev3 => ?_)
      have qv3 : ((-1) : Int) ≤ v3 ∧ v3 ≤ (600 : Int) := by
        rw [ev3]
        exact hH.rF (k := 1) (i := 2) rfl rfl
      refine x_goto (tgt := 30) C dX11_fault_26 (by decide) ?_
      exact x_iret C hQ dX11_fault_30 (⟨rfl, _, rfl, ⟨by omega, by omega⟩, by omega⟩)
  · refine x_aload_n (i := 0) C dX11_fault_4 rfl rfl ?_
    refine x_getRs (r := 1) C fkX_X11_10 (nlt rfl) rfl (HG.rR hH (k := 0) (i := 0) rfl rfl) dX11_fault_5 ?_
    refine x_getI C fkX_X11_65 (nlt rfl) rfl dX11_fault_8 ?_
    refine x_gen (fun v4 ev4 => ?_)
    have qv4 : (0 : Int) ≤ v4 ∧ v4 ≤ (4 : Int) := by
      rw [ev4]
      exact hH.rF (k := 1) (i := 1) rfl rfl
    refine x_goto (tgt := 30) C dX11_fault_11 (by decide) ?_
    exact x_iret C hQ dX11_fault_30 (⟨rfl, _, rfl, ⟨by omega, by omega⟩, by omega⟩)
abbrev mdIi0 : List (Nat × Option Nat) := [(104, some 0), (104, some 1), (104, some 2), (105, none), (106, none), (108, none), (110, some 0), (110, some 1), (110, some 2), (110, some 3), (110, some 4), (111, none), (112, none), (113, some 0), (113, some 1), (113, some 2), (113, some 3), (113, some 4), (114, none), (115, none), (116, some 0), (117, none), (118, none), (119, some 0), (120, none), (121, none), (20, some 0)]
set_option maxHeartbeats 4000000 in
set_option maxRecDepth 100000 in
theorem c_image0 {D : va_G} {ad : Nat → Nat} {cA : Nat → ClassId} {X : XT} (hH : HG vX X) (hF : FR mdIi0 X X) : MetX (wX D ad cA) yX11_image cX11_image 2 (some .boolean) 3 103 [.ref 0, .int (iI (0))] X (fun r X1 => r = some (.int (iI 1)) ∧ HG vX X1 ∧ FR mdIi0 X X1 ∧ CPS sd1 sd0 X X1 ∧ X1.1 20 0 = 1) := by
  refine MetX.mk (own := RX11) (by decide +kernel) rfl (nle rfl) (fun E C hQ => ?_)
  refine Wx_lv (lv' := [(0, .ref 0), (1, .int (iI (0)))]) rfl ?_
  refine x_iload_n (i := 1) C dX11_image_0 rfl rfl ?_
  refine x_if_lt (tgt := 9) C dX11_image_1 (by decide) ⟨by omega, by omega⟩ (fun h1 => by exfalso; omega) (fun h1 => ?_)
  refine x_iload_n (i := 1) C dX11_image_4 rfl rfl ?_
  refine x_iconst C dX11_image_5 ?_
  refine x_icmp_lt (tgt := 11) C dX11_image_6 (by decide) ⟨by omega, by omega⟩ ⟨by omega, by omega⟩ (fun h2 => ?_) (fun h2 => by exfalso; omega)
  refine x_aload_n (i := 0) C dX11_image_11 rfl rfl ?_
  refine x_getRs (r := 19) C fkX_X11_16 (nlt rfl) rfl (HG.rR hH (k := 0) (i := 1) rfl rfl) dX11_image_12 ?_
  refine x_iload_n (i := 1) C dX11_image_15 rfl rfl ?_
  refine x_aald (r := some 104) C (nlt rfl) rfl rfl (nle rfl) (by omega) (by omega) (HG.rR hH (k := 19) (i := 0) rfl rfl) dX11_image_16 ?_
  refine x_aload_n (i := 0) C dX11_image_17 rfl rfl ?_
  refine x_getRs (r := 1) C fkX_X11_10 (nlt rfl) rfl (HG.rR hH (k := 0) (i := 0) rfl rfl) dX11_image_18 ?_
  refine x_callV (As := [.ref 1]) C (by exact (c_kt104_1 hH FR.rf)) ckX11_283 im_X8_copy se_X8_copy (nlt rfl) rfl rfl rfl rfl (nle rfl) (by exact ⟨nle rfl, nle rfl⟩) dX11_image_21 ?_
  rintro _ Yy3 ⟨rfl, hHy3, hGy3, p0, p1, p2, p3, p4, p5, p6, p7, p8, p9⟩
  have hFy3 : FR mdIi0 X Yy3 := FR.tr hF hGy3 (by decide)
  refine Wx_st (st' := []) rfl ?_
  refine x_aload_n (i := 0) C dX11_image_24 rfl rfl ?_
  refine x_getRs (r := 20) C fkX_X11_20 (nlt rfl) rfl (HG.rR hHy3 (k := 0) (i := 2) rfl rfl) dX11_image_25 ?_
  refine x_iload_n (i := 1) C dX11_image_28 rfl rfl ?_
  refine x_iconst C dX11_image_29 ?_
  refine x_zast C (nlt rfl) rfl rfl (nle rfl) (by omega) (by omega) (by omega) dX11_image_30 ?_
  refine x_gX (fun Yy4 eYy4 => ?_)
  have hHy4 : HG vX Yy4 := by
    rw [eYy4]
    exact hg_wF hHy3 (p := (0, 1)) rfl ⟨by omega, by omega⟩
  have hFy4 : FR mdIi0 X Yy4 := by
    rw [eYy4]
    exact FR.upI hFy3 (rfl)
  replace eYy4 : Yy4 = upI Yy3 20 0 (1) := eYy4
  refine x_iconst C dX11_image_31 ?_
  exact x_zret C hQ (by omega) dX11_image_32 (⟨rfl, hHy4, hFy4, cps_w1 (c := sd0) (X := X) (⟨fun j hj => by rcases (show j = 0 ∨ j = 1 ∨ j = 2 by omega) with rfl | rfl | rfl; exact p0; exact p1; exact p2, p3, p4, p5, p6, p7, p8, p9⟩) (show FR [(20, some 0)] Yy3 Yy4 from by rw [eYy4]; exact FR.upI FR.rf rfl) rfl, by rw [eYy4, upI_at]⟩)
abbrev mdIi1 : List (Nat × Option Nat) := [(122, some 0), (122, some 1), (122, some 2), (123, none), (124, none), (126, none), (128, some 0), (128, some 1), (128, some 2), (128, some 3), (128, some 4), (129, none), (130, none), (131, some 0), (131, some 1), (131, some 2), (131, some 3), (131, some 4), (132, none), (133, none), (134, some 0), (135, none), (136, none), (137, some 0), (138, none), (139, none), (20, some 1)]
set_option maxHeartbeats 4000000 in
set_option maxRecDepth 100000 in
theorem c_image1 {D : va_G} {ad : Nat → Nat} {cA : Nat → ClassId} {X : XT} (hH : HG vX X) (hF : FR mdIi1 X X) : MetX (wX D ad cA) yX11_image cX11_image 2 (some .boolean) 3 103 [.ref 0, .int (iI (1))] X (fun r X1 => r = some (.int (iI 1)) ∧ HG vX X1 ∧ FR mdIi1 X X1 ∧ CPS sd2 sd0 X X1 ∧ X1.1 20 1 = 1) := by
  refine MetX.mk (own := RX11) (by decide +kernel) rfl (nle rfl) (fun E C hQ => ?_)
  refine Wx_lv (lv' := [(0, .ref 0), (1, .int (iI (1)))]) rfl ?_
  refine x_iload_n (i := 1) C dX11_image_0 rfl rfl ?_
  refine x_if_lt (tgt := 9) C dX11_image_1 (by decide) ⟨by omega, by omega⟩ (fun h1 => by exfalso; omega) (fun h1 => ?_)
  refine x_iload_n (i := 1) C dX11_image_4 rfl rfl ?_
  refine x_iconst C dX11_image_5 ?_
  refine x_icmp_lt (tgt := 11) C dX11_image_6 (by decide) ⟨by omega, by omega⟩ ⟨by omega, by omega⟩ (fun h2 => ?_) (fun h2 => by exfalso; omega)
  refine x_aload_n (i := 0) C dX11_image_11 rfl rfl ?_
  refine x_getRs (r := 19) C fkX_X11_16 (nlt rfl) rfl (HG.rR hH (k := 0) (i := 1) rfl rfl) dX11_image_12 ?_
  refine x_iload_n (i := 1) C dX11_image_15 rfl rfl ?_
  refine x_aald (r := some 122) C (nlt rfl) rfl rfl (nle rfl) (by omega) (by omega) (HG.rR hH (k := 19) (i := 1) rfl rfl) dX11_image_16 ?_
  refine x_aload_n (i := 0) C dX11_image_17 rfl rfl ?_
  refine x_getRs (r := 1) C fkX_X11_10 (nlt rfl) rfl (HG.rR hH (k := 0) (i := 0) rfl rfl) dX11_image_18 ?_
  refine x_callV (As := [.ref 1]) C (by exact (c_kt122_1 hH FR.rf)) ckX11_283 im_X8_copy se_X8_copy (nlt rfl) rfl rfl rfl rfl (nle rfl) (by exact ⟨nle rfl, nle rfl⟩) dX11_image_21 ?_
  rintro _ Yy3 ⟨rfl, hHy3, hGy3, p0, p1, p2, p3, p4, p5, p6, p7, p8, p9⟩
  have hFy3 : FR mdIi1 X Yy3 := FR.tr hF hGy3 (by decide)
  refine Wx_st (st' := []) rfl ?_
  refine x_aload_n (i := 0) C dX11_image_24 rfl rfl ?_
  refine x_getRs (r := 20) C fkX_X11_20 (nlt rfl) rfl (HG.rR hHy3 (k := 0) (i := 2) rfl rfl) dX11_image_25 ?_
  refine x_iload_n (i := 1) C dX11_image_28 rfl rfl ?_
  refine x_iconst C dX11_image_29 ?_
  refine x_zast C (nlt rfl) rfl rfl (nle rfl) (by omega) (by omega) (by omega) dX11_image_30 ?_
  refine x_gX (fun Yy4 eYy4 => ?_)
  have hHy4 : HG vX Yy4 := by
    rw [eYy4]
    exact hg_wF hHy3 (p := (0, 1)) rfl ⟨by omega, by omega⟩
  have hFy4 : FR mdIi1 X Yy4 := by
    rw [eYy4]
    exact FR.upI hFy3 (rfl)
  replace eYy4 : Yy4 = upI Yy3 20 1 (1) := eYy4
  refine x_iconst C dX11_image_31 ?_
  exact x_zret C hQ (by omega) dX11_image_32 (⟨rfl, hHy4, hFy4, cps_w2 (c := sd0) (X := X) (⟨fun j hj => by rcases (show j = 0 ∨ j = 1 ∨ j = 2 by omega) with rfl | rfl | rfl; exact p0; exact p1; exact p2, p3, p4, p5, p6, p7, p8, p9⟩) (show FR [(20, some 1)] Yy3 Yy4 from by rw [eYy4]; exact FR.upI FR.rf rfl) rfl, by rw [eYy4, upI_at]⟩)
abbrev mdIi2 : List (Nat × Option Nat) := [(140, some 0), (140, some 1), (140, some 2), (141, none), (142, none), (144, none), (146, some 0), (146, some 1), (146, some 2), (146, some 3), (146, some 4), (147, none), (148, none), (149, some 0), (149, some 1), (149, some 2), (149, some 3), (149, some 4), (150, none), (151, none), (152, some 0), (153, none), (154, none), (155, some 0), (156, none), (157, none), (20, some 2)]
set_option maxHeartbeats 4000000 in
set_option maxRecDepth 100000 in
theorem c_image2 {D : va_G} {ad : Nat → Nat} {cA : Nat → ClassId} {X : XT} (hH : HG vX X) (hF : FR mdIi2 X X) : MetX (wX D ad cA) yX11_image cX11_image 2 (some .boolean) 3 103 [.ref 0, .int (iI (2))] X (fun r X1 => r = some (.int (iI 1)) ∧ HG vX X1 ∧ FR mdIi2 X X1 ∧ CPS sd3 sd0 X X1 ∧ X1.1 20 2 = 1) := by
  refine MetX.mk (own := RX11) (by decide +kernel) rfl (nle rfl) (fun E C hQ => ?_)
  refine Wx_lv (lv' := [(0, .ref 0), (1, .int (iI (2)))]) rfl ?_
  refine x_iload_n (i := 1) C dX11_image_0 rfl rfl ?_
  refine x_if_lt (tgt := 9) C dX11_image_1 (by decide) ⟨by omega, by omega⟩ (fun h1 => by exfalso; omega) (fun h1 => ?_)
  refine x_iload_n (i := 1) C dX11_image_4 rfl rfl ?_
  refine x_iconst C dX11_image_5 ?_
  refine x_icmp_lt (tgt := 11) C dX11_image_6 (by decide) ⟨by omega, by omega⟩ ⟨by omega, by omega⟩ (fun h2 => ?_) (fun h2 => by exfalso; omega)
  refine x_aload_n (i := 0) C dX11_image_11 rfl rfl ?_
  refine x_getRs (r := 19) C fkX_X11_16 (nlt rfl) rfl (HG.rR hH (k := 0) (i := 1) rfl rfl) dX11_image_12 ?_
  refine x_iload_n (i := 1) C dX11_image_15 rfl rfl ?_
  refine x_aald (r := some 140) C (nlt rfl) rfl rfl (nle rfl) (by omega) (by omega) (HG.rR hH (k := 19) (i := 2) rfl rfl) dX11_image_16 ?_
  refine x_aload_n (i := 0) C dX11_image_17 rfl rfl ?_
  refine x_getRs (r := 1) C fkX_X11_10 (nlt rfl) rfl (HG.rR hH (k := 0) (i := 0) rfl rfl) dX11_image_18 ?_
  refine x_callV (As := [.ref 1]) C (by exact (c_kt140_1 hH FR.rf)) ckX11_283 im_X8_copy se_X8_copy (nlt rfl) rfl rfl rfl rfl (nle rfl) (by exact ⟨nle rfl, nle rfl⟩) dX11_image_21 ?_
  rintro _ Yy3 ⟨rfl, hHy3, hGy3, p0, p1, p2, p3, p4, p5, p6, p7, p8, p9⟩
  have hFy3 : FR mdIi2 X Yy3 := FR.tr hF hGy3 (by decide)
  refine Wx_st (st' := []) rfl ?_
  refine x_aload_n (i := 0) C dX11_image_24 rfl rfl ?_
  refine x_getRs (r := 20) C fkX_X11_20 (nlt rfl) rfl (HG.rR hHy3 (k := 0) (i := 2) rfl rfl) dX11_image_25 ?_
  refine x_iload_n (i := 1) C dX11_image_28 rfl rfl ?_
  refine x_iconst C dX11_image_29 ?_
  refine x_zast C (nlt rfl) rfl rfl (nle rfl) (by omega) (by omega) (by omega) dX11_image_30 ?_
  refine x_gX (fun Yy4 eYy4 => ?_)
  have hHy4 : HG vX Yy4 := by
    rw [eYy4]
    exact hg_wF hHy3 (p := (0, 1)) rfl ⟨by omega, by omega⟩
  have hFy4 : FR mdIi2 X Yy4 := by
    rw [eYy4]
    exact FR.upI hFy3 (rfl)
  replace eYy4 : Yy4 = upI Yy3 20 2 (1) := eYy4
  refine x_iconst C dX11_image_31 ?_
  exact x_zret C hQ (by omega) dX11_image_32 (⟨rfl, hHy4, hFy4, cps_w3 (c := sd0) (X := X) (⟨fun j hj => by rcases (show j = 0 ∨ j = 1 ∨ j = 2 by omega) with rfl | rfl | rfl; exact p0; exact p1; exact p2, p3, p4, p5, p6, p7, p8, p9⟩) (show FR [(20, some 2)] Yy3 Yy4 from by rw [eYy4]; exact FR.upI FR.rf rfl) rfl, by rw [eYy4, upI_at]⟩)
set_option maxHeartbeats 4000000 in
set_option maxRecDepth 100000 in
theorem c_imageN {D : va_G} {ad : Nat → Nat} {cA : Nat → ClassId} {X : XT} {n : Int} (nn : inR n) (hn : ¬ (0 ≤ n ∧ n ≤ 2)) (hH : HG vX X) : MetX (wX D ad cA) yX11_image cX11_image 2 (some .boolean) 3 103 [.ref 0, .int (iI (n))] X (fun r X' => X' = X ∧ r = some (.int (iI 0))) := by
  unfold inR at nn
  refine MetX.mk (own := RX11) (by decide +kernel) rfl (nle rfl) (fun E C hQ => ?_)
  refine Wx_lv (lv' := [(0, .ref 0), (1, .int (iI (n)))]) rfl ?_
  refine x_iload_n (i := 1) C dX11_image_0 rfl rfl ?_
  refine x_if_lt (tgt := 9) C dX11_image_1 (by decide) ⟨by omega, by omega⟩ (fun h1 => ?_) (fun h1 => ?_)
  · refine x_iconst C dX11_image_9 ?_
    exact x_zret C hQ (by omega) dX11_image_10 (⟨rfl, rfl⟩)
  · refine x_iload_n (i := 1) C dX11_image_4 rfl rfl ?_
    refine x_iconst C dX11_image_5 ?_
    refine x_icmp_lt (tgt := 11) C dX11_image_6 (by decide) ⟨by omega, by omega⟩ ⟨by omega, by omega⟩ (fun h2 => by exfalso; omega) (fun h2 => ?_)
    refine x_iconst C dX11_image_9 ?_
    exact x_zret C hQ (by omega) dX11_image_10 (⟨rfl, rfl⟩)
abbrev mdIa0 : List (Nat × Option Nat) := [(1, some 0), (1, some 1), (1, some 2), (2, none), (3, none), (5, none), (7, some 0), (7, some 1), (7, some 2), (7, some 3), (7, some 4), (8, none), (9, none), (10, some 0), (10, some 1), (10, some 2), (10, some 3), (10, some 4), (11, none), (12, none), (13, some 0), (14, none), (15, none), (16, some 0), (17, none), (18, none)]
set_option maxHeartbeats 4000000 in
set_option maxRecDepth 100000 in
theorem c_again0 {D : va_G} {ad : Nat → Nat} {cA : Nat → ClassId} {X : XT} (hH : HG vX X) (hF : FR mdIa0 X X) : MetX (wX D ad cA) yX11_again cX11_again 2 (some .boolean) 3 103 [.ref 0, .int (iI (0))] X (fun r X1 => ∃ u : Int, r = some (.int (iI u)) ∧ ((u = 1 ∧ X.1 20 0 ≠ 0 ∧ HG vX X1 ∧ FR mdIa0 X X1 ∧ CPS sd0 sd1 X X1) ∨ (u = 0 ∧ X.1 20 0 = 0 ∧ X1 = X))) := by
  refine MetX.mk (own := RX11) (by decide +kernel) rfl (nle rfl) (fun E C hQ => ?_)
  refine Wx_lv (lv' := [(0, .ref 0), (1, .int (iI (0)))]) rfl ?_
  refine x_iload_n (i := 1) C dX11_again_0 rfl rfl ?_
  refine x_if_lt (tgt := 18) C dX11_again_1 (by decide) ⟨by omega, by omega⟩ (fun h1 => by exfalso; omega) (fun h1 => ?_)
  refine x_iload_n (i := 1) C dX11_again_4 rfl rfl ?_
  refine x_iconst C dX11_again_5 ?_
  refine x_icmp_ge (tgt := 18) C dX11_again_6 (by decide) ⟨by omega, by omega⟩ ⟨by omega, by omega⟩ (fun h2 => by exfalso; omega) (fun h2 => ?_)
  refine x_aload_n (i := 0) C dX11_again_9 rfl rfl ?_
  refine x_getRs (r := 20) C fkX_X11_20 (nlt rfl) rfl (HG.rR hH (k := 0) (i := 2) rfl rfl) dX11_again_10 ?_
  refine x_iload_n (i := 1) C dX11_again_13 rfl rfl ?_
  refine x_zald C (nlt rfl) rfl rfl (nle rfl) (by omega) (by omega) dX11_again_14 ?_
  refine x_gen (fun v3 ev3 => ?_)
  replace ev3 : v3 = X.1 20 0 := ev3
  have qv3 : (0 : Int) ≤ v3 ∧ v3 ≤ (1 : Int) := by
    rw [ev3]
    exact hH.rF (k := 20) (i := 0) (p := (0, 1)) rfl rfl
  refine x_if_ne (tgt := 20) C dX11_again_15 (by decide) ⟨by omega, by omega⟩ (fun h4 => ?_) (fun h4 => ?_)
  · refine x_aload_n (i := 0) C dX11_again_20 rfl rfl ?_
    refine x_getRs (r := 1) C fkX_X11_10 (nlt rfl) rfl (HG.rR hH (k := 0) (i := 0) rfl rfl) dX11_again_21 ?_
    refine x_aload_n (i := 0) C dX11_again_24 rfl rfl ?_
    refine x_getRs (r := 19) C fkX_X11_16 (nlt rfl) rfl (HG.rR hH (k := 0) (i := 1) rfl rfl) dX11_again_25 ?_
    refine x_iload_n (i := 1) C dX11_again_28 rfl rfl ?_
    refine x_aald (r := some 104) C (nlt rfl) rfl rfl (nle rfl) (by omega) (by omega) (HG.rR hH (k := 19) (i := 0) rfl rfl) dX11_again_29 ?_
    refine x_callV (As := [.ref 104]) C (by exact (c_kt1_104 hH FR.rf)) ckX11_283 im_X8_copy se_X8_copy (nlt rfl) rfl rfl rfl rfl (nle rfl) (by exact ⟨nle rfl, nle rfl⟩) dX11_again_30 ?_
    rintro _ Yy5 ⟨rfl, hHy5, hGy5, p0, p1, p2, p3, p4, p5, p6, p7, p8, p9⟩
    have hFy5 : FR mdIa0 X Yy5 := FR.tr hF hGy5 (by decide)
    refine Wx_st (st' := []) rfl ?_
    refine x_iconst C dX11_again_33 ?_
    exact x_zret C hQ (by omega) dX11_again_34 (⟨_, rfl, .inl ⟨rfl, by omega, hHy5, hFy5, ⟨fun j hj => by rcases (show j = 0 ∨ j = 1 ∨ j = 2 by omega) with rfl | rfl | rfl; exact p0; exact p1; exact p2, p3, p4, p5, p6, p7, p8, p9⟩⟩⟩)
  · refine x_iconst C dX11_again_18 ?_
    exact x_zret C hQ (by omega) dX11_again_19 (⟨_, rfl, .inr ⟨rfl, by omega, rfl⟩⟩)
abbrev mdIa1 : List (Nat × Option Nat) := [(1, some 0), (1, some 1), (1, some 2), (2, none), (3, none), (5, none), (7, some 0), (7, some 1), (7, some 2), (7, some 3), (7, some 4), (8, none), (9, none), (10, some 0), (10, some 1), (10, some 2), (10, some 3), (10, some 4), (11, none), (12, none), (13, some 0), (14, none), (15, none), (16, some 0), (17, none), (18, none)]
set_option maxHeartbeats 4000000 in
set_option maxRecDepth 100000 in
theorem c_again1 {D : va_G} {ad : Nat → Nat} {cA : Nat → ClassId} {X : XT} (hH : HG vX X) (hF : FR mdIa1 X X) : MetX (wX D ad cA) yX11_again cX11_again 2 (some .boolean) 3 103 [.ref 0, .int (iI (1))] X (fun r X1 => ∃ u : Int, r = some (.int (iI u)) ∧ ((u = 1 ∧ X.1 20 1 ≠ 0 ∧ HG vX X1 ∧ FR mdIa1 X X1 ∧ CPS sd0 sd2 X X1) ∨ (u = 0 ∧ X.1 20 1 = 0 ∧ X1 = X))) := by
  refine MetX.mk (own := RX11) (by decide +kernel) rfl (nle rfl) (fun E C hQ => ?_)
  refine Wx_lv (lv' := [(0, .ref 0), (1, .int (iI (1)))]) rfl ?_
  refine x_iload_n (i := 1) C dX11_again_0 rfl rfl ?_
  refine x_if_lt (tgt := 18) C dX11_again_1 (by decide) ⟨by omega, by omega⟩ (fun h1 => by exfalso; omega) (fun h1 => ?_)
  refine x_iload_n (i := 1) C dX11_again_4 rfl rfl ?_
  refine x_iconst C dX11_again_5 ?_
  refine x_icmp_ge (tgt := 18) C dX11_again_6 (by decide) ⟨by omega, by omega⟩ ⟨by omega, by omega⟩ (fun h2 => by exfalso; omega) (fun h2 => ?_)
  refine x_aload_n (i := 0) C dX11_again_9 rfl rfl ?_
  refine x_getRs (r := 20) C fkX_X11_20 (nlt rfl) rfl (HG.rR hH (k := 0) (i := 2) rfl rfl) dX11_again_10 ?_
  refine x_iload_n (i := 1) C dX11_again_13 rfl rfl ?_
  refine x_zald C (nlt rfl) rfl rfl (nle rfl) (by omega) (by omega) dX11_again_14 ?_
  refine x_gen (fun v3 ev3 => ?_)
  replace ev3 : v3 = X.1 20 1 := ev3
  have qv3 : (0 : Int) ≤ v3 ∧ v3 ≤ (1 : Int) := by
    rw [ev3]
    exact hH.rF (k := 20) (i := 1) (p := (0, 1)) rfl rfl
  refine x_if_ne (tgt := 20) C dX11_again_15 (by decide) ⟨by omega, by omega⟩ (fun h4 => ?_) (fun h4 => ?_)
  · refine x_aload_n (i := 0) C dX11_again_20 rfl rfl ?_
    refine x_getRs (r := 1) C fkX_X11_10 (nlt rfl) rfl (HG.rR hH (k := 0) (i := 0) rfl rfl) dX11_again_21 ?_
    refine x_aload_n (i := 0) C dX11_again_24 rfl rfl ?_
    refine x_getRs (r := 19) C fkX_X11_16 (nlt rfl) rfl (HG.rR hH (k := 0) (i := 1) rfl rfl) dX11_again_25 ?_
    refine x_iload_n (i := 1) C dX11_again_28 rfl rfl ?_
    refine x_aald (r := some 122) C (nlt rfl) rfl rfl (nle rfl) (by omega) (by omega) (HG.rR hH (k := 19) (i := 1) rfl rfl) dX11_again_29 ?_
    refine x_callV (As := [.ref 122]) C (by exact (c_kt1_122 hH FR.rf)) ckX11_283 im_X8_copy se_X8_copy (nlt rfl) rfl rfl rfl rfl (nle rfl) (by exact ⟨nle rfl, nle rfl⟩) dX11_again_30 ?_
    rintro _ Yy5 ⟨rfl, hHy5, hGy5, p0, p1, p2, p3, p4, p5, p6, p7, p8, p9⟩
    have hFy5 : FR mdIa1 X Yy5 := FR.tr hF hGy5 (by decide)
    refine Wx_st (st' := []) rfl ?_
    refine x_iconst C dX11_again_33 ?_
    exact x_zret C hQ (by omega) dX11_again_34 (⟨_, rfl, .inl ⟨rfl, by omega, hHy5, hFy5, ⟨fun j hj => by rcases (show j = 0 ∨ j = 1 ∨ j = 2 by omega) with rfl | rfl | rfl; exact p0; exact p1; exact p2, p3, p4, p5, p6, p7, p8, p9⟩⟩⟩)
  · refine x_iconst C dX11_again_18 ?_
    exact x_zret C hQ (by omega) dX11_again_19 (⟨_, rfl, .inr ⟨rfl, by omega, rfl⟩⟩)
abbrev mdIa2 : List (Nat × Option Nat) := [(1, some 0), (1, some 1), (1, some 2), (2, none), (3, none), (5, none), (7, some 0), (7, some 1), (7, some 2), (7, some 3), (7, some 4), (8, none), (9, none), (10, some 0), (10, some 1), (10, some 2), (10, some 3), (10, some 4), (11, none), (12, none), (13, some 0), (14, none), (15, none), (16, some 0), (17, none), (18, none)]
set_option maxHeartbeats 4000000 in
set_option maxRecDepth 100000 in
theorem c_again2 {D : va_G} {ad : Nat → Nat} {cA : Nat → ClassId} {X : XT} (hH : HG vX X) (hF : FR mdIa2 X X) : MetX (wX D ad cA) yX11_again cX11_again 2 (some .boolean) 3 103 [.ref 0, .int (iI (2))] X (fun r X1 => ∃ u : Int, r = some (.int (iI u)) ∧ ((u = 1 ∧ X.1 20 2 ≠ 0 ∧ HG vX X1 ∧ FR mdIa2 X X1 ∧ CPS sd0 sd3 X X1) ∨ (u = 0 ∧ X.1 20 2 = 0 ∧ X1 = X))) := by
  refine MetX.mk (own := RX11) (by decide +kernel) rfl (nle rfl) (fun E C hQ => ?_)
  refine Wx_lv (lv' := [(0, .ref 0), (1, .int (iI (2)))]) rfl ?_
  refine x_iload_n (i := 1) C dX11_again_0 rfl rfl ?_
  refine x_if_lt (tgt := 18) C dX11_again_1 (by decide) ⟨by omega, by omega⟩ (fun h1 => by exfalso; omega) (fun h1 => ?_)
  refine x_iload_n (i := 1) C dX11_again_4 rfl rfl ?_
  refine x_iconst C dX11_again_5 ?_
  refine x_icmp_ge (tgt := 18) C dX11_again_6 (by decide) ⟨by omega, by omega⟩ ⟨by omega, by omega⟩ (fun h2 => by exfalso; omega) (fun h2 => ?_)
  refine x_aload_n (i := 0) C dX11_again_9 rfl rfl ?_
  refine x_getRs (r := 20) C fkX_X11_20 (nlt rfl) rfl (HG.rR hH (k := 0) (i := 2) rfl rfl) dX11_again_10 ?_
  refine x_iload_n (i := 1) C dX11_again_13 rfl rfl ?_
  refine x_zald C (nlt rfl) rfl rfl (nle rfl) (by omega) (by omega) dX11_again_14 ?_
  refine x_gen (fun v3 ev3 => ?_)
  replace ev3 : v3 = X.1 20 2 := ev3
  have qv3 : (0 : Int) ≤ v3 ∧ v3 ≤ (1 : Int) := by
    rw [ev3]
    exact hH.rF (k := 20) (i := 2) (p := (0, 1)) rfl rfl
  refine x_if_ne (tgt := 20) C dX11_again_15 (by decide) ⟨by omega, by omega⟩ (fun h4 => ?_) (fun h4 => ?_)
  · refine x_aload_n (i := 0) C dX11_again_20 rfl rfl ?_
    refine x_getRs (r := 1) C fkX_X11_10 (nlt rfl) rfl (HG.rR hH (k := 0) (i := 0) rfl rfl) dX11_again_21 ?_
    refine x_aload_n (i := 0) C dX11_again_24 rfl rfl ?_
    refine x_getRs (r := 19) C fkX_X11_16 (nlt rfl) rfl (HG.rR hH (k := 0) (i := 1) rfl rfl) dX11_again_25 ?_
    refine x_iload_n (i := 1) C dX11_again_28 rfl rfl ?_
    refine x_aald (r := some 140) C (nlt rfl) rfl rfl (nle rfl) (by omega) (by omega) (HG.rR hH (k := 19) (i := 2) rfl rfl) dX11_again_29 ?_
    refine x_callV (As := [.ref 140]) C (by exact (c_kt1_140 hH FR.rf)) ckX11_283 im_X8_copy se_X8_copy (nlt rfl) rfl rfl rfl rfl (nle rfl) (by exact ⟨nle rfl, nle rfl⟩) dX11_again_30 ?_
    rintro _ Yy5 ⟨rfl, hHy5, hGy5, p0, p1, p2, p3, p4, p5, p6, p7, p8, p9⟩
    have hFy5 : FR mdIa2 X Yy5 := FR.tr hF hGy5 (by decide)
    refine Wx_st (st' := []) rfl ?_
    refine x_iconst C dX11_again_33 ?_
    exact x_zret C hQ (by omega) dX11_again_34 (⟨_, rfl, .inl ⟨rfl, by omega, hHy5, hFy5, ⟨fun j hj => by rcases (show j = 0 ∨ j = 1 ∨ j = 2 by omega) with rfl | rfl | rfl; exact p0; exact p1; exact p2, p3, p4, p5, p6, p7, p8, p9⟩⟩⟩)
  · refine x_iconst C dX11_again_18 ?_
    exact x_zret C hQ (by omega) dX11_again_19 (⟨_, rfl, .inr ⟨rfl, by omega, rfl⟩⟩)
set_option maxHeartbeats 4000000 in
set_option maxRecDepth 100000 in
theorem c_againN {D : va_G} {ad : Nat → Nat} {cA : Nat → ClassId} {X : XT} {n : Int} (nn : inR n) (hn : ¬ (0 ≤ n ∧ n ≤ 2)) (hH : HG vX X) : MetX (wX D ad cA) yX11_again cX11_again 2 (some .boolean) 3 103 [.ref 0, .int (iI (n))] X (fun r X' => X' = X ∧ r = some (.int (iI 0))) := by
  unfold inR at nn
  refine MetX.mk (own := RX11) (by decide +kernel) rfl (nle rfl) (fun E C hQ => ?_)
  refine Wx_lv (lv' := [(0, .ref 0), (1, .int (iI (n)))]) rfl ?_
  refine x_iload_n (i := 1) C dX11_again_0 rfl rfl ?_
  refine x_if_lt (tgt := 18) C dX11_again_1 (by decide) ⟨by omega, by omega⟩ (fun h1 => ?_) (fun h1 => ?_)
  · refine x_iconst C dX11_again_18 ?_
    exact x_zret C hQ (by omega) dX11_again_19 (⟨rfl, rfl⟩)
  · refine x_iload_n (i := 1) C dX11_again_4 rfl rfl ?_
    refine x_iconst C dX11_again_5 ?_
    refine x_icmp_ge (tgt := 18) C dX11_again_6 (by decide) ⟨by omega, by omega⟩ ⟨by omega, by omega⟩ (fun h2 => ?_) (fun h2 => by exfalso; omega)
    refine x_iconst C dX11_again_18 ?_
    exact x_zret C hQ (by omega) dX11_again_19 (⟨rfl, rfl⟩)
