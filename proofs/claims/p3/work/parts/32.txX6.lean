/-! ===== the class reads: from the beginning ===== -/

theorem ckX6_48 : CKB RX6 48 yX0_clear cX0_clear 1 none 0 := ⟨(lw_gi 581 (by decide +kernel) rfl : Cond.code yX0_clear cX0_clear 1 none ∈ lw_g), (lw_gi 118 (by decide +kernel) rfl : Cond.initialized yX0_clear.cls ∈ lw_g), by decide +kernel, by decide +kernel, (lw_gi 578 (by decide +kernel) rfl : Cond.methodLink RX6 48 yX0_clear ∈ lw_g)⟩
theorem im_X0_clear : Cond.instanceMethod yX0_clear ∈ lw_g := (lw_gi 579 (by decide +kernel) rfl : Cond.instanceMethod yX0_clear ∈ lw_g)
theorem se_X0_clear : Cond.selects RX0 yX0_clear yX0_clear ∈ lw_g := (lw_gi 580 (by decide +kernel) rfl : Cond.selects RX0 yX0_clear yX0_clear ∈ lw_g)
theorem pkX_X6_51 {D : va_G} {ad : Nat → Nat} {cA : Nat → ClassId} : PKw (wX D ad cA) RX6 51 2 3 0 0 (tyX2 0) := ⟨RX2, TX2, tyX2, rfl, by decide, rfl, inX2, (lw_gi 223 (by decide +kernel) rfl : Cond.fieldLink RX6 51 RX2 (TX2 0).2.1 (TX2 0).2.2.1 ∈ lw_g), rfl, tyX2_ok, nmX2, rfl, rfl⟩
theorem pkX_X6_25 {D : va_G} {ad : Nat → Nat} {cA : Nat → ClassId} : PKw (wX D ad cA) RX6 25 6 11 5 2 (tyX6 5) := ⟨RX6, TX6, tyX6, rfl, by decide, rfl, inX6, (lw_gi 291 (by decide +kernel) rfl : Cond.fieldLink RX6 25 RX6 (TX6 5).2.1 (TX6 5).2.2.1 ∈ lw_g), rfl, tyX6_ok, nmX6, rfl, rfl⟩
theorem pkX_X6_35 {D : va_G} {ad : Nat → Nat} {cA : Nat → ClassId} : PKw (wX D ad cA) RX6 35 6 11 6 0 (tyX6 6) := ⟨RX6, TX6, tyX6, rfl, by decide, rfl, inX6, (lw_gi 292 (by decide +kernel) rfl : Cond.fieldLink RX6 35 RX6 (TX6 6).2.1 (TX6 6).2.2.1 ∈ lw_g), rfl, tyX6_ok, nmX6, rfl, rfl⟩
set_option maxHeartbeats 4000000 in
set_option maxRecDepth 100000 in
theorem c_readP0 {D : va_G} {ad : Nat → Nat} {cA : Nat → ClassId} {Xi X0 : XT} {b : Nat → Int} {N : Nat} {cnt : Int} (hT0 : TPX b N X0) (hFi : FR mdRD Xi X0) (hH : HG vX X0) (hF : FR mdRX X0 X0) (hB : BDX (bof Xi) X0) (hM : GMX (gof Xi) X0) {E : ET} (C : CX E (wX D ad cA) cX6_read 6 RX6 none { frames := 9, cells := 0, slots := 0, locals := 205 }) (HS : SE E (wX D ad cA)) (hQ : EQ E (wX D ad cA) (fun r X1 => r = none ∧ HG vX X1 ∧ FR mdRD Xi X1 ∧ FLX (fB N (bRun b N 600 (tS b N 0) (0, -1) (b0 Xi))) X1 ∧ BDX (bst (bRun b N 600 (tS b N 0) (0, -1) (b0 Xi)).2.2.2) X1)) : ∀ (n : Nat), (0 : Int) < n → Wx E (wX D ad cA) 6 (PX (wX D ad cA) X0) 15 [(0, .ref 21), (1, .int (iI (0))), (2, .ref 2), (3, .int (iI (cnt)))] [] := by
  intro n
  induction n with
  | zero => intro  hn ; exfalso; omega
  | succ n ih =>
    intro  hn 
    have n6 := hT0.2.2.1
    refine x_aload_n (i := 0) C dX6_read_15 rfl rfl ?_
    refine x_iconst C dX6_read_16 ?_
    refine x_putI C pkX_X6_39 (nlt rfl) rfl dX6_read_17 ?_
    refine x_gX (fun Yy1 eYy1 => ?_)
    have hHy1 : HG vX Yy1 := by
      rw [eYy1]
      exact hg_wF hH (p := ((-2147483648), 2147483647)) rfl ⟨by omega, by omega⟩
    have hFy1 : FR mdRX X0 Yy1 := by
      rw [eYy1]
      exact FR.upI hF (rfl)
    replace eYy1 : Yy1 = upI X0 21 9 (0) := eYy1
    have hGy1 : FR [(21, some 9)] X0 Yy1 := by
      rw [eYy1]
      exact FR.upI FR.rf rfl
    have hBy1 := hB.fr hGy1 rfl
    have hMy1 := hM.fr hGy1 rfl
    refine x_aload_n (i := 0) C dX6_read_20 rfl rfl ?_
    refine x_iconst C dX6_read_21 ?_
    refine x_putI C pkX_X6_42 (nlt rfl) rfl dX6_read_22 ?_
    refine x_gX (fun Yy2 eYy2 => ?_)
    have hHy2 : HG vX Yy2 := by
      rw [eYy2]
      exact hg_wF hHy1 (p := ((-2147483648), 2147483647)) rfl ⟨by omega, by omega⟩
    have hFy2 : FR mdRX X0 Yy2 := by
      rw [eYy2]
      exact FR.upI hFy1 (rfl)
    replace eYy2 : Yy2 = upI Yy1 21 3 (0) := eYy2
    have hGy2 : FR [(21, some 3)] Yy1 Yy2 := by
      rw [eYy2]
      exact FR.upI FR.rf rfl
    have hBy2 := hBy1.fr hGy2 rfl
    have hMy2 := hMy1.fr hGy2 rfl
    refine x_aload_n (i := 0) C dX6_read_25 rfl rfl ?_
    refine x_iconst C dX6_read_26 ?_
    refine x_putI C pkX_X6_45 (nlt rfl) rfl dX6_read_27 ?_
    refine x_gX (fun Yy3 eYy3 => ?_)
    have hHy3 : HG vX Yy3 := by
      rw [eYy3]
      exact hg_wF hHy2 (p := ((-2147483648), 2147483647)) rfl ⟨by omega, by omega⟩
    have hFy3 : FR mdRX X0 Yy3 := by
      rw [eYy3]
      exact FR.upI hFy2 (rfl)
    replace eYy3 : Yy3 = upI Yy2 21 4 ((-1)) := eYy3
    have hGy3 : FR [(21, some 4)] Yy2 Yy3 := by
      rw [eYy3]
      exact FR.upI FR.rf rfl
    have hBy3 := hBy2.fr hGy3 rfl
    have hMy3 := hMy2.fr hGy3 rfl
    have hLy3 : FLX (0, -1) Yy3 := ⟨by rw [eYy3, upI_ne (by decide), eYy2, upI_at], by rw [eYy3, upI_at]⟩
    refine x_aload_n (i := 0) C dX6_read_30 rfl rfl ?_
    refine x_getRs (r := 22) C fkX_X6_12 (nlt rfl) rfl (HG.rR hHy3 (k := 21) (i := 0) rfl rfl) dX6_read_31 ?_
    refine x_callV (As := []) C (by exact (c_clear (B := bof Xi) hHy3 FR.rf hBy3)) ckX6_48 im_X0_clear se_X0_clear (nlt rfl) rfl rfl rfl rfl (nle rfl) (by exact ⟨nle rfl, nle rfl⟩) dX6_read_34 ?_
    rintro _ Yy4 ⟨rfl, hHy4, hGy4, hBy4⟩
    have hFy4 : FR mdRX X0 Yy4 := FR.tr hFy3 hGy4 (by decide)
    have hMy4 := hMy3.fr hGy4 rfl
    have hLy4 := hLy3.fr hGy4 rfl
    refine Wx_st (st' := []) rfl ?_
    refine x_aload_n (i := 0) C dX6_read_37 rfl rfl ?_
    refine x_getRs (r := 25) C fkX_X6_21 (nlt rfl) rfl (HG.rR hHy4 (k := 21) (i := 1) rfl rfl) dX6_read_38 ?_
    refine x_iconst C dX6_read_41 ?_
    refine x_putI C pkX_X6_51 (nlt rfl) rfl dX6_read_42 ?_
    refine x_gX (fun Yy5 eYy5 => ?_)
    have hHy5 : HG vX Yy5 := by
      rw [eYy5]
      exact hg_wF hHy4 (p := ((-2147483648), 2147483647)) rfl ⟨by omega, by omega⟩
    have hFy5 : FR mdRX X0 Yy5 := by
      rw [eYy5]
      exact FR.upI hFy4 (rfl)
    replace eYy5 : Yy5 = upI Yy4 25 0 (0) := eYy5
    have hGy5 : FR [(25, some 0)] Yy4 Yy5 := by
      rw [eYy5]
      exact FR.upI FR.rf rfl
    have hBy5 := hBy4.fr hGy5 rfl
    have hLy5 := hLy4.fr hGy5 rfl
    have hMy5 : GMX (g0 Xi) Yy5 := ⟨by rw [eYy5, upI_at]; rfl, fun j hj => ⟨by rw [eYy5, upI_2]; exact (hMy4.2 j hj).1, by rw [eYy5, upI_nc (by decide)]; exact (hMy4.2 j hj).2⟩⟩
    refine x_aload_n (i := 0) C dX6_read_45 rfl rfl ?_
    refine x_callV (As := []) C (by exact (c_advance (p := 0) (Nat.zero_le _) (hT0.fr hFy5 rfl) hHy5 FR.rf (by rw [eYy5, upI_nc (by decide), (hGy4 21 9 rfl).1, eYy3, upI_ne (by decide), eYy2, upI_ne (by decide), eYy1, upI_at]; rfl))) ckX6_54 im_X6_advance se_X6_advance (nlt rfl) rfl rfl rfl rfl (nle rfl) (by exact ⟨nle rfl, nle rfl⟩) dX6_read_46 ?_
    rintro _ Yy6 ⟨rfl, hHy6, hGy6, hKy6⟩
    have hFy6 : FR mdRX X0 Yy6 := FR.tr hFy5 hGy6 (by decide)
    have hBy6 := hBy5.fr hGy6 rfl
    have hLy6 := hLy5.fr hGy6 rfl
    have hMy6 := hMy5.fr hGy6 rfl
    refine Wx_st (st' := []) rfl ?_
    refine x_iload_n (i := 1) C dX6_read_49 rfl rfl ?_
    refine x_iconst C dX6_read_50 ?_
    refine x_icmp_ne (tgt := 69) C dX6_read_51 (by decide) ⟨by omega, by omega⟩ ⟨by omega, by omega⟩ (fun h7 => ?_) (fun h7 => by exfalso; omega)
    refine x_iconst C dX6_read_69 ?_
    refine x_goto (tgt := 74) C dX6_read_70 (by decide) ?_
    refine x_istore (lv' := [(4, .int (iI (1))), (0, .ref 21), (1, .int (iI (0))), (2, .ref 2), (3, .int (iI (cnt)))]) C dX6_read_74 (nlt rfl) rfl ?_
    refine x_iconst C dX6_read_76 ?_
    refine x_istore (lv' := [(5, .int (iI (0))), (4, .int (iI (1))), (0, .ref 21), (1, .int (iI (0))), (2, .ref 2), (3, .int (iI (cnt)))]) C dX6_read_77 (nlt rfl) rfl ?_
    rw [show iI 1 = iI (zB true) from rfl]
    refine Wx_pick [5, 4, 0, 1] ?_
    refine Wx_lv (lv' := [(5, .int (iI (0))), (4, .int (iI (zB true))), (0, .ref 21), (1, .int (iI (0)))]) rfl ?_
    exact c_readL0 hT0 hFi C HS hQ 602 0 true (tS b N 0) (0, -1) (b0 Xi) Yy6 (by omega) (by omega) (by omega) hHy6 hFy6 hKy6 hLy6 hBy6 ⟨by show (0 : Int) ≤ 0; omega, by show (0 : Int) ≤ 6; omega⟩ rfl
set_option maxHeartbeats 4000000 in
set_option maxRecDepth 100000 in
theorem c_read0 {D : va_G} {ad : Nat → Nat} {cA : Nat → ClassId} {Xi : XT} {b : Nat → Int} {N : Nat} {cnt : Int} (cn : cnt = (N : Int)) (n6 : N ≤ 600) (hb : ∀ i, i < N → Xi.1 2 i = b i) (hH : HG vX Xi) (hF : FR mdRD Xi Xi) : MetS (wX D ad cA) yX6_read cX6_read 6 none 9 205 [.ref 21, .int (iI (0)), .ref 2, .int (iI (cnt))] Xi (fun r X1 => r = none ∧ HG vX X1 ∧ FR mdRD Xi X1 ∧ FLX (fB N (bRun b N 600 (tS b N 0) (0, -1) (b0 Xi))) X1 ∧ BDX (bst (bRun b N 600 (tS b N 0) (0, -1) (b0 Xi)).2.2.2) X1) := by
  refine MetS.mk (own := RX6) (by decide +kernel) rfl (nle rfl) (fun E C HS hQ => ?_)
  refine Wx_lv (lv' := [(0, .ref 21), (1, .int (iI (0))), (2, .ref 2), (3, .int (iI (cnt)))]) rfl ?_
  refine x_aload_n (i := 0) C dX6_read_0 rfl rfl ?_
  refine x_aload_n (i := 2) C dX6_read_1 rfl rfl ?_
  refine x_putR C pkX_X6_25 (by first | exact Or.inl ⟨_, rfl⟩ | exact Or.inr ⟨_, rfl⟩) (nlt rfl) rfl dX6_read_2 ?_
  refine x_gX (fun Yy1 eYy1 => ?_)
  have hHy1 : HG vX Yy1 := by
    rw [eYy1]
    exact HG.upR hH (by decide +kernel)
  have hFy1 : FR mdRD Xi Yy1 := by
    rw [eYy1]
    exact FR.upR hF rfl
  replace eYy1 : Yy1 = upR Xi 21 5 (some 2) := eYy1
  refine x_aload_n (i := 0) C dX6_read_5 rfl rfl ?_
  refine x_iload_n (i := 3) C dX6_read_6 rfl rfl ?_
  refine x_aload_n (i := 2) C dX6_read_7 rfl rfl ?_
  refine x_alen (kd := 0) C (nlt rfl) rfl (by decide) dX6_read_8 ?_
  refine x_eq (b := 600) rfl ?_
  refine x_mmin C ⟨by omega, by omega⟩ ⟨by omega, by omega⟩ (lw_gi 575 (by decide +kernel) rfl : Cond.methodLink RX6 29 Lib.Math.min.name ∈ lw_g) (lw_gi 576 (by decide +kernel) rfl : Cond.static Lib.Math.min.name ∈ lw_g) (lw_gi 129 (by decide +kernel) rfl : Cond.initialized "java/lang/Math" ∈ lw_g) (lw_gi 577 (by decide +kernel) rfl : Cond.code Lib.Math.min.name Lib.Math.min.code 2 (some .int) ∈ lw_g) (nle rfl) (nle rfl) dX6_read_9 (fun v2 h3 => ?_)
  refine x_putI C pkX_X6_35 (nlt rfl) rfl dX6_read_12 ?_
  refine x_gX (fun Yy4 eYy4 => ?_)
  have hHy4 : HG vX Yy4 := by
    rw [eYy4]
    exact hg_wF hHy1 (p := ((-2147483648), 2147483647)) rfl ⟨by omega, by omega⟩
  have hFy4 : FR mdRD Xi Yy4 := by
    rw [eYy4]
    exact FR.upI hFy1 (rfl)
  replace eYy4 : Yy4 = upI Yy1 21 6 (v2) := eYy4
  have hGy4 : FR [(21, some 6)] Yy1 Yy4 := by
    rw [eYy4]
    exact FR.upI FR.rf rfl
  have hTt : TPX b N Yy4 := ⟨by rw [eYy4, upI_2, eYy1, upR_at], by rw [eYy4, upI_at]; omega, n6, fun i hi => by rw [eYy4, upI_nc (by decide), eYy1, upR_1]; exact hb i hi⟩
  have hBt : BDX (bof Xi) Yy4 := (bof_X Xi).fr (md := [(21, some 5), (21, some 6)]) (X := Xi) (by rw [eYy4, eYy1]; exact FR.upI (FR.upR FR.rf rfl) rfl) rfl
  have hMt : GMX (gof Xi) Yy4 := (gof_X Xi).fr (md := [(21, some 5), (21, some 6)]) (X := Xi) (by rw [eYy4, eYy1]; exact FR.upI (FR.upR FR.rf rfl) rfl) rfl
  exact c_readP0 hTt hFy4 hHy4 FR.rf hBt hMt C HS hQ 1 (by decide)
set_option maxHeartbeats 4000000 in
set_option maxRecDepth 100000 in
theorem c_readP1 {D : va_G} {ad : Nat → Nat} {cA : Nat → ClassId} {Xi X0 : XT} {b : Nat → Int} {N : Nat} {cnt : Int} (hT0 : TPX b N X0) (hFi : FR mdRD Xi X0) (hH : HG vX X0) (hF : FR mdRX X0 X0) (hB : BDX (bof Xi) X0) (hM : GMX (gof Xi) X0) {E : ET} (C : CX E (wX D ad cA) cX6_read 6 RX6 none { frames := 9, cells := 0, slots := 0, locals := 205 }) (HS : SE E (wX D ad cA)) (hQ : EQ E (wX D ad cA) (fun r X1 => r = none ∧ HG vX X1 ∧ FR mdRD Xi X1 ∧ FLX (fR b N) X1 ∧ (tr b N (tS b N 0) → RUX (rV b N (tS b N 0)) X1))) : ∀ (n : Nat), (0 : Int) < n → Wx E (wX D ad cA) 6 (PX (wX D ad cA) X0) 15 [(0, .ref 21), (1, .int (iI (1))), (2, .ref 2), (3, .int (iI (cnt)))] [] := by
  intro n
  induction n with
  | zero => intro  hn ; exfalso; omega
  | succ n ih =>
    intro  hn 
    have n6 := hT0.2.2.1
    refine x_aload_n (i := 0) C dX6_read_15 rfl rfl ?_
    refine x_iconst C dX6_read_16 ?_
    refine x_putI C pkX_X6_39 (nlt rfl) rfl dX6_read_17 ?_
    refine x_gX (fun Yy1 eYy1 => ?_)
    have hHy1 : HG vX Yy1 := by
      rw [eYy1]
      exact hg_wF hH (p := ((-2147483648), 2147483647)) rfl ⟨by omega, by omega⟩
    have hFy1 : FR mdRX X0 Yy1 := by
      rw [eYy1]
      exact FR.upI hF (rfl)
    replace eYy1 : Yy1 = upI X0 21 9 (0) := eYy1
    have hGy1 : FR [(21, some 9)] X0 Yy1 := by
      rw [eYy1]
      exact FR.upI FR.rf rfl
    have hBy1 := hB.fr hGy1 rfl
    have hMy1 := hM.fr hGy1 rfl
    refine x_aload_n (i := 0) C dX6_read_20 rfl rfl ?_
    refine x_iconst C dX6_read_21 ?_
    refine x_putI C pkX_X6_42 (nlt rfl) rfl dX6_read_22 ?_
    refine x_gX (fun Yy2 eYy2 => ?_)
    have hHy2 : HG vX Yy2 := by
      rw [eYy2]
      exact hg_wF hHy1 (p := ((-2147483648), 2147483647)) rfl ⟨by omega, by omega⟩
    have hFy2 : FR mdRX X0 Yy2 := by
      rw [eYy2]
      exact FR.upI hFy1 (rfl)
    replace eYy2 : Yy2 = upI Yy1 21 3 (0) := eYy2
    have hGy2 : FR [(21, some 3)] Yy1 Yy2 := by
      rw [eYy2]
      exact FR.upI FR.rf rfl
    have hBy2 := hBy1.fr hGy2 rfl
    have hMy2 := hMy1.fr hGy2 rfl
    refine x_aload_n (i := 0) C dX6_read_25 rfl rfl ?_
    refine x_iconst C dX6_read_26 ?_
    refine x_putI C pkX_X6_45 (nlt rfl) rfl dX6_read_27 ?_
    refine x_gX (fun Yy3 eYy3 => ?_)
    have hHy3 : HG vX Yy3 := by
      rw [eYy3]
      exact hg_wF hHy2 (p := ((-2147483648), 2147483647)) rfl ⟨by omega, by omega⟩
    have hFy3 : FR mdRX X0 Yy3 := by
      rw [eYy3]
      exact FR.upI hFy2 (rfl)
    replace eYy3 : Yy3 = upI Yy2 21 4 ((-1)) := eYy3
    have hGy3 : FR [(21, some 4)] Yy2 Yy3 := by
      rw [eYy3]
      exact FR.upI FR.rf rfl
    have hBy3 := hBy2.fr hGy3 rfl
    have hMy3 := hMy2.fr hGy3 rfl
    have hLy3 : FLX (0, -1) Yy3 := ⟨by rw [eYy3, upI_ne (by decide), eYy2, upI_at], by rw [eYy3, upI_at]⟩
    refine x_aload_n (i := 0) C dX6_read_30 rfl rfl ?_
    refine x_getRs (r := 22) C fkX_X6_12 (nlt rfl) rfl (HG.rR hHy3 (k := 21) (i := 0) rfl rfl) dX6_read_31 ?_
    refine x_callV (As := []) C (by exact (c_clear (B := bof Xi) hHy3 FR.rf hBy3)) ckX6_48 im_X0_clear se_X0_clear (nlt rfl) rfl rfl rfl rfl (nle rfl) (by exact ⟨nle rfl, nle rfl⟩) dX6_read_34 ?_
    rintro _ Yy4 ⟨rfl, hHy4, hGy4, hBy4⟩
    have hFy4 : FR mdRX X0 Yy4 := FR.tr hFy3 hGy4 (by decide)
    have hMy4 := hMy3.fr hGy4 rfl
    have hLy4 := hLy3.fr hGy4 rfl
    refine Wx_st (st' := []) rfl ?_
    refine x_aload_n (i := 0) C dX6_read_37 rfl rfl ?_
    refine x_getRs (r := 25) C fkX_X6_21 (nlt rfl) rfl (HG.rR hHy4 (k := 21) (i := 1) rfl rfl) dX6_read_38 ?_
    refine x_iconst C dX6_read_41 ?_
    refine x_putI C pkX_X6_51 (nlt rfl) rfl dX6_read_42 ?_
    refine x_gX (fun Yy5 eYy5 => ?_)
    have hHy5 : HG vX Yy5 := by
      rw [eYy5]
      exact hg_wF hHy4 (p := ((-2147483648), 2147483647)) rfl ⟨by omega, by omega⟩
    have hFy5 : FR mdRX X0 Yy5 := by
      rw [eYy5]
      exact FR.upI hFy4 (rfl)
    replace eYy5 : Yy5 = upI Yy4 25 0 (0) := eYy5
    have hGy5 : FR [(25, some 0)] Yy4 Yy5 := by
      rw [eYy5]
      exact FR.upI FR.rf rfl
    have hBy5 := hBy4.fr hGy5 rfl
    have hLy5 := hLy4.fr hGy5 rfl
    have hMy5 : GMX (g0 Xi) Yy5 := ⟨by rw [eYy5, upI_at]; rfl, fun j hj => ⟨by rw [eYy5, upI_2]; exact (hMy4.2 j hj).1, by rw [eYy5, upI_nc (by decide)]; exact (hMy4.2 j hj).2⟩⟩
    refine x_aload_n (i := 0) C dX6_read_45 rfl rfl ?_
    refine x_callV (As := []) C (by exact (c_advance (p := 0) (Nat.zero_le _) (hT0.fr hFy5 rfl) hHy5 FR.rf (by rw [eYy5, upI_nc (by decide), (hGy4 21 9 rfl).1, eYy3, upI_ne (by decide), eYy2, upI_ne (by decide), eYy1, upI_at]; rfl))) ckX6_54 im_X6_advance se_X6_advance (nlt rfl) rfl rfl rfl rfl (nle rfl) (by exact ⟨nle rfl, nle rfl⟩) dX6_read_46 ?_
    rintro _ Yy6 ⟨rfl, hHy6, hGy6, hKy6⟩
    have hFy6 : FR mdRX X0 Yy6 := FR.tr hFy5 hGy6 (by decide)
    have hBy6 := hBy5.fr hGy6 rfl
    have hLy6 := hLy5.fr hGy6 rfl
    have hMy6 := hMy5.fr hGy6 rfl
    refine Wx_st (st' := []) rfl ?_
    refine x_iload_n (i := 1) C dX6_read_49 rfl rfl ?_
    refine x_iconst C dX6_read_50 ?_
    refine x_icmp_ne (tgt := 69) C dX6_read_51 (by decide) ⟨by omega, by omega⟩ ⟨by omega, by omega⟩ (fun h7 => by exfalso; omega) (fun h7 => ?_)
    refine x_aload_n (i := 0) C dX6_read_54 rfl rfl ?_
    refine x_callVT (As := []) C HS (by exact (c_takeRule (s := (tS b N 0)) (hT0.fr hFy6 rfl) hHy6 FR.rf hKy6)) ckX6_57 im_X6_takeRule se_X6_takeRule (nlt rfl) rfl rfl rfl rfl (nle rfl) (by exact ⟨nle rfl, nle rfl⟩) dX6_read_55 ?_
    rintro _ Yy8 ⟨v9, rfl, hHy8, hGy8, trr⟩
    have hFy8 : FR mdRX X0 Yy8 := FR.tr hFy6 hGy8 (by decide)
    have hBy8 := hBy6.fr hGy8 rfl
    have hLy8 := hLy6.fr hGy8 rfl
    have hMy8 := hMy6.fr hGy8 rfl
    refine Wx_st (st' := [.int (iI (v9))]) rfl ?_
    refine x_if_eq (tgt := 73) C dX6_read_58 (by decide) ⟨by omega, by omega⟩ (fun h10 => ?_) (fun h10 => ?_)
    · have R0 := trr.elim (fun q => absurd q.1 (by omega)) (fun q => q.2)
      have hKy8 := R0.2
      refine x_iconst C dX6_read_73 ?_
      refine x_istore (lv' := [(4, .int (iI (0))), (0, .ref 21), (1, .int (iI (1))), (2, .ref 2), (3, .int (iI (cnt)))]) C dX6_read_74 (nlt rfl) rfl ?_
      refine x_iconst C dX6_read_76 ?_
      refine x_istore (lv' := [(5, .int (iI (0))), (4, .int (iI (0))), (0, .ref 21), (1, .int (iI (1))), (2, .ref 2), (3, .int (iI (cnt)))]) C dX6_read_77 (nlt rfl) rfl ?_
      refine x_iload C dX6_read_79 rfl ?_
      refine x_sipush C dX6_read_81 (by decide) ?_
      refine x_icmp_ge (tgt := 123) C dX6_read_84 (by decide) ⟨by omega, by omega⟩ ⟨by omega, by omega⟩ (fun h11 => by exfalso; omega) (fun h11 => ?_)
      refine x_iload C dX6_read_87 rfl ?_
      refine x_if_eq (tgt := 123) C dX6_read_89 (by decide) ⟨by omega, by omega⟩ (fun h12 => ?_) (fun h12 => by exfalso; omega)
      refine x_aload_n (i := 0) C dX6_read_123 rfl rfl ?_
      refine x_getRs (r := 22) C fkX_X6_12 (nlt rfl) rfl (HG.rR hHy8 (k := 21) (i := 0) rfl rfl) dX6_read_124 ?_
      refine x_callV (As := []) C (by exact (c_settle (B := (b0 Xi)) hHy8 FR.rf hBy8)) ckX6_70 im_X0_settle se_X0_settle (nlt rfl) rfl rfl rfl rfl (nle rfl) (by exact ⟨nle rfl, nle rfl⟩) dX6_read_127 ?_
      rintro _ Yy13 ⟨rfl, hHy13, hGy13, hBy13⟩
      have hFy13 : FR mdRX X0 Yy13 := FR.tr hFy8 hGy13 (by decide)
      have hLy13 := hLy8.fr hGy13 rfl
      have hMy13 := hMy8.fr hGy13 rfl
      have hKy13 := hKy8.fr hGy13 rfl
      refine Wx_st (st' := []) rfl ?_
      refine x_iload C dX6_read_130 rfl ?_
      refine x_if_ne (tgt := 151) C dX6_read_132 (by decide) ⟨by omega, by omega⟩ (fun h14 => by exfalso; omega) (fun h14 => ?_)
      refine x_aload_n (i := 0) C dX6_read_135 rfl rfl ?_
      refine x_iconst C dX6_read_136 ?_
      refine x_putI C pkX_X6_42 (nlt rfl) rfl dX6_read_137 ?_
      refine x_gX (fun Yy15 eYy15 => ?_)
      have hHy15 : HG vX Yy15 := by
        rw [eYy15]
        exact hg_wF hHy13 (p := ((-2147483648), 2147483647)) rfl ⟨by omega, by omega⟩
      have hFy15 : FR mdRX X0 Yy15 := by
        rw [eYy15]
        exact FR.upI hFy13 (rfl)
      replace eYy15 : Yy15 = upI Yy13 21 3 (1) := eYy15
      have hGy15 : FR [(21, some 3)] Yy13 Yy15 := by
        rw [eYy15]
        exact FR.upI FR.rf rfl
      have hBy15 := hBy13.fr hGy15 rfl
      have hMy15 := hMy13.fr hGy15 rfl
      have hKy15 := hKy13.fr hGy15 rfl
      have kz := hKy15.1
      refine x_aload_n (i := 0) C dX6_read_140 rfl rfl ?_
      refine x_aload_n (i := 0) C dX6_read_141 rfl rfl ?_
      refine x_getI C fkX_X6_73 (nlt rfl) rfl dX6_read_142 ?_
      refine x_gen (fun v16 ev16 => ?_)
      have qv16 : ((-2147483648) : Int) ≤ v16 ∧ v16 ≤ (2147483647 : Int) := by
        rw [ev16]
        exact hHy15.rF (k := 21) (i := 8) rfl rfl
      have kv16 : v16 = Yy8.1 21 8 := by rw [ev16, eYy15, upI_ne (by decide), (hGy13 21 8 rfl).1]
      refine x_putI C pkX_X6_45 (nlt rfl) rfl dX6_read_145 ?_
      refine x_gX (fun Yy17 eYy17 => ?_)
      have hHy17 : HG vX Yy17 := by
        rw [eYy17]
        exact hg_wF hHy15 (p := ((-2147483648), 2147483647)) rfl ⟨by omega, by omega⟩
      have hFy17 : FR mdRX X0 Yy17 := by
        rw [eYy17]
        exact FR.upI hFy15 (rfl)
      replace eYy17 : Yy17 = upI Yy15 21 4 (v16) := eYy17
      have hGy17 : FR [(21, some 4)] Yy15 Yy17 := by
        rw [eYy17]
        exact FR.upI FR.rf rfl
      have hBy17 := hBy15.fr hGy17 rfl
      have hMy17 := hMy15.fr hGy17 rfl
      have hKy17 := hKy15.fr hGy17 rfl
      refine x_goto (tgt := 181) C dX6_read_148 (by decide) ?_
      exact x_vret C hQ dX6_read_181 (⟨rfl, hHy17, FR.tr hFi hFy17 (by decide), by rw [fR_n R0.1]; exact ⟨by rw [eYy17, upI_ne (by decide), eYy15, upI_at], by rw [eYy17, upI_at]; omega⟩, fun g => absurd g R0.1⟩)
    · have R1 := trr.elim (fun q => q.2) (fun q => absurd q.1 (by omega))
      have hKy8 := R1.2.1
      have hRy8 : RUX (rV b N (tS b N 0)) Yy8 := R1.2.2
      refine x_aload_n (i := 0) C dX6_read_61 rfl rfl ?_
      refine x_getI C fkX_X6_61 (nlt rfl) rfl dX6_read_62 ?_
      refine x_gen (fun v18 ev18 => ?_)
      have qv18 : ((-2147483648) : Int) ≤ v18 ∧ v18 ≤ (2147483647 : Int) := by
        rw [ev18]
        exact hHy8.rF (k := 21) (i := 7) rfl rfl
      refine x_iconst C dX6_read_65 ?_
      refine x_icmp_ne (tgt := 73) C dX6_read_66 (by decide) ⟨by omega, by omega⟩ ⟨by omega, by omega⟩ (fun h19 => ?_) (fun h19 => ?_)
      · refine x_iconst C dX6_read_73 ?_
        refine x_istore (lv' := [(4, .int (iI (0))), (0, .ref 21), (1, .int (iI (1))), (2, .ref 2), (3, .int (iI (cnt)))]) C dX6_read_74 (nlt rfl) rfl ?_
        refine x_iconst C dX6_read_76 ?_
        refine x_istore (lv' := [(5, .int (iI (0))), (4, .int (iI (0))), (0, .ref 21), (1, .int (iI (1))), (2, .ref 2), (3, .int (iI (cnt)))]) C dX6_read_77 (nlt rfl) rfl ?_
        refine x_iload C dX6_read_79 rfl ?_
        refine x_sipush C dX6_read_81 (by decide) ?_
        refine x_icmp_ge (tgt := 123) C dX6_read_84 (by decide) ⟨by omega, by omega⟩ ⟨by omega, by omega⟩ (fun h20 => by exfalso; omega) (fun h20 => ?_)
        refine x_iload C dX6_read_87 rfl ?_
        refine x_if_eq (tgt := 123) C dX6_read_89 (by decide) ⟨by omega, by omega⟩ (fun h21 => ?_) (fun h21 => by exfalso; omega)
        refine x_aload_n (i := 0) C dX6_read_123 rfl rfl ?_
        refine x_getRs (r := 22) C fkX_X6_12 (nlt rfl) rfl (HG.rR hHy8 (k := 21) (i := 0) rfl rfl) dX6_read_124 ?_
        refine x_callV (As := []) C (by exact (c_settle (B := (b0 Xi)) hHy8 FR.rf hBy8)) ckX6_70 im_X0_settle se_X0_settle (nlt rfl) rfl rfl rfl rfl (nle rfl) (by exact ⟨nle rfl, nle rfl⟩) dX6_read_127 ?_
        rintro _ Yy22 ⟨rfl, hHy22, hGy22, hBy22⟩
        have hFy22 : FR mdRX X0 Yy22 := FR.tr hFy8 hGy22 (by decide)
        have hLy22 := hLy8.fr hGy22 rfl
        have hMy22 := hMy8.fr hGy22 rfl
        have hKy22 := hKy8.fr hGy22 rfl
        have hRy22 := hRy8.fr hGy22 rfl
        refine Wx_st (st' := []) rfl ?_
        refine x_iload C dX6_read_130 rfl ?_
        refine x_if_ne (tgt := 151) C dX6_read_132 (by decide) ⟨by omega, by omega⟩ (fun h23 => by exfalso; omega) (fun h23 => ?_)
        refine x_aload_n (i := 0) C dX6_read_135 rfl rfl ?_
        refine x_iconst C dX6_read_136 ?_
        refine x_putI C pkX_X6_42 (nlt rfl) rfl dX6_read_137 ?_
        refine x_gX (fun Yy24 eYy24 => ?_)
        have hHy24 : HG vX Yy24 := by
          rw [eYy24]
          exact hg_wF hHy22 (p := ((-2147483648), 2147483647)) rfl ⟨by omega, by omega⟩
        have hFy24 : FR mdRX X0 Yy24 := by
          rw [eYy24]
          exact FR.upI hFy22 (rfl)
        replace eYy24 : Yy24 = upI Yy22 21 3 (1) := eYy24
        have hGy24 : FR [(21, some 3)] Yy22 Yy24 := by
          rw [eYy24]
          exact FR.upI FR.rf rfl
        have hBy24 := hBy22.fr hGy24 rfl
        have hMy24 := hMy22.fr hGy24 rfl
        have hKy24 := hKy22.fr hGy24 rfl
        have hRy24 := hRy22.fr hGy24 rfl
        have kz := hKy24.1
        refine x_aload_n (i := 0) C dX6_read_140 rfl rfl ?_
        refine x_aload_n (i := 0) C dX6_read_141 rfl rfl ?_
        refine x_getI C fkX_X6_73 (nlt rfl) rfl dX6_read_142 ?_
        refine x_gen (fun v25 ev25 => ?_)
        have qv25 : ((-2147483648) : Int) ≤ v25 ∧ v25 ≤ (2147483647 : Int) := by
          rw [ev25]
          exact hHy24.rF (k := 21) (i := 8) rfl rfl
        have kv25 : v25 = Yy8.1 21 8 := by rw [ev25, eYy24, upI_ne (by decide), (hGy22 21 8 rfl).1]
        refine x_putI C pkX_X6_45 (nlt rfl) rfl dX6_read_145 ?_
        refine x_gX (fun Yy26 eYy26 => ?_)
        have hHy26 : HG vX Yy26 := by
          rw [eYy26]
          exact hg_wF hHy24 (p := ((-2147483648), 2147483647)) rfl ⟨by omega, by omega⟩
        have hFy26 : FR mdRX X0 Yy26 := by
          rw [eYy26]
          exact FR.upI hFy24 (rfl)
        replace eYy26 : Yy26 = upI Yy24 21 4 (v25) := eYy26
        have hGy26 : FR [(21, some 4)] Yy24 Yy26 := by
          rw [eYy26]
          exact FR.upI FR.rf rfl
        have hBy26 := hBy24.fr hGy26 rfl
        have hMy26 := hMy24.fr hGy26 rfl
        have hKy26 := hKy24.fr hGy26 rfl
        have hRy26 := hRy24.fr hGy26 rfl
        refine x_goto (tgt := 181) C dX6_read_148 (by decide) ?_
        exact x_vret C hQ dX6_read_181 (⟨rfl, hHy26, FR.tr hFi hFy26 (by decide), by rw [fR_x R1.1 (by have k5 := hKy8.2.1; omega)]; exact ⟨by rw [eYy26, upI_ne (by decide), eYy24, upI_at], by rw [eYy26, upI_at]; omega⟩, fun _ => hRy26⟩)
      · refine x_iconst C dX6_read_69 ?_
        refine x_goto (tgt := 74) C dX6_read_70 (by decide) ?_
        refine x_istore (lv' := [(4, .int (iI (1))), (0, .ref 21), (1, .int (iI (1))), (2, .ref 2), (3, .int (iI (cnt)))]) C dX6_read_74 (nlt rfl) rfl ?_
        refine x_iconst C dX6_read_76 ?_
        refine x_istore (lv' := [(5, .int (iI (0))), (4, .int (iI (1))), (0, .ref 21), (1, .int (iI (1))), (2, .ref 2), (3, .int (iI (cnt)))]) C dX6_read_77 (nlt rfl) rfl ?_
        refine x_iload C dX6_read_79 rfl ?_
        refine x_sipush C dX6_read_81 (by decide) ?_
        refine x_icmp_ge (tgt := 123) C dX6_read_84 (by decide) ⟨by omega, by omega⟩ ⟨by omega, by omega⟩ (fun h27 => by exfalso; omega) (fun h27 => ?_)
        refine x_iload C dX6_read_87 rfl ?_
        refine x_if_eq (tgt := 123) C dX6_read_89 (by decide) ⟨by omega, by omega⟩ (fun h28 => by exfalso; omega) (fun h28 => ?_)
        refine x_aload_n (i := 0) C dX6_read_92 rfl rfl ?_
        refine x_getI C fkX_X6_61 (nlt rfl) rfl dX6_read_93 ?_
        refine x_gen (fun v29 ev29 => ?_)
        have qv29 : ((-2147483648) : Int) ≤ v29 ∧ v29 ≤ (2147483647 : Int) := by
          rw [ev29]
          exact hHy8.rF (k := 21) (i := 7) rfl rfl
        refine x_iconst C dX6_read_96 ?_
        have kz := hKy8.2.1
        refine x_icmp_eq (tgt := 123) C dX6_read_97 (by decide) ⟨by omega, by omega⟩ ⟨by omega, by omega⟩ (fun h30 => ?_) (fun h30 => by exfalso; omega)
        refine x_aload_n (i := 0) C dX6_read_123 rfl rfl ?_
        refine x_getRs (r := 22) C fkX_X6_12 (nlt rfl) rfl (HG.rR hHy8 (k := 21) (i := 0) rfl rfl) dX6_read_124 ?_
        refine x_callV (As := []) C (by exact (c_settle (B := (b0 Xi)) hHy8 FR.rf hBy8)) ckX6_70 im_X0_settle se_X0_settle (nlt rfl) rfl rfl rfl rfl (nle rfl) (by exact ⟨nle rfl, nle rfl⟩) dX6_read_127 ?_
        rintro _ Yy31 ⟨rfl, hHy31, hGy31, hBy31⟩
        have hFy31 : FR mdRX X0 Yy31 := FR.tr hFy8 hGy31 (by decide)
        have hLy31 := hLy8.fr hGy31 rfl
        have hMy31 := hMy8.fr hGy31 rfl
        have hKy31 := hKy8.fr hGy31 rfl
        have hRy31 := hRy8.fr hGy31 rfl
        refine Wx_st (st' := []) rfl ?_
        refine x_iload C dX6_read_130 rfl ?_
        refine x_if_ne (tgt := 151) C dX6_read_132 (by decide) ⟨by omega, by omega⟩ (fun h32 => ?_) (fun h32 => by exfalso; omega)
        have fz := hLy31.1
        refine x_aload_n (i := 0) C dX6_read_151 rfl rfl ?_
        refine x_getI C fkX_X6_42 (nlt rfl) rfl dX6_read_152 ?_
        refine x_gen (fun v33 ev33 => ?_)
        have qv33 : ((-2147483648) : Int) ≤ v33 ∧ v33 ≤ (2147483647 : Int) := by
          rw [ev33]
          exact hHy31.rF (k := 21) (i := 3) rfl rfl
        have kv33 : v33 = 0 := by rw [ev33, (hGy31 21 3 rfl).1, (hGy8 21 3 rfl).1, (hGy6 21 3 rfl).1, eYy5, upI_nc (by decide), (hGy4 21 3 rfl).1, eYy3, upI_ne (by decide), eYy2, upI_at]
        refine x_if_ne (tgt := 181) C dX6_read_155 (by decide) ⟨by omega, by omega⟩ (fun h34 => ?_) (fun h34 => ?_)
        · exact x_vret C hQ dX6_read_181 (⟨rfl, hHy31, FR.tr hFi hFy31 (by decide), by rw [fR_5 R1.1 (by have k5 := hKy8.2.1; omega)]; exact hLy31, fun _ => hRy31⟩)
        · refine x_iload_n (i := 1) C dX6_read_158 rfl rfl ?_
          refine x_if_ne (tgt := 181) C dX6_read_159 (by decide) ⟨by omega, by omega⟩ (fun h35 => ?_) (fun h35 => by exfalso; omega)
          exact x_vret C hQ dX6_read_181 (⟨rfl, hHy31, FR.tr hFi hFy31 (by decide), by rw [fR_5 R1.1 (by have k5 := hKy8.2.1; omega)]; exact hLy31, fun _ => hRy31⟩)
set_option maxHeartbeats 4000000 in
set_option maxRecDepth 100000 in
theorem c_read1 {D : va_G} {ad : Nat → Nat} {cA : Nat → ClassId} {Xi : XT} {b : Nat → Int} {N : Nat} {cnt : Int} (cn : cnt = (N : Int)) (n6 : N ≤ 600) (hb : ∀ i, i < N → Xi.1 2 i = b i) (hH : HG vX Xi) (hF : FR mdRD Xi Xi) : MetS (wX D ad cA) yX6_read cX6_read 6 none 9 205 [.ref 21, .int (iI (1)), .ref 2, .int (iI (cnt))] Xi (fun r X1 => r = none ∧ HG vX X1 ∧ FR mdRD Xi X1 ∧ FLX (fR b N) X1 ∧ (tr b N (tS b N 0) → RUX (rV b N (tS b N 0)) X1)) := by
  refine MetS.mk (own := RX6) (by decide +kernel) rfl (nle rfl) (fun E C HS hQ => ?_)
  refine Wx_lv (lv' := [(0, .ref 21), (1, .int (iI (1))), (2, .ref 2), (3, .int (iI (cnt)))]) rfl ?_
  refine x_aload_n (i := 0) C dX6_read_0 rfl rfl ?_
  refine x_aload_n (i := 2) C dX6_read_1 rfl rfl ?_
  refine x_putR C pkX_X6_25 (by first | exact Or.inl ⟨_, rfl⟩ | exact Or.inr ⟨_, rfl⟩) (nlt rfl) rfl dX6_read_2 ?_
  refine x_gX (fun Yy1 eYy1 => ?_)
  have hHy1 : HG vX Yy1 := by
    rw [eYy1]
    exact HG.upR hH (by decide +kernel)
  have hFy1 : FR mdRD Xi Yy1 := by
    rw [eYy1]
    exact FR.upR hF rfl
  replace eYy1 : Yy1 = upR Xi 21 5 (some 2) := eYy1
  refine x_aload_n (i := 0) C dX6_read_5 rfl rfl ?_
  refine x_iload_n (i := 3) C dX6_read_6 rfl rfl ?_
  refine x_aload_n (i := 2) C dX6_read_7 rfl rfl ?_
  refine x_alen (kd := 0) C (nlt rfl) rfl (by decide) dX6_read_8 ?_
  refine x_eq (b := 600) rfl ?_
  refine x_mmin C ⟨by omega, by omega⟩ ⟨by omega, by omega⟩ (lw_gi 575 (by decide +kernel) rfl : Cond.methodLink RX6 29 Lib.Math.min.name ∈ lw_g) (lw_gi 576 (by decide +kernel) rfl : Cond.static Lib.Math.min.name ∈ lw_g) (lw_gi 129 (by decide +kernel) rfl : Cond.initialized "java/lang/Math" ∈ lw_g) (lw_gi 577 (by decide +kernel) rfl : Cond.code Lib.Math.min.name Lib.Math.min.code 2 (some .int) ∈ lw_g) (nle rfl) (nle rfl) dX6_read_9 (fun v2 h3 => ?_)
  refine x_putI C pkX_X6_35 (nlt rfl) rfl dX6_read_12 ?_
  refine x_gX (fun Yy4 eYy4 => ?_)
  have hHy4 : HG vX Yy4 := by
    rw [eYy4]
    exact hg_wF hHy1 (p := ((-2147483648), 2147483647)) rfl ⟨by omega, by omega⟩
  have hFy4 : FR mdRD Xi Yy4 := by
    rw [eYy4]
    exact FR.upI hFy1 (rfl)
  replace eYy4 : Yy4 = upI Yy1 21 6 (v2) := eYy4
  have hGy4 : FR [(21, some 6)] Yy1 Yy4 := by
    rw [eYy4]
    exact FR.upI FR.rf rfl
  have hTt : TPX b N Yy4 := ⟨by rw [eYy4, upI_2, eYy1, upR_at], by rw [eYy4, upI_at]; omega, n6, fun i hi => by rw [eYy4, upI_nc (by decide), eYy1, upR_1]; exact hb i hi⟩
  have hBt : BDX (bof Xi) Yy4 := (bof_X Xi).fr (md := [(21, some 5), (21, some 6)]) (X := Xi) (by rw [eYy4, eYy1]; exact FR.upI (FR.upR FR.rf rfl) rfl) rfl
  have hMt : GMX (gof Xi) Yy4 := (gof_X Xi).fr (md := [(21, some 5), (21, some 6)]) (X := Xi) (by rw [eYy4, eYy1]; exact FR.upI (FR.upR FR.rf rfl) rfl) rfl
  exact c_readP1 hTt hFy4 hHy4 FR.rf hBt hMt C HS hQ 1 (by decide)
set_option maxHeartbeats 4000000 in
set_option maxRecDepth 100000 in
theorem c_readP2 {D : va_G} {ad : Nat → Nat} {cA : Nat → ClassId} {Xi X0 : XT} {b : Nat → Int} {N : Nat} {cnt : Int} (hT0 : TPX b N X0) (hFi : FR mdRD Xi X0) (hH : HG vX X0) (hF : FR mdRX X0 X0) (hB : BDX (bof Xi) X0) (hM : GMX (gof Xi) X0) {E : ET} (C : CX E (wX D ad cA) cX6_read 6 RX6 none { frames := 9, cells := 0, slots := 0, locals := 205 }) (HS : SE E (wX D ad cA)) (hQ : EQ E (wX D ad cA) (fun r X1 => r = none ∧ HG vX X1 ∧ FR mdRD Xi X1 ∧ FLX (fG (gRun b N 600 (tS b N 0) (0, -1) (g0 Xi))) X1 ∧ GMX (gRun b N 600 (tS b N 0) (0, -1) (g0 Xi)).2.2.2 X1)) : ∀ (n : Nat), (0 : Int) < n → Wx E (wX D ad cA) 6 (PX (wX D ad cA) X0) 15 [(0, .ref 21), (1, .int (iI (2))), (2, .ref 2), (3, .int (iI (cnt)))] [] := by
  intro n
  induction n with
  | zero => intro  hn ; exfalso; omega
  | succ n ih =>
    intro  hn 
    have n6 := hT0.2.2.1
    refine x_aload_n (i := 0) C dX6_read_15 rfl rfl ?_
    refine x_iconst C dX6_read_16 ?_
    refine x_putI C pkX_X6_39 (nlt rfl) rfl dX6_read_17 ?_
    refine x_gX (fun Yy1 eYy1 => ?_)
    have hHy1 : HG vX Yy1 := by
      rw [eYy1]
      exact hg_wF hH (p := ((-2147483648), 2147483647)) rfl ⟨by omega, by omega⟩
    have hFy1 : FR mdRX X0 Yy1 := by
      rw [eYy1]
      exact FR.upI hF (rfl)
    replace eYy1 : Yy1 = upI X0 21 9 (0) := eYy1
    have hGy1 : FR [(21, some 9)] X0 Yy1 := by
      rw [eYy1]
      exact FR.upI FR.rf rfl
    have hBy1 := hB.fr hGy1 rfl
    have hMy1 := hM.fr hGy1 rfl
    refine x_aload_n (i := 0) C dX6_read_20 rfl rfl ?_
    refine x_iconst C dX6_read_21 ?_
    refine x_putI C pkX_X6_42 (nlt rfl) rfl dX6_read_22 ?_
    refine x_gX (fun Yy2 eYy2 => ?_)
    have hHy2 : HG vX Yy2 := by
      rw [eYy2]
      exact hg_wF hHy1 (p := ((-2147483648), 2147483647)) rfl ⟨by omega, by omega⟩
    have hFy2 : FR mdRX X0 Yy2 := by
      rw [eYy2]
      exact FR.upI hFy1 (rfl)
    replace eYy2 : Yy2 = upI Yy1 21 3 (0) := eYy2
    have hGy2 : FR [(21, some 3)] Yy1 Yy2 := by
      rw [eYy2]
      exact FR.upI FR.rf rfl
    have hBy2 := hBy1.fr hGy2 rfl
    have hMy2 := hMy1.fr hGy2 rfl
    refine x_aload_n (i := 0) C dX6_read_25 rfl rfl ?_
    refine x_iconst C dX6_read_26 ?_
    refine x_putI C pkX_X6_45 (nlt rfl) rfl dX6_read_27 ?_
    refine x_gX (fun Yy3 eYy3 => ?_)
    have hHy3 : HG vX Yy3 := by
      rw [eYy3]
      exact hg_wF hHy2 (p := ((-2147483648), 2147483647)) rfl ⟨by omega, by omega⟩
    have hFy3 : FR mdRX X0 Yy3 := by
      rw [eYy3]
      exact FR.upI hFy2 (rfl)
    replace eYy3 : Yy3 = upI Yy2 21 4 ((-1)) := eYy3
    have hGy3 : FR [(21, some 4)] Yy2 Yy3 := by
      rw [eYy3]
      exact FR.upI FR.rf rfl
    have hBy3 := hBy2.fr hGy3 rfl
    have hMy3 := hMy2.fr hGy3 rfl
    have hLy3 : FLX (0, -1) Yy3 := ⟨by rw [eYy3, upI_ne (by decide), eYy2, upI_at], by rw [eYy3, upI_at]⟩
    refine x_aload_n (i := 0) C dX6_read_30 rfl rfl ?_
    refine x_getRs (r := 22) C fkX_X6_12 (nlt rfl) rfl (HG.rR hHy3 (k := 21) (i := 0) rfl rfl) dX6_read_31 ?_
    refine x_callV (As := []) C (by exact (c_clear (B := bof Xi) hHy3 FR.rf hBy3)) ckX6_48 im_X0_clear se_X0_clear (nlt rfl) rfl rfl rfl rfl (nle rfl) (by exact ⟨nle rfl, nle rfl⟩) dX6_read_34 ?_
    rintro _ Yy4 ⟨rfl, hHy4, hGy4, hBy4⟩
    have hFy4 : FR mdRX X0 Yy4 := FR.tr hFy3 hGy4 (by decide)
    have hMy4 := hMy3.fr hGy4 rfl
    have hLy4 := hLy3.fr hGy4 rfl
    refine Wx_st (st' := []) rfl ?_
    refine x_aload_n (i := 0) C dX6_read_37 rfl rfl ?_
    refine x_getRs (r := 25) C fkX_X6_21 (nlt rfl) rfl (HG.rR hHy4 (k := 21) (i := 1) rfl rfl) dX6_read_38 ?_
    refine x_iconst C dX6_read_41 ?_
    refine x_putI C pkX_X6_51 (nlt rfl) rfl dX6_read_42 ?_
    refine x_gX (fun Yy5 eYy5 => ?_)
    have hHy5 : HG vX Yy5 := by
      rw [eYy5]
      exact hg_wF hHy4 (p := ((-2147483648), 2147483647)) rfl ⟨by omega, by omega⟩
    have hFy5 : FR mdRX X0 Yy5 := by
      rw [eYy5]
      exact FR.upI hFy4 (rfl)
    replace eYy5 : Yy5 = upI Yy4 25 0 (0) := eYy5
    have hGy5 : FR [(25, some 0)] Yy4 Yy5 := by
      rw [eYy5]
      exact FR.upI FR.rf rfl
    have hBy5 := hBy4.fr hGy5 rfl
    have hLy5 := hLy4.fr hGy5 rfl
    have hMy5 : GMX (g0 Xi) Yy5 := ⟨by rw [eYy5, upI_at]; rfl, fun j hj => ⟨by rw [eYy5, upI_2]; exact (hMy4.2 j hj).1, by rw [eYy5, upI_nc (by decide)]; exact (hMy4.2 j hj).2⟩⟩
    refine x_aload_n (i := 0) C dX6_read_45 rfl rfl ?_
    refine x_callV (As := []) C (by exact (c_advance (p := 0) (Nat.zero_le _) (hT0.fr hFy5 rfl) hHy5 FR.rf (by rw [eYy5, upI_nc (by decide), (hGy4 21 9 rfl).1, eYy3, upI_ne (by decide), eYy2, upI_ne (by decide), eYy1, upI_at]; rfl))) ckX6_54 im_X6_advance se_X6_advance (nlt rfl) rfl rfl rfl rfl (nle rfl) (by exact ⟨nle rfl, nle rfl⟩) dX6_read_46 ?_
    rintro _ Yy6 ⟨rfl, hHy6, hGy6, hKy6⟩
    have hFy6 : FR mdRX X0 Yy6 := FR.tr hFy5 hGy6 (by decide)
    have hBy6 := hBy5.fr hGy6 rfl
    have hLy6 := hLy5.fr hGy6 rfl
    have hMy6 := hMy5.fr hGy6 rfl
    refine Wx_st (st' := []) rfl ?_
    refine x_iload_n (i := 1) C dX6_read_49 rfl rfl ?_
    refine x_iconst C dX6_read_50 ?_
    refine x_icmp_ne (tgt := 69) C dX6_read_51 (by decide) ⟨by omega, by omega⟩ ⟨by omega, by omega⟩ (fun h7 => ?_) (fun h7 => by exfalso; omega)
    refine x_iconst C dX6_read_69 ?_
    refine x_goto (tgt := 74) C dX6_read_70 (by decide) ?_
    refine x_istore (lv' := [(4, .int (iI (1))), (0, .ref 21), (1, .int (iI (2))), (2, .ref 2), (3, .int (iI (cnt)))]) C dX6_read_74 (nlt rfl) rfl ?_
    refine x_iconst C dX6_read_76 ?_
    refine x_istore (lv' := [(5, .int (iI (0))), (4, .int (iI (1))), (0, .ref 21), (1, .int (iI (2))), (2, .ref 2), (3, .int (iI (cnt)))]) C dX6_read_77 (nlt rfl) rfl ?_
    rw [show iI 1 = iI (zB true) from rfl]
    refine Wx_pick [5, 4, 0, 1] ?_
    refine Wx_lv (lv' := [(5, .int (iI (0))), (4, .int (iI (zB true))), (0, .ref 21), (1, .int (iI (2)))]) rfl ?_
    exact c_readL2 hT0 hFi C HS hQ 602 0 true (tS b N 0) (0, -1) (g0 Xi) Yy6 (by omega) (by omega) (by omega) hHy6 hFy6 hKy6 hLy6 hMy6 ⟨by show (0 : Int) ≤ 0; omega, by show (0 : Int) ≤ 30; omega⟩ rfl
set_option maxHeartbeats 4000000 in
set_option maxRecDepth 100000 in
theorem c_read2 {D : va_G} {ad : Nat → Nat} {cA : Nat → ClassId} {Xi : XT} {b : Nat → Int} {N : Nat} {cnt : Int} (cn : cnt = (N : Int)) (n6 : N ≤ 600) (hb : ∀ i, i < N → Xi.1 2 i = b i) (hH : HG vX Xi) (hF : FR mdRD Xi Xi) : MetS (wX D ad cA) yX6_read cX6_read 6 none 9 205 [.ref 21, .int (iI (2)), .ref 2, .int (iI (cnt))] Xi (fun r X1 => r = none ∧ HG vX X1 ∧ FR mdRD Xi X1 ∧ FLX (fG (gRun b N 600 (tS b N 0) (0, -1) (g0 Xi))) X1 ∧ GMX (gRun b N 600 (tS b N 0) (0, -1) (g0 Xi)).2.2.2 X1) := by
  refine MetS.mk (own := RX6) (by decide +kernel) rfl (nle rfl) (fun E C HS hQ => ?_)
  refine Wx_lv (lv' := [(0, .ref 21), (1, .int (iI (2))), (2, .ref 2), (3, .int (iI (cnt)))]) rfl ?_
  refine x_aload_n (i := 0) C dX6_read_0 rfl rfl ?_
  refine x_aload_n (i := 2) C dX6_read_1 rfl rfl ?_
  refine x_putR C pkX_X6_25 (by first | exact Or.inl ⟨_, rfl⟩ | exact Or.inr ⟨_, rfl⟩) (nlt rfl) rfl dX6_read_2 ?_
  refine x_gX (fun Yy1 eYy1 => ?_)
  have hHy1 : HG vX Yy1 := by
    rw [eYy1]
    exact HG.upR hH (by decide +kernel)
  have hFy1 : FR mdRD Xi Yy1 := by
    rw [eYy1]
    exact FR.upR hF rfl
  replace eYy1 : Yy1 = upR Xi 21 5 (some 2) := eYy1
  refine x_aload_n (i := 0) C dX6_read_5 rfl rfl ?_
  refine x_iload_n (i := 3) C dX6_read_6 rfl rfl ?_
  refine x_aload_n (i := 2) C dX6_read_7 rfl rfl ?_
  refine x_alen (kd := 0) C (nlt rfl) rfl (by decide) dX6_read_8 ?_
  refine x_eq (b := 600) rfl ?_
  refine x_mmin C ⟨by omega, by omega⟩ ⟨by omega, by omega⟩ (lw_gi 575 (by decide +kernel) rfl : Cond.methodLink RX6 29 Lib.Math.min.name ∈ lw_g) (lw_gi 576 (by decide +kernel) rfl : Cond.static Lib.Math.min.name ∈ lw_g) (lw_gi 129 (by decide +kernel) rfl : Cond.initialized "java/lang/Math" ∈ lw_g) (lw_gi 577 (by decide +kernel) rfl : Cond.code Lib.Math.min.name Lib.Math.min.code 2 (some .int) ∈ lw_g) (nle rfl) (nle rfl) dX6_read_9 (fun v2 h3 => ?_)
  refine x_putI C pkX_X6_35 (nlt rfl) rfl dX6_read_12 ?_
  refine x_gX (fun Yy4 eYy4 => ?_)
  have hHy4 : HG vX Yy4 := by
    rw [eYy4]
    exact hg_wF hHy1 (p := ((-2147483648), 2147483647)) rfl ⟨by omega, by omega⟩
  have hFy4 : FR mdRD Xi Yy4 := by
    rw [eYy4]
    exact FR.upI hFy1 (rfl)
  replace eYy4 : Yy4 = upI Yy1 21 6 (v2) := eYy4
  have hGy4 : FR [(21, some 6)] Yy1 Yy4 := by
    rw [eYy4]
    exact FR.upI FR.rf rfl
  have hTt : TPX b N Yy4 := ⟨by rw [eYy4, upI_2, eYy1, upR_at], by rw [eYy4, upI_at]; omega, n6, fun i hi => by rw [eYy4, upI_nc (by decide), eYy1, upR_1]; exact hb i hi⟩
  have hBt : BDX (bof Xi) Yy4 := (bof_X Xi).fr (md := [(21, some 5), (21, some 6)]) (X := Xi) (by rw [eYy4, eYy1]; exact FR.upI (FR.upR FR.rf rfl) rfl) rfl
  have hMt : GMX (gof Xi) Yy4 := (gof_X Xi).fr (md := [(21, some 5), (21, some 6)]) (X := Xi) (by rw [eYy4, eYy1]; exact FR.upI (FR.upR FR.rf rfl) rfl) rfl
  exact c_readP2 hTt hFy4 hHy4 FR.rf hBt hMt C HS hQ 1 (by decide)
