/-! ===== the reference stores ===== -/
theorem dX12_store_0 : decode cX12_store 0 = .ok (.iconst 0, 1) := by decide +kernel
theorem dX12_store_1 : decode cX12_store 1 = .ok (.istore 4, 2) := by decide +kernel
theorem dX12_store_3 : decode cX12_store 3 = .ok (.iload 4, 2) := by decide +kernel
theorem dX12_store_5 : decode cX12_store 5 = .ok (.iload_n 2, 1) := by decide +kernel
theorem dX12_store_6 : decode cX12_store 6 = .ok (.if_icmp .ge 24, 3) := by decide +kernel
theorem dX12_store_9 : decode cX12_store 9 = .ok (.aload_n 1, 1) := by decide +kernel
theorem dX12_store_10 : decode cX12_store 10 = .ok (.iload_n 2, 1) := by decide +kernel
theorem dX12_store_11 : decode cX12_store 11 = .ok (.iload_n 3, 1) := by decide +kernel
theorem dX12_store_12 : decode cX12_store 12 = .ok (.imul, 1) := by decide +kernel
theorem dX12_store_13 : decode cX12_store 13 = .ok (.iload 4, 2) := by decide +kernel
theorem dX12_store_15 : decode cX12_store 15 = .ok (.iadd, 1) := by decide +kernel
theorem dX12_store_16 : decode cX12_store 16 = .ok (.aload_n 0, 1) := by decide +kernel
theorem dX12_store_17 : decode cX12_store 17 = .ok (.getfield 35, 3) := by decide +kernel
theorem dX12_store_20 : decode cX12_store 20 = .ok (.iload 4, 2) := by decide +kernel
theorem dX12_store_22 : decode cX12_store 22 = .ok (.iaload, 1) := by decide +kernel
theorem dX12_store_23 : decode cX12_store 23 = .ok (.iastore, 1) := by decide +kernel
theorem dX12_store_24 : decode cX12_store 24 = .ok (.iinc 4 1, 3) := by decide +kernel
theorem dX12_store_27 : decode cX12_store 27 = .ok (.goto (-24), 3) := by decide +kernel
theorem dX12_store_30 : decode cX12_store 30 = .ok (.return_, 1) := by decide +kernel

abbrev mmS6 : List (Nat × Option Nat) := [(6, none)]
set_option maxHeartbeats 4000000 in
set_option maxRecDepth 100000 in
theorem r_storeL_boards {D : va_G} {ad : Nat → Nat} {cA : Nat → ClassId} {X0 : XT} {m : Nat} (hm : m < 2) (ht : fits 6 (51 * m) 51 (fun i => X0.1 9 i)) {E : ET} (C : CX E (wM D ad cA) cX12_store 5 RX12 none { frames := 0, cells := 0, slots := 0, locals := 0 }) (hQ : EQ E (wM D ad cA) (fun r X1 => r = none ∧ HG vM X1 ∧ FR mmS6 X0 X1 ∧ (∀ p, p < 51 → X1.1 6 (51 * m + p) = X0.1 9 p) ∧ ∀ p, (p < 51 * m ∨ 51 * m + 51 ≤ p) → X1.1 6 p = X0.1 6 p)) : ∀ (n : Nat) (i : Nat) (X : XT), ((52 - i : Nat) : Int) < n → HG vM X → FR mmS6 X0 X → i ≤ 51 → (∀ p, p < i → X.1 6 (51 * m + p) = X0.1 9 p) → (∀ p, (p < 51 * m ∨ 51 * m + 51 ≤ p) → X.1 6 p = X0.1 6 p) → Wx E (wM D ad cA) 5 (PX (wM D ad cA) X) 3 [(0, .ref 0), (1, .ref 6), (2, .int (iI (51))), (3, .int (iI ((m : Int)))), (4, .int (iI ((i : Int))))] [] := by
  intro n
  induction n with
  | zero => intro i X hn hH hF il h1 h2; exfalso; omega
  | succ n ih =>
    intro i X hn hH hF il h1 h2
    refine x_iload C dX12_store_3 rfl ?_
    refine x_iload_n (i := 2) C dX12_store_5 rfl rfl ?_
    refine x_icmp_ge (tgt := 30) C dX12_store_6 (by decide) ⟨by omega, by omega⟩ ⟨by omega, by omega⟩ (fun h1 => ?_) (fun h1 => ?_)
    · exact x_vret C hQ dX12_store_30 (⟨rfl, hH, hF, fun p hp => h1 p (by omega), h2⟩)
    · refine x_aload_n (i := 1) C dX12_store_9 rfl rfl ?_
      refine x_iload_n (i := 2) C dX12_store_10 rfl rfl ?_
      refine x_iload_n (i := 3) C dX12_store_11 rfl rfl ?_
      refine x_imul C dX12_store_12 ?_
      refine x_iload C dX12_store_13 rfl ?_
      refine x_iadd C dX12_store_15 ?_
      refine x_aload_n (i := 0) C dX12_store_16 rfl rfl ?_
      refine x_getRs (r := 9) C fkM_X12_35 (nlt rfl) rfl (HG.rR hH (k := 0) (i := 18) rfl rfl) dX12_store_17 ?_
      refine x_iload C dX12_store_20 rfl ?_
      refine x_iald C (nlt rfl) rfl rfl (nle rfl) (by omega) (by omega) dX12_store_22 ?_
      refine x_gen (fun v2 ev2 => ?_)
      have qv2 : ((-1) : Int) ≤ v2 ∧ v2 ≤ (99 : Int) := by
        rw [ev2]
        exact hH.rA (k := 9) (n := 331) (p := ((-1), 99)) (nlt rfl) rfl (by decide +kernel) (by omega)
      have ktv2 := ev2
      have zt : v2 = X0.1 9 i := by rw [ev2, show ((i : Int)).toNat = i by omega, (hF 9 i rfl).1]
      refine x_iast C (nlt rfl) rfl rfl (nle rfl) (by omega) (by omega) dX12_store_23 ?_
      refine x_gX (fun Yy3 eYy3 => ?_)
      have hHy3 : HG vM Yy3 := by
        rw [eYy3]
        exact (by rw [show ((51 * ((m : Int))) + ((i : Int))).toNat = 51 * m + i by omega]; exact HG.upI hH (fun q hq => by rw [zt]; exact ht i (by omega) q hq))
      have hFy3 : FR mmS6 X0 Yy3 := by
        rw [eYy3]
        exact FR.upI hF rfl
      rw [show ((51 * ((m : Int))) + ((i : Int))).toNat = 51 * m + i by omega] at eYy3
      refine x_iinc (lv' := [(4, .int (iI ((i : Int) + 1))), (0, .ref 0), (1, .ref 6), (2, .int (iI (51))), (3, .int (iI ((m : Int))))]) C dX12_store_24 rfl (nlt rfl) rfl ?_
      refine x_goto (tgt := 3) C dX12_store_27 (by decide) ?_
      rw [show iI ((i : Int) + 1) = iI (((i + 1 : Nat) : Int)) by congr 1]
      refine Wx_pick [0, 1, 2, 3, 4] ?_
      refine Wx_lv (lv' := [(0, .ref 0), (1, .ref 6), (2, .int (iI (51))), (3, .int (iI ((m : Int)))), (4, .int (iI (((i + 1 : Nat) : Int))))]) rfl ?_
      refine ih (i + 1) _ (by omega) hHy3 hFy3 (by omega) (fun p hp => ?_) (fun p hp => ?_)
      · by_cases ep : p = i
        · subst ep
          rw [eYy3, upI_at]
          exact zt
        · rw [eYy3, upI_ne (by omega)]
          exact h1 p (by omega)
      · rw [eYy3, upI_ne (by omega)]
        exact h2 p hp
set_option maxHeartbeats 4000000 in
set_option maxRecDepth 100000 in
theorem r_store_boards {D : va_G} {ad : Nat → Nat} {cA : Nat → ClassId} {X0 : XT} {m : Nat} (hm : m < 2) (ht : fits 6 (51 * m) 51 (fun i => X0.1 9 i)) (hH : HG vM X0) (hF : FR mmS6 X0 X0) : MetX (wM D ad cA) yX12_store cX12_store 5 none 0 0 [.ref 0, .ref 6, .int (iI (51)), .int (iI ((m : Int)))] X0 (fun r X1 => r = none ∧ HG vM X1 ∧ FR mmS6 X0 X1 ∧ (∀ p, p < 51 → X1.1 6 (51 * m + p) = X0.1 9 p) ∧ ∀ p, (p < 51 * m ∨ 51 * m + 51 ≤ p) → X1.1 6 p = X0.1 6 p) := by
  refine MetX.mk (own := RX12) (by decide +kernel) rfl (nle rfl) (fun E C hQ => ?_)
  refine Wx_lv (lv' := [(0, .ref 0), (1, .ref 6), (2, .int (iI (51))), (3, .int (iI ((m : Int))))]) rfl ?_
  refine x_iconst C dX12_store_0 ?_
  refine x_istore (lv' := [(4, .int (iI (0))), (0, .ref 0), (1, .ref 6), (2, .int (iI (51))), (3, .int (iI ((m : Int))))]) C dX12_store_1 (nlt rfl) rfl ?_
  refine Wx_pick [0, 1, 2, 3, 4] ?_
  refine Wx_lv (lv' := [(0, .ref 0), (1, .ref 6), (2, .int (iI (51))), (3, .int (iI ((m : Int)))), (4, .int (iI (0)))]) rfl ?_
  exact r_storeL_boards hm ht C hQ 53 0 X0 (by decide) hH hF (by omega) (fun p hp => absurd hp (by omega)) (fun p hp => rfl)
abbrev mmS7 : List (Nat × Option Nat) := [(7, none)]
set_option maxHeartbeats 4000000 in
set_option maxRecDepth 100000 in
theorem r_storeL_rules {D : va_G} {ad : Nat → Nat} {cA : Nat → ClassId} {X0 : XT} {m : Nat} (hm : m < 3) (ht : fits 7 (10 * m) 10 (fun i => X0.1 9 i)) {E : ET} (C : CX E (wM D ad cA) cX12_store 5 RX12 none { frames := 0, cells := 0, slots := 0, locals := 0 }) (hQ : EQ E (wM D ad cA) (fun r X1 => r = none ∧ HG vM X1 ∧ FR mmS7 X0 X1 ∧ (∀ p, p < 10 → X1.1 7 (10 * m + p) = X0.1 9 p) ∧ ∀ p, (p < 10 * m ∨ 10 * m + 10 ≤ p) → X1.1 7 p = X0.1 7 p)) : ∀ (n : Nat) (i : Nat) (X : XT), ((11 - i : Nat) : Int) < n → HG vM X → FR mmS7 X0 X → i ≤ 10 → (∀ p, p < i → X.1 7 (10 * m + p) = X0.1 9 p) → (∀ p, (p < 10 * m ∨ 10 * m + 10 ≤ p) → X.1 7 p = X0.1 7 p) → Wx E (wM D ad cA) 5 (PX (wM D ad cA) X) 3 [(0, .ref 0), (1, .ref 7), (2, .int (iI (10))), (3, .int (iI ((m : Int)))), (4, .int (iI ((i : Int))))] [] := by
  intro n
  induction n with
  | zero => intro i X hn hH hF il h1 h2; exfalso; omega
  | succ n ih =>
    intro i X hn hH hF il h1 h2
    refine x_iload C dX12_store_3 rfl ?_
    refine x_iload_n (i := 2) C dX12_store_5 rfl rfl ?_
    refine x_icmp_ge (tgt := 30) C dX12_store_6 (by decide) ⟨by omega, by omega⟩ ⟨by omega, by omega⟩ (fun h1 => ?_) (fun h1 => ?_)
    · exact x_vret C hQ dX12_store_30 (⟨rfl, hH, hF, fun p hp => h1 p (by omega), h2⟩)
    · refine x_aload_n (i := 1) C dX12_store_9 rfl rfl ?_
      refine x_iload_n (i := 2) C dX12_store_10 rfl rfl ?_
      refine x_iload_n (i := 3) C dX12_store_11 rfl rfl ?_
      refine x_imul C dX12_store_12 ?_
      refine x_iload C dX12_store_13 rfl ?_
      refine x_iadd C dX12_store_15 ?_
      refine x_aload_n (i := 0) C dX12_store_16 rfl rfl ?_
      refine x_getRs (r := 9) C fkM_X12_35 (nlt rfl) rfl (HG.rR hH (k := 0) (i := 18) rfl rfl) dX12_store_17 ?_
      refine x_iload C dX12_store_20 rfl ?_
      refine x_iald C (nlt rfl) rfl rfl (nle rfl) (by omega) (by omega) dX12_store_22 ?_
      refine x_gen (fun v2 ev2 => ?_)
      have qv2 : ((-1) : Int) ≤ v2 ∧ v2 ≤ (99 : Int) := by
        rw [ev2]
        exact hH.rA (k := 9) (n := 331) (p := ((-1), 99)) (nlt rfl) rfl (by decide +kernel) (by omega)
      have ktv2 := ev2
      have zt : v2 = X0.1 9 i := by rw [ev2, show ((i : Int)).toNat = i by omega, (hF 9 i rfl).1]
      refine x_iast C (nlt rfl) rfl rfl (nle rfl) (by omega) (by omega) dX12_store_23 ?_
      refine x_gX (fun Yy3 eYy3 => ?_)
      have hHy3 : HG vM Yy3 := by
        rw [eYy3]
        exact (by rw [show ((10 * ((m : Int))) + ((i : Int))).toNat = 10 * m + i by omega]; exact HG.upI hH (fun q hq => by rw [zt]; exact ht i (by omega) q hq))
      have hFy3 : FR mmS7 X0 Yy3 := by
        rw [eYy3]
        exact FR.upI hF rfl
      rw [show ((10 * ((m : Int))) + ((i : Int))).toNat = 10 * m + i by omega] at eYy3
      refine x_iinc (lv' := [(4, .int (iI ((i : Int) + 1))), (0, .ref 0), (1, .ref 7), (2, .int (iI (10))), (3, .int (iI ((m : Int))))]) C dX12_store_24 rfl (nlt rfl) rfl ?_
      refine x_goto (tgt := 3) C dX12_store_27 (by decide) ?_
      rw [show iI ((i : Int) + 1) = iI (((i + 1 : Nat) : Int)) by congr 1]
      refine Wx_pick [0, 1, 2, 3, 4] ?_
      refine Wx_lv (lv' := [(0, .ref 0), (1, .ref 7), (2, .int (iI (10))), (3, .int (iI ((m : Int)))), (4, .int (iI (((i + 1 : Nat) : Int))))]) rfl ?_
      refine ih (i + 1) _ (by omega) hHy3 hFy3 (by omega) (fun p hp => ?_) (fun p hp => ?_)
      · by_cases ep : p = i
        · subst ep
          rw [eYy3, upI_at]
          exact zt
        · rw [eYy3, upI_ne (by omega)]
          exact h1 p (by omega)
      · rw [eYy3, upI_ne (by omega)]
        exact h2 p hp
set_option maxHeartbeats 4000000 in
set_option maxRecDepth 100000 in
theorem r_store_rules {D : va_G} {ad : Nat → Nat} {cA : Nat → ClassId} {X0 : XT} {m : Nat} (hm : m < 3) (ht : fits 7 (10 * m) 10 (fun i => X0.1 9 i)) (hH : HG vM X0) (hF : FR mmS7 X0 X0) : MetX (wM D ad cA) yX12_store cX12_store 5 none 0 0 [.ref 0, .ref 7, .int (iI (10)), .int (iI ((m : Int)))] X0 (fun r X1 => r = none ∧ HG vM X1 ∧ FR mmS7 X0 X1 ∧ (∀ p, p < 10 → X1.1 7 (10 * m + p) = X0.1 9 p) ∧ ∀ p, (p < 10 * m ∨ 10 * m + 10 ≤ p) → X1.1 7 p = X0.1 7 p) := by
  refine MetX.mk (own := RX12) (by decide +kernel) rfl (nle rfl) (fun E C hQ => ?_)
  refine Wx_lv (lv' := [(0, .ref 0), (1, .ref 7), (2, .int (iI (10))), (3, .int (iI ((m : Int))))]) rfl ?_
  refine x_iconst C dX12_store_0 ?_
  refine x_istore (lv' := [(4, .int (iI (0))), (0, .ref 0), (1, .ref 7), (2, .int (iI (10))), (3, .int (iI ((m : Int))))]) C dX12_store_1 (nlt rfl) rfl ?_
  refine Wx_pick [0, 1, 2, 3, 4] ?_
  refine Wx_lv (lv' := [(0, .ref 0), (1, .ref 7), (2, .int (iI (10))), (3, .int (iI ((m : Int)))), (4, .int (iI (0)))]) rfl ?_
  exact r_storeL_rules hm ht C hQ 12 0 X0 (by decide) hH hF (by omega) (fun p hp => absurd hp (by omega)) (fun p hp => rfl)
abbrev mmS8 : List (Nat × Option Nat) := [(8, none)]
set_option maxHeartbeats 4000000 in
set_option maxRecDepth 100000 in
theorem r_storeL_games {D : va_G} {ad : Nat → Nat} {cA : Nat → ClassId} {X0 : XT} {m : Nat} (hm : m < 2) (ht : fits 8 (331 * m) 331 (fun i => X0.1 9 i)) {E : ET} (C : CX E (wM D ad cA) cX12_store 5 RX12 none { frames := 0, cells := 0, slots := 0, locals := 0 }) (hQ : EQ E (wM D ad cA) (fun r X1 => r = none ∧ HG vM X1 ∧ FR mmS8 X0 X1 ∧ (∀ p, p < 331 → X1.1 8 (331 * m + p) = X0.1 9 p) ∧ ∀ p, (p < 331 * m ∨ 331 * m + 331 ≤ p) → X1.1 8 p = X0.1 8 p)) : ∀ (n : Nat) (i : Nat) (X : XT), ((332 - i : Nat) : Int) < n → HG vM X → FR mmS8 X0 X → i ≤ 331 → (∀ p, p < i → X.1 8 (331 * m + p) = X0.1 9 p) → (∀ p, (p < 331 * m ∨ 331 * m + 331 ≤ p) → X.1 8 p = X0.1 8 p) → Wx E (wM D ad cA) 5 (PX (wM D ad cA) X) 3 [(0, .ref 0), (1, .ref 8), (2, .int (iI (331))), (3, .int (iI ((m : Int)))), (4, .int (iI ((i : Int))))] [] := by
  intro n
  induction n with
  | zero => intro i X hn hH hF il h1 h2; exfalso; omega
  | succ n ih =>
    intro i X hn hH hF il h1 h2
    refine x_iload C dX12_store_3 rfl ?_
    refine x_iload_n (i := 2) C dX12_store_5 rfl rfl ?_
    refine x_icmp_ge (tgt := 30) C dX12_store_6 (by decide) ⟨by omega, by omega⟩ ⟨by omega, by omega⟩ (fun h1 => ?_) (fun h1 => ?_)
    · exact x_vret C hQ dX12_store_30 (⟨rfl, hH, hF, fun p hp => h1 p (by omega), h2⟩)
    · refine x_aload_n (i := 1) C dX12_store_9 rfl rfl ?_
      refine x_iload_n (i := 2) C dX12_store_10 rfl rfl ?_
      refine x_iload_n (i := 3) C dX12_store_11 rfl rfl ?_
      refine x_imul C dX12_store_12 ?_
      refine x_iload C dX12_store_13 rfl ?_
      refine x_iadd C dX12_store_15 ?_
      refine x_aload_n (i := 0) C dX12_store_16 rfl rfl ?_
      refine x_getRs (r := 9) C fkM_X12_35 (nlt rfl) rfl (HG.rR hH (k := 0) (i := 18) rfl rfl) dX12_store_17 ?_
      refine x_iload C dX12_store_20 rfl ?_
      refine x_iald C (nlt rfl) rfl rfl (nle rfl) (by omega) (by omega) dX12_store_22 ?_
      refine x_gen (fun v2 ev2 => ?_)
      have qv2 : ((-1) : Int) ≤ v2 ∧ v2 ≤ (99 : Int) := by
        rw [ev2]
        exact hH.rA (k := 9) (n := 331) (p := ((-1), 99)) (nlt rfl) rfl (by decide +kernel) (by omega)
      have ktv2 := ev2
      have zt : v2 = X0.1 9 i := by rw [ev2, show ((i : Int)).toNat = i by omega, (hF 9 i rfl).1]
      refine x_iast C (nlt rfl) rfl rfl (nle rfl) (by omega) (by omega) dX12_store_23 ?_
      refine x_gX (fun Yy3 eYy3 => ?_)
      have hHy3 : HG vM Yy3 := by
        rw [eYy3]
        exact (by rw [show ((331 * ((m : Int))) + ((i : Int))).toNat = 331 * m + i by omega]; exact HG.upI hH (fun q hq => by rw [zt]; exact ht i (by omega) q hq))
      have hFy3 : FR mmS8 X0 Yy3 := by
        rw [eYy3]
        exact FR.upI hF rfl
      rw [show ((331 * ((m : Int))) + ((i : Int))).toNat = 331 * m + i by omega] at eYy3
      refine x_iinc (lv' := [(4, .int (iI ((i : Int) + 1))), (0, .ref 0), (1, .ref 8), (2, .int (iI (331))), (3, .int (iI ((m : Int))))]) C dX12_store_24 rfl (nlt rfl) rfl ?_
      refine x_goto (tgt := 3) C dX12_store_27 (by decide) ?_
      rw [show iI ((i : Int) + 1) = iI (((i + 1 : Nat) : Int)) by congr 1]
      refine Wx_pick [0, 1, 2, 3, 4] ?_
      refine Wx_lv (lv' := [(0, .ref 0), (1, .ref 8), (2, .int (iI (331))), (3, .int (iI ((m : Int)))), (4, .int (iI (((i + 1 : Nat) : Int))))]) rfl ?_
      refine ih (i + 1) _ (by omega) hHy3 hFy3 (by omega) (fun p hp => ?_) (fun p hp => ?_)
      · by_cases ep : p = i
        · subst ep
          rw [eYy3, upI_at]
          exact zt
        · rw [eYy3, upI_ne (by omega)]
          exact h1 p (by omega)
      · rw [eYy3, upI_ne (by omega)]
        exact h2 p hp
set_option maxHeartbeats 4000000 in
set_option maxRecDepth 100000 in
theorem r_store_games {D : va_G} {ad : Nat → Nat} {cA : Nat → ClassId} {X0 : XT} {m : Nat} (hm : m < 2) (ht : fits 8 (331 * m) 331 (fun i => X0.1 9 i)) (hH : HG vM X0) (hF : FR mmS8 X0 X0) : MetX (wM D ad cA) yX12_store cX12_store 5 none 0 0 [.ref 0, .ref 8, .int (iI (331)), .int (iI ((m : Int)))] X0 (fun r X1 => r = none ∧ HG vM X1 ∧ FR mmS8 X0 X1 ∧ (∀ p, p < 331 → X1.1 8 (331 * m + p) = X0.1 9 p) ∧ ∀ p, (p < 331 * m ∨ 331 * m + 331 ≤ p) → X1.1 8 p = X0.1 8 p) := by
  refine MetX.mk (own := RX12) (by decide +kernel) rfl (nle rfl) (fun E C hQ => ?_)
  refine Wx_lv (lv' := [(0, .ref 0), (1, .ref 8), (2, .int (iI (331))), (3, .int (iI ((m : Int))))]) rfl ?_
  refine x_iconst C dX12_store_0 ?_
  refine x_istore (lv' := [(4, .int (iI (0))), (0, .ref 0), (1, .ref 8), (2, .int (iI (331))), (3, .int (iI ((m : Int))))]) C dX12_store_1 (nlt rfl) rfl ?_
  refine Wx_pick [0, 1, 2, 3, 4] ?_
  refine Wx_lv (lv' := [(0, .ref 0), (1, .ref 8), (2, .int (iI (331))), (3, .int (iI ((m : Int)))), (4, .int (iI (0)))]) rfl ?_
  exact r_storeL_games hm ht C hQ 333 0 X0 (by decide) hH hF (by omega) (fun p hp => absurd hp (by omega)) (fun p hp => rfl)
abbrev mmRT : List (Nat × Option Nat) := [(0, some 9), (0, some 11), (0, some 12), (0, some 13), (0, some 14), (0, some 15), (10, none), (9, none)]
