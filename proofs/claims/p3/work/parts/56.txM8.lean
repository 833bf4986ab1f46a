/-! ===== the reference stores ===== -/
theorem dX12_store_0 : decode cX12_store 0 = .ok (.iconst 0, 1) := by decide +kernel
theorem dX12_store_1 : decode cX12_store 1 = .ok (.istore 4, 2) := by decide +kernel
theorem dX12_store_3 : decode cX12_store 3 = .ok (.iload 4, 2) := by decide +kernel
theorem dX12_store_5 : decode cX12_store 5 = .ok (.iload_n 2, 1) := by decide +kernel
theorem dX12_store_6 : decode cX12_store 6 = .ok (.if_icmp .ge 24, 3) := by decide +kernel
theorem dX12_store_9 : decode cX12_store 9 = .ok (.aload_n 1, 1) := by decide +kernel
theorem dX12_store_10 : decode cX12_store 10 = .ok (.iload_n 2, 1) := by decide +kernel
theorem dX12_store_11 : decode cX12_store 11 = .ok (.iload_n 3, 1) := by decide +kernel
theorem dX12_store_12 : decode cX12_store 12 = .ok (.imul, 1) := by decide +kernel
theorem dX12_store_13 : decode cX12_store 13 = .ok (.iload 4, 2) := by decide +kernel
theorem dX12_store_15 : decode cX12_store 15 = .ok (.iadd, 1) := by decide +kernel
theorem dX12_store_16 : decode cX12_store 16 = .ok (.aload_n 0, 1) := by decide +kernel
theorem dX12_store_17 : decode cX12_store 17 = .ok (.getfield 35, 3) := by decide +kernel
theorem dX12_store_20 : decode cX12_store 20 = .ok (.iload 4, 2) := by decide +kernel
theorem dX12_store_22 : decode cX12_store 22 = .ok (.iaload, 1) := by decide +kernel
theorem dX12_store_23 : decode cX12_store 23 = .ok (.iastore, 1) := by decide +kernel
theorem dX12_store_24 : decode cX12_store 24 = .ok (.iinc 4 1, 3) := by decide +kernel
theorem dX12_store_27 : decode cX12_store 27 = .ok (.goto (-24), 3) := by decide +kernel
theorem dX12_store_30 : decode cX12_store 30 = .ok (.return_, 1) := by decide +kernel
theorem dX12_ruleText_0 : decode cX12_ruleText 0 = .ok (.aload_n 0, 1) := by decide +kernel
theorem dX12_ruleText_1 : decode cX12_ruleText 1 = .ok (.invokevirtual 243, 3) := by decide +kernel
theorem dX12_ruleText_4 : decode cX12_ruleText 4 = .ok (.ifCond .ne 5, 3) := by decide +kernel
theorem dX12_ruleText_7 : decode cX12_ruleText 7 = .ok (.iconst 0, 1) := by decide +kernel
theorem dX12_ruleText_8 : decode cX12_ruleText 8 = .ok (.ireturn, 1) := by decide +kernel
theorem dX12_ruleText_9 : decode cX12_ruleText 9 = .ok (.iconst 0, 1) := by decide +kernel
theorem dX12_ruleText_10 : decode cX12_ruleText 10 = .ok (.istore_n 1, 1) := by decide +kernel
theorem dX12_ruleText_11 : decode cX12_ruleText 11 = .ok (.iload_n 1, 1) := by decide +kernel
theorem dX12_ruleText_12 : decode cX12_ruleText 12 = .ok (.bipush 10, 2) := by decide +kernel
theorem dX12_ruleText_14 : decode cX12_ruleText 14 = .ok (.if_icmp .ge 21, 3) := by decide +kernel
theorem dX12_ruleText_17 : decode cX12_ruleText 17 = .ok (.aload_n 0, 1) := by decide +kernel
theorem dX12_ruleText_18 : decode cX12_ruleText 18 = .ok (.getfield 35, 3) := by decide +kernel
theorem dX12_ruleText_21 : decode cX12_ruleText 21 = .ok (.iload_n 1, 1) := by decide +kernel
theorem dX12_ruleText_22 : decode cX12_ruleText 22 = .ok (.aload_n 0, 1) := by decide +kernel
theorem dX12_ruleText_23 : decode cX12_ruleText 23 = .ok (.getfield 38, 3) := by decide +kernel
theorem dX12_ruleText_26 : decode cX12_ruleText 26 = .ok (.iload_n 1, 1) := by decide +kernel
theorem dX12_ruleText_27 : decode cX12_ruleText 27 = .ok (.iaload, 1) := by decide +kernel
theorem dX12_ruleText_28 : decode cX12_ruleText 28 = .ok (.iastore, 1) := by decide +kernel
theorem dX12_ruleText_29 : decode cX12_ruleText 29 = .ok (.iinc 1 1, 3) := by decide +kernel
theorem dX12_ruleText_32 : decode cX12_ruleText 32 = .ok (.goto (-21), 3) := by decide +kernel
theorem dX12_ruleText_35 : decode cX12_ruleText 35 = .ok (.aload_n 0, 1) := by decide +kernel
theorem dX12_ruleText_36 : decode cX12_ruleText 36 = .ok (.getfield 190, 3) := by decide +kernel
theorem dX12_ruleText_39 : decode cX12_ruleText 39 = .ok (.ifCond .eq 10, 3) := by decide +kernel
theorem dX12_ruleText_42 : decode cX12_ruleText 42 = .ok (.aload_n 0, 1) := by decide +kernel
theorem dX12_ruleText_43 : decode cX12_ruleText 43 = .ok (.invokevirtual 205, 3) := by decide +kernel
theorem dX12_ruleText_46 : decode cX12_ruleText 46 = .ok (.ifCond .eq 7, 3) := by decide +kernel
theorem dX12_ruleText_49 : decode cX12_ruleText 49 = .ok (.iconst 1, 1) := by decide +kernel
theorem dX12_ruleText_50 : decode cX12_ruleText 50 = .ok (.goto 4, 3) := by decide +kernel
theorem dX12_ruleText_53 : decode cX12_ruleText 53 = .ok (.iconst 0, 1) := by decide +kernel
theorem dX12_ruleText_54 : decode cX12_ruleText 54 = .ok (.ireturn, 1) := by decide +kernel

abbrev mmS6 : List (Nat × Option Nat) := [(6, none)]
set_option maxHeartbeats 4000000 in
set_option maxRecDepth 100000 in
theorem r_storeL_boards {D : va_G} {ad : Nat → Nat} {cA : Nat → ClassId} {X0 : XT} {m : Nat} (hm : m < 2) (ht : fits 6 (51 * m) 51 (fun i => X0.1 9 i)) {E : ET} (C : CX E (wM D ad cA) cX12_store 5 RX12 none { frames := 0, cells := 0, slots := 0, locals := 0 }) (hQ : EQ E (wM D ad cA) (fun r X1 => r = none ∧ HG vM X1 ∧ FR mmS6 X0 X1 ∧ (∀ p, p < 51 → X1.1 6 (51 * m + p) = X0.1 9 p) ∧ ∀ p, (p < 51 * m ∨ 51 * m + 51 ≤ p) → X1.1 6 p = X0.1 6 p)) : ∀ (n : Nat) (i : Nat) (X : XT), ((52 - i : Nat) : Int) < n → HG vM X → FR mmS6 X0 X → i ≤ 51 → (∀ p, p < i → X.1 6 (51 * m + p) = X0.1 9 p) → (∀ p, (p < 51 * m ∨ 51 * m + 51 ≤ p) → X.1 6 p = X0.1 6 p) → Wx E (wM D ad cA) 5 (PX (wM D ad cA) X) 3 [(0, .ref 0), (1, .ref 6), (2, .int (iI (51))), (3, .int (iI ((m : Int)))), (4, .int (iI ((i : Int))))] [] := by
  intro n
  induction n with
  | zero => intro i X hn hH hF il c1 c2; exfalso; omega
  | succ n ih =>
    intro i X hn hH hF il c1 c2
    refine x_iload C dX12_store_3 rfl ?_
    refine x_iload_n (i := 2) C dX12_store_5 rfl rfl ?_
    refine x_icmp_ge (tgt := 30) C dX12_store_6 (by decide) ⟨by omega, by omega⟩ ⟨by omega, by omega⟩ (fun h1 => ?_) (fun h1 => ?_)
    · exact x_vret C hQ dX12_store_30 (⟨rfl, hH, hF, fun p hp => c1 p (by omega), c2⟩)
    · refine x_aload_n (i := 1) C dX12_store_9 rfl rfl ?_
      refine x_iload_n (i := 2) C dX12_store_10 rfl rfl ?_
      refine x_iload_n (i := 3) C dX12_store_11 rfl rfl ?_
      refine x_imul C dX12_store_12 ?_
      refine x_iload C dX12_store_13 rfl ?_
      refine x_iadd C dX12_store_15 ?_
      refine x_aload_n (i := 0) C dX12_store_16 rfl rfl ?_
      refine x_getRs (r := 9) C fkM_X12_35 (nlt rfl) rfl (HG.rR hH (k := 0) (i := 18) rfl rfl) dX12_store_17 ?_
      refine x_iload C dX12_store_20 rfl ?_
      refine x_iald C (nlt rfl) rfl rfl (nle rfl) (by omega) (by omega) dX12_store_22 ?_
      refine x_gen (fun v2 ev2 => ?_)
      have qv2 : ((-1) : Int) ≤ v2 ∧ v2 ≤ (99 : Int) := by
        rw [ev2]
        exact hH.rA (k := 9) (n := 331) (p := ((-1), 99)) (nlt rfl) rfl (by decide +kernel) (by omega)
      have ktv2 := ev2
      have zt : v2 = X0.1 9 i := by rw [ev2, show ((i : Int)).toNat = i by omega, (hF 9 i rfl).1]
      refine x_iast C (nlt rfl) rfl rfl (nle rfl) (by omega) (by omega) dX12_store_23 ?_
      refine x_gX (fun Yy3 eYy3 => ?_)
      have hHy3 : HG vM Yy3 := by
        rw [eYy3]
        exact (by rw [show ((51 * ((m : Int))) + ((i : Int))).toNat = 51 * m + i by omega]; exact HG.upI hH (fun q hq => by rw [zt]; exact ht i (by omega) q hq))
      have hFy3 : FR mmS6 X0 Yy3 := by
        rw [eYy3]
        exact FR.upI hF rfl
      rw [show ((51 * ((m : Int))) + ((i : Int))).toNat = 51 * m + i by omega] at eYy3
      refine x_iinc (lv' := [(4, .int (iI ((i : Int) + 1))), (0, .ref 0), (1, .ref 6), (2, .int (iI (51))), (3, .int (iI ((m : Int))))]) C dX12_store_24 rfl (nlt rfl) rfl ?_
      refine x_goto (tgt := 3) C dX12_store_27 (by decide) ?_
      rw [show iI ((i : Int) + 1) = iI (((i + 1 : Nat) : Int)) by congr 1]
      refine Wx_pick [0, 1, 2, 3, 4] ?_
      refine Wx_lv (lv' := [(0, .ref 0), (1, .ref 6), (2, .int (iI (51))), (3, .int (iI ((m : Int)))), (4, .int (iI (((i + 1 : Nat) : Int))))]) rfl ?_
      refine ih (i + 1) _ (by omega) hHy3 hFy3 (by omega) (fun p hp => ?_) (fun p hp => ?_)
      · by_cases ep : p = i
        · subst ep
          rw [eYy3, upI_at]
          exact zt
        · rw [eYy3, upI_ne (by omega)]
          exact c1 p (by omega)
      · rw [eYy3, upI_ne (by omega)]
        exact c2 p hp
set_option maxHeartbeats 4000000 in
set_option maxRecDepth 100000 in
theorem r_store_boards {D : va_G} {ad : Nat → Nat} {cA : Nat → ClassId} {X0 : XT} {m : Nat} (hm : m < 2) (ht : fits 6 (51 * m) 51 (fun i => X0.1 9 i)) (hH : HG vM X0) (hF : FR mmS6 X0 X0) : MetX (wM D ad cA) yX12_store cX12_store 5 none 0 0 [.ref 0, .ref 6, .int (iI (51)), .int (iI ((m : Int)))] X0 (fun r X1 => r = none ∧ HG vM X1 ∧ FR mmS6 X0 X1 ∧ (∀ p, p < 51 → X1.1 6 (51 * m + p) = X0.1 9 p) ∧ ∀ p, (p < 51 * m ∨ 51 * m + 51 ≤ p) → X1.1 6 p = X0.1 6 p) := by
  refine MetX.mk (own := RX12) (by decide +kernel) rfl (nle rfl) (fun E C hQ => ?_)
  refine Wx_lv (lv' := [(0, .ref 0), (1, .ref 6), (2, .int (iI (51))), (3, .int (iI ((m : Int))))]) rfl ?_
  refine x_iconst C dX12_store_0 ?_
  refine x_istore (lv' := [(4, .int (iI (0))), (0, .ref 0), (1, .ref 6), (2, .int (iI (51))), (3, .int (iI ((m : Int))))]) C dX12_store_1 (nlt rfl) rfl ?_
  refine Wx_pick [0, 1, 2, 3, 4] ?_
  refine Wx_lv (lv' := [(0, .ref 0), (1, .ref 6), (2, .int (iI (51))), (3, .int (iI ((m : Int)))), (4, .int (iI (0)))]) rfl ?_
  exact r_storeL_boards hm ht C hQ 53 0 X0 (by decide) hH hF (by omega) (fun p hp => absurd hp (by omega)) (fun p hp => rfl)
abbrev mmS7 : List (Nat × Option Nat) := [(7, none)]
set_option maxHeartbeats 4000000 in
set_option maxRecDepth 100000 in
theorem r_storeL_rules {D : va_G} {ad : Nat → Nat} {cA : Nat → ClassId} {X0 : XT} {m : Nat} (hm : m < 3) (ht : fits 7 (10 * m) 10 (fun i => X0.1 9 i)) {E : ET} (C : CX E (wM D ad cA) cX12_store 5 RX12 none { frames := 0, cells := 0, slots := 0, locals := 0 }) (hQ : EQ E (wM D ad cA) (fun r X1 => r = none ∧ HG vM X1 ∧ FR mmS7 X0 X1 ∧ (∀ p, p < 10 → X1.1 7 (10 * m + p) = X0.1 9 p) ∧ ∀ p, (p < 10 * m ∨ 10 * m + 10 ≤ p) → X1.1 7 p = X0.1 7 p)) : ∀ (n : Nat) (i : Nat) (X : XT), ((11 - i : Nat) : Int) < n → HG vM X → FR mmS7 X0 X → i ≤ 10 → (∀ p, p < i → X.1 7 (10 * m + p) = X0.1 9 p) → (∀ p, (p < 10 * m ∨ 10 * m + 10 ≤ p) → X.1 7 p = X0.1 7 p) → Wx E (wM D ad cA) 5 (PX (wM D ad cA) X) 3 [(0, .ref 0), (1, .ref 7), (2, .int (iI (10))), (3, .int (iI ((m : Int)))), (4, .int (iI ((i : Int))))] [] := by
  intro n
  induction n with
  | zero => intro i X hn hH hF il c1 c2; exfalso; omega
  | succ n ih =>
    intro i X hn hH hF il c1 c2
    refine x_iload C dX12_store_3 rfl ?_
    refine x_iload_n (i := 2) C dX12_store_5 rfl rfl ?_
    refine x_icmp_ge (tgt := 30) C dX12_store_6 (by decide) ⟨by omega, by omega⟩ ⟨by omega, by omega⟩ (fun h1 => ?_) (fun h1 => ?_)
    · exact x_vret C hQ dX12_store_30 (⟨rfl, hH, hF, fun p hp => c1 p (by omega), c2⟩)
    · refine x_aload_n (i := 1) C dX12_store_9 rfl rfl ?_
      refine x_iload_n (i := 2) C dX12_store_10 rfl rfl ?_
      refine x_iload_n (i := 3) C dX12_store_11 rfl rfl ?_
      refine x_imul C dX12_store_12 ?_
      refine x_iload C dX12_store_13 rfl ?_
      refine x_iadd C dX12_store_15 ?_
      refine x_aload_n (i := 0) C dX12_store_16 rfl rfl ?_
      refine x_getRs (r := 9) C fkM_X12_35 (nlt rfl) rfl (HG.rR hH (k := 0) (i := 18) rfl rfl) dX12_store_17 ?_
      refine x_iload C dX12_store_20 rfl ?_
      refine x_iald C (nlt rfl) rfl rfl (nle rfl) (by omega) (by omega) dX12_store_22 ?_
      refine x_gen (fun v2 ev2 => ?_)
      have qv2 : ((-1) : Int) ≤ v2 ∧ v2 ≤ (99 : Int) := by
        rw [ev2]
        exact hH.rA (k := 9) (n := 331) (p := ((-1), 99)) (nlt rfl) rfl (by decide +kernel) (by omega)
      have ktv2 := ev2
      have zt : v2 = X0.1 9 i := by rw [ev2, show ((i : Int)).toNat = i by omega, (hF 9 i rfl).1]
      refine x_iast C (nlt rfl) rfl rfl (nle rfl) (by omega) (by omega) dX12_store_23 ?_
      refine x_gX (fun Yy3 eYy3 => ?_)
      have hHy3 : HG vM Yy3 := by
        rw [eYy3]
        exact (by rw [show ((10 * ((m : Int))) + ((i : Int))).toNat = 10 * m + i by omega]; exact HG.upI hH (fun q hq => by rw [zt]; exact ht i (by omega) q hq))
      have hFy3 : FR mmS7 X0 Yy3 := by
        rw [eYy3]
        exact FR.upI hF rfl
      rw [show ((10 * ((m : Int))) + ((i : Int))).toNat = 10 * m + i by omega] at eYy3
      refine x_iinc (lv' := [(4, .int (iI ((i : Int) + 1))), (0, .ref 0), (1, .ref 7), (2, .int (iI (10))), (3, .int (iI ((m : Int))))]) C dX12_store_24 rfl (nlt rfl) rfl ?_
      refine x_goto (tgt := 3) C dX12_store_27 (by decide) ?_
      rw [show iI ((i : Int) + 1) = iI (((i + 1 : Nat) : Int)) by congr 1]
      refine Wx_pick [0, 1, 2, 3, 4] ?_
      refine Wx_lv (lv' := [(0, .ref 0), (1, .ref 7), (2, .int (iI (10))), (3, .int (iI ((m : Int)))), (4, .int (iI (((i + 1 : Nat) : Int))))]) rfl ?_
      refine ih (i + 1) _ (by omega) hHy3 hFy3 (by omega) (fun p hp => ?_) (fun p hp => ?_)
      · by_cases ep : p = i
        · subst ep
          rw [eYy3, upI_at]
          exact zt
        · rw [eYy3, upI_ne (by omega)]
          exact c1 p (by omega)
      · rw [eYy3, upI_ne (by omega)]
        exact c2 p hp
set_option maxHeartbeats 4000000 in
set_option maxRecDepth 100000 in
theorem r_store_rules {D : va_G} {ad : Nat → Nat} {cA : Nat → ClassId} {X0 : XT} {m : Nat} (hm : m < 3) (ht : fits 7 (10 * m) 10 (fun i => X0.1 9 i)) (hH : HG vM X0) (hF : FR mmS7 X0 X0) : MetX (wM D ad cA) yX12_store cX12_store 5 none 0 0 [.ref 0, .ref 7, .int (iI (10)), .int (iI ((m : Int)))] X0 (fun r X1 => r = none ∧ HG vM X1 ∧ FR mmS7 X0 X1 ∧ (∀ p, p < 10 → X1.1 7 (10 * m + p) = X0.1 9 p) ∧ ∀ p, (p < 10 * m ∨ 10 * m + 10 ≤ p) → X1.1 7 p = X0.1 7 p) := by
  refine MetX.mk (own := RX12) (by decide +kernel) rfl (nle rfl) (fun E C hQ => ?_)
  refine Wx_lv (lv' := [(0, .ref 0), (1, .ref 7), (2, .int (iI (10))), (3, .int (iI ((m : Int))))]) rfl ?_
  refine x_iconst C dX12_store_0 ?_
  refine x_istore (lv' := [(4, .int (iI (0))), (0, .ref 0), (1, .ref 7), (2, .int (iI (10))), (3, .int (iI ((m : Int))))]) C dX12_store_1 (nlt rfl) rfl ?_
  refine Wx_pick [0, 1, 2, 3, 4] ?_
  refine Wx_lv (lv' := [(0, .ref 0), (1, .ref 7), (2, .int (iI (10))), (3, .int (iI ((m : Int)))), (4, .int (iI (0)))]) rfl ?_
  exact r_storeL_rules hm ht C hQ 12 0 X0 (by decide) hH hF (by omega) (fun p hp => absurd hp (by omega)) (fun p hp => rfl)
abbrev mmS8 : List (Nat × Option Nat) := [(8, none)]
set_option maxHeartbeats 4000000 in
set_option maxRecDepth 100000 in
theorem r_storeL_games {D : va_G} {ad : Nat → Nat} {cA : Nat → ClassId} {X0 : XT} {m : Nat} (hm : m < 2) (ht : fits 8 (331 * m) 331 (fun i => X0.1 9 i)) {E : ET} (C : CX E (wM D ad cA) cX12_store 5 RX12 none { frames := 0, cells := 0, slots := 0, locals := 0 }) (hQ : EQ E (wM D ad cA) (fun r X1 => r = none ∧ HG vM X1 ∧ FR mmS8 X0 X1 ∧ (∀ p, p < 331 → X1.1 8 (331 * m + p) = X0.1 9 p) ∧ ∀ p, (p < 331 * m ∨ 331 * m + 331 ≤ p) → X1.1 8 p = X0.1 8 p)) : ∀ (n : Nat) (i : Nat) (X : XT), ((332 - i : Nat) : Int) < n → HG vM X → FR mmS8 X0 X → i ≤ 331 → (∀ p, p < i → X.1 8 (331 * m + p) = X0.1 9 p) → (∀ p, (p < 331 * m ∨ 331 * m + 331 ≤ p) → X.1 8 p = X0.1 8 p) → Wx E (wM D ad cA) 5 (PX (wM D ad cA) X) 3 [(0, .ref 0), (1, .ref 8), (2, .int (iI (331))), (3, .int (iI ((m : Int)))), (4, .int (iI ((i : Int))))] [] := by
  intro n
  induction n with
  | zero => intro i X hn hH hF il c1 c2; exfalso; omega
  | succ n ih =>
    intro i X hn hH hF il c1 c2
    refine x_iload C dX12_store_3 rfl ?_
    refine x_iload_n (i := 2) C dX12_store_5 rfl rfl ?_
    refine x_icmp_ge (tgt := 30) C dX12_store_6 (by decide) ⟨by omega, by omega⟩ ⟨by omega, by omega⟩ (fun h1 => ?_) (fun h1 => ?_)
    · exact x_vret C hQ dX12_store_30 (⟨rfl, hH, hF, fun p hp => c1 p (by omega), c2⟩)
    · refine x_aload_n (i := 1) C dX12_store_9 rfl rfl ?_
      refine x_iload_n (i := 2) C dX12_store_10 rfl rfl ?_
      refine x_iload_n (i := 3) C dX12_store_11 rfl rfl ?_
      refine x_imul C dX12_store_12 ?_
      refine x_iload C dX12_store_13 rfl ?_
      refine x_iadd C dX12_store_15 ?_
      refine x_aload_n (i := 0) C dX12_store_16 rfl rfl ?_
      refine x_getRs (r := 9) C fkM_X12_35 (nlt rfl) rfl (HG.rR hH (k := 0) (i := 18) rfl rfl) dX12_store_17 ?_
      refine x_iload C dX12_store_20 rfl ?_
      refine x_iald C (nlt rfl) rfl rfl (nle rfl) (by omega) (by omega) dX12_store_22 ?_
      refine x_gen (fun v2 ev2 => ?_)
      have qv2 : ((-1) : Int) ≤ v2 ∧ v2 ≤ (99 : Int) := by
        rw [ev2]
        exact hH.rA (k := 9) (n := 331) (p := ((-1), 99)) (nlt rfl) rfl (by decide +kernel) (by omega)
      have ktv2 := ev2
      have zt : v2 = X0.1 9 i := by rw [ev2, show ((i : Int)).toNat = i by omega, (hF 9 i rfl).1]
      refine x_iast C (nlt rfl) rfl rfl (nle rfl) (by omega) (by omega) dX12_store_23 ?_
      refine x_gX (fun Yy3 eYy3 => ?_)
      have hHy3 : HG vM Yy3 := by
        rw [eYy3]
        exact (by rw [show ((331 * ((m : Int))) + ((i : Int))).toNat = 331 * m + i by omega]; exact HG.upI hH (fun q hq => by rw [zt]; exact ht i (by omega) q hq))
      have hFy3 : FR mmS8 X0 Yy3 := by
        rw [eYy3]
        exact FR.upI hF rfl
      rw [show ((331 * ((m : Int))) + ((i : Int))).toNat = 331 * m + i by omega] at eYy3
      refine x_iinc (lv' := [(4, .int (iI ((i : Int) + 1))), (0, .ref 0), (1, .ref 8), (2, .int (iI (331))), (3, .int (iI ((m : Int))))]) C dX12_store_24 rfl (nlt rfl) rfl ?_
      refine x_goto (tgt := 3) C dX12_store_27 (by decide) ?_
      rw [show iI ((i : Int) + 1) = iI (((i + 1 : Nat) : Int)) by congr 1]
      refine Wx_pick [0, 1, 2, 3, 4] ?_
      refine Wx_lv (lv' := [(0, .ref 0), (1, .ref 8), (2, .int (iI (331))), (3, .int (iI ((m : Int)))), (4, .int (iI (((i + 1 : Nat) : Int))))]) rfl ?_
      refine ih (i + 1) _ (by omega) hHy3 hFy3 (by omega) (fun p hp => ?_) (fun p hp => ?_)
      · by_cases ep : p = i
        · subst ep
          rw [eYy3, upI_at]
          exact zt
        · rw [eYy3, upI_ne (by omega)]
          exact c1 p (by omega)
      · rw [eYy3, upI_ne (by omega)]
        exact c2 p hp
set_option maxHeartbeats 4000000 in
set_option maxRecDepth 100000 in
theorem r_store_games {D : va_G} {ad : Nat → Nat} {cA : Nat → ClassId} {X0 : XT} {m : Nat} (hm : m < 2) (ht : fits 8 (331 * m) 331 (fun i => X0.1 9 i)) (hH : HG vM X0) (hF : FR mmS8 X0 X0) : MetX (wM D ad cA) yX12_store cX12_store 5 none 0 0 [.ref 0, .ref 8, .int (iI (331)), .int (iI ((m : Int)))] X0 (fun r X1 => r = none ∧ HG vM X1 ∧ FR mmS8 X0 X1 ∧ (∀ p, p < 331 → X1.1 8 (331 * m + p) = X0.1 9 p) ∧ ∀ p, (p < 331 * m ∨ 331 * m + 331 ≤ p) → X1.1 8 p = X0.1 8 p) := by
  refine MetX.mk (own := RX12) (by decide +kernel) rfl (nle rfl) (fun E C hQ => ?_)
  refine Wx_lv (lv' := [(0, .ref 0), (1, .ref 8), (2, .int (iI (331))), (3, .int (iI ((m : Int))))]) rfl ?_
  refine x_iconst C dX12_store_0 ?_
  refine x_istore (lv' := [(4, .int (iI (0))), (0, .ref 0), (1, .ref 8), (2, .int (iI (331))), (3, .int (iI ((m : Int))))]) C dX12_store_1 (nlt rfl) rfl ?_
  refine Wx_pick [0, 1, 2, 3, 4] ?_
  refine Wx_lv (lv' := [(0, .ref 0), (1, .ref 8), (2, .int (iI (331))), (3, .int (iI ((m : Int)))), (4, .int (iI (0)))]) rfl ?_
  exact r_storeL_games hm ht C hQ 333 0 X0 (by decide) hH hF (by omega) (fun p hp => absurd hp (by omega)) (fun p hp => rfl)
abbrev mmRT : List (Nat × Option Nat) := [(0, some 9), (0, some 11), (0, some 12), (0, some 13), (0, some 14), (0, some 15), (10, none), (9, none)]
set_option maxHeartbeats 4000000 in
set_option maxRecDepth 100000 in
theorem r_ruleText {D : va_G} {ad : Nat → Nat} {cA : Nat → ClassId} {X0 : XT} {b : Nat → Int} {N : Nat} (hT0 : TPM b N X0) (hH : HG vM X0) (hF : FR mmRT X0 X0) (hK : TKM b N (tS b N 0) X0) : MetX (wM D ad cA) yX12_ruleText cX12_ruleText 2 (some .boolean) 3 68 [.ref 0] X0 (fun r X1 => ∃ u : Int, r = some (.int (iI u)) ∧ HG vM X1 ∧ FR mmRT X0 X1 ∧ ((u = 1 ∧ fR b N = (0, -1) ∧ tr b N (tS b N 0) ∧ (∀ i : Nat, i < 10 → X1.1 9 i = X1.1 10 i) ∧ RSM b N (tS b N 0) X1) ∨ (u = 0 ∧ fR b N = (1, X1.1 0 15)))) := by
  have n6 := hT0.2.1
  refine MetX.mk (own := RX12) (by decide +kernel) rfl (nle rfl) (fun E C hQ => ?_)
  refine Wx_lv (lv' := [(0, .ref 0)]) rfl ?_
  refine x_aload_n (i := 0) C dX12_ruleText_0 rfl rfl ?_
  refine x_callV (As := []) C (by exact (r_takeRule (s := (tS b N 0)) (hT0.fr hF rfl) hH FR.rf hK)) ckX12_243 im_X12_takeRule se_X12_takeRule (nlt rfl) rfl rfl rfl rfl (nle rfl) (by exact ⟨nle rfl, nle rfl⟩) dX12_ruleText_1 ?_
  rintro _ Yy1 ⟨v2, rfl, hHy1, hGy1, trv2⟩
  have hFy1 : FR mmRT X0 Yy1 := FR.tr hF hGy1 (by decide)
  refine Wx_st (st' := [.int (iI (v2))]) rfl ?_
  refine x_if_ne (tgt := 9) C dX12_ruleText_4 (by decide) ⟨by omega, by omega⟩ (fun h3 => ?_) (fun h3 => ?_)
  · have r1 := trv2.elim (fun g => g.2) (fun g => by exfalso; have := g.1; omega)
    have hKy1 := r1.2.1
    have hRy1 := r1.2.2
    refine x_iconst C dX12_ruleText_9 ?_
    refine x_istore_n (i := 1) (lv' := [(1, .int (iI (0))), (0, .ref 0)]) C dX12_ruleText_10 rfl (nlt rfl) rfl ?_
    refine x_iload_n (i := 1) C dX12_ruleText_11 rfl rfl ?_
    refine x_bipush C dX12_ruleText_12 (by decide) ?_
    refine x_icmp_ge (tgt := 35) C dX12_ruleText_14 (by decide) ⟨by omega, by omega⟩ ⟨by omega, by omega⟩ (fun h4 => by exfalso; omega) (fun h4 => ?_)
    refine x_aload_n (i := 0) C dX12_ruleText_17 rfl rfl ?_
    refine x_getRs (r := 9) C fkM_X12_35 (nlt rfl) rfl (HG.rR hHy1 (k := 0) (i := 18) rfl rfl) dX12_ruleText_18 ?_
    refine x_iload_n (i := 1) C dX12_ruleText_21 rfl rfl ?_
    refine x_aload_n (i := 0) C dX12_ruleText_22 rfl rfl ?_
    refine x_getRs (r := 10) C fkM_X12_38 (nlt rfl) rfl (HG.rR hHy1 (k := 0) (i := 19) rfl rfl) dX12_ruleText_23 ?_
    refine x_iload_n (i := 1) C dX12_ruleText_26 rfl rfl ?_
    refine x_iald C (nlt rfl) rfl rfl (nle rfl) (by omega) (by omega) dX12_ruleText_27 ?_
    refine x_gen (fun v5 ev5 => ?_)
    replace ev5 : v5 = Yy1.1 10 0 := ev5
    have qv5 : (0 : Int) ≤ v5 ∧ v5 ≤ (9 : Int) := by
      rw [ev5]
      exact hHy1.rF (k := 10) (i := 0) (p := (0, 9)) rfl rfl
    refine x_iast C (nlt rfl) rfl rfl (nle rfl) (by omega) (by omega) dX12_ruleText_28 ?_
    refine x_gX (fun Yy6 eYy6 => ?_)
    have hHy6 : HG vM Yy6 := by
      rw [eYy6]
      exact hg_wF hHy1 (p := ((-1), 99)) rfl ⟨by omega, by omega⟩
    have hFy6 : FR mmRT X0 Yy6 := by
      rw [eYy6]
      exact FR.upI hFy1 (rfl)
    replace eYy6 : Yy6 = upI Yy1 9 0 (v5) := eYy6
    have hGy6 : FR [(9, some 0)] Yy1 Yy6 := by
      rw [eYy6]
      exact FR.upI FR.rf rfl
    have hKy6 := hKy1.fr hGy6 rfl
    have hRy6 := hRy1.fr hGy6 rfl
    refine x_iinc (lv' := [(1, .int (iI (0 + 1))), (0, .ref 0)]) C dX12_ruleText_29 rfl (nlt rfl) rfl ?_
    refine Wx_lv (lv' := [(1, .int (iI (1))), (0, .ref 0)]) rfl ?_
    refine x_goto (tgt := 11) C dX12_ruleText_32 (by decide) ?_
    refine x_iload_n (i := 1) C dX12_ruleText_11 rfl rfl ?_
    refine x_bipush C dX12_ruleText_12 (by decide) ?_
    refine x_icmp_ge (tgt := 35) C dX12_ruleText_14 (by decide) ⟨by omega, by omega⟩ ⟨by omega, by omega⟩ (fun h7 => by exfalso; omega) (fun h7 => ?_)
    refine x_aload_n (i := 0) C dX12_ruleText_17 rfl rfl ?_
    refine x_getRs (r := 9) C fkM_X12_35 (nlt rfl) rfl (HG.rR hHy6 (k := 0) (i := 18) rfl rfl) dX12_ruleText_18 ?_
    refine x_iload_n (i := 1) C dX12_ruleText_21 rfl rfl ?_
    refine x_aload_n (i := 0) C dX12_ruleText_22 rfl rfl ?_
    refine x_getRs (r := 10) C fkM_X12_38 (nlt rfl) rfl (HG.rR hHy6 (k := 0) (i := 19) rfl rfl) dX12_ruleText_23 ?_
    refine x_iload_n (i := 1) C dX12_ruleText_26 rfl rfl ?_
    refine x_iald C (nlt rfl) rfl rfl (nle rfl) (by omega) (by omega) dX12_ruleText_27 ?_
    refine x_gen (fun v8 ev8 => ?_)
    replace ev8 : v8 = Yy6.1 10 1 := ev8
    have qv8 : (0 : Int) ≤ v8 ∧ v8 ≤ (10 : Int) := by
      rw [ev8]
      exact hHy6.rF (k := 10) (i := 1) (p := (0, 10)) rfl rfl
    have kv8 : v8 = Yy1.1 10 1 := by rw [ev8, eYy6, upI_nc (by decide)]
    refine x_iast C (nlt rfl) rfl rfl (nle rfl) (by omega) (by omega) dX12_ruleText_28 ?_
    refine x_gX (fun Yy9 eYy9 => ?_)
    have hHy9 : HG vM Yy9 := by
      rw [eYy9]
      exact hg_wF hHy6 (p := ((-1), 99)) rfl ⟨by omega, by omega⟩
    have hFy9 : FR mmRT X0 Yy9 := by
      rw [eYy9]
      exact FR.upI hFy6 (rfl)
    replace eYy9 : Yy9 = upI Yy6 9 1 (v8) := eYy9
    have hGy9 : FR [(9, some 1)] Yy6 Yy9 := by
      rw [eYy9]
      exact FR.upI FR.rf rfl
    have hKy9 := hKy6.fr hGy9 rfl
    have hRy9 := hRy6.fr hGy9 rfl
    refine x_iinc (lv' := [(1, .int (iI (1 + 1))), (0, .ref 0)]) C dX12_ruleText_29 rfl (nlt rfl) rfl ?_
    refine Wx_lv (lv' := [(1, .int (iI (2))), (0, .ref 0)]) rfl ?_
    refine x_goto (tgt := 11) C dX12_ruleText_32 (by decide) ?_
    refine x_iload_n (i := 1) C dX12_ruleText_11 rfl rfl ?_
    refine x_bipush C dX12_ruleText_12 (by decide) ?_
    refine x_icmp_ge (tgt := 35) C dX12_ruleText_14 (by decide) ⟨by omega, by omega⟩ ⟨by omega, by omega⟩ (fun h10 => by exfalso; omega) (fun h10 => ?_)
    refine x_aload_n (i := 0) C dX12_ruleText_17 rfl rfl ?_
    refine x_getRs (r := 9) C fkM_X12_35 (nlt rfl) rfl (HG.rR hHy9 (k := 0) (i := 18) rfl rfl) dX12_ruleText_18 ?_
    refine x_iload_n (i := 1) C dX12_ruleText_21 rfl rfl ?_
    refine x_aload_n (i := 0) C dX12_ruleText_22 rfl rfl ?_
    refine x_getRs (r := 10) C fkM_X12_38 (nlt rfl) rfl (HG.rR hHy9 (k := 0) (i := 19) rfl rfl) dX12_ruleText_23 ?_
    refine x_iload_n (i := 1) C dX12_ruleText_26 rfl rfl ?_
    refine x_iald C (nlt rfl) rfl rfl (nle rfl) (by omega) (by omega) dX12_ruleText_27 ?_
    refine x_gen (fun v11 ev11 => ?_)
    replace ev11 : v11 = Yy9.1 10 2 := ev11
    have qv11 : (0 : Int) ≤ v11 ∧ v11 ≤ (10 : Int) := by
      rw [ev11]
      exact hHy9.rF (k := 10) (i := 2) (p := (0, 10)) rfl rfl
    have kv11 : v11 = Yy1.1 10 2 := by rw [ev11, eYy9, upI_nc (by decide), eYy6, upI_nc (by decide)]
    refine x_iast C (nlt rfl) rfl rfl (nle rfl) (by omega) (by omega) dX12_ruleText_28 ?_
    refine x_gX (fun Yy12 eYy12 => ?_)
    have hHy12 : HG vM Yy12 := by
      rw [eYy12]
      exact hg_wF hHy9 (p := ((-1), 99)) rfl ⟨by omega, by omega⟩
    have hFy12 : FR mmRT X0 Yy12 := by
      rw [eYy12]
      exact FR.upI hFy9 (rfl)
    replace eYy12 : Yy12 = upI Yy9 9 2 (v11) := eYy12
    have hGy12 : FR [(9, some 2)] Yy9 Yy12 := by
      rw [eYy12]
      exact FR.upI FR.rf rfl
    have hKy12 := hKy9.fr hGy12 rfl
    have hRy12 := hRy9.fr hGy12 rfl
    refine x_iinc (lv' := [(1, .int (iI (2 + 1))), (0, .ref 0)]) C dX12_ruleText_29 rfl (nlt rfl) rfl ?_
    refine Wx_lv (lv' := [(1, .int (iI (3))), (0, .ref 0)]) rfl ?_
    refine x_goto (tgt := 11) C dX12_ruleText_32 (by decide) ?_
    refine x_iload_n (i := 1) C dX12_ruleText_11 rfl rfl ?_
    refine x_bipush C dX12_ruleText_12 (by decide) ?_
    refine x_icmp_ge (tgt := 35) C dX12_ruleText_14 (by decide) ⟨by omega, by omega⟩ ⟨by omega, by omega⟩ (fun h13 => by exfalso; omega) (fun h13 => ?_)
    refine x_aload_n (i := 0) C dX12_ruleText_17 rfl rfl ?_
    refine x_getRs (r := 9) C fkM_X12_35 (nlt rfl) rfl (HG.rR hHy12 (k := 0) (i := 18) rfl rfl) dX12_ruleText_18 ?_
    refine x_iload_n (i := 1) C dX12_ruleText_21 rfl rfl ?_
    refine x_aload_n (i := 0) C dX12_ruleText_22 rfl rfl ?_
    refine x_getRs (r := 10) C fkM_X12_38 (nlt rfl) rfl (HG.rR hHy12 (k := 0) (i := 19) rfl rfl) dX12_ruleText_23 ?_
    refine x_iload_n (i := 1) C dX12_ruleText_26 rfl rfl ?_
    refine x_iald C (nlt rfl) rfl rfl (nle rfl) (by omega) (by omega) dX12_ruleText_27 ?_
    refine x_gen (fun v14 ev14 => ?_)
    replace ev14 : v14 = Yy12.1 10 3 := ev14
    have qv14 : (0 : Int) ≤ v14 ∧ v14 ≤ (10 : Int) := by
      rw [ev14]
      exact hHy12.rF (k := 10) (i := 3) (p := (0, 10)) rfl rfl
    have kv14 : v14 = Yy1.1 10 3 := by rw [ev14, eYy12, upI_nc (by decide), eYy9, upI_nc (by decide), eYy6, upI_nc (by decide)]
    refine x_iast C (nlt rfl) rfl rfl (nle rfl) (by omega) (by omega) dX12_ruleText_28 ?_
    refine x_gX (fun Yy15 eYy15 => ?_)
    have hHy15 : HG vM Yy15 := by
      rw [eYy15]
      exact hg_wF hHy12 (p := ((-1), 99)) rfl ⟨by omega, by omega⟩
    have hFy15 : FR mmRT X0 Yy15 := by
      rw [eYy15]
      exact FR.upI hFy12 (rfl)
    replace eYy15 : Yy15 = upI Yy12 9 3 (v14) := eYy15
    have hGy15 : FR [(9, some 3)] Yy12 Yy15 := by
      rw [eYy15]
      exact FR.upI FR.rf rfl
    have hKy15 := hKy12.fr hGy15 rfl
    have hRy15 := hRy12.fr hGy15 rfl
    refine x_iinc (lv' := [(1, .int (iI (3 + 1))), (0, .ref 0)]) C dX12_ruleText_29 rfl (nlt rfl) rfl ?_
    refine Wx_lv (lv' := [(1, .int (iI (4))), (0, .ref 0)]) rfl ?_
    refine x_goto (tgt := 11) C dX12_ruleText_32 (by decide) ?_
    refine x_iload_n (i := 1) C dX12_ruleText_11 rfl rfl ?_
    refine x_bipush C dX12_ruleText_12 (by decide) ?_
    refine x_icmp_ge (tgt := 35) C dX12_ruleText_14 (by decide) ⟨by omega, by omega⟩ ⟨by omega, by omega⟩ (fun h16 => by exfalso; omega) (fun h16 => ?_)
    refine x_aload_n (i := 0) C dX12_ruleText_17 rfl rfl ?_
    refine x_getRs (r := 9) C fkM_X12_35 (nlt rfl) rfl (HG.rR hHy15 (k := 0) (i := 18) rfl rfl) dX12_ruleText_18 ?_
    refine x_iload_n (i := 1) C dX12_ruleText_21 rfl rfl ?_
    refine x_aload_n (i := 0) C dX12_ruleText_22 rfl rfl ?_
    refine x_getRs (r := 10) C fkM_X12_38 (nlt rfl) rfl (HG.rR hHy15 (k := 0) (i := 19) rfl rfl) dX12_ruleText_23 ?_
    refine x_iload_n (i := 1) C dX12_ruleText_26 rfl rfl ?_
    refine x_iald C (nlt rfl) rfl rfl (nle rfl) (by omega) (by omega) dX12_ruleText_27 ?_
    refine x_gen (fun v17 ev17 => ?_)
    replace ev17 : v17 = Yy15.1 10 4 := ev17
    have qv17 : (0 : Int) ≤ v17 ∧ v17 ≤ (10 : Int) := by
      rw [ev17]
      exact hHy15.rF (k := 10) (i := 4) (p := (0, 10)) rfl rfl
    have kv17 : v17 = Yy1.1 10 4 := by rw [ev17, eYy15, upI_nc (by decide), eYy12, upI_nc (by decide), eYy9, upI_nc (by decide), eYy6, upI_nc (by decide)]
    refine x_iast C (nlt rfl) rfl rfl (nle rfl) (by omega) (by omega) dX12_ruleText_28 ?_
    refine x_gX (fun Yy18 eYy18 => ?_)
    have hHy18 : HG vM Yy18 := by
      rw [eYy18]
      exact hg_wF hHy15 (p := ((-1), 99)) rfl ⟨by omega, by omega⟩
    have hFy18 : FR mmRT X0 Yy18 := by
      rw [eYy18]
      exact FR.upI hFy15 (rfl)
    replace eYy18 : Yy18 = upI Yy15 9 4 (v17) := eYy18
    have hGy18 : FR [(9, some 4)] Yy15 Yy18 := by
      rw [eYy18]
      exact FR.upI FR.rf rfl
    have hKy18 := hKy15.fr hGy18 rfl
    have hRy18 := hRy15.fr hGy18 rfl
    refine x_iinc (lv' := [(1, .int (iI (4 + 1))), (0, .ref 0)]) C dX12_ruleText_29 rfl (nlt rfl) rfl ?_
    refine Wx_lv (lv' := [(1, .int (iI (5))), (0, .ref 0)]) rfl ?_
    refine x_goto (tgt := 11) C dX12_ruleText_32 (by decide) ?_
    refine x_iload_n (i := 1) C dX12_ruleText_11 rfl rfl ?_
    refine x_bipush C dX12_ruleText_12 (by decide) ?_
    refine x_icmp_ge (tgt := 35) C dX12_ruleText_14 (by decide) ⟨by omega, by omega⟩ ⟨by omega, by omega⟩ (fun h19 => by exfalso; omega) (fun h19 => ?_)
    refine x_aload_n (i := 0) C dX12_ruleText_17 rfl rfl ?_
    refine x_getRs (r := 9) C fkM_X12_35 (nlt rfl) rfl (HG.rR hHy18 (k := 0) (i := 18) rfl rfl) dX12_ruleText_18 ?_
    refine x_iload_n (i := 1) C dX12_ruleText_21 rfl rfl ?_
    refine x_aload_n (i := 0) C dX12_ruleText_22 rfl rfl ?_
    refine x_getRs (r := 10) C fkM_X12_38 (nlt rfl) rfl (HG.rR hHy18 (k := 0) (i := 19) rfl rfl) dX12_ruleText_23 ?_
    refine x_iload_n (i := 1) C dX12_ruleText_26 rfl rfl ?_
    refine x_iald C (nlt rfl) rfl rfl (nle rfl) (by omega) (by omega) dX12_ruleText_27 ?_
    refine x_gen (fun v20 ev20 => ?_)
    replace ev20 : v20 = Yy18.1 10 5 := ev20
    have qv20 : (0 : Int) ≤ v20 ∧ v20 ≤ (10 : Int) := by
      rw [ev20]
      exact hHy18.rF (k := 10) (i := 5) (p := (0, 10)) rfl rfl
    have kv20 : v20 = Yy1.1 10 5 := by rw [ev20, eYy18, upI_nc (by decide), eYy15, upI_nc (by decide), eYy12, upI_nc (by decide), eYy9, upI_nc (by decide), eYy6, upI_nc (by decide)]
    refine x_iast C (nlt rfl) rfl rfl (nle rfl) (by omega) (by omega) dX12_ruleText_28 ?_
    refine x_gX (fun Yy21 eYy21 => ?_)
    have hHy21 : HG vM Yy21 := by
      rw [eYy21]
      exact hg_wF hHy18 (p := ((-1), 99)) rfl ⟨by omega, by omega⟩
    have hFy21 : FR mmRT X0 Yy21 := by
      rw [eYy21]
      exact FR.upI hFy18 (rfl)
    replace eYy21 : Yy21 = upI Yy18 9 5 (v20) := eYy21
    have hGy21 : FR [(9, some 5)] Yy18 Yy21 := by
      rw [eYy21]
      exact FR.upI FR.rf rfl
    have hKy21 := hKy18.fr hGy21 rfl
    have hRy21 := hRy18.fr hGy21 rfl
    refine x_iinc (lv' := [(1, .int (iI (5 + 1))), (0, .ref 0)]) C dX12_ruleText_29 rfl (nlt rfl) rfl ?_
    refine Wx_lv (lv' := [(1, .int (iI (6))), (0, .ref 0)]) rfl ?_
    refine x_goto (tgt := 11) C dX12_ruleText_32 (by decide) ?_
    refine x_iload_n (i := 1) C dX12_ruleText_11 rfl rfl ?_
    refine x_bipush C dX12_ruleText_12 (by decide) ?_
    refine x_icmp_ge (tgt := 35) C dX12_ruleText_14 (by decide) ⟨by omega, by omega⟩ ⟨by omega, by omega⟩ (fun h22 => by exfalso; omega) (fun h22 => ?_)
    refine x_aload_n (i := 0) C dX12_ruleText_17 rfl rfl ?_
    refine x_getRs (r := 9) C fkM_X12_35 (nlt rfl) rfl (HG.rR hHy21 (k := 0) (i := 18) rfl rfl) dX12_ruleText_18 ?_
    refine x_iload_n (i := 1) C dX12_ruleText_21 rfl rfl ?_
    refine x_aload_n (i := 0) C dX12_ruleText_22 rfl rfl ?_
    refine x_getRs (r := 10) C fkM_X12_38 (nlt rfl) rfl (HG.rR hHy21 (k := 0) (i := 19) rfl rfl) dX12_ruleText_23 ?_
    refine x_iload_n (i := 1) C dX12_ruleText_26 rfl rfl ?_
    refine x_iald C (nlt rfl) rfl rfl (nle rfl) (by omega) (by omega) dX12_ruleText_27 ?_
    refine x_gen (fun v23 ev23 => ?_)
    replace ev23 : v23 = Yy21.1 10 6 := ev23
    have qv23 : (0 : Int) ≤ v23 ∧ v23 ≤ (10 : Int) := by
      rw [ev23]
      exact hHy21.rF (k := 10) (i := 6) (p := (0, 10)) rfl rfl
    have kv23 : v23 = Yy1.1 10 6 := by rw [ev23, eYy21, upI_nc (by decide), eYy18, upI_nc (by decide), eYy15, upI_nc (by decide), eYy12, upI_nc (by decide), eYy9, upI_nc (by decide), eYy6, upI_nc (by decide)]
    refine x_iast C (nlt rfl) rfl rfl (nle rfl) (by omega) (by omega) dX12_ruleText_28 ?_
    refine x_gX (fun Yy24 eYy24 => ?_)
    have hHy24 : HG vM Yy24 := by
      rw [eYy24]
      exact hg_wF hHy21 (p := ((-1), 99)) rfl ⟨by omega, by omega⟩
    have hFy24 : FR mmRT X0 Yy24 := by
      rw [eYy24]
      exact FR.upI hFy21 (rfl)
    replace eYy24 : Yy24 = upI Yy21 9 6 (v23) := eYy24
    have hGy24 : FR [(9, some 6)] Yy21 Yy24 := by
      rw [eYy24]
      exact FR.upI FR.rf rfl
    have hKy24 := hKy21.fr hGy24 rfl
    have hRy24 := hRy21.fr hGy24 rfl
    refine x_iinc (lv' := [(1, .int (iI (6 + 1))), (0, .ref 0)]) C dX12_ruleText_29 rfl (nlt rfl) rfl ?_
    refine Wx_lv (lv' := [(1, .int (iI (7))), (0, .ref 0)]) rfl ?_
    refine x_goto (tgt := 11) C dX12_ruleText_32 (by decide) ?_
    refine x_iload_n (i := 1) C dX12_ruleText_11 rfl rfl ?_
    refine x_bipush C dX12_ruleText_12 (by decide) ?_
    refine x_icmp_ge (tgt := 35) C dX12_ruleText_14 (by decide) ⟨by omega, by omega⟩ ⟨by omega, by omega⟩ (fun h25 => by exfalso; omega) (fun h25 => ?_)
    refine x_aload_n (i := 0) C dX12_ruleText_17 rfl rfl ?_
    refine x_getRs (r := 9) C fkM_X12_35 (nlt rfl) rfl (HG.rR hHy24 (k := 0) (i := 18) rfl rfl) dX12_ruleText_18 ?_
    refine x_iload_n (i := 1) C dX12_ruleText_21 rfl rfl ?_
    refine x_aload_n (i := 0) C dX12_ruleText_22 rfl rfl ?_
    refine x_getRs (r := 10) C fkM_X12_38 (nlt rfl) rfl (HG.rR hHy24 (k := 0) (i := 19) rfl rfl) dX12_ruleText_23 ?_
    refine x_iload_n (i := 1) C dX12_ruleText_26 rfl rfl ?_
    refine x_iald C (nlt rfl) rfl rfl (nle rfl) (by omega) (by omega) dX12_ruleText_27 ?_
    refine x_gen (fun v26 ev26 => ?_)
    replace ev26 : v26 = Yy24.1 10 7 := ev26
    have qv26 : (0 : Int) ≤ v26 ∧ v26 ≤ (10 : Int) := by
      rw [ev26]
      exact hHy24.rF (k := 10) (i := 7) (p := (0, 10)) rfl rfl
    have kv26 : v26 = Yy1.1 10 7 := by rw [ev26, eYy24, upI_nc (by decide), eYy21, upI_nc (by decide), eYy18, upI_nc (by decide), eYy15, upI_nc (by decide), eYy12, upI_nc (by decide), eYy9, upI_nc (by decide), eYy6, upI_nc (by decide)]
    refine x_iast C (nlt rfl) rfl rfl (nle rfl) (by omega) (by omega) dX12_ruleText_28 ?_
    refine x_gX (fun Yy27 eYy27 => ?_)
    have hHy27 : HG vM Yy27 := by
      rw [eYy27]
      exact hg_wF hHy24 (p := ((-1), 99)) rfl ⟨by omega, by omega⟩
    have hFy27 : FR mmRT X0 Yy27 := by
      rw [eYy27]
      exact FR.upI hFy24 (rfl)
    replace eYy27 : Yy27 = upI Yy24 9 7 (v26) := eYy27
    have hGy27 : FR [(9, some 7)] Yy24 Yy27 := by
      rw [eYy27]
      exact FR.upI FR.rf rfl
    have hKy27 := hKy24.fr hGy27 rfl
    have hRy27 := hRy24.fr hGy27 rfl
    refine x_iinc (lv' := [(1, .int (iI (7 + 1))), (0, .ref 0)]) C dX12_ruleText_29 rfl (nlt rfl) rfl ?_
    refine Wx_lv (lv' := [(1, .int (iI (8))), (0, .ref 0)]) rfl ?_
    refine x_goto (tgt := 11) C dX12_ruleText_32 (by decide) ?_
    refine x_iload_n (i := 1) C dX12_ruleText_11 rfl rfl ?_
    refine x_bipush C dX12_ruleText_12 (by decide) ?_
    refine x_icmp_ge (tgt := 35) C dX12_ruleText_14 (by decide) ⟨by omega, by omega⟩ ⟨by omega, by omega⟩ (fun h28 => by exfalso; omega) (fun h28 => ?_)
    refine x_aload_n (i := 0) C dX12_ruleText_17 rfl rfl ?_
    refine x_getRs (r := 9) C fkM_X12_35 (nlt rfl) rfl (HG.rR hHy27 (k := 0) (i := 18) rfl rfl) dX12_ruleText_18 ?_
    refine x_iload_n (i := 1) C dX12_ruleText_21 rfl rfl ?_
    refine x_aload_n (i := 0) C dX12_ruleText_22 rfl rfl ?_
    refine x_getRs (r := 10) C fkM_X12_38 (nlt rfl) rfl (HG.rR hHy27 (k := 0) (i := 19) rfl rfl) dX12_ruleText_23 ?_
    refine x_iload_n (i := 1) C dX12_ruleText_26 rfl rfl ?_
    refine x_iald C (nlt rfl) rfl rfl (nle rfl) (by omega) (by omega) dX12_ruleText_27 ?_
    refine x_gen (fun v29 ev29 => ?_)
    replace ev29 : v29 = Yy27.1 10 8 := ev29
    have qv29 : (0 : Int) ≤ v29 ∧ v29 ≤ (10 : Int) := by
      rw [ev29]
      exact hHy27.rF (k := 10) (i := 8) (p := (0, 10)) rfl rfl
    have kv29 : v29 = Yy1.1 10 8 := by rw [ev29, eYy27, upI_nc (by decide), eYy24, upI_nc (by decide), eYy21, upI_nc (by decide), eYy18, upI_nc (by decide), eYy15, upI_nc (by decide), eYy12, upI_nc (by decide), eYy9, upI_nc (by decide), eYy6, upI_nc (by decide)]
    refine x_iast C (nlt rfl) rfl rfl (nle rfl) (by omega) (by omega) dX12_ruleText_28 ?_
    refine x_gX (fun Yy30 eYy30 => ?_)
    have hHy30 : HG vM Yy30 := by
      rw [eYy30]
      exact hg_wF hHy27 (p := ((-1), 99)) rfl ⟨by omega, by omega⟩
    have hFy30 : FR mmRT X0 Yy30 := by
      rw [eYy30]
      exact FR.upI hFy27 (rfl)
    replace eYy30 : Yy30 = upI Yy27 9 8 (v29) := eYy30
    have hGy30 : FR [(9, some 8)] Yy27 Yy30 := by
      rw [eYy30]
      exact FR.upI FR.rf rfl
    have hKy30 := hKy27.fr hGy30 rfl
    have hRy30 := hRy27.fr hGy30 rfl
    refine x_iinc (lv' := [(1, .int (iI (8 + 1))), (0, .ref 0)]) C dX12_ruleText_29 rfl (nlt rfl) rfl ?_
    refine Wx_lv (lv' := [(1, .int (iI (9))), (0, .ref 0)]) rfl ?_
    refine x_goto (tgt := 11) C dX12_ruleText_32 (by decide) ?_
    refine x_iload_n (i := 1) C dX12_ruleText_11 rfl rfl ?_
    refine x_bipush C dX12_ruleText_12 (by decide) ?_
    refine x_icmp_ge (tgt := 35) C dX12_ruleText_14 (by decide) ⟨by omega, by omega⟩ ⟨by omega, by omega⟩ (fun h31 => by exfalso; omega) (fun h31 => ?_)
    refine x_aload_n (i := 0) C dX12_ruleText_17 rfl rfl ?_
    refine x_getRs (r := 9) C fkM_X12_35 (nlt rfl) rfl (HG.rR hHy30 (k := 0) (i := 18) rfl rfl) dX12_ruleText_18 ?_
    refine x_iload_n (i := 1) C dX12_ruleText_21 rfl rfl ?_
    refine x_aload_n (i := 0) C dX12_ruleText_22 rfl rfl ?_
    refine x_getRs (r := 10) C fkM_X12_38 (nlt rfl) rfl (HG.rR hHy30 (k := 0) (i := 19) rfl rfl) dX12_ruleText_23 ?_
    refine x_iload_n (i := 1) C dX12_ruleText_26 rfl rfl ?_
    refine x_iald C (nlt rfl) rfl rfl (nle rfl) (by omega) (by omega) dX12_ruleText_27 ?_
    refine x_gen (fun v32 ev32 => ?_)
    replace ev32 : v32 = Yy30.1 10 9 := ev32
    have qv32 : (0 : Int) ≤ v32 ∧ v32 ≤ (10 : Int) := by
      rw [ev32]
      exact hHy30.rF (k := 10) (i := 9) (p := (0, 10)) rfl rfl
    have kv32 : v32 = Yy1.1 10 9 := by rw [ev32, eYy30, upI_nc (by decide), eYy27, upI_nc (by decide), eYy24, upI_nc (by decide), eYy21, upI_nc (by decide), eYy18, upI_nc (by decide), eYy15, upI_nc (by decide), eYy12, upI_nc (by decide), eYy9, upI_nc (by decide), eYy6, upI_nc (by decide)]
    refine x_iast C (nlt rfl) rfl rfl (nle rfl) (by omega) (by omega) dX12_ruleText_28 ?_
    refine x_gX (fun Yy33 eYy33 => ?_)
    have hHy33 : HG vM Yy33 := by
      rw [eYy33]
      exact hg_wF hHy30 (p := ((-1), 99)) rfl ⟨by omega, by omega⟩
    have hFy33 : FR mmRT X0 Yy33 := by
      rw [eYy33]
      exact FR.upI hFy30 (rfl)
    replace eYy33 : Yy33 = upI Yy30 9 9 (v32) := eYy33
    have hGy33 : FR [(9, some 9)] Yy30 Yy33 := by
      rw [eYy33]
      exact FR.upI FR.rf rfl
    have hKy33 := hKy30.fr hGy33 rfl
    have hRy33 := hRy30.fr hGy33 rfl
    refine x_iinc (lv' := [(1, .int (iI (9 + 1))), (0, .ref 0)]) C dX12_ruleText_29 rfl (nlt rfl) rfl ?_
    refine Wx_lv (lv' := [(1, .int (iI (10))), (0, .ref 0)]) rfl ?_
    refine x_goto (tgt := 11) C dX12_ruleText_32 (by decide) ?_
    refine x_iload_n (i := 1) C dX12_ruleText_11 rfl rfl ?_
    refine x_bipush C dX12_ruleText_12 (by decide) ?_
    refine x_icmp_ge (tgt := 35) C dX12_ruleText_14 (by decide) ⟨by omega, by omega⟩ ⟨by omega, by omega⟩ (fun h34 => ?_) (fun h34 => by exfalso; omega)
    have b1 := hKy33.2.2.2.2.2.2
    have b5 := (tK_bd b N (nx b N (tS b N 0))).2
    have k0 := sK_5 b1 b5
    have so := hKy33.2.1
    have hS : ∀ i : Nat, Yy33.1 10 i = Yy1.1 10 i := fun i => by rw [eYy33, upI_nc (by decide), eYy30, upI_nc (by decide), eYy27, upI_nc (by decide), eYy24, upI_nc (by decide), eYy21, upI_nc (by decide), eYy18, upI_nc (by decide), eYy15, upI_nc (by decide), eYy12, upI_nc (by decide), eYy9, upI_nc (by decide), eYy6, upI_nc (by decide)]
    have hc : ∀ i : Nat, i < 10 → Yy33.1 9 i = Yy33.1 10 i := by
      intro i hi
      rw [hS]
      rcases (show i = 0 ∨ i = 1 ∨ i = 2 ∨ i = 3 ∨ i = 4 ∨ i = 5 ∨ i = 6 ∨ i = 7 ∨ i = 8 ∨ i = 9 by omega) with rfl | rfl | rfl | rfl | rfl | rfl | rfl | rfl | rfl | rfl
      · rw [eYy33, upI_ne (by decide), eYy30, upI_ne (by decide), eYy27, upI_ne (by decide), eYy24, upI_ne (by decide), eYy21, upI_ne (by decide), eYy18, upI_ne (by decide), eYy15, upI_ne (by decide), eYy12, upI_ne (by decide), eYy9, upI_ne (by decide), eYy6, upI_at]
        exact ev5
      · rw [eYy33, upI_ne (by decide), eYy30, upI_ne (by decide), eYy27, upI_ne (by decide), eYy24, upI_ne (by decide), eYy21, upI_ne (by decide), eYy18, upI_ne (by decide), eYy15, upI_ne (by decide), eYy12, upI_ne (by decide), eYy9, upI_at]
        exact kv8
      · rw [eYy33, upI_ne (by decide), eYy30, upI_ne (by decide), eYy27, upI_ne (by decide), eYy24, upI_ne (by decide), eYy21, upI_ne (by decide), eYy18, upI_ne (by decide), eYy15, upI_ne (by decide), eYy12, upI_at]
        exact kv11
      · rw [eYy33, upI_ne (by decide), eYy30, upI_ne (by decide), eYy27, upI_ne (by decide), eYy24, upI_ne (by decide), eYy21, upI_ne (by decide), eYy18, upI_ne (by decide), eYy15, upI_at]
        exact kv14
      · rw [eYy33, upI_ne (by decide), eYy30, upI_ne (by decide), eYy27, upI_ne (by decide), eYy24, upI_ne (by decide), eYy21, upI_ne (by decide), eYy18, upI_at]
        exact kv17
      · rw [eYy33, upI_ne (by decide), eYy30, upI_ne (by decide), eYy27, upI_ne (by decide), eYy24, upI_ne (by decide), eYy21, upI_at]
        exact kv20
      · rw [eYy33, upI_ne (by decide), eYy30, upI_ne (by decide), eYy27, upI_ne (by decide), eYy24, upI_at]
        exact kv23
      · rw [eYy33, upI_ne (by decide), eYy30, upI_ne (by decide), eYy27, upI_at]
        exact kv26
      · rw [eYy33, upI_ne (by decide), eYy30, upI_at]
        exact kv29
      · rw [eYy33, upI_at]
        exact kv32
    refine x_aload_n (i := 0) C dX12_ruleText_35 rfl rfl ?_
    refine x_getI C fkM_X12_190 (nlt rfl) rfl dX12_ruleText_36 ?_
    refine x_gen (fun v35 ev35 => ?_)
    have qv35 : ((-2147483648) : Int) ≤ v35 ∧ v35 ≤ (2147483647 : Int) := by
      rw [ev35]
      exact hHy33.rF (k := 0) (i := 12) rfl rfl
    have kv35 : v35 = Yy1.1 0 12 := by rw [ev35, eYy33, upI_nc (by decide), eYy30, upI_nc (by decide), eYy27, upI_nc (by decide), eYy24, upI_nc (by decide), eYy21, upI_nc (by decide), eYy18, upI_nc (by decide), eYy15, upI_nc (by decide), eYy12, upI_nc (by decide), eYy9, upI_nc (by decide), eYy6, upI_nc (by decide)]
    refine x_if_eq (tgt := 49) C dX12_ruleText_39 (by decide) ⟨by omega, by omega⟩ (fun h36 => ?_) (fun h36 => ?_)
    · refine x_iconst C dX12_ruleText_49 ?_
      refine x_goto (tgt := 54) C dX12_ruleText_50 (by decide) ?_
      exact x_zret C hQ (by omega) dX12_ruleText_54 (⟨_, rfl, hHy33, hFy33, .inl ⟨rfl, fR_5 r1.1 (k0.mp (by omega)), r1.1, hc, hRy33⟩⟩)
    · refine x_aload_n (i := 0) C dX12_ruleText_42 rfl rfl ?_
      refine x_callV (As := []) C (by exact (r_stops (s := (nx b N (tS b N 0))) hHy33 FR.rf hKy33)) ckX12_205 im_X12_stops se_X12_stops (nlt rfl) rfl rfl rfl rfl (nle rfl) (by exact ⟨nle rfl, nle rfl⟩) dX12_ruleText_43 ?_
      rintro _ Yy37 ⟨v38, rfl, zv38, hHy37, hGy37, wa, hKy37⟩
      have hFy37 : FR mmRT X0 Yy37 := FR.tr hFy33 hGy37 (by decide)
      have hRy37 := hRy33.fr hGy37 rfl
      refine Wx_st (st' := [.int (iI (v38))]) rfl ?_
      refine x_if_eq (tgt := 53) C dX12_ruleText_46 (by decide) ⟨by omega, by omega⟩ (fun h39 => ?_) (fun h39 => by exfalso; omega)
      refine x_iconst C dX12_ruleText_53 ?_
      exact x_zret C hQ (by omega) dX12_ruleText_54 (⟨_, rfl, hHy37, hFy37, .inr ⟨rfl, by rw [fR_x r1.1 (fun g => by have := k0.mpr g; omega), wa]⟩⟩)
  · have r0 := trv2.elim (fun g => by exfalso; have := g.1; omega) (fun g => g.2)
    refine x_iconst C dX12_ruleText_7 ?_
    exact x_zret C hQ (by omega) dX12_ruleText_8 (⟨_, rfl, hHy1, hFy1, .inr ⟨rfl, by rw [fR_n r0.1, r0.2.1]⟩⟩)
set_option maxHeartbeats 4000000 in
set_option maxRecDepth 100000 in
theorem r_lines0 {D : va_G} {ad : Nat → Nat} {cA : Nat → ClassId} {X0 : XT} {b : Nat → Int} {N : Nat} (hT0 : TPM b N X0) (hH : HG vM X0) {s0 : Nat} {F0 : Int × Int} {B0 : BC} (hF : FR mmBL X0 X0) (hK : TKM b N s0 X0) (hL : FLM F0 X0) (hO : FO F0 s0) (hB : BDM F0 B0 X0) : MetX (wM D ad cA) yX12_lines cX12_lines 6 (some .boolean) 5 111 [.ref 0, .int (iI (0))] X0 (fun r X1 => ∃ u : Int, r = some (.int (iI u)) ∧ HG vM X1 ∧ FR mmBL X0 X1 ∧ ((u = 1 ∧ (bRun b N 600 s0 F0 B0).1 = true ∧ TKM b N (bRun b N 600 s0 F0 B0).2.1 X1 ∧ tK b N (bRun b N 600 s0 F0 B0).2.1 = 5 ∧ FLM (bRun b N 600 s0 F0 B0).2.2.1 X1 ∧ BDM (bRun b N 600 s0 F0 B0).2.2.1 (bRun b N 600 s0 F0 B0).2.2.2 X1) ∨ (u = 0 ∧ (bRun b N 600 s0 F0 B0).1 = false ∧ X1.1 0 15 = ((bRun b N 600 s0 F0 B0).2.1 : Int)))) := by
  have n6 := hT0.2.1
  refine MetX.mk (own := RX12) (by decide +kernel) rfl (nle rfl) (fun E C hQ => ?_)
  refine Wx_lv (lv' := [(0, .ref 0), (1, .int (iI (0)))]) rfl ?_
  refine x_iconst C dX12_lines_0 ?_
  refine x_istore_n (i := 2) (lv' := [(2, .int (iI (1))), (0, .ref 0), (1, .int (iI (0)))]) C dX12_lines_1 rfl (nlt rfl) rfl ?_
  refine Wx_pick [0, 1, 2] ?_
  refine Wx_lv (lv' := [(0, .ref 0), (1, .int (iI (0))), (2, .int (iI (1)))]) rfl ?_
  exact r_linesL0 hT0 C hQ (N + 2) 600 s0 F0 B0 X0 (by omega) hH hF hK hL hO hB rfl (by omega)
set_option maxHeartbeats 4000000 in
set_option maxRecDepth 100000 in
theorem r_lines2 {D : va_G} {ad : Nat → Nat} {cA : Nat → ClassId} {X0 : XT} {b : Nat → Int} {N : Nat} (hT0 : TPM b N X0) (hH : HG vM X0) {s0 : Nat} {F0 : Int × Int} {G0 : GC} (hF : FR mmGL X0 X0) (hK : TKM b N s0 X0) (hL : FLM F0 X0) (hO : FO F0 s0) (hM : GDM G0 X0) : MetX (wM D ad cA) yX12_lines cX12_lines 6 (some .boolean) 5 111 [.ref 0, .int (iI (2))] X0 (fun r X1 => ∃ u : Int, r = some (.int (iI u)) ∧ HG vM X1 ∧ FR mmGL X0 X1 ∧ ((u = 1 ∧ (gRun b N 600 s0 F0 G0).1 = true ∧ TKM b N (gRun b N 600 s0 F0 G0).2.1 X1 ∧ tK b N (gRun b N 600 s0 F0 G0).2.1 = 5 ∧ FLM (gRun b N 600 s0 F0 G0).2.2.1 X1 ∧ GDM (gRun b N 600 s0 F0 G0).2.2.2 X1) ∨ (u = 0 ∧ (gRun b N 600 s0 F0 G0).1 = false ∧ X1.1 0 15 = ((gRun b N 600 s0 F0 G0).2.1 : Int)))) := by
  have n6 := hT0.2.1
  refine MetX.mk (own := RX12) (by decide +kernel) rfl (nle rfl) (fun E C hQ => ?_)
  refine Wx_lv (lv' := [(0, .ref 0), (1, .int (iI (2)))]) rfl ?_
  refine x_iconst C dX12_lines_0 ?_
  refine x_istore_n (i := 2) (lv' := [(2, .int (iI (1))), (0, .ref 0), (1, .int (iI (2)))]) C dX12_lines_1 rfl (nlt rfl) rfl ?_
  refine Wx_pick [0, 1, 2] ?_
  refine Wx_lv (lv' := [(0, .ref 0), (1, .int (iI (2))), (2, .int (iI (1)))]) rfl ?_
  exact r_linesL2 hT0 C hQ (N + 2) 600 s0 F0 G0 X0 (by omega) hH hF hK hL hO hM rfl (by omega)
