theorem inX12 : ∀ x ∈ u_ws RX12 TX12 75, x ∈ lw_g := by
  intro x hx
  have h : (u_ws RX12 TX12 75).all (fun y => decide (y ∈ lw_tbl) && goodWord y) = true := by decide +kernel
  have h1 := List.all_eq_true.mp h x hx
  simp only [Bool.and_eq_true, decide_eq_true_eq] at h1
  exact List.mem_filter.mpr h1
theorem fkM_X12_23 {D : va_G} {ad : Nat → Nat} {cA : Nat → ClassId} : FKw (wM D ad cA) RX12 23 12 75 5 2 := ⟨RX12, TX12, rfl, by decide, rfl, inX12, (lw_gi 1268 (by decide +kernel) rfl : Cond.fieldLink RX12 23 RX12 (TX12 5).2.1 (TX12 5).2.2.1 ∈ lw_g), rfl⟩
theorem ckX12_165 : CKB RX12 165 yX12_in cX12_in 3 (some .boolean) 3 := ⟨(lw_gi 1503 (by decide +kernel) rfl : Cond.code yX12_in cX12_in 3 (some .boolean) ∈ lw_g), (lw_gi 128 (by decide +kernel) rfl : Cond.initialized yX12_in.cls ∈ lw_g), by decide +kernel, by decide +kernel, (lw_gi 1501 (by decide +kernel) rfl : Cond.methodLink RX12 165 yX12_in ∈ lw_g)⟩
theorem sm_X12_in : Cond.static yX12_in ∈ lw_g := (lw_gi 1502 (by decide +kernel) rfl : Cond.static yX12_in ∈ lw_g)
theorem fkM_X12_7 {D : va_G} {ad : Nat → Nat} {cA : Nat → ClassId} : FKw (wM D ad cA) RX12 7 12 75 1 2 := ⟨RX12, TX12, rfl, by decide, rfl, inX12, (lw_gi 1264 (by decide +kernel) rfl : Cond.fieldLink RX12 7 RX12 (TX12 1).2.1 (TX12 1).2.2.1 ∈ lw_g), rfl⟩
theorem fkM_X12_13 {D : va_G} {ad : Nat → Nat} {cA : Nat → ClassId} : FKw (wM D ad cA) RX12 13 12 75 2 2 := ⟨RX12, TX12, rfl, by decide, rfl, inX12, (lw_gi 1265 (by decide +kernel) rfl : Cond.fieldLink RX12 13 RX12 (TX12 2).2.1 (TX12 2).2.2.1 ∈ lw_g), rfl⟩
theorem pkM_X12_157 {D : va_G} {ad : Nat → Nat} {cA : Nat → ClassId} : PKw (wM D ad cA) RX12 157 12 75 0 0 (tyX12 0) := ⟨RX12, TX12, tyX12, rfl, by decide, rfl, inX12, (lw_gi 1263 (by decide +kernel) rfl : Cond.fieldLink RX12 157 RX12 (TX12 0).2.1 (TX12 0).2.2.1 ∈ lw_g), rfl, tyX12_ok, nmX12, rfl, rfl⟩
theorem ckX12_169 : CKB RX12 169 yX12_four cX12_four 3 none 1 := ⟨(lw_gi 1496 (by decide +kernel) rfl : Cond.code yX12_four cX12_four 3 none ∈ lw_g), (lw_gi 128 (by decide +kernel) rfl : Cond.initialized yX12_four.cls ∈ lw_g), by decide +kernel, by decide +kernel, (lw_gi 1493 (by decide +kernel) rfl : Cond.methodLink RX12 169 yX12_four ∈ lw_g)⟩
theorem im_X12_four : Cond.instanceMethod yX12_four ∈ lw_g := (lw_gi 1495 (by decide +kernel) rfl : Cond.instanceMethod yX12_four ∈ lw_g)
theorem se_X12_four : Cond.selects RX12 yX12_four yX12_four ∈ lw_g := (lw_gi 39 (by decide +kernel) rfl : Cond.selects RX12 yX12_four yX12_four ∈ lw_g)
set_option maxHeartbeats 4000000 in
set_option maxRecDepth 100000 in
theorem m_in {D : va_G} {ad : Nat → Nat} {cA : Nat → ClassId} {X : XT} {v a b : Int} (hv : inR v) (ha : inR a) (hb : inR b) : MetX (wM D ad cA) yX12_in cX12_in 3 (some .boolean) 0 0 [.int (iI (v)), .int (iI (a)), .int (iI (b))] X (fun r X' => X' = X ∧ ∃ u : Int, r = some (.int (iI u)) ∧ ((u = 1 ∧ a ≤ v ∧ v ≤ b) ∨ (u = 0 ∧ ¬ (a ≤ v ∧ v ≤ b)))) := by
  unfold inR at hv ha hb
  refine MetX.mk (own := RX12) (by decide +kernel) rfl (nle rfl) (fun E C => ?_)
  refine Wx_lv (lv' := [(0, .int (iI (v))), (1, .int (iI (a))), (2, .int (iI (b)))]) rfl ?_
  refine x_iload_n (i := 0) C dX12_in_0 rfl rfl ?_
  refine x_iload_n (i := 1) C dX12_in_1 rfl rfl ?_
  refine x_icmp_lt (tgt := 14) C dX12_in_2 (by decide) ⟨by omega, by omega⟩ ⟨by omega, by omega⟩ (fun h1 => ?_) (fun h1 => ?_)
  · refine x_iconst C dX12_in_14 ?_
    exact x_zret C (by omega) dX12_in_15 (⟨rfl, _, rfl, by omega⟩)
  · refine x_iload_n (i := 0) C dX12_in_5 rfl rfl ?_
    refine x_iload_n (i := 2) C dX12_in_6 rfl rfl ?_
    refine x_icmp_gt (tgt := 14) C dX12_in_7 (by decide) ⟨by omega, by omega⟩ ⟨by omega, by omega⟩ (fun h2 => ?_) (fun h2 => ?_)
    · refine x_iconst C dX12_in_14 ?_
      exact x_zret C (by omega) dX12_in_15 (⟨rfl, _, rfl, by omega⟩)
    · refine x_iconst C dX12_in_10 ?_
      refine x_goto (tgt := 15) C dX12_in_11 (by decide) ?_
      exact x_zret C (by omega) dX12_in_15 (⟨rfl, _, rfl, by omega⟩)
set_option maxHeartbeats 4000000 in
set_option maxRecDepth 100000 in
theorem m_is {D : va_G} {ad : Nat → Nat} {cA : Nat → ClassId} {X : XT} (hr : X.2.2 = rM) {s k mv : Int} (hs0 : 0 ≤ s) (hs1 : s ≤ 2) (hm : X.1 5 s.toNat = mv) (hmv : 0 ≤ mv ∧ mv ≤ 3) (hk : inR k) : MetX (wM D ad cA) yX12_is cX12_is 3 (some .boolean) 1 22 [.ref 0, .int (iI (s)), .int (iI (k))] X (fun r X' => X' = X ∧ ∃ u : Int, r = some (.int (iI u)) ∧ ((u = 1 ∧ 0 ≤ k ∧ k < mv) ∨ (u = 0 ∧ ¬ (0 ≤ k ∧ k < mv)))) := by
  unfold inR at hk
  refine MetX.mk (own := RX12) (by decide +kernel) rfl (nle rfl) (fun E C => ?_)
  refine Wx_lv (lv' := [(0, .ref 0), (1, .int (iI (s))), (2, .int (iI (k)))]) rfl ?_
  refine x_iload_n (i := 2) C dX12_is_0 rfl rfl ?_
  refine x_iconst C dX12_is_1 ?_
  refine x_aload_n (i := 0) C dX12_is_2 rfl rfl ?_
  refine x_getRs (r := 5) C fkM_X12_23 (nlt rfl) rfl (congrFun (congrFun hr 0) 5) dX12_is_3 ?_
  refine x_iload_n (i := 1) C dX12_is_6 rfl rfl ?_
  refine x_iald C (nlt rfl) rfl rfl (nle rfl) (by omega) (by omega) dX12_is_7 ?_
  refine x_gen (fun v1 ev1 => ?_)
  rw [hm] at ev1
  refine x_iconst C dX12_is_8 ?_
  refine x_isub C dX12_is_9 ?_
  refine x_callS (As := [.int (iI (k)), .int (iI (0)), .int (iI (v1 - 1))]) C (m_in (v := k) (a := 0) (b := v1 - 1) ⟨by omega, by omega⟩ ⟨by omega, by omega⟩ ⟨by omega, by omega⟩) ckX12_165 sm_X12_in rfl rfl (nle rfl) ⟨nle rfl, nle rfl⟩ dX12_is_10 ?_
  rintro _ _ ⟨rfl, u2, rfl, h3⟩
  refine Wx_st (st' := [.int (iI (u2))]) rfl ?_
  exact x_zret C (by omega) dX12_is_13 (⟨rfl, _, rfl, by omega⟩)
theorem m_is0 {D : va_G} {ad : Nat → Nat} {cA : Nat → ClassId} {X : XT} (hr : X.2.2 = rM) {s k : Int} (hs0 : 0 ≤ s) (hs1 : s ≤ 2) (hm : X.1 5 s.toNat = 0) (hk : inR k) : MetX (wM D ad cA) yX12_is cX12_is 3 (some .boolean) 1 22 [.ref 0, .int (iI (s)), .int (iI (k))] X (fun r X' => X' = X ∧ r = some (.int (iI 0))) :=
  MetX.imp (fun r X' h => by
    obtain ⟨h1, u, h2, h3⟩ := h
    have h4 : u = 0 := by omega
    subst h4
    exact ⟨h1, h2⟩) (m_is hr hs0 hs1 hm ⟨by decide, by decide⟩ hk)
set_option maxHeartbeats 4000000 in
set_option maxRecDepth 100000 in
theorem m_four {D : va_G} {ad : Nat → Nat} {cA : Nat → ClassId} {X : XT} (hr : X.2.2 = rM) {v n : Int} (hv : inR v) (hm : X.1 2 0 = n) (hn0 : 0 ≤ n) (hn : n ≤ 600) : MetX (wM D ad cA) yX12_four cX12_four 3 none 0 0 [.ref 0, .int (iI (v))] X (fun r X' => r = none ∧ X'.2.2 = rM ∧ X'.1 2 0 = n + 4) := by
  refine MetX.mk (own := RX12) (by decide +kernel) rfl (nle rfl) (fun E C => ?_)
  refine Wx_lv (lv' := [(0, .ref 0), (1, .int (iI (v)))]) rfl ?_
  refine x_bipush C dX12_four_0 (by decide) ?_
  refine x_istore_n (i := 2) (lv' := [(2, .int (iI (24))), (0, .ref 0), (1, .int (iI (v)))]) C dX12_four_2 rfl (nlt rfl) rfl ?_
  refine x_iload_n (i := 2) C dX12_four_3 rfl rfl ?_
  refine x_if_lt (tgt := 38) C dX12_four_4 (by decide) ⟨by omega, by omega⟩ (fun h1 => by exfalso; omega) (fun h1 => ?_)
  refine x_aload_n (i := 0) C dX12_four_7 rfl rfl ?_
  refine x_getRs (r := 1) C fkM_X12_7 (nlt rfl) rfl (congrFun (congrFun hr 0) 1) dX12_four_8 ?_
  refine x_aload_n (i := 0) C dX12_four_11 rfl rfl ?_
  refine x_getRs (r := 2) C fkM_X12_13 (nlt rfl) rfl (congrFun (congrFun hr 0) 2) dX12_four_12 ?_
  refine x_iconst C dX12_four_15 ?_
  refine x_iald C (nlt rfl) rfl rfl (nle rfl) (by omega) (by omega) dX12_four_16 ?_
  refine x_eq (b := n) hm ?_
  refine x_iload_n (i := 1) C dX12_four_17 rfl rfl ?_
  refine x_iload_n (i := 2) C dX12_four_18 rfl rfl ?_
  refine x_ishr C dX12_four_19 ?_
  refine x_topi (fun v2 rv2 ev2 => ?_)
  unfold inR at rv2
  refine x_i2b C dX12_four_20 ?_
  refine x_topi (fun v3 rv3 ev3 => ?_)
  unfold inR at rv3
  have bv3 := i2b_bd rv3 ev3
  refine x_bast C (nlt rfl) rfl rfl (nle rfl) (by omega) (by omega) ⟨by omega, by omega⟩ dX12_four_21 ?_
  refine x_aload_n (i := 0) C dX12_four_22 rfl rfl ?_
  refine x_getRs (r := 2) C fkM_X12_13 (nlt rfl) rfl (congrFun (congrFun hr 0) 2) dX12_four_23 ?_
  refine x_iconst C dX12_four_26 ?_
  refine x_dup2_11 C dX12_four_27 rfl rfl ?_
  refine x_iald C (nlt rfl) rfl rfl (nle rfl) (by omega) (by omega) dX12_four_28 ?_
  refine x_eq (b := n) hm ?_
  refine x_iconst C dX12_four_29 ?_
  refine x_iadd C dX12_four_30 ?_
  refine x_iast C (nlt rfl) rfl rfl (nle rfl) (by omega) (by omega) dX12_four_31 ?_
  refine x_iinc (lv' := [(2, .int (iI (24 + (-8)))), (0, .ref 0), (1, .int (iI (v)))]) C dX12_four_32 rfl (nlt rfl) rfl ?_
  refine Wx_lv (lv' := [(2, .int (iI (16))), (0, .ref 0), (1, .int (iI (v)))]) rfl ?_
  refine x_goto (tgt := 3) C dX12_four_35 (by decide) ?_
  refine x_iload_n (i := 2) C dX12_four_3 rfl rfl ?_
  refine x_if_lt (tgt := 38) C dX12_four_4 (by decide) ⟨by omega, by omega⟩ (fun h4 => by exfalso; omega) (fun h4 => ?_)
  refine x_aload_n (i := 0) C dX12_four_7 rfl rfl ?_
  refine x_getRs (r := 1) C fkM_X12_7 (nlt rfl) rfl (congrFun (congrFun hr 0) 1) dX12_four_8 ?_
  refine x_aload_n (i := 0) C dX12_four_11 rfl rfl ?_
  refine x_getRs (r := 2) C fkM_X12_13 (nlt rfl) rfl (congrFun (congrFun hr 0) 2) dX12_four_12 ?_
  refine x_iconst C dX12_four_15 ?_
  refine x_iald C (nlt rfl) rfl rfl (nle rfl) (by omega) (by omega) dX12_four_16 ?_
  refine x_eq (b := n + 1) rfl ?_
  refine x_iload_n (i := 1) C dX12_four_17 rfl rfl ?_
  refine x_iload_n (i := 2) C dX12_four_18 rfl rfl ?_
  refine x_ishr C dX12_four_19 ?_
  refine x_topi (fun v5 rv5 ev5 => ?_)
  unfold inR at rv5
  refine x_i2b C dX12_four_20 ?_
  refine x_topi (fun v6 rv6 ev6 => ?_)
  unfold inR at rv6
  have bv6 := i2b_bd rv6 ev6
  refine x_bast C (nlt rfl) rfl rfl (nle rfl) (by omega) (by omega) ⟨by omega, by omega⟩ dX12_four_21 ?_
  refine x_aload_n (i := 0) C dX12_four_22 rfl rfl ?_
  refine x_getRs (r := 2) C fkM_X12_13 (nlt rfl) rfl (congrFun (congrFun hr 0) 2) dX12_four_23 ?_
  refine x_iconst C dX12_four_26 ?_
  refine x_dup2_11 C dX12_four_27 rfl rfl ?_
  refine x_iald C (nlt rfl) rfl rfl (nle rfl) (by omega) (by omega) dX12_four_28 ?_
  refine x_eq (b := n + 1) rfl ?_
  refine x_iconst C dX12_four_29 ?_
  refine x_iadd C dX12_four_30 ?_
  refine x_iast C (nlt rfl) rfl rfl (nle rfl) (by omega) (by omega) dX12_four_31 ?_
  refine x_iinc (lv' := [(2, .int (iI (16 + (-8)))), (0, .ref 0), (1, .int (iI (v)))]) C dX12_four_32 rfl (nlt rfl) rfl ?_
  refine Wx_lv (lv' := [(2, .int (iI (8))), (0, .ref 0), (1, .int (iI (v)))]) rfl ?_
  refine x_goto (tgt := 3) C dX12_four_35 (by decide) ?_
  refine x_iload_n (i := 2) C dX12_four_3 rfl rfl ?_
  refine x_if_lt (tgt := 38) C dX12_four_4 (by decide) ⟨by omega, by omega⟩ (fun h7 => by exfalso; omega) (fun h7 => ?_)
  refine x_aload_n (i := 0) C dX12_four_7 rfl rfl ?_
  refine x_getRs (r := 1) C fkM_X12_7 (nlt rfl) rfl (congrFun (congrFun hr 0) 1) dX12_four_8 ?_
  refine x_aload_n (i := 0) C dX12_four_11 rfl rfl ?_
  refine x_getRs (r := 2) C fkM_X12_13 (nlt rfl) rfl (congrFun (congrFun hr 0) 2) dX12_four_12 ?_
  refine x_iconst C dX12_four_15 ?_
  refine x_iald C (nlt rfl) rfl rfl (nle rfl) (by omega) (by omega) dX12_four_16 ?_
  refine x_eq (b := (n + 1) + 1) rfl ?_
  refine x_iload_n (i := 1) C dX12_four_17 rfl rfl ?_
  refine x_iload_n (i := 2) C dX12_four_18 rfl rfl ?_
  refine x_ishr C dX12_four_19 ?_
  refine x_topi (fun v8 rv8 ev8 => ?_)
  unfold inR at rv8
  refine x_i2b C dX12_four_20 ?_
  refine x_topi (fun v9 rv9 ev9 => ?_)
  unfold inR at rv9
  have bv9 := i2b_bd rv9 ev9
  refine x_bast C (nlt rfl) rfl rfl (nle rfl) (by omega) (by omega) ⟨by omega, by omega⟩ dX12_four_21 ?_
  refine x_aload_n (i := 0) C dX12_four_22 rfl rfl ?_
  refine x_getRs (r := 2) C fkM_X12_13 (nlt rfl) rfl (congrFun (congrFun hr 0) 2) dX12_four_23 ?_
  refine x_iconst C dX12_four_26 ?_
  refine x_dup2_11 C dX12_four_27 rfl rfl ?_
  refine x_iald C (nlt rfl) rfl rfl (nle rfl) (by omega) (by omega) dX12_four_28 ?_
  refine x_eq (b := (n + 1) + 1) rfl ?_
  refine x_iconst C dX12_four_29 ?_
  refine x_iadd C dX12_four_30 ?_
  refine x_iast C (nlt rfl) rfl rfl (nle rfl) (by omega) (by omega) dX12_four_31 ?_
  refine x_iinc (lv' := [(2, .int (iI (8 + (-8)))), (0, .ref 0), (1, .int (iI (v)))]) C dX12_four_32 rfl (nlt rfl) rfl ?_
  refine Wx_lv (lv' := [(2, .int (iI (0))), (0, .ref 0), (1, .int (iI (v)))]) rfl ?_
  refine x_goto (tgt := 3) C dX12_four_35 (by decide) ?_
  refine x_iload_n (i := 2) C dX12_four_3 rfl rfl ?_
  refine x_if_lt (tgt := 38) C dX12_four_4 (by decide) ⟨by omega, by omega⟩ (fun h10 => by exfalso; omega) (fun h10 => ?_)
  refine x_aload_n (i := 0) C dX12_four_7 rfl rfl ?_
  refine x_getRs (r := 1) C fkM_X12_7 (nlt rfl) rfl (congrFun (congrFun hr 0) 1) dX12_four_8 ?_
  refine x_aload_n (i := 0) C dX12_four_11 rfl rfl ?_
  refine x_getRs (r := 2) C fkM_X12_13 (nlt rfl) rfl (congrFun (congrFun hr 0) 2) dX12_four_12 ?_
  refine x_iconst C dX12_four_15 ?_
  refine x_iald C (nlt rfl) rfl rfl (nle rfl) (by omega) (by omega) dX12_four_16 ?_
  refine x_eq (b := ((n + 1) + 1) + 1) rfl ?_
  refine x_iload_n (i := 1) C dX12_four_17 rfl rfl ?_
  refine x_iload_n (i := 2) C dX12_four_18 rfl rfl ?_
  refine x_ishr C dX12_four_19 ?_
  refine x_topi (fun v11 rv11 ev11 => ?_)
  unfold inR at rv11
  refine x_i2b C dX12_four_20 ?_
  refine x_topi (fun v12 rv12 ev12 => ?_)
  unfold inR at rv12
  have bv12 := i2b_bd rv12 ev12
  refine x_bast C (nlt rfl) rfl rfl (nle rfl) (by omega) (by omega) ⟨by omega, by omega⟩ dX12_four_21 ?_
  refine x_aload_n (i := 0) C dX12_four_22 rfl rfl ?_
  refine x_getRs (r := 2) C fkM_X12_13 (nlt rfl) rfl (congrFun (congrFun hr 0) 2) dX12_four_23 ?_
  refine x_iconst C dX12_four_26 ?_
  refine x_dup2_11 C dX12_four_27 rfl rfl ?_
  refine x_iald C (nlt rfl) rfl rfl (nle rfl) (by omega) (by omega) dX12_four_28 ?_
  refine x_eq (b := ((n + 1) + 1) + 1) rfl ?_
  refine x_iconst C dX12_four_29 ?_
  refine x_iadd C dX12_four_30 ?_
  refine x_iast C (nlt rfl) rfl rfl (nle rfl) (by omega) (by omega) dX12_four_31 ?_
  refine x_iinc (lv' := [(2, .int (iI (0 + (-8)))), (0, .ref 0), (1, .int (iI (v)))]) C dX12_four_32 rfl (nlt rfl) rfl ?_
  refine Wx_lv (lv' := [(2, .int (iI ((-8)))), (0, .ref 0), (1, .int (iI (v)))]) rfl ?_
  refine x_goto (tgt := 3) C dX12_four_35 (by decide) ?_
  refine x_iload_n (i := 2) C dX12_four_3 rfl rfl ?_
  refine x_if_lt (tgt := 38) C dX12_four_4 (by decide) ⟨by omega, by omega⟩ (fun h13 => ?_) (fun h13 => by exfalso; omega)
  exact x_vret C dX12_four_38 (⟨rfl, hr, by show (((n + 1) + 1) + 1) + 1 = n + 4; omega⟩)
set_option maxHeartbeats 4000000 in
set_option maxRecDepth 100000 in
theorem m_feed {D : va_G} {ad : Nat → Nat} {cA : Nat → ClassId} {a b c d e : Int} (ha : inR a) (hb : inR b) (hc : inR c) (hd : inR d) (he : inR e) : MetX (wM D ad cA) yX12_feed cX12_feed 6 (some .int) 1 22 [.ref 0, .int (iI (a)), .int (iI (b)), .int (iI (c)), .int (iI (d)), .int (iI (e))] x0M (fun r _ => r = some (.int (iI (20)))) := by
  have hr : (x0M).2.2 = rM := rfl
  unfold inR at ha hb hc hd he
  refine MetX.mk (own := RX12) (by decide +kernel) rfl (nle rfl) (fun E C => ?_)
  refine Wx_lv (lv' := [(0, .ref 0), (1, .int (iI (a))), (2, .int (iI (b))), (3, .int (iI (c))), (4, .int (iI (d))), (5, .int (iI (e)))]) rfl ?_
  refine x_aload_n (i := 0) C dX12_feed_0 rfl rfl ?_
  refine x_iconst C dX12_feed_1 ?_
  refine x_putI C pkM_X12_157 (nlt rfl) rfl dX12_feed_2 ?_
  refine x_aload_n (i := 0) C dX12_feed_5 rfl rfl ?_
  refine x_getRs (r := 2) C fkM_X12_13 (nlt rfl) rfl (congrFun (congrFun hr 0) 2) dX12_feed_6 ?_
  refine x_iconst C dX12_feed_9 ?_
  refine x_iald C (nlt rfl) rfl rfl (nle rfl) (by omega) (by omega) dX12_feed_10 ?_
  refine x_eq (b := 0) rfl ?_
  refine x_bipush C dX12_feed_11 (by decide) ?_
  refine x_iadd C dX12_feed_13 ?_
  refine x_eq (b := 20) rfl ?_
  refine x_sipush C dX12_feed_14 (by decide) ?_
  refine x_icmp_le (tgt := 22) C dX12_feed_17 (by decide) ⟨by omega, by omega⟩ ⟨by omega, by omega⟩ (fun h1 => ?_) (fun h1 => by exfalso; omega)
  refine x_aload_n (i := 0) C dX12_feed_22 rfl rfl ?_
  refine x_iload_n (i := 1) C dX12_feed_23 rfl rfl ?_
  refine x_callV (As := [.int (iI (a))]) C (m_four (v := a) (n := 0) hr ⟨by omega, by omega⟩ rfl (by omega) (by omega)) ckX12_169 im_X12_four se_X12_four (nlt rfl) rfl rfl rfl rfl (nle rfl) ⟨nle rfl, nle rfl⟩ dX12_feed_24 ?_
  rintro _ Xh2 ⟨rfl, hr, h2⟩
  refine Wx_st (st' := []) rfl ?_
  refine x_aload_n (i := 0) C dX12_feed_27 rfl rfl ?_
  refine x_iload_n (i := 2) C dX12_feed_28 rfl rfl ?_
  refine x_callV (As := [.int (iI (b))]) C (m_four (v := b) (n := 4) hr ⟨by omega, by omega⟩ h2 (by omega) (by omega)) ckX12_169 im_X12_four se_X12_four (nlt rfl) rfl rfl rfl rfl (nle rfl) ⟨nle rfl, nle rfl⟩ dX12_feed_29 ?_
  rintro _ Xh3 ⟨rfl, hr, h3⟩
  refine Wx_st (st' := []) rfl ?_
  refine x_aload_n (i := 0) C dX12_feed_32 rfl rfl ?_
  refine x_iload_n (i := 3) C dX12_feed_33 rfl rfl ?_
  refine x_callV (As := [.int (iI (c))]) C (m_four (v := c) (n := 8) hr ⟨by omega, by omega⟩ h3 (by omega) (by omega)) ckX12_169 im_X12_four se_X12_four (nlt rfl) rfl rfl rfl rfl (nle rfl) ⟨nle rfl, nle rfl⟩ dX12_feed_34 ?_
  rintro _ Xh4 ⟨rfl, hr, h4⟩
  refine Wx_st (st' := []) rfl ?_
  refine x_aload_n (i := 0) C dX12_feed_37 rfl rfl ?_
  refine x_iload C dX12_feed_38 rfl ?_
  refine x_callV (As := [.int (iI (d))]) C (m_four (v := d) (n := 12) hr ⟨by omega, by omega⟩ h4 (by omega) (by omega)) ckX12_169 im_X12_four se_X12_four (nlt rfl) rfl rfl rfl rfl (nle rfl) ⟨nle rfl, nle rfl⟩ dX12_feed_40 ?_
  rintro _ Xh5 ⟨rfl, hr, h5⟩
  refine Wx_st (st' := []) rfl ?_
  refine x_aload_n (i := 0) C dX12_feed_43 rfl rfl ?_
  refine x_iload C dX12_feed_44 rfl ?_
  refine x_callV (As := [.int (iI (e))]) C (m_four (v := e) (n := 16) hr ⟨by omega, by omega⟩ h5 (by omega) (by omega)) ckX12_169 im_X12_four se_X12_four (nlt rfl) rfl rfl rfl rfl (nle rfl) ⟨nle rfl, nle rfl⟩ dX12_feed_46 ?_
  rintro _ Xh6 ⟨rfl, hr, h6⟩
  refine Wx_st (st' := []) rfl ?_
  refine x_aload_n (i := 0) C dX12_feed_49 rfl rfl ?_
  refine x_getRs (r := 2) C fkM_X12_13 (nlt rfl) rfl (congrFun (congrFun hr 0) 2) dX12_feed_50 ?_
  refine x_iconst C dX12_feed_53 ?_
  refine x_iald C (nlt rfl) rfl rfl (nle rfl) (by omega) (by omega) dX12_feed_54 ?_
  refine x_eq (b := 20) h6 ?_
  exact x_iret C dX12_feed_55 (congrArg (fun z : Int => some (Value.int (iI z))) (by omega))
