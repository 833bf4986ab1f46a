set_option maxHeartbeats 4000000 in
set_option maxRecDepth 100000 in
theorem m_in {D : va_G} {ad : Nat → Nat} {cA : Nat → ClassId} {X : XT} {v a b : Int} (hv : inR v) (ha : inR a) (hb : inR b) : MetX (wM D ad cA) yX12_in cX12_in 3 (some .boolean) 0 0 [.int (iI (v)), .int (iI (a)), .int (iI (b))] X (fun r X' => X' = X ∧ ∃ u : Int, r = some (.int (iI u)) ∧ ((u = 1 ∧ a ≤ v ∧ v ≤ b) ∨ (u = 0 ∧ ¬ (a ≤ v ∧ v ≤ b)))) := by
  unfold inR at hv ha hb
  refine MetX.mk (own := RX12) (by decide +kernel) rfl (nle rfl) (fun E C hQ => ?_)
  refine Wx_lv (lv' := [(0, .int (iI (v))), (1, .int (iI (a))), (2, .int (iI (b)))]) rfl ?_
  refine x_iload_n (i := 0) C dX12_in_0 rfl rfl ?_
  refine x_iload_n (i := 1) C dX12_in_1 rfl rfl ?_
  refine x_icmp_lt (tgt := 14) C dX12_in_2 (by decide) ⟨by omega, by omega⟩ ⟨by omega, by omega⟩ (fun h1 => ?_) (fun h1 => ?_)
  · refine x_iconst C dX12_in_14 ?_
    exact x_zret C hQ (by omega) dX12_in_15 (⟨rfl, _, rfl, by omega⟩)
  · refine x_iload_n (i := 0) C dX12_in_5 rfl rfl ?_
    refine x_iload_n (i := 2) C dX12_in_6 rfl rfl ?_
    refine x_icmp_gt (tgt := 14) C dX12_in_7 (by decide) ⟨by omega, by omega⟩ ⟨by omega, by omega⟩ (fun h2 => ?_) (fun h2 => ?_)
    · refine x_iconst C dX12_in_14 ?_
      exact x_zret C hQ (by omega) dX12_in_15 (⟨rfl, _, rfl, by omega⟩)
    · refine x_iconst C dX12_in_10 ?_
      refine x_goto (tgt := 15) C dX12_in_11 (by decide) ?_
      exact x_zret C hQ (by omega) dX12_in_15 (⟨rfl, _, rfl, by omega⟩)
set_option maxHeartbeats 4000000 in
set_option maxRecDepth 100000 in
theorem m_is {D : va_G} {ad : Nat → Nat} {cA : Nat → ClassId} {X : XT} (hr : X.2.2 = rM) {s k mv : Int} (hs0 : 0 ≤ s) (hs1 : s ≤ 2) (hm : X.1 5 s.toNat = mv) (hmv : 0 ≤ mv ∧ mv ≤ 3) (hk : inR k) : MetX (wM D ad cA) yX12_is cX12_is 3 (some .boolean) 1 22 [.ref 0, .int (iI (s)), .int (iI (k))] X (fun r X' => X' = X ∧ ∃ u : Int, r = some (.int (iI u)) ∧ ((u = 1 ∧ 0 ≤ k ∧ k < mv) ∨ (u = 0 ∧ ¬ (0 ≤ k ∧ k < mv)))) := by
  unfold inR at hk
  refine MetX.mk (own := RX12) (by decide +kernel) rfl (nle rfl) (fun E C hQ => ?_)
  refine Wx_lv (lv' := [(0, .ref 0), (1, .int (iI (s))), (2, .int (iI (k)))]) rfl ?_
  refine x_iload_n (i := 2) C dX12_is_0 rfl rfl ?_
  refine x_iconst C dX12_is_1 ?_
  refine x_aload_n (i := 0) C dX12_is_2 rfl rfl ?_
  refine x_getRs (r := 5) C fkM_X12_23 (nlt rfl) rfl (congrFun (congrFun hr 0) 5) dX12_is_3 ?_
  refine x_iload_n (i := 1) C dX12_is_6 rfl rfl ?_
  refine x_iald C (nlt rfl) rfl rfl (nle rfl) (by omega) (by omega) dX12_is_7 ?_
  refine x_gen (fun v1 ev1 => ?_)
  rw [hm] at ev1
  refine x_iconst C dX12_is_8 ?_
  refine x_isub C dX12_is_9 ?_
  refine x_callS (As := [.int (iI (k)), .int (iI (0)), .int (iI (v1 - 1))]) C (by exact (m_in (v := k) (a := 0) (b := v1 - 1) ⟨by omega, by omega⟩ ⟨by omega, by omega⟩ ⟨by omega, by omega⟩)) ckX12_165 sm_X12_in rfl rfl (nle rfl) (by exact ⟨nle rfl, nle rfl⟩) dX12_is_10 ?_
  rintro _ _ ⟨rfl, u2, rfl, h3⟩
  refine Wx_st (st' := [.int (iI (u2))]) rfl ?_
  exact x_zret C hQ (by omega) dX12_is_13 (⟨rfl, _, rfl, by omega⟩)
theorem m_is0 {D : va_G} {ad : Nat → Nat} {cA : Nat → ClassId} {X : XT} (hr : X.2.2 = rM) {s k : Int} (hs0 : 0 ≤ s) (hs1 : s ≤ 2) (hm : X.1 5 s.toNat = 0) (hk : inR k) : MetX (wM D ad cA) yX12_is cX12_is 3 (some .boolean) 1 22 [.ref 0, .int (iI (s)), .int (iI (k))] X (fun r X' => X' = X ∧ r = some (.int (iI 0))) :=
  MetX.imp (fun r X' h => by
    obtain ⟨h1, u, h2, h3⟩ := h
    have h4 : u = 0 := by omega
    subst h4
    exact ⟨h1, h2⟩) (m_is hr hs0 hs1 hm ⟨by decide, by decide⟩ hk)
set_option maxHeartbeats 4000000 in
set_option maxRecDepth 100000 in
theorem m_four {D : va_G} {ad : Nat → Nat} {cA : Nat → ClassId} {X : XT} (hr : X.2.2 = rM) {v n : Int} (hv : inR v) (hm : X.1 2 0 = n) (hn0 : 0 ≤ n) (hn : n ≤ 600) : MetX (wM D ad cA) yX12_four cX12_four 3 none 0 0 [.ref 0, .int (iI (v))] X (fun r X' => r = none ∧ X'.2.2 = rM ∧ X'.1 2 0 = n + 4) := by
  refine MetX.mk (own := RX12) (by decide +kernel) rfl (nle rfl) (fun E C hQ => ?_)
  refine Wx_lv (lv' := [(0, .ref 0), (1, .int (iI (v)))]) rfl ?_
  refine x_bipush C dX12_four_0 (by decide) ?_
  refine x_istore_n (i := 2) (lv' := [(2, .int (iI (24))), (0, .ref 0), (1, .int (iI (v)))]) C dX12_four_2 rfl (nlt rfl) rfl ?_
  refine x_iload_n (i := 2) C dX12_four_3 rfl rfl ?_
  refine x_if_lt (tgt := 38) C dX12_four_4 (by decide) ⟨by omega, by omega⟩ (fun h1 => by exfalso; omega) (fun h1 => ?_)
  refine x_aload_n (i := 0) C dX12_four_7 rfl rfl ?_
  refine x_getRs (r := 1) C fkM_X12_7 (nlt rfl) rfl (congrFun (congrFun hr 0) 1) dX12_four_8 ?_
  refine x_aload_n (i := 0) C dX12_four_11 rfl rfl ?_
  refine x_getRs (r := 2) C fkM_X12_13 (nlt rfl) rfl (congrFun (congrFun hr 0) 2) dX12_four_12 ?_
  refine x_iconst C dX12_four_15 ?_
  refine x_iald C (nlt rfl) rfl rfl (nle rfl) (by omega) (by omega) dX12_four_16 ?_
  refine x_eq (b := n) hm ?_
  refine x_iload_n (i := 1) C dX12_four_17 rfl rfl ?_
  refine x_iload_n (i := 2) C dX12_four_18 rfl rfl ?_
  refine x_ishr C dX12_four_19 ?_
  refine x_topi (fun v2 rv2 ev2 => ?_)
  unfold inR at rv2
  refine x_i2b C dX12_four_20 ?_
  refine x_topi (fun v3 rv3 ev3 => ?_)
  unfold inR at rv3
  have bv3 := i2b_bd rv3 ev3
  refine x_bast C (nlt rfl) rfl rfl (nle rfl) (by omega) (by omega) ⟨by omega, by omega⟩ dX12_four_21 ?_
  refine x_aload_n (i := 0) C dX12_four_22 rfl rfl ?_
  refine x_getRs (r := 2) C fkM_X12_13 (nlt rfl) rfl (congrFun (congrFun hr 0) 2) dX12_four_23 ?_
  refine x_iconst C dX12_four_26 ?_
  refine x_dup2_11 C dX12_four_27 rfl rfl ?_
  refine x_iald C (nlt rfl) rfl rfl (nle rfl) (by omega) (by omega) dX12_four_28 ?_
  refine x_eq (b := n) hm ?_
  refine x_iconst C dX12_four_29 ?_
  refine x_iadd C dX12_four_30 ?_
  refine x_iast C (nlt rfl) rfl rfl (nle rfl) (by omega) (by omega) dX12_four_31 ?_
  refine x_iinc (lv' := [(2, .int (iI (24 + (-8)))), (0, .ref 0), (1, .int (iI (v)))]) C dX12_four_32 rfl (nlt rfl) rfl ?_
  refine Wx_lv (lv' := [(2, .int (iI (16))), (0, .ref 0), (1, .int (iI (v)))]) rfl ?_
  refine x_goto (tgt := 3) C dX12_four_35 (by decide) ?_
  refine x_iload_n (i := 2) C dX12_four_3 rfl rfl ?_
  refine x_if_lt (tgt := 38) C dX12_four_4 (by decide) ⟨by omega, by omega⟩ (fun h4 => by exfalso; omega) (fun h4 => ?_)
  refine x_aload_n (i := 0) C dX12_four_7 rfl rfl ?_
  refine x_getRs (r := 1) C fkM_X12_7 (nlt rfl) rfl (congrFun (congrFun hr 0) 1) dX12_four_8 ?_
  refine x_aload_n (i := 0) C dX12_four_11 rfl rfl ?_
  refine x_getRs (r := 2) C fkM_X12_13 (nlt rfl) rfl (congrFun (congrFun hr 0) 2) dX12_four_12 ?_
  refine x_iconst C dX12_four_15 ?_
  refine x_iald C (nlt rfl) rfl rfl (nle rfl) (by omega) (by omega) dX12_four_16 ?_
  refine x_eq (b := n + 1) rfl ?_
  refine x_iload_n (i := 1) C dX12_four_17 rfl rfl ?_
  refine x_iload_n (i := 2) C dX12_four_18 rfl rfl ?_
  refine x_ishr C dX12_four_19 ?_
  refine x_topi (fun v5 rv5 ev5 => ?_)
  unfold inR at rv5
  refine x_i2b C dX12_four_20 ?_
  refine x_topi (fun v6 rv6 ev6 => ?_)
  unfold inR at rv6
  have bv6 := i2b_bd rv6 ev6
  refine x_bast C (nlt rfl) rfl rfl (nle rfl) (by omega) (by omega) ⟨by omega, by omega⟩ dX12_four_21 ?_
  refine x_aload_n (i := 0) C dX12_four_22 rfl rfl ?_
  refine x_getRs (r := 2) C fkM_X12_13 (nlt rfl) rfl (congrFun (congrFun hr 0) 2) dX12_four_23 ?_
  refine x_iconst C dX12_four_26 ?_
  refine x_dup2_11 C dX12_four_27 rfl rfl ?_
  refine x_iald C (nlt rfl) rfl rfl (nle rfl) (by omega) (by omega) dX12_four_28 ?_
  refine x_eq (b := n + 1) rfl ?_
  refine x_iconst C dX12_four_29 ?_
  refine x_iadd C dX12_four_30 ?_
  refine x_iast C (nlt rfl) rfl rfl (nle rfl) (by omega) (by omega) dX12_four_31 ?_
  refine x_iinc (lv' := [(2, .int (iI (16 + (-8)))), (0, .ref 0), (1, .int (iI (v)))]) C dX12_four_32 rfl (nlt rfl) rfl ?_
  refine Wx_lv (lv' := [(2, .int (iI (8))), (0, .ref 0), (1, .int (iI (v)))]) rfl ?_
  refine x_goto (tgt := 3) C dX12_four_35 (by decide) ?_
  refine x_iload_n (i := 2) C dX12_four_3 rfl rfl ?_
  refine x_if_lt (tgt := 38) C dX12_four_4 (by decide) ⟨by omega, by omega⟩ (fun h7 => by exfalso; omega) (fun h7 => ?_)
  refine x_aload_n (i := 0) C dX12_four_7 rfl rfl ?_
  refine x_getRs (r := 1) C fkM_X12_7 (nlt rfl) rfl (congrFun (congrFun hr 0) 1) dX12_four_8 ?_
  refine x_aload_n (i := 0) C dX12_four_11 rfl rfl ?_
  refine x_getRs (r := 2) C fkM_X12_13 (nlt rfl) rfl (congrFun (congrFun hr 0) 2) dX12_four_12 ?_
  refine x_iconst C dX12_four_15 ?_
  refine x_iald C (nlt rfl) rfl rfl (nle rfl) (by omega) (by omega) dX12_four_16 ?_
  refine x_eq (b := (n + 1) + 1) rfl ?_
  refine x_iload_n (i := 1) C dX12_four_17 rfl rfl ?_
  refine x_iload_n (i := 2) C dX12_four_18 rfl rfl ?_
  refine x_ishr C dX12_four_19 ?_
  refine x_topi (fun v8 rv8 ev8 => ?_)
  unfold inR at rv8
  refine x_i2b C dX12_four_20 ?_
  refine x_topi (fun v9 rv9 ev9 => ?_)
  unfold inR at rv9
  have bv9 := i2b_bd rv9 ev9
  refine x_bast C (nlt rfl) rfl rfl (nle rfl) (by omega) (by omega) ⟨by omega, by omega⟩ dX12_four_21 ?_
  refine x_aload_n (i := 0) C dX12_four_22 rfl rfl ?_
  refine x_getRs (r := 2) C fkM_X12_13 (nlt rfl) rfl (congrFun (congrFun hr 0) 2) dX12_four_23 ?_
  refine x_iconst C dX12_four_26 ?_
  refine x_dup2_11 C dX12_four_27 rfl rfl ?_
  refine x_iald C (nlt rfl) rfl rfl (nle rfl) (by omega) (by omega) dX12_four_28 ?_
  refine x_eq (b := (n + 1) + 1) rfl ?_
  refine x_iconst C dX12_four_29 ?_
  refine x_iadd C dX12_four_30 ?_
  refine x_iast C (nlt rfl) rfl rfl (nle rfl) (by omega) (by omega) dX12_four_31 ?_
  refine x_iinc (lv' := [(2, .int (iI (8 + (-8)))), (0, .ref 0), (1, .int (iI (v)))]) C dX12_four_32 rfl (nlt rfl) rfl ?_
  refine Wx_lv (lv' := [(2, .int (iI (0))), (0, .ref 0), (1, .int (iI (v)))]) rfl ?_
  refine x_goto (tgt := 3) C dX12_four_35 (by decide) ?_
  refine x_iload_n (i := 2) C dX12_four_3 rfl rfl ?_
  refine x_if_lt (tgt := 38) C dX12_four_4 (by decide) ⟨by omega, by omega⟩ (fun h10 => by exfalso; omega) (fun h10 => ?_)
  refine x_aload_n (i := 0) C dX12_four_7 rfl rfl ?_
  refine x_getRs (r := 1) C fkM_X12_7 (nlt rfl) rfl (congrFun (congrFun hr 0) 1) dX12_four_8 ?_
  refine x_aload_n (i := 0) C dX12_four_11 rfl rfl ?_
  refine x_getRs (r := 2) C fkM_X12_13 (nlt rfl) rfl (congrFun (congrFun hr 0) 2) dX12_four_12 ?_
  refine x_iconst C dX12_four_15 ?_
  refine x_iald C (nlt rfl) rfl rfl (nle rfl) (by omega) (by omega) dX12_four_16 ?_
  refine x_eq (b := ((n + 1) + 1) + 1) rfl ?_
  refine x_iload_n (i := 1) C dX12_four_17 rfl rfl ?_
  refine x_iload_n (i := 2) C dX12_four_18 rfl rfl ?_
  refine x_ishr C dX12_four_19 ?_
  refine x_topi (fun v11 rv11 ev11 => ?_)
  unfold inR at rv11
  refine x_i2b C dX12_four_20 ?_
  refine x_topi (fun v12 rv12 ev12 => ?_)
  unfold inR at rv12
  have bv12 := i2b_bd rv12 ev12
  refine x_bast C (nlt rfl) rfl rfl (nle rfl) (by omega) (by omega) ⟨by omega, by omega⟩ dX12_four_21 ?_
  refine x_aload_n (i := 0) C dX12_four_22 rfl rfl ?_
  refine x_getRs (r := 2) C fkM_X12_13 (nlt rfl) rfl (congrFun (congrFun hr 0) 2) dX12_four_23 ?_
  refine x_iconst C dX12_four_26 ?_
  refine x_dup2_11 C dX12_four_27 rfl rfl ?_
  refine x_iald C (nlt rfl) rfl rfl (nle rfl) (by omega) (by omega) dX12_four_28 ?_
  refine x_eq (b := ((n + 1) + 1) + 1) rfl ?_
  refine x_iconst C dX12_four_29 ?_
  refine x_iadd C dX12_four_30 ?_
  refine x_iast C (nlt rfl) rfl rfl (nle rfl) (by omega) (by omega) dX12_four_31 ?_
  refine x_iinc (lv' := [(2, .int (iI (0 + (-8)))), (0, .ref 0), (1, .int (iI (v)))]) C dX12_four_32 rfl (nlt rfl) rfl ?_
  refine Wx_lv (lv' := [(2, .int (iI ((-8)))), (0, .ref 0), (1, .int (iI (v)))]) rfl ?_
  refine x_goto (tgt := 3) C dX12_four_35 (by decide) ?_
  refine x_iload_n (i := 2) C dX12_four_3 rfl rfl ?_
  refine x_if_lt (tgt := 38) C dX12_four_4 (by decide) ⟨by omega, by omega⟩ (fun h13 => ?_) (fun h13 => by exfalso; omega)
  exact x_vret C hQ dX12_four_38 (⟨rfl, hr, by show (((n + 1) + 1) + 1) + 1 = n + 4; omega⟩)
set_option maxHeartbeats 4000000 in
set_option maxRecDepth 100000 in
theorem m_feed {D : va_G} {ad : Nat → Nat} {cA : Nat → ClassId} {a b c d e : Int} (ha : inR a) (hb : inR b) (hc : inR c) (hd : inR d) (he : inR e) : MetX (wM D ad cA) yX12_feed cX12_feed 6 (some .int) 1 22 [.ref 0, .int (iI (a)), .int (iI (b)), .int (iI (c)), .int (iI (d)), .int (iI (e))] x0M (fun r _ => r = some (.int (iI (20)))) := by
  have hr : (x0M).2.2 = rM := rfl
  unfold inR at ha hb hc hd he
  refine MetX.mk (own := RX12) (by decide +kernel) rfl (nle rfl) (fun E C hQ => ?_)
  refine Wx_lv (lv' := [(0, .ref 0), (1, .int (iI (a))), (2, .int (iI (b))), (3, .int (iI (c))), (4, .int (iI (d))), (5, .int (iI (e)))]) rfl ?_
  refine x_aload_n (i := 0) C dX12_feed_0 rfl rfl ?_
  refine x_iconst C dX12_feed_1 ?_
  refine x_putI C pkM_X12_157 (nlt rfl) rfl dX12_feed_2 ?_
  refine x_aload_n (i := 0) C dX12_feed_5 rfl rfl ?_
  refine x_getRs (r := 2) C fkM_X12_13 (nlt rfl) rfl (congrFun (congrFun hr 0) 2) dX12_feed_6 ?_
  refine x_iconst C dX12_feed_9 ?_
  refine x_iald C (nlt rfl) rfl rfl (nle rfl) (by omega) (by omega) dX12_feed_10 ?_
  refine x_eq (b := 0) rfl ?_
  refine x_bipush C dX12_feed_11 (by decide) ?_
  refine x_iadd C dX12_feed_13 ?_
  refine x_eq (b := 20) rfl ?_
  refine x_sipush C dX12_feed_14 (by decide) ?_
  refine x_icmp_le (tgt := 22) C dX12_feed_17 (by decide) ⟨by omega, by omega⟩ ⟨by omega, by omega⟩ (fun h1 => ?_) (fun h1 => by exfalso; omega)
  refine x_aload_n (i := 0) C dX12_feed_22 rfl rfl ?_
  refine x_iload_n (i := 1) C dX12_feed_23 rfl rfl ?_
  refine x_callV (As := [.int (iI (a))]) C (by exact (m_four (v := a) (n := 0) (by exact hr) ⟨by omega, by omega⟩ rfl (by omega) (by omega))) ckX12_169 im_X12_four se_X12_four (nlt rfl) rfl rfl rfl rfl (nle rfl) (by exact ⟨nle rfl, nle rfl⟩) dX12_feed_24 ?_
  rintro _ Xh2 ⟨rfl, hr, h2⟩
  refine Wx_st (st' := []) rfl ?_
  refine x_aload_n (i := 0) C dX12_feed_27 rfl rfl ?_
  refine x_iload_n (i := 2) C dX12_feed_28 rfl rfl ?_
  refine x_callV (As := [.int (iI (b))]) C (by exact (m_four (v := b) (n := 4) (by exact hr) ⟨by omega, by omega⟩ h2 (by omega) (by omega))) ckX12_169 im_X12_four se_X12_four (nlt rfl) rfl rfl rfl rfl (nle rfl) (by exact ⟨nle rfl, nle rfl⟩) dX12_feed_29 ?_
  rintro _ Xh3 ⟨rfl, hr, h3⟩
  refine Wx_st (st' := []) rfl ?_
  refine x_aload_n (i := 0) C dX12_feed_32 rfl rfl ?_
  refine x_iload_n (i := 3) C dX12_feed_33 rfl rfl ?_
  refine x_callV (As := [.int (iI (c))]) C (by exact (m_four (v := c) (n := 8) (by exact hr) ⟨by omega, by omega⟩ h3 (by omega) (by omega))) ckX12_169 im_X12_four se_X12_four (nlt rfl) rfl rfl rfl rfl (nle rfl) (by exact ⟨nle rfl, nle rfl⟩) dX12_feed_34 ?_
  rintro _ Xh4 ⟨rfl, hr, h4⟩
  refine Wx_st (st' := []) rfl ?_
  refine x_aload_n (i := 0) C dX12_feed_37 rfl rfl ?_
  refine x_iload C dX12_feed_38 rfl ?_
  refine x_callV (As := [.int (iI (d))]) C (by exact (m_four (v := d) (n := 12) (by exact hr) ⟨by omega, by omega⟩ h4 (by omega) (by omega))) ckX12_169 im_X12_four se_X12_four (nlt rfl) rfl rfl rfl rfl (nle rfl) (by exact ⟨nle rfl, nle rfl⟩) dX12_feed_40 ?_
  rintro _ Xh5 ⟨rfl, hr, h5⟩
  refine Wx_st (st' := []) rfl ?_
  refine x_aload_n (i := 0) C dX12_feed_43 rfl rfl ?_
  refine x_iload C dX12_feed_44 rfl ?_
  refine x_callV (As := [.int (iI (e))]) C (by exact (m_four (v := e) (n := 16) (by exact hr) ⟨by omega, by omega⟩ h5 (by omega) (by omega))) ckX12_169 im_X12_four se_X12_four (nlt rfl) rfl rfl rfl rfl (nle rfl) (by exact ⟨nle rfl, nle rfl⟩) dX12_feed_46 ?_
  rintro _ Xh6 ⟨rfl, hr, h6⟩
  refine Wx_st (st' := []) rfl ?_
  refine x_aload_n (i := 0) C dX12_feed_49 rfl rfl ?_
  refine x_getRs (r := 2) C fkM_X12_13 (nlt rfl) rfl (congrFun (congrFun hr 0) 2) dX12_feed_50 ?_
  refine x_iconst C dX12_feed_53 ?_
  refine x_iald C (nlt rfl) rfl rfl (nle rfl) (by omega) (by omega) dX12_feed_54 ?_
  refine x_eq (b := 20) h6 ?_
  exact x_iret C hQ dX12_feed_55 (congrArg (fun z : Int => some (Value.int (iI z))) (by omega))
set_option maxHeartbeats 4000000 in
set_option maxRecDepth 100000 in
theorem m_end {D : va_G} {ad : Nat → Nat} {cA : Nat → ClassId} {n : Int} (hn : inR n) : MetX (wM D ad cA) yX12_end cX12_end 2 (some .int) 1 22 [.ref 0, .int (iI (n))] x0M (fun r _ => r = some (.int (iI (if n = 0 then 0 else -1)))) := by
  have hr : (x0M).2.2 = rM := rfl
  unfold inR at hn
  refine MetX.mk (own := RX12) (by decide +kernel) rfl (nle rfl) (fun E C hQ => ?_)
  refine Wx_lv (lv' := [(0, .ref 0), (1, .int (iI (n)))]) rfl ?_
  refine x_aload_n (i := 0) C dX12_end_0 rfl rfl ?_
  refine x_iconst C dX12_end_1 ?_
  refine x_putI C pkM_X12_157 (nlt rfl) rfl dX12_end_2 ?_
  refine x_iload_n (i := 1) C dX12_end_5 rfl rfl ?_
  refine x_iconst C dX12_end_6 ?_
  refine x_aload_n (i := 0) C dX12_end_7 rfl rfl ?_
  refine x_getRs (r := 2) C fkM_X12_13 (nlt rfl) rfl (congrFun (congrFun hr 0) 2) dX12_end_8 ?_
  refine x_iconst C dX12_end_11 ?_
  refine x_iald C (nlt rfl) rfl rfl (nle rfl) (by omega) (by omega) dX12_end_12 ?_
  refine x_eq (b := 0) rfl ?_
  refine x_callS (As := [.int (iI (n)), .int (iI (0)), .int (iI (0))]) C (by exact (m_in (v := n) (a := 0) (b := 0) ⟨by omega, by omega⟩ ⟨by omega, by omega⟩ ⟨by omega, by omega⟩)) ckX12_165 sm_X12_in rfl rfl (nle rfl) (by exact ⟨nle rfl, nle rfl⟩) dX12_end_13 ?_
  rintro _ _ ⟨rfl, u1, rfl, h2⟩
  refine Wx_st (st' := [.int (iI (u1))]) rfl ?_
  refine x_if_ne (tgt := 21) C dX12_end_16 (by decide) ⟨by omega, by omega⟩ (fun h3 => ?_) (fun h3 => ?_)
  · refine x_aload_n (i := 0) C dX12_end_21 rfl rfl ?_
    refine x_getRs (r := 2) C fkM_X12_13 (nlt rfl) rfl (congrFun (congrFun hr 0) 2) dX12_end_22 ?_
    refine x_iconst C dX12_end_25 ?_
    refine x_iload_n (i := 1) C dX12_end_26 rfl rfl ?_
    refine x_iast C (nlt rfl) rfl rfl (nle rfl) (by omega) (by omega) dX12_end_27 ?_
    refine x_iload_n (i := 1) C dX12_end_28 rfl rfl ?_
    exact x_iret C hQ dX12_end_29 (congrArg (fun z : Int => some (Value.int (iI z))) (by first | rfl | omega | (split <;> omega) | (repeat (first | omega | split))))
  · refine x_iconst C dX12_end_19 ?_
    exact x_iret C hQ dX12_end_20 (congrArg (fun z : Int => some (Value.int (iI z))) (by first | rfl | omega | (split <;> omega) | (repeat (first | omega | split))))
set_option maxHeartbeats 4000000 in
set_option maxRecDepth 100000 in
theorem m_fault {D : va_G} {ad : Nat → Nat} {cA : Nat → ClassId} {q : Int} (hq : inR q) : MetX (wM D ad cA) yX12_fault cX12_fault 2 (some .int) 0 0 [.ref 0, .int (iI (q))] x0M (fun r _ => r = some (.int (iI (if q = 1 then -1 else if q = 0 then 0 else -1)))) := by
  have hr : (x0M).2.2 = rM := rfl
  unfold inR at hq
  refine MetX.mk (own := RX12) (by decide +kernel) rfl (nle rfl) (fun E C hQ => ?_)
  refine Wx_lv (lv' := [(0, .ref 0), (1, .int (iI (q)))]) rfl ?_
  refine x_aload_n (i := 0) C dX12_fault_0 rfl rfl ?_
  refine x_iconst C dX12_fault_1 ?_
  refine x_putI C pkM_X12_157 (nlt rfl) rfl dX12_fault_2 ?_
  refine x_iload_n (i := 1) C dX12_fault_5 rfl rfl ?_
  refine x_if_ne (tgt := 18) C dX12_fault_6 (by decide) ⟨by omega, by omega⟩ (fun h1 => ?_) (fun h1 => ?_)
  · refine x_iload_n (i := 1) C dX12_fault_18 rfl rfl ?_
    refine x_iconst C dX12_fault_19 ?_
    refine x_icmp_ne (tgt := 32) C dX12_fault_20 (by decide) ⟨by omega, by omega⟩ ⟨by omega, by omega⟩ (fun h2 => ?_) (fun h2 => ?_)
    · refine x_iconst C dX12_fault_32 ?_
      exact x_iret C hQ dX12_fault_33 (congrArg (fun z : Int => some (Value.int (iI z))) (by first | rfl | omega | (split <;> omega) | (repeat (first | omega | split))))
    · refine x_aload_n (i := 0) C dX12_fault_23 rfl rfl ?_
      refine x_getRs (r := 4) C fkM_X12_20 (nlt rfl) rfl (congrFun (congrFun hr 0) 4) dX12_fault_24 ?_
      refine x_iconst C dX12_fault_27 ?_
      refine x_iald C (nlt rfl) rfl rfl (nle rfl) (by omega) (by omega) dX12_fault_28 ?_
      refine x_eq (b := (-1)) rfl ?_
      refine x_goto (tgt := 33) C dX12_fault_29 (by decide) ?_
      exact x_iret C hQ dX12_fault_33 (congrArg (fun z : Int => some (Value.int (iI z))) (by first | rfl | omega | (split <;> omega) | (repeat (first | omega | split))))
  · refine x_aload_n (i := 0) C dX12_fault_9 rfl rfl ?_
    refine x_getRs (r := 3) C fkM_X12_17 (nlt rfl) rfl (congrFun (congrFun hr 0) 3) dX12_fault_10 ?_
    refine x_iconst C dX12_fault_13 ?_
    refine x_iald C (nlt rfl) rfl rfl (nle rfl) (by omega) (by omega) dX12_fault_14 ?_
    refine x_eq (b := 0) rfl ?_
    refine x_goto (tgt := 33) C dX12_fault_15 (by decide) ?_
    exact x_iret C hQ dX12_fault_33 (congrArg (fun z : Int => some (Value.int (iI z))) (by first | rfl | omega | (split <;> omega) | (repeat (first | omega | split))))
set_option maxHeartbeats 4000000 in
set_option maxRecDepth 100000 in
theorem m_count {D : va_G} {ad : Nat → Nat} {cA : Nat → ClassId} {q : Int} (hq : inR q) : MetX (wM D ad cA) yX12_count cX12_count 2 (some .int) 1 22 [.ref 0, .int (iI (q))] x0M (fun r _ => r = some (.int (iI (if 0 ≤ q ∧ q ≤ 2 then 0 else -2)))) := by
  have hr : (x0M).2.2 = rM := rfl
  unfold inR at hq
  refine MetX.mk (own := RX12) (by decide +kernel) rfl (nle rfl) (fun E C hQ => ?_)
  refine Wx_lv (lv' := [(0, .ref 0), (1, .int (iI (q)))]) rfl ?_
  refine x_aload_n (i := 0) C dX12_count_0 rfl rfl ?_
  refine x_iconst C dX12_count_1 ?_
  refine x_putI C pkM_X12_157 (nlt rfl) rfl dX12_count_2 ?_
  refine x_iload_n (i := 1) C dX12_count_5 rfl rfl ?_
  refine x_iconst C dX12_count_6 ?_
  refine x_iconst C dX12_count_7 ?_
  refine x_callS (As := [.int (iI (q)), .int (iI (0)), .int (iI (2))]) C (by exact (m_in (v := q) (a := 0) (b := 2) ⟨by omega, by omega⟩ ⟨by omega, by omega⟩ ⟨by omega, by omega⟩)) ckX12_165 sm_X12_in rfl rfl (nle rfl) (by exact ⟨nle rfl, nle rfl⟩) dX12_count_8 ?_
  rintro _ _ ⟨rfl, u1, rfl, h2⟩
  refine Wx_st (st' := [.int (iI (u1))]) rfl ?_
  refine x_if_eq (tgt := 23) C dX12_count_11 (by decide) ⟨by omega, by omega⟩ (fun h3 => ?_) (fun h3 => ?_)
  · refine x_bipush C dX12_count_23 (by decide) ?_
    exact x_iret C hQ dX12_count_25 (congrArg (fun z : Int => some (Value.int (iI z))) (by first | rfl | omega | (split <;> omega) | (repeat (first | omega | split))))
  · refine x_aload_n (i := 0) C dX12_count_14 rfl rfl ?_
    refine x_getRs (r := 5) C fkM_X12_23 (nlt rfl) rfl (congrFun (congrFun hr 0) 5) dX12_count_15 ?_
    refine x_iload_n (i := 1) C dX12_count_18 rfl rfl ?_
    refine x_iald C (nlt rfl) rfl rfl (nle rfl) (by omega) (by omega) dX12_count_19 ?_
    refine x_eq (b := 0) rfl ?_
    refine x_goto (tgt := 25) C dX12_count_20 (by decide) ?_
    exact x_iret C hQ dX12_count_25 (congrArg (fun z : Int => some (Value.int (iI z))) (by first | rfl | omega | (split <;> omega) | (repeat (first | omega | split))))
set_option maxHeartbeats 4000000 in
set_option maxRecDepth 100000 in
theorem m_see0 {D : va_G} {ad : Nat → Nat} {cA : Nat → ClassId} {X : XT} (hr : X.2.2 = rM) (hq : X.1 0 9 = 0) (hl : X.1 0 10 = 0) : MetX (wM D ad cA) yX12_see cX12_see 1 (some .int) 0 0 [.ref 0] X (fun r X' => X' = X ∧ r = some (.int (iI (-1)))) := by
  refine MetX.mk (own := RX12) (by decide +kernel) rfl (nle rfl) (fun E C hQ => ?_)
  refine Wx_lv (lv' := [(0, .ref 0)]) rfl ?_
  refine x_aload_n (i := 0) C dX12_see_0 rfl rfl ?_
  refine x_getI C fkM_X12_173 (nlt rfl) rfl dX12_see_1 ?_
  refine x_eq (b := 0) hq ?_
  refine x_aload_n (i := 0) C dX12_see_4 rfl rfl ?_
  refine x_getI C fkM_X12_176 (nlt rfl) rfl dX12_see_5 ?_
  refine x_eq (b := 0) hl ?_
  refine x_icmp_ge (tgt := 27) C dX12_see_8 (by decide) ⟨by omega, by omega⟩ ⟨by omega, by omega⟩ (fun h1 => ?_) (fun h1 => by exfalso; omega)
  refine x_iconst C dX12_see_27 ?_
  exact x_iret C hQ dX12_see_28 (⟨rfl, rfl⟩)
set_option maxHeartbeats 4000000 in
set_option maxRecDepth 100000 in
theorem m_token0 {D : va_G} {ad : Nat → Nat} {cA : Nat → ClassId} {X : XT} (hr : X.2.2 = rM) (hq : X.1 0 9 = 0) (hl : X.1 0 10 = 0) : MetX (wM D ad cA) yX12_token cX12_token 3 none 1 22 [.ref 0] X (fun r X' => r = none ∧ X'.2.2 = rM ∧ (∀ k, Nat.beq k 0 = false → ∀ i, X'.1 k i = X.1 k i) ∧ X'.1 0 9 = 0 ∧ X'.1 0 10 = 0 ∧ X'.1 0 12 = 0 ∧ X'.1 0 11 = 0 ∧ X'.1 0 16 = X.1 0 16 ∧ X'.1 0 21 = X.1 0 21) := by
  refine MetX.mk (own := RX12) (by decide +kernel) rfl (nle rfl) (fun E C hQ => ?_)
  refine Wx_lv (lv' := [(0, .ref 0)]) rfl ?_
  refine x_aload_n (i := 0) C dX12_token_0 rfl rfl ?_
  refine x_callV (As := []) C (by exact (m_see0 (by exact hr) hq hl)) ckX12_179 im_X12_see se_X12_see (nlt rfl) rfl rfl rfl rfl (nle rfl) (by exact ⟨nle rfl, nle rfl⟩) dX12_token_1 ?_
  rintro _ _ ⟨rfl, rfl⟩
  refine Wx_st (st' := [.int (iI ((-1)))]) rfl ?_
  refine x_bipush C dX12_token_4 (by decide) ?_
  refine x_icmp_eq (tgt := 18) C dX12_token_6 (by decide) ⟨by omega, by omega⟩ ⟨by omega, by omega⟩ (fun h1 => by exfalso; omega) (fun h1 => ?_)
  refine x_aload_n (i := 0) C dX12_token_9 rfl rfl ?_
  refine x_callV (As := []) C (by exact (m_see0 (by exact hr) hq hl)) ckX12_179 im_X12_see se_X12_see (nlt rfl) rfl rfl rfl rfl (nle rfl) (by exact ⟨nle rfl, nle rfl⟩) dX12_token_10 ?_
  rintro _ _ ⟨rfl, rfl⟩
  refine Wx_st (st' := [.int (iI ((-1)))]) rfl ?_
  refine x_bipush C dX12_token_13 (by decide) ?_
  refine x_icmp_ne (tgt := 31) C dX12_token_15 (by decide) ⟨by omega, by omega⟩ ⟨by omega, by omega⟩ (fun h2 => ?_) (fun h2 => by exfalso; omega)
  refine x_aload_n (i := 0) C dX12_token_31 rfl rfl ?_
  refine x_aload_n (i := 0) C dX12_token_32 rfl rfl ?_
  refine x_getI C fkM_X12_173 (nlt rfl) rfl dX12_token_33 ?_
  refine x_eq (b := 0) hq ?_
  refine x_putI C pkM_X12_183 (nlt rfl) rfl dX12_token_36 ?_
  refine x_aload_n (i := 0) C dX12_token_39 rfl rfl ?_
  refine x_callV (As := []) C (by exact (m_see0 (by exact hr) hq hl)) ckX12_179 im_X12_see se_X12_see (nlt rfl) rfl rfl rfl rfl (nle rfl) (by exact ⟨nle rfl, nle rfl⟩) dX12_token_40 ?_
  rintro _ _ ⟨rfl, rfl⟩
  refine Wx_st (st' := [.int (iI ((-1)))]) rfl ?_
  refine x_istore_n (i := 1) (lv' := [(1, .int (iI ((-1)))), (0, .ref 0)]) C dX12_token_43 rfl (nlt rfl) rfl ?_
  refine x_aload_n (i := 0) C dX12_token_44 rfl rfl ?_
  refine x_lconst C dX12_token_45 ?_
  refine x_eqL (b := 0) rfl ?_
  refine x_putL C pkM_X12_186 (nlt rfl) rfl dX12_token_46 ?_
  refine x_iconst C dX12_token_49 ?_
  refine x_istore_n (i := 2) (lv' := [(2, .int (iI (0))), (1, .int (iI ((-1)))), (0, .ref 0)]) C dX12_token_50 rfl (nlt rfl) rfl ?_
  refine x_iload_n (i := 1) C dX12_token_51 rfl rfl ?_
  refine x_if_ge (tgt := 63) C dX12_token_52 (by decide) ⟨by omega, by omega⟩ (fun h3 => by exfalso; omega) (fun h3 => ?_)
  refine x_aload_n (i := 0) C dX12_token_55 rfl rfl ?_
  refine x_iconst C dX12_token_56 ?_
  refine x_putI C pkM_X12_190 (nlt rfl) rfl dX12_token_57 ?_
  refine x_goto (tgt := 266) C dX12_token_60 (by decide) ?_
  exact x_vret C hQ dX12_token_266 (⟨rfl, hr, fun k hk i => by simp only [upI, upL, hk]; rfl, hq, hl, rfl, rfl, rfl, rfl⟩)
set_option maxHeartbeats 4000000 in
set_option maxRecDepth 100000 in
theorem m_stops {D : va_G} {ad : Nat → Nat} {cA : Nat → ClassId} {X : XT} (hr : X.2.2 = rM) : MetX (wM D ad cA) yX12_stops cX12_stops 1 (some .boolean) 0 0 [.ref 0] X (fun r X' => r = some (.int (iI 0)) ∧ X' = upI X 0 15 (X.1 0 11)) := by
  refine MetX.mk (own := RX12) (by decide +kernel) rfl (nle rfl) (fun E C hQ => ?_)
  refine Wx_lv (lv' := [(0, .ref 0)]) rfl ?_
  refine x_aload_n (i := 0) C dX12_stops_0 rfl rfl ?_
  refine x_aload_n (i := 0) C dX12_stops_1 rfl rfl ?_
  refine x_getI C fkM_X12_183 (nlt rfl) rfl dX12_stops_2 ?_
  refine x_gen (fun v1 ev1 => ?_)
  refine x_putI C pkM_X12_196 (nlt rfl) rfl dX12_stops_5 ?_
  refine x_iconst C dX12_stops_8 ?_
  exact x_zret C hQ (by omega) dX12_stops_9 (⟨rfl, by rw [ev1]⟩)
set_option maxHeartbeats 4000000 in
set_option maxRecDepth 100000 in
theorem m_takeRule0 {D : va_G} {ad : Nat → Nat} {cA : Nat → ClassId} {X : XT} (hr : X.2.2 = rM) (hs : X.1 0 12 = 0) (hq : X.1 0 9 = 0) (hb : X.1 0 11 = 0) : MetX (wM D ad cA) yX12_takeRule cX12_takeRule 5 (some .boolean) 2 44 [.ref 0] X (fun r X' => r = some (.int (iI 0)) ∧ X' = upI X 0 15 (X.1 0 11)) := by
  refine MetX.mk (own := RX12) (by decide +kernel) rfl (nle rfl) (fun E C hQ => ?_)
  refine Wx_lv (lv' := [(0, .ref 0)]) rfl ?_
  refine x_aload_n (i := 0) C dX12_takeRule_0 rfl rfl ?_
  refine x_getI C fkM_X12_173 (nlt rfl) rfl dX12_takeRule_1 ?_
  refine x_eq (b := 0) hq ?_
  refine x_aload_n (i := 0) C dX12_takeRule_4 rfl rfl ?_
  refine x_getI C fkM_X12_183 (nlt rfl) rfl dX12_takeRule_5 ?_
  refine x_eq (b := 0) hb ?_
  refine x_isub C dX12_takeRule_8 ?_
  refine x_eq (b := 0) rfl ?_
  refine x_istore_n (i := 1) (lv' := [(1, .int (iI (0))), (0, .ref 0)]) C dX12_takeRule_9 rfl (nlt rfl) rfl ?_
  refine x_aload_n (i := 0) C dX12_takeRule_10 rfl rfl ?_
  refine x_getI C fkM_X12_190 (nlt rfl) rfl dX12_takeRule_11 ?_
  refine x_eq (b := 0) hs ?_
  refine x_iconst C dX12_takeRule_14 ?_
  refine x_icmp_ne (tgt := 24) C dX12_takeRule_15 (by decide) ⟨by omega, by omega⟩ ⟨by omega, by omega⟩ (fun h1 => ?_) (fun h1 => by exfalso; omega)
  refine x_aload_n (i := 0) C dX12_takeRule_24 rfl rfl ?_
  refine x_callV (As := []) C (by exact (m_stops (by exact hr))) ckX12_205 im_X12_stops se_X12_stops (nlt rfl) rfl rfl rfl rfl (nle rfl) (by exact ⟨nle rfl, nle rfl⟩) dX12_takeRule_25 ?_
  rintro _ _ ⟨rfl, rfl⟩
  refine Wx_st (st' := [.int (iI (0))]) rfl ?_
  exact x_zret C hQ (by omega) dX12_takeRule_28 (⟨rfl, rfl⟩)
set_option maxHeartbeats 4000000 in
set_option maxRecDepth 100000 in
theorem m_ruleText0 {D : va_G} {ad : Nat → Nat} {cA : Nat → ClassId} {X : XT} (hr : X.2.2 = rM) (hs : X.1 0 12 = 0) (hq : X.1 0 9 = 0) (hb : X.1 0 11 = 0) : MetX (wM D ad cA) yX12_ruleText cX12_ruleText 2 (some .boolean) 3 68 [.ref 0] X (fun r X' => r = some (.int (iI 0)) ∧ X' = upI X 0 15 (X.1 0 11)) := by
  refine MetX.mk (own := RX12) (by decide +kernel) rfl (nle rfl) (fun E C hQ => ?_)
  refine Wx_lv (lv' := [(0, .ref 0)]) rfl ?_
  refine x_aload_n (i := 0) C dX12_ruleText_0 rfl rfl ?_
  refine x_callV (As := []) C (by exact (m_takeRule0 (by exact hr) hs hq hb)) ckX12_243 im_X12_takeRule se_X12_takeRule (nlt rfl) rfl rfl rfl rfl (nle rfl) (by exact ⟨nle rfl, nle rfl⟩) dX12_ruleText_1 ?_
  rintro _ _ ⟨rfl, rfl⟩
  refine Wx_st (st' := [.int (iI (0))]) rfl ?_
  refine x_if_ne (tgt := 9) C dX12_ruleText_4 (by decide) ⟨by omega, by omega⟩ (fun h1 => by exfalso; omega) (fun h1 => ?_)
  refine x_iconst C dX12_ruleText_7 ?_
  exact x_zret C hQ (by omega) dX12_ruleText_8 (⟨rfl, rfl⟩)
set_option maxHeartbeats 4000000 in
set_option maxRecDepth 100000 in
theorem m_lines0 {D : va_G} {ad : Nat → Nat} {cA : Nat → ClassId} {X : XT} (hr : X.2.2 = rM) {q : Int} (hs : X.1 0 12 = 0) : MetX (wM D ad cA) yX12_lines cX12_lines 6 (some .boolean) 5 111 [.ref 0, .int (iI (q))] X (fun r X' => r = some (.int (iI 1)) ∧ X' = X) := by
  refine MetX.mk (own := RX12) (by decide +kernel) rfl (nle rfl) (fun E C hQ => ?_)
  refine Wx_lv (lv' := [(0, .ref 0), (1, .int (iI (q)))]) rfl ?_
  refine x_iconst C dX12_lines_0 ?_
  refine x_istore_n (i := 2) (lv' := [(2, .int (iI (1))), (0, .ref 0), (1, .int (iI (q)))]) C dX12_lines_1 rfl (nlt rfl) rfl ?_
  refine x_iload_n (i := 2) C dX12_lines_2 rfl rfl ?_
  refine x_if_eq (tgt := 86) C dX12_lines_3 (by decide) ⟨by omega, by omega⟩ (fun h1 => by exfalso; omega) (fun h1 => ?_)
  refine x_aload_n (i := 0) C dX12_lines_6 rfl rfl ?_
  refine x_getI C fkM_X12_190 (nlt rfl) rfl dX12_lines_7 ?_
  refine x_eq (b := 0) hs ?_
  refine x_if_eq (tgt := 86) C dX12_lines_10 (by decide) ⟨by omega, by omega⟩ (fun h2 => ?_) (fun h2 => by exfalso; omega)
  refine x_iload_n (i := 2) C dX12_lines_86 rfl rfl ?_
  exact x_zret C hQ (by omega) dX12_lines_87 (⟨rfl, rfl⟩)
set_option maxHeartbeats 4000000 in
set_option maxRecDepth 100000 in
theorem m_isWrongBoard0 {D : va_G} {ad : Nat → Nat} {cA : Nat → ClassId} {X : XT} (hr : X.2.2 = rM) (hg : X.1 0 21 = -1) (t0 : X.1 9 0 = 4) (t1 : X.1 9 1 = 4) (t2 : X.1 9 2 = 0) : MetX (wM D ad cA) yX12_isWrongBoard cX12_isWrongBoard 4 (some .boolean) 0 0 [.ref 0] X (fun r X' => r = some (.int (iI 0)) ∧ X' = X) := by
  refine MetX.mk (own := RX12) (by decide +kernel) rfl (nle rfl) (fun E C hQ => ?_)
  refine Wx_lv (lv' := [(0, .ref 0)]) rfl ?_
  refine x_aload_n (i := 0) C dX12_isWrongBoard_0 rfl rfl ?_
  refine x_getI C fkM_X12_223 (nlt rfl) rfl dX12_isWrongBoard_1 ?_
  refine x_eq (b := (-1)) hg ?_
  refine x_aload_n (i := 0) C dX12_isWrongBoard_4 rfl rfl ?_
  refine x_getRs (r := 9) C fkM_X12_35 (nlt rfl) rfl (congrFun (congrFun hr 0) 18) dX12_isWrongBoard_5 ?_
  refine x_iconst C dX12_isWrongBoard_8 ?_
  refine x_iald C (nlt rfl) rfl rfl (nle rfl) (by omega) (by omega) dX12_isWrongBoard_9 ?_
  refine x_eq (b := 4) t0 ?_
  refine x_aload_n (i := 0) C dX12_isWrongBoard_10 rfl rfl ?_
  refine x_getRs (r := 9) C fkM_X12_35 (nlt rfl) rfl (congrFun (congrFun hr 0) 18) dX12_isWrongBoard_11 ?_
  refine x_iconst C dX12_isWrongBoard_14 ?_
  refine x_iald C (nlt rfl) rfl rfl (nle rfl) (by omega) (by omega) dX12_isWrongBoard_15 ?_
  refine x_eq (b := 4) t1 ?_
  refine x_imul C dX12_isWrongBoard_16 ?_
  refine x_eq (b := 16) rfl ?_
  refine x_icmp_lt (tgt := 22) C dX12_isWrongBoard_17 (by decide) ⟨by omega, by omega⟩ ⟨by omega, by omega⟩ (fun h1 => ?_) (fun h1 => by exfalso; omega)
  refine x_iconst C dX12_isWrongBoard_22 ?_
  refine x_istore_n (i := 1) (lv' := [(1, .int (iI (0))), (0, .ref 0)]) C dX12_isWrongBoard_23 rfl (nlt rfl) rfl ?_
  refine x_iload_n (i := 1) C dX12_isWrongBoard_24 rfl rfl ?_
  refine x_aload_n (i := 0) C dX12_isWrongBoard_25 rfl rfl ?_
  refine x_getRs (r := 9) C fkM_X12_35 (nlt rfl) rfl (congrFun (congrFun hr 0) 18) dX12_isWrongBoard_26 ?_
  refine x_iconst C dX12_isWrongBoard_29 ?_
  refine x_iald C (nlt rfl) rfl rfl (nle rfl) (by omega) (by omega) dX12_isWrongBoard_30 ?_
  refine x_eq (b := 0) t2 ?_
  refine x_icmp_ge (tgt := 98) C dX12_isWrongBoard_31 (by decide) ⟨by omega, by omega⟩ ⟨by omega, by omega⟩ (fun h2 => ?_) (fun h2 => by exfalso; omega)
  refine x_iconst C dX12_isWrongBoard_98 ?_
  exact x_zret C hQ (by omega) dX12_isWrongBoard_99 (⟨rfl, rfl⟩)
set_option maxHeartbeats 4000000 in
set_option maxRecDepth 100000 in
theorem m_mostOf {D : va_G} {ad : Nat → Nat} {cA : Nat → ClassId} {X : XT} {s : Int} (hs : inR s) : MetX (wM D ad cA) yX12_mostOf cX12_mostOf 1 (some .int) 0 0 [.int (iI (s))] X (fun r X' => X' = X ∧ ∃ u : Int, r = some (.int (iI u)) ∧ ((u = 3 ∧ s = 1) ∨ (u = 2 ∧ ¬ s = 1))) := by
  unfold inR at hs
  refine MetX.mk (own := RX12) (by decide +kernel) rfl (nle rfl) (fun E C hQ => ?_)
  refine Wx_lv (lv' := [(0, .int (iI (s)))]) rfl ?_
  refine x_iload_n (i := 0) C dX12_mostOf_0 rfl rfl ?_
  refine x_iconst C dX12_mostOf_1 ?_
  refine x_icmp_ne (tgt := 9) C dX12_mostOf_2 (by decide) ⟨by omega, by omega⟩ ⟨by omega, by omega⟩ (fun h1 => ?_) (fun h1 => ?_)
  · refine x_iconst C dX12_mostOf_9 ?_
    exact x_iret C hQ dX12_mostOf_10 (⟨rfl, _, rfl, by omega⟩)
  · refine x_iconst C dX12_mostOf_5 ?_
    refine x_goto (tgt := 10) C dX12_mostOf_6 (by decide) ?_
    exact x_iret C hQ dX12_mostOf_10 (⟨rfl, _, rfl, by omega⟩)
set_option maxHeartbeats 4000000 in
set_option maxRecDepth 100000 in
theorem lp_readText {D : va_G} {ad : Nat → Nat} {cA : Nat → ClassId} {E : ET} {rm : Room} {Qp : Option Value → XT → Prop} {q : Int} (C : CX E (wM D ad cA) cX12_readText 3 RX12 (some .boolean) rm) (hQ : EQ E (wM D ad cA) Qp) (kx22 : ∀ (k : Int) (X : XT), X.2.2 = rM → (∀ i, X.1 5 i = 0) → (∀ i, X.1 9 i = 0) → X.1 0 10 = 0 → Wx E (wM D ad cA) 3 (PX (wM D ad cA) X) 22 [(2, .int (iI (k))), (0, .ref 0), (1, .int (iI (q)))] []) : ∀ (n : Nat) (k : Int) (X : XT), 331 - k < n → X.2.2 = rM → (∀ i, X.1 5 i = 0) → (∀ i, X.1 9 i = 0) → X.1 0 10 = 0 → 0 ≤ k → k ≤ 331 → Wx E (wM D ad cA) 3 (PX (wM D ad cA) X) 2 [(2, .int (iI (k))), (0, .ref 0), (1, .int (iI (q)))] [] := by
  intro n
  induction n with
  | zero => intro k X hn hr mz tz hl k0 k1; exfalso; omega
  | succ n ih =>
    intro k X hn hr mz tz hl k0 k1
    refine x_iload_n (i := 2) C dX12_readText_2 rfl rfl ?_
    refine x_sipush C dX12_readText_3 (by decide) ?_
    refine x_icmp_ge (tgt := 22) C dX12_readText_6 (by decide) ⟨by omega, by omega⟩ ⟨by omega, by omega⟩ (fun h1 => ?_) (fun h1 => ?_)
    · exact kx22 _ _ hr mz tz hl
    · refine x_aload_n (i := 0) C dX12_readText_9 rfl rfl ?_
      refine x_getRs (r := 9) C fkM_X12_35 (nlt rfl) rfl (congrFun (congrFun hr 0) 18) dX12_readText_10 ?_
      refine x_iload_n (i := 2) C dX12_readText_13 rfl rfl ?_
      refine x_iconst C dX12_readText_14 ?_
      refine x_iast C (nlt rfl) rfl rfl (nle rfl) (by omega) (by omega) dX12_readText_15 ?_
      refine x_iinc (lv' := [(2, .int (iI (k + 1))), (0, .ref 0), (1, .int (iI (q)))]) C dX12_readText_16 rfl (nlt rfl) rfl ?_
      refine x_goto (tgt := 2) C dX12_readText_19 (by decide) ?_
      exact ih (k + 1) _ (by omega) hr mz (fun i => by rw [upI_s]; split <;> first | rfl | exact tz i) hl (by omega) (by omega)
set_option maxHeartbeats 4000000 in
set_option maxRecDepth 100000 in
theorem m_readText0 {D : va_G} {ad : Nat → Nat} {cA : Nat → ClassId} {X : XT} (hr : X.2.2 = rM) (mz : (∀ i, X.1 5 i = 0)) (tz : (∀ i, X.1 9 i = 0)) (hl : X.1 0 10 = 0) : MetX (wM D ad cA) yX12_readText cX12_readText 3 (some .boolean) 6 136 [.ref 0, .int (iI (0))] X (fun r X' => r = some (.int (iI 1)) ∧ X'.2.2 = rM ∧ (∀ i, X'.1 5 i = 0)) := by
  refine MetX.mk (own := RX12) (by decide +kernel) rfl (nle rfl) (fun E C hQ => ?_)
  refine Wx_lv (lv' := [(0, .ref 0), (1, .int (iI (0)))]) rfl ?_
  refine x_iconst C dX12_readText_0 ?_
  refine x_istore_n (i := 2) (lv' := [(2, .int (iI (0))), (0, .ref 0), (1, .int (iI (0)))]) C dX12_readText_1 rfl (nlt rfl) rfl ?_
  refine lp_readText C hQ (fun k X hr mz tz hl => ?_) 332 0 _ (by omega) hr mz tz hl (by omega) (by omega)
  refine x_aload_n (i := 0) C dX12_readText_22 rfl rfl ?_
  refine x_getRs (r := 9) C fkM_X12_35 (nlt rfl) rfl (congrFun (congrFun hr 0) 18) dX12_readText_23 ?_
  refine x_iconst C dX12_readText_26 ?_
  refine x_iload_n (i := 1) C dX12_readText_27 rfl rfl ?_
  refine x_if_ne (tgt := 35) C dX12_readText_28 (by decide) ⟨by omega, by omega⟩ (fun h1 => by exfalso; omega) (fun h1 => ?_)
  refine x_iconst C dX12_readText_31 ?_
  refine x_goto (tgt := 36) C dX12_readText_32 (by decide) ?_
  refine x_iast C (nlt rfl) rfl rfl (nle rfl) (by omega) (by omega) dX12_readText_36 ?_
  refine x_aload_n (i := 0) C dX12_readText_37 rfl rfl ?_
  refine x_getRs (r := 9) C fkM_X12_35 (nlt rfl) rfl (congrFun (congrFun hr 0) 18) dX12_readText_38 ?_
  refine x_iconst C dX12_readText_41 ?_
  refine x_iload_n (i := 1) C dX12_readText_42 rfl rfl ?_
  refine x_if_ne (tgt := 50) C dX12_readText_43 (by decide) ⟨by omega, by omega⟩ (fun h2 => by exfalso; omega) (fun h2 => ?_)
  refine x_iconst C dX12_readText_46 ?_
  refine x_goto (tgt := 51) C dX12_readText_47 (by decide) ?_
  refine x_iast C (nlt rfl) rfl rfl (nle rfl) (by omega) (by omega) dX12_readText_51 ?_
  refine x_aload_n (i := 0) C dX12_readText_52 rfl rfl ?_
  refine x_iconst C dX12_readText_53 ?_
  refine x_putI C pkM_X12_223 (nlt rfl) rfl dX12_readText_54 ?_
  refine x_aload_n (i := 0) C dX12_readText_57 rfl rfl ?_
  refine x_iconst C dX12_readText_58 ?_
  refine x_putI C pkM_X12_173 (nlt rfl) rfl dX12_readText_59 ?_
  refine x_aload_n (i := 0) C dX12_readText_62 rfl rfl ?_
  refine x_iconst C dX12_readText_63 ?_
  refine x_putI C pkM_X12_199 (nlt rfl) rfl dX12_readText_64 ?_
  refine x_aload_n (i := 0) C dX12_readText_67 rfl rfl ?_
  refine x_callV (As := []) C (by exact (m_token0 (by exact hr) rfl hl)) ckX12_216 im_X12_token se_X12_token (nlt rfl) rfl rfl rfl rfl (nle rfl) (by exact ⟨nle rfl, nle rfl⟩) dX12_readText_68 ?_
  rintro _ Xk3 ⟨rfl, hr, k3m, k3a, k3b, k3c, k3d, k3e, k3f⟩
  have mz := fun i => (k3m 5 rfl i).trans (mz i)
  refine Wx_st (st' := []) rfl ?_
  refine x_iload_n (i := 1) C dX12_readText_71 rfl rfl ?_
  refine x_iconst C dX12_readText_72 ?_
  refine x_icmp_ne (tgt := 83) C dX12_readText_73 (by decide) ⟨by omega, by omega⟩ ⟨by omega, by omega⟩ (fun h4 => ?_) (fun h4 => by exfalso; omega)
  refine x_aload_n (i := 0) C dX12_readText_83 rfl rfl ?_
  refine x_iload_n (i := 1) C dX12_readText_84 rfl rfl ?_
  refine x_callV (As := [.int (iI (0))]) C (by exact (m_lines0 (by exact hr) k3c)) ckX12_258 im_X12_lines se_X12_lines (nlt rfl) rfl rfl rfl rfl (nle rfl) (by exact ⟨nle rfl, nle rfl⟩) dX12_readText_85 ?_
  rintro _ _ ⟨rfl, rfl⟩
  refine Wx_st (st' := [.int (iI (1))]) rfl ?_
  refine x_istore_n (i := 2) (lv' := [(2, .int (iI (1))), (0, .ref 0), (1, .int (iI (0)))]) C dX12_readText_88 rfl (nlt rfl) rfl ?_
  refine x_iload_n (i := 2) C dX12_readText_89 rfl rfl ?_
  refine x_if_eq (tgt := 120) C dX12_readText_90 (by decide) ⟨by omega, by omega⟩ (fun h5 => by exfalso; omega) (fun h5 => ?_)
  refine x_iload_n (i := 1) C dX12_readText_93 rfl rfl ?_
  refine x_if_ne (tgt := 120) C dX12_readText_94 (by decide) ⟨by omega, by omega⟩ (fun h6 => by exfalso; omega) (fun h6 => ?_)
  refine x_aload_n (i := 0) C dX12_readText_97 rfl rfl ?_
  refine x_getI C fkM_X12_199 (nlt rfl) rfl dX12_readText_98 ?_
  refine x_eq (b := 0) (k3e.trans rfl) ?_
  refine x_if_ne (tgt := 120) C dX12_readText_101 (by decide) ⟨by omega, by omega⟩ (fun h7 => by exfalso; omega) (fun h7 => ?_)
  refine x_aload_n (i := 0) C dX12_readText_104 rfl rfl ?_
  refine x_callV (As := []) C (by exact (m_isWrongBoard0 (by exact hr) (k3f.trans rfl) (k3m 9 rfl _) (k3m 9 rfl _) ((k3m 9 rfl _).trans (tz 2)))) ckX12_262 im_X12_isWrongBoard se_X12_isWrongBoard (nlt rfl) rfl rfl rfl rfl (nle rfl) (by exact ⟨nle rfl, nle rfl⟩) dX12_readText_105 ?_
  rintro _ _ ⟨rfl, rfl⟩
  refine Wx_st (st' := [.int (iI (0))]) rfl ?_
  refine x_if_eq (tgt := 120) C dX12_readText_108 (by decide) ⟨by omega, by omega⟩ (fun h8 => ?_) (fun h8 => by exfalso; omega)
  refine x_aload_n (i := 0) C dX12_readText_120 rfl rfl ?_
  refine x_getRs (r := 3) C fkM_X12_17 (nlt rfl) rfl (congrFun (congrFun hr 0) 3) dX12_readText_121 ?_
  refine x_iconst C dX12_readText_124 ?_
  refine x_iload_n (i := 2) C dX12_readText_125 rfl rfl ?_
  refine x_if_eq (tgt := 136) C dX12_readText_126 (by decide) ⟨by omega, by omega⟩ (fun h9 => by exfalso; omega) (fun h9 => ?_)
  refine x_aload_n (i := 0) C dX12_readText_129 rfl rfl ?_
  refine x_getI C fkM_X12_199 (nlt rfl) rfl dX12_readText_130 ?_
  refine x_eq (b := 0) (k3e.trans rfl) ?_
  refine x_goto (tgt := 137) C dX12_readText_133 (by decide) ?_
  refine x_iast C (nlt rfl) rfl rfl (nle rfl) (by omega) (by omega) dX12_readText_137 ?_
  refine x_aload_n (i := 0) C dX12_readText_138 rfl rfl ?_
  refine x_getRs (r := 4) C fkM_X12_20 (nlt rfl) rfl (congrFun (congrFun hr 0) 4) dX12_readText_139 ?_
  refine x_iconst C dX12_readText_142 ?_
  refine x_iload_n (i := 2) C dX12_readText_143 rfl rfl ?_
  refine x_if_ne (tgt := 154) C dX12_readText_144 (by decide) ⟨by omega, by omega⟩ (fun h10 => ?_) (fun h10 => by exfalso; omega)
  refine x_aload_n (i := 0) C dX12_readText_154 rfl rfl ?_
  refine x_getI C fkM_X12_199 (nlt rfl) rfl dX12_readText_155 ?_
  refine x_eq (b := 0) (k3e.trans rfl) ?_
  refine x_if_le (tgt := 168) C dX12_readText_158 (by decide) ⟨by omega, by omega⟩ (fun h11 => ?_) (fun h11 => by exfalso; omega)
  refine x_iconst C dX12_readText_168 ?_
  refine x_iast C (nlt rfl) rfl rfl (nle rfl) (by omega) (by omega) dX12_readText_169 ?_
  refine x_aload_n (i := 0) C dX12_readText_170 rfl rfl ?_
  refine x_getRs (r := 3) C fkM_X12_17 (nlt rfl) rfl (congrFun (congrFun hr 0) 3) dX12_readText_171 ?_
  refine x_iconst C dX12_readText_174 ?_
  refine x_iald C (nlt rfl) rfl rfl (nle rfl) (by omega) (by omega) dX12_readText_175 ?_
  refine x_eq (b := 0) rfl ?_
  refine x_if_ne (tgt := 183) C dX12_readText_176 (by decide) ⟨by omega, by omega⟩ (fun h12 => by exfalso; omega) (fun h12 => ?_)
  refine x_iconst C dX12_readText_179 ?_
  refine x_goto (tgt := 184) C dX12_readText_180 (by decide) ?_
  exact x_zret C hQ (by omega) dX12_readText_184 (⟨rfl, hr, fun i => mz i⟩)
set_option maxHeartbeats 4000000 in
set_option maxRecDepth 100000 in
theorem m_readText1 {D : va_G} {ad : Nat → Nat} {cA : Nat → ClassId} {X : XT} (hr : X.2.2 = rM) (mz : (∀ i, X.1 5 i = 0)) (tz : (∀ i, X.1 9 i = 0)) (hl : X.1 0 10 = 0) : MetX (wM D ad cA) yX12_readText cX12_readText 3 (some .boolean) 6 136 [.ref 0, .int (iI (1))] X (fun r X' => r = some (.int (iI 0)) ∧ X'.2.2 = rM ∧ (∀ i, X'.1 5 i = 0)) := by
  refine MetX.mk (own := RX12) (by decide +kernel) rfl (nle rfl) (fun E C hQ => ?_)
  refine Wx_lv (lv' := [(0, .ref 0), (1, .int (iI (1)))]) rfl ?_
  refine x_iconst C dX12_readText_0 ?_
  refine x_istore_n (i := 2) (lv' := [(2, .int (iI (0))), (0, .ref 0), (1, .int (iI (1)))]) C dX12_readText_1 rfl (nlt rfl) rfl ?_
  refine lp_readText C hQ (fun k X hr mz tz hl => ?_) 332 0 _ (by omega) hr mz tz hl (by omega) (by omega)
  refine x_aload_n (i := 0) C dX12_readText_22 rfl rfl ?_
  refine x_getRs (r := 9) C fkM_X12_35 (nlt rfl) rfl (congrFun (congrFun hr 0) 18) dX12_readText_23 ?_
  refine x_iconst C dX12_readText_26 ?_
  refine x_iload_n (i := 1) C dX12_readText_27 rfl rfl ?_
  refine x_if_ne (tgt := 35) C dX12_readText_28 (by decide) ⟨by omega, by omega⟩ (fun h1 => ?_) (fun h1 => by exfalso; omega)
  refine x_iconst C dX12_readText_35 ?_
  refine x_iast C (nlt rfl) rfl rfl (nle rfl) (by omega) (by omega) dX12_readText_36 ?_
  refine x_aload_n (i := 0) C dX12_readText_37 rfl rfl ?_
  refine x_getRs (r := 9) C fkM_X12_35 (nlt rfl) rfl (congrFun (congrFun hr 0) 18) dX12_readText_38 ?_
  refine x_iconst C dX12_readText_41 ?_
  refine x_iload_n (i := 1) C dX12_readText_42 rfl rfl ?_
  refine x_if_ne (tgt := 50) C dX12_readText_43 (by decide) ⟨by omega, by omega⟩ (fun h2 => ?_) (fun h2 => by exfalso; omega)
  refine x_iconst C dX12_readText_50 ?_
  refine x_iast C (nlt rfl) rfl rfl (nle rfl) (by omega) (by omega) dX12_readText_51 ?_
  refine x_aload_n (i := 0) C dX12_readText_52 rfl rfl ?_
  refine x_iconst C dX12_readText_53 ?_
  refine x_putI C pkM_X12_223 (nlt rfl) rfl dX12_readText_54 ?_
  refine x_aload_n (i := 0) C dX12_readText_57 rfl rfl ?_
  refine x_iconst C dX12_readText_58 ?_
  refine x_putI C pkM_X12_173 (nlt rfl) rfl dX12_readText_59 ?_
  refine x_aload_n (i := 0) C dX12_readText_62 rfl rfl ?_
  refine x_iconst C dX12_readText_63 ?_
  refine x_putI C pkM_X12_199 (nlt rfl) rfl dX12_readText_64 ?_
  refine x_aload_n (i := 0) C dX12_readText_67 rfl rfl ?_
  refine x_callV (As := []) C (by exact (m_token0 (by exact hr) rfl hl)) ckX12_216 im_X12_token se_X12_token (nlt rfl) rfl rfl rfl rfl (nle rfl) (by exact ⟨nle rfl, nle rfl⟩) dX12_readText_68 ?_
  rintro _ Xk3 ⟨rfl, hr, k3m, k3a, k3b, k3c, k3d, k3e, k3f⟩
  have mz := fun i => (k3m 5 rfl i).trans (mz i)
  refine Wx_st (st' := []) rfl ?_
  refine x_iload_n (i := 1) C dX12_readText_71 rfl rfl ?_
  refine x_iconst C dX12_readText_72 ?_
  refine x_icmp_ne (tgt := 83) C dX12_readText_73 (by decide) ⟨by omega, by omega⟩ ⟨by omega, by omega⟩ (fun h4 => by exfalso; omega) (fun h4 => ?_)
  refine x_aload_n (i := 0) C dX12_readText_76 rfl rfl ?_
  refine x_callV (As := []) C (by exact (m_ruleText0 (by exact hr) k3c k3a k3d)) ckX12_255 im_X12_ruleText se_X12_ruleText (nlt rfl) rfl rfl rfl rfl (nle rfl) (by exact ⟨nle rfl, nle rfl⟩) dX12_readText_77 ?_
  rintro _ _ ⟨rfl, rfl⟩
  refine Wx_st (st' := [.int (iI (0))]) rfl ?_
  refine x_goto (tgt := 88) C dX12_readText_80 (by decide) ?_
  refine x_istore_n (i := 2) (lv' := [(2, .int (iI (0))), (0, .ref 0), (1, .int (iI (1)))]) C dX12_readText_88 rfl (nlt rfl) rfl ?_
  refine x_iload_n (i := 2) C dX12_readText_89 rfl rfl ?_
  refine x_if_eq (tgt := 120) C dX12_readText_90 (by decide) ⟨by omega, by omega⟩ (fun h5 => ?_) (fun h5 => by exfalso; omega)
  refine x_aload_n (i := 0) C dX12_readText_120 rfl rfl ?_
  refine x_getRs (r := 3) C fkM_X12_17 (nlt rfl) rfl (congrFun (congrFun hr 0) 3) dX12_readText_121 ?_
  refine x_iconst C dX12_readText_124 ?_
  refine x_iload_n (i := 2) C dX12_readText_125 rfl rfl ?_
  refine x_if_eq (tgt := 136) C dX12_readText_126 (by decide) ⟨by omega, by omega⟩ (fun h6 => ?_) (fun h6 => by exfalso; omega)
  refine x_iconst C dX12_readText_136 ?_
  refine x_iast C (nlt rfl) rfl rfl (nle rfl) (by omega) (by omega) dX12_readText_137 ?_
  refine x_aload_n (i := 0) C dX12_readText_138 rfl rfl ?_
  refine x_getRs (r := 4) C fkM_X12_20 (nlt rfl) rfl (congrFun (congrFun hr 0) 4) dX12_readText_139 ?_
  refine x_iconst C dX12_readText_142 ?_
  refine x_iload_n (i := 2) C dX12_readText_143 rfl rfl ?_
  refine x_if_ne (tgt := 154) C dX12_readText_144 (by decide) ⟨by omega, by omega⟩ (fun h7 => by exfalso; omega) (fun h7 => ?_)
  refine x_aload_n (i := 0) C dX12_readText_147 rfl rfl ?_
  refine x_getI C fkM_X12_196 (nlt rfl) rfl dX12_readText_148 ?_
  refine x_gen (fun v8 ev8 => ?_)
  refine x_goto (tgt := 169) C dX12_readText_151 (by decide) ?_
  refine x_iast C (nlt rfl) rfl rfl (nle rfl) (by omega) (by omega) dX12_readText_169 ?_
  refine x_aload_n (i := 0) C dX12_readText_170 rfl rfl ?_
  refine x_getRs (r := 3) C fkM_X12_17 (nlt rfl) rfl (congrFun (congrFun hr 0) 3) dX12_readText_171 ?_
  refine x_iconst C dX12_readText_174 ?_
  refine x_iald C (nlt rfl) rfl rfl (nle rfl) (by omega) (by omega) dX12_readText_175 ?_
  refine x_eq (b := 1) rfl ?_
  refine x_if_ne (tgt := 183) C dX12_readText_176 (by decide) ⟨by omega, by omega⟩ (fun h9 => ?_) (fun h9 => by exfalso; omega)
  refine x_iconst C dX12_readText_183 ?_
  exact x_zret C hQ (by omega) dX12_readText_184 (⟨rfl, hr, fun i => mz i⟩)
set_option maxHeartbeats 4000000 in
set_option maxRecDepth 100000 in
theorem m_readText2 {D : va_G} {ad : Nat → Nat} {cA : Nat → ClassId} {X : XT} (hr : X.2.2 = rM) (mz : (∀ i, X.1 5 i = 0)) (tz : (∀ i, X.1 9 i = 0)) (hl : X.1 0 10 = 0) : MetX (wM D ad cA) yX12_readText cX12_readText 3 (some .boolean) 6 136 [.ref 0, .int (iI (2))] X (fun r X' => r = some (.int (iI 1)) ∧ X'.2.2 = rM ∧ (∀ i, X'.1 5 i = 0)) := by
  refine MetX.mk (own := RX12) (by decide +kernel) rfl (nle rfl) (fun E C hQ => ?_)
  refine Wx_lv (lv' := [(0, .ref 0), (1, .int (iI (2)))]) rfl ?_
  refine x_iconst C dX12_readText_0 ?_
  refine x_istore_n (i := 2) (lv' := [(2, .int (iI (0))), (0, .ref 0), (1, .int (iI (2)))]) C dX12_readText_1 rfl (nlt rfl) rfl ?_
  refine lp_readText C hQ (fun k X hr mz tz hl => ?_) 332 0 _ (by omega) hr mz tz hl (by omega) (by omega)
  refine x_aload_n (i := 0) C dX12_readText_22 rfl rfl ?_
  refine x_getRs (r := 9) C fkM_X12_35 (nlt rfl) rfl (congrFun (congrFun hr 0) 18) dX12_readText_23 ?_
  refine x_iconst C dX12_readText_26 ?_
  refine x_iload_n (i := 1) C dX12_readText_27 rfl rfl ?_
  refine x_if_ne (tgt := 35) C dX12_readText_28 (by decide) ⟨by omega, by omega⟩ (fun h1 => ?_) (fun h1 => by exfalso; omega)
  refine x_iconst C dX12_readText_35 ?_
  refine x_iast C (nlt rfl) rfl rfl (nle rfl) (by omega) (by omega) dX12_readText_36 ?_
  refine x_aload_n (i := 0) C dX12_readText_37 rfl rfl ?_
  refine x_getRs (r := 9) C fkM_X12_35 (nlt rfl) rfl (congrFun (congrFun hr 0) 18) dX12_readText_38 ?_
  refine x_iconst C dX12_readText_41 ?_
  refine x_iload_n (i := 1) C dX12_readText_42 rfl rfl ?_
  refine x_if_ne (tgt := 50) C dX12_readText_43 (by decide) ⟨by omega, by omega⟩ (fun h2 => ?_) (fun h2 => by exfalso; omega)
  refine x_iconst C dX12_readText_50 ?_
  refine x_iast C (nlt rfl) rfl rfl (nle rfl) (by omega) (by omega) dX12_readText_51 ?_
  refine x_aload_n (i := 0) C dX12_readText_52 rfl rfl ?_
  refine x_iconst C dX12_readText_53 ?_
  refine x_putI C pkM_X12_223 (nlt rfl) rfl dX12_readText_54 ?_
  refine x_aload_n (i := 0) C dX12_readText_57 rfl rfl ?_
  refine x_iconst C dX12_readText_58 ?_
  refine x_putI C pkM_X12_173 (nlt rfl) rfl dX12_readText_59 ?_
  refine x_aload_n (i := 0) C dX12_readText_62 rfl rfl ?_
  refine x_iconst C dX12_readText_63 ?_
  refine x_putI C pkM_X12_199 (nlt rfl) rfl dX12_readText_64 ?_
  refine x_aload_n (i := 0) C dX12_readText_67 rfl rfl ?_
  refine x_callV (As := []) C (by exact (m_token0 (by exact hr) rfl hl)) ckX12_216 im_X12_token se_X12_token (nlt rfl) rfl rfl rfl rfl (nle rfl) (by exact ⟨nle rfl, nle rfl⟩) dX12_readText_68 ?_
  rintro _ Xk3 ⟨rfl, hr, k3m, k3a, k3b, k3c, k3d, k3e, k3f⟩
  have mz := fun i => (k3m 5 rfl i).trans (mz i)
  refine Wx_st (st' := []) rfl ?_
  refine x_iload_n (i := 1) C dX12_readText_71 rfl rfl ?_
  refine x_iconst C dX12_readText_72 ?_
  refine x_icmp_ne (tgt := 83) C dX12_readText_73 (by decide) ⟨by omega, by omega⟩ ⟨by omega, by omega⟩ (fun h4 => ?_) (fun h4 => by exfalso; omega)
  refine x_aload_n (i := 0) C dX12_readText_83 rfl rfl ?_
  refine x_iload_n (i := 1) C dX12_readText_84 rfl rfl ?_
  refine x_callV (As := [.int (iI (2))]) C (by exact (m_lines0 (by exact hr) k3c)) ckX12_258 im_X12_lines se_X12_lines (nlt rfl) rfl rfl rfl rfl (nle rfl) (by exact ⟨nle rfl, nle rfl⟩) dX12_readText_85 ?_
  rintro _ _ ⟨rfl, rfl⟩
  refine Wx_st (st' := [.int (iI (1))]) rfl ?_
  refine x_istore_n (i := 2) (lv' := [(2, .int (iI (1))), (0, .ref 0), (1, .int (iI (2)))]) C dX12_readText_88 rfl (nlt rfl) rfl ?_
  refine x_iload_n (i := 2) C dX12_readText_89 rfl rfl ?_
  refine x_if_eq (tgt := 120) C dX12_readText_90 (by decide) ⟨by omega, by omega⟩ (fun h5 => by exfalso; omega) (fun h5 => ?_)
  refine x_iload_n (i := 1) C dX12_readText_93 rfl rfl ?_
  refine x_if_ne (tgt := 120) C dX12_readText_94 (by decide) ⟨by omega, by omega⟩ (fun h6 => ?_) (fun h6 => by exfalso; omega)
  refine x_aload_n (i := 0) C dX12_readText_120 rfl rfl ?_
  refine x_getRs (r := 3) C fkM_X12_17 (nlt rfl) rfl (congrFun (congrFun hr 0) 3) dX12_readText_121 ?_
  refine x_iconst C dX12_readText_124 ?_
  refine x_iload_n (i := 2) C dX12_readText_125 rfl rfl ?_
  refine x_if_eq (tgt := 136) C dX12_readText_126 (by decide) ⟨by omega, by omega⟩ (fun h7 => by exfalso; omega) (fun h7 => ?_)
  refine x_aload_n (i := 0) C dX12_readText_129 rfl rfl ?_
  refine x_getI C fkM_X12_199 (nlt rfl) rfl dX12_readText_130 ?_
  refine x_eq (b := 0) (k3e.trans rfl) ?_
  refine x_goto (tgt := 137) C dX12_readText_133 (by decide) ?_
  refine x_iast C (nlt rfl) rfl rfl (nle rfl) (by omega) (by omega) dX12_readText_137 ?_
  refine x_aload_n (i := 0) C dX12_readText_138 rfl rfl ?_
  refine x_getRs (r := 4) C fkM_X12_20 (nlt rfl) rfl (congrFun (congrFun hr 0) 4) dX12_readText_139 ?_
  refine x_iconst C dX12_readText_142 ?_
  refine x_iload_n (i := 2) C dX12_readText_143 rfl rfl ?_
  refine x_if_ne (tgt := 154) C dX12_readText_144 (by decide) ⟨by omega, by omega⟩ (fun h8 => ?_) (fun h8 => by exfalso; omega)
  refine x_aload_n (i := 0) C dX12_readText_154 rfl rfl ?_
  refine x_getI C fkM_X12_199 (nlt rfl) rfl dX12_readText_155 ?_
  refine x_eq (b := 0) (k3e.trans rfl) ?_
  refine x_if_le (tgt := 168) C dX12_readText_158 (by decide) ⟨by omega, by omega⟩ (fun h9 => ?_) (fun h9 => by exfalso; omega)
  refine x_iconst C dX12_readText_168 ?_
  refine x_iast C (nlt rfl) rfl rfl (nle rfl) (by omega) (by omega) dX12_readText_169 ?_
  refine x_aload_n (i := 0) C dX12_readText_170 rfl rfl ?_
  refine x_getRs (r := 3) C fkM_X12_17 (nlt rfl) rfl (congrFun (congrFun hr 0) 3) dX12_readText_171 ?_
  refine x_iconst C dX12_readText_174 ?_
  refine x_iald C (nlt rfl) rfl rfl (nle rfl) (by omega) (by omega) dX12_readText_175 ?_
  refine x_eq (b := 0) rfl ?_
  refine x_if_ne (tgt := 183) C dX12_readText_176 (by decide) ⟨by omega, by omega⟩ (fun h10 => by exfalso; omega) (fun h10 => ?_)
  refine x_iconst C dX12_readText_179 ?_
  refine x_goto (tgt := 184) C dX12_readText_180 (by decide) ?_
  exact x_zret C hQ (by omega) dX12_readText_184 (⟨rfl, hr, fun i => mz i⟩)
set_option maxHeartbeats 4000000 in
set_option maxRecDepth 100000 in
theorem lp_store6 {D : va_G} {ad : Nat → Nat} {cA : Nat → ClassId} {E : ET} {rm : Room} {Qp : Option Value → XT → Prop} (hPo : ∀ X : XT, X.2.2 = rM → Qp none X) (C : CX E (wM D ad cA) cX12_store 5 RX12 none rm) (hQ : EQ E (wM D ad cA) Qp)  : ∀ (n : Nat) (i : Int) (X : XT), 51 - i < n → X.2.2 = rM → 0 ≤ i → i ≤ 51 → Wx E (wM D ad cA) 5 (PX (wM D ad cA) X) 3 [(4, .int (iI (i))), (0, .ref 0), (1, .ref 6), (2, .int (iI (51))), (3, .int (iI (0)))] [] := by
  intro n
  induction n with
  | zero => intro i X hn hr i0 i1; exfalso; omega
  | succ n ih =>
    intro i X hn hr i0 i1
    refine x_iload C dX12_store_3 rfl ?_
    refine x_iload_n (i := 2) C dX12_store_5 rfl rfl ?_
    refine x_icmp_ge (tgt := 30) C dX12_store_6 (by decide) ⟨by omega, by omega⟩ ⟨by omega, by omega⟩ (fun h1 => ?_) (fun h1 => ?_)
    · exact x_vret C hQ dX12_store_30 (hPo _ hr)
    · refine x_aload_n (i := 1) C dX12_store_9 rfl rfl ?_
      refine x_iload_n (i := 2) C dX12_store_10 rfl rfl ?_
      refine x_iload_n (i := 3) C dX12_store_11 rfl rfl ?_
      refine x_imul C dX12_store_12 ?_
      refine x_eq (b := 0) rfl ?_
      refine x_iload C dX12_store_13 rfl ?_
      refine x_iadd C dX12_store_15 ?_
      refine x_aload_n (i := 0) C dX12_store_16 rfl rfl ?_
      refine x_getRs (r := 9) C fkM_X12_35 (nlt rfl) rfl (congrFun (congrFun hr 0) 18) dX12_store_17 ?_
      refine x_iload C dX12_store_20 rfl ?_
      refine x_iald C (nlt rfl) rfl rfl (nle rfl) (by omega) (by omega) dX12_store_22 ?_
      refine x_gen (fun v2 ev2 => ?_)
      refine x_iast C (nlt rfl) rfl rfl (nle rfl) (by omega) (by omega) dX12_store_23 ?_
      refine x_iinc (lv' := [(4, .int (iI (i + 1))), (0, .ref 0), (1, .ref 6), (2, .int (iI (51))), (3, .int (iI (0)))]) C dX12_store_24 rfl (nlt rfl) rfl ?_
      refine x_goto (tgt := 3) C dX12_store_27 (by decide) ?_
      exact ih (i + 1) _ (by omega) hr (by omega) (by omega)
set_option maxHeartbeats 4000000 in
set_option maxRecDepth 100000 in
theorem m_store6 {D : va_G} {ad : Nat → Nat} {cA : Nat → ClassId} {X : XT} (hr : X.2.2 = rM) : MetX (wM D ad cA) yX12_store cX12_store 5 none 0 0 [.ref 0, .ref 6, .int (iI (51)), .int (iI (0))] X (fun r X' => r = none ∧ X'.2.2 = rM) := by
  refine MetX.mk (own := RX12) (by decide +kernel) rfl (nle rfl) (fun E C hQ => ?_)
  refine Wx_lv (lv' := [(0, .ref 0), (1, .ref 6), (2, .int (iI (51))), (3, .int (iI (0)))]) rfl ?_
  refine x_iconst C dX12_store_0 ?_
  refine x_istore (lv' := [(4, .int (iI (0))), (0, .ref 0), (1, .ref 6), (2, .int (iI (51))), (3, .int (iI (0)))]) C dX12_store_1 (nlt rfl) rfl ?_
  exact lp_store6 (fun X hr => ⟨rfl, hr⟩) C hQ 332 0 _ (by omega) hr (by omega) (by omega)
set_option maxHeartbeats 4000000 in
set_option maxRecDepth 100000 in
theorem lp_store8 {D : va_G} {ad : Nat → Nat} {cA : Nat → ClassId} {E : ET} {rm : Room} {Qp : Option Value → XT → Prop} (hPo : ∀ X : XT, X.2.2 = rM → Qp none X) (C : CX E (wM D ad cA) cX12_store 5 RX12 none rm) (hQ : EQ E (wM D ad cA) Qp)  : ∀ (n : Nat) (i : Int) (X : XT), 331 - i < n → X.2.2 = rM → 0 ≤ i → i ≤ 331 → Wx E (wM D ad cA) 5 (PX (wM D ad cA) X) 3 [(4, .int (iI (i))), (0, .ref 0), (1, .ref 8), (2, .int (iI (331))), (3, .int (iI (0)))] [] := by
  intro n
  induction n with
  | zero => intro i X hn hr i0 i1; exfalso; omega
  | succ n ih =>
    intro i X hn hr i0 i1
    refine x_iload C dX12_store_3 rfl ?_
    refine x_iload_n (i := 2) C dX12_store_5 rfl rfl ?_
    refine x_icmp_ge (tgt := 30) C dX12_store_6 (by decide) ⟨by omega, by omega⟩ ⟨by omega, by omega⟩ (fun h1 => ?_) (fun h1 => ?_)
    · exact x_vret C hQ dX12_store_30 (hPo _ hr)
    · refine x_aload_n (i := 1) C dX12_store_9 rfl rfl ?_
      refine x_iload_n (i := 2) C dX12_store_10 rfl rfl ?_
      refine x_iload_n (i := 3) C dX12_store_11 rfl rfl ?_
      refine x_imul C dX12_store_12 ?_
      refine x_eq (b := 0) rfl ?_
      refine x_iload C dX12_store_13 rfl ?_
      refine x_iadd C dX12_store_15 ?_
      refine x_aload_n (i := 0) C dX12_store_16 rfl rfl ?_
      refine x_getRs (r := 9) C fkM_X12_35 (nlt rfl) rfl (congrFun (congrFun hr 0) 18) dX12_store_17 ?_
      refine x_iload C dX12_store_20 rfl ?_
      refine x_iald C (nlt rfl) rfl rfl (nle rfl) (by omega) (by omega) dX12_store_22 ?_
      refine x_gen (fun v2 ev2 => ?_)
      refine x_iast C (nlt rfl) rfl rfl (nle rfl) (by omega) (by omega) dX12_store_23 ?_
      refine x_iinc (lv' := [(4, .int (iI (i + 1))), (0, .ref 0), (1, .ref 8), (2, .int (iI (331))), (3, .int (iI (0)))]) C dX12_store_24 rfl (nlt rfl) rfl ?_
      refine x_goto (tgt := 3) C dX12_store_27 (by decide) ?_
      exact ih (i + 1) _ (by omega) hr (by omega) (by omega)
set_option maxHeartbeats 4000000 in
set_option maxRecDepth 100000 in
theorem m_store8 {D : va_G} {ad : Nat → Nat} {cA : Nat → ClassId} {X : XT} (hr : X.2.2 = rM) : MetX (wM D ad cA) yX12_store cX12_store 5 none 0 0 [.ref 0, .ref 8, .int (iI (331)), .int (iI (0))] X (fun r X' => r = none ∧ X'.2.2 = rM) := by
  refine MetX.mk (own := RX12) (by decide +kernel) rfl (nle rfl) (fun E C hQ => ?_)
  refine Wx_lv (lv' := [(0, .ref 0), (1, .ref 8), (2, .int (iI (331))), (3, .int (iI (0)))]) rfl ?_
  refine x_iconst C dX12_store_0 ?_
  refine x_istore (lv' := [(4, .int (iI (0))), (0, .ref 0), (1, .ref 8), (2, .int (iI (331))), (3, .int (iI (0)))]) C dX12_store_1 (nlt rfl) rfl ?_
  exact lp_store8 (fun X hr => ⟨rfl, hr⟩) C hQ 332 0 _ (by omega) hr (by omega) (by omega)
set_option maxHeartbeats 4000000 in
set_option maxRecDepth 100000 in
theorem m_text0 {D : va_G} {ad : Nat → Nat} {cA : Nat → ClassId} {p : Int} (hp : inR p) : MetX (wM D ad cA) yX12_text cX12_text 4 (some .int) 7 158 [.ref 0, .int (iI (0)), .int (iI (p))] x0M (fun r _ => r = some (.int (iI (if p = -1 then 0 else -2)))) := by
  have hr : (x0M).2.2 = rM := rfl
  unfold inR at hp
  refine MetX.mk (own := RX12) (by decide +kernel) rfl (nle rfl) (fun E C hQ => ?_)
  refine Wx_lv (lv' := [(0, .ref 0), (1, .int (iI (0))), (2, .int (iI (p)))]) rfl ?_
  refine x_aload_n (i := 0) C dX12_text_0 rfl rfl ?_
  refine x_iconst C dX12_text_1 ?_
  refine x_putI C pkM_X12_157 (nlt rfl) rfl dX12_text_2 ?_
  refine x_aload_n (i := 0) C dX12_text_5 rfl rfl ?_
  refine x_aload_n (i := 0) C dX12_text_6 rfl rfl ?_
  refine x_getRs (r := 2) C fkM_X12_13 (nlt rfl) rfl (congrFun (congrFun hr 0) 2) dX12_text_7 ?_
  refine x_iconst C dX12_text_10 ?_
  refine x_iald C (nlt rfl) rfl rfl (nle rfl) (by omega) (by omega) dX12_text_11 ?_
  refine x_eq (b := 0) rfl ?_
  refine x_putI C pkM_X12_176 (nlt rfl) rfl dX12_text_12 ?_
  refine x_aload_n (i := 0) C dX12_text_15 rfl rfl ?_
  refine x_getRs (r := 2) C fkM_X12_13 (nlt rfl) rfl (congrFun (congrFun hr 0) 2) dX12_text_16 ?_
  refine x_iconst C dX12_text_19 ?_
  refine x_iconst C dX12_text_20 ?_
  refine x_iast C (nlt rfl) rfl rfl (nle rfl) (by omega) (by omega) dX12_text_21 ?_
  refine x_aload_n (i := 0) C dX12_text_22 rfl rfl ?_
  refine x_getRs (r := 3) C fkM_X12_17 (nlt rfl) rfl (congrFun (congrFun hr 0) 3) dX12_text_23 ?_
  refine x_iconst C dX12_text_26 ?_
  refine x_iconst C dX12_text_27 ?_
  refine x_iast C (nlt rfl) rfl rfl (nle rfl) (by omega) (by omega) dX12_text_28 ?_
  refine x_aload_n (i := 0) C dX12_text_29 rfl rfl ?_
  refine x_getRs (r := 4) C fkM_X12_20 (nlt rfl) rfl (congrFun (congrFun hr 0) 4) dX12_text_30 ?_
  refine x_iconst C dX12_text_33 ?_
  refine x_iconst C dX12_text_34 ?_
  refine x_iast C (nlt rfl) rfl rfl (nle rfl) (by omega) (by omega) dX12_text_35 ?_
  refine x_iload_n (i := 1) C dX12_text_36 rfl rfl ?_
  refine x_iconst C dX12_text_37 ?_
  refine x_iconst C dX12_text_38 ?_
  refine x_callS (As := [.int (iI (0)), .int (iI (0)), .int (iI (2))]) C (by exact (m_in (v := 0) (a := 0) (b := 2) ⟨by omega, by omega⟩ ⟨by omega, by omega⟩ ⟨by omega, by omega⟩)) ckX12_165 sm_X12_in rfl rfl (nle rfl) (by exact ⟨nle rfl, nle rfl⟩) dX12_text_39 ?_
  rintro _ _ ⟨rfl, u1, rfl, h2⟩
  refine Wx_st (st' := [.int (iI (u1))]) rfl ?_
  refine x_if_eq (tgt := 75) C dX12_text_42 (by decide) ⟨by omega, by omega⟩ (fun h3 => ?_) (fun h3 => ?_)
  · refine x_bipush C dX12_text_75 (by decide) ?_
    exact x_iret C hQ dX12_text_77 (congrArg (fun z : Int => some (Value.int (iI z))) (by first | rfl | omega | (split <;> omega) | (repeat (first | omega | split))))
  · refine x_iload_n (i := 2) C dX12_text_45 rfl rfl ?_
    refine x_iconst C dX12_text_46 ?_
    refine x_icmp_ne (tgt := 66) C dX12_text_47 (by decide) ⟨by omega, by omega⟩ ⟨by omega, by omega⟩ (fun h4 => ?_) (fun h4 => ?_)
    · refine x_aload_n (i := 0) C dX12_text_66 rfl rfl ?_
      refine x_iload_n (i := 1) C dX12_text_67 rfl rfl ?_
      refine x_iload_n (i := 2) C dX12_text_68 rfl rfl ?_
      refine x_callV (As := [.int (iI (0)), .int (iI (p))]) C (by exact (m_is0 (s := 0) (k := p) (by exact hr) (by omega) (by omega) rfl ⟨by omega, by omega⟩)) ckX12_268 im_X12_is se_X12_is (nlt rfl) rfl rfl rfl rfl (nle rfl) (by exact ⟨nle rfl, nle rfl⟩) dX12_text_69 ?_
      rintro _ _ ⟨rfl, rfl⟩
      refine Wx_st (st' := [.int (iI (0))]) rfl ?_
      refine x_if_ne (tgt := 78) C dX12_text_72 (by decide) ⟨by omega, by omega⟩ (fun h5 => by exfalso; omega) (fun h5 => ?_)
      refine x_bipush C dX12_text_75 (by decide) ?_
      exact x_iret C hQ dX12_text_77 (congrArg (fun z : Int => some (Value.int (iI z))) (by first | rfl | omega | (split <;> omega) | (repeat (first | omega | split))))
    · refine x_aload_n (i := 0) C dX12_text_50 rfl rfl ?_
      refine x_getRs (r := 5) C fkM_X12_23 (nlt rfl) rfl (congrFun (congrFun hr 0) 5) dX12_text_51 ?_
      refine x_iload_n (i := 1) C dX12_text_54 rfl rfl ?_
      refine x_iald C (nlt rfl) rfl rfl (nle rfl) (by omega) (by omega) dX12_text_55 ?_
      refine x_eq (b := 0) rfl ?_
      refine x_iload_n (i := 1) C dX12_text_56 rfl rfl ?_
      refine x_callS (As := [.int (iI (0))]) C (by exact (MetX.imp (fun r X' h => (show X' = _ ∧ r = some (.int (iI 2)) by obtain ⟨h1, u, h2, h3⟩ := h; have h4 : u = 2 := (by omega); subst h4; exact ⟨h1, h2⟩)) (m_mostOf (s := 0) ⟨by omega, by omega⟩))) ckX12_265 sm_X12_mostOf rfl rfl (nle rfl) (by exact ⟨nle rfl, nle rfl⟩) dX12_text_57 ?_
      rintro _ _ ⟨rfl, rfl⟩
      refine Wx_st (st' := [.int (iI (2)), .int (iI (0))]) rfl ?_
      refine x_icmp_ne (tgt := 78) C dX12_text_60 (by decide) ⟨by omega, by omega⟩ ⟨by omega, by omega⟩ (fun h8 => ?_) (fun h8 => by exfalso; omega)
      refine x_aload_n (i := 0) C dX12_text_78 rfl rfl ?_
      refine x_iload_n (i := 1) C dX12_text_79 rfl rfl ?_
      refine x_callV (As := [.int (iI (0))]) C (by exact (m_readText0 (by exact hr) (fun _ => rfl) (fun _ => rfl) rfl)) ckX12_271 im_X12_readText se_X12_readText (nlt rfl) rfl rfl rfl rfl (nle rfl) (by exact ⟨nle rfl, nle rfl⟩) dX12_text_80 ?_
      rintro _ Xk9 ⟨rfl, hr, mz⟩
      refine Wx_st (st' := [.int (iI (1))]) rfl ?_
      refine x_if_ne (tgt := 88) C dX12_text_83 (by decide) ⟨by omega, by omega⟩ (fun h10 => ?_) (fun h10 => by exfalso; omega)
      refine x_iload_n (i := 2) C dX12_text_88 rfl rfl ?_
      refine x_iconst C dX12_text_89 ?_
      refine x_icmp_ne (tgt := 102) C dX12_text_90 (by decide) ⟨by omega, by omega⟩ ⟨by omega, by omega⟩ (fun h11 => by exfalso; omega) (fun h11 => ?_)
      refine x_aload_n (i := 0) C dX12_text_93 rfl rfl ?_
      refine x_getRs (r := 5) C fkM_X12_23 (nlt rfl) rfl (congrFun (congrFun hr 0) 5) dX12_text_94 ?_
      refine x_iload_n (i := 1) C dX12_text_97 rfl rfl ?_
      refine x_iald C (nlt rfl) rfl rfl (nle rfl) (by omega) (by omega) dX12_text_98 ?_
      refine x_eq (b := 0) (mz _) ?_
      refine x_goto (tgt := 103) C dX12_text_99 (by decide) ?_
      refine x_istore_n (i := 3) (lv' := [(3, .int (iI (0))), (0, .ref 0), (1, .int (iI (0))), (2, .int (iI (p)))]) C dX12_text_103 rfl (nlt rfl) rfl ?_
      refine x_aload_n (i := 0) C dX12_text_104 rfl rfl ?_
      refine x_getRs (r := 5) C fkM_X12_23 (nlt rfl) rfl (congrFun (congrFun hr 0) 5) dX12_text_105 ?_
      refine x_iload_n (i := 1) C dX12_text_108 rfl rfl ?_
      refine x_dup2_11 C dX12_text_109 rfl rfl ?_
      refine x_iald C (nlt rfl) rfl rfl (nle rfl) (by omega) (by omega) dX12_text_110 ?_
      refine x_eq (b := 0) (mz _) ?_
      refine x_iload_n (i := 2) C dX12_text_111 rfl rfl ?_
      refine x_iconst C dX12_text_112 ?_
      refine x_icmp_ne (tgt := 120) C dX12_text_113 (by decide) ⟨by omega, by omega⟩ ⟨by omega, by omega⟩ (fun h12 => by exfalso; omega) (fun h12 => ?_)
      refine x_iconst C dX12_text_116 ?_
      refine x_goto (tgt := 121) C dX12_text_117 (by decide) ?_
      refine x_iadd C dX12_text_121 ?_
      refine x_eq (b := 1) rfl ?_
      refine x_iast C (nlt rfl) rfl rfl (nle rfl) (by omega) (by omega) dX12_text_122 ?_
      refine x_iload_n (i := 1) C dX12_text_123 rfl rfl ?_
      refine x_lookup (a := 0) (off := 28) (tgt := 152) C dX12_text_124 (by decide) ⟨by omega, by omega⟩ (by decide) (by decide) ?_
      refine x_aload_n (i := 0) C dX12_text_152 rfl rfl ?_
      refine x_aload_n (i := 0) C dX12_text_153 rfl rfl ?_
      refine x_getRs (r := 6) C fkM_X12_26 (nlt rfl) rfl (congrFun (congrFun hr 0) 6) dX12_text_154 ?_
      refine x_bipush C dX12_text_157 (by decide) ?_
      refine x_iload_n (i := 3) C dX12_text_159 rfl rfl ?_
      refine x_callV (As := [.ref 6, .int (iI (51)), .int (iI (0))]) C (by exact (m_store6 (by exact hr))) ckX12_274 im_X12_store se_X12_store (nlt rfl) rfl rfl rfl rfl (nle rfl) (by exact ⟨nle rfl, nle rfl⟩) dX12_text_160 ?_
      rintro _ Xk13 ⟨rfl, hr⟩
      refine Wx_st (st' := []) rfl ?_
      refine x_goto (tgt := 192) C dX12_text_163 (by decide) ?_
      refine x_iload_n (i := 3) C dX12_text_192 rfl rfl ?_
      exact x_iret C hQ dX12_text_193 (congrArg (fun z : Int => some (Value.int (iI z))) (by first | rfl | omega | (split <;> omega) | (repeat (first | omega | split))))
set_option maxHeartbeats 4000000 in
set_option maxRecDepth 100000 in
theorem m_text1 {D : va_G} {ad : Nat → Nat} {cA : Nat → ClassId} {p : Int} (hp : inR p) : MetX (wM D ad cA) yX12_text cX12_text 4 (some .int) 7 158 [.ref 0, .int (iI (1)), .int (iI (p))] x0M (fun r _ => r = some (.int (iI (if p = -1 then -1 else -2)))) := by
  have hr : (x0M).2.2 = rM := rfl
  unfold inR at hp
  refine MetX.mk (own := RX12) (by decide +kernel) rfl (nle rfl) (fun E C hQ => ?_)
  refine Wx_lv (lv' := [(0, .ref 0), (1, .int (iI (1))), (2, .int (iI (p)))]) rfl ?_
  refine x_aload_n (i := 0) C dX12_text_0 rfl rfl ?_
  refine x_iconst C dX12_text_1 ?_
  refine x_putI C pkM_X12_157 (nlt rfl) rfl dX12_text_2 ?_
  refine x_aload_n (i := 0) C dX12_text_5 rfl rfl ?_
  refine x_aload_n (i := 0) C dX12_text_6 rfl rfl ?_
  refine x_getRs (r := 2) C fkM_X12_13 (nlt rfl) rfl (congrFun (congrFun hr 0) 2) dX12_text_7 ?_
  refine x_iconst C dX12_text_10 ?_
  refine x_iald C (nlt rfl) rfl rfl (nle rfl) (by omega) (by omega) dX12_text_11 ?_
  refine x_eq (b := 0) rfl ?_
  refine x_putI C pkM_X12_176 (nlt rfl) rfl dX12_text_12 ?_
  refine x_aload_n (i := 0) C dX12_text_15 rfl rfl ?_
  refine x_getRs (r := 2) C fkM_X12_13 (nlt rfl) rfl (congrFun (congrFun hr 0) 2) dX12_text_16 ?_
  refine x_iconst C dX12_text_19 ?_
  refine x_iconst C dX12_text_20 ?_
  refine x_iast C (nlt rfl) rfl rfl (nle rfl) (by omega) (by omega) dX12_text_21 ?_
  refine x_aload_n (i := 0) C dX12_text_22 rfl rfl ?_
  refine x_getRs (r := 3) C fkM_X12_17 (nlt rfl) rfl (congrFun (congrFun hr 0) 3) dX12_text_23 ?_
  refine x_iconst C dX12_text_26 ?_
  refine x_iconst C dX12_text_27 ?_
  refine x_iast C (nlt rfl) rfl rfl (nle rfl) (by omega) (by omega) dX12_text_28 ?_
  refine x_aload_n (i := 0) C dX12_text_29 rfl rfl ?_
  refine x_getRs (r := 4) C fkM_X12_20 (nlt rfl) rfl (congrFun (congrFun hr 0) 4) dX12_text_30 ?_
  refine x_iconst C dX12_text_33 ?_
  refine x_iconst C dX12_text_34 ?_
  refine x_iast C (nlt rfl) rfl rfl (nle rfl) (by omega) (by omega) dX12_text_35 ?_
  refine x_iload_n (i := 1) C dX12_text_36 rfl rfl ?_
  refine x_iconst C dX12_text_37 ?_
  refine x_iconst C dX12_text_38 ?_
  refine x_callS (As := [.int (iI (1)), .int (iI (0)), .int (iI (2))]) C (by exact (m_in (v := 1) (a := 0) (b := 2) ⟨by omega, by omega⟩ ⟨by omega, by omega⟩ ⟨by omega, by omega⟩)) ckX12_165 sm_X12_in rfl rfl (nle rfl) (by exact ⟨nle rfl, nle rfl⟩) dX12_text_39 ?_
  rintro _ _ ⟨rfl, u1, rfl, h2⟩
  refine Wx_st (st' := [.int (iI (u1))]) rfl ?_
  refine x_if_eq (tgt := 75) C dX12_text_42 (by decide) ⟨by omega, by omega⟩ (fun h3 => ?_) (fun h3 => ?_)
  · refine x_bipush C dX12_text_75 (by decide) ?_
    exact x_iret C hQ dX12_text_77 (congrArg (fun z : Int => some (Value.int (iI z))) (by first | rfl | omega | (split <;> omega) | (repeat (first | omega | split))))
  · refine x_iload_n (i := 2) C dX12_text_45 rfl rfl ?_
    refine x_iconst C dX12_text_46 ?_
    refine x_icmp_ne (tgt := 66) C dX12_text_47 (by decide) ⟨by omega, by omega⟩ ⟨by omega, by omega⟩ (fun h4 => ?_) (fun h4 => ?_)
    · refine x_aload_n (i := 0) C dX12_text_66 rfl rfl ?_
      refine x_iload_n (i := 1) C dX12_text_67 rfl rfl ?_
      refine x_iload_n (i := 2) C dX12_text_68 rfl rfl ?_
      refine x_callV (As := [.int (iI (1)), .int (iI (p))]) C (by exact (m_is0 (s := 1) (k := p) (by exact hr) (by omega) (by omega) rfl ⟨by omega, by omega⟩)) ckX12_268 im_X12_is se_X12_is (nlt rfl) rfl rfl rfl rfl (nle rfl) (by exact ⟨nle rfl, nle rfl⟩) dX12_text_69 ?_
      rintro _ _ ⟨rfl, rfl⟩
      refine Wx_st (st' := [.int (iI (0))]) rfl ?_
      refine x_if_ne (tgt := 78) C dX12_text_72 (by decide) ⟨by omega, by omega⟩ (fun h5 => by exfalso; omega) (fun h5 => ?_)
      refine x_bipush C dX12_text_75 (by decide) ?_
      exact x_iret C hQ dX12_text_77 (congrArg (fun z : Int => some (Value.int (iI z))) (by first | rfl | omega | (split <;> omega) | (repeat (first | omega | split))))
    · refine x_aload_n (i := 0) C dX12_text_50 rfl rfl ?_
      refine x_getRs (r := 5) C fkM_X12_23 (nlt rfl) rfl (congrFun (congrFun hr 0) 5) dX12_text_51 ?_
      refine x_iload_n (i := 1) C dX12_text_54 rfl rfl ?_
      refine x_iald C (nlt rfl) rfl rfl (nle rfl) (by omega) (by omega) dX12_text_55 ?_
      refine x_eq (b := 0) rfl ?_
      refine x_iload_n (i := 1) C dX12_text_56 rfl rfl ?_
      refine x_callS (As := [.int (iI (1))]) C (by exact (MetX.imp (fun r X' h => (show X' = _ ∧ r = some (.int (iI 3)) by obtain ⟨h1, u, h2, h3⟩ := h; have h4 : u = 3 := (by omega); subst h4; exact ⟨h1, h2⟩)) (m_mostOf (s := 1) ⟨by omega, by omega⟩))) ckX12_265 sm_X12_mostOf rfl rfl (nle rfl) (by exact ⟨nle rfl, nle rfl⟩) dX12_text_57 ?_
      rintro _ _ ⟨rfl, rfl⟩
      refine Wx_st (st' := [.int (iI (3)), .int (iI (0))]) rfl ?_
      refine x_icmp_ne (tgt := 78) C dX12_text_60 (by decide) ⟨by omega, by omega⟩ ⟨by omega, by omega⟩ (fun h8 => ?_) (fun h8 => by exfalso; omega)
      refine x_aload_n (i := 0) C dX12_text_78 rfl rfl ?_
      refine x_iload_n (i := 1) C dX12_text_79 rfl rfl ?_
      refine x_callV (As := [.int (iI (1))]) C (by exact (m_readText1 (by exact hr) (fun _ => rfl) (fun _ => rfl) rfl)) ckX12_271 im_X12_readText se_X12_readText (nlt rfl) rfl rfl rfl rfl (nle rfl) (by exact ⟨nle rfl, nle rfl⟩) dX12_text_80 ?_
      rintro _ Xk9 ⟨rfl, hr, mz⟩
      refine Wx_st (st' := [.int (iI (0))]) rfl ?_
      refine x_if_ne (tgt := 88) C dX12_text_83 (by decide) ⟨by omega, by omega⟩ (fun h10 => by exfalso; omega) (fun h10 => ?_)
      refine x_iconst C dX12_text_86 ?_
      exact x_iret C hQ dX12_text_87 (congrArg (fun z : Int => some (Value.int (iI z))) (by first | rfl | omega | (split <;> omega) | (repeat (first | omega | split))))
set_option maxHeartbeats 4000000 in
set_option maxRecDepth 100000 in
theorem m_text2 {D : va_G} {ad : Nat → Nat} {cA : Nat → ClassId} {p : Int} (hp : inR p) : MetX (wM D ad cA) yX12_text cX12_text 4 (some .int) 7 158 [.ref 0, .int (iI (2)), .int (iI (p))] x0M (fun r _ => r = some (.int (iI (if p = -1 then 0 else -2)))) := by
  have hr : (x0M).2.2 = rM := rfl
  unfold inR at hp
  refine MetX.mk (own := RX12) (by decide +kernel) rfl (nle rfl) (fun E C hQ => ?_)
  refine Wx_lv (lv' := [(0, .ref 0), (1, .int (iI (2))), (2, .int (iI (p)))]) rfl ?_
  refine x_aload_n (i := 0) C dX12_text_0 rfl rfl ?_
  refine x_iconst C dX12_text_1 ?_
  refine x_putI C pkM_X12_157 (nlt rfl) rfl dX12_text_2 ?_
  refine x_aload_n (i := 0) C dX12_text_5 rfl rfl ?_
  refine x_aload_n (i := 0) C dX12_text_6 rfl rfl ?_
  refine x_getRs (r := 2) C fkM_X12_13 (nlt rfl) rfl (congrFun (congrFun hr 0) 2) dX12_text_7 ?_
  refine x_iconst C dX12_text_10 ?_
  refine x_iald C (nlt rfl) rfl rfl (nle rfl) (by omega) (by omega) dX12_text_11 ?_
  refine x_eq (b := 0) rfl ?_
  refine x_putI C pkM_X12_176 (nlt rfl) rfl dX12_text_12 ?_
  refine x_aload_n (i := 0) C dX12_text_15 rfl rfl ?_
  refine x_getRs (r := 2) C fkM_X12_13 (nlt rfl) rfl (congrFun (congrFun hr 0) 2) dX12_text_16 ?_
  refine x_iconst C dX12_text_19 ?_
  refine x_iconst C dX12_text_20 ?_
  refine x_iast C (nlt rfl) rfl rfl (nle rfl) (by omega) (by omega) dX12_text_21 ?_
  refine x_aload_n (i := 0) C dX12_text_22 rfl rfl ?_
  refine x_getRs (r := 3) C fkM_X12_17 (nlt rfl) rfl (congrFun (congrFun hr 0) 3) dX12_text_23 ?_
  refine x_iconst C dX12_text_26 ?_
  refine x_iconst C dX12_text_27 ?_
  refine x_iast C (nlt rfl) rfl rfl (nle rfl) (by omega) (by omega) dX12_text_28 ?_
  refine x_aload_n (i := 0) C dX12_text_29 rfl rfl ?_
  refine x_getRs (r := 4) C fkM_X12_20 (nlt rfl) rfl (congrFun (congrFun hr 0) 4) dX12_text_30 ?_
  refine x_iconst C dX12_text_33 ?_
  refine x_iconst C dX12_text_34 ?_
  refine x_iast C (nlt rfl) rfl rfl (nle rfl) (by omega) (by omega) dX12_text_35 ?_
  refine x_iload_n (i := 1) C dX12_text_36 rfl rfl ?_
  refine x_iconst C dX12_text_37 ?_
  refine x_iconst C dX12_text_38 ?_
  refine x_callS (As := [.int (iI (2)), .int (iI (0)), .int (iI (2))]) C (by exact (m_in (v := 2) (a := 0) (b := 2) ⟨by omega, by omega⟩ ⟨by omega, by omega⟩ ⟨by omega, by omega⟩)) ckX12_165 sm_X12_in rfl rfl (nle rfl) (by exact ⟨nle rfl, nle rfl⟩) dX12_text_39 ?_
  rintro _ _ ⟨rfl, u1, rfl, h2⟩
  refine Wx_st (st' := [.int (iI (u1))]) rfl ?_
  refine x_if_eq (tgt := 75) C dX12_text_42 (by decide) ⟨by omega, by omega⟩ (fun h3 => ?_) (fun h3 => ?_)
  · refine x_bipush C dX12_text_75 (by decide) ?_
    exact x_iret C hQ dX12_text_77 (congrArg (fun z : Int => some (Value.int (iI z))) (by first | rfl | omega | (split <;> omega) | (repeat (first | omega | split))))
  · refine x_iload_n (i := 2) C dX12_text_45 rfl rfl ?_
    refine x_iconst C dX12_text_46 ?_
    refine x_icmp_ne (tgt := 66) C dX12_text_47 (by decide) ⟨by omega, by omega⟩ ⟨by omega, by omega⟩ (fun h4 => ?_) (fun h4 => ?_)
    · refine x_aload_n (i := 0) C dX12_text_66 rfl rfl ?_
      refine x_iload_n (i := 1) C dX12_text_67 rfl rfl ?_
      refine x_iload_n (i := 2) C dX12_text_68 rfl rfl ?_
      refine x_callV (As := [.int (iI (2)), .int (iI (p))]) C (by exact (m_is0 (s := 2) (k := p) (by exact hr) (by omega) (by omega) rfl ⟨by omega, by omega⟩)) ckX12_268 im_X12_is se_X12_is (nlt rfl) rfl rfl rfl rfl (nle rfl) (by exact ⟨nle rfl, nle rfl⟩) dX12_text_69 ?_
      rintro _ _ ⟨rfl, rfl⟩
      refine Wx_st (st' := [.int (iI (0))]) rfl ?_
      refine x_if_ne (tgt := 78) C dX12_text_72 (by decide) ⟨by omega, by omega⟩ (fun h5 => by exfalso; omega) (fun h5 => ?_)
      refine x_bipush C dX12_text_75 (by decide) ?_
      exact x_iret C hQ dX12_text_77 (congrArg (fun z : Int => some (Value.int (iI z))) (by first | rfl | omega | (split <;> omega) | (repeat (first | omega | split))))
    · refine x_aload_n (i := 0) C dX12_text_50 rfl rfl ?_
      refine x_getRs (r := 5) C fkM_X12_23 (nlt rfl) rfl (congrFun (congrFun hr 0) 5) dX12_text_51 ?_
      refine x_iload_n (i := 1) C dX12_text_54 rfl rfl ?_
      refine x_iald C (nlt rfl) rfl rfl (nle rfl) (by omega) (by omega) dX12_text_55 ?_
      refine x_eq (b := 0) rfl ?_
      refine x_iload_n (i := 1) C dX12_text_56 rfl rfl ?_
      refine x_callS (As := [.int (iI (2))]) C (by exact (MetX.imp (fun r X' h => (show X' = _ ∧ r = some (.int (iI 2)) by obtain ⟨h1, u, h2, h3⟩ := h; have h4 : u = 2 := (by omega); subst h4; exact ⟨h1, h2⟩)) (m_mostOf (s := 2) ⟨by omega, by omega⟩))) ckX12_265 sm_X12_mostOf rfl rfl (nle rfl) (by exact ⟨nle rfl, nle rfl⟩) dX12_text_57 ?_
      rintro _ _ ⟨rfl, rfl⟩
      refine Wx_st (st' := [.int (iI (2)), .int (iI (0))]) rfl ?_
      refine x_icmp_ne (tgt := 78) C dX12_text_60 (by decide) ⟨by omega, by omega⟩ ⟨by omega, by omega⟩ (fun h8 => ?_) (fun h8 => by exfalso; omega)
      refine x_aload_n (i := 0) C dX12_text_78 rfl rfl ?_
      refine x_iload_n (i := 1) C dX12_text_79 rfl rfl ?_
      refine x_callV (As := [.int (iI (2))]) C (by exact (m_readText2 (by exact hr) (fun _ => rfl) (fun _ => rfl) rfl)) ckX12_271 im_X12_readText se_X12_readText (nlt rfl) rfl rfl rfl rfl (nle rfl) (by exact ⟨nle rfl, nle rfl⟩) dX12_text_80 ?_
      rintro _ Xk9 ⟨rfl, hr, mz⟩
      refine Wx_st (st' := [.int (iI (1))]) rfl ?_
      refine x_if_ne (tgt := 88) C dX12_text_83 (by decide) ⟨by omega, by omega⟩ (fun h10 => ?_) (fun h10 => by exfalso; omega)
      refine x_iload_n (i := 2) C dX12_text_88 rfl rfl ?_
      refine x_iconst C dX12_text_89 ?_
      refine x_icmp_ne (tgt := 102) C dX12_text_90 (by decide) ⟨by omega, by omega⟩ ⟨by omega, by omega⟩ (fun h11 => by exfalso; omega) (fun h11 => ?_)
      refine x_aload_n (i := 0) C dX12_text_93 rfl rfl ?_
      refine x_getRs (r := 5) C fkM_X12_23 (nlt rfl) rfl (congrFun (congrFun hr 0) 5) dX12_text_94 ?_
      refine x_iload_n (i := 1) C dX12_text_97 rfl rfl ?_
      refine x_iald C (nlt rfl) rfl rfl (nle rfl) (by omega) (by omega) dX12_text_98 ?_
      refine x_eq (b := 0) (mz _) ?_
      refine x_goto (tgt := 103) C dX12_text_99 (by decide) ?_
      refine x_istore_n (i := 3) (lv' := [(3, .int (iI (0))), (0, .ref 0), (1, .int (iI (2))), (2, .int (iI (p)))]) C dX12_text_103 rfl (nlt rfl) rfl ?_
      refine x_aload_n (i := 0) C dX12_text_104 rfl rfl ?_
      refine x_getRs (r := 5) C fkM_X12_23 (nlt rfl) rfl (congrFun (congrFun hr 0) 5) dX12_text_105 ?_
      refine x_iload_n (i := 1) C dX12_text_108 rfl rfl ?_
      refine x_dup2_11 C dX12_text_109 rfl rfl ?_
      refine x_iald C (nlt rfl) rfl rfl (nle rfl) (by omega) (by omega) dX12_text_110 ?_
      refine x_eq (b := 0) (mz _) ?_
      refine x_iload_n (i := 2) C dX12_text_111 rfl rfl ?_
      refine x_iconst C dX12_text_112 ?_
      refine x_icmp_ne (tgt := 120) C dX12_text_113 (by decide) ⟨by omega, by omega⟩ ⟨by omega, by omega⟩ (fun h12 => by exfalso; omega) (fun h12 => ?_)
      refine x_iconst C dX12_text_116 ?_
      refine x_goto (tgt := 121) C dX12_text_117 (by decide) ?_
      refine x_iadd C dX12_text_121 ?_
      refine x_eq (b := 1) rfl ?_
      refine x_iast C (nlt rfl) rfl rfl (nle rfl) (by omega) (by omega) dX12_text_122 ?_
      refine x_iload_n (i := 1) C dX12_text_123 rfl rfl ?_
      refine x_lookup (a := 2) (off := 56) (tgt := 180) C dX12_text_124 (by decide) ⟨by omega, by omega⟩ (by decide) (by decide) ?_
      refine x_aload_n (i := 0) C dX12_text_180 rfl rfl ?_
      refine x_aload_n (i := 0) C dX12_text_181 rfl rfl ?_
      refine x_getRs (r := 8) C fkM_X12_32 (nlt rfl) rfl (congrFun (congrFun hr 0) 8) dX12_text_182 ?_
      refine x_sipush C dX12_text_185 (by decide) ?_
      refine x_iload_n (i := 3) C dX12_text_188 rfl rfl ?_
      refine x_callV (As := [.ref 8, .int (iI (331)), .int (iI (0))]) C (by exact (m_store8 (by exact hr))) ckX12_274 im_X12_store se_X12_store (nlt rfl) rfl rfl rfl rfl (nle rfl) (by exact ⟨nle rfl, nle rfl⟩) dX12_text_189 ?_
      rintro _ Xk13 ⟨rfl, hr⟩
      refine Wx_st (st' := []) rfl ?_
      refine x_iload_n (i := 3) C dX12_text_192 rfl rfl ?_
      exact x_iret C hQ dX12_text_193 (congrArg (fun z : Int => some (Value.int (iI z))) (by first | rfl | omega | (split <;> omega) | (repeat (first | omega | split))))
set_option maxHeartbeats 4000000 in
set_option maxRecDepth 100000 in
theorem m_hand0 {D : va_G} {ad : Nat → Nat} {cA : Nat → ClassId} {X : XT} (hr : X.2.2 = rM) (mz : ∀ i, X.1 5 i = 0) {b : Int} (hb : inR b) : MetX (wM D ad cA) yX12_hand cX12_hand 4 (some .boolean) 2 44 [.ref 0, .int (iI (b))] X (fun r X' => X' = X ∧ r = some (.int (iI 0))) := by
  unfold inR at hb
  refine MetX.mk (own := RX12) (by decide +kernel) rfl (nle rfl) (fun E C hQ => ?_)
  refine Wx_lv (lv' := [(0, .ref 0), (1, .int (iI (b)))]) rfl ?_
  refine x_aload_n (i := 0) C dX12_hand_0 rfl rfl ?_
  refine x_iconst C dX12_hand_1 ?_
  refine x_iload_n (i := 1) C dX12_hand_2 rfl rfl ?_
  refine x_callV (As := [.int (iI (0)), .int (iI (b))]) C (by exact (m_is0 (s := 0) (k := b) (by exact hr) (by omega) (by omega) (mz _) ⟨by omega, by omega⟩)) ckX12_268 im_X12_is se_X12_is (nlt rfl) rfl rfl rfl rfl (nle rfl) (by exact ⟨nle rfl, nle rfl⟩) dX12_hand_3 ?_
  rintro _ _ ⟨rfl, rfl⟩
  refine Wx_st (st' := [.int (iI (0))]) rfl ?_
  refine x_if_ne (tgt := 11) C dX12_hand_6 (by decide) ⟨by omega, by omega⟩ (fun h1 => by exfalso; omega) (fun h1 => ?_)
  refine x_iconst C dX12_hand_9 ?_
  exact x_zret C hQ (by omega) dX12_hand_10 (⟨rfl, rfl⟩)
set_option maxHeartbeats 4000000 in
set_option maxRecDepth 100000 in
theorem m_lay0 {D : va_G} {ad : Nat → Nat} {cA : Nat → ClassId} {X : XT} (hr : X.2.2 = rM) (mz : ∀ i, X.1 5 i = 0) {b p q : Int} (hb : inR b) (hp : inR p) (hq : inR q) : MetX (wM D ad cA) yX12_lay cX12_lay 4 (some .boolean) 3 67 [.ref 0, .int (iI (b)), .int (iI (p)), .int (iI (q))] X (fun r X' => X' = X ∧ r = some (.int (iI 0))) := by
  unfold inR at hb hp hq
  refine MetX.mk (own := RX12) (by decide +kernel) rfl (nle rfl) (fun E C hQ => ?_)
  refine Wx_lv (lv' := [(0, .ref 0), (1, .int (iI (b))), (2, .int (iI (p))), (3, .int (iI (q)))]) rfl ?_
  refine x_aload_n (i := 0) C dX12_lay_0 rfl rfl ?_
  refine x_iload_n (i := 1) C dX12_lay_1 rfl rfl ?_
  refine x_callV (As := [.int (iI (b))]) C (by exact (m_hand0 (b := b) (by exact hr) mz ⟨by omega, by omega⟩)) ckX12_302 im_X12_hand se_X12_hand (nlt rfl) rfl rfl rfl rfl (nle rfl) (by exact ⟨nle rfl, nle rfl⟩) dX12_lay_2 ?_
  rintro _ _ ⟨rfl, rfl⟩
  refine Wx_st (st' := [.int (iI (0))]) rfl ?_
  refine x_if_eq (tgt := 31) C dX12_lay_5 (by decide) ⟨by omega, by omega⟩ (fun h1 => ?_) (fun h1 => by exfalso; omega)
  refine x_iconst C dX12_lay_31 ?_
  exact x_zret C hQ (by omega) dX12_lay_32 (⟨rfl, rfl⟩)
set_option maxHeartbeats 4000000 in
set_option maxRecDepth 100000 in
theorem m_isMan0 {D : va_G} {ad : Nat → Nat} {cA : Nat → ClassId} {X : XT} (hr : X.2.2 = rM) (mz : ∀ i, X.1 5 i = 0) {b p : Int} (hb : inR b) (hp : inR p) : MetX (wM D ad cA) yX12_isMan cX12_isMan 3 (some .boolean) 3 67 [.ref 0, .int (iI (b)), .int (iI (p))] X (fun r X' => X' = X ∧ r = some (.int (iI 0))) := by
  unfold inR at hb hp
  refine MetX.mk (own := RX12) (by decide +kernel) rfl (nle rfl) (fun E C hQ => ?_)
  refine Wx_lv (lv' := [(0, .ref 0), (1, .int (iI (b))), (2, .int (iI (p)))]) rfl ?_
  refine x_aload_n (i := 0) C dX12_isMan_0 rfl rfl ?_
  refine x_iload_n (i := 1) C dX12_isMan_1 rfl rfl ?_
  refine x_callV (As := [.int (iI (b))]) C (by exact (m_hand0 (b := b) (by exact hr) mz ⟨by omega, by omega⟩)) ckX12_302 im_X12_hand se_X12_hand (nlt rfl) rfl rfl rfl rfl (nle rfl) (by exact ⟨nle rfl, nle rfl⟩) dX12_isMan_2 ?_
  rintro _ _ ⟨rfl, rfl⟩
  refine Wx_st (st' := [.int (iI (0))]) rfl ?_
  refine x_if_eq (tgt := 26) C dX12_isMan_5 (by decide) ⟨by omega, by omega⟩ (fun h1 => ?_) (fun h1 => by exfalso; omega)
  refine x_iconst C dX12_isMan_26 ?_
  exact x_zret C hQ (by omega) dX12_isMan_27 (⟨rfl, rfl⟩)
set_option maxHeartbeats 4000000 in
set_option maxRecDepth 100000 in
theorem m_canAsk0 {D : va_G} {ad : Nat → Nat} {cA : Nat → ClassId} {X : XT} (hr : X.2.2 = rM) (mz : ∀ i, X.1 5 i = 0) {b p q : Int} (hb : inR b) (hp : inR p) (hq : inR q) : MetX (wM D ad cA) yX12_canAsk cX12_canAsk 4 (some .boolean) 3 67 [.ref 0, .int (iI (b)), .int (iI (p)), .int (iI (q))] X (fun r X' => X' = X ∧ r = some (.int (iI 0))) := by
  unfold inR at hb hp hq
  refine MetX.mk (own := RX12) (by decide +kernel) rfl (nle rfl) (fun E C hQ => ?_)
  refine Wx_lv (lv' := [(0, .ref 0), (1, .int (iI (b))), (2, .int (iI (p))), (3, .int (iI (q)))]) rfl ?_
  refine x_aload_n (i := 0) C dX12_canAsk_0 rfl rfl ?_
  refine x_iload_n (i := 1) C dX12_canAsk_1 rfl rfl ?_
  refine x_callV (As := [.int (iI (b))]) C (by exact (m_hand0 (b := b) (by exact hr) mz ⟨by omega, by omega⟩)) ckX12_302 im_X12_hand se_X12_hand (nlt rfl) rfl rfl rfl rfl (nle rfl) (by exact ⟨nle rfl, nle rfl⟩) dX12_canAsk_2 ?_
  rintro _ _ ⟨rfl, rfl⟩
  refine Wx_st (st' := [.int (iI (0))]) rfl ?_
  refine x_if_eq (tgt := 30) C dX12_canAsk_5 (by decide) ⟨by omega, by omega⟩ (fun h1 => ?_) (fun h1 => by exfalso; omega)
  refine x_iconst C dX12_canAsk_30 ?_
  exact x_zret C hQ (by omega) dX12_canAsk_31 (⟨rfl, rfl⟩)
set_option maxHeartbeats 4000000 in
set_option maxRecDepth 100000 in
theorem m_layGame0 {D : va_G} {ad : Nat → Nat} {cA : Nat → ClassId} {X : XT} (hr : X.2.2 = rM) (mz : ∀ i, X.1 5 i = 0) {b p q : Int} (hb : inR b) (hp : inR p) (hq : inR q) : MetX (wM D ad cA) yX12_layGame cX12_layGame 4 (some .boolean) 13 315 [.ref 0, .int (iI (b)), .int (iI (p)), .int (iI (q))] X (fun r X' => X' = X ∧ r = some (.int (iI 0))) := by
  unfold inR at hb hp hq
  refine MetX.mk (own := RX12) (by decide +kernel) rfl (nle rfl) (fun E C hQ => ?_)
  refine Wx_lv (lv' := [(0, .ref 0), (1, .int (iI (b))), (2, .int (iI (p))), (3, .int (iI (q)))]) rfl ?_
  refine x_aload_n (i := 0) C dX12_layGame_0 rfl rfl ?_
  refine x_iconst C dX12_layGame_1 ?_
  refine x_iload_n (i := 2) C dX12_layGame_2 rfl rfl ?_
  refine x_callV (As := [.int (iI (2)), .int (iI (p))]) C (by exact (m_is0 (s := 2) (k := p) (by exact hr) (by omega) (by omega) (mz _) ⟨by omega, by omega⟩)) ckX12_268 im_X12_is se_X12_is (nlt rfl) rfl rfl rfl rfl (nle rfl) (by exact ⟨nle rfl, nle rfl⟩) dX12_layGame_3 ?_
  rintro _ _ ⟨rfl, rfl⟩
  refine Wx_st (st' := [.int (iI (0))]) rfl ?_
  refine x_if_eq (tgt := 17) C dX12_layGame_6 (by decide) ⟨by omega, by omega⟩ (fun h1 => ?_) (fun h1 => by exfalso; omega)
  refine x_iconst C dX12_layGame_17 ?_
  exact x_zret C hQ (by omega) dX12_layGame_18 (⟨rfl, rfl⟩)
set_option maxHeartbeats 4000000 in
set_option maxRecDepth 100000 in
theorem m_isMove0 {D : va_G} {ad : Nat → Nat} {cA : Nat → ClassId} {X : XT} (hr : X.2.2 = rM) (mz : ∀ i, X.1 5 i = 0) {b p q : Int} (hb : inR b) (hp : inR p) (hq : inR q) : MetX (wM D ad cA) yX12_isMove cX12_isMove 4 (some .boolean) 14 338 [.ref 0, .int (iI (b)), .int (iI (p)), .int (iI (q))] X (fun r X' => X' = X ∧ r = some (.int (iI 0))) := by
  unfold inR at hb hp hq
  refine MetX.mk (own := RX12) (by decide +kernel) rfl (nle rfl) (fun E C hQ => ?_)
  refine Wx_lv (lv' := [(0, .ref 0), (1, .int (iI (b))), (2, .int (iI (p))), (3, .int (iI (q)))]) rfl ?_
  refine x_aload_n (i := 0) C dX12_isMove_0 rfl rfl ?_
  refine x_iconst C dX12_isMove_1 ?_
  refine x_iload_n (i := 2) C dX12_isMove_2 rfl rfl ?_
  refine x_callV (As := [.int (iI (2)), .int (iI (p))]) C (by exact (m_is0 (s := 2) (k := p) (by exact hr) (by omega) (by omega) (mz _) ⟨by omega, by omega⟩)) ckX12_268 im_X12_is se_X12_is (nlt rfl) rfl rfl rfl rfl (nle rfl) (by exact ⟨nle rfl, nle rfl⟩) dX12_isMove_3 ?_
  rintro _ _ ⟨rfl, rfl⟩
  refine Wx_st (st' := [.int (iI (0))]) rfl ?_
  refine x_if_eq (tgt := 52) C dX12_isMove_6 (by decide) ⟨by omega, by omega⟩ (fun h1 => ?_) (fun h1 => by exfalso; omega)
  refine x_iconst C dX12_isMove_52 ?_
  exact x_zret C hQ (by omega) dX12_isMove_53 (⟨rfl, rfl⟩)
set_option maxHeartbeats 4000000 in
set_option maxRecDepth 100000 in
theorem m_board {D : va_G} {ad : Nat → Nat} {cA : Nat → ClassId} {a b : Int} (ha : inR a) (hb : inR b) : MetX (wM D ad cA) yX12_board cX12_board 3 (some .int) 3 67 [.ref 0, .int (iI (a)), .int (iI (b))] x0M (fun r _ => r = some (.int (iI (-1)))) := by
  have hr : (x0M).2.2 = rM := rfl
  unfold inR at ha hb
  refine MetX.mk (own := RX12) (by decide +kernel) rfl (nle rfl) (fun E C hQ => ?_)
  refine Wx_lv (lv' := [(0, .ref 0), (1, .int (iI (a))), (2, .int (iI (b)))]) rfl ?_
  refine x_aload_n (i := 0) C dX12_board_0 rfl rfl ?_
  refine x_iconst C dX12_board_1 ?_
  refine x_putI C pkM_X12_157 (nlt rfl) rfl dX12_board_2 ?_
  refine x_aload_n (i := 0) C dX12_board_5 rfl rfl ?_
  refine x_iload_n (i := 1) C dX12_board_6 rfl rfl ?_
  refine x_callV (As := [.int (iI (a))]) C (by exact (m_hand0 (b := a) (by exact hr) (fun _ => rfl) ⟨by omega, by omega⟩)) ckX12_302 im_X12_hand se_X12_hand (nlt rfl) rfl rfl rfl rfl (nle rfl) (by exact ⟨nle rfl, nle rfl⟩) dX12_board_7 ?_
  rintro _ _ ⟨rfl, rfl⟩
  refine Wx_st (st' := [.int (iI (0))]) rfl ?_
  refine x_if_eq (tgt := 22) C dX12_board_10 (by decide) ⟨by omega, by omega⟩ (fun h1 => ?_) (fun h1 => by exfalso; omega)
  refine x_iconst C dX12_board_22 ?_
  exact x_iret C hQ dX12_board_23 (congrArg (fun z : Int => some (Value.int (iI z))) (by first | rfl | omega | (split <;> omega) | (repeat (first | omega | split))))
set_option maxHeartbeats 4000000 in
set_option maxRecDepth 100000 in
theorem m_field {D : va_G} {ad : Nat → Nat} {cA : Nat → ClassId} {a b : Int} (ha : inR a) (hb : inR b) : MetX (wM D ad cA) yX12_field cX12_field 4 (some .int) 3 67 [.ref 0, .int (iI (a)), .int (iI (b))] x0M (fun r _ => r = some (.int (iI (-1)))) := by
  have hr : (x0M).2.2 = rM := rfl
  unfold inR at ha hb
  refine MetX.mk (own := RX12) (by decide +kernel) rfl (nle rfl) (fun E C hQ => ?_)
  refine Wx_lv (lv' := [(0, .ref 0), (1, .int (iI (a))), (2, .int (iI (b)))]) rfl ?_
  refine x_aload_n (i := 0) C dX12_field_0 rfl rfl ?_
  refine x_iconst C dX12_field_1 ?_
  refine x_putI C pkM_X12_157 (nlt rfl) rfl dX12_field_2 ?_
  refine x_aload_n (i := 0) C dX12_field_5 rfl rfl ?_
  refine x_iload_n (i := 1) C dX12_field_6 rfl rfl ?_
  refine x_callV (As := [.int (iI (a))]) C (by exact (m_hand0 (b := a) (by exact hr) (fun _ => rfl) ⟨by omega, by omega⟩)) ckX12_302 im_X12_hand se_X12_hand (nlt rfl) rfl rfl rfl rfl (nle rfl) (by exact ⟨nle rfl, nle rfl⟩) dX12_field_7 ?_
  rintro _ _ ⟨rfl, rfl⟩
  refine Wx_st (st' := [.int (iI (0))]) rfl ?_
  refine x_if_eq (tgt := 27) C dX12_field_10 (by decide) ⟨by omega, by omega⟩ (fun h1 => ?_) (fun h1 => by exfalso; omega)
  refine x_iconst C dX12_field_27 ?_
  exact x_iret C hQ dX12_field_28 (congrArg (fun z : Int => some (Value.int (iI z))) (by first | rfl | omega | (split <;> omega) | (repeat (first | omega | split))))
set_option maxHeartbeats 4000000 in
set_option maxRecDepth 100000 in
theorem m_man {D : va_G} {ad : Nat → Nat} {cA : Nat → ClassId} {a b c : Int} (ha : inR a) (hb : inR b) (hc : inR c) : MetX (wM D ad cA) yX12_man cX12_man 4 (some .int) 3 67 [.ref 0, .int (iI (a)), .int (iI (b)), .int (iI (c))] x0M (fun r _ => r = some (.int (iI (-1)))) := by
  have hr : (x0M).2.2 = rM := rfl
  unfold inR at ha hb hc
  refine MetX.mk (own := RX12) (by decide +kernel) rfl (nle rfl) (fun E C hQ => ?_)
  refine Wx_lv (lv' := [(0, .ref 0), (1, .int (iI (a))), (2, .int (iI (b))), (3, .int (iI (c)))]) rfl ?_
  refine x_aload_n (i := 0) C dX12_man_0 rfl rfl ?_
  refine x_iconst C dX12_man_1 ?_
  refine x_putI C pkM_X12_157 (nlt rfl) rfl dX12_man_2 ?_
  refine x_aload_n (i := 0) C dX12_man_5 rfl rfl ?_
  refine x_iload_n (i := 1) C dX12_man_6 rfl rfl ?_
  refine x_callV (As := [.int (iI (a))]) C (by exact (m_hand0 (b := a) (by exact hr) (fun _ => rfl) ⟨by omega, by omega⟩)) ckX12_302 im_X12_hand se_X12_hand (nlt rfl) rfl rfl rfl rfl (nle rfl) (by exact ⟨nle rfl, nle rfl⟩) dX12_man_7 ?_
  rintro _ _ ⟨rfl, rfl⟩
  refine Wx_st (st' := [.int (iI (0))]) rfl ?_
  refine x_if_eq (tgt := 58) C dX12_man_10 (by decide) ⟨by omega, by omega⟩ (fun h1 => ?_) (fun h1 => by exfalso; omega)
  refine x_iconst C dX12_man_58 ?_
  exact x_iret C hQ dX12_man_59 (congrArg (fun z : Int => some (Value.int (iI z))) (by first | rfl | omega | (split <;> omega) | (repeat (first | omega | split))))
set_option maxHeartbeats 4000000 in
set_option maxRecDepth 100000 in
theorem m_rule {D : va_G} {ad : Nat → Nat} {cA : Nat → ClassId} {a b : Int} (ha : inR a) (hb : inR b) : MetX (wM D ad cA) yX12_rule cX12_rule 4 (some .int) 2 44 [.ref 0, .int (iI (a)), .int (iI (b))] x0M (fun r _ => r = some (.int (iI (-2)))) := by
  have hr : (x0M).2.2 = rM := rfl
  unfold inR at ha hb
  refine MetX.mk (own := RX12) (by decide +kernel) rfl (nle rfl) (fun E C hQ => ?_)
  refine Wx_lv (lv' := [(0, .ref 0), (1, .int (iI (a))), (2, .int (iI (b)))]) rfl ?_
  refine x_aload_n (i := 0) C dX12_rule_0 rfl rfl ?_
  refine x_iconst C dX12_rule_1 ?_
  refine x_putI C pkM_X12_157 (nlt rfl) rfl dX12_rule_2 ?_
  refine x_aload_n (i := 0) C dX12_rule_5 rfl rfl ?_
  refine x_iconst C dX12_rule_6 ?_
  refine x_iload_n (i := 1) C dX12_rule_7 rfl rfl ?_
  refine x_callV (As := [.int (iI (1)), .int (iI (a))]) C (by exact (m_is0 (s := 1) (k := a) (by exact hr) (by omega) (by omega) rfl ⟨by omega, by omega⟩)) ckX12_268 im_X12_is se_X12_is (nlt rfl) rfl rfl rfl rfl (nle rfl) (by exact ⟨nle rfl, nle rfl⟩) dX12_rule_8 ?_
  rintro _ _ ⟨rfl, rfl⟩
  refine Wx_st (st' := [.int (iI (0))]) rfl ?_
  refine x_if_ne (tgt := 17) C dX12_rule_11 (by decide) ⟨by omega, by omega⟩ (fun h1 => by exfalso; omega) (fun h1 => ?_)
  refine x_bipush C dX12_rule_14 (by decide) ?_
  exact x_iret C hQ dX12_rule_16 (congrArg (fun z : Int => some (Value.int (iI z))) (by first | rfl | omega | (split <;> omega) | (repeat (first | omega | split))))
set_option maxHeartbeats 4000000 in
set_option maxRecDepth 100000 in
theorem m_ends {D : va_G} {ad : Nat → Nat} {cA : Nat → ClassId} {a b c : Int} (ha : inR a) (hb : inR b) (hc : inR c) : MetX (wM D ad cA) yX12_ends cX12_ends 4 (some .long) 11 268 [.ref 0, .int (iI (a)), .int (iI (b)), .int (iI (c))] x0M (fun r _ => r = some (.long (-1))) := by
  have hr : (x0M).2.2 = rM := rfl
  unfold inR at ha hb hc
  refine MetX.mk (own := RX12) (by decide +kernel) rfl (nle rfl) (fun E C hQ => ?_)
  refine Wx_lv (lv' := [(0, .ref 0), (1, .int (iI (a))), (2, .int (iI (b))), (3, .int (iI (c)))]) rfl ?_
  refine x_aload_n (i := 0) C dX12_ends_0 rfl rfl ?_
  refine x_iconst C dX12_ends_1 ?_
  refine x_putI C pkM_X12_157 (nlt rfl) rfl dX12_ends_2 ?_
  refine x_aload_n (i := 0) C dX12_ends_5 rfl rfl ?_
  refine x_iload_n (i := 1) C dX12_ends_6 rfl rfl ?_
  refine x_iload_n (i := 2) C dX12_ends_7 rfl rfl ?_
  refine x_iload_n (i := 3) C dX12_ends_8 rfl rfl ?_
  refine x_callV (As := [.int (iI (a)), .int (iI (b)), .int (iI (c))]) C (by exact (m_lay0 (b := a) (p := b) (q := c) (by exact hr) (fun _ => rfl) ⟨by omega, by omega⟩ ⟨by omega, by omega⟩ ⟨by omega, by omega⟩)) ckX12_389 im_X12_lay se_X12_lay (nlt rfl) rfl rfl rfl rfl (nle rfl) (by exact ⟨nle rfl, nle rfl⟩) dX12_ends_9 ?_
  rintro _ _ ⟨rfl, rfl⟩
  refine Wx_st (st' := [.int (iI (0))]) rfl ?_
  refine x_if_eq (tgt := 23) C dX12_ends_12 (by decide) ⟨by omega, by omega⟩ (fun h1 => ?_) (fun h1 => by exfalso; omega)
  refine x_ldc2 C dX12_ends_23 cnX12_395 ?_
  exact x_lret C hQ dX12_ends_26 (rfl)
set_option maxHeartbeats 4000000 in
set_option maxRecDepth 100000 in
theorem m_ways {D : va_G} {ad : Nat → Nat} {cA : Nat → ClassId} {a b c d : Int} (ha : inR a) (hb : inR b) (hc : inR c) (hd : inR d) : MetX (wM D ad cA) yX12_ways cX12_ways 5 (some .int) 7 179 [.ref 0, .int (iI (a)), .int (iI (b)), .int (iI (c)), .int (iI (d))] x0M (fun r _ => r = some (.int (iI (-1)))) := by
  have hr : (x0M).2.2 = rM := rfl
  unfold inR at ha hb hc hd
  refine MetX.mk (own := RX12) (by decide +kernel) rfl (nle rfl) (fun E C hQ => ?_)
  refine Wx_lv (lv' := [(0, .ref 0), (1, .int (iI (a))), (2, .int (iI (b))), (3, .int (iI (c))), (4, .int (iI (d)))]) rfl ?_
  refine x_aload_n (i := 0) C dX12_ways_0 rfl rfl ?_
  refine x_iconst C dX12_ways_1 ?_
  refine x_putI C pkM_X12_157 (nlt rfl) rfl dX12_ways_2 ?_
  refine x_aload_n (i := 0) C dX12_ways_5 rfl rfl ?_
  refine x_iload_n (i := 1) C dX12_ways_6 rfl rfl ?_
  refine x_iload_n (i := 2) C dX12_ways_7 rfl rfl ?_
  refine x_iload_n (i := 3) C dX12_ways_8 rfl rfl ?_
  refine x_callV (As := [.int (iI (a)), .int (iI (b)), .int (iI (c))]) C (by exact (m_lay0 (b := a) (p := b) (q := c) (by exact hr) (fun _ => rfl) ⟨by omega, by omega⟩ ⟨by omega, by omega⟩ ⟨by omega, by omega⟩)) ckX12_389 im_X12_lay se_X12_lay (nlt rfl) rfl rfl rfl rfl (nle rfl) (by exact ⟨nle rfl, nle rfl⟩) dX12_ways_9 ?_
  rintro _ _ ⟨rfl, rfl⟩
  refine Wx_st (st' := [.int (iI (0))]) rfl ?_
  refine x_if_eq (tgt := 30) C dX12_ways_12 (by decide) ⟨by omega, by omega⟩ (fun h1 => ?_) (fun h1 => by exfalso; omega)
  refine x_iconst C dX12_ways_30 ?_
  exact x_iret C hQ dX12_ways_31 (congrArg (fun z : Int => some (Value.int (iI z))) (by first | rfl | omega | (split <;> omega) | (repeat (first | omega | split))))
set_option maxHeartbeats 4000000 in
set_option maxRecDepth 100000 in
theorem m_path {D : va_G} {ad : Nat → Nat} {cA : Nat → ClassId} {a b c d e : Int} (ha : inR a) (hb : inR b) (hc : inR c) (hd : inR d) (he : inR e) : MetX (wM D ad cA) yX12_path cX12_path 8 (some .int) 7 179 [.ref 0, .int (iI (a)), .int (iI (b)), .int (iI (c)), .int (iI (d)), .int (iI (e))] x0M (fun r _ => r = some (.int (iI (-1)))) := by
  have hr : (x0M).2.2 = rM := rfl
  unfold inR at ha hb hc hd he
  refine MetX.mk (own := RX12) (by decide +kernel) rfl (nle rfl) (fun E C hQ => ?_)
  refine Wx_lv (lv' := [(0, .ref 0), (1, .int (iI (a))), (2, .int (iI (b))), (3, .int (iI (c))), (4, .int (iI (d))), (5, .int (iI (e)))]) rfl ?_
  refine x_aload_n (i := 0) C dX12_path_0 rfl rfl ?_
  refine x_iconst C dX12_path_1 ?_
  refine x_putI C pkM_X12_157 (nlt rfl) rfl dX12_path_2 ?_
  refine x_aload_n (i := 0) C dX12_path_5 rfl rfl ?_
  refine x_iload_n (i := 1) C dX12_path_6 rfl rfl ?_
  refine x_iload_n (i := 2) C dX12_path_7 rfl rfl ?_
  refine x_iload_n (i := 3) C dX12_path_8 rfl rfl ?_
  refine x_callV (As := [.int (iI (a)), .int (iI (b)), .int (iI (c))]) C (by exact (m_lay0 (b := a) (p := b) (q := c) (by exact hr) (fun _ => rfl) ⟨by omega, by omega⟩ ⟨by omega, by omega⟩ ⟨by omega, by omega⟩)) ckX12_389 im_X12_lay se_X12_lay (nlt rfl) rfl rfl rfl rfl (nle rfl) (by exact ⟨nle rfl, nle rfl⟩) dX12_path_9 ?_
  rintro _ _ ⟨rfl, rfl⟩
  refine Wx_st (st' := [.int (iI (0))]) rfl ?_
  refine x_if_eq (tgt := 30) C dX12_path_12 (by decide) ⟨by omega, by omega⟩ (fun h1 => ?_) (fun h1 => by exfalso; omega)
  refine x_iconst C dX12_path_30 ?_
  exact x_iret C hQ dX12_path_31 (congrArg (fun z : Int => some (Value.int (iI z))) (by first | rfl | omega | (split <;> omega) | (repeat (first | omega | split))))
set_option maxHeartbeats 4000000 in
set_option maxRecDepth 100000 in
theorem m_move {D : va_G} {ad : Nat → Nat} {cA : Nat → ClassId} {a b c : Int} (ha : inR a) (hb : inR b) (hc : inR c) : MetX (wM D ad cA) yX12_move cX12_move 4 (some .int) 2 44 [.ref 0, .int (iI (a)), .int (iI (b)), .int (iI (c))] x0M (fun r _ => r = some (.int (iI (-2)))) := by
  have hr : (x0M).2.2 = rM := rfl
  unfold inR at ha hb hc
  refine MetX.mk (own := RX12) (by decide +kernel) rfl (nle rfl) (fun E C hQ => ?_)
  refine Wx_lv (lv' := [(0, .ref 0), (1, .int (iI (a))), (2, .int (iI (b))), (3, .int (iI (c)))]) rfl ?_
  refine x_aload_n (i := 0) C dX12_move_0 rfl rfl ?_
  refine x_iconst C dX12_move_1 ?_
  refine x_putI C pkM_X12_157 (nlt rfl) rfl dX12_move_2 ?_
  refine x_aload_n (i := 0) C dX12_move_5 rfl rfl ?_
  refine x_iconst C dX12_move_6 ?_
  refine x_iload_n (i := 1) C dX12_move_7 rfl rfl ?_
  refine x_callV (As := [.int (iI (2)), .int (iI (a))]) C (by exact (m_is0 (s := 2) (k := a) (by exact hr) (by omega) (by omega) rfl ⟨by omega, by omega⟩)) ckX12_268 im_X12_is se_X12_is (nlt rfl) rfl rfl rfl rfl (nle rfl) (by exact ⟨nle rfl, nle rfl⟩) dX12_move_8 ?_
  rintro _ _ ⟨rfl, rfl⟩
  refine Wx_st (st' := [.int (iI (0))]) rfl ?_
  refine x_if_ne (tgt := 17) C dX12_move_11 (by decide) ⟨by omega, by omega⟩ (fun h1 => by exfalso; omega) (fun h1 => ?_)
  refine x_bipush C dX12_move_14 (by decide) ?_
  exact x_iret C hQ dX12_move_16 (congrArg (fun z : Int => some (Value.int (iI z))) (by first | rfl | omega | (split <;> omega) | (repeat (first | omega | split))))
set_option maxHeartbeats 4000000 in
set_option maxRecDepth 100000 in
theorem m_stop {D : va_G} {ad : Nat → Nat} {cA : Nat → ClassId} {a b : Int} (ha : inR a) (hb : inR b) : MetX (wM D ad cA) yX12_stop cX12_stop 3 (some .int) 13 315 [.ref 0, .int (iI (a)), .int (iI (b))] x0M (fun r _ => r = some (.int (iI (-1)))) := by
  have hr : (x0M).2.2 = rM := rfl
  unfold inR at ha hb
  refine MetX.mk (own := RX12) (by decide +kernel) rfl (nle rfl) (fun E C hQ => ?_)
  refine Wx_lv (lv' := [(0, .ref 0), (1, .int (iI (a))), (2, .int (iI (b)))]) rfl ?_
  refine x_aload_n (i := 0) C dX12_stop_0 rfl rfl ?_
  refine x_iconst C dX12_stop_1 ?_
  refine x_putI C pkM_X12_157 (nlt rfl) rfl dX12_stop_2 ?_
  refine x_aload_n (i := 0) C dX12_stop_5 rfl rfl ?_
  refine x_iconst C dX12_stop_6 ?_
  refine x_iload_n (i := 2) C dX12_stop_7 rfl rfl ?_
  refine x_callV (As := [.int (iI (2)), .int (iI (b))]) C (by exact (m_is0 (s := 2) (k := b) (by exact hr) (by omega) (by omega) rfl ⟨by omega, by omega⟩)) ckX12_268 im_X12_is se_X12_is (nlt rfl) rfl rfl rfl rfl (nle rfl) (by exact ⟨nle rfl, nle rfl⟩) dX12_stop_8 ?_
  rintro _ _ ⟨rfl, rfl⟩
  refine Wx_st (st' := [.int (iI (0))]) rfl ?_
  refine x_if_eq (tgt := 22) C dX12_stop_11 (by decide) ⟨by omega, by omega⟩ (fun h1 => ?_) (fun h1 => by exfalso; omega)
  refine x_iconst C dX12_stop_22 ?_
  exact x_iret C hQ dX12_stop_23 (congrArg (fun z : Int => some (Value.int (iI z))) (by first | rfl | omega | (split <;> omega) | (repeat (first | omega | split))))
set_option maxHeartbeats 4000000 in
set_option maxRecDepth 100000 in
theorem m_state {D : va_G} {ad : Nat → Nat} {cA : Nat → ClassId} {a b c d : Int} (ha : inR a) (hb : inR b) (hc : inR c) (hd : inR d) : MetX (wM D ad cA) yX12_state cX12_state 5 (some .int) 14 338 [.ref 0, .int (iI (a)), .int (iI (b)), .int (iI (c)), .int (iI (d))] x0M (fun r _ => r = some (.int (iI (-2)))) := by
  have hr : (x0M).2.2 = rM := rfl
  unfold inR at ha hb hc hd
  refine MetX.mk (own := RX12) (by decide +kernel) rfl (nle rfl) (fun E C hQ => ?_)
  refine Wx_lv (lv' := [(0, .ref 0), (1, .int (iI (a))), (2, .int (iI (b))), (3, .int (iI (c))), (4, .int (iI (d)))]) rfl ?_
  refine x_aload_n (i := 0) C dX12_state_0 rfl rfl ?_
  refine x_iconst C dX12_state_1 ?_
  refine x_putI C pkM_X12_157 (nlt rfl) rfl dX12_state_2 ?_
  refine x_aload_n (i := 0) C dX12_state_5 rfl rfl ?_
  refine x_iload_n (i := 1) C dX12_state_6 rfl rfl ?_
  refine x_iload_n (i := 2) C dX12_state_7 rfl rfl ?_
  refine x_iload_n (i := 3) C dX12_state_8 rfl rfl ?_
  refine x_callV (As := [.int (iI (a)), .int (iI (b)), .int (iI (c))]) C (by exact (m_layGame0 (b := a) (p := b) (q := c) (by exact hr) (fun _ => rfl) ⟨by omega, by omega⟩ ⟨by omega, by omega⟩ ⟨by omega, by omega⟩)) ckX12_470 im_X12_layGame se_X12_layGame (nlt rfl) rfl rfl rfl rfl (nle rfl) (by exact ⟨nle rfl, nle rfl⟩) dX12_state_9 ?_
  rintro _ _ ⟨rfl, rfl⟩
  refine Wx_st (st' := [.int (iI (0))]) rfl ?_
  refine x_if_eq (tgt := 24) C dX12_state_12 (by decide) ⟨by omega, by omega⟩ (fun h1 => ?_) (fun h1 => by exfalso; omega)
  refine x_bipush C dX12_state_24 (by decide) ?_
  exact x_iret C hQ dX12_state_26 (congrArg (fun z : Int => some (Value.int (iI z))) (by first | rfl | omega | (split <;> omega) | (repeat (first | omega | split))))
set_option maxHeartbeats 4000000 in
set_option maxRecDepth 100000 in
theorem m_may {D : va_G} {ad : Nat → Nat} {cA : Nat → ClassId} {a b c d : Int} (ha : inR a) (hb : inR b) (hc : inR c) (hd : inR d) : MetX (wM D ad cA) yX12_may cX12_may 5 (some .long) 14 338 [.ref 0, .int (iI (a)), .int (iI (b)), .int (iI (c)), .int (iI (d))] x0M (fun r _ => r = some (.long (-1))) := by
  have hr : (x0M).2.2 = rM := rfl
  unfold inR at ha hb hc hd
  refine MetX.mk (own := RX12) (by decide +kernel) rfl (nle rfl) (fun E C hQ => ?_)
  refine Wx_lv (lv' := [(0, .ref 0), (1, .int (iI (a))), (2, .int (iI (b))), (3, .int (iI (c))), (4, .int (iI (d)))]) rfl ?_
  refine x_aload_n (i := 0) C dX12_may_0 rfl rfl ?_
  refine x_iconst C dX12_may_1 ?_
  refine x_putI C pkM_X12_157 (nlt rfl) rfl dX12_may_2 ?_
  refine x_aload_n (i := 0) C dX12_may_5 rfl rfl ?_
  refine x_iload_n (i := 1) C dX12_may_6 rfl rfl ?_
  refine x_iload_n (i := 2) C dX12_may_7 rfl rfl ?_
  refine x_iload_n (i := 3) C dX12_may_8 rfl rfl ?_
  refine x_callV (As := [.int (iI (a)), .int (iI (b)), .int (iI (c))]) C (by exact (m_layGame0 (b := a) (p := b) (q := c) (by exact hr) (fun _ => rfl) ⟨by omega, by omega⟩ ⟨by omega, by omega⟩ ⟨by omega, by omega⟩)) ckX12_470 im_X12_layGame se_X12_layGame (nlt rfl) rfl rfl rfl rfl (nle rfl) (by exact ⟨nle rfl, nle rfl⟩) dX12_may_9 ?_
  rintro _ _ ⟨rfl, rfl⟩
  refine Wx_st (st' := [.int (iI (0))]) rfl ?_
  refine x_if_eq (tgt := 32) C dX12_may_12 (by decide) ⟨by omega, by omega⟩ (fun h1 => ?_) (fun h1 => by exfalso; omega)
  refine x_ldc2 C dX12_may_32 cnX12_395 ?_
  exact x_lret C hQ dX12_may_35 (rfl)
set_option maxHeartbeats 4000000 in
set_option maxRecDepth 100000 in
theorem m_fatal {D : va_G} {ad : Nat → Nat} {cA : Nat → ClassId} {a b c d : Int} (ha : inR a) (hb : inR b) (hc : inR c) (hd : inR d) : MetX (wM D ad cA) yX12_fatal cX12_fatal 11 (some .int) 15 361 [.ref 0, .int (iI (a)), .int (iI (b)), .int (iI (c)), .int (iI (d))] x0M (fun r _ => r = some (.int (iI (-1)))) := by
  have hr : (x0M).2.2 = rM := rfl
  unfold inR at ha hb hc hd
  refine MetX.mk (own := RX12) (by decide +kernel) rfl (nle rfl) (fun E C hQ => ?_)
  refine Wx_lv (lv' := [(0, .ref 0), (1, .int (iI (a))), (2, .int (iI (b))), (3, .int (iI (c))), (4, .int (iI (d)))]) rfl ?_
  refine x_aload_n (i := 0) C dX12_fatal_0 rfl rfl ?_
  refine x_iconst C dX12_fatal_1 ?_
  refine x_putI C pkM_X12_157 (nlt rfl) rfl dX12_fatal_2 ?_
  refine x_aload_n (i := 0) C dX12_fatal_5 rfl rfl ?_
  refine x_iload_n (i := 1) C dX12_fatal_6 rfl rfl ?_
  refine x_iload_n (i := 2) C dX12_fatal_7 rfl rfl ?_
  refine x_iload_n (i := 3) C dX12_fatal_8 rfl rfl ?_
  refine x_callV (As := [.int (iI (a)), .int (iI (b)), .int (iI (c))]) C (by exact (m_isMove0 (b := a) (p := b) (q := c) (by exact hr) (fun _ => rfl) ⟨by omega, by omega⟩ ⟨by omega, by omega⟩ ⟨by omega, by omega⟩)) ckX12_476 im_X12_isMove se_X12_isMove (nlt rfl) rfl rfl rfl rfl (nle rfl) (by exact ⟨nle rfl, nle rfl⟩) dX12_fatal_9 ?_
  rintro _ _ ⟨rfl, rfl⟩
  refine Wx_st (st' := [.int (iI (0))]) rfl ?_
  refine x_if_ne (tgt := 17) C dX12_fatal_12 (by decide) ⟨by omega, by omega⟩ (fun h1 => by exfalso; omega) (fun h1 => ?_)
  refine x_iconst C dX12_fatal_15 ?_
  exact x_iret C hQ dX12_fatal_16 (congrArg (fun z : Int => some (Value.int (iI z))) (by first | rfl | omega | (split <;> omega) | (repeat (first | omega | split))))
set_option maxHeartbeats 4000000 in
set_option maxRecDepth 100000 in
theorem m_loses {D : va_G} {ad : Nat → Nat} {cA : Nat → ClassId} {a b c : Int} (ha : inR a) (hb : inR b) (hc : inR c) : MetX (wM D ad cA) yX12_loses cX12_loses 6 (some .boolean) 15 361 [.ref 0, .int (iI (a)), .int (iI (b)), .int (iI (c))] x0M (fun r _ => r = some (.int (iI (0)))) := by
  have hr : (x0M).2.2 = rM := rfl
  unfold inR at ha hb hc
  refine MetX.mk (own := RX12) (by decide +kernel) rfl (nle rfl) (fun E C hQ => ?_)
  refine Wx_lv (lv' := [(0, .ref 0), (1, .int (iI (a))), (2, .int (iI (b))), (3, .int (iI (c)))]) rfl ?_
  refine x_aload_n (i := 0) C dX12_loses_0 rfl rfl ?_
  refine x_iconst C dX12_loses_1 ?_
  refine x_putI C pkM_X12_157 (nlt rfl) rfl dX12_loses_2 ?_
  refine x_aload_n (i := 0) C dX12_loses_5 rfl rfl ?_
  refine x_iload_n (i := 1) C dX12_loses_6 rfl rfl ?_
  refine x_iload_n (i := 2) C dX12_loses_7 rfl rfl ?_
  refine x_iload_n (i := 3) C dX12_loses_8 rfl rfl ?_
  refine x_callV (As := [.int (iI (a)), .int (iI (b)), .int (iI (c))]) C (by exact (m_isMove0 (b := a) (p := b) (q := c) (by exact hr) (fun _ => rfl) ⟨by omega, by omega⟩ ⟨by omega, by omega⟩ ⟨by omega, by omega⟩)) ckX12_476 im_X12_isMove se_X12_isMove (nlt rfl) rfl rfl rfl rfl (nle rfl) (by exact ⟨nle rfl, nle rfl⟩) dX12_loses_9 ?_
  rintro _ _ ⟨rfl, rfl⟩
  refine Wx_st (st' := [.int (iI (0))]) rfl ?_
  refine x_if_eq (tgt := 25) C dX12_loses_12 (by decide) ⟨by omega, by omega⟩ (fun h1 => ?_) (fun h1 => by exfalso; omega)
  refine x_iconst C dX12_loses_25 ?_
  exact x_zret C hQ (by omega) dX12_loses_26 (congrArg (fun z : Int => some (Value.int (iI z))) (by first | rfl | omega | (split <;> omega) | (repeat (first | omega | split))))
set_option maxHeartbeats 4000000 in
set_option maxRecDepth 100000 in
theorem m_brave {D : va_G} {ad : Nat → Nat} {cA : Nat → ClassId} {a b c : Int} (ha : inR a) (hb : inR b) (hc : inR c) : MetX (wM D ad cA) yX12_brave cX12_brave 7 (some .int) 13 315 [.ref 0, .int (iI (a)), .int (iI (b)), .int (iI (c))] x0M (fun r _ => r = some (.int (iI (-1)))) := by
  have hr : (x0M).2.2 = rM := rfl
  unfold inR at ha hb hc
  refine MetX.mk (own := RX12) (by decide +kernel) rfl (nle rfl) (fun E C hQ => ?_)
  refine Wx_lv (lv' := [(0, .ref 0), (1, .int (iI (a))), (2, .int (iI (b))), (3, .int (iI (c)))]) rfl ?_
  refine x_aload_n (i := 0) C dX12_brave_0 rfl rfl ?_
  refine x_iconst C dX12_brave_1 ?_
  refine x_putI C pkM_X12_157 (nlt rfl) rfl dX12_brave_2 ?_
  refine x_aload_n (i := 0) C dX12_brave_5 rfl rfl ?_
  refine x_iconst C dX12_brave_6 ?_
  refine x_iload_n (i := 2) C dX12_brave_7 rfl rfl ?_
  refine x_callV (As := [.int (iI (2)), .int (iI (b))]) C (by exact (m_is0 (s := 2) (k := b) (by exact hr) (by omega) (by omega) rfl ⟨by omega, by omega⟩)) ckX12_268 im_X12_is se_X12_is (nlt rfl) rfl rfl rfl rfl (nle rfl) (by exact ⟨nle rfl, nle rfl⟩) dX12_brave_8 ?_
  rintro _ _ ⟨rfl, rfl⟩
  refine Wx_st (st' := [.int (iI (0))]) rfl ?_
  refine x_if_eq (tgt := 31) C dX12_brave_11 (by decide) ⟨by omega, by omega⟩ (fun h1 => ?_) (fun h1 => by exfalso; omega)
  refine x_iconst C dX12_brave_31 ?_
  exact x_iret C hQ dX12_brave_32 (congrArg (fun z : Int => some (Value.int (iI z))) (by first | rfl | omega | (split <;> omega) | (repeat (first | omega | split))))
set_option maxHeartbeats 4000000 in
set_option maxRecDepth 100000 in
theorem m_binds {D : va_G} {ad : Nat → Nat} {cA : Nat → ClassId} {a b c d : Int} (ha : inR a) (hb : inR b) (hc : inR c) (hd : inR d) : MetX (wM D ad cA) yX12_binds cX12_binds 5 (some .int) 12 297 [.ref 0, .int (iI (a)), .int (iI (b)), .int (iI (c)), .int (iI (d))] x0M (fun r _ => r = some (.int (iI (-1)))) := by
  have hr : (x0M).2.2 = rM := rfl
  unfold inR at ha hb hc hd
  refine MetX.mk (own := RX12) (by decide +kernel) rfl (nle rfl) (fun E C hQ => ?_)
  refine Wx_lv (lv' := [(0, .ref 0), (1, .int (iI (a))), (2, .int (iI (b))), (3, .int (iI (c))), (4, .int (iI (d)))]) rfl ?_
  refine x_aload_n (i := 0) C dX12_binds_0 rfl rfl ?_
  refine x_iconst C dX12_binds_1 ?_
  refine x_putI C pkM_X12_157 (nlt rfl) rfl dX12_binds_2 ?_
  refine x_aload_n (i := 0) C dX12_binds_5 rfl rfl ?_
  refine x_iload_n (i := 1) C dX12_binds_6 rfl rfl ?_
  refine x_iload_n (i := 2) C dX12_binds_7 rfl rfl ?_
  refine x_callV (As := [.int (iI (a)), .int (iI (b))]) C (by exact (m_isMan0 (b := a) (p := b) (by exact hr) (fun _ => rfl) ⟨by omega, by omega⟩ ⟨by omega, by omega⟩)) ckX12_489 im_X12_isMan se_X12_isMan (nlt rfl) rfl rfl rfl rfl (nle rfl) (by exact ⟨nle rfl, nle rfl⟩) dX12_binds_8 ?_
  rintro _ _ ⟨rfl, rfl⟩
  refine Wx_st (st' := [.int (iI (0))]) rfl ?_
  refine x_if_eq (tgt := 42) C dX12_binds_11 (by decide) ⟨by omega, by omega⟩ (fun h1 => ?_) (fun h1 => by exfalso; omega)
  refine x_iconst C dX12_binds_42 ?_
  exact x_iret C hQ dX12_binds_43 (congrArg (fun z : Int => some (Value.int (iI z))) (by first | rfl | omega | (split <;> omega) | (repeat (first | omega | split))))
set_option maxHeartbeats 4000000 in
set_option maxRecDepth 100000 in
theorem m_drive {D : va_G} {ad : Nat → Nat} {cA : Nat → ClassId} {a b c d : Int} (ha : inR a) (hb : inR b) (hc : inR c) (hd : inR d) : MetX (wM D ad cA) yX12_drive cX12_drive 5 (some .int) 12 297 [.ref 0, .int (iI (a)), .int (iI (b)), .int (iI (c)), .int (iI (d))] x0M (fun r _ => r = some (.int (iI (-1)))) := by
  have hr : (x0M).2.2 = rM := rfl
  unfold inR at ha hb hc hd
  refine MetX.mk (own := RX12) (by decide +kernel) rfl (nle rfl) (fun E C hQ => ?_)
  refine Wx_lv (lv' := [(0, .ref 0), (1, .int (iI (a))), (2, .int (iI (b))), (3, .int (iI (c))), (4, .int (iI (d)))]) rfl ?_
  refine x_aload_n (i := 0) C dX12_drive_0 rfl rfl ?_
  refine x_iconst C dX12_drive_1 ?_
  refine x_putI C pkM_X12_157 (nlt rfl) rfl dX12_drive_2 ?_
  refine x_aload_n (i := 0) C dX12_drive_5 rfl rfl ?_
  refine x_iload_n (i := 1) C dX12_drive_6 rfl rfl ?_
  refine x_iload_n (i := 2) C dX12_drive_7 rfl rfl ?_
  refine x_callV (As := [.int (iI (a)), .int (iI (b))]) C (by exact (m_isMan0 (b := a) (p := b) (by exact hr) (fun _ => rfl) ⟨by omega, by omega⟩ ⟨by omega, by omega⟩)) ckX12_489 im_X12_isMan se_X12_isMan (nlt rfl) rfl rfl rfl rfl (nle rfl) (by exact ⟨nle rfl, nle rfl⟩) dX12_drive_8 ?_
  rintro _ _ ⟨rfl, rfl⟩
  refine Wx_st (st' := [.int (iI (0))]) rfl ?_
  refine x_if_eq (tgt := 49) C dX12_drive_11 (by decide) ⟨by omega, by omega⟩ (fun h1 => ?_) (fun h1 => by exfalso; omega)
  refine x_iconst C dX12_drive_49 ?_
  exact x_iret C hQ dX12_drive_50 (congrArg (fun z : Int => some (Value.int (iI z))) (by first | rfl | omega | (split <;> omega) | (repeat (first | omega | split))))
set_option maxHeartbeats 4000000 in
set_option maxRecDepth 100000 in
theorem m_shorter {D : va_G} {ad : Nat → Nat} {cA : Nat → ClassId} {a b c d : Int} (ha : inR a) (hb : inR b) (hc : inR c) (hd : inR d) : MetX (wM D ad cA) yX12_shorter cX12_shorter 5 (some .int) 12 297 [.ref 0, .int (iI (a)), .int (iI (b)), .int (iI (c)), .int (iI (d))] x0M (fun r _ => r = some (.int (iI (-1)))) := by
  have hr : (x0M).2.2 = rM := rfl
  unfold inR at ha hb hc hd
  refine MetX.mk (own := RX12) (by decide +kernel) rfl (nle rfl) (fun E C hQ => ?_)
  refine Wx_lv (lv' := [(0, .ref 0), (1, .int (iI (a))), (2, .int (iI (b))), (3, .int (iI (c))), (4, .int (iI (d)))]) rfl ?_
  refine x_aload_n (i := 0) C dX12_shorter_0 rfl rfl ?_
  refine x_iconst C dX12_shorter_1 ?_
  refine x_putI C pkM_X12_157 (nlt rfl) rfl dX12_shorter_2 ?_
  refine x_aload_n (i := 0) C dX12_shorter_5 rfl rfl ?_
  refine x_iload_n (i := 1) C dX12_shorter_6 rfl rfl ?_
  refine x_iload_n (i := 2) C dX12_shorter_7 rfl rfl ?_
  refine x_iload_n (i := 3) C dX12_shorter_8 rfl rfl ?_
  refine x_callV (As := [.int (iI (a)), .int (iI (b)), .int (iI (c))]) C (by exact (m_lay0 (b := a) (p := b) (q := c) (by exact hr) (fun _ => rfl) ⟨by omega, by omega⟩ ⟨by omega, by omega⟩ ⟨by omega, by omega⟩)) ckX12_389 im_X12_lay se_X12_lay (nlt rfl) rfl rfl rfl rfl (nle rfl) (by exact ⟨nle rfl, nle rfl⟩) dX12_shorter_9 ?_
  rintro _ _ ⟨rfl, rfl⟩
  refine Wx_st (st' := [.int (iI (0))]) rfl ?_
  refine x_if_ne (tgt := 17) C dX12_shorter_12 (by decide) ⟨by omega, by omega⟩ (fun h1 => by exfalso; omega) (fun h1 => ?_)
  refine x_iconst C dX12_shorter_15 ?_
  exact x_iret C hQ dX12_shorter_16 (congrArg (fun z : Int => some (Value.int (iI z))) (by first | rfl | omega | (split <;> omega) | (repeat (first | omega | split))))
set_option maxHeartbeats 4000000 in
set_option maxRecDepth 100000 in
theorem m_alike {D : va_G} {ad : Nat → Nat} {cA : Nat → ClassId} {a b c : Int} (ha : inR a) (hb : inR b) (hc : inR c) : MetX (wM D ad cA) yX12_alike cX12_alike 5 (some .boolean) 12 292 [.ref 0, .int (iI (a)), .int (iI (b)), .int (iI (c))] x0M (fun r _ => r = some (.int (iI (0)))) := by
  have hr : (x0M).2.2 = rM := rfl
  unfold inR at ha hb hc
  refine MetX.mk (own := RX12) (by decide +kernel) rfl (nle rfl) (fun E C hQ => ?_)
  refine Wx_lv (lv' := [(0, .ref 0), (1, .int (iI (a))), (2, .int (iI (b))), (3, .int (iI (c)))]) rfl ?_
  refine x_aload_n (i := 0) C dX12_alike_0 rfl rfl ?_
  refine x_iconst C dX12_alike_1 ?_
  refine x_putI C pkM_X12_157 (nlt rfl) rfl dX12_alike_2 ?_
  refine x_aload_n (i := 0) C dX12_alike_5 rfl rfl ?_
  refine x_iconst C dX12_alike_6 ?_
  refine x_iload_n (i := 2) C dX12_alike_7 rfl rfl ?_
  refine x_callV (As := [.int (iI (1)), .int (iI (b))]) C (by exact (m_is0 (s := 1) (k := b) (by exact hr) (by omega) (by omega) rfl ⟨by omega, by omega⟩)) ckX12_268 im_X12_is se_X12_is (nlt rfl) rfl rfl rfl rfl (nle rfl) (by exact ⟨nle rfl, nle rfl⟩) dX12_alike_8 ?_
  rintro _ _ ⟨rfl, rfl⟩
  refine Wx_st (st' := [.int (iI (0))]) rfl ?_
  refine x_if_eq (tgt := 31) C dX12_alike_11 (by decide) ⟨by omega, by omega⟩ (fun h1 => ?_) (fun h1 => by exfalso; omega)
  refine x_iconst C dX12_alike_31 ?_
  exact x_zret C hQ (by omega) dX12_alike_32 (congrArg (fun z : Int => some (Value.int (iI z))) (by first | rfl | omega | (split <;> omega) | (repeat (first | omega | split))))
set_option maxHeartbeats 4000000 in
set_option maxRecDepth 100000 in
theorem m_meanings {D : va_G} {ad : Nat → Nat} {cA : Nat → ClassId} {a b c d : Int} (ha : inR a) (hb : inR b) (hc : inR c) (hd : inR d) : MetX (wM D ad cA) yX12_meanings cX12_meanings 12 (some .int) 11 268 [.ref 0, .int (iI (a)), .int (iI (b)), .int (iI (c)), .int (iI (d))] x0M (fun r _ => r = some (.int (iI (-1)))) := by
  have hr : (x0M).2.2 = rM := rfl
  unfold inR at ha hb hc hd
  refine MetX.mk (own := RX12) (by decide +kernel) rfl (nle rfl) (fun E C hQ => ?_)
  refine Wx_lv (lv' := [(0, .ref 0), (1, .int (iI (a))), (2, .int (iI (b))), (3, .int (iI (c))), (4, .int (iI (d)))]) rfl ?_
  refine x_aload_n (i := 0) C dX12_meanings_0 rfl rfl ?_
  refine x_iconst C dX12_meanings_1 ?_
  refine x_putI C pkM_X12_157 (nlt rfl) rfl dX12_meanings_2 ?_
  refine x_iload_n (i := 3) C dX12_meanings_5 rfl rfl ?_
  refine x_iconst C dX12_meanings_6 ?_
  refine x_iconst C dX12_meanings_7 ?_
  refine x_callS (As := [.int (iI (c)), .int (iI (1)), .int (iI (4))]) C (by exact (m_in (v := c) (a := 1) (b := 4) ⟨by omega, by omega⟩ ⟨by omega, by omega⟩ ⟨by omega, by omega⟩)) ckX12_165 sm_X12_in rfl rfl (nle rfl) (by exact ⟨nle rfl, nle rfl⟩) dX12_meanings_8 ?_
  rintro _ _ ⟨rfl, u1, rfl, h2⟩
  refine Wx_st (st' := [.int (iI (u1))]) rfl ?_
  refine x_if_eq (tgt := 23) C dX12_meanings_11 (by decide) ⟨by omega, by omega⟩ (fun h3 => ?_) (fun h3 => ?_)
  · refine x_iconst C dX12_meanings_23 ?_
    exact x_iret C hQ dX12_meanings_24 (congrArg (fun z : Int => some (Value.int (iI z))) (by first | rfl | omega | (split <;> omega) | (repeat (first | omega | split))))
  · refine x_aload_n (i := 0) C dX12_meanings_14 rfl rfl ?_
    refine x_iload_n (i := 1) C dX12_meanings_15 rfl rfl ?_
    refine x_iload_n (i := 2) C dX12_meanings_16 rfl rfl ?_
    refine x_callV (As := [.int (iI (a)), .int (iI (b))]) C (by exact (m_isMan0 (b := a) (p := b) (by exact hr) (fun _ => rfl) ⟨by omega, by omega⟩ ⟨by omega, by omega⟩)) ckX12_489 im_X12_isMan se_X12_isMan (nlt rfl) rfl rfl rfl rfl (nle rfl) (by exact ⟨nle rfl, nle rfl⟩) dX12_meanings_17 ?_
    rintro _ _ ⟨rfl, rfl⟩
    refine Wx_st (st' := [.int (iI (0))]) rfl ?_
    refine x_if_ne (tgt := 25) C dX12_meanings_20 (by decide) ⟨by omega, by omega⟩ (fun h4 => by exfalso; omega) (fun h4 => ?_)
    refine x_iconst C dX12_meanings_23 ?_
    exact x_iret C hQ dX12_meanings_24 (congrArg (fun z : Int => some (Value.int (iI z))) (by first | rfl | omega | (split <;> omega) | (repeat (first | omega | split))))
set_option maxHeartbeats 4000000 in
set_option maxRecDepth 100000 in
theorem m_wins {D : va_G} {ad : Nat → Nat} {cA : Nat → ClassId} {a b c d e : Int} (ha : inR a) (hb : inR b) (hc : inR c) (hd : inR d) (he : inR e) : MetX (wM D ad cA) yX12_wins cX12_wins 7 (some .int) 17 421 [.ref 0, .int (iI (a)), .int (iI (b)), .int (iI (c)), .int (iI (d)), .int (iI (e))] x0M (fun r _ => r = some (.int (iI (-2)))) := by
  have hr : (x0M).2.2 = rM := rfl
  unfold inR at ha hb hc hd he
  refine MetX.mk (own := RX12) (by decide +kernel) rfl (nle rfl) (fun E C hQ => ?_)
  refine Wx_lv (lv' := [(0, .ref 0), (1, .int (iI (a))), (2, .int (iI (b))), (3, .int (iI (c))), (4, .int (iI (d))), (5, .int (iI (e)))]) rfl ?_
  refine x_aload_n (i := 0) C dX12_wins_0 rfl rfl ?_
  refine x_iconst C dX12_wins_1 ?_
  refine x_putI C pkM_X12_157 (nlt rfl) rfl dX12_wins_2 ?_
  refine x_aload_n (i := 0) C dX12_wins_5 rfl rfl ?_
  refine x_iload_n (i := 1) C dX12_wins_6 rfl rfl ?_
  refine x_iload_n (i := 2) C dX12_wins_7 rfl rfl ?_
  refine x_iload_n (i := 3) C dX12_wins_8 rfl rfl ?_
  refine x_callV (As := [.int (iI (a)), .int (iI (b)), .int (iI (c))]) C (by exact (m_canAsk0 (b := a) (p := b) (q := c) (by exact hr) (fun _ => rfl) ⟨by omega, by omega⟩ ⟨by omega, by omega⟩ ⟨by omega, by omega⟩)) ckX12_545 im_X12_canAsk se_X12_canAsk (nlt rfl) rfl rfl rfl rfl (nle rfl) (by exact ⟨nle rfl, nle rfl⟩) dX12_wins_9 ?_
  rintro _ _ ⟨rfl, rfl⟩
  refine Wx_st (st' := [.int (iI (0))]) rfl ?_
  refine x_if_eq (tgt := 35) C dX12_wins_12 (by decide) ⟨by omega, by omega⟩ (fun h1 => ?_) (fun h1 => by exfalso; omega)
  refine x_bipush C dX12_wins_35 (by decide) ?_
  exact x_iret C hQ dX12_wins_37 (congrArg (fun z : Int => some (Value.int (iI z))) (by first | rfl | omega | (split <;> omega) | (repeat (first | omega | split))))
set_option maxHeartbeats 4000000 in
set_option maxRecDepth 100000 in
theorem m_soonest {D : va_G} {ad : Nat → Nat} {cA : Nat → ClassId} {a b c : Int} (ha : inR a) (hb : inR b) (hc : inR c) : MetX (wM D ad cA) yX12_soonest cX12_soonest 5 (some .int) 17 421 [.ref 0, .int (iI (a)), .int (iI (b)), .int (iI (c))] x0M (fun r _ => r = some (.int (iI (-1)))) := by
  have hr : (x0M).2.2 = rM := rfl
  unfold inR at ha hb hc
  refine MetX.mk (own := RX12) (by decide +kernel) rfl (nle rfl) (fun E C hQ => ?_)
  refine Wx_lv (lv' := [(0, .ref 0), (1, .int (iI (a))), (2, .int (iI (b))), (3, .int (iI (c)))]) rfl ?_
  refine x_aload_n (i := 0) C dX12_soonest_0 rfl rfl ?_
  refine x_iconst C dX12_soonest_1 ?_
  refine x_putI C pkM_X12_157 (nlt rfl) rfl dX12_soonest_2 ?_
  refine x_iconst C dX12_soonest_5 ?_
  refine x_istore (lv' := [(4, .int (iI (1))), (0, .ref 0), (1, .int (iI (a))), (2, .int (iI (b))), (3, .int (iI (c)))]) C dX12_soonest_6 (nlt rfl) rfl ?_
  refine x_iload C dX12_soonest_8 rfl ?_
  refine x_iconst C dX12_soonest_10 ?_
  refine x_icmp_gt (tgt := 44) C dX12_soonest_11 (by decide) ⟨by omega, by omega⟩ ⟨by omega, by omega⟩ (fun h1 => by exfalso; omega) (fun h1 => ?_)
  refine x_aload_n (i := 0) C dX12_soonest_14 rfl rfl ?_
  refine x_iload_n (i := 1) C dX12_soonest_15 rfl rfl ?_
  refine x_iload_n (i := 2) C dX12_soonest_16 rfl rfl ?_
  refine x_iload_n (i := 3) C dX12_soonest_17 rfl rfl ?_
  refine x_callV (As := [.int (iI (a)), .int (iI (b)), .int (iI (c))]) C (by exact (m_canAsk0 (b := a) (p := b) (q := c) (by exact hr) (fun _ => rfl) ⟨by omega, by omega⟩ ⟨by omega, by omega⟩ ⟨by omega, by omega⟩)) ckX12_545 im_X12_canAsk se_X12_canAsk (nlt rfl) rfl rfl rfl rfl (nle rfl) (by exact ⟨nle rfl, nle rfl⟩) dX12_soonest_18 ?_
  rintro _ _ ⟨rfl, rfl⟩
  refine Wx_st (st' := [.int (iI (0))]) rfl ?_
  refine x_if_eq (tgt := 44) C dX12_soonest_21 (by decide) ⟨by omega, by omega⟩ (fun h2 => ?_) (fun h2 => by exfalso; omega)
  refine x_iconst C dX12_soonest_44 ?_
  exact x_iret C hQ dX12_soonest_45 (congrArg (fun z : Int => some (Value.int (iI z))) (by first | rfl | omega | (split <;> omega) | (repeat (first | omega | split))))
set_option maxHeartbeats 4000000 in
set_option maxRecDepth 100000 in
theorem m_drawn {D : va_G} {ad : Nat → Nat} {cA : Nat → ClassId} {a b c d : Int} (ha : inR a) (hb : inR b) (hc : inR c) (hd : inR d) : MetX (wM D ad cA) yX12_drawn cX12_drawn 8 (some .int) 11 268 [.ref 0, .int (iI (a)), .int (iI (b)), .int (iI (c)), .int (iI (d))] x0M (fun r _ => r = some (.int (iI (-2)))) := by
  have hr : (x0M).2.2 = rM := rfl
  unfold inR at ha hb hc hd
  refine MetX.mk (own := RX12) (by decide +kernel) rfl (nle rfl) (fun E C hQ => ?_)
  refine Wx_lv (lv' := [(0, .ref 0), (1, .int (iI (a))), (2, .int (iI (b))), (3, .int (iI (c))), (4, .int (iI (d)))]) rfl ?_
  refine x_aload_n (i := 0) C dX12_drawn_0 rfl rfl ?_
  refine x_iconst C dX12_drawn_1 ?_
  refine x_putI C pkM_X12_157 (nlt rfl) rfl dX12_drawn_2 ?_
  refine x_iload_n (i := 3) C dX12_drawn_5 rfl rfl ?_
  refine x_iconst C dX12_drawn_6 ?_
  refine x_bipush C dX12_drawn_7 (by decide) ?_
  refine x_callS (As := [.int (iI (c)), .int (iI (1)), .int (iI (30))]) C (by exact (m_in (v := c) (a := 1) (b := 30) ⟨by omega, by omega⟩ ⟨by omega, by omega⟩ ⟨by omega, by omega⟩)) ckX12_165 sm_X12_in rfl rfl (nle rfl) (by exact ⟨nle rfl, nle rfl⟩) dX12_drawn_9 ?_
  rintro _ _ ⟨rfl, u1, rfl, h2⟩
  refine Wx_st (st' := [.int (iI (u1))]) rfl ?_
  refine x_if_eq (tgt := 23) C dX12_drawn_12 (by decide) ⟨by omega, by omega⟩ (fun h3 => ?_) (fun h3 => ?_)
  · refine x_bipush C dX12_drawn_23 (by decide) ?_
    exact x_iret C hQ dX12_drawn_25 (congrArg (fun z : Int => some (Value.int (iI z))) (by first | rfl | omega | (split <;> omega) | (repeat (first | omega | split))))
  · refine x_aload_n (i := 0) C dX12_drawn_15 rfl rfl ?_
    refine x_iload_n (i := 1) C dX12_drawn_16 rfl rfl ?_
    refine x_callV (As := [.int (iI (a))]) C (by exact (m_hand0 (b := a) (by exact hr) (fun _ => rfl) ⟨by omega, by omega⟩)) ckX12_302 im_X12_hand se_X12_hand (nlt rfl) rfl rfl rfl rfl (nle rfl) (by exact ⟨nle rfl, nle rfl⟩) dX12_drawn_17 ?_
    rintro _ _ ⟨rfl, rfl⟩
    refine Wx_st (st' := [.int (iI (0))]) rfl ?_
    refine x_if_ne (tgt := 26) C dX12_drawn_20 (by decide) ⟨by omega, by omega⟩ (fun h4 => by exfalso; omega) (fun h4 => ?_)
    refine x_bipush C dX12_drawn_23 (by decide) ?_
    exact x_iret C hQ dX12_drawn_25 (congrArg (fun z : Int => some (Value.int (iI z))) (by first | rfl | omega | (split <;> omega) | (repeat (first | omega | split))))
set_option maxHeartbeats 4000000 in
set_option maxRecDepth 100000 in
theorem m_textX {D : va_G} {ad : Nat → Nat} {cA : Nat → ClassId} {s p : Int} (hs : inR s) (hp : inR p) (hn : ¬ (0 ≤ s ∧ s ≤ 2)) : MetX (wM D ad cA) yX12_text cX12_text 4 (some .int) 7 158 [.ref 0, .int (iI (s)), .int (iI (p))] x0M (fun r _ => r = some (.int (iI (-2)))) := by
  have hr : (x0M).2.2 = rM := rfl
  unfold inR at hs hp
  refine MetX.mk (own := RX12) (by decide +kernel) rfl (nle rfl) (fun E C hQ => ?_)
  refine Wx_lv (lv' := [(0, .ref 0), (1, .int (iI (s))), (2, .int (iI (p)))]) rfl ?_
  refine x_aload_n (i := 0) C dX12_text_0 rfl rfl ?_
  refine x_iconst C dX12_text_1 ?_
  refine x_putI C pkM_X12_157 (nlt rfl) rfl dX12_text_2 ?_
  refine x_aload_n (i := 0) C dX12_text_5 rfl rfl ?_
  refine x_aload_n (i := 0) C dX12_text_6 rfl rfl ?_
  refine x_getRs (r := 2) C fkM_X12_13 (nlt rfl) rfl (congrFun (congrFun hr 0) 2) dX12_text_7 ?_
  refine x_iconst C dX12_text_10 ?_
  refine x_iald C (nlt rfl) rfl rfl (nle rfl) (by omega) (by omega) dX12_text_11 ?_
  refine x_eq (b := 0) rfl ?_
  refine x_putI C pkM_X12_176 (nlt rfl) rfl dX12_text_12 ?_
  refine x_aload_n (i := 0) C dX12_text_15 rfl rfl ?_
  refine x_getRs (r := 2) C fkM_X12_13 (nlt rfl) rfl (congrFun (congrFun hr 0) 2) dX12_text_16 ?_
  refine x_iconst C dX12_text_19 ?_
  refine x_iconst C dX12_text_20 ?_
  refine x_iast C (nlt rfl) rfl rfl (nle rfl) (by omega) (by omega) dX12_text_21 ?_
  refine x_aload_n (i := 0) C dX12_text_22 rfl rfl ?_
  refine x_getRs (r := 3) C fkM_X12_17 (nlt rfl) rfl (congrFun (congrFun hr 0) 3) dX12_text_23 ?_
  refine x_iconst C dX12_text_26 ?_
  refine x_iconst C dX12_text_27 ?_
  refine x_iast C (nlt rfl) rfl rfl (nle rfl) (by omega) (by omega) dX12_text_28 ?_
  refine x_aload_n (i := 0) C dX12_text_29 rfl rfl ?_
  refine x_getRs (r := 4) C fkM_X12_20 (nlt rfl) rfl (congrFun (congrFun hr 0) 4) dX12_text_30 ?_
  refine x_iconst C dX12_text_33 ?_
  refine x_iconst C dX12_text_34 ?_
  refine x_iast C (nlt rfl) rfl rfl (nle rfl) (by omega) (by omega) dX12_text_35 ?_
  refine x_iload_n (i := 1) C dX12_text_36 rfl rfl ?_
  refine x_iconst C dX12_text_37 ?_
  refine x_iconst C dX12_text_38 ?_
  refine x_callS (As := [.int (iI (s)), .int (iI (0)), .int (iI (2))]) C (by exact (m_in (v := s) (a := 0) (b := 2) ⟨by omega, by omega⟩ ⟨by omega, by omega⟩ ⟨by omega, by omega⟩)) ckX12_165 sm_X12_in rfl rfl (nle rfl) (by exact ⟨nle rfl, nle rfl⟩) dX12_text_39 ?_
  rintro _ _ ⟨rfl, u1, rfl, h2⟩
  refine Wx_st (st' := [.int (iI (u1))]) rfl ?_
  refine x_if_eq (tgt := 75) C dX12_text_42 (by decide) ⟨by omega, by omega⟩ (fun h3 => ?_) (fun h3 => by exfalso; omega)
  refine x_bipush C dX12_text_75 (by decide) ?_
  exact x_iret C hQ dX12_text_77 (congrArg (fun z : Int => some (Value.int (iI z))) (by first | rfl | omega | (split <;> omega) | (repeat (first | omega | split))))
set_option maxHeartbeats 4000000 in
set_option maxRecDepth 100000 in
theorem lp_copyRow2 {D : va_G} {ad : Nat → Nat} {cA : Nat → ClassId} {E : ET} {rm : Room} {Qp : Option Value → XT → Prop} {q : Int} (hq0 : 0 ≤ q) (hq1 : q ≤ 3) (hPo : ∀ X : XT, X.2.2 = rM → Qp none X) (C : CX E (wM D ad cA) cX12_copyRow 5 RX12 none rm) (hQ : EQ E (wM D ad cA) Qp)  : ∀ (n : Nat) (i : Int) (X : XT), 1 - i < n → X.2.2 = rM → 0 ≤ i → i ≤ 1 → Wx E (wM D ad cA) 5 (PX (wM D ad cA) X) 3 [(4, .int (iI (i))), (0, .ref 2), (1, .int (iI (1))), (2, .int (iI (0))), (3, .int (iI (q)))] [] := by
  intro n
  induction n with
  | zero => intro i X hn hr i0 i1; exfalso; omega
  | succ n ih =>
    intro i X hn hr i0 i1
    refine x_iload C dX12_copyRow_3 rfl ?_
    refine x_iload_n (i := 1) C dX12_copyRow_5 rfl rfl ?_
    refine x_icmp_ge (tgt := 31) C dX12_copyRow_6 (by decide) ⟨by omega, by omega⟩ ⟨by omega, by omega⟩ (fun h1 => ?_) (fun h1 => ?_)
    · exact x_vret C hQ dX12_copyRow_31 (hPo _ hr)
    · refine x_aload_n (i := 0) C dX12_copyRow_9 rfl rfl ?_
      refine x_iload_n (i := 1) C dX12_copyRow_10 rfl rfl ?_
      refine x_iload_n (i := 3) C dX12_copyRow_11 rfl rfl ?_
      refine x_imul C dX12_copyRow_12 ?_
      refine x_iload C dX12_copyRow_13 rfl ?_
      refine x_iadd C dX12_copyRow_15 ?_
      refine x_aload_n (i := 0) C dX12_copyRow_16 rfl rfl ?_
      refine x_iload_n (i := 1) C dX12_copyRow_17 rfl rfl ?_
      refine x_iload_n (i := 2) C dX12_copyRow_18 rfl rfl ?_
      refine x_imul C dX12_copyRow_19 ?_
      refine x_eq (b := 0) rfl ?_
      refine x_iload C dX12_copyRow_20 rfl ?_
      refine x_iadd C dX12_copyRow_22 ?_
      refine x_iald C (nlt rfl) rfl rfl (nle rfl) (by omega) (by omega) dX12_copyRow_23 ?_
      refine x_gen (fun v2 ev2 => ?_)
      refine x_iast C (nlt rfl) rfl rfl (nle rfl) (by omega) (by omega) dX12_copyRow_24 ?_
      refine x_iinc (lv' := [(4, .int (iI (i + 1))), (0, .ref 2), (1, .int (iI (1))), (2, .int (iI (0))), (3, .int (iI (q)))]) C dX12_copyRow_25 rfl (nlt rfl) rfl ?_
      refine x_goto (tgt := 3) C dX12_copyRow_28 (by decide) ?_
      exact ih (i + 1) _ (by omega) hr (by omega) (by omega)
set_option maxHeartbeats 4000000 in
set_option maxRecDepth 100000 in
theorem m_copyRow2 {D : va_G} {ad : Nat → Nat} {cA : Nat → ClassId} {X : XT} (hr : X.2.2 = rM) {q : Int} (hq0 : 0 ≤ q) (hq1 : q ≤ 3) : MetX (wM D ad cA) yX12_copyRow cX12_copyRow 5 none 0 0 [.ref 2, .int (iI (1)), .int (iI (0)), .int (iI (q))] X (fun r X' => r = none ∧ X'.2.2 = rM) := by
  refine MetX.mk (own := RX12) (by decide +kernel) rfl (nle rfl) (fun E C hQ => ?_)
  refine Wx_lv (lv' := [(0, .ref 2), (1, .int (iI (1))), (2, .int (iI (0))), (3, .int (iI (q)))]) rfl ?_
  refine x_iconst C dX12_copyRow_0 ?_
  refine x_istore (lv' := [(4, .int (iI (0))), (0, .ref 2), (1, .int (iI (1))), (2, .int (iI (0))), (3, .int (iI (q)))]) C dX12_copyRow_1 (nlt rfl) rfl ?_
  exact lp_copyRow2 hq0 hq1 (fun X hr => ⟨rfl, hr⟩) C hQ 700 0 _ (by omega) hr (by omega) (by omega)
set_option maxHeartbeats 4000000 in
set_option maxRecDepth 100000 in
theorem lp_copyRow3 {D : va_G} {ad : Nat → Nat} {cA : Nat → ClassId} {E : ET} {rm : Room} {Qp : Option Value → XT → Prop} {q : Int} (hq0 : 0 ≤ q) (hq1 : q ≤ 3) (hPo : ∀ X : XT, X.2.2 = rM → Qp none X) (C : CX E (wM D ad cA) cX12_copyRow 5 RX12 none rm) (hQ : EQ E (wM D ad cA) Qp)  : ∀ (n : Nat) (i : Int) (X : XT), 1 - i < n → X.2.2 = rM → 0 ≤ i → i ≤ 1 → Wx E (wM D ad cA) 5 (PX (wM D ad cA) X) 3 [(4, .int (iI (i))), (0, .ref 3), (1, .int (iI (1))), (2, .int (iI (0))), (3, .int (iI (q)))] [] := by
  intro n
  induction n with
  | zero => intro i X hn hr i0 i1; exfalso; omega
  | succ n ih =>
    intro i X hn hr i0 i1
    refine x_iload C dX12_copyRow_3 rfl ?_
    refine x_iload_n (i := 1) C dX12_copyRow_5 rfl rfl ?_
    refine x_icmp_ge (tgt := 31) C dX12_copyRow_6 (by decide) ⟨by omega, by omega⟩ ⟨by omega, by omega⟩ (fun h1 => ?_) (fun h1 => ?_)
    · exact x_vret C hQ dX12_copyRow_31 (hPo _ hr)
    · refine x_aload_n (i := 0) C dX12_copyRow_9 rfl rfl ?_
      refine x_iload_n (i := 1) C dX12_copyRow_10 rfl rfl ?_
      refine x_iload_n (i := 3) C dX12_copyRow_11 rfl rfl ?_
      refine x_imul C dX12_copyRow_12 ?_
      refine x_iload C dX12_copyRow_13 rfl ?_
      refine x_iadd C dX12_copyRow_15 ?_
      refine x_aload_n (i := 0) C dX12_copyRow_16 rfl rfl ?_
      refine x_iload_n (i := 1) C dX12_copyRow_17 rfl rfl ?_
      refine x_iload_n (i := 2) C dX12_copyRow_18 rfl rfl ?_
      refine x_imul C dX12_copyRow_19 ?_
      refine x_eq (b := 0) rfl ?_
      refine x_iload C dX12_copyRow_20 rfl ?_
      refine x_iadd C dX12_copyRow_22 ?_
      refine x_iald C (nlt rfl) rfl rfl (nle rfl) (by omega) (by omega) dX12_copyRow_23 ?_
      refine x_gen (fun v2 ev2 => ?_)
      refine x_iast C (nlt rfl) rfl rfl (nle rfl) (by omega) (by omega) dX12_copyRow_24 ?_
      refine x_iinc (lv' := [(4, .int (iI (i + 1))), (0, .ref 3), (1, .int (iI (1))), (2, .int (iI (0))), (3, .int (iI (q)))]) C dX12_copyRow_25 rfl (nlt rfl) rfl ?_
      refine x_goto (tgt := 3) C dX12_copyRow_28 (by decide) ?_
      exact ih (i + 1) _ (by omega) hr (by omega) (by omega)
set_option maxHeartbeats 4000000 in
set_option maxRecDepth 100000 in
theorem m_copyRow3 {D : va_G} {ad : Nat → Nat} {cA : Nat → ClassId} {X : XT} (hr : X.2.2 = rM) {q : Int} (hq0 : 0 ≤ q) (hq1 : q ≤ 3) : MetX (wM D ad cA) yX12_copyRow cX12_copyRow 5 none 0 0 [.ref 3, .int (iI (1)), .int (iI (0)), .int (iI (q))] X (fun r X' => r = none ∧ X'.2.2 = rM) := by
  refine MetX.mk (own := RX12) (by decide +kernel) rfl (nle rfl) (fun E C hQ => ?_)
  refine Wx_lv (lv' := [(0, .ref 3), (1, .int (iI (1))), (2, .int (iI (0))), (3, .int (iI (q)))]) rfl ?_
  refine x_iconst C dX12_copyRow_0 ?_
  refine x_istore (lv' := [(4, .int (iI (0))), (0, .ref 3), (1, .int (iI (1))), (2, .int (iI (0))), (3, .int (iI (q)))]) C dX12_copyRow_1 (nlt rfl) rfl ?_
  exact lp_copyRow3 hq0 hq1 (fun X hr => ⟨rfl, hr⟩) C hQ 700 0 _ (by omega) hr (by omega) (by omega)
set_option maxHeartbeats 4000000 in
set_option maxRecDepth 100000 in
theorem lp_copyRow4 {D : va_G} {ad : Nat → Nat} {cA : Nat → ClassId} {E : ET} {rm : Room} {Qp : Option Value → XT → Prop} {q : Int} (hq0 : 0 ≤ q) (hq1 : q ≤ 3) (hPo : ∀ X : XT, X.2.2 = rM → Qp none X) (C : CX E (wM D ad cA) cX12_copyRow 5 RX12 none rm) (hQ : EQ E (wM D ad cA) Qp)  : ∀ (n : Nat) (i : Int) (X : XT), 1 - i < n → X.2.2 = rM → 0 ≤ i → i ≤ 1 → Wx E (wM D ad cA) 5 (PX (wM D ad cA) X) 3 [(4, .int (iI (i))), (0, .ref 4), (1, .int (iI (1))), (2, .int (iI (0))), (3, .int (iI (q)))] [] := by
  intro n
  induction n with
  | zero => intro i X hn hr i0 i1; exfalso; omega
  | succ n ih =>
    intro i X hn hr i0 i1
    refine x_iload C dX12_copyRow_3 rfl ?_
    refine x_iload_n (i := 1) C dX12_copyRow_5 rfl rfl ?_
    refine x_icmp_ge (tgt := 31) C dX12_copyRow_6 (by decide) ⟨by omega, by omega⟩ ⟨by omega, by omega⟩ (fun h1 => ?_) (fun h1 => ?_)
    · exact x_vret C hQ dX12_copyRow_31 (hPo _ hr)
    · refine x_aload_n (i := 0) C dX12_copyRow_9 rfl rfl ?_
      refine x_iload_n (i := 1) C dX12_copyRow_10 rfl rfl ?_
      refine x_iload_n (i := 3) C dX12_copyRow_11 rfl rfl ?_
      refine x_imul C dX12_copyRow_12 ?_
      refine x_iload C dX12_copyRow_13 rfl ?_
      refine x_iadd C dX12_copyRow_15 ?_
      refine x_aload_n (i := 0) C dX12_copyRow_16 rfl rfl ?_
      refine x_iload_n (i := 1) C dX12_copyRow_17 rfl rfl ?_
      refine x_iload_n (i := 2) C dX12_copyRow_18 rfl rfl ?_
      refine x_imul C dX12_copyRow_19 ?_
      refine x_eq (b := 0) rfl ?_
      refine x_iload C dX12_copyRow_20 rfl ?_
      refine x_iadd C dX12_copyRow_22 ?_
      refine x_iald C (nlt rfl) rfl rfl (nle rfl) (by omega) (by omega) dX12_copyRow_23 ?_
      refine x_gen (fun v2 ev2 => ?_)
      refine x_iast C (nlt rfl) rfl rfl (nle rfl) (by omega) (by omega) dX12_copyRow_24 ?_
      refine x_iinc (lv' := [(4, .int (iI (i + 1))), (0, .ref 4), (1, .int (iI (1))), (2, .int (iI (0))), (3, .int (iI (q)))]) C dX12_copyRow_25 rfl (nlt rfl) rfl ?_
      refine x_goto (tgt := 3) C dX12_copyRow_28 (by decide) ?_
      exact ih (i + 1) _ (by omega) hr (by omega) (by omega)
set_option maxHeartbeats 4000000 in
set_option maxRecDepth 100000 in
theorem m_copyRow4 {D : va_G} {ad : Nat → Nat} {cA : Nat → ClassId} {X : XT} (hr : X.2.2 = rM) {q : Int} (hq0 : 0 ≤ q) (hq1 : q ≤ 3) : MetX (wM D ad cA) yX12_copyRow cX12_copyRow 5 none 0 0 [.ref 4, .int (iI (1)), .int (iI (0)), .int (iI (q))] X (fun r X' => r = none ∧ X'.2.2 = rM) := by
  refine MetX.mk (own := RX12) (by decide +kernel) rfl (nle rfl) (fun E C hQ => ?_)
  refine Wx_lv (lv' := [(0, .ref 4), (1, .int (iI (1))), (2, .int (iI (0))), (3, .int (iI (q)))]) rfl ?_
  refine x_iconst C dX12_copyRow_0 ?_
  refine x_istore (lv' := [(4, .int (iI (0))), (0, .ref 4), (1, .int (iI (1))), (2, .int (iI (0))), (3, .int (iI (q)))]) C dX12_copyRow_1 (nlt rfl) rfl ?_
  exact lp_copyRow4 hq0 hq1 (fun X hr => ⟨rfl, hr⟩) C hQ 700 0 _ (by omega) hr (by omega) (by omega)
set_option maxHeartbeats 4000000 in
set_option maxRecDepth 100000 in
theorem lp_copyRow5 {D : va_G} {ad : Nat → Nat} {cA : Nat → ClassId} {E : ET} {rm : Room} {Qp : Option Value → XT → Prop} {q : Int} (hq0 : 0 ≤ q) (hq1 : q ≤ 3) (hPo : ∀ X : XT, X.2.2 = rM → Qp none X) (C : CX E (wM D ad cA) cX12_copyRow 5 RX12 none rm) (hQ : EQ E (wM D ad cA) Qp)  : ∀ (n : Nat) (i : Int) (X : XT), 3 - i < n → X.2.2 = rM → 0 ≤ i → i ≤ 3 → Wx E (wM D ad cA) 5 (PX (wM D ad cA) X) 3 [(4, .int (iI (i))), (0, .ref 5), (1, .int (iI (3))), (2, .int (iI (0))), (3, .int (iI (q)))] [] := by
  intro n
  induction n with
  | zero => intro i X hn hr i0 i1; exfalso; omega
  | succ n ih =>
    intro i X hn hr i0 i1
    refine x_iload C dX12_copyRow_3 rfl ?_
    refine x_iload_n (i := 1) C dX12_copyRow_5 rfl rfl ?_
    refine x_icmp_ge (tgt := 31) C dX12_copyRow_6 (by decide) ⟨by omega, by omega⟩ ⟨by omega, by omega⟩ (fun h1 => ?_) (fun h1 => ?_)
    · exact x_vret C hQ dX12_copyRow_31 (hPo _ hr)
    · refine x_aload_n (i := 0) C dX12_copyRow_9 rfl rfl ?_
      refine x_iload_n (i := 1) C dX12_copyRow_10 rfl rfl ?_
      refine x_iload_n (i := 3) C dX12_copyRow_11 rfl rfl ?_
      refine x_imul C dX12_copyRow_12 ?_
      refine x_iload C dX12_copyRow_13 rfl ?_
      refine x_iadd C dX12_copyRow_15 ?_
      refine x_aload_n (i := 0) C dX12_copyRow_16 rfl rfl ?_
      refine x_iload_n (i := 1) C dX12_copyRow_17 rfl rfl ?_
      refine x_iload_n (i := 2) C dX12_copyRow_18 rfl rfl ?_
      refine x_imul C dX12_copyRow_19 ?_
      refine x_eq (b := 0) rfl ?_
      refine x_iload C dX12_copyRow_20 rfl ?_
      refine x_iadd C dX12_copyRow_22 ?_
      refine x_iald C (nlt rfl) rfl rfl (nle rfl) (by omega) (by omega) dX12_copyRow_23 ?_
      refine x_gen (fun v2 ev2 => ?_)
      refine x_iast C (nlt rfl) rfl rfl (nle rfl) (by omega) (by omega) dX12_copyRow_24 ?_
      refine x_iinc (lv' := [(4, .int (iI (i + 1))), (0, .ref 5), (1, .int (iI (3))), (2, .int (iI (0))), (3, .int (iI (q)))]) C dX12_copyRow_25 rfl (nlt rfl) rfl ?_
      refine x_goto (tgt := 3) C dX12_copyRow_28 (by decide) ?_
      exact ih (i + 1) _ (by omega) hr (by omega) (by omega)
set_option maxHeartbeats 4000000 in
set_option maxRecDepth 100000 in
theorem m_copyRow5 {D : va_G} {ad : Nat → Nat} {cA : Nat → ClassId} {X : XT} (hr : X.2.2 = rM) {q : Int} (hq0 : 0 ≤ q) (hq1 : q ≤ 3) : MetX (wM D ad cA) yX12_copyRow cX12_copyRow 5 none 0 0 [.ref 5, .int (iI (3)), .int (iI (0)), .int (iI (q))] X (fun r X' => r = none ∧ X'.2.2 = rM) := by
  refine MetX.mk (own := RX12) (by decide +kernel) rfl (nle rfl) (fun E C hQ => ?_)
  refine Wx_lv (lv' := [(0, .ref 5), (1, .int (iI (3))), (2, .int (iI (0))), (3, .int (iI (q)))]) rfl ?_
  refine x_iconst C dX12_copyRow_0 ?_
  refine x_istore (lv' := [(4, .int (iI (0))), (0, .ref 5), (1, .int (iI (3))), (2, .int (iI (0))), (3, .int (iI (q)))]) C dX12_copyRow_1 (nlt rfl) rfl ?_
  exact lp_copyRow5 hq0 hq1 (fun X hr => ⟨rfl, hr⟩) C hQ 700 0 _ (by omega) hr (by omega) (by omega)
set_option maxHeartbeats 4000000 in
set_option maxRecDepth 100000 in
theorem lp_copyRow6 {D : va_G} {ad : Nat → Nat} {cA : Nat → ClassId} {E : ET} {rm : Room} {Qp : Option Value → XT → Prop} {q : Int} (hq0 : 0 ≤ q) (hq1 : q ≤ 3) (hPo : ∀ X : XT, X.2.2 = rM → Qp none X) (C : CX E (wM D ad cA) cX12_copyRow 5 RX12 none rm) (hQ : EQ E (wM D ad cA) Qp)  : ∀ (n : Nat) (i : Int) (X : XT), 102 - i < n → X.2.2 = rM → 0 ≤ i → i ≤ 102 → Wx E (wM D ad cA) 5 (PX (wM D ad cA) X) 3 [(4, .int (iI (i))), (0, .ref 6), (1, .int (iI (102))), (2, .int (iI (0))), (3, .int (iI (q)))] [] := by
  intro n
  induction n with
  | zero => intro i X hn hr i0 i1; exfalso; omega
  | succ n ih =>
    intro i X hn hr i0 i1
    refine x_iload C dX12_copyRow_3 rfl ?_
    refine x_iload_n (i := 1) C dX12_copyRow_5 rfl rfl ?_
    refine x_icmp_ge (tgt := 31) C dX12_copyRow_6 (by decide) ⟨by omega, by omega⟩ ⟨by omega, by omega⟩ (fun h1 => ?_) (fun h1 => ?_)
    · exact x_vret C hQ dX12_copyRow_31 (hPo _ hr)
    · refine x_aload_n (i := 0) C dX12_copyRow_9 rfl rfl ?_
      refine x_iload_n (i := 1) C dX12_copyRow_10 rfl rfl ?_
      refine x_iload_n (i := 3) C dX12_copyRow_11 rfl rfl ?_
      refine x_imul C dX12_copyRow_12 ?_
      refine x_iload C dX12_copyRow_13 rfl ?_
      refine x_iadd C dX12_copyRow_15 ?_
      refine x_aload_n (i := 0) C dX12_copyRow_16 rfl rfl ?_
      refine x_iload_n (i := 1) C dX12_copyRow_17 rfl rfl ?_
      refine x_iload_n (i := 2) C dX12_copyRow_18 rfl rfl ?_
      refine x_imul C dX12_copyRow_19 ?_
      refine x_eq (b := 0) rfl ?_
      refine x_iload C dX12_copyRow_20 rfl ?_
      refine x_iadd C dX12_copyRow_22 ?_
      refine x_iald C (nlt rfl) rfl rfl (nle rfl) (by omega) (by omega) dX12_copyRow_23 ?_
      refine x_gen (fun v2 ev2 => ?_)
      refine x_iast C (nlt rfl) rfl rfl (nle rfl) (by omega) (by omega) dX12_copyRow_24 ?_
      refine x_iinc (lv' := [(4, .int (iI (i + 1))), (0, .ref 6), (1, .int (iI (102))), (2, .int (iI (0))), (3, .int (iI (q)))]) C dX12_copyRow_25 rfl (nlt rfl) rfl ?_
      refine x_goto (tgt := 3) C dX12_copyRow_28 (by decide) ?_
      exact ih (i + 1) _ (by omega) hr (by omega) (by omega)
set_option maxHeartbeats 4000000 in
set_option maxRecDepth 100000 in
theorem m_copyRow6 {D : va_G} {ad : Nat → Nat} {cA : Nat → ClassId} {X : XT} (hr : X.2.2 = rM) {q : Int} (hq0 : 0 ≤ q) (hq1 : q ≤ 3) : MetX (wM D ad cA) yX12_copyRow cX12_copyRow 5 none 0 0 [.ref 6, .int (iI (102)), .int (iI (0)), .int (iI (q))] X (fun r X' => r = none ∧ X'.2.2 = rM) := by
  refine MetX.mk (own := RX12) (by decide +kernel) rfl (nle rfl) (fun E C hQ => ?_)
  refine Wx_lv (lv' := [(0, .ref 6), (1, .int (iI (102))), (2, .int (iI (0))), (3, .int (iI (q)))]) rfl ?_
  refine x_iconst C dX12_copyRow_0 ?_
  refine x_istore (lv' := [(4, .int (iI (0))), (0, .ref 6), (1, .int (iI (102))), (2, .int (iI (0))), (3, .int (iI (q)))]) C dX12_copyRow_1 (nlt rfl) rfl ?_
  exact lp_copyRow6 hq0 hq1 (fun X hr => ⟨rfl, hr⟩) C hQ 700 0 _ (by omega) hr (by omega) (by omega)
set_option maxHeartbeats 4000000 in
set_option maxRecDepth 100000 in
theorem lp_copyRow7 {D : va_G} {ad : Nat → Nat} {cA : Nat → ClassId} {E : ET} {rm : Room} {Qp : Option Value → XT → Prop} {q : Int} (hq0 : 0 ≤ q) (hq1 : q ≤ 3) (hPo : ∀ X : XT, X.2.2 = rM → Qp none X) (C : CX E (wM D ad cA) cX12_copyRow 5 RX12 none rm) (hQ : EQ E (wM D ad cA) Qp)  : ∀ (n : Nat) (i : Int) (X : XT), 30 - i < n → X.2.2 = rM → 0 ≤ i → i ≤ 30 → Wx E (wM D ad cA) 5 (PX (wM D ad cA) X) 3 [(4, .int (iI (i))), (0, .ref 7), (1, .int (iI (30))), (2, .int (iI (0))), (3, .int (iI (q)))] [] := by
  intro n
  induction n with
  | zero => intro i X hn hr i0 i1; exfalso; omega
  | succ n ih =>
    intro i X hn hr i0 i1
    refine x_iload C dX12_copyRow_3 rfl ?_
    refine x_iload_n (i := 1) C dX12_copyRow_5 rfl rfl ?_
    refine x_icmp_ge (tgt := 31) C dX12_copyRow_6 (by decide) ⟨by omega, by omega⟩ ⟨by omega, by omega⟩ (fun h1 => ?_) (fun h1 => ?_)
    · exact x_vret C hQ dX12_copyRow_31 (hPo _ hr)
    · refine x_aload_n (i := 0) C dX12_copyRow_9 rfl rfl ?_
      refine x_iload_n (i := 1) C dX12_copyRow_10 rfl rfl ?_
      refine x_iload_n (i := 3) C dX12_copyRow_11 rfl rfl ?_
      refine x_imul C dX12_copyRow_12 ?_
      refine x_iload C dX12_copyRow_13 rfl ?_
      refine x_iadd C dX12_copyRow_15 ?_
      refine x_aload_n (i := 0) C dX12_copyRow_16 rfl rfl ?_
      refine x_iload_n (i := 1) C dX12_copyRow_17 rfl rfl ?_
      refine x_iload_n (i := 2) C dX12_copyRow_18 rfl rfl ?_
      refine x_imul C dX12_copyRow_19 ?_
      refine x_eq (b := 0) rfl ?_
      refine x_iload C dX12_copyRow_20 rfl ?_
      refine x_iadd C dX12_copyRow_22 ?_
      refine x_iald C (nlt rfl) rfl rfl (nle rfl) (by omega) (by omega) dX12_copyRow_23 ?_
      refine x_gen (fun v2 ev2 => ?_)
      refine x_iast C (nlt rfl) rfl rfl (nle rfl) (by omega) (by omega) dX12_copyRow_24 ?_
      refine x_iinc (lv' := [(4, .int (iI (i + 1))), (0, .ref 7), (1, .int (iI (30))), (2, .int (iI (0))), (3, .int (iI (q)))]) C dX12_copyRow_25 rfl (nlt rfl) rfl ?_
      refine x_goto (tgt := 3) C dX12_copyRow_28 (by decide) ?_
      exact ih (i + 1) _ (by omega) hr (by omega) (by omega)
set_option maxHeartbeats 4000000 in
set_option maxRecDepth 100000 in
theorem m_copyRow7 {D : va_G} {ad : Nat → Nat} {cA : Nat → ClassId} {X : XT} (hr : X.2.2 = rM) {q : Int} (hq0 : 0 ≤ q) (hq1 : q ≤ 3) : MetX (wM D ad cA) yX12_copyRow cX12_copyRow 5 none 0 0 [.ref 7, .int (iI (30)), .int (iI (0)), .int (iI (q))] X (fun r X' => r = none ∧ X'.2.2 = rM) := by
  refine MetX.mk (own := RX12) (by decide +kernel) rfl (nle rfl) (fun E C hQ => ?_)
  refine Wx_lv (lv' := [(0, .ref 7), (1, .int (iI (30))), (2, .int (iI (0))), (3, .int (iI (q)))]) rfl ?_
  refine x_iconst C dX12_copyRow_0 ?_
  refine x_istore (lv' := [(4, .int (iI (0))), (0, .ref 7), (1, .int (iI (30))), (2, .int (iI (0))), (3, .int (iI (q)))]) C dX12_copyRow_1 (nlt rfl) rfl ?_
  exact lp_copyRow7 hq0 hq1 (fun X hr => ⟨rfl, hr⟩) C hQ 700 0 _ (by omega) hr (by omega) (by omega)
set_option maxHeartbeats 4000000 in
set_option maxRecDepth 100000 in
theorem lp_copyRow8 {D : va_G} {ad : Nat → Nat} {cA : Nat → ClassId} {E : ET} {rm : Room} {Qp : Option Value → XT → Prop} {q : Int} (hq0 : 0 ≤ q) (hq1 : q ≤ 3) (hPo : ∀ X : XT, X.2.2 = rM → Qp none X) (C : CX E (wM D ad cA) cX12_copyRow 5 RX12 none rm) (hQ : EQ E (wM D ad cA) Qp)  : ∀ (n : Nat) (i : Int) (X : XT), 662 - i < n → X.2.2 = rM → 0 ≤ i → i ≤ 662 → Wx E (wM D ad cA) 5 (PX (wM D ad cA) X) 3 [(4, .int (iI (i))), (0, .ref 8), (1, .int (iI (662))), (2, .int (iI (0))), (3, .int (iI (q)))] [] := by
  intro n
  induction n with
  | zero => intro i X hn hr i0 i1; exfalso; omega
  | succ n ih =>
    intro i X hn hr i0 i1
    refine x_iload C dX12_copyRow_3 rfl ?_
    refine x_iload_n (i := 1) C dX12_copyRow_5 rfl rfl ?_
    refine x_icmp_ge (tgt := 31) C dX12_copyRow_6 (by decide) ⟨by omega, by omega⟩ ⟨by omega, by omega⟩ (fun h1 => ?_) (fun h1 => ?_)
    · exact x_vret C hQ dX12_copyRow_31 (hPo _ hr)
    · refine x_aload_n (i := 0) C dX12_copyRow_9 rfl rfl ?_
      refine x_iload_n (i := 1) C dX12_copyRow_10 rfl rfl ?_
      refine x_iload_n (i := 3) C dX12_copyRow_11 rfl rfl ?_
      refine x_imul C dX12_copyRow_12 ?_
      refine x_iload C dX12_copyRow_13 rfl ?_
      refine x_iadd C dX12_copyRow_15 ?_
      refine x_aload_n (i := 0) C dX12_copyRow_16 rfl rfl ?_
      refine x_iload_n (i := 1) C dX12_copyRow_17 rfl rfl ?_
      refine x_iload_n (i := 2) C dX12_copyRow_18 rfl rfl ?_
      refine x_imul C dX12_copyRow_19 ?_
      refine x_eq (b := 0) rfl ?_
      refine x_iload C dX12_copyRow_20 rfl ?_
      refine x_iadd C dX12_copyRow_22 ?_
      refine x_iald C (nlt rfl) rfl rfl (nle rfl) (by omega) (by omega) dX12_copyRow_23 ?_
      refine x_gen (fun v2 ev2 => ?_)
      refine x_iast C (nlt rfl) rfl rfl (nle rfl) (by omega) (by omega) dX12_copyRow_24 ?_
      refine x_iinc (lv' := [(4, .int (iI (i + 1))), (0, .ref 8), (1, .int (iI (662))), (2, .int (iI (0))), (3, .int (iI (q)))]) C dX12_copyRow_25 rfl (nlt rfl) rfl ?_
      refine x_goto (tgt := 3) C dX12_copyRow_28 (by decide) ?_
      exact ih (i + 1) _ (by omega) hr (by omega) (by omega)
set_option maxHeartbeats 4000000 in
set_option maxRecDepth 100000 in
theorem m_copyRow8 {D : va_G} {ad : Nat → Nat} {cA : Nat → ClassId} {X : XT} (hr : X.2.2 = rM) {q : Int} (hq0 : 0 ≤ q) (hq1 : q ≤ 3) : MetX (wM D ad cA) yX12_copyRow cX12_copyRow 5 none 0 0 [.ref 8, .int (iI (662)), .int (iI (0)), .int (iI (q))] X (fun r X' => r = none ∧ X'.2.2 = rM) := by
  refine MetX.mk (own := RX12) (by decide +kernel) rfl (nle rfl) (fun E C hQ => ?_)
  refine Wx_lv (lv' := [(0, .ref 8), (1, .int (iI (662))), (2, .int (iI (0))), (3, .int (iI (q)))]) rfl ?_
  refine x_iconst C dX12_copyRow_0 ?_
  refine x_istore (lv' := [(4, .int (iI (0))), (0, .ref 8), (1, .int (iI (662))), (2, .int (iI (0))), (3, .int (iI (q)))]) C dX12_copyRow_1 (nlt rfl) rfl ?_
  exact lp_copyRow8 hq0 hq1 (fun X hr => ⟨rfl, hr⟩) C hQ 700 0 _ (by omega) hr (by omega) (by omega)
set_option maxHeartbeats 4000000 in
set_option maxRecDepth 100000 in
theorem lp_copyAll {D : va_G} {ad : Nat → Nat} {cA : Nat → ClassId} {E : ET} {rm : Room} {Qp : Option Value → XT → Prop} {q : Int} (hq0 : 0 ≤ q) (hq1 : q ≤ 3) (C : CX E (wM D ad cA) cX12_copyAll 4 RX12 none rm) (hQ : EQ E (wM D ad cA) Qp) (kx39 : ∀ (i : Int) (X : XT), X.2.2 = rM → Wx E (wM D ad cA) 4 (PX (wM D ad cA) X) 39 [(3, .int (iI (i))), (0, .ref 0), (1, .int (iI (0))), (2, .int (iI (q)))] []) : ∀ (n : Nat) (i : Int) (X : XT), 600 - i < n → X.2.2 = rM → (∀ i, X.1 1 i = 0) → 0 ≤ i → i ≤ 600 → Wx E (wM D ad cA) 4 (PX (wM D ad cA) X) 2 [(3, .int (iI (i))), (0, .ref 0), (1, .int (iI (0))), (2, .int (iI (q)))] [] := by
  intro n
  induction n with
  | zero => intro i X hn hr tz i0 i1; exfalso; omega
  | succ n ih =>
    intro i X hn hr tz i0 i1
    refine x_iload_n (i := 3) C dX12_copyAll_2 rfl rfl ?_
    refine x_sipush C dX12_copyAll_3 (by decide) ?_
    refine x_icmp_ge (tgt := 39) C dX12_copyAll_6 (by decide) ⟨by omega, by omega⟩ ⟨by omega, by omega⟩ (fun h1 => ?_) (fun h1 => ?_)
    · exact kx39 _ _ hr
    · refine x_aload_n (i := 0) C dX12_copyAll_9 rfl rfl ?_
      refine x_getRs (r := 1) C fkM_X12_7 (nlt rfl) rfl (congrFun (congrFun hr 0) 1) dX12_copyAll_10 ?_
      refine x_sipush C dX12_copyAll_13 (by decide) ?_
      refine x_iload_n (i := 2) C dX12_copyAll_16 rfl rfl ?_
      refine x_imul C dX12_copyAll_17 ?_
      refine x_iload_n (i := 3) C dX12_copyAll_18 rfl rfl ?_
      refine x_iadd C dX12_copyAll_19 ?_
      refine x_aload_n (i := 0) C dX12_copyAll_20 rfl rfl ?_
      refine x_getRs (r := 1) C fkM_X12_7 (nlt rfl) rfl (congrFun (congrFun hr 0) 1) dX12_copyAll_21 ?_
      refine x_sipush C dX12_copyAll_24 (by decide) ?_
      refine x_iload_n (i := 1) C dX12_copyAll_27 rfl rfl ?_
      refine x_imul C dX12_copyAll_28 ?_
      refine x_eq (b := 0) rfl ?_
      refine x_iload_n (i := 3) C dX12_copyAll_29 rfl rfl ?_
      refine x_iadd C dX12_copyAll_30 ?_
      refine x_bald C (nlt rfl) rfl rfl (nle rfl) (by omega) (by omega) dX12_copyAll_31 ?_
      refine x_gen (fun v2 ev2 => ?_)
      have ev2 : v2 = 0 := ev2.trans (tz _)
      refine x_bast C (nlt rfl) rfl rfl (nle rfl) (by omega) (by omega) ⟨by omega, by omega⟩ dX12_copyAll_32 ?_
      refine x_iinc (lv' := [(3, .int (iI (i + 1))), (0, .ref 0), (1, .int (iI (0))), (2, .int (iI (q)))]) C dX12_copyAll_33 rfl (nlt rfl) rfl ?_
      refine x_goto (tgt := 2) C dX12_copyAll_36 (by decide) ?_
      exact ih (i + 1) _ (by omega) hr (fun i => by rw [upI_s]; split <;> first | assumption | rfl | exact tz i) (by omega) (by omega)
set_option maxHeartbeats 4000000 in
set_option maxRecDepth 100000 in
theorem m_copyAll {D : va_G} {ad : Nat → Nat} {cA : Nat → ClassId} {X : XT} (hr : X.2.2 = rM) (tz : (∀ i, X.1 1 i = 0)) {q : Int} (hq0 : 0 ≤ q) (hq1 : q ≤ 3) : MetX (wM D ad cA) yX12_copyAll cX12_copyAll 4 none 1 24 [.ref 0, .int (iI (0)), .int (iI (q))] X (fun r X' => r = none ∧ X'.2.2 = rM) := by
  refine MetX.mk (own := RX12) (by decide +kernel) rfl (nle rfl) (fun E C hQ => ?_)
  refine Wx_lv (lv' := [(0, .ref 0), (1, .int (iI (0))), (2, .int (iI (q)))]) rfl ?_
  refine x_iconst C dX12_copyAll_0 ?_
  refine x_istore_n (i := 3) (lv' := [(3, .int (iI (0))), (0, .ref 0), (1, .int (iI (0))), (2, .int (iI (q)))]) C dX12_copyAll_1 rfl (nlt rfl) rfl ?_
  refine lp_copyAll hq0 hq1 C hQ (fun i X hr => ?_) 700 0 _ (by omega) hr tz (by omega) (by omega)
  refine x_aload_n (i := 0) C dX12_copyAll_39 rfl rfl ?_
  refine x_getRs (r := 2) C fkM_X12_13 (nlt rfl) rfl (congrFun (congrFun hr 0) 2) dX12_copyAll_40 ?_
  refine x_iconst C dX12_copyAll_43 ?_
  refine x_iload_n (i := 1) C dX12_copyAll_44 rfl rfl ?_
  refine x_iload_n (i := 2) C dX12_copyAll_45 rfl rfl ?_
  refine x_callS (As := [.ref 2, .int (iI (1)), .int (iI (0)), .int (iI (q))]) C (by exact (m_copyRow2 (q := q) (by exact hr) (by omega) (by omega))) ckX12_161 sm_X12_copyRow rfl rfl (nle rfl) (by exact ⟨nle rfl, nle rfl⟩) dX12_copyAll_46 ?_
  rintro _ Xk1 ⟨rfl, hr⟩
  refine Wx_st (st' := []) rfl ?_
  refine x_aload_n (i := 0) C dX12_copyAll_49 rfl rfl ?_
  refine x_getRs (r := 3) C fkM_X12_17 (nlt rfl) rfl (congrFun (congrFun hr 0) 3) dX12_copyAll_50 ?_
  refine x_iconst C dX12_copyAll_53 ?_
  refine x_iload_n (i := 1) C dX12_copyAll_54 rfl rfl ?_
  refine x_iload_n (i := 2) C dX12_copyAll_55 rfl rfl ?_
  refine x_callS (As := [.ref 3, .int (iI (1)), .int (iI (0)), .int (iI (q))]) C (by exact (m_copyRow3 (q := q) (by exact hr) (by omega) (by omega))) ckX12_161 sm_X12_copyRow rfl rfl (nle rfl) (by exact ⟨nle rfl, nle rfl⟩) dX12_copyAll_56 ?_
  rintro _ Xk2 ⟨rfl, hr⟩
  refine Wx_st (st' := []) rfl ?_
  refine x_aload_n (i := 0) C dX12_copyAll_59 rfl rfl ?_
  refine x_getRs (r := 4) C fkM_X12_20 (nlt rfl) rfl (congrFun (congrFun hr 0) 4) dX12_copyAll_60 ?_
  refine x_iconst C dX12_copyAll_63 ?_
  refine x_iload_n (i := 1) C dX12_copyAll_64 rfl rfl ?_
  refine x_iload_n (i := 2) C dX12_copyAll_65 rfl rfl ?_
  refine x_callS (As := [.ref 4, .int (iI (1)), .int (iI (0)), .int (iI (q))]) C (by exact (m_copyRow4 (q := q) (by exact hr) (by omega) (by omega))) ckX12_161 sm_X12_copyRow rfl rfl (nle rfl) (by exact ⟨nle rfl, nle rfl⟩) dX12_copyAll_66 ?_
  rintro _ Xk3 ⟨rfl, hr⟩
  refine Wx_st (st' := []) rfl ?_
  refine x_aload_n (i := 0) C dX12_copyAll_69 rfl rfl ?_
  refine x_getRs (r := 5) C fkM_X12_23 (nlt rfl) rfl (congrFun (congrFun hr 0) 5) dX12_copyAll_70 ?_
  refine x_iconst C dX12_copyAll_73 ?_
  refine x_iload_n (i := 1) C dX12_copyAll_74 rfl rfl ?_
  refine x_iload_n (i := 2) C dX12_copyAll_75 rfl rfl ?_
  refine x_callS (As := [.ref 5, .int (iI (3)), .int (iI (0)), .int (iI (q))]) C (by exact (m_copyRow5 (q := q) (by exact hr) (by omega) (by omega))) ckX12_161 sm_X12_copyRow rfl rfl (nle rfl) (by exact ⟨nle rfl, nle rfl⟩) dX12_copyAll_76 ?_
  rintro _ Xk4 ⟨rfl, hr⟩
  refine Wx_st (st' := []) rfl ?_
  refine x_aload_n (i := 0) C dX12_copyAll_79 rfl rfl ?_
  refine x_getRs (r := 6) C fkM_X12_26 (nlt rfl) rfl (congrFun (congrFun hr 0) 6) dX12_copyAll_80 ?_
  refine x_bipush C dX12_copyAll_83 (by decide) ?_
  refine x_iload_n (i := 1) C dX12_copyAll_85 rfl rfl ?_
  refine x_iload_n (i := 2) C dX12_copyAll_86 rfl rfl ?_
  refine x_callS (As := [.ref 6, .int (iI (102)), .int (iI (0)), .int (iI (q))]) C (by exact (m_copyRow6 (q := q) (by exact hr) (by omega) (by omega))) ckX12_161 sm_X12_copyRow rfl rfl (nle rfl) (by exact ⟨nle rfl, nle rfl⟩) dX12_copyAll_87 ?_
  rintro _ Xk5 ⟨rfl, hr⟩
  refine Wx_st (st' := []) rfl ?_
  refine x_aload_n (i := 0) C dX12_copyAll_90 rfl rfl ?_
  refine x_getRs (r := 7) C fkM_X12_29 (nlt rfl) rfl (congrFun (congrFun hr 0) 7) dX12_copyAll_91 ?_
  refine x_bipush C dX12_copyAll_94 (by decide) ?_
  refine x_iload_n (i := 1) C dX12_copyAll_96 rfl rfl ?_
  refine x_iload_n (i := 2) C dX12_copyAll_97 rfl rfl ?_
  refine x_callS (As := [.ref 7, .int (iI (30)), .int (iI (0)), .int (iI (q))]) C (by exact (m_copyRow7 (q := q) (by exact hr) (by omega) (by omega))) ckX12_161 sm_X12_copyRow rfl rfl (nle rfl) (by exact ⟨nle rfl, nle rfl⟩) dX12_copyAll_98 ?_
  rintro _ Xk6 ⟨rfl, hr⟩
  refine Wx_st (st' := []) rfl ?_
  refine x_aload_n (i := 0) C dX12_copyAll_101 rfl rfl ?_
  refine x_getRs (r := 8) C fkM_X12_32 (nlt rfl) rfl (congrFun (congrFun hr 0) 8) dX12_copyAll_102 ?_
  refine x_sipush C dX12_copyAll_105 (by decide) ?_
  refine x_iload_n (i := 1) C dX12_copyAll_108 rfl rfl ?_
  refine x_iload_n (i := 2) C dX12_copyAll_109 rfl rfl ?_
  refine x_callS (As := [.ref 8, .int (iI (662)), .int (iI (0)), .int (iI (q))]) C (by exact (m_copyRow8 (q := q) (by exact hr) (by omega) (by omega))) ckX12_161 sm_X12_copyRow rfl rfl (nle rfl) (by exact ⟨nle rfl, nle rfl⟩) dX12_copyAll_110 ?_
  rintro _ Xk7 ⟨rfl, hr⟩
  refine Wx_st (st' := []) rfl ?_
  exact x_vret C hQ dX12_copyAll_113 (⟨rfl, hr⟩)
set_option maxHeartbeats 4000000 in
set_option maxRecDepth 100000 in
theorem m_image {D : va_G} {ad : Nat → Nat} {cA : Nat → ClassId} {k : Int} (hk : inR k) : MetX (wM D ad cA) yX12_image cX12_image 2 (some .boolean) 2 47 [.ref 0, .int (iI (k))] x0M (fun r _ => r = some (.int (iI (if 0 ≤ k ∧ k ≤ 2 then 1 else 0)))) := by
  have hr : (x0M).2.2 = rM := rfl
  unfold inR at hk
  refine MetX.mk (own := RX12) (by decide +kernel) rfl (nle rfl) (fun E C hQ => ?_)
  refine Wx_lv (lv' := [(0, .ref 0), (1, .int (iI (k)))]) rfl ?_
  refine x_aload_n (i := 0) C dX12_image_0 rfl rfl ?_
  refine x_iconst C dX12_image_1 ?_
  refine x_putI C pkM_X12_157 (nlt rfl) rfl dX12_image_2 ?_
  refine x_iload_n (i := 1) C dX12_image_5 rfl rfl ?_
  refine x_iconst C dX12_image_6 ?_
  refine x_iconst C dX12_image_7 ?_
  refine x_callS (As := [.int (iI (k)), .int (iI (0)), .int (iI (2))]) C (by exact (m_in (v := k) (a := 0) (b := 2) ⟨by omega, by omega⟩ ⟨by omega, by omega⟩ ⟨by omega, by omega⟩)) ckX12_165 sm_X12_in rfl rfl (nle rfl) (by exact ⟨nle rfl, nle rfl⟩) dX12_image_8 ?_
  rintro _ _ ⟨rfl, u1, rfl, h2⟩
  refine Wx_st (st' := [.int (iI (u1))]) rfl ?_
  refine x_if_ne (tgt := 16) C dX12_image_11 (by decide) ⟨by omega, by omega⟩ (fun h3 => ?_) (fun h3 => ?_)
  · refine x_aload_n (i := 0) C dX12_image_16 rfl rfl ?_
    refine x_iconst C dX12_image_17 ?_
    refine x_iload_n (i := 1) C dX12_image_18 rfl rfl ?_
    refine x_iconst C dX12_image_19 ?_
    refine x_iadd C dX12_image_20 ?_
    refine x_callV (As := [.int (iI (0)), .int (iI (k + 1))]) C (by exact (m_copyAll (q := k + 1) (by exact hr) (fun _ => rfl) (by omega) (by omega))) ckX12_562 im_X12_copyAll se_X12_copyAll (nlt rfl) rfl rfl rfl rfl (nle rfl) (by exact ⟨nle rfl, nle rfl⟩) dX12_image_21 ?_
    rintro _ Xk4 ⟨rfl, hr⟩
    refine Wx_st (st' := []) rfl ?_
    refine x_aload_n (i := 0) C dX12_image_24 rfl rfl ?_
    refine x_getRs (r := 48) C fkM_X12_154 (nlt rfl) rfl (congrFun (congrFun hr 0) 74) dX12_image_25 ?_
    refine x_iload_n (i := 1) C dX12_image_28 rfl rfl ?_
    refine x_iconst C dX12_image_29 ?_
    refine x_zast C (nlt rfl) rfl rfl (nle rfl) (by omega) (by omega) (by omega) dX12_image_30 ?_
    refine x_iconst C dX12_image_31 ?_
    exact x_zret C hQ (by omega) dX12_image_32 (congrArg (fun z : Int => some (Value.int (iI z))) (by first | rfl | omega | (split <;> omega) | (repeat (first | omega | split))))
  · refine x_iconst C dX12_image_14 ?_
    exact x_zret C hQ (by omega) dX12_image_15 (congrArg (fun z : Int => some (Value.int (iI z))) (by first | rfl | omega | (split <;> omega) | (repeat (first | omega | split))))
set_option maxHeartbeats 4000000 in
set_option maxRecDepth 100000 in
theorem m_again {D : va_G} {ad : Nat → Nat} {cA : Nat → ClassId} {k : Int} (hk : inR k) : MetX (wM D ad cA) yX12_again cX12_again 2 (some .boolean) 2 47 [.ref 0, .int (iI (k))] x0M (fun r _ => r = some (.int (iI (0)))) := by
  have hr : (x0M).2.2 = rM := rfl
  unfold inR at hk
  refine MetX.mk (own := RX12) (by decide +kernel) rfl (nle rfl) (fun E C hQ => ?_)
  refine Wx_lv (lv' := [(0, .ref 0), (1, .int (iI (k)))]) rfl ?_
  refine x_aload_n (i := 0) C dX12_again_0 rfl rfl ?_
  refine x_iconst C dX12_again_1 ?_
  refine x_putI C pkM_X12_157 (nlt rfl) rfl dX12_again_2 ?_
  refine x_iload_n (i := 1) C dX12_again_5 rfl rfl ?_
  refine x_iconst C dX12_again_6 ?_
  refine x_iconst C dX12_again_7 ?_
  refine x_callS (As := [.int (iI (k)), .int (iI (0)), .int (iI (2))]) C (by exact (m_in (v := k) (a := 0) (b := 2) ⟨by omega, by omega⟩ ⟨by omega, by omega⟩ ⟨by omega, by omega⟩)) ckX12_165 sm_X12_in rfl rfl (nle rfl) (by exact ⟨nle rfl, nle rfl⟩) dX12_again_8 ?_
  rintro _ _ ⟨rfl, u1, rfl, h2⟩
  refine Wx_st (st' := [.int (iI (u1))]) rfl ?_
  refine x_if_eq (tgt := 23) C dX12_again_11 (by decide) ⟨by omega, by omega⟩ (fun h3 => ?_) (fun h3 => ?_)
  · refine x_iconst C dX12_again_23 ?_
    exact x_zret C hQ (by omega) dX12_again_24 (congrArg (fun z : Int => some (Value.int (iI z))) (by first | rfl | omega | (split <;> omega) | (repeat (first | omega | split))))
  · refine x_aload_n (i := 0) C dX12_again_14 rfl rfl ?_
    refine x_getRs (r := 48) C fkM_X12_154 (nlt rfl) rfl (congrFun (congrFun hr 0) 74) dX12_again_15 ?_
    refine x_iload_n (i := 1) C dX12_again_18 rfl rfl ?_
    refine x_zald C (nlt rfl) rfl rfl (nle rfl) (by omega) (by omega) dX12_again_19 ?_
    refine x_eq (b := 0) rfl ?_
    refine x_if_ne (tgt := 25) C dX12_again_20 (by decide) ⟨by omega, by omega⟩ (fun h4 => by exfalso; omega) (fun h4 => ?_)
    refine x_iconst C dX12_again_23 ?_
    exact x_zret C hQ (by omega) dX12_again_24 (congrArg (fun z : Int => some (Value.int (iI z))) (by first | rfl | omega | (split <;> omega) | (repeat (first | omega | split))))
