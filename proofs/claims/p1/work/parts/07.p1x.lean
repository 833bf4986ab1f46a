set_option maxHeartbeats 4000000 in
set_option maxRecDepth 100000 in
theorem n_boardAt {D : va_G} {ad : Nat → Nat} {cA : Nat → ClassId} {X : XT} (hr : HRX X) (mz : ∀ i, X.1 3 i = 0) {k : Int} (hk : inR k) : MetX (wX D ad cA) yX8_boardAt cX8_boardAt 2 (some (.object "WrittenMoves$Board")) 0 0 [.ref 1, .int (iI (k))] X (fun r X' => X' = X ∧ r = some .null) := by
  unfold inR at hk
  refine MetX.mk (own := RX8) (by decide +kernel) rfl (nle rfl) (fun E C hQ => ?_)
  refine Wx_lv (lv' := [(0, .ref 1), (1, .int (iI (k)))]) rfl ?_
  refine x_iload_n (i := 1) C dX8_boardAt_0 rfl rfl ?_
  refine x_if_lt (tgt := 23) C dX8_boardAt_1 (by decide) ⟨by omega, by omega⟩ (fun h1 => ?_) (fun h1 => ?_)
  · refine x_null C dX8_boardAt_23 ?_
    exact x_aret (r := none) C hQ dX8_boardAt_24 (⟨rfl, rfl⟩)
  · refine x_iload_n (i := 1) C dX8_boardAt_4 rfl rfl ?_
    refine x_aload_n (i := 0) C dX8_boardAt_5 rfl rfl ?_
    refine x_getRs (r := 3) C fkX_X8_19 (nlt rfl) rfl (hr 1 4 rfl) dX8_boardAt_6 ?_
    refine x_iconst C dX8_boardAt_9 ?_
    refine x_iald C (nlt rfl) rfl rfl (nle rfl) (by omega) (by omega) dX8_boardAt_10 ?_
    refine x_eq (b := 0) (mz _) ?_
    refine x_icmp_ge (tgt := 23) C dX8_boardAt_11 (by decide) ⟨by omega, by omega⟩ ⟨by omega, by omega⟩ (fun h2 => ?_) (fun h2 => by exfalso; omega)
    refine x_null C dX8_boardAt_23 ?_
    exact x_aret (r := none) C hQ dX8_boardAt_24 (⟨rfl, rfl⟩)
set_option maxHeartbeats 4000000 in
set_option maxRecDepth 100000 in
theorem n_gameAt {D : va_G} {ad : Nat → Nat} {cA : Nat → ClassId} {X : XT} (hr : HRX X) (mz : ∀ i, X.1 3 i = 0) {k : Int} (hk : inR k) : MetX (wX D ad cA) yX8_gameAt cX8_gameAt 2 (some (.object "WrittenMoves$Game")) 0 0 [.ref 1, .int (iI (k))] X (fun r X' => X' = X ∧ r = some .null) := by
  unfold inR at hk
  refine MetX.mk (own := RX8) (by decide +kernel) rfl (nle rfl) (fun E C hQ => ?_)
  refine Wx_lv (lv' := [(0, .ref 1), (1, .int (iI (k)))]) rfl ?_
  refine x_iload_n (i := 1) C dX8_gameAt_0 rfl rfl ?_
  refine x_if_lt (tgt := 23) C dX8_gameAt_1 (by decide) ⟨by omega, by omega⟩ (fun h1 => ?_) (fun h1 => ?_)
  · refine x_null C dX8_gameAt_23 ?_
    exact x_aret (r := none) C hQ dX8_gameAt_24 (⟨rfl, rfl⟩)
  · refine x_iload_n (i := 1) C dX8_gameAt_4 rfl rfl ?_
    refine x_aload_n (i := 0) C dX8_gameAt_5 rfl rfl ?_
    refine x_getRs (r := 3) C fkX_X8_19 (nlt rfl) rfl (hr 1 4 rfl) dX8_gameAt_6 ?_
    refine x_iconst C dX8_gameAt_9 ?_
    refine x_iald C (nlt rfl) rfl rfl (nle rfl) (by omega) (by omega) dX8_gameAt_10 ?_
    refine x_eq (b := 0) (mz _) ?_
    refine x_icmp_ge (tgt := 23) C dX8_gameAt_11 (by decide) ⟨by omega, by omega⟩ ⟨by omega, by omega⟩ (fun h2 => ?_) (fun h2 => by exfalso; omega)
    refine x_null C dX8_gameAt_23 ?_
    exact x_aret (r := none) C hQ dX8_gameAt_24 (⟨rfl, rfl⟩)
set_option maxHeartbeats 4000000 in
set_option maxRecDepth 100000 in
theorem n_hasRule {D : va_G} {ad : Nat → Nat} {cA : Nat → ClassId} {X : XT} (hr : HRX X) (mz : ∀ i, X.1 3 i = 0) {k : Int} (hk : inR k) : MetX (wX D ad cA) yX8_hasRule cX8_hasRule 2 (some .boolean) 0 0 [.ref 1, .int (iI (k))] X (fun r X' => X' = X ∧ r = some (.int (iI 0))) := by
  unfold inR at hk
  refine MetX.mk (own := RX8) (by decide +kernel) rfl (nle rfl) (fun E C hQ => ?_)
  refine Wx_lv (lv' := [(0, .ref 1), (1, .int (iI (k)))]) rfl ?_
  refine x_iload_n (i := 1) C dX8_hasRule_0 rfl rfl ?_
  refine x_if_lt (tgt := 18) C dX8_hasRule_1 (by decide) ⟨by omega, by omega⟩ (fun h1 => ?_) (fun h1 => ?_)
  · refine x_iconst C dX8_hasRule_18 ?_
    exact x_zret C hQ (by omega) dX8_hasRule_19 (⟨rfl, rfl⟩)
  · refine x_iload_n (i := 1) C dX8_hasRule_4 rfl rfl ?_
    refine x_aload_n (i := 0) C dX8_hasRule_5 rfl rfl ?_
    refine x_getRs (r := 3) C fkX_X8_19 (nlt rfl) rfl (hr 1 4 rfl) dX8_hasRule_6 ?_
    refine x_iconst C dX8_hasRule_9 ?_
    refine x_iald C (nlt rfl) rfl rfl (nle rfl) (by omega) (by omega) dX8_hasRule_10 ?_
    refine x_eq (b := 0) (mz _) ?_
    refine x_icmp_ge (tgt := 18) C dX8_hasRule_11 (by decide) ⟨by omega, by omega⟩ ⟨by omega, by omega⟩ (fun h2 => ?_) (fun h2 => by exfalso; omega)
    refine x_iconst C dX8_hasRule_18 ?_
    exact x_zret C hQ (by omega) dX8_hasRule_19 (⟨rfl, rfl⟩)
set_option maxHeartbeats 4000000 in
set_option maxRecDepth 100000 in
theorem n_canContest {D : va_G} {ad : Nat → Nat} {cA : Nat → ClassId} {X : XT} {a b : Int} (ha : inR a) (hb : inR b) : MetX (wX D ad cA) yX11_canContest cX11_canContest 3 (some .boolean) 0 0 [.null, .int (iI (a)), .int (iI (b))] X (fun r X' => X' = X ∧ r = some (.int (iI 0))) := by
  unfold inR at ha hb
  refine MetX.mk (own := RX11) (by decide +kernel) rfl (nle rfl) (fun E C hQ => ?_)
  refine Wx_lv (lv' := [(0, .null), (1, .int (iI (a))), (2, .int (iI (b)))]) rfl ?_
  refine x_aload_nN (i := 0) C dX11_canContest_0 rfl rfl ?_
  refine x_ifnullN (tgt := 27) C dX11_canContest_1 (by decide) ?_
  refine x_iconst C dX11_canContest_27 ?_
  exact x_zret C hQ (by omega) dX11_canContest_28 (⟨rfl, rfl⟩)
set_option maxHeartbeats 4000000 in
set_option maxRecDepth 100000 in
theorem n_canTrace {D : va_G} {ad : Nat → Nat} {cA : Nat → ClassId} {X : XT} (hr : HRX X) (mz : ∀ i, X.1 3 i = 0) {a b c d : Int} (ha : inR a) (hb : inR b) (hc : inR c) (hd : inR d) : MetX (wX D ad cA) yX11_canTrace cX11_canTrace 6 (some .boolean) 1 21 [.ref 0, .int (iI (a)), .int (iI (b)), .int (iI (c)), .int (iI (d))] X (fun r X' => X' = X ∧ r = some (.int (iI 0))) := by
  unfold inR at ha hb hc hd
  refine MetX.mk (own := RX11) (by decide +kernel) rfl (nle rfl) (fun E C hQ => ?_)
  refine Wx_lv (lv' := [(0, .ref 0), (1, .int (iI (a))), (2, .int (iI (b))), (3, .int (iI (c))), (4, .int (iI (d)))]) rfl ?_
  refine x_aload_n (i := 0) C dX11_canTrace_0 rfl rfl ?_
  refine x_getRs (r := 1) C fkX_X11_10 (nlt rfl) rfl (hr 0 0 rfl) dX11_canTrace_1 ?_
  refine x_iload_n (i := 1) C dX11_canTrace_4 rfl rfl ?_
  refine x_callV (As := [.int (iI (a))]) C (by exact (n_boardAt (k := a) (by exact hr) (by exact mz) ⟨by omega, by omega⟩)) ckX11_89 im_X8_boardAt se_X8_boardAt (nlt rfl) rfl rfl rfl rfl (nle rfl) (by exact ⟨nle rfl, nle rfl⟩) dX11_canTrace_5 ?_
  rintro _ _ ⟨rfl, rfl⟩
  refine Wx_st (st' := [.null]) rfl ?_
  refine x_astoreN (lv' := [(5, .null), (0, .ref 0), (1, .int (iI (a))), (2, .int (iI (b))), (3, .int (iI (c))), (4, .int (iI (d)))]) C dX11_canTrace_8 (nlt rfl) rfl ?_
  refine x_aloadN C dX11_canTrace_10 rfl ?_
  refine x_ifnullN (tgt := 49) C dX11_canTrace_12 (by decide) ?_
  refine x_iconst C dX11_canTrace_49 ?_
  exact x_zret C hQ (by omega) dX11_canTrace_50 (⟨rfl, rfl⟩)
set_option maxHeartbeats 4000000 in
set_option maxRecDepth 100000 in
theorem n_follow {D : va_G} {ad : Nat → Nat} {cA : Nat → ClassId} {X : XT} {n : Int} (hn : inR n) : MetX (wX D ad cA) yX5_follow cX5_follow 8 (some .int) 6 159 [.ref 38, .null, .null, .int (iI (n))] X (fun r X' => X' = X ∧ r = some (.int (iI (-1)))) := by
  unfold inR at hn
  refine MetX.mk (own := RX5) (by decide +kernel) rfl (nle rfl) (fun E C hQ => ?_)
  refine Wx_lv (lv' := [(0, .ref 38), (1, .null), (2, .null), (3, .int (iI (n)))]) rfl ?_
  refine x_aload_nN (i := 1) C dX5_follow_0 rfl rfl ?_
  refine x_ifnullN (tgt := 20) C dX5_follow_1 (by decide) ?_
  refine x_iconst C dX5_follow_20 ?_
  exact x_iret C hQ dX5_follow_21 (⟨rfl, rfl⟩)
set_option maxHeartbeats 4000000 in
set_option maxRecDepth 100000 in
theorem n_put {D : va_G} {ad : Nat → Nat} {cA : Nat → ClassId} {X : XT} (hr : HRX X) {v n : Int} (hv : inR v) (hm : X.1 1 0 = n) (hn0 : 0 ≤ n) (hn : n ≤ 580) : MetX (wX D ad cA) yX8_put cX8_put 3 none 0 0 [.ref 1, .int (iI (v))] X (fun r X' => r = none ∧ HRX X' ∧ X'.1 1 0 = n + 4) := by
  unfold inR at hv
  refine MetX.mk (own := RX8) (by decide +kernel) rfl (nle rfl) (fun E C hQ => ?_)
  refine Wx_lv (lv' := [(0, .ref 1), (1, .int (iI (v)))]) rfl ?_
  refine x_bipush C dX8_put_0 (by decide) ?_
  refine x_istore_n (i := 2) (lv' := [(2, .int (iI (24))), (0, .ref 1), (1, .int (iI (v)))]) C dX8_put_2 rfl (nlt rfl) rfl ?_
  refine x_iload_n (i := 2) C dX8_put_3 rfl rfl ?_
  refine x_if_lt (tgt := 49) C dX8_put_4 (by decide) ⟨by omega, by omega⟩ (fun h1 => by exfalso; omega) (fun h1 => ?_)
  refine x_aload_n (i := 0) C dX8_put_7 rfl rfl ?_
  refine x_getI C fkX_X8_40 (nlt rfl) rfl dX8_put_8 ?_
  refine x_eq (b := n) hm ?_
  refine x_sipush C dX8_put_11 (by decide) ?_
  refine x_icmp_ge (tgt := 49) C dX8_put_14 (by decide) ⟨by omega, by omega⟩ ⟨by omega, by omega⟩ (fun h2 => by exfalso; omega) (fun h2 => ?_)
  refine x_aload_n (i := 0) C dX8_put_17 rfl rfl ?_
  refine x_getRs (r := 2) C fkX_X8_15 (nlt rfl) rfl (hr 1 3 rfl) dX8_put_18 ?_
  refine x_aload_n (i := 0) C dX8_put_21 rfl rfl ?_
  refine x_getI C fkX_X8_40 (nlt rfl) rfl dX8_put_22 ?_
  refine x_eq (b := n) hm ?_
  refine x_iload_n (i := 1) C dX8_put_25 rfl rfl ?_
  refine x_iload_n (i := 2) C dX8_put_26 rfl rfl ?_
  refine x_iushr C dX8_put_27 ?_
  refine x_topi (fun v3 rv3 ev3 => ?_)
  unfold inR at rv3
  refine x_sipush C dX8_put_28 (by decide) ?_
  refine x_iand C dX8_put_31 ?_
  refine x_topi (fun v4 rv4 ev4 => ?_)
  unfold inR at rv4
  have bv4 := and_bd (m := 255) (by decide) (by decide) rv4 ev4
  refine x_iast C (nlt rfl) rfl rfl (nle rfl) (by omega) (by omega) dX8_put_32 ?_
  refine x_aload_n (i := 0) C dX8_put_33 rfl rfl ?_
  refine x_dup C dX8_put_34 rfl ?_
  refine x_getI C fkX_X8_40 (nlt rfl) rfl dX8_put_35 ?_
  refine x_eq (b := n) hm ?_
  refine x_iconst C dX8_put_38 ?_
  refine x_iadd C dX8_put_39 ?_
  refine x_putI C pkX_X8_40 (nlt rfl) rfl dX8_put_40 ?_
  refine x_iinc (lv' := [(2, .int (iI (24 + (-8)))), (0, .ref 1), (1, .int (iI (v)))]) C dX8_put_43 rfl (nlt rfl) rfl ?_
  refine Wx_lv (lv' := [(2, .int (iI (16))), (0, .ref 1), (1, .int (iI (v)))]) rfl ?_
  refine x_goto (tgt := 3) C dX8_put_46 (by decide) ?_
  refine x_iload_n (i := 2) C dX8_put_3 rfl rfl ?_
  refine x_if_lt (tgt := 49) C dX8_put_4 (by decide) ⟨by omega, by omega⟩ (fun h5 => by exfalso; omega) (fun h5 => ?_)
  refine x_aload_n (i := 0) C dX8_put_7 rfl rfl ?_
  refine x_getI C fkX_X8_40 (nlt rfl) rfl dX8_put_8 ?_
  refine x_eq (b := n + 1) rfl ?_
  refine x_sipush C dX8_put_11 (by decide) ?_
  refine x_icmp_ge (tgt := 49) C dX8_put_14 (by decide) ⟨by omega, by omega⟩ ⟨by omega, by omega⟩ (fun h6 => by exfalso; omega) (fun h6 => ?_)
  refine x_aload_n (i := 0) C dX8_put_17 rfl rfl ?_
  refine x_getRs (r := 2) C fkX_X8_15 (nlt rfl) rfl (hr 1 3 rfl) dX8_put_18 ?_
  refine x_aload_n (i := 0) C dX8_put_21 rfl rfl ?_
  refine x_getI C fkX_X8_40 (nlt rfl) rfl dX8_put_22 ?_
  refine x_eq (b := n + 1) rfl ?_
  refine x_iload_n (i := 1) C dX8_put_25 rfl rfl ?_
  refine x_iload_n (i := 2) C dX8_put_26 rfl rfl ?_
  refine x_iushr C dX8_put_27 ?_
  refine x_topi (fun v7 rv7 ev7 => ?_)
  unfold inR at rv7
  have bv7 := ushr16_bd rv7 ev7
  refine x_sipush C dX8_put_28 (by decide) ?_
  refine x_iand C dX8_put_31 ?_
  refine x_topi (fun v8 rv8 ev8 => ?_)
  unfold inR at rv8
  have bv8 := and_bd (m := 255) (by decide) (by decide) rv8 ev8
  refine x_iast C (nlt rfl) rfl rfl (nle rfl) (by omega) (by omega) dX8_put_32 ?_
  refine x_aload_n (i := 0) C dX8_put_33 rfl rfl ?_
  refine x_dup C dX8_put_34 rfl ?_
  refine x_getI C fkX_X8_40 (nlt rfl) rfl dX8_put_35 ?_
  refine x_eq (b := n + 1) rfl ?_
  refine x_iconst C dX8_put_38 ?_
  refine x_iadd C dX8_put_39 ?_
  refine x_putI C pkX_X8_40 (nlt rfl) rfl dX8_put_40 ?_
  refine x_iinc (lv' := [(2, .int (iI (16 + (-8)))), (0, .ref 1), (1, .int (iI (v)))]) C dX8_put_43 rfl (nlt rfl) rfl ?_
  refine Wx_lv (lv' := [(2, .int (iI (8))), (0, .ref 1), (1, .int (iI (v)))]) rfl ?_
  refine x_goto (tgt := 3) C dX8_put_46 (by decide) ?_
  refine x_iload_n (i := 2) C dX8_put_3 rfl rfl ?_
  refine x_if_lt (tgt := 49) C dX8_put_4 (by decide) ⟨by omega, by omega⟩ (fun h9 => by exfalso; omega) (fun h9 => ?_)
  refine x_aload_n (i := 0) C dX8_put_7 rfl rfl ?_
  refine x_getI C fkX_X8_40 (nlt rfl) rfl dX8_put_8 ?_
  refine x_eq (b := (n + 1) + 1) rfl ?_
  refine x_sipush C dX8_put_11 (by decide) ?_
  refine x_icmp_ge (tgt := 49) C dX8_put_14 (by decide) ⟨by omega, by omega⟩ ⟨by omega, by omega⟩ (fun h10 => by exfalso; omega) (fun h10 => ?_)
  refine x_aload_n (i := 0) C dX8_put_17 rfl rfl ?_
  refine x_getRs (r := 2) C fkX_X8_15 (nlt rfl) rfl (hr 1 3 rfl) dX8_put_18 ?_
  refine x_aload_n (i := 0) C dX8_put_21 rfl rfl ?_
  refine x_getI C fkX_X8_40 (nlt rfl) rfl dX8_put_22 ?_
  refine x_eq (b := (n + 1) + 1) rfl ?_
  refine x_iload_n (i := 1) C dX8_put_25 rfl rfl ?_
  refine x_iload_n (i := 2) C dX8_put_26 rfl rfl ?_
  refine x_iushr C dX8_put_27 ?_
  refine x_topi (fun v11 rv11 ev11 => ?_)
  unfold inR at rv11
  refine x_sipush C dX8_put_28 (by decide) ?_
  refine x_iand C dX8_put_31 ?_
  refine x_topi (fun v12 rv12 ev12 => ?_)
  unfold inR at rv12
  have bv12 := and_bd (m := 255) (by decide) (by decide) rv12 ev12
  refine x_iast C (nlt rfl) rfl rfl (nle rfl) (by omega) (by omega) dX8_put_32 ?_
  refine x_aload_n (i := 0) C dX8_put_33 rfl rfl ?_
  refine x_dup C dX8_put_34 rfl ?_
  refine x_getI C fkX_X8_40 (nlt rfl) rfl dX8_put_35 ?_
  refine x_eq (b := (n + 1) + 1) rfl ?_
  refine x_iconst C dX8_put_38 ?_
  refine x_iadd C dX8_put_39 ?_
  refine x_putI C pkX_X8_40 (nlt rfl) rfl dX8_put_40 ?_
  refine x_iinc (lv' := [(2, .int (iI (8 + (-8)))), (0, .ref 1), (1, .int (iI (v)))]) C dX8_put_43 rfl (nlt rfl) rfl ?_
  refine Wx_lv (lv' := [(2, .int (iI (0))), (0, .ref 1), (1, .int (iI (v)))]) rfl ?_
  refine x_goto (tgt := 3) C dX8_put_46 (by decide) ?_
  refine x_iload_n (i := 2) C dX8_put_3 rfl rfl ?_
  refine x_if_lt (tgt := 49) C dX8_put_4 (by decide) ⟨by omega, by omega⟩ (fun h13 => by exfalso; omega) (fun h13 => ?_)
  refine x_aload_n (i := 0) C dX8_put_7 rfl rfl ?_
  refine x_getI C fkX_X8_40 (nlt rfl) rfl dX8_put_8 ?_
  refine x_eq (b := ((n + 1) + 1) + 1) rfl ?_
  refine x_sipush C dX8_put_11 (by decide) ?_
  refine x_icmp_ge (tgt := 49) C dX8_put_14 (by decide) ⟨by omega, by omega⟩ ⟨by omega, by omega⟩ (fun h14 => by exfalso; omega) (fun h14 => ?_)
  refine x_aload_n (i := 0) C dX8_put_17 rfl rfl ?_
  refine x_getRs (r := 2) C fkX_X8_15 (nlt rfl) rfl (hr 1 3 rfl) dX8_put_18 ?_
  refine x_aload_n (i := 0) C dX8_put_21 rfl rfl ?_
  refine x_getI C fkX_X8_40 (nlt rfl) rfl dX8_put_22 ?_
  refine x_eq (b := ((n + 1) + 1) + 1) rfl ?_
  refine x_iload_n (i := 1) C dX8_put_25 rfl rfl ?_
  refine x_iload_n (i := 2) C dX8_put_26 rfl rfl ?_
  refine x_iushr C dX8_put_27 ?_
  refine x_topi (fun v15 rv15 ev15 => ?_)
  unfold inR at rv15
  refine x_sipush C dX8_put_28 (by decide) ?_
  refine x_iand C dX8_put_31 ?_
  refine x_topi (fun v16 rv16 ev16 => ?_)
  unfold inR at rv16
  have bv16 := and_bd (m := 255) (by decide) (by decide) rv16 ev16
  refine x_iast C (nlt rfl) rfl rfl (nle rfl) (by omega) (by omega) dX8_put_32 ?_
  refine x_aload_n (i := 0) C dX8_put_33 rfl rfl ?_
  refine x_dup C dX8_put_34 rfl ?_
  refine x_getI C fkX_X8_40 (nlt rfl) rfl dX8_put_35 ?_
  refine x_eq (b := ((n + 1) + 1) + 1) rfl ?_
  refine x_iconst C dX8_put_38 ?_
  refine x_iadd C dX8_put_39 ?_
  refine x_putI C pkX_X8_40 (nlt rfl) rfl dX8_put_40 ?_
  refine x_iinc (lv' := [(2, .int (iI (0 + (-8)))), (0, .ref 1), (1, .int (iI (v)))]) C dX8_put_43 rfl (nlt rfl) rfl ?_
  refine Wx_lv (lv' := [(2, .int (iI ((-8)))), (0, .ref 1), (1, .int (iI (v)))]) rfl ?_
  refine x_goto (tgt := 3) C dX8_put_46 (by decide) ?_
  refine x_iload_n (i := 2) C dX8_put_3 rfl rfl ?_
  refine x_if_lt (tgt := 49) C dX8_put_4 (by decide) ⟨by omega, by omega⟩ (fun h17 => ?_) (fun h17 => by exfalso; omega)
  exact x_vret C hQ dX8_put_49 (⟨rfl, hr, by show (((n + 1) + 1) + 1) + 1 = n + 4; omega⟩)
set_option maxHeartbeats 4000000 in
set_option maxRecDepth 100000 in
theorem x_feed {D : va_G} {ad : Nat → Nat} {cA : Nat → ClassId} {a b c d e : Int} (ha : inR a) (hb : inR b) (hc : inR c) (hd : inR d) (he : inR e) : MetX (wX D ad cA) yX11_feed cX11_feed 6 (some .int) 1 22 [.ref 0, .int (iI (a)), .int (iI (b)), .int (iI (c)), .int (iI (d)), .int (iI (e))] x0X (fun r _ => r = some (.int (iI (20)))) := by
  have hr : HRX x0X := fun _ _ _ => rfl
  unfold inR at ha hb hc hd he
  refine MetX.mk (own := RX11) (by decide +kernel) rfl (nle rfl) (fun E C hQ => ?_)
  refine Wx_lv (lv' := [(0, .ref 0), (1, .int (iI (a))), (2, .int (iI (b))), (3, .int (iI (c))), (4, .int (iI (d))), (5, .int (iI (e)))]) rfl ?_
  refine x_aload_n (i := 0) C dX11_feed_0 rfl rfl ?_
  refine x_getRs (r := 1) C fkX_X11_10 (nlt rfl) rfl (hr 0 0 rfl) dX11_feed_1 ?_
  refine x_getI C fkX_X11_57 (nlt rfl) rfl dX11_feed_4 ?_
  refine x_eq (b := 0) rfl ?_
  refine x_bipush C dX11_feed_7 (by decide) ?_
  refine x_iadd C dX11_feed_9 ?_
  refine x_eq (b := 20) rfl ?_
  refine x_sipush C dX11_feed_10 (by decide) ?_
  refine x_icmp_le (tgt := 18) C dX11_feed_13 (by decide) ⟨by omega, by omega⟩ ⟨by omega, by omega⟩ (fun h1 => ?_) (fun h1 => by exfalso; omega)
  refine x_aload_n (i := 0) C dX11_feed_18 rfl rfl ?_
  refine x_getRs (r := 1) C fkX_X11_10 (nlt rfl) rfl (hr 0 0 rfl) dX11_feed_19 ?_
  refine x_iload_n (i := 1) C dX11_feed_22 rfl rfl ?_
  refine x_callV (As := [.int (iI (a))]) C (by exact (n_put (v := a) (n := 0) (by exact hr) ⟨by omega, by omega⟩ (by exact rfl) (by omega) (by omega))) ckX11_61 im_X8_put se_X8_put (nlt rfl) rfl rfl rfl rfl (nle rfl) (by exact ⟨nle rfl, nle rfl⟩) dX11_feed_23 ?_
  rintro _ Xh2 ⟨rfl, hr, h2⟩
  refine Wx_st (st' := []) rfl ?_
  refine x_aload_n (i := 0) C dX11_feed_26 rfl rfl ?_
  refine x_getRs (r := 1) C fkX_X11_10 (nlt rfl) rfl (hr 0 0 rfl) dX11_feed_27 ?_
  refine x_iload_n (i := 2) C dX11_feed_30 rfl rfl ?_
  refine x_callV (As := [.int (iI (b))]) C (by exact (n_put (v := b) (n := 4) (by exact hr) ⟨by omega, by omega⟩ (by exact h2) (by omega) (by omega))) ckX11_61 im_X8_put se_X8_put (nlt rfl) rfl rfl rfl rfl (nle rfl) (by exact ⟨nle rfl, nle rfl⟩) dX11_feed_31 ?_
  rintro _ Xh3 ⟨rfl, hr, h3⟩
  refine Wx_st (st' := []) rfl ?_
  refine x_aload_n (i := 0) C dX11_feed_34 rfl rfl ?_
  refine x_getRs (r := 1) C fkX_X11_10 (nlt rfl) rfl (hr 0 0 rfl) dX11_feed_35 ?_
  refine x_iload_n (i := 3) C dX11_feed_38 rfl rfl ?_
  refine x_callV (As := [.int (iI (c))]) C (by exact (n_put (v := c) (n := 8) (by exact hr) ⟨by omega, by omega⟩ (by exact h3) (by omega) (by omega))) ckX11_61 im_X8_put se_X8_put (nlt rfl) rfl rfl rfl rfl (nle rfl) (by exact ⟨nle rfl, nle rfl⟩) dX11_feed_39 ?_
  rintro _ Xh4 ⟨rfl, hr, h4⟩
  refine Wx_st (st' := []) rfl ?_
  refine x_aload_n (i := 0) C dX11_feed_42 rfl rfl ?_
  refine x_getRs (r := 1) C fkX_X11_10 (nlt rfl) rfl (hr 0 0 rfl) dX11_feed_43 ?_
  refine x_iload C dX11_feed_46 rfl ?_
  refine x_callV (As := [.int (iI (d))]) C (by exact (n_put (v := d) (n := 12) (by exact hr) ⟨by omega, by omega⟩ (by exact h4) (by omega) (by omega))) ckX11_61 im_X8_put se_X8_put (nlt rfl) rfl rfl rfl rfl (nle rfl) (by exact ⟨nle rfl, nle rfl⟩) dX11_feed_48 ?_
  rintro _ Xh5 ⟨rfl, hr, h5⟩
  refine Wx_st (st' := []) rfl ?_
  refine x_aload_n (i := 0) C dX11_feed_51 rfl rfl ?_
  refine x_getRs (r := 1) C fkX_X11_10 (nlt rfl) rfl (hr 0 0 rfl) dX11_feed_52 ?_
  refine x_iload C dX11_feed_55 rfl ?_
  refine x_callV (As := [.int (iI (e))]) C (by exact (n_put (v := e) (n := 16) (by exact hr) ⟨by omega, by omega⟩ (by exact h5) (by omega) (by omega))) ckX11_61 im_X8_put se_X8_put (nlt rfl) rfl rfl rfl rfl (nle rfl) (by exact ⟨nle rfl, nle rfl⟩) dX11_feed_57 ?_
  rintro _ Xh6 ⟨rfl, hr, h6⟩
  refine Wx_st (st' := []) rfl ?_
  refine x_aload_n (i := 0) C dX11_feed_60 rfl rfl ?_
  refine x_getRs (r := 1) C fkX_X11_10 (nlt rfl) rfl (hr 0 0 rfl) dX11_feed_61 ?_
  refine x_getI C fkX_X11_57 (nlt rfl) rfl dX11_feed_64 ?_
  refine x_eq (b := 20) h6 ?_
  exact x_iret C hQ dX11_feed_67 (congrArg (fun z : Int => some (Value.int (iI z))) (by first | rfl | omega | (split <;> omega) | (repeat (first | omega | split))))
set_option maxHeartbeats 4000000 in
set_option maxRecDepth 100000 in
theorem x_end {D : va_G} {ad : Nat → Nat} {cA : Nat → ClassId} {n : Int} (hn : inR n) : MetX (wX D ad cA) yX11_end cX11_end 2 (some .int) 0 0 [.ref 0, .int (iI (n))] x0X (fun r _ => r = some (.int (iI (if n = 0 then 0 else -1)))) := by
  have hr : HRX x0X := fun _ _ _ => rfl
  unfold inR at hn
  refine MetX.mk (own := RX11) (by decide +kernel) rfl (nle rfl) (fun E C hQ => ?_)
  refine Wx_lv (lv' := [(0, .ref 0), (1, .int (iI (n)))]) rfl ?_
  refine x_iload_n (i := 1) C dX11_end_0 rfl rfl ?_
  refine x_if_lt (tgt := 15) C dX11_end_1 (by decide) ⟨by omega, by omega⟩ (fun h1 => ?_) (fun h1 => ?_)
  · refine x_iconst C dX11_end_15 ?_
    exact x_iret C hQ dX11_end_16 (congrArg (fun z : Int => some (Value.int (iI z))) (by first | rfl | omega | (split <;> omega) | (repeat (first | omega | split))))
  · refine x_iload_n (i := 1) C dX11_end_4 rfl rfl ?_
    refine x_aload_n (i := 0) C dX11_end_5 rfl rfl ?_
    refine x_getRs (r := 1) C fkX_X11_10 (nlt rfl) rfl (hr 0 0 rfl) dX11_end_6 ?_
    refine x_getI C fkX_X11_57 (nlt rfl) rfl dX11_end_9 ?_
    refine x_eq (b := 0) rfl ?_
    refine x_icmp_le (tgt := 17) C dX11_end_12 (by decide) ⟨by omega, by omega⟩ ⟨by omega, by omega⟩ (fun h2 => ?_) (fun h2 => ?_)
    · refine x_aload_n (i := 0) C dX11_end_17 rfl rfl ?_
      refine x_getRs (r := 1) C fkX_X11_10 (nlt rfl) rfl (hr 0 0 rfl) dX11_end_18 ?_
      refine x_iload_n (i := 1) C dX11_end_21 rfl rfl ?_
      refine x_putI C pkX_X11_57 (nlt rfl) rfl dX11_end_22 ?_
      refine x_iload_n (i := 1) C dX11_end_25 rfl rfl ?_
      exact x_iret C hQ dX11_end_26 (congrArg (fun z : Int => some (Value.int (iI z))) (by first | rfl | omega | (split <;> omega) | (repeat (first | omega | split))))
    · refine x_iconst C dX11_end_15 ?_
      exact x_iret C hQ dX11_end_16 (congrArg (fun z : Int => some (Value.int (iI z))) (by first | rfl | omega | (split <;> omega) | (repeat (first | omega | split))))
set_option maxHeartbeats 4000000 in
set_option maxRecDepth 100000 in
theorem x_fault {D : va_G} {ad : Nat → Nat} {cA : Nat → ClassId} {q : Int} (hq : inR q) : MetX (wX D ad cA) yX11_fault cX11_fault 2 (some .int) 0 0 [.ref 0, .int (iI (q))] x0X (fun r _ => r = some (.int (iI (if q = 1 then -1 else if q = 0 then 0 else -1)))) := by
  have hr : HRX x0X := fun _ _ _ => rfl
  unfold inR at hq
  refine MetX.mk (own := RX11) (by decide +kernel) rfl (nle rfl) (fun E C hQ => ?_)
  refine Wx_lv (lv' := [(0, .ref 0), (1, .int (iI (q)))]) rfl ?_
  refine x_iload_n (i := 1) C dX11_fault_0 rfl rfl ?_
  refine x_if_ne (tgt := 14) C dX11_fault_1 (by decide) ⟨by omega, by omega⟩ (fun h1 => ?_) (fun h1 => ?_)
  · refine x_iload_n (i := 1) C dX11_fault_14 rfl rfl ?_
    refine x_iconst C dX11_fault_15 ?_
    refine x_icmp_ne (tgt := 29) C dX11_fault_16 (by decide) ⟨by omega, by omega⟩ ⟨by omega, by omega⟩ (fun h2 => ?_) (fun h2 => ?_)
    · refine x_iconst C dX11_fault_29 ?_
      exact x_iret C hQ dX11_fault_30 (congrArg (fun z : Int => some (Value.int (iI z))) (by first | rfl | omega | (split <;> omega) | (repeat (first | omega | split))))
    · refine x_aload_n (i := 0) C dX11_fault_19 rfl rfl ?_
      refine x_getRs (r := 1) C fkX_X11_10 (nlt rfl) rfl (hr 0 0 rfl) dX11_fault_20 ?_
      refine x_getI C fkX_X11_68 (nlt rfl) rfl dX11_fault_23 ?_
      refine x_eq (b := (-1)) rfl ?_
      refine x_goto (tgt := 30) C dX11_fault_26 (by decide) ?_
      exact x_iret C hQ dX11_fault_30 (congrArg (fun z : Int => some (Value.int (iI z))) (by first | rfl | omega | (split <;> omega) | (repeat (first | omega | split))))
  · refine x_aload_n (i := 0) C dX11_fault_4 rfl rfl ?_
    refine x_getRs (r := 1) C fkX_X11_10 (nlt rfl) rfl (hr 0 0 rfl) dX11_fault_5 ?_
    refine x_getI C fkX_X11_65 (nlt rfl) rfl dX11_fault_8 ?_
    refine x_eq (b := 0) rfl ?_
    refine x_goto (tgt := 30) C dX11_fault_11 (by decide) ?_
    exact x_iret C hQ dX11_fault_30 (congrArg (fun z : Int => some (Value.int (iI z))) (by first | rfl | omega | (split <;> omega) | (repeat (first | omega | split))))
set_option maxHeartbeats 4000000 in
set_option maxRecDepth 100000 in
theorem x_count {D : va_G} {ad : Nat → Nat} {cA : Nat → ClassId} {q : Int} (hq : inR q) : MetX (wX D ad cA) yX11_count cX11_count 2 (some .int) 0 0 [.ref 0, .int (iI (q))] x0X (fun r _ => r = some (.int (iI (if 0 ≤ q ∧ q ≤ 2 then 0 else -2)))) := by
  have hr : HRX x0X := fun _ _ _ => rfl
  unfold inR at hq
  refine MetX.mk (own := RX11) (by decide +kernel) rfl (nle rfl) (fun E C hQ => ?_)
  refine Wx_lv (lv' := [(0, .ref 0), (1, .int (iI (q)))]) rfl ?_
  refine x_iload_n (i := 1) C dX11_count_0 rfl rfl ?_
  refine x_if_lt (tgt := 21) C dX11_count_1 (by decide) ⟨by omega, by omega⟩ (fun h1 => ?_) (fun h1 => ?_)
  · refine x_bipush C dX11_count_21 (by decide) ?_
    exact x_iret C hQ dX11_count_23 (congrArg (fun z : Int => some (Value.int (iI z))) (by first | rfl | omega | (split <;> omega) | (repeat (first | omega | split))))
  · refine x_iload_n (i := 1) C dX11_count_4 rfl rfl ?_
    refine x_iconst C dX11_count_5 ?_
    refine x_icmp_ge (tgt := 21) C dX11_count_6 (by decide) ⟨by omega, by omega⟩ ⟨by omega, by omega⟩ (fun h2 => ?_) (fun h2 => ?_)
    · refine x_bipush C dX11_count_21 (by decide) ?_
      exact x_iret C hQ dX11_count_23 (congrArg (fun z : Int => some (Value.int (iI z))) (by first | rfl | omega | (split <;> omega) | (repeat (first | omega | split))))
    · refine x_aload_n (i := 0) C dX11_count_9 rfl rfl ?_
      refine x_getRs (r := 1) C fkX_X11_10 (nlt rfl) rfl (hr 0 0 rfl) dX11_count_10 ?_
      refine x_getRs (r := 3) C fkX_X11_280 (nlt rfl) rfl (hr 1 4 rfl) dX11_count_13 ?_
      refine x_iload_n (i := 1) C dX11_count_16 rfl rfl ?_
      refine x_iald C (nlt rfl) rfl rfl (nle rfl) (by omega) (by omega) dX11_count_17 ?_
      refine x_eq (b := 0) rfl ?_
      refine x_goto (tgt := 23) C dX11_count_18 (by decide) ?_
      exact x_iret C hQ dX11_count_23 (congrArg (fun z : Int => some (Value.int (iI z))) (by first | rfl | omega | (split <;> omega) | (repeat (first | omega | split))))
set_option maxHeartbeats 4000000 in
set_option maxRecDepth 100000 in
theorem x_board {D : va_G} {ad : Nat → Nat} {cA : Nat → ClassId} {a b : Int} (ha : inR a) (hb : inR b) : MetX (wX D ad cA) yX11_board cX11_board 4 (some .int) 1 21 [.ref 0, .int (iI (a)), .int (iI (b))] x0X (fun r _ => r = some (.int (iI (-1)))) := by
  have hr : HRX x0X := fun _ _ _ => rfl
  unfold inR at ha hb
  refine MetX.mk (own := RX11) (by decide +kernel) rfl (nle rfl) (fun E C hQ => ?_)
  refine Wx_lv (lv' := [(0, .ref 0), (1, .int (iI (a))), (2, .int (iI (b)))]) rfl ?_
  refine x_aload_n (i := 0) C dX11_board_0 rfl rfl ?_
  refine x_getRs (r := 1) C fkX_X11_10 (nlt rfl) rfl (hr 0 0 rfl) dX11_board_1 ?_
  refine x_iload_n (i := 1) C dX11_board_4 rfl rfl ?_
  refine x_callV (As := [.int (iI (a))]) C (by exact (n_boardAt (k := a) (by exact hr) (by exact (fun _ => rfl)) ⟨by omega, by omega⟩)) ckX11_89 im_X8_boardAt se_X8_boardAt (nlt rfl) rfl rfl rfl rfl (nle rfl) (by exact ⟨nle rfl, nle rfl⟩) dX11_board_5 ?_
  rintro _ _ ⟨rfl, rfl⟩
  refine Wx_st (st' := [.null]) rfl ?_
  refine x_astore_nN (i := 3) (lv' := [(3, .null), (0, .ref 0), (1, .int (iI (a))), (2, .int (iI (b)))]) C dX11_board_8 rfl (nlt rfl) rfl ?_
  refine x_aload_nN (i := 3) C dX11_board_9 rfl rfl ?_
  refine x_ifnonnullN C dX11_board_10 ?_
  refine x_iconst C dX11_board_13 ?_
  exact x_iret C hQ dX11_board_14 (congrArg (fun z : Int => some (Value.int (iI z))) (by first | rfl | omega | (split <;> omega) | (repeat (first | omega | split))))
set_option maxHeartbeats 4000000 in
set_option maxRecDepth 100000 in
theorem x_field {D : va_G} {ad : Nat → Nat} {cA : Nat → ClassId} {a b : Int} (ha : inR a) (hb : inR b) : MetX (wX D ad cA) yX11_field cX11_field 5 (some .int) 1 22 [.ref 0, .int (iI (a)), .int (iI (b))] x0X (fun r _ => r = some (.int (iI (-1)))) := by
  have hr : HRX x0X := fun _ _ _ => rfl
  unfold inR at ha hb
  refine MetX.mk (own := RX11) (by decide +kernel) rfl (nle rfl) (fun E C hQ => ?_)
  refine Wx_lv (lv' := [(0, .ref 0), (1, .int (iI (a))), (2, .int (iI (b)))]) rfl ?_
  refine x_aload_n (i := 0) C dX11_field_0 rfl rfl ?_
  refine x_getRs (r := 1) C fkX_X11_10 (nlt rfl) rfl (hr 0 0 rfl) dX11_field_1 ?_
  refine x_iload_n (i := 1) C dX11_field_4 rfl rfl ?_
  refine x_callV (As := [.int (iI (a))]) C (by exact (n_boardAt (k := a) (by exact hr) (by exact (fun _ => rfl)) ⟨by omega, by omega⟩)) ckX11_89 im_X8_boardAt se_X8_boardAt (nlt rfl) rfl rfl rfl rfl (nle rfl) (by exact ⟨nle rfl, nle rfl⟩) dX11_field_5 ?_
  rintro _ _ ⟨rfl, rfl⟩
  refine Wx_st (st' := [.null]) rfl ?_
  refine x_astore_nN (i := 3) (lv' := [(3, .null), (0, .ref 0), (1, .int (iI (a))), (2, .int (iI (b)))]) C dX11_field_8 rfl (nlt rfl) rfl ?_
  refine x_aload_nN (i := 3) C dX11_field_9 rfl rfl ?_
  refine x_ifnullN (tgt := 21) C dX11_field_10 (by decide) ?_
  refine x_iconst C dX11_field_21 ?_
  exact x_iret C hQ dX11_field_22 (congrArg (fun z : Int => some (Value.int (iI z))) (by first | rfl | omega | (split <;> omega) | (repeat (first | omega | split))))
set_option maxHeartbeats 4000000 in
set_option maxRecDepth 100000 in
theorem x_man {D : va_G} {ad : Nat → Nat} {cA : Nat → ClassId} {a b c : Int} (ha : inR a) (hb : inR b) (hc : inR c) : MetX (wX D ad cA) yX11_man cX11_man 5 (some .int) 1 21 [.ref 0, .int (iI (a)), .int (iI (b)), .int (iI (c))] x0X (fun r _ => r = some (.int (iI (-1)))) := by
  have hr : HRX x0X := fun _ _ _ => rfl
  unfold inR at ha hb hc
  refine MetX.mk (own := RX11) (by decide +kernel) rfl (nle rfl) (fun E C hQ => ?_)
  refine Wx_lv (lv' := [(0, .ref 0), (1, .int (iI (a))), (2, .int (iI (b))), (3, .int (iI (c)))]) rfl ?_
  refine x_aload_n (i := 0) C dX11_man_0 rfl rfl ?_
  refine x_getRs (r := 1) C fkX_X11_10 (nlt rfl) rfl (hr 0 0 rfl) dX11_man_1 ?_
  refine x_iload_n (i := 1) C dX11_man_4 rfl rfl ?_
  refine x_callV (As := [.int (iI (a))]) C (by exact (n_boardAt (k := a) (by exact hr) (by exact (fun _ => rfl)) ⟨by omega, by omega⟩)) ckX11_89 im_X8_boardAt se_X8_boardAt (nlt rfl) rfl rfl rfl rfl (nle rfl) (by exact ⟨nle rfl, nle rfl⟩) dX11_man_5 ?_
  rintro _ _ ⟨rfl, rfl⟩
  refine Wx_st (st' := [.null]) rfl ?_
  refine x_astoreN (lv' := [(4, .null), (0, .ref 0), (1, .int (iI (a))), (2, .int (iI (b))), (3, .int (iI (c)))]) C dX11_man_8 (nlt rfl) rfl ?_
  refine x_aloadN C dX11_man_10 rfl ?_
  refine x_ifnullN (tgt := 24) C dX11_man_12 (by decide) ?_
  refine x_iconst C dX11_man_24 ?_
  exact x_iret C hQ dX11_man_25 (congrArg (fun z : Int => some (Value.int (iI z))) (by first | rfl | omega | (split <;> omega) | (repeat (first | omega | split))))
set_option maxHeartbeats 4000000 in
set_option maxRecDepth 100000 in
theorem x_rule {D : va_G} {ad : Nat → Nat} {cA : Nat → ClassId} {a b : Int} (ha : inR a) (hb : inR b) : MetX (wX D ad cA) yX11_rule cX11_rule 5 (some .int) 1 22 [.ref 0, .int (iI (a)), .int (iI (b))] x0X (fun r _ => r = some (.int (iI (-2)))) := by
  have hr : HRX x0X := fun _ _ _ => rfl
  unfold inR at ha hb
  refine MetX.mk (own := RX11) (by decide +kernel) rfl (nle rfl) (fun E C hQ => ?_)
  refine Wx_lv (lv' := [(0, .ref 0), (1, .int (iI (a))), (2, .int (iI (b)))]) rfl ?_
  refine x_aload_n (i := 0) C dX11_rule_0 rfl rfl ?_
  refine x_getRs (r := 1) C fkX_X11_10 (nlt rfl) rfl (hr 0 0 rfl) dX11_rule_1 ?_
  refine x_iload_n (i := 1) C dX11_rule_4 rfl rfl ?_
  refine x_callV (As := [.int (iI (a))]) C (by exact (n_hasRule (k := a) (by exact hr) (by exact (fun _ => rfl)) ⟨by omega, by omega⟩)) ckX11_138 im_X8_hasRule se_X8_hasRule (nlt rfl) rfl rfl rfl rfl (nle rfl) (by exact ⟨nle rfl, nle rfl⟩) dX11_rule_5 ?_
  rintro _ _ ⟨rfl, rfl⟩
  refine Wx_st (st' := [.int (iI (0))]) rfl ?_
  refine x_if_ne (tgt := 14) C dX11_rule_8 (by decide) ⟨by omega, by omega⟩ (fun h1 => by exfalso; omega) (fun h1 => ?_)
  refine x_bipush C dX11_rule_11 (by decide) ?_
  exact x_iret C hQ dX11_rule_13 (congrArg (fun z : Int => some (Value.int (iI z))) (by first | rfl | omega | (split <;> omega) | (repeat (first | omega | split))))
set_option maxHeartbeats 4000000 in
set_option maxRecDepth 100000 in
theorem x_ends {D : va_G} {ad : Nat → Nat} {cA : Nat → ClassId} {a b c : Int} (ha : inR a) (hb : inR b) (hc : inR c) : MetX (wX D ad cA) yX11_ends cX11_ends 5 (some .long) 6 157 [.ref 0, .int (iI (a)), .int (iI (b)), .int (iI (c))] x0X (fun r _ => r = some (.long (-1))) := by
  have hr : HRX x0X := fun _ _ _ => rfl
  unfold inR at ha hb hc
  refine MetX.mk (own := RX11) (by decide +kernel) rfl (nle rfl) (fun E C hQ => ?_)
  refine Wx_lv (lv' := [(0, .ref 0), (1, .int (iI (a))), (2, .int (iI (b))), (3, .int (iI (c)))]) rfl ?_
  refine x_aload_n (i := 0) C dX11_ends_0 rfl rfl ?_
  refine x_getRs (r := 1) C fkX_X11_10 (nlt rfl) rfl (hr 0 0 rfl) dX11_ends_1 ?_
  refine x_iload_n (i := 1) C dX11_ends_4 rfl rfl ?_
  refine x_callV (As := [.int (iI (a))]) C (by exact (n_boardAt (k := a) (by exact hr) (by exact (fun _ => rfl)) ⟨by omega, by omega⟩)) ckX11_89 im_X8_boardAt se_X8_boardAt (nlt rfl) rfl rfl rfl rfl (nle rfl) (by exact ⟨nle rfl, nle rfl⟩) dX11_ends_5 ?_
  rintro _ _ ⟨rfl, rfl⟩
  refine Wx_st (st' := [.null]) rfl ?_
  refine x_astoreN (lv' := [(4, .null), (0, .ref 0), (1, .int (iI (a))), (2, .int (iI (b))), (3, .int (iI (c)))]) C dX11_ends_8 (nlt rfl) rfl ?_
  refine x_aloadN C dX11_ends_10 rfl ?_
  refine x_ifnullN (tgt := 35) C dX11_ends_12 (by decide) ?_
  refine x_ldc2 C dX11_ends_35 cnX11_152 ?_
  exact x_lret C hQ dX11_ends_38 (rfl)
set_option maxHeartbeats 4000000 in
set_option maxRecDepth 100000 in
theorem x_ways {D : va_G} {ad : Nat → Nat} {cA : Nat → ClassId} {a b c d : Int} (ha : inR a) (hb : inR b) (hc : inR c) (hd : inR d) : MetX (wX D ad cA) yX11_ways cX11_ways 6 (some .int) 6 149 [.ref 0, .int (iI (a)), .int (iI (b)), .int (iI (c)), .int (iI (d))] x0X (fun r _ => r = some (.int (iI (-1)))) := by
  have hr : HRX x0X := fun _ _ _ => rfl
  unfold inR at ha hb hc hd
  refine MetX.mk (own := RX11) (by decide +kernel) rfl (nle rfl) (fun E C hQ => ?_)
  refine Wx_lv (lv' := [(0, .ref 0), (1, .int (iI (a))), (2, .int (iI (b))), (3, .int (iI (c))), (4, .int (iI (d)))]) rfl ?_
  refine x_aload_n (i := 0) C dX11_ways_0 rfl rfl ?_
  refine x_iload_n (i := 1) C dX11_ways_1 rfl rfl ?_
  refine x_iload_n (i := 2) C dX11_ways_2 rfl rfl ?_
  refine x_iload_n (i := 3) C dX11_ways_3 rfl rfl ?_
  refine x_iload C dX11_ways_4 rfl ?_
  refine x_callV (As := [.int (iI (a)), .int (iI (b)), .int (iI (c)), .int (iI (d))]) C (by exact (n_canTrace (a := a) (b := b) (c := c) (d := d) (by exact hr) (by exact (fun _ => rfl)) ⟨by omega, by omega⟩ ⟨by omega, by omega⟩ ⟨by omega, by omega⟩ ⟨by omega, by omega⟩)) ckX11_158 im_X11_canTrace se_X11_canTrace (nlt rfl) rfl rfl rfl rfl (nle rfl) (by exact ⟨nle rfl, nle rfl⟩) dX11_ways_6 ?_
  rintro _ _ ⟨rfl, rfl⟩
  refine Wx_st (st' := [.int (iI (0))]) rfl ?_
  refine x_if_ne (tgt := 14) C dX11_ways_9 (by decide) ⟨by omega, by omega⟩ (fun h1 => by exfalso; omega) (fun h1 => ?_)
  refine x_iconst C dX11_ways_12 ?_
  exact x_iret C hQ dX11_ways_13 (congrArg (fun z : Int => some (Value.int (iI z))) (by first | rfl | omega | (split <;> omega) | (repeat (first | omega | split))))
set_option maxHeartbeats 4000000 in
set_option maxRecDepth 100000 in
theorem x_path {D : va_G} {ad : Nat → Nat} {cA : Nat → ClassId} {a b c d e : Int} (ha : inR a) (hb : inR b) (hc : inR c) (hd : inR d) (he : inR e) : MetX (wX D ad cA) yX11_path cX11_path 7 (some .int) 6 149 [.ref 0, .int (iI (a)), .int (iI (b)), .int (iI (c)), .int (iI (d)), .int (iI (e))] x0X (fun r _ => r = some (.int (iI (-1)))) := by
  have hr : HRX x0X := fun _ _ _ => rfl
  unfold inR at ha hb hc hd he
  refine MetX.mk (own := RX11) (by decide +kernel) rfl (nle rfl) (fun E C hQ => ?_)
  refine Wx_lv (lv' := [(0, .ref 0), (1, .int (iI (a))), (2, .int (iI (b))), (3, .int (iI (c))), (4, .int (iI (d))), (5, .int (iI (e)))]) rfl ?_
  refine x_aload_n (i := 0) C dX11_path_0 rfl rfl ?_
  refine x_iload_n (i := 1) C dX11_path_1 rfl rfl ?_
  refine x_iload_n (i := 2) C dX11_path_2 rfl rfl ?_
  refine x_iload_n (i := 3) C dX11_path_3 rfl rfl ?_
  refine x_iload C dX11_path_4 rfl ?_
  refine x_callV (As := [.int (iI (a)), .int (iI (b)), .int (iI (c)), .int (iI (d))]) C (by exact (n_canTrace (a := a) (b := b) (c := c) (d := d) (by exact hr) (by exact (fun _ => rfl)) ⟨by omega, by omega⟩ ⟨by omega, by omega⟩ ⟨by omega, by omega⟩ ⟨by omega, by omega⟩)) ckX11_158 im_X11_canTrace se_X11_canTrace (nlt rfl) rfl rfl rfl rfl (nle rfl) (by exact ⟨nle rfl, nle rfl⟩) dX11_path_6 ?_
  rintro _ _ ⟨rfl, rfl⟩
  refine Wx_st (st' := [.int (iI (0))]) rfl ?_
  refine x_if_ne (tgt := 14) C dX11_path_9 (by decide) ⟨by omega, by omega⟩ (fun h1 => by exfalso; omega) (fun h1 => ?_)
  refine x_iconst C dX11_path_12 ?_
  exact x_iret C hQ dX11_path_13 (congrArg (fun z : Int => some (Value.int (iI z))) (by first | rfl | omega | (split <;> omega) | (repeat (first | omega | split))))
set_option maxHeartbeats 4000000 in
set_option maxRecDepth 100000 in
theorem x_move {D : va_G} {ad : Nat → Nat} {cA : Nat → ClassId} {a b c : Int} (ha : inR a) (hb : inR b) (hc : inR c) : MetX (wX D ad cA) yX11_move cX11_move 7 (some .int) 1 22 [.ref 0, .int (iI (a)), .int (iI (b)), .int (iI (c))] x0X (fun r _ => r = some (.int (iI (-2)))) := by
  have hr : HRX x0X := fun _ _ _ => rfl
  unfold inR at ha hb hc
  refine MetX.mk (own := RX11) (by decide +kernel) rfl (nle rfl) (fun E C hQ => ?_)
  refine Wx_lv (lv' := [(0, .ref 0), (1, .int (iI (a))), (2, .int (iI (b))), (3, .int (iI (c)))]) rfl ?_
  refine x_aload_n (i := 0) C dX11_move_0 rfl rfl ?_
  refine x_getRs (r := 1) C fkX_X11_10 (nlt rfl) rfl (hr 0 0 rfl) dX11_move_1 ?_
  refine x_iload_n (i := 1) C dX11_move_4 rfl rfl ?_
  refine x_callV (As := [.int (iI (a))]) C (by exact (n_gameAt (k := a) (by exact hr) (by exact (fun _ => rfl)) ⟨by omega, by omega⟩)) ckX11_176 im_X8_gameAt se_X8_gameAt (nlt rfl) rfl rfl rfl rfl (nle rfl) (by exact ⟨nle rfl, nle rfl⟩) dX11_move_5 ?_
  rintro _ _ ⟨rfl, rfl⟩
  refine Wx_st (st' := [.null]) rfl ?_
  refine x_astoreN (lv' := [(4, .null), (0, .ref 0), (1, .int (iI (a))), (2, .int (iI (b))), (3, .int (iI (c)))]) C dX11_move_8 (nlt rfl) rfl ?_
  refine x_aloadN C dX11_move_10 rfl ?_
  refine x_ifnonnullN C dX11_move_12 ?_
  refine x_bipush C dX11_move_15 (by decide) ?_
  exact x_iret C hQ dX11_move_17 (congrArg (fun z : Int => some (Value.int (iI z))) (by first | rfl | omega | (split <;> omega) | (repeat (first | omega | split))))
set_option maxHeartbeats 4000000 in
set_option maxRecDepth 100000 in
theorem x_stop {D : va_G} {ad : Nat → Nat} {cA : Nat → ClassId} {a b : Int} (ha : inR a) (hb : inR b) : MetX (wX D ad cA) yX11_stop cX11_stop 4 (some .int) 7 186 [.ref 0, .int (iI (a)), .int (iI (b))] x0X (fun r _ => r = some (.int (iI (-1)))) := by
  have hr : HRX x0X := fun _ _ _ => rfl
  unfold inR at ha hb
  refine MetX.mk (own := RX11) (by decide +kernel) rfl (nle rfl) (fun E C hQ => ?_)
  refine Wx_lv (lv' := [(0, .ref 0), (1, .int (iI (a))), (2, .int (iI (b)))]) rfl ?_
  refine x_aload_n (i := 0) C dX11_stop_0 rfl rfl ?_
  refine x_getRs (r := 1) C fkX_X11_10 (nlt rfl) rfl (hr 0 0 rfl) dX11_stop_1 ?_
  refine x_iload_n (i := 2) C dX11_stop_4 rfl rfl ?_
  refine x_callV (As := [.int (iI (b))]) C (by exact (n_gameAt (k := b) (by exact hr) (by exact (fun _ => rfl)) ⟨by omega, by omega⟩)) ckX11_176 im_X8_gameAt se_X8_gameAt (nlt rfl) rfl rfl rfl rfl (nle rfl) (by exact ⟨nle rfl, nle rfl⟩) dX11_stop_5 ?_
  rintro _ _ ⟨rfl, rfl⟩
  refine Wx_st (st' := [.null]) rfl ?_
  refine x_astore_nN (i := 3) (lv' := [(3, .null), (0, .ref 0), (1, .int (iI (a))), (2, .int (iI (b)))]) C dX11_stop_8 rfl (nlt rfl) rfl ?_
  refine x_aload_nN (i := 3) C dX11_stop_9 rfl rfl ?_
  refine x_ifnonnullN C dX11_stop_10 ?_
  refine x_iconst C dX11_stop_13 ?_
  refine x_goto (tgt := 37) C dX11_stop_14 (by decide) ?_
  exact x_iret C hQ dX11_stop_37 (congrArg (fun z : Int => some (Value.int (iI z))) (by first | rfl | omega | (split <;> omega) | (repeat (first | omega | split))))
set_option maxHeartbeats 4000000 in
set_option maxRecDepth 100000 in
theorem x_state {D : va_G} {ad : Nat → Nat} {cA : Nat → ClassId} {a b c d : Int} (ha : inR a) (hb : inR b) (hc : inR c) (hd : inR d) : MetX (wX D ad cA) yX11_state cX11_state 6 (some .int) 7 186 [.ref 0, .int (iI (a)), .int (iI (b)), .int (iI (c)), .int (iI (d))] x0X (fun r _ => r = some (.int (iI (-2)))) := by
  have hr : HRX x0X := fun _ _ _ => rfl
  unfold inR at ha hb hc hd
  refine MetX.mk (own := RX11) (by decide +kernel) rfl (nle rfl) (fun E C hQ => ?_)
  refine Wx_lv (lv' := [(0, .ref 0), (1, .int (iI (a))), (2, .int (iI (b))), (3, .int (iI (c))), (4, .int (iI (d)))]) rfl ?_
  refine x_aload_n (i := 0) C dX11_state_0 rfl rfl ?_
  refine x_getRs (r := 38) C fkX_X11_41 (nlt rfl) rfl (hr 0 5 rfl) dX11_state_1 ?_
  refine x_aload_n (i := 0) C dX11_state_4 rfl rfl ?_
  refine x_getRs (r := 1) C fkX_X11_10 (nlt rfl) rfl (hr 0 0 rfl) dX11_state_5 ?_
  refine x_iload_n (i := 1) C dX11_state_8 rfl rfl ?_
  refine x_callV (As := [.int (iI (a))]) C (by exact (n_boardAt (k := a) (by exact hr) (by exact (fun _ => rfl)) ⟨by omega, by omega⟩)) ckX11_89 im_X8_boardAt se_X8_boardAt (nlt rfl) rfl rfl rfl rfl (nle rfl) (by exact ⟨nle rfl, nle rfl⟩) dX11_state_9 ?_
  rintro _ _ ⟨rfl, rfl⟩
  refine Wx_st (st' := [.null, .ref 38]) rfl ?_
  refine x_aload_n (i := 0) C dX11_state_12 rfl rfl ?_
  refine x_getRs (r := 1) C fkX_X11_10 (nlt rfl) rfl (hr 0 0 rfl) dX11_state_13 ?_
  refine x_iload_n (i := 2) C dX11_state_16 rfl rfl ?_
  refine x_callV (As := [.int (iI (b))]) C (by exact (n_gameAt (k := b) (by exact hr) (by exact (fun _ => rfl)) ⟨by omega, by omega⟩)) ckX11_176 im_X8_gameAt se_X8_gameAt (nlt rfl) rfl rfl rfl rfl (nle rfl) (by exact ⟨nle rfl, nle rfl⟩) dX11_state_17 ?_
  rintro _ _ ⟨rfl, rfl⟩
  refine Wx_st (st' := [.null, .null, .ref 38]) rfl ?_
  refine x_iload_n (i := 3) C dX11_state_20 rfl rfl ?_
  refine x_callV (As := [.null, .null, .int (iI (c))]) C (by exact (n_follow (n := c) ⟨by omega, by omega⟩)) ckX11_190 im_X5_follow se_X5_follow (nlt rfl) rfl rfl rfl rfl (nle rfl) (by exact ⟨nle rfl, nle rfl⟩) dX11_state_21 ?_
  rintro _ _ ⟨rfl, rfl⟩
  refine Wx_st (st' := [.int (iI ((-1)))]) rfl ?_
  refine x_istore (lv' := [(5, .int (iI ((-1)))), (0, .ref 0), (1, .int (iI (a))), (2, .int (iI (b))), (3, .int (iI (c))), (4, .int (iI (d)))]) C dX11_state_24 (nlt rfl) rfl ?_
  refine x_iload C dX11_state_26 rfl ?_
  refine x_iconst C dX11_state_28 ?_
  refine x_icmp_eq (tgt := 53) C dX11_state_29 (by decide) ⟨by omega, by omega⟩ ⟨by omega, by omega⟩ (fun h1 => ?_) (fun h1 => by exfalso; omega)
  refine x_bipush C dX11_state_53 (by decide) ?_
  exact x_iret C hQ dX11_state_55 (congrArg (fun z : Int => some (Value.int (iI z))) (by first | rfl | omega | (split <;> omega) | (repeat (first | omega | split))))
set_option maxHeartbeats 4000000 in
set_option maxRecDepth 100000 in
theorem x_may {D : va_G} {ad : Nat → Nat} {cA : Nat → ClassId} {a b c d : Int} (ha : inR a) (hb : inR b) (hc : inR c) (hd : inR d) : MetX (wX D ad cA) yX11_may cX11_may 7 (some .long) 7 186 [.ref 0, .int (iI (a)), .int (iI (b)), .int (iI (c)), .int (iI (d))] x0X (fun r _ => r = some (.long (-1))) := by
  have hr : HRX x0X := fun _ _ _ => rfl
  unfold inR at ha hb hc hd
  refine MetX.mk (own := RX11) (by decide +kernel) rfl (nle rfl) (fun E C hQ => ?_)
  refine Wx_lv (lv' := [(0, .ref 0), (1, .int (iI (a))), (2, .int (iI (b))), (3, .int (iI (c))), (4, .int (iI (d)))]) rfl ?_
  refine x_aload_n (i := 0) C dX11_may_0 rfl rfl ?_
  refine x_getRs (r := 1) C fkX_X11_10 (nlt rfl) rfl (hr 0 0 rfl) dX11_may_1 ?_
  refine x_iload_n (i := 2) C dX11_may_4 rfl rfl ?_
  refine x_callV (As := [.int (iI (b))]) C (by exact (n_gameAt (k := b) (by exact hr) (by exact (fun _ => rfl)) ⟨by omega, by omega⟩)) ckX11_176 im_X8_gameAt se_X8_gameAt (nlt rfl) rfl rfl rfl rfl (nle rfl) (by exact ⟨nle rfl, nle rfl⟩) dX11_may_5 ?_
  rintro _ _ ⟨rfl, rfl⟩
  refine Wx_st (st' := [.null]) rfl ?_
  refine x_astoreN (lv' := [(5, .null), (0, .ref 0), (1, .int (iI (a))), (2, .int (iI (b))), (3, .int (iI (c))), (4, .int (iI (d)))]) C dX11_may_8 (nlt rfl) rfl ?_
  refine x_aloadN C dX11_may_10 rfl ?_
  refine x_ifnullN (tgt := 27) C dX11_may_12 (by decide) ?_
  refine x_ldc2 C dX11_may_27 cnX11_152 ?_
  exact x_lret C hQ dX11_may_30 (rfl)
set_option maxHeartbeats 4000000 in
set_option maxRecDepth 100000 in
theorem x_fatal {D : va_G} {ad : Nat → Nat} {cA : Nat → ClassId} {a b c d : Int} (ha : inR a) (hb : inR b) (hc : inR c) (hd : inR d) : MetX (wX D ad cA) yX11_fatal cX11_fatal 7 (some .int) 7 187 [.ref 0, .int (iI (a)), .int (iI (b)), .int (iI (c)), .int (iI (d))] x0X (fun r _ => r = some (.int (iI (-1)))) := by
  have hr : HRX x0X := fun _ _ _ => rfl
  unfold inR at ha hb hc hd
  refine MetX.mk (own := RX11) (by decide +kernel) rfl (nle rfl) (fun E C hQ => ?_)
  refine Wx_lv (lv' := [(0, .ref 0), (1, .int (iI (a))), (2, .int (iI (b))), (3, .int (iI (c))), (4, .int (iI (d)))]) rfl ?_
  refine x_aload_n (i := 0) C dX11_fatal_0 rfl rfl ?_
  refine x_getRs (r := 1) C fkX_X11_10 (nlt rfl) rfl (hr 0 0 rfl) dX11_fatal_1 ?_
  refine x_iload_n (i := 2) C dX11_fatal_4 rfl rfl ?_
  refine x_callV (As := [.int (iI (b))]) C (by exact (n_gameAt (k := b) (by exact hr) (by exact (fun _ => rfl)) ⟨by omega, by omega⟩)) ckX11_176 im_X8_gameAt se_X8_gameAt (nlt rfl) rfl rfl rfl rfl (nle rfl) (by exact ⟨nle rfl, nle rfl⟩) dX11_fatal_5 ?_
  rintro _ _ ⟨rfl, rfl⟩
  refine Wx_st (st' := [.null]) rfl ?_
  refine x_astoreN (lv' := [(5, .null), (0, .ref 0), (1, .int (iI (a))), (2, .int (iI (b))), (3, .int (iI (c))), (4, .int (iI (d)))]) C dX11_fatal_8 (nlt rfl) rfl ?_
  refine x_aloadN C dX11_fatal_10 rfl ?_
  refine x_ifnullN (tgt := 48) C dX11_fatal_12 (by decide) ?_
  refine x_iconst C dX11_fatal_48 ?_
  exact x_iret C hQ dX11_fatal_49 (congrArg (fun z : Int => some (Value.int (iI z))) (by first | rfl | omega | (split <;> omega) | (repeat (first | omega | split))))
set_option maxHeartbeats 4000000 in
set_option maxRecDepth 100000 in
theorem x_loses {D : va_G} {ad : Nat → Nat} {cA : Nat → ClassId} {a b c : Int} (ha : inR a) (hb : inR b) (hc : inR c) : MetX (wX D ad cA) yX11_loses cX11_loses 5 (some .boolean) 7 186 [.ref 0, .int (iI (a)), .int (iI (b)), .int (iI (c))] x0X (fun r _ => r = some (.int (iI (0)))) := by
  have hr : HRX x0X := fun _ _ _ => rfl
  unfold inR at ha hb hc
  refine MetX.mk (own := RX11) (by decide +kernel) rfl (nle rfl) (fun E C hQ => ?_)
  refine Wx_lv (lv' := [(0, .ref 0), (1, .int (iI (a))), (2, .int (iI (b))), (3, .int (iI (c)))]) rfl ?_
  refine x_aload_n (i := 0) C dX11_loses_0 rfl rfl ?_
  refine x_getRs (r := 1) C fkX_X11_10 (nlt rfl) rfl (hr 0 0 rfl) dX11_loses_1 ?_
  refine x_iload_n (i := 2) C dX11_loses_4 rfl rfl ?_
  refine x_callV (As := [.int (iI (b))]) C (by exact (n_gameAt (k := b) (by exact hr) (by exact (fun _ => rfl)) ⟨by omega, by omega⟩)) ckX11_176 im_X8_gameAt se_X8_gameAt (nlt rfl) rfl rfl rfl rfl (nle rfl) (by exact ⟨nle rfl, nle rfl⟩) dX11_loses_5 ?_
  rintro _ _ ⟨rfl, rfl⟩
  refine Wx_st (st' := [.null]) rfl ?_
  refine x_astoreN (lv' := [(4, .null), (0, .ref 0), (1, .int (iI (a))), (2, .int (iI (b))), (3, .int (iI (c)))]) C dX11_loses_8 (nlt rfl) rfl ?_
  refine x_aloadN C dX11_loses_10 rfl ?_
  refine x_ifnullN (tgt := 48) C dX11_loses_12 (by decide) ?_
  refine x_iconst C dX11_loses_48 ?_
  exact x_zret C hQ (by omega) dX11_loses_49 (congrArg (fun z : Int => some (Value.int (iI z))) (by first | rfl | omega | (split <;> omega) | (repeat (first | omega | split))))
set_option maxHeartbeats 4000000 in
set_option maxRecDepth 100000 in
theorem x_brave {D : va_G} {ad : Nat → Nat} {cA : Nat → ClassId} {a b c : Int} (ha : inR a) (hb : inR b) (hc : inR c) : MetX (wX D ad cA) yX11_brave cX11_brave 6 (some .int) 7 186 [.ref 0, .int (iI (a)), .int (iI (b)), .int (iI (c))] x0X (fun r _ => r = some (.int (iI (-1)))) := by
  have hr : HRX x0X := fun _ _ _ => rfl
  unfold inR at ha hb hc
  refine MetX.mk (own := RX11) (by decide +kernel) rfl (nle rfl) (fun E C hQ => ?_)
  refine Wx_lv (lv' := [(0, .ref 0), (1, .int (iI (a))), (2, .int (iI (b))), (3, .int (iI (c)))]) rfl ?_
  refine x_aload_n (i := 0) C dX11_brave_0 rfl rfl ?_
  refine x_getRs (r := 1) C fkX_X11_10 (nlt rfl) rfl (hr 0 0 rfl) dX11_brave_1 ?_
  refine x_iload_n (i := 2) C dX11_brave_4 rfl rfl ?_
  refine x_callV (As := [.int (iI (b))]) C (by exact (n_gameAt (k := b) (by exact hr) (by exact (fun _ => rfl)) ⟨by omega, by omega⟩)) ckX11_176 im_X8_gameAt se_X8_gameAt (nlt rfl) rfl rfl rfl rfl (nle rfl) (by exact ⟨nle rfl, nle rfl⟩) dX11_brave_5 ?_
  rintro _ _ ⟨rfl, rfl⟩
  refine Wx_st (st' := [.null]) rfl ?_
  refine x_astoreN (lv' := [(4, .null), (0, .ref 0), (1, .int (iI (a))), (2, .int (iI (b))), (3, .int (iI (c)))]) C dX11_brave_8 (nlt rfl) rfl ?_
  refine x_aloadN C dX11_brave_10 rfl ?_
  refine x_ifnullN (tgt := 24) C dX11_brave_12 (by decide) ?_
  refine x_iconst C dX11_brave_24 ?_
  exact x_iret C hQ dX11_brave_25 (congrArg (fun z : Int => some (Value.int (iI z))) (by first | rfl | omega | (split <;> omega) | (repeat (first | omega | split))))
set_option maxHeartbeats 4000000 in
set_option maxRecDepth 100000 in
theorem x_binds {D : va_G} {ad : Nat → Nat} {cA : Nat → ClassId} {a b c d : Int} (ha : inR a) (hb : inR b) (hc : inR c) (hd : inR d) : MetX (wX D ad cA) yX11_binds cX11_binds 6 (some .int) 5 126 [.ref 0, .int (iI (a)), .int (iI (b)), .int (iI (c)), .int (iI (d))] x0X (fun r _ => r = some (.int (iI (-1)))) := by
  have hr : HRX x0X := fun _ _ _ => rfl
  unfold inR at ha hb hc hd
  refine MetX.mk (own := RX11) (by decide +kernel) rfl (nle rfl) (fun E C hQ => ?_)
  refine Wx_lv (lv' := [(0, .ref 0), (1, .int (iI (a))), (2, .int (iI (b))), (3, .int (iI (c))), (4, .int (iI (d)))]) rfl ?_
  refine x_aload_n (i := 0) C dX11_binds_0 rfl rfl ?_
  refine x_getRs (r := 1) C fkX_X11_10 (nlt rfl) rfl (hr 0 0 rfl) dX11_binds_1 ?_
  refine x_iload_n (i := 1) C dX11_binds_4 rfl rfl ?_
  refine x_callV (As := [.int (iI (a))]) C (by exact (n_boardAt (k := a) (by exact hr) (by exact (fun _ => rfl)) ⟨by omega, by omega⟩)) ckX11_89 im_X8_boardAt se_X8_boardAt (nlt rfl) rfl rfl rfl rfl (nle rfl) (by exact ⟨nle rfl, nle rfl⟩) dX11_binds_5 ?_
  rintro _ _ ⟨rfl, rfl⟩
  refine Wx_st (st' := [.null]) rfl ?_
  refine x_astoreN (lv' := [(5, .null), (0, .ref 0), (1, .int (iI (a))), (2, .int (iI (b))), (3, .int (iI (c))), (4, .int (iI (d)))]) C dX11_binds_8 (nlt rfl) rfl ?_
  refine x_aloadN C dX11_binds_10 rfl ?_
  refine x_ifnullN (tgt := 33) C dX11_binds_12 (by decide) ?_
  refine x_iconst C dX11_binds_33 ?_
  exact x_iret C hQ dX11_binds_34 (congrArg (fun z : Int => some (Value.int (iI z))) (by first | rfl | omega | (split <;> omega) | (repeat (first | omega | split))))
set_option maxHeartbeats 4000000 in
set_option maxRecDepth 100000 in
theorem x_drive {D : va_G} {ad : Nat → Nat} {cA : Nat → ClassId} {a b c d : Int} (ha : inR a) (hb : inR b) (hc : inR c) (hd : inR d) : MetX (wX D ad cA) yX11_drive cX11_drive 6 (some .int) 5 126 [.ref 0, .int (iI (a)), .int (iI (b)), .int (iI (c)), .int (iI (d))] x0X (fun r _ => r = some (.int (iI (-1)))) := by
  have hr : HRX x0X := fun _ _ _ => rfl
  unfold inR at ha hb hc hd
  refine MetX.mk (own := RX11) (by decide +kernel) rfl (nle rfl) (fun E C hQ => ?_)
  refine Wx_lv (lv' := [(0, .ref 0), (1, .int (iI (a))), (2, .int (iI (b))), (3, .int (iI (c))), (4, .int (iI (d)))]) rfl ?_
  refine x_aload_n (i := 0) C dX11_drive_0 rfl rfl ?_
  refine x_getRs (r := 1) C fkX_X11_10 (nlt rfl) rfl (hr 0 0 rfl) dX11_drive_1 ?_
  refine x_iload_n (i := 1) C dX11_drive_4 rfl rfl ?_
  refine x_callV (As := [.int (iI (a))]) C (by exact (n_boardAt (k := a) (by exact hr) (by exact (fun _ => rfl)) ⟨by omega, by omega⟩)) ckX11_89 im_X8_boardAt se_X8_boardAt (nlt rfl) rfl rfl rfl rfl (nle rfl) (by exact ⟨nle rfl, nle rfl⟩) dX11_drive_5 ?_
  rintro _ _ ⟨rfl, rfl⟩
  refine Wx_st (st' := [.null]) rfl ?_
  refine x_astoreN (lv' := [(5, .null), (0, .ref 0), (1, .int (iI (a))), (2, .int (iI (b))), (3, .int (iI (c))), (4, .int (iI (d)))]) C dX11_drive_8 (nlt rfl) rfl ?_
  refine x_aloadN C dX11_drive_10 rfl ?_
  refine x_ifnullN (tgt := 33) C dX11_drive_12 (by decide) ?_
  refine x_iconst C dX11_drive_33 ?_
  exact x_iret C hQ dX11_drive_34 (congrArg (fun z : Int => some (Value.int (iI z))) (by first | rfl | omega | (split <;> omega) | (repeat (first | omega | split))))
set_option maxHeartbeats 4000000 in
set_option maxRecDepth 100000 in
theorem x_shorter {D : va_G} {ad : Nat → Nat} {cA : Nat → ClassId} {a b c d : Int} (ha : inR a) (hb : inR b) (hc : inR c) (hd : inR d) : MetX (wX D ad cA) yX11_shorter cX11_shorter 8 (some .int) 6 157 [.ref 0, .int (iI (a)), .int (iI (b)), .int (iI (c)), .int (iI (d))] x0X (fun r _ => r = some (.int (iI (-1)))) := by
  have hr : HRX x0X := fun _ _ _ => rfl
  unfold inR at ha hb hc hd
  refine MetX.mk (own := RX11) (by decide +kernel) rfl (nle rfl) (fun E C hQ => ?_)
  refine Wx_lv (lv' := [(0, .ref 0), (1, .int (iI (a))), (2, .int (iI (b))), (3, .int (iI (c))), (4, .int (iI (d)))]) rfl ?_
  refine x_aload_n (i := 0) C dX11_shorter_0 rfl rfl ?_
  refine x_getRs (r := 1) C fkX_X11_10 (nlt rfl) rfl (hr 0 0 rfl) dX11_shorter_1 ?_
  refine x_iload_n (i := 1) C dX11_shorter_4 rfl rfl ?_
  refine x_callV (As := [.int (iI (a))]) C (by exact (n_boardAt (k := a) (by exact hr) (by exact (fun _ => rfl)) ⟨by omega, by omega⟩)) ckX11_89 im_X8_boardAt se_X8_boardAt (nlt rfl) rfl rfl rfl rfl (nle rfl) (by exact ⟨nle rfl, nle rfl⟩) dX11_shorter_5 ?_
  rintro _ _ ⟨rfl, rfl⟩
  refine Wx_st (st' := [.null]) rfl ?_
  refine x_astoreN (lv' := [(5, .null), (0, .ref 0), (1, .int (iI (a))), (2, .int (iI (b))), (3, .int (iI (c))), (4, .int (iI (d)))]) C dX11_shorter_8 (nlt rfl) rfl ?_
  refine x_aloadN C dX11_shorter_10 rfl ?_
  refine x_ifnullN (tgt := 35) C dX11_shorter_12 (by decide) ?_
  refine x_iconst C dX11_shorter_35 ?_
  exact x_iret C hQ dX11_shorter_36 (congrArg (fun z : Int => some (Value.int (iI z))) (by first | rfl | omega | (split <;> omega) | (repeat (first | omega | split))))
set_option maxHeartbeats 4000000 in
set_option maxRecDepth 100000 in
theorem x_alike {D : va_G} {ad : Nat → Nat} {cA : Nat → ClassId} {a b c : Int} (ha : inR a) (hb : inR b) (hc : inR c) : MetX (wX D ad cA) yX11_alike cX11_alike 5 (some .boolean) 6 160 [.ref 0, .int (iI (a)), .int (iI (b)), .int (iI (c))] x0X (fun r _ => r = some (.int (iI (0)))) := by
  have hr : HRX x0X := fun _ _ _ => rfl
  unfold inR at ha hb hc
  refine MetX.mk (own := RX11) (by decide +kernel) rfl (nle rfl) (fun E C hQ => ?_)
  refine Wx_lv (lv' := [(0, .ref 0), (1, .int (iI (a))), (2, .int (iI (b))), (3, .int (iI (c)))]) rfl ?_
  refine x_aload_n (i := 0) C dX11_alike_0 rfl rfl ?_
  refine x_getRs (r := 1) C fkX_X11_10 (nlt rfl) rfl (hr 0 0 rfl) dX11_alike_1 ?_
  refine x_iload_n (i := 1) C dX11_alike_4 rfl rfl ?_
  refine x_callV (As := [.int (iI (a))]) C (by exact (n_boardAt (k := a) (by exact hr) (by exact (fun _ => rfl)) ⟨by omega, by omega⟩)) ckX11_89 im_X8_boardAt se_X8_boardAt (nlt rfl) rfl rfl rfl rfl (nle rfl) (by exact ⟨nle rfl, nle rfl⟩) dX11_alike_5 ?_
  rintro _ _ ⟨rfl, rfl⟩
  refine Wx_st (st' := [.null]) rfl ?_
  refine x_astoreN (lv' := [(4, .null), (0, .ref 0), (1, .int (iI (a))), (2, .int (iI (b))), (3, .int (iI (c)))]) C dX11_alike_8 (nlt rfl) rfl ?_
  refine x_aloadN C dX11_alike_10 rfl ?_
  refine x_ifnullN (tgt := 37) C dX11_alike_12 (by decide) ?_
  refine x_iconst C dX11_alike_37 ?_
  exact x_zret C hQ (by omega) dX11_alike_38 (congrArg (fun z : Int => some (Value.int (iI z))) (by first | rfl | omega | (split <;> omega) | (repeat (first | omega | split))))
set_option maxHeartbeats 4000000 in
set_option maxRecDepth 100000 in
theorem x_meanings {D : va_G} {ad : Nat → Nat} {cA : Nat → ClassId} {a b c d : Int} (ha : inR a) (hb : inR b) (hc : inR c) (hd : inR d) : MetX (wX D ad cA) yX11_meanings cX11_meanings 6 (some .int) 5 128 [.ref 0, .int (iI (a)), .int (iI (b)), .int (iI (c)), .int (iI (d))] x0X (fun r _ => r = some (.int (iI (-1)))) := by
  have hr : HRX x0X := fun _ _ _ => rfl
  unfold inR at ha hb hc hd
  refine MetX.mk (own := RX11) (by decide +kernel) rfl (nle rfl) (fun E C hQ => ?_)
  refine Wx_lv (lv' := [(0, .ref 0), (1, .int (iI (a))), (2, .int (iI (b))), (3, .int (iI (c))), (4, .int (iI (d)))]) rfl ?_
  refine x_aload_n (i := 0) C dX11_meanings_0 rfl rfl ?_
  refine x_getRs (r := 1) C fkX_X11_10 (nlt rfl) rfl (hr 0 0 rfl) dX11_meanings_1 ?_
  refine x_iload_n (i := 1) C dX11_meanings_4 rfl rfl ?_
  refine x_callV (As := [.int (iI (a))]) C (by exact (n_boardAt (k := a) (by exact hr) (by exact (fun _ => rfl)) ⟨by omega, by omega⟩)) ckX11_89 im_X8_boardAt se_X8_boardAt (nlt rfl) rfl rfl rfl rfl (nle rfl) (by exact ⟨nle rfl, nle rfl⟩) dX11_meanings_5 ?_
  rintro _ _ ⟨rfl, rfl⟩
  refine Wx_st (st' := [.null]) rfl ?_
  refine x_astoreN (lv' := [(5, .null), (0, .ref 0), (1, .int (iI (a))), (2, .int (iI (b))), (3, .int (iI (c))), (4, .int (iI (d)))]) C dX11_meanings_8 (nlt rfl) rfl ?_
  refine x_aloadN C dX11_meanings_10 rfl ?_
  refine x_ifnullN (tgt := 34) C dX11_meanings_12 (by decide) ?_
  refine x_iconst C dX11_meanings_34 ?_
  exact x_iret C hQ dX11_meanings_35 (congrArg (fun z : Int => some (Value.int (iI z))) (by first | rfl | omega | (split <;> omega) | (repeat (first | omega | split))))
set_option maxHeartbeats 4000000 in
set_option maxRecDepth 100000 in
theorem x_wins {D : va_G} {ad : Nat → Nat} {cA : Nat → ClassId} {a b c d e : Int} (ha : inR a) (hb : inR b) (hc : inR c) (hd : inR d) (he : inR e) : MetX (wX D ad cA) yX11_wins cX11_wins 8 (some .int) 102 6048 [.ref 0, .int (iI (a)), .int (iI (b)), .int (iI (c)), .int (iI (d)), .int (iI (e))] x0X (fun r _ => r = some (.int (iI (-2)))) := by
  have hr : HRX x0X := fun _ _ _ => rfl
  unfold inR at ha hb hc hd he
  refine MetX.mk (own := RX11) (by decide +kernel) rfl (nle rfl) (fun E C hQ => ?_)
  refine Wx_lv (lv' := [(0, .ref 0), (1, .int (iI (a))), (2, .int (iI (b))), (3, .int (iI (c))), (4, .int (iI (d))), (5, .int (iI (e)))]) rfl ?_
  refine x_aload_n (i := 0) C dX11_wins_0 rfl rfl ?_
  refine x_getRs (r := 1) C fkX_X11_10 (nlt rfl) rfl (hr 0 0 rfl) dX11_wins_1 ?_
  refine x_iload_n (i := 1) C dX11_wins_4 rfl rfl ?_
  refine x_callV (As := [.int (iI (a))]) C (by exact (n_boardAt (k := a) (by exact hr) (by exact (fun _ => rfl)) ⟨by omega, by omega⟩)) ckX11_89 im_X8_boardAt se_X8_boardAt (nlt rfl) rfl rfl rfl rfl (nle rfl) (by exact ⟨nle rfl, nle rfl⟩) dX11_wins_5 ?_
  rintro _ _ ⟨rfl, rfl⟩
  refine Wx_st (st' := [.null]) rfl ?_
  refine x_astoreN (lv' := [(6, .null), (0, .ref 0), (1, .int (iI (a))), (2, .int (iI (b))), (3, .int (iI (c))), (4, .int (iI (d))), (5, .int (iI (e)))]) C dX11_wins_8 (nlt rfl) rfl ?_
  refine x_aloadN C dX11_wins_10 rfl ?_
  refine x_iload_n (i := 2) C dX11_wins_12 rfl rfl ?_
  refine x_iload_n (i := 3) C dX11_wins_13 rfl rfl ?_
  refine x_callS (As := [.null, .int (iI (b)), .int (iI (c))]) C (by exact (n_canContest (a := b) (b := c) ⟨by omega, by omega⟩ ⟨by omega, by omega⟩)) ckX11_265 sm_X11_canContest rfl rfl (nle rfl) (by exact ⟨nle rfl, nle rfl⟩) dX11_wins_14 ?_
  rintro _ _ ⟨rfl, rfl⟩
  refine Wx_st (st' := [.int (iI (0))]) rfl ?_
  refine x_if_eq (tgt := 43) C dX11_wins_17 (by decide) ⟨by omega, by omega⟩ (fun h1 => ?_) (fun h1 => by exfalso; omega)
  refine x_bipush C dX11_wins_43 (by decide) ?_
  exact x_iret C hQ dX11_wins_45 (congrArg (fun z : Int => some (Value.int (iI z))) (by first | rfl | omega | (split <;> omega) | (repeat (first | omega | split))))
set_option maxHeartbeats 4000000 in
set_option maxRecDepth 100000 in
theorem x_soonest {D : va_G} {ad : Nat → Nat} {cA : Nat → ClassId} {a b c : Int} (ha : inR a) (hb : inR b) (hc : inR c) : MetX (wX D ad cA) yX11_soonest cX11_soonest 6 (some .int) 102 6048 [.ref 0, .int (iI (a)), .int (iI (b)), .int (iI (c))] x0X (fun r _ => r = some (.int (iI (-1)))) := by
  have hr : HRX x0X := fun _ _ _ => rfl
  unfold inR at ha hb hc
  refine MetX.mk (own := RX11) (by decide +kernel) rfl (nle rfl) (fun E C hQ => ?_)
  refine Wx_lv (lv' := [(0, .ref 0), (1, .int (iI (a))), (2, .int (iI (b))), (3, .int (iI (c)))]) rfl ?_
  refine x_aload_n (i := 0) C dX11_soonest_0 rfl rfl ?_
  refine x_getRs (r := 1) C fkX_X11_10 (nlt rfl) rfl (hr 0 0 rfl) dX11_soonest_1 ?_
  refine x_iload_n (i := 1) C dX11_soonest_4 rfl rfl ?_
  refine x_callV (As := [.int (iI (a))]) C (by exact (n_boardAt (k := a) (by exact hr) (by exact (fun _ => rfl)) ⟨by omega, by omega⟩)) ckX11_89 im_X8_boardAt se_X8_boardAt (nlt rfl) rfl rfl rfl rfl (nle rfl) (by exact ⟨nle rfl, nle rfl⟩) dX11_soonest_5 ?_
  rintro _ _ ⟨rfl, rfl⟩
  refine Wx_st (st' := [.null]) rfl ?_
  refine x_astoreN (lv' := [(4, .null), (0, .ref 0), (1, .int (iI (a))), (2, .int (iI (b))), (3, .int (iI (c)))]) C dX11_soonest_8 (nlt rfl) rfl ?_
  refine x_aloadN C dX11_soonest_10 rfl ?_
  refine x_iload_n (i := 2) C dX11_soonest_12 rfl rfl ?_
  refine x_iload_n (i := 3) C dX11_soonest_13 rfl rfl ?_
  refine x_callS (As := [.null, .int (iI (b)), .int (iI (c))]) C (by exact (n_canContest (a := b) (b := c) ⟨by omega, by omega⟩ ⟨by omega, by omega⟩)) ckX11_265 sm_X11_canContest rfl rfl (nle rfl) (by exact ⟨nle rfl, nle rfl⟩) dX11_soonest_14 ?_
  rintro _ _ ⟨rfl, rfl⟩
  refine Wx_st (st' := [.int (iI (0))]) rfl ?_
  refine x_if_ne (tgt := 22) C dX11_soonest_17 (by decide) ⟨by omega, by omega⟩ (fun h1 => by exfalso; omega) (fun h1 => ?_)
  refine x_iconst C dX11_soonest_20 ?_
  exact x_iret C hQ dX11_soonest_21 (congrArg (fun z : Int => some (Value.int (iI z))) (by first | rfl | omega | (split <;> omega) | (repeat (first | omega | split))))
set_option maxHeartbeats 4000000 in
set_option maxRecDepth 100000 in
theorem x_drawn {D : va_G} {ad : Nat → Nat} {cA : Nat → ClassId} {a b c d : Int} (ha : inR a) (hb : inR b) (hc : inR c) (hd : inR d) : MetX (wX D ad cA) yX11_drawn cX11_drawn 7 (some .int) 7 188 [.ref 0, .int (iI (a)), .int (iI (b)), .int (iI (c)), .int (iI (d))] x0X (fun r _ => r = some (.int (iI (-2)))) := by
  have hr : HRX x0X := fun _ _ _ => rfl
  unfold inR at ha hb hc hd
  refine MetX.mk (own := RX11) (by decide +kernel) rfl (nle rfl) (fun E C hQ => ?_)
  refine Wx_lv (lv' := [(0, .ref 0), (1, .int (iI (a))), (2, .int (iI (b))), (3, .int (iI (c))), (4, .int (iI (d)))]) rfl ?_
  refine x_aload_n (i := 0) C dX11_drawn_0 rfl rfl ?_
  refine x_getRs (r := 1) C fkX_X11_10 (nlt rfl) rfl (hr 0 0 rfl) dX11_drawn_1 ?_
  refine x_iload_n (i := 1) C dX11_drawn_4 rfl rfl ?_
  refine x_callV (As := [.int (iI (a))]) C (by exact (n_boardAt (k := a) (by exact hr) (by exact (fun _ => rfl)) ⟨by omega, by omega⟩)) ckX11_89 im_X8_boardAt se_X8_boardAt (nlt rfl) rfl rfl rfl rfl (nle rfl) (by exact ⟨nle rfl, nle rfl⟩) dX11_drawn_5 ?_
  rintro _ _ ⟨rfl, rfl⟩
  refine Wx_st (st' := [.null]) rfl ?_
  refine x_astoreN (lv' := [(5, .null), (0, .ref 0), (1, .int (iI (a))), (2, .int (iI (b))), (3, .int (iI (c))), (4, .int (iI (d)))]) C dX11_drawn_8 (nlt rfl) rfl ?_
  refine x_aloadN C dX11_drawn_10 rfl ?_
  refine x_ifnullN (tgt := 26) C dX11_drawn_12 (by decide) ?_
  refine x_bipush C dX11_drawn_26 (by decide) ?_
  exact x_iret C hQ dX11_drawn_28 (congrArg (fun z : Int => some (Value.int (iI z))) (by first | rfl | omega | (split <;> omega) | (repeat (first | omega | split))))
set_option maxHeartbeats 4000000 in
set_option maxRecDepth 100000 in
theorem n_hasRoom0 {D : va_G} {ad : Nat → Nat} {cA : Nat → ClassId} {X : XT} (hr : HRX X) (mz : ∀ i, X.1 3 i = 0) {p : Int} (hp : inR p) : MetX (wX D ad cA) yX8_hasRoom cX8_hasRoom 4 (some .boolean) 0 0 [.ref 1, .int (iI (0)), .int (iI (p))] X (fun r X' => X' = X ∧ ∃ u : Int, r = some (.int (iI u)) ∧ ((u = 1 ∧ p = -1) ∨ (u = 0 ∧ ¬ p = -1))) := by
  unfold inR at hp
  refine MetX.mk (own := RX8) (by decide +kernel) rfl (nle rfl) (fun E C hQ => ?_)
  refine Wx_lv (lv' := [(0, .ref 1), (1, .int (iI (0))), (2, .int (iI (p)))]) rfl ?_
  refine x_iload_n (i := 1) C dX8_hasRoom_0 rfl rfl ?_
  refine x_if_lt (tgt := 9) C dX8_hasRoom_1 (by decide) ⟨by omega, by omega⟩ (fun h1 => by exfalso; omega) (fun h1 => ?_)
  refine x_iload_n (i := 1) C dX8_hasRoom_4 rfl rfl ?_
  refine x_iconst C dX8_hasRoom_5 ?_
  refine x_icmp_lt (tgt := 11) C dX8_hasRoom_6 (by decide) ⟨by omega, by omega⟩ ⟨by omega, by omega⟩ (fun h2 => ?_) (fun h2 => by exfalso; omega)
  refine x_iload_n (i := 1) C dX8_hasRoom_11 rfl rfl ?_
  refine x_if_ne (tgt := 19) C dX8_hasRoom_12 (by decide) ⟨by omega, by omega⟩ (fun h3 => by exfalso; omega) (fun h3 => ?_)
  refine x_iconst C dX8_hasRoom_15 ?_
  refine x_goto (tgt := 29) C dX8_hasRoom_16 (by decide) ?_
  refine x_istore_n (i := 3) (lv' := [(3, .int (iI (2))), (0, .ref 1), (1, .int (iI (0))), (2, .int (iI (p)))]) C dX8_hasRoom_29 rfl (nlt rfl) rfl ?_
  refine x_iload_n (i := 2) C dX8_hasRoom_30 rfl rfl ?_
  refine x_iconst C dX8_hasRoom_31 ?_
  refine x_icmp_ne (tgt := 53) C dX8_hasRoom_32 (by decide) ⟨by omega, by omega⟩ ⟨by omega, by omega⟩ (fun h4 => ?_) (fun h4 => ?_)
  · refine x_iload_n (i := 2) C dX8_hasRoom_53 rfl rfl ?_
    refine x_if_lt (tgt := 71) C dX8_hasRoom_54 (by decide) ⟨by omega, by omega⟩ (fun h5 => ?_) (fun h5 => ?_)
    · refine x_iconst C dX8_hasRoom_71 ?_
      exact x_zret C hQ (by omega) dX8_hasRoom_72 (⟨rfl, _, rfl, by omega⟩)
    · refine x_iload_n (i := 2) C dX8_hasRoom_57 rfl rfl ?_
      refine x_aload_n (i := 0) C dX8_hasRoom_58 rfl rfl ?_
      refine x_getRs (r := 3) C fkX_X8_19 (nlt rfl) rfl (hr 1 4 rfl) dX8_hasRoom_59 ?_
      refine x_iload_n (i := 1) C dX8_hasRoom_62 rfl rfl ?_
      refine x_iald C (nlt rfl) rfl rfl (nle rfl) (by omega) (by omega) dX8_hasRoom_63 ?_
      refine x_eq (b := 0) (mz _) ?_
      refine x_icmp_ge (tgt := 71) C dX8_hasRoom_64 (by decide) ⟨by omega, by omega⟩ ⟨by omega, by omega⟩ (fun h6 => ?_) (fun h6 => ?_)
      · refine x_iconst C dX8_hasRoom_71 ?_
        exact x_zret C hQ (by omega) dX8_hasRoom_72 (⟨rfl, _, rfl, by omega⟩)
      · refine x_iconst C dX8_hasRoom_67 ?_
        refine x_goto (tgt := 72) C dX8_hasRoom_68 (by decide) ?_
        exact x_zret C hQ (by omega) dX8_hasRoom_72 (⟨rfl, _, rfl, by omega⟩)
  · refine x_aload_n (i := 0) C dX8_hasRoom_35 rfl rfl ?_
    refine x_getRs (r := 3) C fkX_X8_19 (nlt rfl) rfl (hr 1 4 rfl) dX8_hasRoom_36 ?_
    refine x_iload_n (i := 1) C dX8_hasRoom_39 rfl rfl ?_
    refine x_iald C (nlt rfl) rfl rfl (nle rfl) (by omega) (by omega) dX8_hasRoom_40 ?_
    refine x_eq (b := 0) (mz _) ?_
    refine x_iload_n (i := 3) C dX8_hasRoom_41 rfl rfl ?_
    refine x_icmp_ge (tgt := 49) C dX8_hasRoom_42 (by decide) ⟨by omega, by omega⟩ ⟨by omega, by omega⟩ (fun h7 => by exfalso; omega) (fun h7 => ?_)
    refine x_iconst C dX8_hasRoom_45 ?_
    refine x_goto (tgt := 72) C dX8_hasRoom_46 (by decide) ?_
    exact x_zret C hQ (by omega) dX8_hasRoom_72 (⟨rfl, _, rfl, by omega⟩)
set_option maxHeartbeats 4000000 in
set_option maxRecDepth 100000 in
theorem n_hasRoom1 {D : va_G} {ad : Nat → Nat} {cA : Nat → ClassId} {X : XT} (hr : HRX X) (mz : ∀ i, X.1 3 i = 0) {p : Int} (hp : inR p) : MetX (wX D ad cA) yX8_hasRoom cX8_hasRoom 4 (some .boolean) 0 0 [.ref 1, .int (iI (1)), .int (iI (p))] X (fun r X' => X' = X ∧ ∃ u : Int, r = some (.int (iI u)) ∧ ((u = 1 ∧ p = -1) ∨ (u = 0 ∧ ¬ p = -1))) := by
  unfold inR at hp
  refine MetX.mk (own := RX8) (by decide +kernel) rfl (nle rfl) (fun E C hQ => ?_)
  refine Wx_lv (lv' := [(0, .ref 1), (1, .int (iI (1))), (2, .int (iI (p)))]) rfl ?_
  refine x_iload_n (i := 1) C dX8_hasRoom_0 rfl rfl ?_
  refine x_if_lt (tgt := 9) C dX8_hasRoom_1 (by decide) ⟨by omega, by omega⟩ (fun h1 => by exfalso; omega) (fun h1 => ?_)
  refine x_iload_n (i := 1) C dX8_hasRoom_4 rfl rfl ?_
  refine x_iconst C dX8_hasRoom_5 ?_
  refine x_icmp_lt (tgt := 11) C dX8_hasRoom_6 (by decide) ⟨by omega, by omega⟩ ⟨by omega, by omega⟩ (fun h2 => ?_) (fun h2 => by exfalso; omega)
  refine x_iload_n (i := 1) C dX8_hasRoom_11 rfl rfl ?_
  refine x_if_ne (tgt := 19) C dX8_hasRoom_12 (by decide) ⟨by omega, by omega⟩ (fun h3 => ?_) (fun h3 => by exfalso; omega)
  refine x_iload_n (i := 1) C dX8_hasRoom_19 rfl rfl ?_
  refine x_iconst C dX8_hasRoom_20 ?_
  refine x_icmp_ne (tgt := 28) C dX8_hasRoom_21 (by decide) ⟨by omega, by omega⟩ ⟨by omega, by omega⟩ (fun h4 => by exfalso; omega) (fun h4 => ?_)
  refine x_iconst C dX8_hasRoom_24 ?_
  refine x_goto (tgt := 29) C dX8_hasRoom_25 (by decide) ?_
  refine x_istore_n (i := 3) (lv' := [(3, .int (iI (3))), (0, .ref 1), (1, .int (iI (1))), (2, .int (iI (p)))]) C dX8_hasRoom_29 rfl (nlt rfl) rfl ?_
  refine x_iload_n (i := 2) C dX8_hasRoom_30 rfl rfl ?_
  refine x_iconst C dX8_hasRoom_31 ?_
  refine x_icmp_ne (tgt := 53) C dX8_hasRoom_32 (by decide) ⟨by omega, by omega⟩ ⟨by omega, by omega⟩ (fun h5 => ?_) (fun h5 => ?_)
  · refine x_iload_n (i := 2) C dX8_hasRoom_53 rfl rfl ?_
    refine x_if_lt (tgt := 71) C dX8_hasRoom_54 (by decide) ⟨by omega, by omega⟩ (fun h6 => ?_) (fun h6 => ?_)
    · refine x_iconst C dX8_hasRoom_71 ?_
      exact x_zret C hQ (by omega) dX8_hasRoom_72 (⟨rfl, _, rfl, by omega⟩)
    · refine x_iload_n (i := 2) C dX8_hasRoom_57 rfl rfl ?_
      refine x_aload_n (i := 0) C dX8_hasRoom_58 rfl rfl ?_
      refine x_getRs (r := 3) C fkX_X8_19 (nlt rfl) rfl (hr 1 4 rfl) dX8_hasRoom_59 ?_
      refine x_iload_n (i := 1) C dX8_hasRoom_62 rfl rfl ?_
      refine x_iald C (nlt rfl) rfl rfl (nle rfl) (by omega) (by omega) dX8_hasRoom_63 ?_
      refine x_eq (b := 0) (mz _) ?_
      refine x_icmp_ge (tgt := 71) C dX8_hasRoom_64 (by decide) ⟨by omega, by omega⟩ ⟨by omega, by omega⟩ (fun h7 => ?_) (fun h7 => ?_)
      · refine x_iconst C dX8_hasRoom_71 ?_
        exact x_zret C hQ (by omega) dX8_hasRoom_72 (⟨rfl, _, rfl, by omega⟩)
      · refine x_iconst C dX8_hasRoom_67 ?_
        refine x_goto (tgt := 72) C dX8_hasRoom_68 (by decide) ?_
        exact x_zret C hQ (by omega) dX8_hasRoom_72 (⟨rfl, _, rfl, by omega⟩)
  · refine x_aload_n (i := 0) C dX8_hasRoom_35 rfl rfl ?_
    refine x_getRs (r := 3) C fkX_X8_19 (nlt rfl) rfl (hr 1 4 rfl) dX8_hasRoom_36 ?_
    refine x_iload_n (i := 1) C dX8_hasRoom_39 rfl rfl ?_
    refine x_iald C (nlt rfl) rfl rfl (nle rfl) (by omega) (by omega) dX8_hasRoom_40 ?_
    refine x_eq (b := 0) (mz _) ?_
    refine x_iload_n (i := 3) C dX8_hasRoom_41 rfl rfl ?_
    refine x_icmp_ge (tgt := 49) C dX8_hasRoom_42 (by decide) ⟨by omega, by omega⟩ ⟨by omega, by omega⟩ (fun h8 => by exfalso; omega) (fun h8 => ?_)
    refine x_iconst C dX8_hasRoom_45 ?_
    refine x_goto (tgt := 72) C dX8_hasRoom_46 (by decide) ?_
    exact x_zret C hQ (by omega) dX8_hasRoom_72 (⟨rfl, _, rfl, by omega⟩)
set_option maxHeartbeats 4000000 in
set_option maxRecDepth 100000 in
theorem n_hasRoom2 {D : va_G} {ad : Nat → Nat} {cA : Nat → ClassId} {X : XT} (hr : HRX X) (mz : ∀ i, X.1 3 i = 0) {p : Int} (hp : inR p) : MetX (wX D ad cA) yX8_hasRoom cX8_hasRoom 4 (some .boolean) 0 0 [.ref 1, .int (iI (2)), .int (iI (p))] X (fun r X' => X' = X ∧ ∃ u : Int, r = some (.int (iI u)) ∧ ((u = 1 ∧ p = -1) ∨ (u = 0 ∧ ¬ p = -1))) := by
  unfold inR at hp
  refine MetX.mk (own := RX8) (by decide +kernel) rfl (nle rfl) (fun E C hQ => ?_)
  refine Wx_lv (lv' := [(0, .ref 1), (1, .int (iI (2))), (2, .int (iI (p)))]) rfl ?_
  refine x_iload_n (i := 1) C dX8_hasRoom_0 rfl rfl ?_
  refine x_if_lt (tgt := 9) C dX8_hasRoom_1 (by decide) ⟨by omega, by omega⟩ (fun h1 => by exfalso; omega) (fun h1 => ?_)
  refine x_iload_n (i := 1) C dX8_hasRoom_4 rfl rfl ?_
  refine x_iconst C dX8_hasRoom_5 ?_
  refine x_icmp_lt (tgt := 11) C dX8_hasRoom_6 (by decide) ⟨by omega, by omega⟩ ⟨by omega, by omega⟩ (fun h2 => ?_) (fun h2 => by exfalso; omega)
  refine x_iload_n (i := 1) C dX8_hasRoom_11 rfl rfl ?_
  refine x_if_ne (tgt := 19) C dX8_hasRoom_12 (by decide) ⟨by omega, by omega⟩ (fun h3 => ?_) (fun h3 => by exfalso; omega)
  refine x_iload_n (i := 1) C dX8_hasRoom_19 rfl rfl ?_
  refine x_iconst C dX8_hasRoom_20 ?_
  refine x_icmp_ne (tgt := 28) C dX8_hasRoom_21 (by decide) ⟨by omega, by omega⟩ ⟨by omega, by omega⟩ (fun h4 => ?_) (fun h4 => by exfalso; omega)
  refine x_iconst C dX8_hasRoom_28 ?_
  refine x_istore_n (i := 3) (lv' := [(3, .int (iI (2))), (0, .ref 1), (1, .int (iI (2))), (2, .int (iI (p)))]) C dX8_hasRoom_29 rfl (nlt rfl) rfl ?_
  refine x_iload_n (i := 2) C dX8_hasRoom_30 rfl rfl ?_
  refine x_iconst C dX8_hasRoom_31 ?_
  refine x_icmp_ne (tgt := 53) C dX8_hasRoom_32 (by decide) ⟨by omega, by omega⟩ ⟨by omega, by omega⟩ (fun h5 => ?_) (fun h5 => ?_)
  · refine x_iload_n (i := 2) C dX8_hasRoom_53 rfl rfl ?_
    refine x_if_lt (tgt := 71) C dX8_hasRoom_54 (by decide) ⟨by omega, by omega⟩ (fun h6 => ?_) (fun h6 => ?_)
    · refine x_iconst C dX8_hasRoom_71 ?_
      exact x_zret C hQ (by omega) dX8_hasRoom_72 (⟨rfl, _, rfl, by omega⟩)
    · refine x_iload_n (i := 2) C dX8_hasRoom_57 rfl rfl ?_
      refine x_aload_n (i := 0) C dX8_hasRoom_58 rfl rfl ?_
      refine x_getRs (r := 3) C fkX_X8_19 (nlt rfl) rfl (hr 1 4 rfl) dX8_hasRoom_59 ?_
      refine x_iload_n (i := 1) C dX8_hasRoom_62 rfl rfl ?_
      refine x_iald C (nlt rfl) rfl rfl (nle rfl) (by omega) (by omega) dX8_hasRoom_63 ?_
      refine x_eq (b := 0) (mz _) ?_
      refine x_icmp_ge (tgt := 71) C dX8_hasRoom_64 (by decide) ⟨by omega, by omega⟩ ⟨by omega, by omega⟩ (fun h7 => ?_) (fun h7 => ?_)
      · refine x_iconst C dX8_hasRoom_71 ?_
        exact x_zret C hQ (by omega) dX8_hasRoom_72 (⟨rfl, _, rfl, by omega⟩)
      · refine x_iconst C dX8_hasRoom_67 ?_
        refine x_goto (tgt := 72) C dX8_hasRoom_68 (by decide) ?_
        exact x_zret C hQ (by omega) dX8_hasRoom_72 (⟨rfl, _, rfl, by omega⟩)
  · refine x_aload_n (i := 0) C dX8_hasRoom_35 rfl rfl ?_
    refine x_getRs (r := 3) C fkX_X8_19 (nlt rfl) rfl (hr 1 4 rfl) dX8_hasRoom_36 ?_
    refine x_iload_n (i := 1) C dX8_hasRoom_39 rfl rfl ?_
    refine x_iald C (nlt rfl) rfl rfl (nle rfl) (by omega) (by omega) dX8_hasRoom_40 ?_
    refine x_eq (b := 0) (mz _) ?_
    refine x_iload_n (i := 3) C dX8_hasRoom_41 rfl rfl ?_
    refine x_icmp_ge (tgt := 49) C dX8_hasRoom_42 (by decide) ⟨by omega, by omega⟩ ⟨by omega, by omega⟩ (fun h8 => by exfalso; omega) (fun h8 => ?_)
    refine x_iconst C dX8_hasRoom_45 ?_
    refine x_goto (tgt := 72) C dX8_hasRoom_46 (by decide) ?_
    exact x_zret C hQ (by omega) dX8_hasRoom_72 (⟨rfl, _, rfl, by omega⟩)
set_option maxHeartbeats 4000000 in
set_option maxRecDepth 100000 in
theorem n_hasRoomX {D : va_G} {ad : Nat → Nat} {cA : Nat → ClassId} {X : XT} {s p : Int} (hs : inR s) (hp : inR p) (hn : ¬ (0 ≤ s ∧ s ≤ 2)) : MetX (wX D ad cA) yX8_hasRoom cX8_hasRoom 4 (some .boolean) 0 0 [.ref 1, .int (iI (s)), .int (iI (p))] X (fun r X' => X' = X ∧ r = some (.int (iI 0))) := by
  unfold inR at hs hp
  refine MetX.mk (own := RX8) (by decide +kernel) rfl (nle rfl) (fun E C hQ => ?_)
  refine Wx_lv (lv' := [(0, .ref 1), (1, .int (iI (s))), (2, .int (iI (p)))]) rfl ?_
  refine x_iload_n (i := 1) C dX8_hasRoom_0 rfl rfl ?_
  refine x_if_lt (tgt := 9) C dX8_hasRoom_1 (by decide) ⟨by omega, by omega⟩ (fun h1 => ?_) (fun h1 => ?_)
  · refine x_iconst C dX8_hasRoom_9 ?_
    exact x_zret C hQ (by omega) dX8_hasRoom_10 (⟨rfl, rfl⟩)
  · refine x_iload_n (i := 1) C dX8_hasRoom_4 rfl rfl ?_
    refine x_iconst C dX8_hasRoom_5 ?_
    refine x_icmp_lt (tgt := 11) C dX8_hasRoom_6 (by decide) ⟨by omega, by omega⟩ ⟨by omega, by omega⟩ (fun h2 => by exfalso; omega) (fun h2 => ?_)
    refine x_iconst C dX8_hasRoom_9 ?_
    exact x_zret C hQ (by omega) dX8_hasRoom_10 (⟨rfl, rfl⟩)
set_option maxHeartbeats 4000000 in
set_option maxRecDepth 100000 in
theorem n_clear {D : va_G} {ad : Nat → Nat} {cA : Nat → ClassId} {X : XT} (hr : HRX X) : MetX (wX D ad cA) yX0_clear cX0_clear 1 none 0 0 [.ref 22] X (fun r X' => r = none ∧ HRX X' ∧ (∀ k, Nat.beq k 22 = false → ∀ i, X'.1 k i = X.1 k i) ∧ X'.1 22 0 = 4 ∧ X'.1 22 1 = 4 ∧ X'.2.1 22 2 = 0 ∧ X'.2.1 22 3 = 0 ∧ X'.1 22 4 = 0) := by
  refine MetX.mk (own := RX0) (by decide +kernel) rfl (nle rfl) (fun E C hQ => ?_)
  refine Wx_lv (lv' := [(0, .ref 22)]) rfl ?_
  refine x_aload_n (i := 0) C dX0_clear_0 rfl rfl ?_
  refine x_iconst C dX0_clear_1 ?_
  refine x_putI C pkX_X0_18 (nlt rfl) rfl dX0_clear_2 ?_
  refine x_aload_n (i := 0) C dX0_clear_5 rfl rfl ?_
  refine x_iconst C dX0_clear_6 ?_
  refine x_putI C pkX_X0_22 (nlt rfl) rfl dX0_clear_7 ?_
  refine x_aload_n (i := 0) C dX0_clear_10 rfl rfl ?_
  refine x_lconst C dX0_clear_11 ?_
  refine x_eqL (b := 0) rfl ?_
  refine x_putL C pkX_X0_25 (nlt rfl) rfl dX0_clear_12 ?_
  refine x_aload_n (i := 0) C dX0_clear_15 rfl rfl ?_
  refine x_lconst C dX0_clear_16 ?_
  refine x_eqL (b := 0) rfl ?_
  refine x_putL C pkX_X0_29 (nlt rfl) rfl dX0_clear_17 ?_
  refine x_aload_n (i := 0) C dX0_clear_20 rfl rfl ?_
  refine x_iconst C dX0_clear_21 ?_
  refine x_putI C pkX_X0_32 (nlt rfl) rfl dX0_clear_22 ?_
  exact x_vret C hQ dX0_clear_25 (⟨rfl, hr, fun k hk i => by simp only [upI, upL, hk]; rfl, rfl, rfl, rfl, rfl, rfl⟩)
set_option maxHeartbeats 4000000 in
set_option maxRecDepth 100000 in
theorem n_advance {D : va_G} {ad : Nat → Nat} {cA : Nat → ClassId} {X : XT} (hr : HRX X) (hq : X.1 21 9 = 0) (hl : X.1 21 6 = 0) : MetX (wX D ad cA) yX6_advance cX6_advance 3 none 1 20 [.ref 21] X (fun r X' => r = none ∧ HRX X' ∧ (∀ k, Nat.beq k 21 = false → ∀ i, X'.1 k i = X.1 k i) ∧ X'.1 21 7 = 5 ∧ X'.1 21 8 = 0 ∧ X'.1 21 6 = 0 ∧ X'.1 21 3 = X.1 21 3 ∧ X'.2.1 = X.2.1) := by
  refine MetX.mk (own := RX6) (by decide +kernel) rfl (nle rfl) (fun E C hQ => ?_)
  refine Wx_lv (lv' := [(0, .ref 21)]) rfl ?_
  refine x_aload_n (i := 0) C dX6_advance_0 rfl rfl ?_
  refine x_aload_n (i := 0) C dX6_advance_1 rfl rfl ?_
  refine x_getI C fkX_X6_39 (nlt rfl) rfl dX6_advance_2 ?_
  refine x_eq (b := 0) hq ?_
  refine x_putI C pkX_X6_73 (nlt rfl) rfl dX6_advance_5 ?_
  refine x_aload_n (i := 0) C dX6_advance_8 rfl rfl ?_
  refine x_getI C fkX_X6_73 (nlt rfl) rfl dX6_advance_9 ?_
  refine x_eq (b := 0) rfl ?_
  refine x_aload_n (i := 0) C dX6_advance_12 rfl rfl ?_
  refine x_getI C fkX_X6_35 (nlt rfl) rfl dX6_advance_13 ?_
  refine x_eq (b := 0) hl ?_
  refine x_icmp_ge (tgt := 47) C dX6_advance_16 (by decide) ⟨by omega, by omega⟩ ⟨by omega, by omega⟩ (fun h1 => ?_) (fun h1 => by exfalso; omega)
  refine x_aload_n (i := 0) C dX6_advance_47 rfl rfl ?_
  refine x_aload_n (i := 0) C dX6_advance_48 rfl rfl ?_
  refine x_getI C fkX_X6_73 (nlt rfl) rfl dX6_advance_49 ?_
  refine x_eq (b := 0) rfl ?_
  refine x_aload_n (i := 0) C dX6_advance_52 rfl rfl ?_
  refine x_getI C fkX_X6_35 (nlt rfl) rfl dX6_advance_53 ?_
  refine x_eq (b := 0) hl ?_
  refine x_icmp_ge (tgt := 74) C dX6_advance_56 (by decide) ⟨by omega, by omega⟩ ⟨by omega, by omega⟩ (fun h2 => ?_) (fun h2 => by exfalso; omega)
  refine x_iconst C dX6_advance_74 ?_
  refine x_putI C pkX_X6_61 (nlt rfl) rfl dX6_advance_75 ?_
  refine x_aload_n (i := 0) C dX6_advance_78 rfl rfl ?_
  refine x_aload_n (i := 0) C dX6_advance_79 rfl rfl ?_
  refine x_getI C fkX_X6_73 (nlt rfl) rfl dX6_advance_80 ?_
  refine x_eq (b := 0) rfl ?_
  refine x_aload_n (i := 0) C dX6_advance_83 rfl rfl ?_
  refine x_getI C fkX_X6_35 (nlt rfl) rfl dX6_advance_84 ?_
  refine x_eq (b := 0) hl ?_
  refine x_icmp_ge (tgt := 99) C dX6_advance_87 (by decide) ⟨by omega, by omega⟩ ⟨by omega, by omega⟩ (fun h3 => ?_) (fun h3 => by exfalso; omega)
  refine x_aload_n (i := 0) C dX6_advance_99 rfl rfl ?_
  refine x_getI C fkX_X6_73 (nlt rfl) rfl dX6_advance_100 ?_
  refine x_eq (b := 0) rfl ?_
  refine x_putI C pkX_X6_39 (nlt rfl) rfl dX6_advance_103 ?_
  refine x_aload_n (i := 0) C dX6_advance_106 rfl rfl ?_
  refine x_getI C fkX_X6_61 (nlt rfl) rfl dX6_advance_107 ?_
  refine x_eq (b := 5) rfl ?_
  refine x_iconst C dX6_advance_110 ?_
  refine x_icmp_eq (tgt := 122) C dX6_advance_111 (by decide) ⟨by omega, by omega⟩ ⟨by omega, by omega⟩ (fun h4 => by exfalso; omega) (fun h4 => ?_)
  refine x_aload_n (i := 0) C dX6_advance_114 rfl rfl ?_
  refine x_getI C fkX_X6_61 (nlt rfl) rfl dX6_advance_115 ?_
  refine x_eq (b := 5) rfl ?_
  refine x_iconst C dX6_advance_118 ?_
  refine x_icmp_ne (tgt := 126) C dX6_advance_119 (by decide) ⟨by omega, by omega⟩ ⟨by omega, by omega⟩ (fun h5 => ?_) (fun h5 => by exfalso; omega)
  refine x_iconst C dX6_advance_126 ?_
  refine x_istore_n (i := 1) (lv' := [(1, .int (iI (0))), (0, .ref 21)]) C dX6_advance_127 rfl (nlt rfl) rfl ?_
  refine x_iload_n (i := 1) C dX6_advance_128 rfl rfl ?_
  refine x_if_eq (tgt := 175) C dX6_advance_129 (by decide) ⟨by omega, by omega⟩ (fun h6 => ?_) (fun h6 => by exfalso; omega)
  refine x_aload_n (i := 0) C dX6_advance_175 rfl rfl ?_
  refine x_getI C fkX_X6_61 (nlt rfl) rfl dX6_advance_176 ?_
  refine x_eq (b := 5) rfl ?_
  refine x_iconst C dX6_advance_179 ?_
  refine x_icmp_ne (tgt := 201) C dX6_advance_180 (by decide) ⟨by omega, by omega⟩ ⟨by omega, by omega⟩ (fun h7 => ?_) (fun h7 => by exfalso; omega)
  refine x_aload_n (i := 0) C dX6_advance_201 rfl rfl ?_
  refine x_iconst C dX6_advance_202 ?_
  refine x_putI C pkX_X6_157 (nlt rfl) rfl dX6_advance_203 ?_
  refine x_aload_n (i := 0) C dX6_advance_206 rfl rfl ?_
  refine x_getI C fkX_X6_73 (nlt rfl) rfl dX6_advance_207 ?_
  refine x_eq (b := 0) rfl ?_
  refine x_istore_n (i := 2) (lv' := [(2, .int (iI (0))), (1, .int (iI (0))), (0, .ref 21)]) C dX6_advance_210 rfl (nlt rfl) rfl ?_
  refine x_iload_n (i := 2) C dX6_advance_211 rfl rfl ?_
  refine x_aload_n (i := 0) C dX6_advance_212 rfl rfl ?_
  refine x_getI C fkX_X6_39 (nlt rfl) rfl dX6_advance_213 ?_
  refine x_eq (b := 0) rfl ?_
  refine x_icmp_ge (tgt := 254) C dX6_advance_216 (by decide) ⟨by omega, by omega⟩ ⟨by omega, by omega⟩ (fun h8 => ?_) (fun h8 => by exfalso; omega)
  exact x_vret C hQ dX6_advance_254 (⟨rfl, hr, fun k hk i => by simp only [upI, upL, hk]; rfl, rfl, rfl, hl, rfl, rfl⟩)
set_option maxHeartbeats 4000000 in
set_option maxRecDepth 100000 in
theorem n_takeRule {D : va_G} {ad : Nat → Nat} {cA : Nat → ClassId} {X : XT} (hr : HRX X) (hk : X.1 21 7 = 5) : MetX (wX D ad cA) yX6_takeRule cX6_takeRule 6 (some .boolean) 7 159 [.ref 21] X (fun r X' => X' = X ∧ r = some (.int (iI 0))) := by
  refine MetX.mk (own := RX6) (by decide +kernel) rfl (nle rfl) (fun E C hQ => ?_)
  refine Wx_lv (lv' := [(0, .ref 21)]) rfl ?_
  refine x_aload_n (i := 0) C dX6_takeRule_0 rfl rfl ?_
  refine x_getI C fkX_X6_61 (nlt rfl) rfl dX6_takeRule_1 ?_
  refine x_eq (b := 5) hk ?_
  refine x_iconst C dX6_takeRule_4 ?_
  refine x_icmp_ne (tgt := 22) C dX6_takeRule_5 (by decide) ⟨by omega, by omega⟩ ⟨by omega, by omega⟩ (fun h1 => ?_) (fun h1 => by exfalso; omega)
  refine x_iconst C dX6_takeRule_22 ?_
  exact x_zret C hQ (by omega) dX6_takeRule_23 (⟨rfl, rfl⟩)
set_option maxHeartbeats 4000000 in
set_option maxRecDepth 100000 in
theorem n_bit {D : va_G} {ad : Nat → Nat} {cA : Nat → ClassId} {X : XT} {k : Int} : MetX (wX D ad cA) yX11_bit cX11_bit 1 (some .long) 0 0 [.int (iI (k))] X (fun r X' => X' = X ∧ ∃ v : Int64, r = some (.long v)) := by
  refine MetX.mk (own := RX11) (by decide +kernel) rfl (nle rfl) (fun E C hQ => ?_)
  refine Wx_lv (lv' := [(0, .int (iI (k)))]) rfl ?_
  refine x_lconst C dX11_bit_0 ?_
  refine x_eqL (b := 1) rfl ?_
  refine x_iload_n (i := 0) C dX11_bit_1 rfl rfl ?_
  refine x_lshl C dX11_bit_2 ?_
  refine x_genL (fun l1 el1 => ?_)
  exact x_lret C hQ dX11_bit_3 (⟨rfl, _, rfl⟩)
set_option maxHeartbeats 4000000 in
set_option maxRecDepth 100000 in
theorem n_isSound {D : va_G} {ad : Nat → Nat} {cA : Nat → ClassId} {X : XT} (hr : HRX X) (a : X.1 22 0 = 4) (b : X.1 22 1 = 4) (c : X.2.1 22 2 = 0) (d : X.2.1 22 3 = 0) (e : X.1 22 4 = 0) : MetX (wX D ad cA) yX0_isSound cX0_isSound 8 (some .boolean) 1 20 [.ref 22] X (fun r X' => X' = X ∧ r = some (.int (iI 1))) := by
  refine MetX.mk (own := RX0) (by decide +kernel) rfl (nle rfl) (fun E C hQ => ?_)
  refine Wx_lv (lv' := [(0, .ref 22)]) rfl ?_
  refine x_aload_n (i := 0) C dX0_isSound_0 rfl rfl ?_
  refine x_getI C fkX_X0_18 (nlt rfl) rfl dX0_isSound_1 ?_
  refine x_eq (b := 4) a ?_
  refine x_aload_n (i := 0) C dX0_isSound_4 rfl rfl ?_
  refine x_getI C fkX_X0_22 (nlt rfl) rfl dX0_isSound_5 ?_
  refine x_eq (b := 4) b ?_
  refine x_imul C dX0_isSound_8 ?_
  refine x_eq (b := 16) rfl ?_
  refine x_callSN (As := [.int (iI (16))]) C (by exact (n_bit (k := 16))) cnX0_43 rfl rfl (nle rfl) (by exact ⟨nle rfl, nle rfl⟩) dX0_isSound_9 ?_
  rintro _ _ ⟨rfl, l1, rfl⟩
  refine Wx_st (st' := [.long (l1)]) rfl ?_
  refine x_lconst C dX0_isSound_12 ?_
  refine x_eqL (b := 1) rfl ?_
  refine x_lsub C dX0_isSound_13 ?_
  refine x_genL (fun l2 el2 => ?_)
  refine x_lstore_n (i := 1) (lv' := [(1, .long (l2)), (0, .ref 22)]) C dX0_isSound_14 rfl (nlt rfl) rfl ?_
  refine x_aload_n (i := 0) C dX0_isSound_15 rfl rfl ?_
  refine x_getL C fkX_X0_25 (nlt rfl) rfl dX0_isSound_16 ?_
  refine x_eqL (b := 0) c ?_
  refine x_aload_n (i := 0) C dX0_isSound_19 rfl rfl ?_
  refine x_getL C fkX_X0_29 (nlt rfl) rfl dX0_isSound_20 ?_
  refine x_eqL (b := 0) d ?_
  refine x_lor C dX0_isSound_23 ?_
  refine x_eqL (b := 0) (by decide) ?_
  refine x_lstore_n (i := 3) (lv' := [(3, .long (0)), (1, .long (l2)), (0, .ref 22)]) C dX0_isSound_24 rfl (nlt rfl) rfl ?_
  refine x_lload_n (i := 3) C dX0_isSound_25 rfl rfl ?_
  refine x_lload_n (i := 1) C dX0_isSound_26 rfl rfl ?_
  refine x_ldc2 C dX0_isSound_27 cnX0_41 ?_
  refine x_lxor C dX0_isSound_30 ?_
  refine x_genL (fun l4 el4 => ?_)
  refine x_land C dX0_isSound_31 ?_
  refine x_eqL (b := 0) Int64.zero_and ?_
  refine x_lconst C dX0_isSound_32 ?_
  refine x_eqL (b := 0) rfl ?_
  refine x_lcmp C dX0_isSound_33 ?_
  refine x_eqi (z := 0) (by decide) ?_
  refine x_if_eq (tgt := 39) C dX0_isSound_34 (by decide) ⟨by omega, by omega⟩ (fun h7 => ?_) (fun h7 => by exfalso; omega)
  refine x_iconst C dX0_isSound_39 ?_
  refine x_istore (lv' := [(5, .int (iI (0))), (3, .long (0)), (1, .long (l2)), (0, .ref 22)]) C dX0_isSound_40 (nlt rfl) rfl ?_
  refine x_iload C dX0_isSound_42 rfl ?_
  refine x_aload_n (i := 0) C dX0_isSound_44 rfl rfl ?_
  refine x_getI C fkX_X0_32 (nlt rfl) rfl dX0_isSound_45 ?_
  refine x_eq (b := 0) e ?_
  refine x_icmp_ge (tgt := 91) C dX0_isSound_48 (by decide) ⟨by omega, by omega⟩ ⟨by omega, by omega⟩ (fun h8 => ?_) (fun h8 => by exfalso; omega)
  refine x_iconst C dX0_isSound_91 ?_
  exact x_zret C hQ (by omega) dX0_isSound_92 (⟨rfl, rfl⟩)
set_option maxHeartbeats 4000000 in
set_option maxRecDepth 100000 in
theorem n_settle {D : va_G} {ad : Nat → Nat} {cA : Nat → ClassId} {X : XT} (hr : HRX X) (c : X.2.1 22 2 = 0) (d : X.2.1 22 3 = 0) : MetX (wX D ad cA) yX0_settle cX0_settle 1 none 0 0 [.ref 22] X (fun r X' => r = none ∧ HRX X' ∧ X'.1 = X.1 ∧ X'.2.1 22 2 = 0 ∧ X'.2.1 22 3 = 0) := by
  refine MetX.mk (own := RX0) (by decide +kernel) rfl (nle rfl) (fun E C hQ => ?_)
  refine Wx_lv (lv' := [(0, .ref 22)]) rfl ?_
  refine x_aload_n (i := 0) C dX0_settle_0 rfl rfl ?_
  refine x_dup C dX0_settle_1 rfl ?_
  refine x_getL C fkX_X0_29 (nlt rfl) rfl dX0_settle_2 ?_
  refine x_eqL (b := 0) d ?_
  refine x_aload_n (i := 0) C dX0_settle_5 rfl rfl ?_
  refine x_getL C fkX_X0_25 (nlt rfl) rfl dX0_settle_6 ?_
  refine x_eqL (b := 0) c ?_
  refine x_ldc2 C dX0_settle_9 cnX0_41 ?_
  refine x_lxor C dX0_settle_12 ?_
  refine x_genL (fun l1 el1 => ?_)
  refine x_land C dX0_settle_13 ?_
  refine x_eqL (b := 0) Int64.zero_and ?_
  refine x_putL C pkX_X0_29 (nlt rfl) rfl dX0_settle_14 ?_
  exact x_vret C hQ dX0_settle_17 (⟨rfl, hr, rfl, c, rfl⟩)
set_option maxHeartbeats 4000000 in
set_option maxRecDepth 100000 in
theorem n_read0 {D : va_G} {ad : Nat → Nat} {cA : Nat → ClassId} {X : XT} (hr : HRX X) (mz : ∀ i, X.1 3 i = 0) : MetX (wX D ad cA) yX6_read cX6_read 6 none 9 205 [.ref 21, .int (iI (0)), .ref 2, .int (iI (0))] X (fun r X' => r = none ∧ HRX X' ∧ (∀ i, X'.1 3 i = 0) ∧ X'.1 21 3 = 0) := by
  refine MetX.mk (own := RX6) (by decide +kernel) rfl (nle rfl) (fun E C hQ => ?_)
  refine Wx_lv (lv' := [(0, .ref 21), (1, .int (iI (0))), (2, .ref 2), (3, .int (iI (0)))]) rfl ?_
  refine x_aload_n (i := 0) C dX6_read_0 rfl rfl ?_
  refine x_aload_n (i := 2) C dX6_read_1 rfl rfl ?_
  refine x_putR C pkX_X6_25 (by first | exact Or.inl ⟨_, rfl⟩ | exact Or.inr ⟨_, rfl⟩) (nlt rfl) rfl dX6_read_2 ?_
  have hr := HRX_up (k := 21) (i := 5) (v := some 2) hr rfl
  refine x_aload_n (i := 0) C dX6_read_5 rfl rfl ?_
  refine x_iload_n (i := 3) C dX6_read_6 rfl rfl ?_
  refine x_aload_n (i := 2) C dX6_read_7 rfl rfl ?_
  refine x_alen (kd := 0) C (nlt rfl) rfl (by decide) dX6_read_8 ?_
  refine x_eq (b := 600) rfl ?_
  refine x_mmin C ⟨by omega, by omega⟩ ⟨by omega, by omega⟩ (lw_gi 575 (by decide +kernel) rfl : Cond.methodLink RX6 29 Lib.Math.min.name ∈ lw_g) (lw_gi 576 (by decide +kernel) rfl : Cond.static Lib.Math.min.name ∈ lw_g) (lw_gi 129 (by decide +kernel) rfl : Cond.initialized "java/lang/Math" ∈ lw_g) (lw_gi 577 (by decide +kernel) rfl : Cond.code Lib.Math.min.name Lib.Math.min.code 2 (some .int) ∈ lw_g) (nle rfl) (nle rfl) dX6_read_9 (fun v1 h2 => ?_)
  obtain rfl : v1 = 0 := by omega
  refine x_putI C pkX_X6_35 (nlt rfl) rfl dX6_read_12 ?_
  refine x_aload_n (i := 0) C dX6_read_15 rfl rfl ?_
  refine x_iconst C dX6_read_16 ?_
  refine x_putI C pkX_X6_39 (nlt rfl) rfl dX6_read_17 ?_
  refine x_aload_n (i := 0) C dX6_read_20 rfl rfl ?_
  refine x_iconst C dX6_read_21 ?_
  refine x_putI C pkX_X6_42 (nlt rfl) rfl dX6_read_22 ?_
  refine x_aload_n (i := 0) C dX6_read_25 rfl rfl ?_
  refine x_iconst C dX6_read_26 ?_
  refine x_putI C pkX_X6_45 (nlt rfl) rfl dX6_read_27 ?_
  refine x_aload_n (i := 0) C dX6_read_30 rfl rfl ?_
  refine x_getRs (r := 22) C fkX_X6_12 (nlt rfl) rfl (hr 21 0 rfl) dX6_read_31 ?_
  refine x_callV (As := []) C (by exact (n_clear (by exact hr))) ckX6_48 im_X0_clear se_X0_clear (nlt rfl) rfl rfl rfl rfl (nle rfl) (by exact ⟨nle rfl, nle rfl⟩) dX6_read_34 ?_
  rintro _ Xk3 ⟨rfl, hr, k3m, k3a, k3b, k3c, k3d, k3e⟩
  have mz := fun i => (k3m 3 rfl i).trans (mz i)
  refine Wx_st (st' := []) rfl ?_
  refine x_aload_n (i := 0) C dX6_read_37 rfl rfl ?_
  refine x_getRs (r := 25) C fkX_X6_21 (nlt rfl) rfl (hr 21 1 rfl) dX6_read_38 ?_
  refine x_iconst C dX6_read_41 ?_
  refine x_putI C pkX_X6_51 (nlt rfl) rfl dX6_read_42 ?_
  refine x_aload_n (i := 0) C dX6_read_45 rfl rfl ?_
  refine x_callV (As := []) C (by exact (n_advance (by exact hr) (k3m 21 rfl _) (k3m 21 rfl _))) ckX6_54 im_X6_advance se_X6_advance (nlt rfl) rfl rfl rfl rfl (nle rfl) (by exact ⟨nle rfl, nle rfl⟩) dX6_read_46 ?_
  rintro _ Xk4 ⟨rfl, hr, k4m, k4a, k4b, k4c, k4d, k4e⟩
  have mz := fun i => (k4m 3 rfl i).trans (mz i)
  refine Wx_st (st' := []) rfl ?_
  refine x_iload_n (i := 1) C dX6_read_49 rfl rfl ?_
  refine x_iconst C dX6_read_50 ?_
  refine x_icmp_ne (tgt := 69) C dX6_read_51 (by decide) ⟨by omega, by omega⟩ ⟨by omega, by omega⟩ (fun h5 => ?_) (fun h5 => by exfalso; omega)
  refine x_iconst C dX6_read_69 ?_
  refine x_goto (tgt := 74) C dX6_read_70 (by decide) ?_
  refine x_istore (lv' := [(4, .int (iI (1))), (0, .ref 21), (1, .int (iI (0))), (2, .ref 2), (3, .int (iI (0)))]) C dX6_read_74 (nlt rfl) rfl ?_
  refine x_iconst C dX6_read_76 ?_
  refine x_istore (lv' := [(5, .int (iI (0))), (4, .int (iI (1))), (0, .ref 21), (1, .int (iI (0))), (2, .ref 2), (3, .int (iI (0)))]) C dX6_read_77 (nlt rfl) rfl ?_
  refine x_iload C dX6_read_79 rfl ?_
  refine x_sipush C dX6_read_81 (by decide) ?_
  refine x_icmp_ge (tgt := 123) C dX6_read_84 (by decide) ⟨by omega, by omega⟩ ⟨by omega, by omega⟩ (fun h6 => by exfalso; omega) (fun h6 => ?_)
  refine x_iload C dX6_read_87 rfl ?_
  refine x_if_eq (tgt := 123) C dX6_read_89 (by decide) ⟨by omega, by omega⟩ (fun h7 => by exfalso; omega) (fun h7 => ?_)
  refine x_aload_n (i := 0) C dX6_read_92 rfl rfl ?_
  refine x_getI C fkX_X6_61 (nlt rfl) rfl dX6_read_93 ?_
  refine x_eq (b := 5) k4a ?_
  refine x_iconst C dX6_read_96 ?_
  refine x_icmp_eq (tgt := 123) C dX6_read_97 (by decide) ⟨by omega, by omega⟩ ⟨by omega, by omega⟩ (fun h8 => ?_) (fun h8 => by exfalso; omega)
  refine x_aload_n (i := 0) C dX6_read_123 rfl rfl ?_
  refine x_getRs (r := 22) C fkX_X6_12 (nlt rfl) rfl (hr 21 0 rfl) dX6_read_124 ?_
  refine x_callV (As := []) C (by exact (n_settle (by exact hr) ((congrFun (congrFun k4e 22) 2).trans k3c) ((congrFun (congrFun k4e 22) 3).trans k3d))) ckX6_70 im_X0_settle se_X0_settle (nlt rfl) rfl rfl rfl rfl (nle rfl) (by exact ⟨nle rfl, nle rfl⟩) dX6_read_127 ?_
  rintro _ Xk9 ⟨rfl, hr, k9a, k9b, k9c⟩
  have mz := fun i => (congrFun (congrFun k9a 3) i).trans (mz i)
  refine Wx_st (st' := []) rfl ?_
  refine x_iload C dX6_read_130 rfl ?_
  refine x_if_ne (tgt := 151) C dX6_read_132 (by decide) ⟨by omega, by omega⟩ (fun h10 => ?_) (fun h10 => by exfalso; omega)
  refine x_aload_n (i := 0) C dX6_read_151 rfl rfl ?_
  refine x_getI C fkX_X6_42 (nlt rfl) rfl dX6_read_152 ?_
  refine x_eq (b := 0) ((congrFun (congrFun k9a 21) 3).trans (k4d.trans (k3m 21 rfl _))) ?_
  refine x_if_ne (tgt := 181) C dX6_read_155 (by decide) ⟨by omega, by omega⟩ (fun h11 => by exfalso; omega) (fun h11 => ?_)
  refine x_iload_n (i := 1) C dX6_read_158 rfl rfl ?_
  refine x_if_ne (tgt := 181) C dX6_read_159 (by decide) ⟨by omega, by omega⟩ (fun h12 => by exfalso; omega) (fun h12 => ?_)
  refine x_aload_n (i := 0) C dX6_read_162 rfl rfl ?_
  refine x_getRs (r := 22) C fkX_X6_12 (nlt rfl) rfl (hr 21 0 rfl) dX6_read_163 ?_
  refine x_callV (As := []) C (by exact (n_isSound (by exact hr) ((congrFun (congrFun k9a 22) 0).trans ((k4m 22 rfl _).trans k3a)) ((congrFun (congrFun k9a 22) 1).trans ((k4m 22 rfl _).trans k3b)) k9b k9c ((congrFun (congrFun k9a 22) 4).trans ((k4m 22 rfl _).trans k3e)))) ckX6_76 im_X0_isSound se_X0_isSound (nlt rfl) rfl rfl rfl rfl (nle rfl) (by exact ⟨nle rfl, nle rfl⟩) dX6_read_166 ?_
  rintro _ _ ⟨rfl, rfl⟩
  refine Wx_st (st' := [.int (iI (1))]) rfl ?_
  refine x_if_ne (tgt := 181) C dX6_read_169 (by decide) ⟨by omega, by omega⟩ (fun h13 => ?_) (fun h13 => by exfalso; omega)
  exact x_vret C hQ dX6_read_181 (⟨rfl, hr, mz, ((congrFun (congrFun k9a 21) 3).trans (k4d.trans (k3m 21 rfl _)))⟩)
set_option maxHeartbeats 4000000 in
set_option maxRecDepth 100000 in
theorem n_read1 {D : va_G} {ad : Nat → Nat} {cA : Nat → ClassId} {X : XT} (hr : HRX X) (mz : ∀ i, X.1 3 i = 0) : MetX (wX D ad cA) yX6_read cX6_read 6 none 9 205 [.ref 21, .int (iI (1)), .ref 2, .int (iI (0))] X (fun r X' => r = none ∧ HRX X' ∧ (∀ i, X'.1 3 i = 0) ∧ X'.1 21 3 = 1) := by
  refine MetX.mk (own := RX6) (by decide +kernel) rfl (nle rfl) (fun E C hQ => ?_)
  refine Wx_lv (lv' := [(0, .ref 21), (1, .int (iI (1))), (2, .ref 2), (3, .int (iI (0)))]) rfl ?_
  refine x_aload_n (i := 0) C dX6_read_0 rfl rfl ?_
  refine x_aload_n (i := 2) C dX6_read_1 rfl rfl ?_
  refine x_putR C pkX_X6_25 (by first | exact Or.inl ⟨_, rfl⟩ | exact Or.inr ⟨_, rfl⟩) (nlt rfl) rfl dX6_read_2 ?_
  have hr := HRX_up (k := 21) (i := 5) (v := some 2) hr rfl
  refine x_aload_n (i := 0) C dX6_read_5 rfl rfl ?_
  refine x_iload_n (i := 3) C dX6_read_6 rfl rfl ?_
  refine x_aload_n (i := 2) C dX6_read_7 rfl rfl ?_
  refine x_alen (kd := 0) C (nlt rfl) rfl (by decide) dX6_read_8 ?_
  refine x_eq (b := 600) rfl ?_
  refine x_mmin C ⟨by omega, by omega⟩ ⟨by omega, by omega⟩ (lw_gi 575 (by decide +kernel) rfl : Cond.methodLink RX6 29 Lib.Math.min.name ∈ lw_g) (lw_gi 576 (by decide +kernel) rfl : Cond.static Lib.Math.min.name ∈ lw_g) (lw_gi 129 (by decide +kernel) rfl : Cond.initialized "java/lang/Math" ∈ lw_g) (lw_gi 577 (by decide +kernel) rfl : Cond.code Lib.Math.min.name Lib.Math.min.code 2 (some .int) ∈ lw_g) (nle rfl) (nle rfl) dX6_read_9 (fun v1 h2 => ?_)
  obtain rfl : v1 = 0 := by omega
  refine x_putI C pkX_X6_35 (nlt rfl) rfl dX6_read_12 ?_
  refine x_aload_n (i := 0) C dX6_read_15 rfl rfl ?_
  refine x_iconst C dX6_read_16 ?_
  refine x_putI C pkX_X6_39 (nlt rfl) rfl dX6_read_17 ?_
  refine x_aload_n (i := 0) C dX6_read_20 rfl rfl ?_
  refine x_iconst C dX6_read_21 ?_
  refine x_putI C pkX_X6_42 (nlt rfl) rfl dX6_read_22 ?_
  refine x_aload_n (i := 0) C dX6_read_25 rfl rfl ?_
  refine x_iconst C dX6_read_26 ?_
  refine x_putI C pkX_X6_45 (nlt rfl) rfl dX6_read_27 ?_
  refine x_aload_n (i := 0) C dX6_read_30 rfl rfl ?_
  refine x_getRs (r := 22) C fkX_X6_12 (nlt rfl) rfl (hr 21 0 rfl) dX6_read_31 ?_
  refine x_callV (As := []) C (by exact (n_clear (by exact hr))) ckX6_48 im_X0_clear se_X0_clear (nlt rfl) rfl rfl rfl rfl (nle rfl) (by exact ⟨nle rfl, nle rfl⟩) dX6_read_34 ?_
  rintro _ Xk3 ⟨rfl, hr, k3m, k3a, k3b, k3c, k3d, k3e⟩
  have mz := fun i => (k3m 3 rfl i).trans (mz i)
  refine Wx_st (st' := []) rfl ?_
  refine x_aload_n (i := 0) C dX6_read_37 rfl rfl ?_
  refine x_getRs (r := 25) C fkX_X6_21 (nlt rfl) rfl (hr 21 1 rfl) dX6_read_38 ?_
  refine x_iconst C dX6_read_41 ?_
  refine x_putI C pkX_X6_51 (nlt rfl) rfl dX6_read_42 ?_
  refine x_aload_n (i := 0) C dX6_read_45 rfl rfl ?_
  refine x_callV (As := []) C (by exact (n_advance (by exact hr) (k3m 21 rfl _) (k3m 21 rfl _))) ckX6_54 im_X6_advance se_X6_advance (nlt rfl) rfl rfl rfl rfl (nle rfl) (by exact ⟨nle rfl, nle rfl⟩) dX6_read_46 ?_
  rintro _ Xk4 ⟨rfl, hr, k4m, k4a, k4b, k4c, k4d, k4e⟩
  have mz := fun i => (k4m 3 rfl i).trans (mz i)
  refine Wx_st (st' := []) rfl ?_
  refine x_iload_n (i := 1) C dX6_read_49 rfl rfl ?_
  refine x_iconst C dX6_read_50 ?_
  refine x_icmp_ne (tgt := 69) C dX6_read_51 (by decide) ⟨by omega, by omega⟩ ⟨by omega, by omega⟩ (fun h5 => by exfalso; omega) (fun h5 => ?_)
  refine x_aload_n (i := 0) C dX6_read_54 rfl rfl ?_
  refine x_callV (As := []) C (by exact (n_takeRule (by exact hr) k4a)) ckX6_57 im_X6_takeRule se_X6_takeRule (nlt rfl) rfl rfl rfl rfl (nle rfl) (by exact ⟨nle rfl, nle rfl⟩) dX6_read_55 ?_
  rintro _ _ ⟨rfl, rfl⟩
  refine Wx_st (st' := [.int (iI (0))]) rfl ?_
  refine x_if_eq (tgt := 73) C dX6_read_58 (by decide) ⟨by omega, by omega⟩ (fun h6 => ?_) (fun h6 => by exfalso; omega)
  refine x_iconst C dX6_read_73 ?_
  refine x_istore (lv' := [(4, .int (iI (0))), (0, .ref 21), (1, .int (iI (1))), (2, .ref 2), (3, .int (iI (0)))]) C dX6_read_74 (nlt rfl) rfl ?_
  refine x_iconst C dX6_read_76 ?_
  refine x_istore (lv' := [(5, .int (iI (0))), (4, .int (iI (0))), (0, .ref 21), (1, .int (iI (1))), (2, .ref 2), (3, .int (iI (0)))]) C dX6_read_77 (nlt rfl) rfl ?_
  refine x_iload C dX6_read_79 rfl ?_
  refine x_sipush C dX6_read_81 (by decide) ?_
  refine x_icmp_ge (tgt := 123) C dX6_read_84 (by decide) ⟨by omega, by omega⟩ ⟨by omega, by omega⟩ (fun h7 => by exfalso; omega) (fun h7 => ?_)
  refine x_iload C dX6_read_87 rfl ?_
  refine x_if_eq (tgt := 123) C dX6_read_89 (by decide) ⟨by omega, by omega⟩ (fun h8 => ?_) (fun h8 => by exfalso; omega)
  refine x_aload_n (i := 0) C dX6_read_123 rfl rfl ?_
  refine x_getRs (r := 22) C fkX_X6_12 (nlt rfl) rfl (hr 21 0 rfl) dX6_read_124 ?_
  refine x_callV (As := []) C (by exact (n_settle (by exact hr) ((congrFun (congrFun k4e 22) 2).trans k3c) ((congrFun (congrFun k4e 22) 3).trans k3d))) ckX6_70 im_X0_settle se_X0_settle (nlt rfl) rfl rfl rfl rfl (nle rfl) (by exact ⟨nle rfl, nle rfl⟩) dX6_read_127 ?_
  rintro _ Xk9 ⟨rfl, hr, k9a, k9b, k9c⟩
  have mz := fun i => (congrFun (congrFun k9a 3) i).trans (mz i)
  refine Wx_st (st' := []) rfl ?_
  refine x_iload C dX6_read_130 rfl ?_
  refine x_if_ne (tgt := 151) C dX6_read_132 (by decide) ⟨by omega, by omega⟩ (fun h10 => by exfalso; omega) (fun h10 => ?_)
  refine x_aload_n (i := 0) C dX6_read_135 rfl rfl ?_
  refine x_iconst C dX6_read_136 ?_
  refine x_putI C pkX_X6_42 (nlt rfl) rfl dX6_read_137 ?_
  refine x_aload_n (i := 0) C dX6_read_140 rfl rfl ?_
  refine x_aload_n (i := 0) C dX6_read_141 rfl rfl ?_
  refine x_getI C fkX_X6_73 (nlt rfl) rfl dX6_read_142 ?_
  refine x_eq (b := 0) ((congrFun (congrFun k9a 21) 8).trans k4b) ?_
  refine x_putI C pkX_X6_45 (nlt rfl) rfl dX6_read_145 ?_
  refine x_goto (tgt := 181) C dX6_read_148 (by decide) ?_
  exact x_vret C hQ dX6_read_181 (⟨rfl, hr, mz, rfl⟩)
set_option maxHeartbeats 4000000 in
set_option maxRecDepth 100000 in
theorem n_read2 {D : va_G} {ad : Nat → Nat} {cA : Nat → ClassId} {X : XT} (hr : HRX X) (mz : ∀ i, X.1 3 i = 0) : MetX (wX D ad cA) yX6_read cX6_read 6 none 9 205 [.ref 21, .int (iI (2)), .ref 2, .int (iI (0))] X (fun r X' => r = none ∧ HRX X' ∧ (∀ i, X'.1 3 i = 0) ∧ X'.1 21 3 = 0) := by
  refine MetX.mk (own := RX6) (by decide +kernel) rfl (nle rfl) (fun E C hQ => ?_)
  refine Wx_lv (lv' := [(0, .ref 21), (1, .int (iI (2))), (2, .ref 2), (3, .int (iI (0)))]) rfl ?_
  refine x_aload_n (i := 0) C dX6_read_0 rfl rfl ?_
  refine x_aload_n (i := 2) C dX6_read_1 rfl rfl ?_
  refine x_putR C pkX_X6_25 (by first | exact Or.inl ⟨_, rfl⟩ | exact Or.inr ⟨_, rfl⟩) (nlt rfl) rfl dX6_read_2 ?_
  have hr := HRX_up (k := 21) (i := 5) (v := some 2) hr rfl
  refine x_aload_n (i := 0) C dX6_read_5 rfl rfl ?_
  refine x_iload_n (i := 3) C dX6_read_6 rfl rfl ?_
  refine x_aload_n (i := 2) C dX6_read_7 rfl rfl ?_
  refine x_alen (kd := 0) C (nlt rfl) rfl (by decide) dX6_read_8 ?_
  refine x_eq (b := 600) rfl ?_
  refine x_mmin C ⟨by omega, by omega⟩ ⟨by omega, by omega⟩ (lw_gi 575 (by decide +kernel) rfl : Cond.methodLink RX6 29 Lib.Math.min.name ∈ lw_g) (lw_gi 576 (by decide +kernel) rfl : Cond.static Lib.Math.min.name ∈ lw_g) (lw_gi 129 (by decide +kernel) rfl : Cond.initialized "java/lang/Math" ∈ lw_g) (lw_gi 577 (by decide +kernel) rfl : Cond.code Lib.Math.min.name Lib.Math.min.code 2 (some .int) ∈ lw_g) (nle rfl) (nle rfl) dX6_read_9 (fun v1 h2 => ?_)
  obtain rfl : v1 = 0 := by omega
  refine x_putI C pkX_X6_35 (nlt rfl) rfl dX6_read_12 ?_
  refine x_aload_n (i := 0) C dX6_read_15 rfl rfl ?_
  refine x_iconst C dX6_read_16 ?_
  refine x_putI C pkX_X6_39 (nlt rfl) rfl dX6_read_17 ?_
  refine x_aload_n (i := 0) C dX6_read_20 rfl rfl ?_
  refine x_iconst C dX6_read_21 ?_
  refine x_putI C pkX_X6_42 (nlt rfl) rfl dX6_read_22 ?_
  refine x_aload_n (i := 0) C dX6_read_25 rfl rfl ?_
  refine x_iconst C dX6_read_26 ?_
  refine x_putI C pkX_X6_45 (nlt rfl) rfl dX6_read_27 ?_
  refine x_aload_n (i := 0) C dX6_read_30 rfl rfl ?_
  refine x_getRs (r := 22) C fkX_X6_12 (nlt rfl) rfl (hr 21 0 rfl) dX6_read_31 ?_
  refine x_callV (As := []) C (by exact (n_clear (by exact hr))) ckX6_48 im_X0_clear se_X0_clear (nlt rfl) rfl rfl rfl rfl (nle rfl) (by exact ⟨nle rfl, nle rfl⟩) dX6_read_34 ?_
  rintro _ Xk3 ⟨rfl, hr, k3m, k3a, k3b, k3c, k3d, k3e⟩
  have mz := fun i => (k3m 3 rfl i).trans (mz i)
  refine Wx_st (st' := []) rfl ?_
  refine x_aload_n (i := 0) C dX6_read_37 rfl rfl ?_
  refine x_getRs (r := 25) C fkX_X6_21 (nlt rfl) rfl (hr 21 1 rfl) dX6_read_38 ?_
  refine x_iconst C dX6_read_41 ?_
  refine x_putI C pkX_X6_51 (nlt rfl) rfl dX6_read_42 ?_
  refine x_aload_n (i := 0) C dX6_read_45 rfl rfl ?_
  refine x_callV (As := []) C (by exact (n_advance (by exact hr) (k3m 21 rfl _) (k3m 21 rfl _))) ckX6_54 im_X6_advance se_X6_advance (nlt rfl) rfl rfl rfl rfl (nle rfl) (by exact ⟨nle rfl, nle rfl⟩) dX6_read_46 ?_
  rintro _ Xk4 ⟨rfl, hr, k4m, k4a, k4b, k4c, k4d, k4e⟩
  have mz := fun i => (k4m 3 rfl i).trans (mz i)
  refine Wx_st (st' := []) rfl ?_
  refine x_iload_n (i := 1) C dX6_read_49 rfl rfl ?_
  refine x_iconst C dX6_read_50 ?_
  refine x_icmp_ne (tgt := 69) C dX6_read_51 (by decide) ⟨by omega, by omega⟩ ⟨by omega, by omega⟩ (fun h5 => ?_) (fun h5 => by exfalso; omega)
  refine x_iconst C dX6_read_69 ?_
  refine x_goto (tgt := 74) C dX6_read_70 (by decide) ?_
  refine x_istore (lv' := [(4, .int (iI (1))), (0, .ref 21), (1, .int (iI (2))), (2, .ref 2), (3, .int (iI (0)))]) C dX6_read_74 (nlt rfl) rfl ?_
  refine x_iconst C dX6_read_76 ?_
  refine x_istore (lv' := [(5, .int (iI (0))), (4, .int (iI (1))), (0, .ref 21), (1, .int (iI (2))), (2, .ref 2), (3, .int (iI (0)))]) C dX6_read_77 (nlt rfl) rfl ?_
  refine x_iload C dX6_read_79 rfl ?_
  refine x_sipush C dX6_read_81 (by decide) ?_
  refine x_icmp_ge (tgt := 123) C dX6_read_84 (by decide) ⟨by omega, by omega⟩ ⟨by omega, by omega⟩ (fun h6 => by exfalso; omega) (fun h6 => ?_)
  refine x_iload C dX6_read_87 rfl ?_
  refine x_if_eq (tgt := 123) C dX6_read_89 (by decide) ⟨by omega, by omega⟩ (fun h7 => by exfalso; omega) (fun h7 => ?_)
  refine x_aload_n (i := 0) C dX6_read_92 rfl rfl ?_
  refine x_getI C fkX_X6_61 (nlt rfl) rfl dX6_read_93 ?_
  refine x_eq (b := 5) k4a ?_
  refine x_iconst C dX6_read_96 ?_
  refine x_icmp_eq (tgt := 123) C dX6_read_97 (by decide) ⟨by omega, by omega⟩ ⟨by omega, by omega⟩ (fun h8 => ?_) (fun h8 => by exfalso; omega)
  refine x_aload_n (i := 0) C dX6_read_123 rfl rfl ?_
  refine x_getRs (r := 22) C fkX_X6_12 (nlt rfl) rfl (hr 21 0 rfl) dX6_read_124 ?_
  refine x_callV (As := []) C (by exact (n_settle (by exact hr) ((congrFun (congrFun k4e 22) 2).trans k3c) ((congrFun (congrFun k4e 22) 3).trans k3d))) ckX6_70 im_X0_settle se_X0_settle (nlt rfl) rfl rfl rfl rfl (nle rfl) (by exact ⟨nle rfl, nle rfl⟩) dX6_read_127 ?_
  rintro _ Xk9 ⟨rfl, hr, k9a, k9b, k9c⟩
  have mz := fun i => (congrFun (congrFun k9a 3) i).trans (mz i)
  refine Wx_st (st' := []) rfl ?_
  refine x_iload C dX6_read_130 rfl ?_
  refine x_if_ne (tgt := 151) C dX6_read_132 (by decide) ⟨by omega, by omega⟩ (fun h10 => ?_) (fun h10 => by exfalso; omega)
  refine x_aload_n (i := 0) C dX6_read_151 rfl rfl ?_
  refine x_getI C fkX_X6_42 (nlt rfl) rfl dX6_read_152 ?_
  refine x_eq (b := 0) ((congrFun (congrFun k9a 21) 3).trans (k4d.trans (k3m 21 rfl _))) ?_
  refine x_if_ne (tgt := 181) C dX6_read_155 (by decide) ⟨by omega, by omega⟩ (fun h11 => by exfalso; omega) (fun h11 => ?_)
  refine x_iload_n (i := 1) C dX6_read_158 rfl rfl ?_
  refine x_if_ne (tgt := 181) C dX6_read_159 (by decide) ⟨by omega, by omega⟩ (fun h12 => ?_) (fun h12 => by exfalso; omega)
  exact x_vret C hQ dX6_read_181 (⟨rfl, hr, mz, ((congrFun (congrFun k9a 21) 3).trans (k4d.trans (k3m 21 rfl _)))⟩)
set_option maxHeartbeats 4000000 in
set_option maxRecDepth 100000 in
theorem n_bcopy_7_22 {D : va_G} {ad : Nat → Nat} {cA : Nat → ClassId} {X : XT} (hr : HRX X) : MetX (wX D ad cA) yX0_copy cX0_copy 2 none 1 60 [.ref 7, .ref 22] X (fun r X' => r = none ∧ HRX X' ∧ (∀ i, X'.1 3 i = X.1 3 i)) := by
  refine MetX.mk (own := RX0) (by decide +kernel) rfl (nle rfl) (fun E C hQ => ?_)
  refine Wx_lv (lv' := [(0, .ref 7), (1, .ref 22)]) rfl ?_
  refine x_aload_n (i := 0) C dX0_copy_0 rfl rfl ?_
  refine x_aload_n (i := 1) C dX0_copy_1 rfl rfl ?_
  refine x_getI C fkX_X0_18 (nlt rfl) rfl dX0_copy_2 ?_
  refine x_gen (fun v1 ev1 => ?_)
  refine x_putI C pkX_X0_18 (nlt rfl) rfl dX0_copy_5 ?_
  refine x_aload_n (i := 0) C dX0_copy_8 rfl rfl ?_
  refine x_aload_n (i := 1) C dX0_copy_9 rfl rfl ?_
  refine x_getI C fkX_X0_22 (nlt rfl) rfl dX0_copy_10 ?_
  refine x_gen (fun v2 ev2 => ?_)
  refine x_putI C pkX_X0_22 (nlt rfl) rfl dX0_copy_13 ?_
  refine x_aload_n (i := 0) C dX0_copy_16 rfl rfl ?_
  refine x_aload_n (i := 1) C dX0_copy_17 rfl rfl ?_
  refine x_getL C fkX_X0_25 (nlt rfl) rfl dX0_copy_18 ?_
  refine x_genL (fun l3 el3 => ?_)
  refine x_putL C pkX_X0_25 (nlt rfl) rfl dX0_copy_21 ?_
  refine x_aload_n (i := 0) C dX0_copy_24 rfl rfl ?_
  refine x_aload_n (i := 1) C dX0_copy_25 rfl rfl ?_
  refine x_getL C fkX_X0_29 (nlt rfl) rfl dX0_copy_26 ?_
  refine x_genL (fun l4 el4 => ?_)
  refine x_putL C pkX_X0_29 (nlt rfl) rfl dX0_copy_29 ?_
  refine x_aload_n (i := 0) C dX0_copy_32 rfl rfl ?_
  refine x_aload_n (i := 1) C dX0_copy_33 rfl rfl ?_
  refine x_getI C fkX_X0_32 (nlt rfl) rfl dX0_copy_34 ?_
  refine x_gen (fun v5 ev5 => ?_)
  refine x_putI C pkX_X0_32 (nlt rfl) rfl dX0_copy_37 ?_
  refine x_aload_n (i := 1) C dX0_copy_40 rfl rfl ?_
  refine x_getRs (r := 23) C fkX_X0_9 (nlt rfl) rfl (hr 22 5 rfl) dX0_copy_41 ?_
  refine x_iconst C dX0_copy_44 ?_
  refine x_aload_n (i := 0) C dX0_copy_45 rfl rfl ?_
  refine x_getRs (r := 8) C fkX_X0_9 (nlt rfl) rfl (hr 7 5 rfl) dX0_copy_46 ?_
  refine x_iconst C dX0_copy_49 ?_
  refine x_bipush C dX0_copy_50 (by decide) ?_
  refine x_cpyI C cpX0_35 (nlt rfl) rfl rfl (nlt rfl) rfl rfl rfl (by omega) (by omega) (by omega) (by omega) (by omega) (nle rfl) (nle rfl) (nle rfl) (nle rfl) dX0_copy_52 ?_
  refine x_aload_n (i := 1) C dX0_copy_55 rfl rfl ?_
  refine x_getRs (r := 24) C fkX_X0_15 (nlt rfl) rfl (hr 22 6 rfl) dX0_copy_56 ?_
  refine x_iconst C dX0_copy_59 ?_
  refine x_aload_n (i := 0) C dX0_copy_60 rfl rfl ?_
  refine x_getRs (r := 9) C fkX_X0_15 (nlt rfl) rfl (hr 7 6 rfl) dX0_copy_61 ?_
  refine x_iconst C dX0_copy_64 ?_
  refine x_bipush C dX0_copy_65 (by decide) ?_
  refine x_cpyI C cpX0_35 (nlt rfl) rfl rfl (nlt rfl) rfl rfl rfl (by omega) (by omega) (by omega) (by omega) (by omega) (nle rfl) (nle rfl) (nle rfl) (nle rfl) dX0_copy_67 ?_
  exact x_vret C hQ dX0_copy_70 (⟨rfl, hr, fun _ => rfl⟩)
set_option maxHeartbeats 4000000 in
set_option maxRecDepth 100000 in
theorem n_take0 {D : va_G} {ad : Nat → Nat} {cA : Nat → ClassId} {X : XT} (hr : HRX X) (mz : ∀ i, X.1 3 i = 0) : MetX (wX D ad cA) yX8_take cX8_take 5 (some .int) 2 81 [.ref 1, .ref 21, .int (iI (0)), .int (iI ((-1)))] X (fun r X' => r = some (.int (iI 0)) ∧ HRX X') := by
  refine MetX.mk (own := RX8) (by decide +kernel) rfl (nle rfl) (fun E C hQ => ?_)
  refine Wx_lv (lv' := [(0, .ref 1), (1, .ref 21), (2, .int (iI (0))), (3, .int (iI ((-1))))]) rfl ?_
  refine x_iload_n (i := 3) C dX8_take_0 rfl rfl ?_
  refine x_iconst C dX8_take_1 ?_
  refine x_icmp_ne (tgt := 14) C dX8_take_2 (by decide) ⟨by omega, by omega⟩ ⟨by omega, by omega⟩ (fun h1 => by exfalso; omega) (fun h1 => ?_)
  refine x_aload_n (i := 0) C dX8_take_5 rfl rfl ?_
  refine x_getRs (r := 3) C fkX_X8_19 (nlt rfl) rfl (hr 1 4 rfl) dX8_take_6 ?_
  refine x_iload_n (i := 2) C dX8_take_9 rfl rfl ?_
  refine x_iald C (nlt rfl) rfl rfl (nle rfl) (by omega) (by omega) dX8_take_10 ?_
  refine x_eq (b := 0) (mz _) ?_
  refine x_goto (tgt := 15) C dX8_take_11 (by decide) ?_
  refine x_istore (lv' := [(4, .int (iI (0))), (0, .ref 1), (1, .ref 21), (2, .int (iI (0))), (3, .int (iI ((-1))))]) C dX8_take_15 (nlt rfl) rfl ?_
  refine x_iload_n (i := 2) C dX8_take_17 rfl rfl ?_
  refine x_if_ne (tgt := 38) C dX8_take_18 (by decide) ⟨by omega, by omega⟩ (fun h2 => by exfalso; omega) (fun h2 => ?_)
  refine x_aload_n (i := 0) C dX8_take_21 rfl rfl ?_
  refine x_getRs (r := 4) C fkX_X8_24 (nlt rfl) rfl (hr 1 5 rfl) dX8_take_22 ?_
  refine x_iload C dX8_take_25 rfl ?_
  refine x_aald (r := some 7) C (nlt rfl) rfl rfl (nle rfl) (by omega) (by omega) (hr 4 0 rfl) dX8_take_27 ?_
  refine x_aload_n (i := 1) C dX8_take_28 rfl rfl ?_
  refine x_getRs (r := 22) C fkX_X8_59 (nlt rfl) rfl (hr 21 0 rfl) dX8_take_29 ?_
  refine x_callV (As := [.ref 22]) C (by exact (n_bcopy_7_22 (by exact hr))) ckX8_52 im_X0_copy se_X0_copy (nlt rfl) rfl rfl rfl rfl (nle rfl) (by exact ⟨nle rfl, nle rfl⟩) dX8_take_32 ?_
  rintro _ Xk3 ⟨rfl, hr, k3m⟩
  have mz := fun i => (k3m i).trans (mz i)
  refine Wx_st (st' := []) rfl ?_
  refine x_goto (tgt := 71) C dX8_take_35 (by decide) ?_
  refine x_aload_n (i := 0) C dX8_take_71 rfl rfl ?_
  refine x_getRs (r := 3) C fkX_X8_19 (nlt rfl) rfl (hr 1 4 rfl) dX8_take_72 ?_
  refine x_iload_n (i := 2) C dX8_take_75 rfl rfl ?_
  refine x_aload_n (i := 0) C dX8_take_76 rfl rfl ?_
  refine x_getRs (r := 3) C fkX_X8_19 (nlt rfl) rfl (hr 1 4 rfl) dX8_take_77 ?_
  refine x_iload_n (i := 2) C dX8_take_80 rfl rfl ?_
  refine x_iald C (nlt rfl) rfl rfl (nle rfl) (by omega) (by omega) dX8_take_81 ?_
  refine x_eq (b := 0) (mz _) ?_
  refine x_iload C dX8_take_82 rfl ?_
  refine x_iconst C dX8_take_84 ?_
  refine x_iadd C dX8_take_85 ?_
  refine x_eq (b := 1) rfl ?_
  refine x_mmax C ⟨by omega, by omega⟩ ⟨by omega, by omega⟩ (lw_gi 785 (by decide +kernel) rfl : Cond.methodLink RX8 73 Lib.Math.max.name ∈ lw_g) (lw_gi 623 (by decide +kernel) rfl : Cond.static Lib.Math.max.name ∈ lw_g) (lw_gi 129 (by decide +kernel) rfl : Cond.initialized "java/lang/Math" ∈ lw_g) (lw_gi 624 (by decide +kernel) rfl : Cond.code Lib.Math.max.name Lib.Math.max.code 2 (some .int) ∈ lw_g) (nle rfl) (nle rfl) dX8_take_86 (fun v4 h5 => ?_)
  obtain rfl : v4 = 1 := by omega
  refine x_iast C (nlt rfl) rfl rfl (nle rfl) (by omega) (by omega) dX8_take_89 ?_
  refine x_iload C dX8_take_90 rfl ?_
  exact x_iret C hQ dX8_take_92 (⟨rfl, hr⟩)
set_option maxHeartbeats 4000000 in
set_option maxRecDepth 100000 in
theorem n_gcopy_13_25 {D : va_G} {ad : Nat → Nat} {cA : Nat → ClassId} {X : XT} (hr : HRX X) : MetX (wX D ad cA) yX2_copy cX2_copy 2 none 1 60 [.ref 13, .ref 25] X (fun r X' => r = none ∧ HRX X' ∧ (∀ i, X'.1 3 i = X.1 3 i)) := by
  refine MetX.mk (own := RX2) (by decide +kernel) rfl (nle rfl) (fun E C hQ => ?_)
  refine Wx_lv (lv' := [(0, .ref 13), (1, .ref 25)]) rfl ?_
  refine x_aload_n (i := 0) C dX2_copy_0 rfl rfl ?_
  refine x_aload_n (i := 1) C dX2_copy_1 rfl rfl ?_
  refine x_getI C fkX_X2_19 (nlt rfl) rfl dX2_copy_2 ?_
  refine x_gen (fun v1 ev1 => ?_)
  refine x_putI C pkX_X2_19 (nlt rfl) rfl dX2_copy_5 ?_
  refine x_aload_n (i := 1) C dX2_copy_8 rfl rfl ?_
  refine x_getRs (r := 26) C fkX_X2_9 (nlt rfl) rfl (hr 25 1 rfl) dX2_copy_9 ?_
  refine x_iconst C dX2_copy_12 ?_
  refine x_aload_n (i := 0) C dX2_copy_13 rfl rfl ?_
  refine x_getRs (r := 14) C fkX_X2_9 (nlt rfl) rfl (hr 13 1 rfl) dX2_copy_14 ?_
  refine x_iconst C dX2_copy_17 ?_
  refine x_bipush C dX2_copy_18 (by decide) ?_
  refine x_cpyL C cpX2_23 (nlt rfl) rfl rfl (nlt rfl) rfl rfl (by omega) (by omega) (by omega) (by omega) (by omega) (nle rfl) (nle rfl) (nle rfl) (nle rfl) dX2_copy_20 ?_
  refine x_aload_n (i := 1) C dX2_copy_23 rfl rfl ?_
  refine x_getRs (r := 27) C fkX_X2_15 (nlt rfl) rfl (hr 25 2 rfl) dX2_copy_24 ?_
  refine x_iconst C dX2_copy_27 ?_
  refine x_aload_n (i := 0) C dX2_copy_28 rfl rfl ?_
  refine x_getRs (r := 15) C fkX_X2_15 (nlt rfl) rfl (hr 13 2 rfl) dX2_copy_29 ?_
  refine x_iconst C dX2_copy_32 ?_
  refine x_bipush C dX2_copy_33 (by decide) ?_
  refine x_cpyI C cpX2_23 (nlt rfl) rfl rfl (nlt rfl) rfl rfl rfl (by omega) (by omega) (by omega) (by omega) (by omega) (nle rfl) (nle rfl) (nle rfl) (nle rfl) dX2_copy_35 ?_
  exact x_vret C hQ dX2_copy_38 (⟨rfl, hr, fun _ => rfl⟩)
set_option maxHeartbeats 4000000 in
set_option maxRecDepth 100000 in
theorem n_take2 {D : va_G} {ad : Nat → Nat} {cA : Nat → ClassId} {X : XT} (hr : HRX X) (mz : ∀ i, X.1 3 i = 0) : MetX (wX D ad cA) yX8_take cX8_take 5 (some .int) 2 81 [.ref 1, .ref 21, .int (iI (2)), .int (iI ((-1)))] X (fun r X' => r = some (.int (iI 0)) ∧ HRX X') := by
  refine MetX.mk (own := RX8) (by decide +kernel) rfl (nle rfl) (fun E C hQ => ?_)
  refine Wx_lv (lv' := [(0, .ref 1), (1, .ref 21), (2, .int (iI (2))), (3, .int (iI ((-1))))]) rfl ?_
  refine x_iload_n (i := 3) C dX8_take_0 rfl rfl ?_
  refine x_iconst C dX8_take_1 ?_
  refine x_icmp_ne (tgt := 14) C dX8_take_2 (by decide) ⟨by omega, by omega⟩ ⟨by omega, by omega⟩ (fun h1 => by exfalso; omega) (fun h1 => ?_)
  refine x_aload_n (i := 0) C dX8_take_5 rfl rfl ?_
  refine x_getRs (r := 3) C fkX_X8_19 (nlt rfl) rfl (hr 1 4 rfl) dX8_take_6 ?_
  refine x_iload_n (i := 2) C dX8_take_9 rfl rfl ?_
  refine x_iald C (nlt rfl) rfl rfl (nle rfl) (by omega) (by omega) dX8_take_10 ?_
  refine x_eq (b := 0) (mz _) ?_
  refine x_goto (tgt := 15) C dX8_take_11 (by decide) ?_
  refine x_istore (lv' := [(4, .int (iI (0))), (0, .ref 1), (1, .ref 21), (2, .int (iI (2))), (3, .int (iI ((-1))))]) C dX8_take_15 (nlt rfl) rfl ?_
  refine x_iload_n (i := 2) C dX8_take_17 rfl rfl ?_
  refine x_if_ne (tgt := 38) C dX8_take_18 (by decide) ⟨by omega, by omega⟩ (fun h2 => ?_) (fun h2 => by exfalso; omega)
  refine x_iload_n (i := 2) C dX8_take_38 rfl rfl ?_
  refine x_iconst C dX8_take_39 ?_
  refine x_icmp_ne (tgt := 57) C dX8_take_40 (by decide) ⟨by omega, by omega⟩ ⟨by omega, by omega⟩ (fun h3 => ?_) (fun h3 => by exfalso; omega)
  refine x_aload_n (i := 0) C dX8_take_57 rfl rfl ?_
  refine x_getRs (r := 6) C fkX_X8_34 (nlt rfl) rfl (hr 1 7 rfl) dX8_take_58 ?_
  refine x_iload C dX8_take_61 rfl ?_
  refine x_aald (r := some 13) C (nlt rfl) rfl rfl (nle rfl) (by omega) (by omega) (hr 6 0 rfl) dX8_take_63 ?_
  refine x_aload_n (i := 1) C dX8_take_64 rfl rfl ?_
  refine x_getRs (r := 25) C fkX_X8_69 (nlt rfl) rfl (hr 21 1 rfl) dX8_take_65 ?_
  refine x_callV (As := [.ref 25]) C (by exact (n_gcopy_13_25 (by exact hr))) ckX8_56 im_X2_copy se_X2_copy (nlt rfl) rfl rfl rfl rfl (nle rfl) (by exact ⟨nle rfl, nle rfl⟩) dX8_take_68 ?_
  rintro _ Xk4 ⟨rfl, hr, k4m⟩
  have mz := fun i => (k4m i).trans (mz i)
  refine Wx_st (st' := []) rfl ?_
  refine x_aload_n (i := 0) C dX8_take_71 rfl rfl ?_
  refine x_getRs (r := 3) C fkX_X8_19 (nlt rfl) rfl (hr 1 4 rfl) dX8_take_72 ?_
  refine x_iload_n (i := 2) C dX8_take_75 rfl rfl ?_
  refine x_aload_n (i := 0) C dX8_take_76 rfl rfl ?_
  refine x_getRs (r := 3) C fkX_X8_19 (nlt rfl) rfl (hr 1 4 rfl) dX8_take_77 ?_
  refine x_iload_n (i := 2) C dX8_take_80 rfl rfl ?_
  refine x_iald C (nlt rfl) rfl rfl (nle rfl) (by omega) (by omega) dX8_take_81 ?_
  refine x_eq (b := 0) (mz _) ?_
  refine x_iload C dX8_take_82 rfl ?_
  refine x_iconst C dX8_take_84 ?_
  refine x_iadd C dX8_take_85 ?_
  refine x_eq (b := 1) rfl ?_
  refine x_mmax C ⟨by omega, by omega⟩ ⟨by omega, by omega⟩ (lw_gi 785 (by decide +kernel) rfl : Cond.methodLink RX8 73 Lib.Math.max.name ∈ lw_g) (lw_gi 623 (by decide +kernel) rfl : Cond.static Lib.Math.max.name ∈ lw_g) (lw_gi 129 (by decide +kernel) rfl : Cond.initialized "java/lang/Math" ∈ lw_g) (lw_gi 624 (by decide +kernel) rfl : Cond.code Lib.Math.max.name Lib.Math.max.code 2 (some .int) ∈ lw_g) (nle rfl) (nle rfl) dX8_take_86 (fun v5 h6 => ?_)
  obtain rfl : v5 = 1 := by omega
  refine x_iast C (nlt rfl) rfl rfl (nle rfl) (by omega) (by omega) dX8_take_89 ?_
  refine x_iload C dX8_take_90 rfl ?_
  exact x_iret C hQ dX8_take_92 (⟨rfl, hr⟩)
set_option maxHeartbeats 4000000 in
set_option maxRecDepth 100000 in
theorem x_text0 {D : va_G} {ad : Nat → Nat} {cA : Nat → ClassId} {p : Int} (hp : inR p) : MetX (wX D ad cA) yX11_text cX11_text 4 (some .int) 10 230 [.ref 0, .int (iI (0)), .int (iI (p))] x0X (fun r _ => r = some (.int (iI (if p = -1 then 0 else -2)))) := by
  have hr : HRX x0X := fun _ _ _ => rfl
  unfold inR at hp
  refine MetX.mk (own := RX11) (by decide +kernel) rfl (nle rfl) (fun E C hQ => ?_)
  refine Wx_lv (lv' := [(0, .ref 0), (1, .int (iI (0))), (2, .int (iI (p)))]) rfl ?_
  refine x_aload_n (i := 0) C dX11_text_0 rfl rfl ?_
  refine x_getRs (r := 1) C fkX_X11_10 (nlt rfl) rfl (hr 0 0 rfl) dX11_text_1 ?_
  refine x_getI C fkX_X11_57 (nlt rfl) rfl dX11_text_4 ?_
  refine x_eq (b := 0) rfl ?_
  refine x_istore_n (i := 3) (lv' := [(3, .int (iI (0))), (0, .ref 0), (1, .int (iI (0))), (2, .int (iI (p)))]) C dX11_text_7 rfl (nlt rfl) rfl ?_
  refine x_aload_n (i := 0) C dX11_text_8 rfl rfl ?_
  refine x_getRs (r := 1) C fkX_X11_10 (nlt rfl) rfl (hr 0 0 rfl) dX11_text_9 ?_
  refine x_iconst C dX11_text_12 ?_
  refine x_putI C pkX_X11_57 (nlt rfl) rfl dX11_text_13 ?_
  refine x_aload_n (i := 0) C dX11_text_16 rfl rfl ?_
  refine x_getRs (r := 1) C fkX_X11_10 (nlt rfl) rfl (hr 0 0 rfl) dX11_text_17 ?_
  refine x_iconst C dX11_text_20 ?_
  refine x_putI C pkX_X11_65 (nlt rfl) rfl dX11_text_21 ?_
  refine x_aload_n (i := 0) C dX11_text_24 rfl rfl ?_
  refine x_getRs (r := 1) C fkX_X11_10 (nlt rfl) rfl (hr 0 0 rfl) dX11_text_25 ?_
  refine x_iconst C dX11_text_28 ?_
  refine x_putI C pkX_X11_68 (nlt rfl) rfl dX11_text_29 ?_
  refine x_aload_n (i := 0) C dX11_text_32 rfl rfl ?_
  refine x_getRs (r := 1) C fkX_X11_10 (nlt rfl) rfl (hr 0 0 rfl) dX11_text_33 ?_
  refine x_iload_n (i := 1) C dX11_text_36 rfl rfl ?_
  refine x_iload_n (i := 2) C dX11_text_37 rfl rfl ?_
  refine x_callV (As := [.int (iI (0)), .int (iI (p))]) C (by exact (n_hasRoom0 (p := p) (by exact hr) (fun _ => rfl) ⟨by omega, by omega⟩)) ckX11_71 im_X8_hasRoom se_X8_hasRoom (nlt rfl) rfl rfl rfl rfl (nle rfl) (by exact ⟨nle rfl, nle rfl⟩) dX11_text_38 ?_
  rintro _ _ ⟨rfl, u1, rfl, h2⟩
  refine Wx_st (st' := [.int (iI (u1))]) rfl ?_
  refine x_if_ne (tgt := 47) C dX11_text_41 (by decide) ⟨by omega, by omega⟩ (fun h3 => ?_) (fun h3 => ?_)
  · have hp1 : p = -1 := by omega
    subst hp1
    refine Wx_lv (lv' := [(3, .int (iI (0))), (0, .ref 0), (1, .int (iI (0))), (2, .int (iI ((-1))))]) rfl ?_
    refine x_aload_n (i := 0) C dX11_text_47 rfl rfl ?_
    refine x_getRs (r := 21) C fkX_X11_27 (nlt rfl) rfl (hr 0 3 rfl) dX11_text_48 ?_
    refine x_iload_n (i := 1) C dX11_text_51 rfl rfl ?_
    refine x_aload_n (i := 0) C dX11_text_52 rfl rfl ?_
    refine x_getRs (r := 1) C fkX_X11_10 (nlt rfl) rfl (hr 0 0 rfl) dX11_text_53 ?_
    refine x_getRs (r := 2) C fkX_X11_75 (nlt rfl) rfl (hr 1 3 rfl) dX11_text_56 ?_
    refine x_iload_n (i := 3) C dX11_text_59 rfl rfl ?_
    refine x_callV (As := [.int (iI (0)), .ref 2, .int (iI (0))]) C (by exact (n_read0 (by exact hr) (fun _ => rfl))) ckX11_79 im_X6_read se_X6_read (nlt rfl) rfl rfl rfl rfl (nle rfl) (by exact ⟨nle rfl, nle rfl⟩) dX11_text_60 ?_
    rintro _ Xk4 ⟨rfl, hr, mz, k4⟩
    refine Wx_st (st' := []) rfl ?_
    refine x_aload_n (i := 0) C dX11_text_63 rfl rfl ?_
    refine x_getRs (r := 1) C fkX_X11_10 (nlt rfl) rfl (hr 0 0 rfl) dX11_text_64 ?_
    refine x_aload_n (i := 0) C dX11_text_67 rfl rfl ?_
    refine x_getRs (r := 21) C fkX_X11_27 (nlt rfl) rfl (hr 0 3 rfl) dX11_text_68 ?_
    refine x_getI C fkX_X11_83 (nlt rfl) rfl dX11_text_71 ?_
    refine x_eq (b := 0) k4 ?_
    refine x_putI C pkX_X11_65 (nlt rfl) rfl dX11_text_74 ?_
    refine x_aload_n (i := 0) C dX11_text_77 rfl rfl ?_
    refine x_getRs (r := 1) C fkX_X11_10 (nlt rfl) rfl (hr 0 0 rfl) dX11_text_78 ?_
    refine x_aload_n (i := 0) C dX11_text_81 rfl rfl ?_
    refine x_getRs (r := 21) C fkX_X11_27 (nlt rfl) rfl (hr 0 3 rfl) dX11_text_82 ?_
    refine x_getI C fkX_X11_84 (nlt rfl) rfl dX11_text_85 ?_
    refine x_gen (fun v5 ev5 => ?_)
    refine x_putI C pkX_X11_68 (nlt rfl) rfl dX11_text_88 ?_
    refine x_aload_n (i := 0) C dX11_text_91 rfl rfl ?_
    refine x_getRs (r := 21) C fkX_X11_27 (nlt rfl) rfl (hr 0 3 rfl) dX11_text_92 ?_
    refine x_getI C fkX_X11_83 (nlt rfl) rfl dX11_text_95 ?_
    refine x_eq (b := 0) k4 ?_
    refine x_if_ne (tgt := 117) C dX11_text_98 (by decide) ⟨by omega, by omega⟩ (fun h6 => by exfalso; omega) (fun h6 => ?_)
    refine x_aload_n (i := 0) C dX11_text_101 rfl rfl ?_
    refine x_getRs (r := 1) C fkX_X11_10 (nlt rfl) rfl (hr 0 0 rfl) dX11_text_102 ?_
    refine x_aload_n (i := 0) C dX11_text_105 rfl rfl ?_
    refine x_getRs (r := 21) C fkX_X11_27 (nlt rfl) rfl (hr 0 3 rfl) dX11_text_106 ?_
    refine x_iload_n (i := 1) C dX11_text_109 rfl rfl ?_
    refine x_iload_n (i := 2) C dX11_text_110 rfl rfl ?_
    refine x_callV (As := [.ref 21, .int (iI (0)), .int (iI ((-1)))]) C (by exact (n_take0 (by exact hr) (by exact mz))) ckX11_85 im_X8_take se_X8_take (nlt rfl) rfl rfl rfl rfl (nle rfl) (by exact ⟨nle rfl, nle rfl⟩) dX11_text_111 ?_
    rintro _ Xk7 ⟨rfl, hr⟩
    refine Wx_st (st' := [.int (iI (0))]) rfl ?_
    refine x_goto (tgt := 118) C dX11_text_114 (by decide) ?_
    exact x_iret C hQ dX11_text_118 (congrArg (fun z : Int => some (Value.int (iI z))) (by first | rfl | omega | (split <;> omega) | (repeat (first | omega | split))))
  · refine x_bipush C dX11_text_44 (by decide) ?_
    exact x_iret C hQ dX11_text_46 (congrArg (fun z : Int => some (Value.int (iI z))) (by first | rfl | omega | (split <;> omega) | (repeat (first | omega | split))))
set_option maxHeartbeats 4000000 in
set_option maxRecDepth 100000 in
theorem x_text1 {D : va_G} {ad : Nat → Nat} {cA : Nat → ClassId} {p : Int} (hp : inR p) : MetX (wX D ad cA) yX11_text cX11_text 4 (some .int) 10 230 [.ref 0, .int (iI (1)), .int (iI (p))] x0X (fun r _ => r = some (.int (iI (if p = -1 then -1 else -2)))) := by
  have hr : HRX x0X := fun _ _ _ => rfl
  unfold inR at hp
  refine MetX.mk (own := RX11) (by decide +kernel) rfl (nle rfl) (fun E C hQ => ?_)
  refine Wx_lv (lv' := [(0, .ref 0), (1, .int (iI (1))), (2, .int (iI (p)))]) rfl ?_
  refine x_aload_n (i := 0) C dX11_text_0 rfl rfl ?_
  refine x_getRs (r := 1) C fkX_X11_10 (nlt rfl) rfl (hr 0 0 rfl) dX11_text_1 ?_
  refine x_getI C fkX_X11_57 (nlt rfl) rfl dX11_text_4 ?_
  refine x_eq (b := 0) rfl ?_
  refine x_istore_n (i := 3) (lv' := [(3, .int (iI (0))), (0, .ref 0), (1, .int (iI (1))), (2, .int (iI (p)))]) C dX11_text_7 rfl (nlt rfl) rfl ?_
  refine x_aload_n (i := 0) C dX11_text_8 rfl rfl ?_
  refine x_getRs (r := 1) C fkX_X11_10 (nlt rfl) rfl (hr 0 0 rfl) dX11_text_9 ?_
  refine x_iconst C dX11_text_12 ?_
  refine x_putI C pkX_X11_57 (nlt rfl) rfl dX11_text_13 ?_
  refine x_aload_n (i := 0) C dX11_text_16 rfl rfl ?_
  refine x_getRs (r := 1) C fkX_X11_10 (nlt rfl) rfl (hr 0 0 rfl) dX11_text_17 ?_
  refine x_iconst C dX11_text_20 ?_
  refine x_putI C pkX_X11_65 (nlt rfl) rfl dX11_text_21 ?_
  refine x_aload_n (i := 0) C dX11_text_24 rfl rfl ?_
  refine x_getRs (r := 1) C fkX_X11_10 (nlt rfl) rfl (hr 0 0 rfl) dX11_text_25 ?_
  refine x_iconst C dX11_text_28 ?_
  refine x_putI C pkX_X11_68 (nlt rfl) rfl dX11_text_29 ?_
  refine x_aload_n (i := 0) C dX11_text_32 rfl rfl ?_
  refine x_getRs (r := 1) C fkX_X11_10 (nlt rfl) rfl (hr 0 0 rfl) dX11_text_33 ?_
  refine x_iload_n (i := 1) C dX11_text_36 rfl rfl ?_
  refine x_iload_n (i := 2) C dX11_text_37 rfl rfl ?_
  refine x_callV (As := [.int (iI (1)), .int (iI (p))]) C (by exact (n_hasRoom1 (p := p) (by exact hr) (fun _ => rfl) ⟨by omega, by omega⟩)) ckX11_71 im_X8_hasRoom se_X8_hasRoom (nlt rfl) rfl rfl rfl rfl (nle rfl) (by exact ⟨nle rfl, nle rfl⟩) dX11_text_38 ?_
  rintro _ _ ⟨rfl, u1, rfl, h2⟩
  refine Wx_st (st' := [.int (iI (u1))]) rfl ?_
  refine x_if_ne (tgt := 47) C dX11_text_41 (by decide) ⟨by omega, by omega⟩ (fun h3 => ?_) (fun h3 => ?_)
  · have hp1 : p = -1 := by omega
    subst hp1
    refine Wx_lv (lv' := [(3, .int (iI (0))), (0, .ref 0), (1, .int (iI (1))), (2, .int (iI ((-1))))]) rfl ?_
    refine x_aload_n (i := 0) C dX11_text_47 rfl rfl ?_
    refine x_getRs (r := 21) C fkX_X11_27 (nlt rfl) rfl (hr 0 3 rfl) dX11_text_48 ?_
    refine x_iload_n (i := 1) C dX11_text_51 rfl rfl ?_
    refine x_aload_n (i := 0) C dX11_text_52 rfl rfl ?_
    refine x_getRs (r := 1) C fkX_X11_10 (nlt rfl) rfl (hr 0 0 rfl) dX11_text_53 ?_
    refine x_getRs (r := 2) C fkX_X11_75 (nlt rfl) rfl (hr 1 3 rfl) dX11_text_56 ?_
    refine x_iload_n (i := 3) C dX11_text_59 rfl rfl ?_
    refine x_callV (As := [.int (iI (1)), .ref 2, .int (iI (0))]) C (by exact (n_read1 (by exact hr) (fun _ => rfl))) ckX11_79 im_X6_read se_X6_read (nlt rfl) rfl rfl rfl rfl (nle rfl) (by exact ⟨nle rfl, nle rfl⟩) dX11_text_60 ?_
    rintro _ Xk4 ⟨rfl, hr, mz, k4⟩
    refine Wx_st (st' := []) rfl ?_
    refine x_aload_n (i := 0) C dX11_text_63 rfl rfl ?_
    refine x_getRs (r := 1) C fkX_X11_10 (nlt rfl) rfl (hr 0 0 rfl) dX11_text_64 ?_
    refine x_aload_n (i := 0) C dX11_text_67 rfl rfl ?_
    refine x_getRs (r := 21) C fkX_X11_27 (nlt rfl) rfl (hr 0 3 rfl) dX11_text_68 ?_
    refine x_getI C fkX_X11_83 (nlt rfl) rfl dX11_text_71 ?_
    refine x_eq (b := 1) k4 ?_
    refine x_putI C pkX_X11_65 (nlt rfl) rfl dX11_text_74 ?_
    refine x_aload_n (i := 0) C dX11_text_77 rfl rfl ?_
    refine x_getRs (r := 1) C fkX_X11_10 (nlt rfl) rfl (hr 0 0 rfl) dX11_text_78 ?_
    refine x_aload_n (i := 0) C dX11_text_81 rfl rfl ?_
    refine x_getRs (r := 21) C fkX_X11_27 (nlt rfl) rfl (hr 0 3 rfl) dX11_text_82 ?_
    refine x_getI C fkX_X11_84 (nlt rfl) rfl dX11_text_85 ?_
    refine x_gen (fun v5 ev5 => ?_)
    refine x_putI C pkX_X11_68 (nlt rfl) rfl dX11_text_88 ?_
    refine x_aload_n (i := 0) C dX11_text_91 rfl rfl ?_
    refine x_getRs (r := 21) C fkX_X11_27 (nlt rfl) rfl (hr 0 3 rfl) dX11_text_92 ?_
    refine x_getI C fkX_X11_83 (nlt rfl) rfl dX11_text_95 ?_
    refine x_eq (b := 1) k4 ?_
    refine x_if_ne (tgt := 117) C dX11_text_98 (by decide) ⟨by omega, by omega⟩ (fun h6 => ?_) (fun h6 => by exfalso; omega)
    refine x_iconst C dX11_text_117 ?_
    exact x_iret C hQ dX11_text_118 (congrArg (fun z : Int => some (Value.int (iI z))) (by first | rfl | omega | (split <;> omega) | (repeat (first | omega | split))))
  · refine x_bipush C dX11_text_44 (by decide) ?_
    exact x_iret C hQ dX11_text_46 (congrArg (fun z : Int => some (Value.int (iI z))) (by first | rfl | omega | (split <;> omega) | (repeat (first | omega | split))))
set_option maxHeartbeats 4000000 in
set_option maxRecDepth 100000 in
theorem x_text2 {D : va_G} {ad : Nat → Nat} {cA : Nat → ClassId} {p : Int} (hp : inR p) : MetX (wX D ad cA) yX11_text cX11_text 4 (some .int) 10 230 [.ref 0, .int (iI (2)), .int (iI (p))] x0X (fun r _ => r = some (.int (iI (if p = -1 then 0 else -2)))) := by
  have hr : HRX x0X := fun _ _ _ => rfl
  unfold inR at hp
  refine MetX.mk (own := RX11) (by decide +kernel) rfl (nle rfl) (fun E C hQ => ?_)
  refine Wx_lv (lv' := [(0, .ref 0), (1, .int (iI (2))), (2, .int (iI (p)))]) rfl ?_
  refine x_aload_n (i := 0) C dX11_text_0 rfl rfl ?_
  refine x_getRs (r := 1) C fkX_X11_10 (nlt rfl) rfl (hr 0 0 rfl) dX11_text_1 ?_
  refine x_getI C fkX_X11_57 (nlt rfl) rfl dX11_text_4 ?_
  refine x_eq (b := 0) rfl ?_
  refine x_istore_n (i := 3) (lv' := [(3, .int (iI (0))), (0, .ref 0), (1, .int (iI (2))), (2, .int (iI (p)))]) C dX11_text_7 rfl (nlt rfl) rfl ?_
  refine x_aload_n (i := 0) C dX11_text_8 rfl rfl ?_
  refine x_getRs (r := 1) C fkX_X11_10 (nlt rfl) rfl (hr 0 0 rfl) dX11_text_9 ?_
  refine x_iconst C dX11_text_12 ?_
  refine x_putI C pkX_X11_57 (nlt rfl) rfl dX11_text_13 ?_
  refine x_aload_n (i := 0) C dX11_text_16 rfl rfl ?_
  refine x_getRs (r := 1) C fkX_X11_10 (nlt rfl) rfl (hr 0 0 rfl) dX11_text_17 ?_
  refine x_iconst C dX11_text_20 ?_
  refine x_putI C pkX_X11_65 (nlt rfl) rfl dX11_text_21 ?_
  refine x_aload_n (i := 0) C dX11_text_24 rfl rfl ?_
  refine x_getRs (r := 1) C fkX_X11_10 (nlt rfl) rfl (hr 0 0 rfl) dX11_text_25 ?_
  refine x_iconst C dX11_text_28 ?_
  refine x_putI C pkX_X11_68 (nlt rfl) rfl dX11_text_29 ?_
  refine x_aload_n (i := 0) C dX11_text_32 rfl rfl ?_
  refine x_getRs (r := 1) C fkX_X11_10 (nlt rfl) rfl (hr 0 0 rfl) dX11_text_33 ?_
  refine x_iload_n (i := 1) C dX11_text_36 rfl rfl ?_
  refine x_iload_n (i := 2) C dX11_text_37 rfl rfl ?_
  refine x_callV (As := [.int (iI (2)), .int (iI (p))]) C (by exact (n_hasRoom2 (p := p) (by exact hr) (fun _ => rfl) ⟨by omega, by omega⟩)) ckX11_71 im_X8_hasRoom se_X8_hasRoom (nlt rfl) rfl rfl rfl rfl (nle rfl) (by exact ⟨nle rfl, nle rfl⟩) dX11_text_38 ?_
  rintro _ _ ⟨rfl, u1, rfl, h2⟩
  refine Wx_st (st' := [.int (iI (u1))]) rfl ?_
  refine x_if_ne (tgt := 47) C dX11_text_41 (by decide) ⟨by omega, by omega⟩ (fun h3 => ?_) (fun h3 => ?_)
  · have hp1 : p = -1 := by omega
    subst hp1
    refine Wx_lv (lv' := [(3, .int (iI (0))), (0, .ref 0), (1, .int (iI (2))), (2, .int (iI ((-1))))]) rfl ?_
    refine x_aload_n (i := 0) C dX11_text_47 rfl rfl ?_
    refine x_getRs (r := 21) C fkX_X11_27 (nlt rfl) rfl (hr 0 3 rfl) dX11_text_48 ?_
    refine x_iload_n (i := 1) C dX11_text_51 rfl rfl ?_
    refine x_aload_n (i := 0) C dX11_text_52 rfl rfl ?_
    refine x_getRs (r := 1) C fkX_X11_10 (nlt rfl) rfl (hr 0 0 rfl) dX11_text_53 ?_
    refine x_getRs (r := 2) C fkX_X11_75 (nlt rfl) rfl (hr 1 3 rfl) dX11_text_56 ?_
    refine x_iload_n (i := 3) C dX11_text_59 rfl rfl ?_
    refine x_callV (As := [.int (iI (2)), .ref 2, .int (iI (0))]) C (by exact (n_read2 (by exact hr) (fun _ => rfl))) ckX11_79 im_X6_read se_X6_read (nlt rfl) rfl rfl rfl rfl (nle rfl) (by exact ⟨nle rfl, nle rfl⟩) dX11_text_60 ?_
    rintro _ Xk4 ⟨rfl, hr, mz, k4⟩
    refine Wx_st (st' := []) rfl ?_
    refine x_aload_n (i := 0) C dX11_text_63 rfl rfl ?_
    refine x_getRs (r := 1) C fkX_X11_10 (nlt rfl) rfl (hr 0 0 rfl) dX11_text_64 ?_
    refine x_aload_n (i := 0) C dX11_text_67 rfl rfl ?_
    refine x_getRs (r := 21) C fkX_X11_27 (nlt rfl) rfl (hr 0 3 rfl) dX11_text_68 ?_
    refine x_getI C fkX_X11_83 (nlt rfl) rfl dX11_text_71 ?_
    refine x_eq (b := 0) k4 ?_
    refine x_putI C pkX_X11_65 (nlt rfl) rfl dX11_text_74 ?_
    refine x_aload_n (i := 0) C dX11_text_77 rfl rfl ?_
    refine x_getRs (r := 1) C fkX_X11_10 (nlt rfl) rfl (hr 0 0 rfl) dX11_text_78 ?_
    refine x_aload_n (i := 0) C dX11_text_81 rfl rfl ?_
    refine x_getRs (r := 21) C fkX_X11_27 (nlt rfl) rfl (hr 0 3 rfl) dX11_text_82 ?_
    refine x_getI C fkX_X11_84 (nlt rfl) rfl dX11_text_85 ?_
    refine x_gen (fun v5 ev5 => ?_)
    refine x_putI C pkX_X11_68 (nlt rfl) rfl dX11_text_88 ?_
    refine x_aload_n (i := 0) C dX11_text_91 rfl rfl ?_
    refine x_getRs (r := 21) C fkX_X11_27 (nlt rfl) rfl (hr 0 3 rfl) dX11_text_92 ?_
    refine x_getI C fkX_X11_83 (nlt rfl) rfl dX11_text_95 ?_
    refine x_eq (b := 0) k4 ?_
    refine x_if_ne (tgt := 117) C dX11_text_98 (by decide) ⟨by omega, by omega⟩ (fun h6 => by exfalso; omega) (fun h6 => ?_)
    refine x_aload_n (i := 0) C dX11_text_101 rfl rfl ?_
    refine x_getRs (r := 1) C fkX_X11_10 (nlt rfl) rfl (hr 0 0 rfl) dX11_text_102 ?_
    refine x_aload_n (i := 0) C dX11_text_105 rfl rfl ?_
    refine x_getRs (r := 21) C fkX_X11_27 (nlt rfl) rfl (hr 0 3 rfl) dX11_text_106 ?_
    refine x_iload_n (i := 1) C dX11_text_109 rfl rfl ?_
    refine x_iload_n (i := 2) C dX11_text_110 rfl rfl ?_
    refine x_callV (As := [.ref 21, .int (iI (2)), .int (iI ((-1)))]) C (by exact (n_take2 (by exact hr) (by exact mz))) ckX11_85 im_X8_take se_X8_take (nlt rfl) rfl rfl rfl rfl (nle rfl) (by exact ⟨nle rfl, nle rfl⟩) dX11_text_111 ?_
    rintro _ Xk7 ⟨rfl, hr⟩
    refine Wx_st (st' := [.int (iI (0))]) rfl ?_
    refine x_goto (tgt := 118) C dX11_text_114 (by decide) ?_
    exact x_iret C hQ dX11_text_118 (congrArg (fun z : Int => some (Value.int (iI z))) (by first | rfl | omega | (split <;> omega) | (repeat (first | omega | split))))
  · refine x_bipush C dX11_text_44 (by decide) ?_
    exact x_iret C hQ dX11_text_46 (congrArg (fun z : Int => some (Value.int (iI z))) (by first | rfl | omega | (split <;> omega) | (repeat (first | omega | split))))
set_option maxHeartbeats 4000000 in
set_option maxRecDepth 100000 in
theorem x_textX {D : va_G} {ad : Nat → Nat} {cA : Nat → ClassId} {s p : Int} (hs : inR s) (hp : inR p) (hn : ¬ (0 ≤ s ∧ s ≤ 2)) : MetX (wX D ad cA) yX11_text cX11_text 4 (some .int) 10 230 [.ref 0, .int (iI (s)), .int (iI (p))] x0X (fun r _ => r = some (.int (iI (-2)))) := by
  have hr : HRX x0X := fun _ _ _ => rfl
  unfold inR at hs hp
  refine MetX.mk (own := RX11) (by decide +kernel) rfl (nle rfl) (fun E C hQ => ?_)
  refine Wx_lv (lv' := [(0, .ref 0), (1, .int (iI (s))), (2, .int (iI (p)))]) rfl ?_
  refine x_aload_n (i := 0) C dX11_text_0 rfl rfl ?_
  refine x_getRs (r := 1) C fkX_X11_10 (nlt rfl) rfl (hr 0 0 rfl) dX11_text_1 ?_
  refine x_getI C fkX_X11_57 (nlt rfl) rfl dX11_text_4 ?_
  refine x_eq (b := 0) rfl ?_
  refine x_istore_n (i := 3) (lv' := [(3, .int (iI (0))), (0, .ref 0), (1, .int (iI (s))), (2, .int (iI (p)))]) C dX11_text_7 rfl (nlt rfl) rfl ?_
  refine x_aload_n (i := 0) C dX11_text_8 rfl rfl ?_
  refine x_getRs (r := 1) C fkX_X11_10 (nlt rfl) rfl (hr 0 0 rfl) dX11_text_9 ?_
  refine x_iconst C dX11_text_12 ?_
  refine x_putI C pkX_X11_57 (nlt rfl) rfl dX11_text_13 ?_
  refine x_aload_n (i := 0) C dX11_text_16 rfl rfl ?_
  refine x_getRs (r := 1) C fkX_X11_10 (nlt rfl) rfl (hr 0 0 rfl) dX11_text_17 ?_
  refine x_iconst C dX11_text_20 ?_
  refine x_putI C pkX_X11_65 (nlt rfl) rfl dX11_text_21 ?_
  refine x_aload_n (i := 0) C dX11_text_24 rfl rfl ?_
  refine x_getRs (r := 1) C fkX_X11_10 (nlt rfl) rfl (hr 0 0 rfl) dX11_text_25 ?_
  refine x_iconst C dX11_text_28 ?_
  refine x_putI C pkX_X11_68 (nlt rfl) rfl dX11_text_29 ?_
  refine x_aload_n (i := 0) C dX11_text_32 rfl rfl ?_
  refine x_getRs (r := 1) C fkX_X11_10 (nlt rfl) rfl (hr 0 0 rfl) dX11_text_33 ?_
  refine x_iload_n (i := 1) C dX11_text_36 rfl rfl ?_
  refine x_iload_n (i := 2) C dX11_text_37 rfl rfl ?_
  refine x_callV (As := [.int (iI (s)), .int (iI (p))]) C (by exact (n_hasRoomX (s := s) (p := p) ⟨by omega, by omega⟩ ⟨by omega, by omega⟩ hn)) ckX11_71 im_X8_hasRoom se_X8_hasRoom (nlt rfl) rfl rfl rfl rfl (nle rfl) (by exact ⟨nle rfl, nle rfl⟩) dX11_text_38 ?_
  rintro _ _ ⟨rfl, rfl⟩
  refine Wx_st (st' := [.int (iI (0))]) rfl ?_
  refine x_if_ne (tgt := 47) C dX11_text_41 (by decide) ⟨by omega, by omega⟩ (fun h3 => by exfalso; omega) (fun h3 => ?_)
  refine x_bipush C dX11_text_44 (by decide) ?_
  exact x_iret C hQ dX11_text_46 (congrArg (fun z : Int => some (Value.int (iI z))) (by first | rfl | omega | (split <;> omega) | (repeat (first | omega | split))))
set_option maxHeartbeats 4000000 in
set_option maxRecDepth 100000 in
theorem n_bcopy_110_7 {D : va_G} {ad : Nat → Nat} {cA : Nat → ClassId} {X : XT} (hr : HRX X) : MetX (wX D ad cA) yX0_copy cX0_copy 2 none 1 60 [.ref 110, .ref 7] X (fun r X' => r = none ∧ HRX X' ∧ (∀ i, X'.1 3 i = X.1 3 i)) := by
  refine MetX.mk (own := RX0) (by decide +kernel) rfl (nle rfl) (fun E C hQ => ?_)
  refine Wx_lv (lv' := [(0, .ref 110), (1, .ref 7)]) rfl ?_
  refine x_aload_n (i := 0) C dX0_copy_0 rfl rfl ?_
  refine x_aload_n (i := 1) C dX0_copy_1 rfl rfl ?_
  refine x_getI C fkX_X0_18 (nlt rfl) rfl dX0_copy_2 ?_
  refine x_gen (fun v1 ev1 => ?_)
  refine x_putI C pkX_X0_18 (nlt rfl) rfl dX0_copy_5 ?_
  refine x_aload_n (i := 0) C dX0_copy_8 rfl rfl ?_
  refine x_aload_n (i := 1) C dX0_copy_9 rfl rfl ?_
  refine x_getI C fkX_X0_22 (nlt rfl) rfl dX0_copy_10 ?_
  refine x_gen (fun v2 ev2 => ?_)
  refine x_putI C pkX_X0_22 (nlt rfl) rfl dX0_copy_13 ?_
  refine x_aload_n (i := 0) C dX0_copy_16 rfl rfl ?_
  refine x_aload_n (i := 1) C dX0_copy_17 rfl rfl ?_
  refine x_getL C fkX_X0_25 (nlt rfl) rfl dX0_copy_18 ?_
  refine x_genL (fun l3 el3 => ?_)
  refine x_putL C pkX_X0_25 (nlt rfl) rfl dX0_copy_21 ?_
  refine x_aload_n (i := 0) C dX0_copy_24 rfl rfl ?_
  refine x_aload_n (i := 1) C dX0_copy_25 rfl rfl ?_
  refine x_getL C fkX_X0_29 (nlt rfl) rfl dX0_copy_26 ?_
  refine x_genL (fun l4 el4 => ?_)
  refine x_putL C pkX_X0_29 (nlt rfl) rfl dX0_copy_29 ?_
  refine x_aload_n (i := 0) C dX0_copy_32 rfl rfl ?_
  refine x_aload_n (i := 1) C dX0_copy_33 rfl rfl ?_
  refine x_getI C fkX_X0_32 (nlt rfl) rfl dX0_copy_34 ?_
  refine x_gen (fun v5 ev5 => ?_)
  refine x_putI C pkX_X0_32 (nlt rfl) rfl dX0_copy_37 ?_
  refine x_aload_n (i := 1) C dX0_copy_40 rfl rfl ?_
  refine x_getRs (r := 8) C fkX_X0_9 (nlt rfl) rfl (hr 7 5 rfl) dX0_copy_41 ?_
  refine x_iconst C dX0_copy_44 ?_
  refine x_aload_n (i := 0) C dX0_copy_45 rfl rfl ?_
  refine x_getRs (r := 111) C fkX_X0_9 (nlt rfl) rfl (hr 110 5 rfl) dX0_copy_46 ?_
  refine x_iconst C dX0_copy_49 ?_
  refine x_bipush C dX0_copy_50 (by decide) ?_
  refine x_cpyI C cpX0_35 (nlt rfl) rfl rfl (nlt rfl) rfl rfl rfl (by omega) (by omega) (by omega) (by omega) (by omega) (nle rfl) (nle rfl) (nle rfl) (nle rfl) dX0_copy_52 ?_
  refine x_aload_n (i := 1) C dX0_copy_55 rfl rfl ?_
  refine x_getRs (r := 9) C fkX_X0_15 (nlt rfl) rfl (hr 7 6 rfl) dX0_copy_56 ?_
  refine x_iconst C dX0_copy_59 ?_
  refine x_aload_n (i := 0) C dX0_copy_60 rfl rfl ?_
  refine x_getRs (r := 112) C fkX_X0_15 (nlt rfl) rfl (hr 110 6 rfl) dX0_copy_61 ?_
  refine x_iconst C dX0_copy_64 ?_
  refine x_bipush C dX0_copy_65 (by decide) ?_
  refine x_cpyI C cpX0_35 (nlt rfl) rfl rfl (nlt rfl) rfl rfl rfl (by omega) (by omega) (by omega) (by omega) (by omega) (nle rfl) (nle rfl) (nle rfl) (nle rfl) dX0_copy_67 ?_
  exact x_vret C hQ dX0_copy_70 (⟨rfl, hr, fun _ => rfl⟩)
set_option maxHeartbeats 4000000 in
set_option maxRecDepth 100000 in
theorem n_bcopy_113_10 {D : va_G} {ad : Nat → Nat} {cA : Nat → ClassId} {X : XT} (hr : HRX X) : MetX (wX D ad cA) yX0_copy cX0_copy 2 none 1 60 [.ref 113, .ref 10] X (fun r X' => r = none ∧ HRX X' ∧ (∀ i, X'.1 3 i = X.1 3 i)) := by
  refine MetX.mk (own := RX0) (by decide +kernel) rfl (nle rfl) (fun E C hQ => ?_)
  refine Wx_lv (lv' := [(0, .ref 113), (1, .ref 10)]) rfl ?_
  refine x_aload_n (i := 0) C dX0_copy_0 rfl rfl ?_
  refine x_aload_n (i := 1) C dX0_copy_1 rfl rfl ?_
  refine x_getI C fkX_X0_18 (nlt rfl) rfl dX0_copy_2 ?_
  refine x_gen (fun v1 ev1 => ?_)
  refine x_putI C pkX_X0_18 (nlt rfl) rfl dX0_copy_5 ?_
  refine x_aload_n (i := 0) C dX0_copy_8 rfl rfl ?_
  refine x_aload_n (i := 1) C dX0_copy_9 rfl rfl ?_
  refine x_getI C fkX_X0_22 (nlt rfl) rfl dX0_copy_10 ?_
  refine x_gen (fun v2 ev2 => ?_)
  refine x_putI C pkX_X0_22 (nlt rfl) rfl dX0_copy_13 ?_
  refine x_aload_n (i := 0) C dX0_copy_16 rfl rfl ?_
  refine x_aload_n (i := 1) C dX0_copy_17 rfl rfl ?_
  refine x_getL C fkX_X0_25 (nlt rfl) rfl dX0_copy_18 ?_
  refine x_genL (fun l3 el3 => ?_)
  refine x_putL C pkX_X0_25 (nlt rfl) rfl dX0_copy_21 ?_
  refine x_aload_n (i := 0) C dX0_copy_24 rfl rfl ?_
  refine x_aload_n (i := 1) C dX0_copy_25 rfl rfl ?_
  refine x_getL C fkX_X0_29 (nlt rfl) rfl dX0_copy_26 ?_
  refine x_genL (fun l4 el4 => ?_)
  refine x_putL C pkX_X0_29 (nlt rfl) rfl dX0_copy_29 ?_
  refine x_aload_n (i := 0) C dX0_copy_32 rfl rfl ?_
  refine x_aload_n (i := 1) C dX0_copy_33 rfl rfl ?_
  refine x_getI C fkX_X0_32 (nlt rfl) rfl dX0_copy_34 ?_
  refine x_gen (fun v5 ev5 => ?_)
  refine x_putI C pkX_X0_32 (nlt rfl) rfl dX0_copy_37 ?_
  refine x_aload_n (i := 1) C dX0_copy_40 rfl rfl ?_
  refine x_getRs (r := 11) C fkX_X0_9 (nlt rfl) rfl (hr 10 5 rfl) dX0_copy_41 ?_
  refine x_iconst C dX0_copy_44 ?_
  refine x_aload_n (i := 0) C dX0_copy_45 rfl rfl ?_
  refine x_getRs (r := 114) C fkX_X0_9 (nlt rfl) rfl (hr 113 5 rfl) dX0_copy_46 ?_
  refine x_iconst C dX0_copy_49 ?_
  refine x_bipush C dX0_copy_50 (by decide) ?_
  refine x_cpyI C cpX0_35 (nlt rfl) rfl rfl (nlt rfl) rfl rfl rfl (by omega) (by omega) (by omega) (by omega) (by omega) (nle rfl) (nle rfl) (nle rfl) (nle rfl) dX0_copy_52 ?_
  refine x_aload_n (i := 1) C dX0_copy_55 rfl rfl ?_
  refine x_getRs (r := 12) C fkX_X0_15 (nlt rfl) rfl (hr 10 6 rfl) dX0_copy_56 ?_
  refine x_iconst C dX0_copy_59 ?_
  refine x_aload_n (i := 0) C dX0_copy_60 rfl rfl ?_
  refine x_getRs (r := 115) C fkX_X0_15 (nlt rfl) rfl (hr 113 6 rfl) dX0_copy_61 ?_
  refine x_iconst C dX0_copy_64 ?_
  refine x_bipush C dX0_copy_65 (by decide) ?_
  refine x_cpyI C cpX0_35 (nlt rfl) rfl rfl (nlt rfl) rfl rfl rfl (by omega) (by omega) (by omega) (by omega) (by omega) (nle rfl) (nle rfl) (nle rfl) (nle rfl) dX0_copy_67 ?_
  exact x_vret C hQ dX0_copy_70 (⟨rfl, hr, fun _ => rfl⟩)
set_option maxHeartbeats 4000000 in
set_option maxRecDepth 100000 in
theorem n_gcopy_116_13 {D : va_G} {ad : Nat → Nat} {cA : Nat → ClassId} {X : XT} (hr : HRX X) : MetX (wX D ad cA) yX2_copy cX2_copy 2 none 1 60 [.ref 116, .ref 13] X (fun r X' => r = none ∧ HRX X' ∧ (∀ i, X'.1 3 i = X.1 3 i)) := by
  refine MetX.mk (own := RX2) (by decide +kernel) rfl (nle rfl) (fun E C hQ => ?_)
  refine Wx_lv (lv' := [(0, .ref 116), (1, .ref 13)]) rfl ?_
  refine x_aload_n (i := 0) C dX2_copy_0 rfl rfl ?_
  refine x_aload_n (i := 1) C dX2_copy_1 rfl rfl ?_
  refine x_getI C fkX_X2_19 (nlt rfl) rfl dX2_copy_2 ?_
  refine x_gen (fun v1 ev1 => ?_)
  refine x_putI C pkX_X2_19 (nlt rfl) rfl dX2_copy_5 ?_
  refine x_aload_n (i := 1) C dX2_copy_8 rfl rfl ?_
  refine x_getRs (r := 14) C fkX_X2_9 (nlt rfl) rfl (hr 13 1 rfl) dX2_copy_9 ?_
  refine x_iconst C dX2_copy_12 ?_
  refine x_aload_n (i := 0) C dX2_copy_13 rfl rfl ?_
  refine x_getRs (r := 117) C fkX_X2_9 (nlt rfl) rfl (hr 116 1 rfl) dX2_copy_14 ?_
  refine x_iconst C dX2_copy_17 ?_
  refine x_bipush C dX2_copy_18 (by decide) ?_
  refine x_cpyL C cpX2_23 (nlt rfl) rfl rfl (nlt rfl) rfl rfl (by omega) (by omega) (by omega) (by omega) (by omega) (nle rfl) (nle rfl) (nle rfl) (nle rfl) dX2_copy_20 ?_
  refine x_aload_n (i := 1) C dX2_copy_23 rfl rfl ?_
  refine x_getRs (r := 15) C fkX_X2_15 (nlt rfl) rfl (hr 13 2 rfl) dX2_copy_24 ?_
  refine x_iconst C dX2_copy_27 ?_
  refine x_aload_n (i := 0) C dX2_copy_28 rfl rfl ?_
  refine x_getRs (r := 118) C fkX_X2_15 (nlt rfl) rfl (hr 116 2 rfl) dX2_copy_29 ?_
  refine x_iconst C dX2_copy_32 ?_
  refine x_bipush C dX2_copy_33 (by decide) ?_
  refine x_cpyI C cpX2_23 (nlt rfl) rfl rfl (nlt rfl) rfl rfl rfl (by omega) (by omega) (by omega) (by omega) (by omega) (nle rfl) (nle rfl) (nle rfl) (nle rfl) dX2_copy_35 ?_
  exact x_vret C hQ dX2_copy_38 (⟨rfl, hr, fun _ => rfl⟩)
set_option maxHeartbeats 4000000 in
set_option maxRecDepth 100000 in
theorem n_gcopy_119_16 {D : va_G} {ad : Nat → Nat} {cA : Nat → ClassId} {X : XT} (hr : HRX X) : MetX (wX D ad cA) yX2_copy cX2_copy 2 none 1 60 [.ref 119, .ref 16] X (fun r X' => r = none ∧ HRX X' ∧ (∀ i, X'.1 3 i = X.1 3 i)) := by
  refine MetX.mk (own := RX2) (by decide +kernel) rfl (nle rfl) (fun E C hQ => ?_)
  refine Wx_lv (lv' := [(0, .ref 119), (1, .ref 16)]) rfl ?_
  refine x_aload_n (i := 0) C dX2_copy_0 rfl rfl ?_
  refine x_aload_n (i := 1) C dX2_copy_1 rfl rfl ?_
  refine x_getI C fkX_X2_19 (nlt rfl) rfl dX2_copy_2 ?_
  refine x_gen (fun v1 ev1 => ?_)
  refine x_putI C pkX_X2_19 (nlt rfl) rfl dX2_copy_5 ?_
  refine x_aload_n (i := 1) C dX2_copy_8 rfl rfl ?_
  refine x_getRs (r := 17) C fkX_X2_9 (nlt rfl) rfl (hr 16 1 rfl) dX2_copy_9 ?_
  refine x_iconst C dX2_copy_12 ?_
  refine x_aload_n (i := 0) C dX2_copy_13 rfl rfl ?_
  refine x_getRs (r := 120) C fkX_X2_9 (nlt rfl) rfl (hr 119 1 rfl) dX2_copy_14 ?_
  refine x_iconst C dX2_copy_17 ?_
  refine x_bipush C dX2_copy_18 (by decide) ?_
  refine x_cpyL C cpX2_23 (nlt rfl) rfl rfl (nlt rfl) rfl rfl (by omega) (by omega) (by omega) (by omega) (by omega) (nle rfl) (nle rfl) (nle rfl) (nle rfl) dX2_copy_20 ?_
  refine x_aload_n (i := 1) C dX2_copy_23 rfl rfl ?_
  refine x_getRs (r := 18) C fkX_X2_15 (nlt rfl) rfl (hr 16 2 rfl) dX2_copy_24 ?_
  refine x_iconst C dX2_copy_27 ?_
  refine x_aload_n (i := 0) C dX2_copy_28 rfl rfl ?_
  refine x_getRs (r := 121) C fkX_X2_15 (nlt rfl) rfl (hr 119 2 rfl) dX2_copy_29 ?_
  refine x_iconst C dX2_copy_32 ?_
  refine x_bipush C dX2_copy_33 (by decide) ?_
  refine x_cpyI C cpX2_23 (nlt rfl) rfl rfl (nlt rfl) rfl rfl rfl (by omega) (by omega) (by omega) (by omega) (by omega) (nle rfl) (nle rfl) (nle rfl) (nle rfl) dX2_copy_35 ?_
  exact x_vret C hQ dX2_copy_38 (⟨rfl, hr, fun _ => rfl⟩)
set_option maxHeartbeats 4000000 in
set_option maxRecDepth 100000 in
theorem n_tcopy_104 {D : va_G} {ad : Nat → Nat} {cA : Nat → ClassId} {X : XT} (hr : HRX X) : MetX (wX D ad cA) yX8_copy cX8_copy 3 none 2 81 [.ref 104, .ref 1] X (fun r X' => r = none ∧ HRX X') := by
  refine MetX.mk (own := RX8) (by decide +kernel) rfl (nle rfl) (fun E C hQ => ?_)
  refine Wx_lv (lv' := [(0, .ref 104), (1, .ref 1)]) rfl ?_
  refine x_aload_n (i := 0) C dX8_copy_0 rfl rfl ?_
  refine x_aload_n (i := 1) C dX8_copy_1 rfl rfl ?_
  refine x_getI C fkX_X8_40 (nlt rfl) rfl dX8_copy_2 ?_
  refine x_gen (fun v1 ev1 => ?_)
  refine x_putI C pkX_X8_40 (nlt rfl) rfl dX8_copy_5 ?_
  refine x_aload_n (i := 0) C dX8_copy_8 rfl rfl ?_
  refine x_aload_n (i := 1) C dX8_copy_9 rfl rfl ?_
  refine x_getI C fkX_X8_43 (nlt rfl) rfl dX8_copy_10 ?_
  refine x_gen (fun v2 ev2 => ?_)
  refine x_putI C pkX_X8_43 (nlt rfl) rfl dX8_copy_13 ?_
  refine x_aload_n (i := 0) C dX8_copy_16 rfl rfl ?_
  refine x_aload_n (i := 1) C dX8_copy_17 rfl rfl ?_
  refine x_getI C fkX_X8_9 (nlt rfl) rfl dX8_copy_18 ?_
  refine x_gen (fun v3 ev3 => ?_)
  refine x_putI C pkX_X8_9 (nlt rfl) rfl dX8_copy_21 ?_
  refine x_aload_n (i := 1) C dX8_copy_24 rfl rfl ?_
  refine x_getRs (r := 2) C fkX_X8_15 (nlt rfl) rfl (hr 1 3 rfl) dX8_copy_25 ?_
  refine x_iconst C dX8_copy_28 ?_
  refine x_aload_n (i := 0) C dX8_copy_29 rfl rfl ?_
  refine x_getRs (r := 105) C fkX_X8_15 (nlt rfl) rfl (hr 104 3 rfl) dX8_copy_30 ?_
  refine x_iconst C dX8_copy_33 ?_
  refine x_sipush C dX8_copy_34 (by decide) ?_
  refine x_cpyI C cpX8_46 (nlt rfl) rfl rfl (nlt rfl) rfl rfl rfl (by omega) (by omega) (by omega) (by omega) (by omega) (nle rfl) (nle rfl) (nle rfl) (nle rfl) dX8_copy_37 ?_
  refine x_aload_n (i := 1) C dX8_copy_40 rfl rfl ?_
  refine x_getRs (r := 3) C fkX_X8_19 (nlt rfl) rfl (hr 1 4 rfl) dX8_copy_41 ?_
  refine x_iconst C dX8_copy_44 ?_
  refine x_aload_n (i := 0) C dX8_copy_45 rfl rfl ?_
  refine x_getRs (r := 106) C fkX_X8_19 (nlt rfl) rfl (hr 104 4 rfl) dX8_copy_46 ?_
  refine x_iconst C dX8_copy_49 ?_
  refine x_iconst C dX8_copy_50 ?_
  refine x_cpyI C cpX8_46 (nlt rfl) rfl rfl (nlt rfl) rfl rfl rfl (by omega) (by omega) (by omega) (by omega) (by omega) (nle rfl) (nle rfl) (nle rfl) (nle rfl) dX8_copy_51 ?_
  refine x_aload_n (i := 1) C dX8_copy_54 rfl rfl ?_
  refine x_getRs (r := 5) C fkX_X8_28 (nlt rfl) rfl (hr 1 6 rfl) dX8_copy_55 ?_
  refine x_iconst C dX8_copy_58 ?_
  refine x_aload_n (i := 0) C dX8_copy_59 rfl rfl ?_
  refine x_getRs (r := 108) C fkX_X8_28 (nlt rfl) rfl (hr 104 6 rfl) dX8_copy_60 ?_
  refine x_iconst C dX8_copy_63 ?_
  refine x_iconst C dX8_copy_64 ?_
  refine x_cpyL C cpX8_46 (nlt rfl) rfl rfl (nlt rfl) rfl rfl (by omega) (by omega) (by omega) (by omega) (by omega) (nle rfl) (nle rfl) (nle rfl) (nle rfl) dX8_copy_65 ?_
  refine x_iconst C dX8_copy_68 ?_
  refine x_istore_n (i := 2) (lv' := [(2, .int (iI (0))), (0, .ref 104), (1, .ref 1)]) C dX8_copy_69 rfl (nlt rfl) rfl ?_
  refine x_iload_n (i := 2) C dX8_copy_70 rfl rfl ?_
  refine x_iconst C dX8_copy_71 ?_
  refine x_icmp_ge (tgt := 96) C dX8_copy_72 (by decide) ⟨by omega, by omega⟩ ⟨by omega, by omega⟩ (fun h4 => by exfalso; omega) (fun h4 => ?_)
  refine x_aload_n (i := 0) C dX8_copy_75 rfl rfl ?_
  refine x_getRs (r := 107) C fkX_X8_24 (nlt rfl) rfl (hr 104 5 rfl) dX8_copy_76 ?_
  refine x_iload_n (i := 2) C dX8_copy_79 rfl rfl ?_
  refine x_aald (r := some 110) C (nlt rfl) rfl rfl (nle rfl) (by omega) (by omega) (hr 107 0 rfl) dX8_copy_80 ?_
  refine x_aload_n (i := 1) C dX8_copy_81 rfl rfl ?_
  refine x_getRs (r := 4) C fkX_X8_24 (nlt rfl) rfl (hr 1 5 rfl) dX8_copy_82 ?_
  refine x_iload_n (i := 2) C dX8_copy_85 rfl rfl ?_
  refine x_aald (r := some 7) C (nlt rfl) rfl rfl (nle rfl) (by omega) (by omega) (hr 4 0 rfl) dX8_copy_86 ?_
  refine x_callV (As := [.ref 7]) C (by exact (n_bcopy_110_7 (by exact hr))) ckX8_52 im_X0_copy se_X0_copy (nlt rfl) rfl rfl rfl rfl (nle rfl) (by exact ⟨nle rfl, nle rfl⟩) dX8_copy_87 ?_
  rintro _ Xk5 ⟨rfl, hr, k5m⟩
  refine Wx_st (st' := []) rfl ?_
  refine x_iinc (lv' := [(2, .int (iI (0 + 1))), (0, .ref 104), (1, .ref 1)]) C dX8_copy_90 rfl (nlt rfl) rfl ?_
  refine Wx_lv (lv' := [(2, .int (iI (1))), (0, .ref 104), (1, .ref 1)]) rfl ?_
  refine x_goto (tgt := 70) C dX8_copy_93 (by decide) ?_
  refine x_iload_n (i := 2) C dX8_copy_70 rfl rfl ?_
  refine x_iconst C dX8_copy_71 ?_
  refine x_icmp_ge (tgt := 96) C dX8_copy_72 (by decide) ⟨by omega, by omega⟩ ⟨by omega, by omega⟩ (fun h6 => by exfalso; omega) (fun h6 => ?_)
  refine x_aload_n (i := 0) C dX8_copy_75 rfl rfl ?_
  refine x_getRs (r := 107) C fkX_X8_24 (nlt rfl) rfl (hr 104 5 rfl) dX8_copy_76 ?_
  refine x_iload_n (i := 2) C dX8_copy_79 rfl rfl ?_
  refine x_aald (r := some 113) C (nlt rfl) rfl rfl (nle rfl) (by omega) (by omega) (hr 107 1 rfl) dX8_copy_80 ?_
  refine x_aload_n (i := 1) C dX8_copy_81 rfl rfl ?_
  refine x_getRs (r := 4) C fkX_X8_24 (nlt rfl) rfl (hr 1 5 rfl) dX8_copy_82 ?_
  refine x_iload_n (i := 2) C dX8_copy_85 rfl rfl ?_
  refine x_aald (r := some 10) C (nlt rfl) rfl rfl (nle rfl) (by omega) (by omega) (hr 4 1 rfl) dX8_copy_86 ?_
  refine x_callV (As := [.ref 10]) C (by exact (n_bcopy_113_10 (by exact hr))) ckX8_52 im_X0_copy se_X0_copy (nlt rfl) rfl rfl rfl rfl (nle rfl) (by exact ⟨nle rfl, nle rfl⟩) dX8_copy_87 ?_
  rintro _ Xk7 ⟨rfl, hr, k7m⟩
  refine Wx_st (st' := []) rfl ?_
  refine x_iinc (lv' := [(2, .int (iI (1 + 1))), (0, .ref 104), (1, .ref 1)]) C dX8_copy_90 rfl (nlt rfl) rfl ?_
  refine Wx_lv (lv' := [(2, .int (iI (2))), (0, .ref 104), (1, .ref 1)]) rfl ?_
  refine x_goto (tgt := 70) C dX8_copy_93 (by decide) ?_
  refine x_iload_n (i := 2) C dX8_copy_70 rfl rfl ?_
  refine x_iconst C dX8_copy_71 ?_
  refine x_icmp_ge (tgt := 96) C dX8_copy_72 (by decide) ⟨by omega, by omega⟩ ⟨by omega, by omega⟩ (fun h8 => ?_) (fun h8 => by exfalso; omega)
  refine x_iconst C dX8_copy_96 ?_
  refine x_istore_n (i := 2) (lv' := [(2, .int (iI (0))), (0, .ref 104), (1, .ref 1)]) C dX8_copy_97 rfl (nlt rfl) rfl ?_
  refine x_iload_n (i := 2) C dX8_copy_98 rfl rfl ?_
  refine x_iconst C dX8_copy_99 ?_
  refine x_icmp_ge (tgt := 124) C dX8_copy_100 (by decide) ⟨by omega, by omega⟩ ⟨by omega, by omega⟩ (fun h9 => by exfalso; omega) (fun h9 => ?_)
  refine x_aload_n (i := 0) C dX8_copy_103 rfl rfl ?_
  refine x_getRs (r := 109) C fkX_X8_34 (nlt rfl) rfl (hr 104 7 rfl) dX8_copy_104 ?_
  refine x_iload_n (i := 2) C dX8_copy_107 rfl rfl ?_
  refine x_aald (r := some 116) C (nlt rfl) rfl rfl (nle rfl) (by omega) (by omega) (hr 109 0 rfl) dX8_copy_108 ?_
  refine x_aload_n (i := 1) C dX8_copy_109 rfl rfl ?_
  refine x_getRs (r := 6) C fkX_X8_34 (nlt rfl) rfl (hr 1 7 rfl) dX8_copy_110 ?_
  refine x_iload_n (i := 2) C dX8_copy_113 rfl rfl ?_
  refine x_aald (r := some 13) C (nlt rfl) rfl rfl (nle rfl) (by omega) (by omega) (hr 6 0 rfl) dX8_copy_114 ?_
  refine x_callV (As := [.ref 13]) C (by exact (n_gcopy_116_13 (by exact hr))) ckX8_56 im_X2_copy se_X2_copy (nlt rfl) rfl rfl rfl rfl (nle rfl) (by exact ⟨nle rfl, nle rfl⟩) dX8_copy_115 ?_
  rintro _ Xk10 ⟨rfl, hr, k10m⟩
  refine Wx_st (st' := []) rfl ?_
  refine x_iinc (lv' := [(2, .int (iI (0 + 1))), (0, .ref 104), (1, .ref 1)]) C dX8_copy_118 rfl (nlt rfl) rfl ?_
  refine Wx_lv (lv' := [(2, .int (iI (1))), (0, .ref 104), (1, .ref 1)]) rfl ?_
  refine x_goto (tgt := 98) C dX8_copy_121 (by decide) ?_
  refine x_iload_n (i := 2) C dX8_copy_98 rfl rfl ?_
  refine x_iconst C dX8_copy_99 ?_
  refine x_icmp_ge (tgt := 124) C dX8_copy_100 (by decide) ⟨by omega, by omega⟩ ⟨by omega, by omega⟩ (fun h11 => by exfalso; omega) (fun h11 => ?_)
  refine x_aload_n (i := 0) C dX8_copy_103 rfl rfl ?_
  refine x_getRs (r := 109) C fkX_X8_34 (nlt rfl) rfl (hr 104 7 rfl) dX8_copy_104 ?_
  refine x_iload_n (i := 2) C dX8_copy_107 rfl rfl ?_
  refine x_aald (r := some 119) C (nlt rfl) rfl rfl (nle rfl) (by omega) (by omega) (hr 109 1 rfl) dX8_copy_108 ?_
  refine x_aload_n (i := 1) C dX8_copy_109 rfl rfl ?_
  refine x_getRs (r := 6) C fkX_X8_34 (nlt rfl) rfl (hr 1 7 rfl) dX8_copy_110 ?_
  refine x_iload_n (i := 2) C dX8_copy_113 rfl rfl ?_
  refine x_aald (r := some 16) C (nlt rfl) rfl rfl (nle rfl) (by omega) (by omega) (hr 6 1 rfl) dX8_copy_114 ?_
  refine x_callV (As := [.ref 16]) C (by exact (n_gcopy_119_16 (by exact hr))) ckX8_56 im_X2_copy se_X2_copy (nlt rfl) rfl rfl rfl rfl (nle rfl) (by exact ⟨nle rfl, nle rfl⟩) dX8_copy_115 ?_
  rintro _ Xk12 ⟨rfl, hr, k12m⟩
  refine Wx_st (st' := []) rfl ?_
  refine x_iinc (lv' := [(2, .int (iI (1 + 1))), (0, .ref 104), (1, .ref 1)]) C dX8_copy_118 rfl (nlt rfl) rfl ?_
  refine Wx_lv (lv' := [(2, .int (iI (2))), (0, .ref 104), (1, .ref 1)]) rfl ?_
  refine x_goto (tgt := 98) C dX8_copy_121 (by decide) ?_
  refine x_iload_n (i := 2) C dX8_copy_98 rfl rfl ?_
  refine x_iconst C dX8_copy_99 ?_
  refine x_icmp_ge (tgt := 124) C dX8_copy_100 (by decide) ⟨by omega, by omega⟩ ⟨by omega, by omega⟩ (fun h13 => ?_) (fun h13 => by exfalso; omega)
  exact x_vret C hQ dX8_copy_124 (⟨rfl, hr⟩)
set_option maxHeartbeats 4000000 in
set_option maxRecDepth 100000 in
theorem n_bcopy_128_7 {D : va_G} {ad : Nat → Nat} {cA : Nat → ClassId} {X : XT} (hr : HRX X) : MetX (wX D ad cA) yX0_copy cX0_copy 2 none 1 60 [.ref 128, .ref 7] X (fun r X' => r = none ∧ HRX X' ∧ (∀ i, X'.1 3 i = X.1 3 i)) := by
  refine MetX.mk (own := RX0) (by decide +kernel) rfl (nle rfl) (fun E C hQ => ?_)
  refine Wx_lv (lv' := [(0, .ref 128), (1, .ref 7)]) rfl ?_
  refine x_aload_n (i := 0) C dX0_copy_0 rfl rfl ?_
  refine x_aload_n (i := 1) C dX0_copy_1 rfl rfl ?_
  refine x_getI C fkX_X0_18 (nlt rfl) rfl dX0_copy_2 ?_
  refine x_gen (fun v1 ev1 => ?_)
  refine x_putI C pkX_X0_18 (nlt rfl) rfl dX0_copy_5 ?_
  refine x_aload_n (i := 0) C dX0_copy_8 rfl rfl ?_
  refine x_aload_n (i := 1) C dX0_copy_9 rfl rfl ?_
  refine x_getI C fkX_X0_22 (nlt rfl) rfl dX0_copy_10 ?_
  refine x_gen (fun v2 ev2 => ?_)
  refine x_putI C pkX_X0_22 (nlt rfl) rfl dX0_copy_13 ?_
  refine x_aload_n (i := 0) C dX0_copy_16 rfl rfl ?_
  refine x_aload_n (i := 1) C dX0_copy_17 rfl rfl ?_
  refine x_getL C fkX_X0_25 (nlt rfl) rfl dX0_copy_18 ?_
  refine x_genL (fun l3 el3 => ?_)
  refine x_putL C pkX_X0_25 (nlt rfl) rfl dX0_copy_21 ?_
  refine x_aload_n (i := 0) C dX0_copy_24 rfl rfl ?_
  refine x_aload_n (i := 1) C dX0_copy_25 rfl rfl ?_
  refine x_getL C fkX_X0_29 (nlt rfl) rfl dX0_copy_26 ?_
  refine x_genL (fun l4 el4 => ?_)
  refine x_putL C pkX_X0_29 (nlt rfl) rfl dX0_copy_29 ?_
  refine x_aload_n (i := 0) C dX0_copy_32 rfl rfl ?_
  refine x_aload_n (i := 1) C dX0_copy_33 rfl rfl ?_
  refine x_getI C fkX_X0_32 (nlt rfl) rfl dX0_copy_34 ?_
  refine x_gen (fun v5 ev5 => ?_)
  refine x_putI C pkX_X0_32 (nlt rfl) rfl dX0_copy_37 ?_
  refine x_aload_n (i := 1) C dX0_copy_40 rfl rfl ?_
  refine x_getRs (r := 8) C fkX_X0_9 (nlt rfl) rfl (hr 7 5 rfl) dX0_copy_41 ?_
  refine x_iconst C dX0_copy_44 ?_
  refine x_aload_n (i := 0) C dX0_copy_45 rfl rfl ?_
  refine x_getRs (r := 129) C fkX_X0_9 (nlt rfl) rfl (hr 128 5 rfl) dX0_copy_46 ?_
  refine x_iconst C dX0_copy_49 ?_
  refine x_bipush C dX0_copy_50 (by decide) ?_
  refine x_cpyI C cpX0_35 (nlt rfl) rfl rfl (nlt rfl) rfl rfl rfl (by omega) (by omega) (by omega) (by omega) (by omega) (nle rfl) (nle rfl) (nle rfl) (nle rfl) dX0_copy_52 ?_
  refine x_aload_n (i := 1) C dX0_copy_55 rfl rfl ?_
  refine x_getRs (r := 9) C fkX_X0_15 (nlt rfl) rfl (hr 7 6 rfl) dX0_copy_56 ?_
  refine x_iconst C dX0_copy_59 ?_
  refine x_aload_n (i := 0) C dX0_copy_60 rfl rfl ?_
  refine x_getRs (r := 130) C fkX_X0_15 (nlt rfl) rfl (hr 128 6 rfl) dX0_copy_61 ?_
  refine x_iconst C dX0_copy_64 ?_
  refine x_bipush C dX0_copy_65 (by decide) ?_
  refine x_cpyI C cpX0_35 (nlt rfl) rfl rfl (nlt rfl) rfl rfl rfl (by omega) (by omega) (by omega) (by omega) (by omega) (nle rfl) (nle rfl) (nle rfl) (nle rfl) dX0_copy_67 ?_
  exact x_vret C hQ dX0_copy_70 (⟨rfl, hr, fun _ => rfl⟩)
set_option maxHeartbeats 4000000 in
set_option maxRecDepth 100000 in
theorem n_bcopy_131_10 {D : va_G} {ad : Nat → Nat} {cA : Nat → ClassId} {X : XT} (hr : HRX X) : MetX (wX D ad cA) yX0_copy cX0_copy 2 none 1 60 [.ref 131, .ref 10] X (fun r X' => r = none ∧ HRX X' ∧ (∀ i, X'.1 3 i = X.1 3 i)) := by
  refine MetX.mk (own := RX0) (by decide +kernel) rfl (nle rfl) (fun E C hQ => ?_)
  refine Wx_lv (lv' := [(0, .ref 131), (1, .ref 10)]) rfl ?_
  refine x_aload_n (i := 0) C dX0_copy_0 rfl rfl ?_
  refine x_aload_n (i := 1) C dX0_copy_1 rfl rfl ?_
  refine x_getI C fkX_X0_18 (nlt rfl) rfl dX0_copy_2 ?_
  refine x_gen (fun v1 ev1 => ?_)
  refine x_putI C pkX_X0_18 (nlt rfl) rfl dX0_copy_5 ?_
  refine x_aload_n (i := 0) C dX0_copy_8 rfl rfl ?_
  refine x_aload_n (i := 1) C dX0_copy_9 rfl rfl ?_
  refine x_getI C fkX_X0_22 (nlt rfl) rfl dX0_copy_10 ?_
  refine x_gen (fun v2 ev2 => ?_)
  refine x_putI C pkX_X0_22 (nlt rfl) rfl dX0_copy_13 ?_
  refine x_aload_n (i := 0) C dX0_copy_16 rfl rfl ?_
  refine x_aload_n (i := 1) C dX0_copy_17 rfl rfl ?_
  refine x_getL C fkX_X0_25 (nlt rfl) rfl dX0_copy_18 ?_
  refine x_genL (fun l3 el3 => ?_)
  refine x_putL C pkX_X0_25 (nlt rfl) rfl dX0_copy_21 ?_
  refine x_aload_n (i := 0) C dX0_copy_24 rfl rfl ?_
  refine x_aload_n (i := 1) C dX0_copy_25 rfl rfl ?_
  refine x_getL C fkX_X0_29 (nlt rfl) rfl dX0_copy_26 ?_
  refine x_genL (fun l4 el4 => ?_)
  refine x_putL C pkX_X0_29 (nlt rfl) rfl dX0_copy_29 ?_
  refine x_aload_n (i := 0) C dX0_copy_32 rfl rfl ?_
  refine x_aload_n (i := 1) C dX0_copy_33 rfl rfl ?_
  refine x_getI C fkX_X0_32 (nlt rfl) rfl dX0_copy_34 ?_
  refine x_gen (fun v5 ev5 => ?_)
  refine x_putI C pkX_X0_32 (nlt rfl) rfl dX0_copy_37 ?_
  refine x_aload_n (i := 1) C dX0_copy_40 rfl rfl ?_
  refine x_getRs (r := 11) C fkX_X0_9 (nlt rfl) rfl (hr 10 5 rfl) dX0_copy_41 ?_
  refine x_iconst C dX0_copy_44 ?_
  refine x_aload_n (i := 0) C dX0_copy_45 rfl rfl ?_
  refine x_getRs (r := 132) C fkX_X0_9 (nlt rfl) rfl (hr 131 5 rfl) dX0_copy_46 ?_
  refine x_iconst C dX0_copy_49 ?_
  refine x_bipush C dX0_copy_50 (by decide) ?_
  refine x_cpyI C cpX0_35 (nlt rfl) rfl rfl (nlt rfl) rfl rfl rfl (by omega) (by omega) (by omega) (by omega) (by omega) (nle rfl) (nle rfl) (nle rfl) (nle rfl) dX0_copy_52 ?_
  refine x_aload_n (i := 1) C dX0_copy_55 rfl rfl ?_
  refine x_getRs (r := 12) C fkX_X0_15 (nlt rfl) rfl (hr 10 6 rfl) dX0_copy_56 ?_
  refine x_iconst C dX0_copy_59 ?_
  refine x_aload_n (i := 0) C dX0_copy_60 rfl rfl ?_
  refine x_getRs (r := 133) C fkX_X0_15 (nlt rfl) rfl (hr 131 6 rfl) dX0_copy_61 ?_
  refine x_iconst C dX0_copy_64 ?_
  refine x_bipush C dX0_copy_65 (by decide) ?_
  refine x_cpyI C cpX0_35 (nlt rfl) rfl rfl (nlt rfl) rfl rfl rfl (by omega) (by omega) (by omega) (by omega) (by omega) (nle rfl) (nle rfl) (nle rfl) (nle rfl) dX0_copy_67 ?_
  exact x_vret C hQ dX0_copy_70 (⟨rfl, hr, fun _ => rfl⟩)
set_option maxHeartbeats 4000000 in
set_option maxRecDepth 100000 in
theorem n_gcopy_134_13 {D : va_G} {ad : Nat → Nat} {cA : Nat → ClassId} {X : XT} (hr : HRX X) : MetX (wX D ad cA) yX2_copy cX2_copy 2 none 1 60 [.ref 134, .ref 13] X (fun r X' => r = none ∧ HRX X' ∧ (∀ i, X'.1 3 i = X.1 3 i)) := by
  refine MetX.mk (own := RX2) (by decide +kernel) rfl (nle rfl) (fun E C hQ => ?_)
  refine Wx_lv (lv' := [(0, .ref 134), (1, .ref 13)]) rfl ?_
  refine x_aload_n (i := 0) C dX2_copy_0 rfl rfl ?_
  refine x_aload_n (i := 1) C dX2_copy_1 rfl rfl ?_
  refine x_getI C fkX_X2_19 (nlt rfl) rfl dX2_copy_2 ?_
  refine x_gen (fun v1 ev1 => ?_)
  refine x_putI C pkX_X2_19 (nlt rfl) rfl dX2_copy_5 ?_
  refine x_aload_n (i := 1) C dX2_copy_8 rfl rfl ?_
  refine x_getRs (r := 14) C fkX_X2_9 (nlt rfl) rfl (hr 13 1 rfl) dX2_copy_9 ?_
  refine x_iconst C dX2_copy_12 ?_
  refine x_aload_n (i := 0) C dX2_copy_13 rfl rfl ?_
  refine x_getRs (r := 135) C fkX_X2_9 (nlt rfl) rfl (hr 134 1 rfl) dX2_copy_14 ?_
  refine x_iconst C dX2_copy_17 ?_
  refine x_bipush C dX2_copy_18 (by decide) ?_
  refine x_cpyL C cpX2_23 (nlt rfl) rfl rfl (nlt rfl) rfl rfl (by omega) (by omega) (by omega) (by omega) (by omega) (nle rfl) (nle rfl) (nle rfl) (nle rfl) dX2_copy_20 ?_
  refine x_aload_n (i := 1) C dX2_copy_23 rfl rfl ?_
  refine x_getRs (r := 15) C fkX_X2_15 (nlt rfl) rfl (hr 13 2 rfl) dX2_copy_24 ?_
  refine x_iconst C dX2_copy_27 ?_
  refine x_aload_n (i := 0) C dX2_copy_28 rfl rfl ?_
  refine x_getRs (r := 136) C fkX_X2_15 (nlt rfl) rfl (hr 134 2 rfl) dX2_copy_29 ?_
  refine x_iconst C dX2_copy_32 ?_
  refine x_bipush C dX2_copy_33 (by decide) ?_
  refine x_cpyI C cpX2_23 (nlt rfl) rfl rfl (nlt rfl) rfl rfl rfl (by omega) (by omega) (by omega) (by omega) (by omega) (nle rfl) (nle rfl) (nle rfl) (nle rfl) dX2_copy_35 ?_
  exact x_vret C hQ dX2_copy_38 (⟨rfl, hr, fun _ => rfl⟩)
set_option maxHeartbeats 4000000 in
set_option maxRecDepth 100000 in
theorem n_gcopy_137_16 {D : va_G} {ad : Nat → Nat} {cA : Nat → ClassId} {X : XT} (hr : HRX X) : MetX (wX D ad cA) yX2_copy cX2_copy 2 none 1 60 [.ref 137, .ref 16] X (fun r X' => r = none ∧ HRX X' ∧ (∀ i, X'.1 3 i = X.1 3 i)) := by
  refine MetX.mk (own := RX2) (by decide +kernel) rfl (nle rfl) (fun E C hQ => ?_)
  refine Wx_lv (lv' := [(0, .ref 137), (1, .ref 16)]) rfl ?_
  refine x_aload_n (i := 0) C dX2_copy_0 rfl rfl ?_
  refine x_aload_n (i := 1) C dX2_copy_1 rfl rfl ?_
  refine x_getI C fkX_X2_19 (nlt rfl) rfl dX2_copy_2 ?_
  refine x_gen (fun v1 ev1 => ?_)
  refine x_putI C pkX_X2_19 (nlt rfl) rfl dX2_copy_5 ?_
  refine x_aload_n (i := 1) C dX2_copy_8 rfl rfl ?_
  refine x_getRs (r := 17) C fkX_X2_9 (nlt rfl) rfl (hr 16 1 rfl) dX2_copy_9 ?_
  refine x_iconst C dX2_copy_12 ?_
  refine x_aload_n (i := 0) C dX2_copy_13 rfl rfl ?_
  refine x_getRs (r := 138) C fkX_X2_9 (nlt rfl) rfl (hr 137 1 rfl) dX2_copy_14 ?_
  refine x_iconst C dX2_copy_17 ?_
  refine x_bipush C dX2_copy_18 (by decide) ?_
  refine x_cpyL C cpX2_23 (nlt rfl) rfl rfl (nlt rfl) rfl rfl (by omega) (by omega) (by omega) (by omega) (by omega) (nle rfl) (nle rfl) (nle rfl) (nle rfl) dX2_copy_20 ?_
  refine x_aload_n (i := 1) C dX2_copy_23 rfl rfl ?_
  refine x_getRs (r := 18) C fkX_X2_15 (nlt rfl) rfl (hr 16 2 rfl) dX2_copy_24 ?_
  refine x_iconst C dX2_copy_27 ?_
  refine x_aload_n (i := 0) C dX2_copy_28 rfl rfl ?_
  refine x_getRs (r := 139) C fkX_X2_15 (nlt rfl) rfl (hr 137 2 rfl) dX2_copy_29 ?_
  refine x_iconst C dX2_copy_32 ?_
  refine x_bipush C dX2_copy_33 (by decide) ?_
  refine x_cpyI C cpX2_23 (nlt rfl) rfl rfl (nlt rfl) rfl rfl rfl (by omega) (by omega) (by omega) (by omega) (by omega) (nle rfl) (nle rfl) (nle rfl) (nle rfl) dX2_copy_35 ?_
  exact x_vret C hQ dX2_copy_38 (⟨rfl, hr, fun _ => rfl⟩)
set_option maxHeartbeats 4000000 in
set_option maxRecDepth 100000 in
theorem n_tcopy_122 {D : va_G} {ad : Nat → Nat} {cA : Nat → ClassId} {X : XT} (hr : HRX X) : MetX (wX D ad cA) yX8_copy cX8_copy 3 none 2 81 [.ref 122, .ref 1] X (fun r X' => r = none ∧ HRX X') := by
  refine MetX.mk (own := RX8) (by decide +kernel) rfl (nle rfl) (fun E C hQ => ?_)
  refine Wx_lv (lv' := [(0, .ref 122), (1, .ref 1)]) rfl ?_
  refine x_aload_n (i := 0) C dX8_copy_0 rfl rfl ?_
  refine x_aload_n (i := 1) C dX8_copy_1 rfl rfl ?_
  refine x_getI C fkX_X8_40 (nlt rfl) rfl dX8_copy_2 ?_
  refine x_gen (fun v1 ev1 => ?_)
  refine x_putI C pkX_X8_40 (nlt rfl) rfl dX8_copy_5 ?_
  refine x_aload_n (i := 0) C dX8_copy_8 rfl rfl ?_
  refine x_aload_n (i := 1) C dX8_copy_9 rfl rfl ?_
  refine x_getI C fkX_X8_43 (nlt rfl) rfl dX8_copy_10 ?_
  refine x_gen (fun v2 ev2 => ?_)
  refine x_putI C pkX_X8_43 (nlt rfl) rfl dX8_copy_13 ?_
  refine x_aload_n (i := 0) C dX8_copy_16 rfl rfl ?_
  refine x_aload_n (i := 1) C dX8_copy_17 rfl rfl ?_
  refine x_getI C fkX_X8_9 (nlt rfl) rfl dX8_copy_18 ?_
  refine x_gen (fun v3 ev3 => ?_)
  refine x_putI C pkX_X8_9 (nlt rfl) rfl dX8_copy_21 ?_
  refine x_aload_n (i := 1) C dX8_copy_24 rfl rfl ?_
  refine x_getRs (r := 2) C fkX_X8_15 (nlt rfl) rfl (hr 1 3 rfl) dX8_copy_25 ?_
  refine x_iconst C dX8_copy_28 ?_
  refine x_aload_n (i := 0) C dX8_copy_29 rfl rfl ?_
  refine x_getRs (r := 123) C fkX_X8_15 (nlt rfl) rfl (hr 122 3 rfl) dX8_copy_30 ?_
  refine x_iconst C dX8_copy_33 ?_
  refine x_sipush C dX8_copy_34 (by decide) ?_
  refine x_cpyI C cpX8_46 (nlt rfl) rfl rfl (nlt rfl) rfl rfl rfl (by omega) (by omega) (by omega) (by omega) (by omega) (nle rfl) (nle rfl) (nle rfl) (nle rfl) dX8_copy_37 ?_
  refine x_aload_n (i := 1) C dX8_copy_40 rfl rfl ?_
  refine x_getRs (r := 3) C fkX_X8_19 (nlt rfl) rfl (hr 1 4 rfl) dX8_copy_41 ?_
  refine x_iconst C dX8_copy_44 ?_
  refine x_aload_n (i := 0) C dX8_copy_45 rfl rfl ?_
  refine x_getRs (r := 124) C fkX_X8_19 (nlt rfl) rfl (hr 122 4 rfl) dX8_copy_46 ?_
  refine x_iconst C dX8_copy_49 ?_
  refine x_iconst C dX8_copy_50 ?_
  refine x_cpyI C cpX8_46 (nlt rfl) rfl rfl (nlt rfl) rfl rfl rfl (by omega) (by omega) (by omega) (by omega) (by omega) (nle rfl) (nle rfl) (nle rfl) (nle rfl) dX8_copy_51 ?_
  refine x_aload_n (i := 1) C dX8_copy_54 rfl rfl ?_
  refine x_getRs (r := 5) C fkX_X8_28 (nlt rfl) rfl (hr 1 6 rfl) dX8_copy_55 ?_
  refine x_iconst C dX8_copy_58 ?_
  refine x_aload_n (i := 0) C dX8_copy_59 rfl rfl ?_
  refine x_getRs (r := 126) C fkX_X8_28 (nlt rfl) rfl (hr 122 6 rfl) dX8_copy_60 ?_
  refine x_iconst C dX8_copy_63 ?_
  refine x_iconst C dX8_copy_64 ?_
  refine x_cpyL C cpX8_46 (nlt rfl) rfl rfl (nlt rfl) rfl rfl (by omega) (by omega) (by omega) (by omega) (by omega) (nle rfl) (nle rfl) (nle rfl) (nle rfl) dX8_copy_65 ?_
  refine x_iconst C dX8_copy_68 ?_
  refine x_istore_n (i := 2) (lv' := [(2, .int (iI (0))), (0, .ref 122), (1, .ref 1)]) C dX8_copy_69 rfl (nlt rfl) rfl ?_
  refine x_iload_n (i := 2) C dX8_copy_70 rfl rfl ?_
  refine x_iconst C dX8_copy_71 ?_
  refine x_icmp_ge (tgt := 96) C dX8_copy_72 (by decide) ⟨by omega, by omega⟩ ⟨by omega, by omega⟩ (fun h4 => by exfalso; omega) (fun h4 => ?_)
  refine x_aload_n (i := 0) C dX8_copy_75 rfl rfl ?_
  refine x_getRs (r := 125) C fkX_X8_24 (nlt rfl) rfl (hr 122 5 rfl) dX8_copy_76 ?_
  refine x_iload_n (i := 2) C dX8_copy_79 rfl rfl ?_
  refine x_aald (r := some 128) C (nlt rfl) rfl rfl (nle rfl) (by omega) (by omega) (hr 125 0 rfl) dX8_copy_80 ?_
  refine x_aload_n (i := 1) C dX8_copy_81 rfl rfl ?_
  refine x_getRs (r := 4) C fkX_X8_24 (nlt rfl) rfl (hr 1 5 rfl) dX8_copy_82 ?_
  refine x_iload_n (i := 2) C dX8_copy_85 rfl rfl ?_
  refine x_aald (r := some 7) C (nlt rfl) rfl rfl (nle rfl) (by omega) (by omega) (hr 4 0 rfl) dX8_copy_86 ?_
  refine x_callV (As := [.ref 7]) C (by exact (n_bcopy_128_7 (by exact hr))) ckX8_52 im_X0_copy se_X0_copy (nlt rfl) rfl rfl rfl rfl (nle rfl) (by exact ⟨nle rfl, nle rfl⟩) dX8_copy_87 ?_
  rintro _ Xk5 ⟨rfl, hr, k5m⟩
  refine Wx_st (st' := []) rfl ?_
  refine x_iinc (lv' := [(2, .int (iI (0 + 1))), (0, .ref 122), (1, .ref 1)]) C dX8_copy_90 rfl (nlt rfl) rfl ?_
  refine Wx_lv (lv' := [(2, .int (iI (1))), (0, .ref 122), (1, .ref 1)]) rfl ?_
  refine x_goto (tgt := 70) C dX8_copy_93 (by decide) ?_
  refine x_iload_n (i := 2) C dX8_copy_70 rfl rfl ?_
  refine x_iconst C dX8_copy_71 ?_
  refine x_icmp_ge (tgt := 96) C dX8_copy_72 (by decide) ⟨by omega, by omega⟩ ⟨by omega, by omega⟩ (fun h6 => by exfalso; omega) (fun h6 => ?_)
  refine x_aload_n (i := 0) C dX8_copy_75 rfl rfl ?_
  refine x_getRs (r := 125) C fkX_X8_24 (nlt rfl) rfl (hr 122 5 rfl) dX8_copy_76 ?_
  refine x_iload_n (i := 2) C dX8_copy_79 rfl rfl ?_
  refine x_aald (r := some 131) C (nlt rfl) rfl rfl (nle rfl) (by omega) (by omega) (hr 125 1 rfl) dX8_copy_80 ?_
  refine x_aload_n (i := 1) C dX8_copy_81 rfl rfl ?_
  refine x_getRs (r := 4) C fkX_X8_24 (nlt rfl) rfl (hr 1 5 rfl) dX8_copy_82 ?_
  refine x_iload_n (i := 2) C dX8_copy_85 rfl rfl ?_
  refine x_aald (r := some 10) C (nlt rfl) rfl rfl (nle rfl) (by omega) (by omega) (hr 4 1 rfl) dX8_copy_86 ?_
  refine x_callV (As := [.ref 10]) C (by exact (n_bcopy_131_10 (by exact hr))) ckX8_52 im_X0_copy se_X0_copy (nlt rfl) rfl rfl rfl rfl (nle rfl) (by exact ⟨nle rfl, nle rfl⟩) dX8_copy_87 ?_
  rintro _ Xk7 ⟨rfl, hr, k7m⟩
  refine Wx_st (st' := []) rfl ?_
  refine x_iinc (lv' := [(2, .int (iI (1 + 1))), (0, .ref 122), (1, .ref 1)]) C dX8_copy_90 rfl (nlt rfl) rfl ?_
  refine Wx_lv (lv' := [(2, .int (iI (2))), (0, .ref 122), (1, .ref 1)]) rfl ?_
  refine x_goto (tgt := 70) C dX8_copy_93 (by decide) ?_
  refine x_iload_n (i := 2) C dX8_copy_70 rfl rfl ?_
  refine x_iconst C dX8_copy_71 ?_
  refine x_icmp_ge (tgt := 96) C dX8_copy_72 (by decide) ⟨by omega, by omega⟩ ⟨by omega, by omega⟩ (fun h8 => ?_) (fun h8 => by exfalso; omega)
  refine x_iconst C dX8_copy_96 ?_
  refine x_istore_n (i := 2) (lv' := [(2, .int (iI (0))), (0, .ref 122), (1, .ref 1)]) C dX8_copy_97 rfl (nlt rfl) rfl ?_
  refine x_iload_n (i := 2) C dX8_copy_98 rfl rfl ?_
  refine x_iconst C dX8_copy_99 ?_
  refine x_icmp_ge (tgt := 124) C dX8_copy_100 (by decide) ⟨by omega, by omega⟩ ⟨by omega, by omega⟩ (fun h9 => by exfalso; omega) (fun h9 => ?_)
  refine x_aload_n (i := 0) C dX8_copy_103 rfl rfl ?_
  refine x_getRs (r := 127) C fkX_X8_34 (nlt rfl) rfl (hr 122 7 rfl) dX8_copy_104 ?_
  refine x_iload_n (i := 2) C dX8_copy_107 rfl rfl ?_
  refine x_aald (r := some 134) C (nlt rfl) rfl rfl (nle rfl) (by omega) (by omega) (hr 127 0 rfl) dX8_copy_108 ?_
  refine x_aload_n (i := 1) C dX8_copy_109 rfl rfl ?_
  refine x_getRs (r := 6) C fkX_X8_34 (nlt rfl) rfl (hr 1 7 rfl) dX8_copy_110 ?_
  refine x_iload_n (i := 2) C dX8_copy_113 rfl rfl ?_
  refine x_aald (r := some 13) C (nlt rfl) rfl rfl (nle rfl) (by omega) (by omega) (hr 6 0 rfl) dX8_copy_114 ?_
  refine x_callV (As := [.ref 13]) C (by exact (n_gcopy_134_13 (by exact hr))) ckX8_56 im_X2_copy se_X2_copy (nlt rfl) rfl rfl rfl rfl (nle rfl) (by exact ⟨nle rfl, nle rfl⟩) dX8_copy_115 ?_
  rintro _ Xk10 ⟨rfl, hr, k10m⟩
  refine Wx_st (st' := []) rfl ?_
  refine x_iinc (lv' := [(2, .int (iI (0 + 1))), (0, .ref 122), (1, .ref 1)]) C dX8_copy_118 rfl (nlt rfl) rfl ?_
  refine Wx_lv (lv' := [(2, .int (iI (1))), (0, .ref 122), (1, .ref 1)]) rfl ?_
  refine x_goto (tgt := 98) C dX8_copy_121 (by decide) ?_
  refine x_iload_n (i := 2) C dX8_copy_98 rfl rfl ?_
  refine x_iconst C dX8_copy_99 ?_
  refine x_icmp_ge (tgt := 124) C dX8_copy_100 (by decide) ⟨by omega, by omega⟩ ⟨by omega, by omega⟩ (fun h11 => by exfalso; omega) (fun h11 => ?_)
  refine x_aload_n (i := 0) C dX8_copy_103 rfl rfl ?_
  refine x_getRs (r := 127) C fkX_X8_34 (nlt rfl) rfl (hr 122 7 rfl) dX8_copy_104 ?_
  refine x_iload_n (i := 2) C dX8_copy_107 rfl rfl ?_
  refine x_aald (r := some 137) C (nlt rfl) rfl rfl (nle rfl) (by omega) (by omega) (hr 127 1 rfl) dX8_copy_108 ?_
  refine x_aload_n (i := 1) C dX8_copy_109 rfl rfl ?_
  refine x_getRs (r := 6) C fkX_X8_34 (nlt rfl) rfl (hr 1 7 rfl) dX8_copy_110 ?_
  refine x_iload_n (i := 2) C dX8_copy_113 rfl rfl ?_
  refine x_aald (r := some 16) C (nlt rfl) rfl rfl (nle rfl) (by omega) (by omega) (hr 6 1 rfl) dX8_copy_114 ?_
  refine x_callV (As := [.ref 16]) C (by exact (n_gcopy_137_16 (by exact hr))) ckX8_56 im_X2_copy se_X2_copy (nlt rfl) rfl rfl rfl rfl (nle rfl) (by exact ⟨nle rfl, nle rfl⟩) dX8_copy_115 ?_
  rintro _ Xk12 ⟨rfl, hr, k12m⟩
  refine Wx_st (st' := []) rfl ?_
  refine x_iinc (lv' := [(2, .int (iI (1 + 1))), (0, .ref 122), (1, .ref 1)]) C dX8_copy_118 rfl (nlt rfl) rfl ?_
  refine Wx_lv (lv' := [(2, .int (iI (2))), (0, .ref 122), (1, .ref 1)]) rfl ?_
  refine x_goto (tgt := 98) C dX8_copy_121 (by decide) ?_
  refine x_iload_n (i := 2) C dX8_copy_98 rfl rfl ?_
  refine x_iconst C dX8_copy_99 ?_
  refine x_icmp_ge (tgt := 124) C dX8_copy_100 (by decide) ⟨by omega, by omega⟩ ⟨by omega, by omega⟩ (fun h13 => ?_) (fun h13 => by exfalso; omega)
  exact x_vret C hQ dX8_copy_124 (⟨rfl, hr⟩)
set_option maxHeartbeats 4000000 in
set_option maxRecDepth 100000 in
theorem n_bcopy_146_7 {D : va_G} {ad : Nat → Nat} {cA : Nat → ClassId} {X : XT} (hr : HRX X) : MetX (wX D ad cA) yX0_copy cX0_copy 2 none 1 60 [.ref 146, .ref 7] X (fun r X' => r = none ∧ HRX X' ∧ (∀ i, X'.1 3 i = X.1 3 i)) := by
  refine MetX.mk (own := RX0) (by decide +kernel) rfl (nle rfl) (fun E C hQ => ?_)
  refine Wx_lv (lv' := [(0, .ref 146), (1, .ref 7)]) rfl ?_
  refine x_aload_n (i := 0) C dX0_copy_0 rfl rfl ?_
  refine x_aload_n (i := 1) C dX0_copy_1 rfl rfl ?_
  refine x_getI C fkX_X0_18 (nlt rfl) rfl dX0_copy_2 ?_
  refine x_gen (fun v1 ev1 => ?_)
  refine x_putI C pkX_X0_18 (nlt rfl) rfl dX0_copy_5 ?_
  refine x_aload_n (i := 0) C dX0_copy_8 rfl rfl ?_
  refine x_aload_n (i := 1) C dX0_copy_9 rfl rfl ?_
  refine x_getI C fkX_X0_22 (nlt rfl) rfl dX0_copy_10 ?_
  refine x_gen (fun v2 ev2 => ?_)
  refine x_putI C pkX_X0_22 (nlt rfl) rfl dX0_copy_13 ?_
  refine x_aload_n (i := 0) C dX0_copy_16 rfl rfl ?_
  refine x_aload_n (i := 1) C dX0_copy_17 rfl rfl ?_
  refine x_getL C fkX_X0_25 (nlt rfl) rfl dX0_copy_18 ?_
  refine x_genL (fun l3 el3 => ?_)
  refine x_putL C pkX_X0_25 (nlt rfl) rfl dX0_copy_21 ?_
  refine x_aload_n (i := 0) C dX0_copy_24 rfl rfl ?_
  refine x_aload_n (i := 1) C dX0_copy_25 rfl rfl ?_
  refine x_getL C fkX_X0_29 (nlt rfl) rfl dX0_copy_26 ?_
  refine x_genL (fun l4 el4 => ?_)
  refine x_putL C pkX_X0_29 (nlt rfl) rfl dX0_copy_29 ?_
  refine x_aload_n (i := 0) C dX0_copy_32 rfl rfl ?_
  refine x_aload_n (i := 1) C dX0_copy_33 rfl rfl ?_
  refine x_getI C fkX_X0_32 (nlt rfl) rfl dX0_copy_34 ?_
  refine x_gen (fun v5 ev5 => ?_)
  refine x_putI C pkX_X0_32 (nlt rfl) rfl dX0_copy_37 ?_
  refine x_aload_n (i := 1) C dX0_copy_40 rfl rfl ?_
  refine x_getRs (r := 8) C fkX_X0_9 (nlt rfl) rfl (hr 7 5 rfl) dX0_copy_41 ?_
  refine x_iconst C dX0_copy_44 ?_
  refine x_aload_n (i := 0) C dX0_copy_45 rfl rfl ?_
  refine x_getRs (r := 147) C fkX_X0_9 (nlt rfl) rfl (hr 146 5 rfl) dX0_copy_46 ?_
  refine x_iconst C dX0_copy_49 ?_
  refine x_bipush C dX0_copy_50 (by decide) ?_
  refine x_cpyI C cpX0_35 (nlt rfl) rfl rfl (nlt rfl) rfl rfl rfl (by omega) (by omega) (by omega) (by omega) (by omega) (nle rfl) (nle rfl) (nle rfl) (nle rfl) dX0_copy_52 ?_
  refine x_aload_n (i := 1) C dX0_copy_55 rfl rfl ?_
  refine x_getRs (r := 9) C fkX_X0_15 (nlt rfl) rfl (hr 7 6 rfl) dX0_copy_56 ?_
  refine x_iconst C dX0_copy_59 ?_
  refine x_aload_n (i := 0) C dX0_copy_60 rfl rfl ?_
  refine x_getRs (r := 148) C fkX_X0_15 (nlt rfl) rfl (hr 146 6 rfl) dX0_copy_61 ?_
  refine x_iconst C dX0_copy_64 ?_
  refine x_bipush C dX0_copy_65 (by decide) ?_
  refine x_cpyI C cpX0_35 (nlt rfl) rfl rfl (nlt rfl) rfl rfl rfl (by omega) (by omega) (by omega) (by omega) (by omega) (nle rfl) (nle rfl) (nle rfl) (nle rfl) dX0_copy_67 ?_
  exact x_vret C hQ dX0_copy_70 (⟨rfl, hr, fun _ => rfl⟩)
set_option maxHeartbeats 4000000 in
set_option maxRecDepth 100000 in
theorem n_bcopy_149_10 {D : va_G} {ad : Nat → Nat} {cA : Nat → ClassId} {X : XT} (hr : HRX X) : MetX (wX D ad cA) yX0_copy cX0_copy 2 none 1 60 [.ref 149, .ref 10] X (fun r X' => r = none ∧ HRX X' ∧ (∀ i, X'.1 3 i = X.1 3 i)) := by
  refine MetX.mk (own := RX0) (by decide +kernel) rfl (nle rfl) (fun E C hQ => ?_)
  refine Wx_lv (lv' := [(0, .ref 149), (1, .ref 10)]) rfl ?_
  refine x_aload_n (i := 0) C dX0_copy_0 rfl rfl ?_
  refine x_aload_n (i := 1) C dX0_copy_1 rfl rfl ?_
  refine x_getI C fkX_X0_18 (nlt rfl) rfl dX0_copy_2 ?_
  refine x_gen (fun v1 ev1 => ?_)
  refine x_putI C pkX_X0_18 (nlt rfl) rfl dX0_copy_5 ?_
  refine x_aload_n (i := 0) C dX0_copy_8 rfl rfl ?_
  refine x_aload_n (i := 1) C dX0_copy_9 rfl rfl ?_
  refine x_getI C fkX_X0_22 (nlt rfl) rfl dX0_copy_10 ?_
  refine x_gen (fun v2 ev2 => ?_)
  refine x_putI C pkX_X0_22 (nlt rfl) rfl dX0_copy_13 ?_
  refine x_aload_n (i := 0) C dX0_copy_16 rfl rfl ?_
  refine x_aload_n (i := 1) C dX0_copy_17 rfl rfl ?_
  refine x_getL C fkX_X0_25 (nlt rfl) rfl dX0_copy_18 ?_
  refine x_genL (fun l3 el3 => ?_)
  refine x_putL C pkX_X0_25 (nlt rfl) rfl dX0_copy_21 ?_
  refine x_aload_n (i := 0) C dX0_copy_24 rfl rfl ?_
  refine x_aload_n (i := 1) C dX0_copy_25 rfl rfl ?_
  refine x_getL C fkX_X0_29 (nlt rfl) rfl dX0_copy_26 ?_
  refine x_genL (fun l4 el4 => ?_)
  refine x_putL C pkX_X0_29 (nlt rfl) rfl dX0_copy_29 ?_
  refine x_aload_n (i := 0) C dX0_copy_32 rfl rfl ?_
  refine x_aload_n (i := 1) C dX0_copy_33 rfl rfl ?_
  refine x_getI C fkX_X0_32 (nlt rfl) rfl dX0_copy_34 ?_
  refine x_gen (fun v5 ev5 => ?_)
  refine x_putI C pkX_X0_32 (nlt rfl) rfl dX0_copy_37 ?_
  refine x_aload_n (i := 1) C dX0_copy_40 rfl rfl ?_
  refine x_getRs (r := 11) C fkX_X0_9 (nlt rfl) rfl (hr 10 5 rfl) dX0_copy_41 ?_
  refine x_iconst C dX0_copy_44 ?_
  refine x_aload_n (i := 0) C dX0_copy_45 rfl rfl ?_
  refine x_getRs (r := 150) C fkX_X0_9 (nlt rfl) rfl (hr 149 5 rfl) dX0_copy_46 ?_
  refine x_iconst C dX0_copy_49 ?_
  refine x_bipush C dX0_copy_50 (by decide) ?_
  refine x_cpyI C cpX0_35 (nlt rfl) rfl rfl (nlt rfl) rfl rfl rfl (by omega) (by omega) (by omega) (by omega) (by omega) (nle rfl) (nle rfl) (nle rfl) (nle rfl) dX0_copy_52 ?_
  refine x_aload_n (i := 1) C dX0_copy_55 rfl rfl ?_
  refine x_getRs (r := 12) C fkX_X0_15 (nlt rfl) rfl (hr 10 6 rfl) dX0_copy_56 ?_
  refine x_iconst C dX0_copy_59 ?_
  refine x_aload_n (i := 0) C dX0_copy_60 rfl rfl ?_
  refine x_getRs (r := 151) C fkX_X0_15 (nlt rfl) rfl (hr 149 6 rfl) dX0_copy_61 ?_
  refine x_iconst C dX0_copy_64 ?_
  refine x_bipush C dX0_copy_65 (by decide) ?_
  refine x_cpyI C cpX0_35 (nlt rfl) rfl rfl (nlt rfl) rfl rfl rfl (by omega) (by omega) (by omega) (by omega) (by omega) (nle rfl) (nle rfl) (nle rfl) (nle rfl) dX0_copy_67 ?_
  exact x_vret C hQ dX0_copy_70 (⟨rfl, hr, fun _ => rfl⟩)
set_option maxHeartbeats 4000000 in
set_option maxRecDepth 100000 in
theorem n_gcopy_152_13 {D : va_G} {ad : Nat → Nat} {cA : Nat → ClassId} {X : XT} (hr : HRX X) : MetX (wX D ad cA) yX2_copy cX2_copy 2 none 1 60 [.ref 152, .ref 13] X (fun r X' => r = none ∧ HRX X' ∧ (∀ i, X'.1 3 i = X.1 3 i)) := by
  refine MetX.mk (own := RX2) (by decide +kernel) rfl (nle rfl) (fun E C hQ => ?_)
  refine Wx_lv (lv' := [(0, .ref 152), (1, .ref 13)]) rfl ?_
  refine x_aload_n (i := 0) C dX2_copy_0 rfl rfl ?_
  refine x_aload_n (i := 1) C dX2_copy_1 rfl rfl ?_
  refine x_getI C fkX_X2_19 (nlt rfl) rfl dX2_copy_2 ?_
  refine x_gen (fun v1 ev1 => ?_)
  refine x_putI C pkX_X2_19 (nlt rfl) rfl dX2_copy_5 ?_
  refine x_aload_n (i := 1) C dX2_copy_8 rfl rfl ?_
  refine x_getRs (r := 14) C fkX_X2_9 (nlt rfl) rfl (hr 13 1 rfl) dX2_copy_9 ?_
  refine x_iconst C dX2_copy_12 ?_
  refine x_aload_n (i := 0) C dX2_copy_13 rfl rfl ?_
  refine x_getRs (r := 153) C fkX_X2_9 (nlt rfl) rfl (hr 152 1 rfl) dX2_copy_14 ?_
  refine x_iconst C dX2_copy_17 ?_
  refine x_bipush C dX2_copy_18 (by decide) ?_
  refine x_cpyL C cpX2_23 (nlt rfl) rfl rfl (nlt rfl) rfl rfl (by omega) (by omega) (by omega) (by omega) (by omega) (nle rfl) (nle rfl) (nle rfl) (nle rfl) dX2_copy_20 ?_
  refine x_aload_n (i := 1) C dX2_copy_23 rfl rfl ?_
  refine x_getRs (r := 15) C fkX_X2_15 (nlt rfl) rfl (hr 13 2 rfl) dX2_copy_24 ?_
  refine x_iconst C dX2_copy_27 ?_
  refine x_aload_n (i := 0) C dX2_copy_28 rfl rfl ?_
  refine x_getRs (r := 154) C fkX_X2_15 (nlt rfl) rfl (hr 152 2 rfl) dX2_copy_29 ?_
  refine x_iconst C dX2_copy_32 ?_
  refine x_bipush C dX2_copy_33 (by decide) ?_
  refine x_cpyI C cpX2_23 (nlt rfl) rfl rfl (nlt rfl) rfl rfl rfl (by omega) (by omega) (by omega) (by omega) (by omega) (nle rfl) (nle rfl) (nle rfl) (nle rfl) dX2_copy_35 ?_
  exact x_vret C hQ dX2_copy_38 (⟨rfl, hr, fun _ => rfl⟩)
set_option maxHeartbeats 4000000 in
set_option maxRecDepth 100000 in
theorem n_gcopy_155_16 {D : va_G} {ad : Nat → Nat} {cA : Nat → ClassId} {X : XT} (hr : HRX X) : MetX (wX D ad cA) yX2_copy cX2_copy 2 none 1 60 [.ref 155, .ref 16] X (fun r X' => r = none ∧ HRX X' ∧ (∀ i, X'.1 3 i = X.1 3 i)) := by
  refine MetX.mk (own := RX2) (by decide +kernel) rfl (nle rfl) (fun E C hQ => ?_)
  refine Wx_lv (lv' := [(0, .ref 155), (1, .ref 16)]) rfl ?_
  refine x_aload_n (i := 0) C dX2_copy_0 rfl rfl ?_
  refine x_aload_n (i := 1) C dX2_copy_1 rfl rfl ?_
  refine x_getI C fkX_X2_19 (nlt rfl) rfl dX2_copy_2 ?_
  refine x_gen (fun v1 ev1 => ?_)
  refine x_putI C pkX_X2_19 (nlt rfl) rfl dX2_copy_5 ?_
  refine x_aload_n (i := 1) C dX2_copy_8 rfl rfl ?_
  refine x_getRs (r := 17) C fkX_X2_9 (nlt rfl) rfl (hr 16 1 rfl) dX2_copy_9 ?_
  refine x_iconst C dX2_copy_12 ?_
  refine x_aload_n (i := 0) C dX2_copy_13 rfl rfl ?_
  refine x_getRs (r := 156) C fkX_X2_9 (nlt rfl) rfl (hr 155 1 rfl) dX2_copy_14 ?_
  refine x_iconst C dX2_copy_17 ?_
  refine x_bipush C dX2_copy_18 (by decide) ?_
  refine x_cpyL C cpX2_23 (nlt rfl) rfl rfl (nlt rfl) rfl rfl (by omega) (by omega) (by omega) (by omega) (by omega) (nle rfl) (nle rfl) (nle rfl) (nle rfl) dX2_copy_20 ?_
  refine x_aload_n (i := 1) C dX2_copy_23 rfl rfl ?_
  refine x_getRs (r := 18) C fkX_X2_15 (nlt rfl) rfl (hr 16 2 rfl) dX2_copy_24 ?_
  refine x_iconst C dX2_copy_27 ?_
  refine x_aload_n (i := 0) C dX2_copy_28 rfl rfl ?_
  refine x_getRs (r := 157) C fkX_X2_15 (nlt rfl) rfl (hr 155 2 rfl) dX2_copy_29 ?_
  refine x_iconst C dX2_copy_32 ?_
  refine x_bipush C dX2_copy_33 (by decide) ?_
  refine x_cpyI C cpX2_23 (nlt rfl) rfl rfl (nlt rfl) rfl rfl rfl (by omega) (by omega) (by omega) (by omega) (by omega) (nle rfl) (nle rfl) (nle rfl) (nle rfl) dX2_copy_35 ?_
  exact x_vret C hQ dX2_copy_38 (⟨rfl, hr, fun _ => rfl⟩)
set_option maxHeartbeats 4000000 in
set_option maxRecDepth 100000 in
theorem n_tcopy_140 {D : va_G} {ad : Nat → Nat} {cA : Nat → ClassId} {X : XT} (hr : HRX X) : MetX (wX D ad cA) yX8_copy cX8_copy 3 none 2 81 [.ref 140, .ref 1] X (fun r X' => r = none ∧ HRX X') := by
  refine MetX.mk (own := RX8) (by decide +kernel) rfl (nle rfl) (fun E C hQ => ?_)
  refine Wx_lv (lv' := [(0, .ref 140), (1, .ref 1)]) rfl ?_
  refine x_aload_n (i := 0) C dX8_copy_0 rfl rfl ?_
  refine x_aload_n (i := 1) C dX8_copy_1 rfl rfl ?_
  refine x_getI C fkX_X8_40 (nlt rfl) rfl dX8_copy_2 ?_
  refine x_gen (fun v1 ev1 => ?_)
  refine x_putI C pkX_X8_40 (nlt rfl) rfl dX8_copy_5 ?_
  refine x_aload_n (i := 0) C dX8_copy_8 rfl rfl ?_
  refine x_aload_n (i := 1) C dX8_copy_9 rfl rfl ?_
  refine x_getI C fkX_X8_43 (nlt rfl) rfl dX8_copy_10 ?_
  refine x_gen (fun v2 ev2 => ?_)
  refine x_putI C pkX_X8_43 (nlt rfl) rfl dX8_copy_13 ?_
  refine x_aload_n (i := 0) C dX8_copy_16 rfl rfl ?_
  refine x_aload_n (i := 1) C dX8_copy_17 rfl rfl ?_
  refine x_getI C fkX_X8_9 (nlt rfl) rfl dX8_copy_18 ?_
  refine x_gen (fun v3 ev3 => ?_)
  refine x_putI C pkX_X8_9 (nlt rfl) rfl dX8_copy_21 ?_
  refine x_aload_n (i := 1) C dX8_copy_24 rfl rfl ?_
  refine x_getRs (r := 2) C fkX_X8_15 (nlt rfl) rfl (hr 1 3 rfl) dX8_copy_25 ?_
  refine x_iconst C dX8_copy_28 ?_
  refine x_aload_n (i := 0) C dX8_copy_29 rfl rfl ?_
  refine x_getRs (r := 141) C fkX_X8_15 (nlt rfl) rfl (hr 140 3 rfl) dX8_copy_30 ?_
  refine x_iconst C dX8_copy_33 ?_
  refine x_sipush C dX8_copy_34 (by decide) ?_
  refine x_cpyI C cpX8_46 (nlt rfl) rfl rfl (nlt rfl) rfl rfl rfl (by omega) (by omega) (by omega) (by omega) (by omega) (nle rfl) (nle rfl) (nle rfl) (nle rfl) dX8_copy_37 ?_
  refine x_aload_n (i := 1) C dX8_copy_40 rfl rfl ?_
  refine x_getRs (r := 3) C fkX_X8_19 (nlt rfl) rfl (hr 1 4 rfl) dX8_copy_41 ?_
  refine x_iconst C dX8_copy_44 ?_
  refine x_aload_n (i := 0) C dX8_copy_45 rfl rfl ?_
  refine x_getRs (r := 142) C fkX_X8_19 (nlt rfl) rfl (hr 140 4 rfl) dX8_copy_46 ?_
  refine x_iconst C dX8_copy_49 ?_
  refine x_iconst C dX8_copy_50 ?_
  refine x_cpyI C cpX8_46 (nlt rfl) rfl rfl (nlt rfl) rfl rfl rfl (by omega) (by omega) (by omega) (by omega) (by omega) (nle rfl) (nle rfl) (nle rfl) (nle rfl) dX8_copy_51 ?_
  refine x_aload_n (i := 1) C dX8_copy_54 rfl rfl ?_
  refine x_getRs (r := 5) C fkX_X8_28 (nlt rfl) rfl (hr 1 6 rfl) dX8_copy_55 ?_
  refine x_iconst C dX8_copy_58 ?_
  refine x_aload_n (i := 0) C dX8_copy_59 rfl rfl ?_
  refine x_getRs (r := 144) C fkX_X8_28 (nlt rfl) rfl (hr 140 6 rfl) dX8_copy_60 ?_
  refine x_iconst C dX8_copy_63 ?_
  refine x_iconst C dX8_copy_64 ?_
  refine x_cpyL C cpX8_46 (nlt rfl) rfl rfl (nlt rfl) rfl rfl (by omega) (by omega) (by omega) (by omega) (by omega) (nle rfl) (nle rfl) (nle rfl) (nle rfl) dX8_copy_65 ?_
  refine x_iconst C dX8_copy_68 ?_
  refine x_istore_n (i := 2) (lv' := [(2, .int (iI (0))), (0, .ref 140), (1, .ref 1)]) C dX8_copy_69 rfl (nlt rfl) rfl ?_
  refine x_iload_n (i := 2) C dX8_copy_70 rfl rfl ?_
  refine x_iconst C dX8_copy_71 ?_
  refine x_icmp_ge (tgt := 96) C dX8_copy_72 (by decide) ⟨by omega, by omega⟩ ⟨by omega, by omega⟩ (fun h4 => by exfalso; omega) (fun h4 => ?_)
  refine x_aload_n (i := 0) C dX8_copy_75 rfl rfl ?_
  refine x_getRs (r := 143) C fkX_X8_24 (nlt rfl) rfl (hr 140 5 rfl) dX8_copy_76 ?_
  refine x_iload_n (i := 2) C dX8_copy_79 rfl rfl ?_
  refine x_aald (r := some 146) C (nlt rfl) rfl rfl (nle rfl) (by omega) (by omega) (hr 143 0 rfl) dX8_copy_80 ?_
  refine x_aload_n (i := 1) C dX8_copy_81 rfl rfl ?_
  refine x_getRs (r := 4) C fkX_X8_24 (nlt rfl) rfl (hr 1 5 rfl) dX8_copy_82 ?_
  refine x_iload_n (i := 2) C dX8_copy_85 rfl rfl ?_
  refine x_aald (r := some 7) C (nlt rfl) rfl rfl (nle rfl) (by omega) (by omega) (hr 4 0 rfl) dX8_copy_86 ?_
  refine x_callV (As := [.ref 7]) C (by exact (n_bcopy_146_7 (by exact hr))) ckX8_52 im_X0_copy se_X0_copy (nlt rfl) rfl rfl rfl rfl (nle rfl) (by exact ⟨nle rfl, nle rfl⟩) dX8_copy_87 ?_
  rintro _ Xk5 ⟨rfl, hr, k5m⟩
  refine Wx_st (st' := []) rfl ?_
  refine x_iinc (lv' := [(2, .int (iI (0 + 1))), (0, .ref 140), (1, .ref 1)]) C dX8_copy_90 rfl (nlt rfl) rfl ?_
  refine Wx_lv (lv' := [(2, .int (iI (1))), (0, .ref 140), (1, .ref 1)]) rfl ?_
  refine x_goto (tgt := 70) C dX8_copy_93 (by decide) ?_
  refine x_iload_n (i := 2) C dX8_copy_70 rfl rfl ?_
  refine x_iconst C dX8_copy_71 ?_
  refine x_icmp_ge (tgt := 96) C dX8_copy_72 (by decide) ⟨by omega, by omega⟩ ⟨by omega, by omega⟩ (fun h6 => by exfalso; omega) (fun h6 => ?_)
  refine x_aload_n (i := 0) C dX8_copy_75 rfl rfl ?_
  refine x_getRs (r := 143) C fkX_X8_24 (nlt rfl) rfl (hr 140 5 rfl) dX8_copy_76 ?_
  refine x_iload_n (i := 2) C dX8_copy_79 rfl rfl ?_
  refine x_aald (r := some 149) C (nlt rfl) rfl rfl (nle rfl) (by omega) (by omega) (hr 143 1 rfl) dX8_copy_80 ?_
  refine x_aload_n (i := 1) C dX8_copy_81 rfl rfl ?_
  refine x_getRs (r := 4) C fkX_X8_24 (nlt rfl) rfl (hr 1 5 rfl) dX8_copy_82 ?_
  refine x_iload_n (i := 2) C dX8_copy_85 rfl rfl ?_
  refine x_aald (r := some 10) C (nlt rfl) rfl rfl (nle rfl) (by omega) (by omega) (hr 4 1 rfl) dX8_copy_86 ?_
  refine x_callV (As := [.ref 10]) C (by exact (n_bcopy_149_10 (by exact hr))) ckX8_52 im_X0_copy se_X0_copy (nlt rfl) rfl rfl rfl rfl (nle rfl) (by exact ⟨nle rfl, nle rfl⟩) dX8_copy_87 ?_
  rintro _ Xk7 ⟨rfl, hr, k7m⟩
  refine Wx_st (st' := []) rfl ?_
  refine x_iinc (lv' := [(2, .int (iI (1 + 1))), (0, .ref 140), (1, .ref 1)]) C dX8_copy_90 rfl (nlt rfl) rfl ?_
  refine Wx_lv (lv' := [(2, .int (iI (2))), (0, .ref 140), (1, .ref 1)]) rfl ?_
  refine x_goto (tgt := 70) C dX8_copy_93 (by decide) ?_
  refine x_iload_n (i := 2) C dX8_copy_70 rfl rfl ?_
  refine x_iconst C dX8_copy_71 ?_
  refine x_icmp_ge (tgt := 96) C dX8_copy_72 (by decide) ⟨by omega, by omega⟩ ⟨by omega, by omega⟩ (fun h8 => ?_) (fun h8 => by exfalso; omega)
  refine x_iconst C dX8_copy_96 ?_
  refine x_istore_n (i := 2) (lv' := [(2, .int (iI (0))), (0, .ref 140), (1, .ref 1)]) C dX8_copy_97 rfl (nlt rfl) rfl ?_
  refine x_iload_n (i := 2) C dX8_copy_98 rfl rfl ?_
  refine x_iconst C dX8_copy_99 ?_
  refine x_icmp_ge (tgt := 124) C dX8_copy_100 (by decide) ⟨by omega, by omega⟩ ⟨by omega, by omega⟩ (fun h9 => by exfalso; omega) (fun h9 => ?_)
  refine x_aload_n (i := 0) C dX8_copy_103 rfl rfl ?_
  refine x_getRs (r := 145) C fkX_X8_34 (nlt rfl) rfl (hr 140 7 rfl) dX8_copy_104 ?_
  refine x_iload_n (i := 2) C dX8_copy_107 rfl rfl ?_
  refine x_aald (r := some 152) C (nlt rfl) rfl rfl (nle rfl) (by omega) (by omega) (hr 145 0 rfl) dX8_copy_108 ?_
  refine x_aload_n (i := 1) C dX8_copy_109 rfl rfl ?_
  refine x_getRs (r := 6) C fkX_X8_34 (nlt rfl) rfl (hr 1 7 rfl) dX8_copy_110 ?_
  refine x_iload_n (i := 2) C dX8_copy_113 rfl rfl ?_
  refine x_aald (r := some 13) C (nlt rfl) rfl rfl (nle rfl) (by omega) (by omega) (hr 6 0 rfl) dX8_copy_114 ?_
  refine x_callV (As := [.ref 13]) C (by exact (n_gcopy_152_13 (by exact hr))) ckX8_56 im_X2_copy se_X2_copy (nlt rfl) rfl rfl rfl rfl (nle rfl) (by exact ⟨nle rfl, nle rfl⟩) dX8_copy_115 ?_
  rintro _ Xk10 ⟨rfl, hr, k10m⟩
  refine Wx_st (st' := []) rfl ?_
  refine x_iinc (lv' := [(2, .int (iI (0 + 1))), (0, .ref 140), (1, .ref 1)]) C dX8_copy_118 rfl (nlt rfl) rfl ?_
  refine Wx_lv (lv' := [(2, .int (iI (1))), (0, .ref 140), (1, .ref 1)]) rfl ?_
  refine x_goto (tgt := 98) C dX8_copy_121 (by decide) ?_
  refine x_iload_n (i := 2) C dX8_copy_98 rfl rfl ?_
  refine x_iconst C dX8_copy_99 ?_
  refine x_icmp_ge (tgt := 124) C dX8_copy_100 (by decide) ⟨by omega, by omega⟩ ⟨by omega, by omega⟩ (fun h11 => by exfalso; omega) (fun h11 => ?_)
  refine x_aload_n (i := 0) C dX8_copy_103 rfl rfl ?_
  refine x_getRs (r := 145) C fkX_X8_34 (nlt rfl) rfl (hr 140 7 rfl) dX8_copy_104 ?_
  refine x_iload_n (i := 2) C dX8_copy_107 rfl rfl ?_
  refine x_aald (r := some 155) C (nlt rfl) rfl rfl (nle rfl) (by omega) (by omega) (hr 145 1 rfl) dX8_copy_108 ?_
  refine x_aload_n (i := 1) C dX8_copy_109 rfl rfl ?_
  refine x_getRs (r := 6) C fkX_X8_34 (nlt rfl) rfl (hr 1 7 rfl) dX8_copy_110 ?_
  refine x_iload_n (i := 2) C dX8_copy_113 rfl rfl ?_
  refine x_aald (r := some 16) C (nlt rfl) rfl rfl (nle rfl) (by omega) (by omega) (hr 6 1 rfl) dX8_copy_114 ?_
  refine x_callV (As := [.ref 16]) C (by exact (n_gcopy_155_16 (by exact hr))) ckX8_56 im_X2_copy se_X2_copy (nlt rfl) rfl rfl rfl rfl (nle rfl) (by exact ⟨nle rfl, nle rfl⟩) dX8_copy_115 ?_
  rintro _ Xk12 ⟨rfl, hr, k12m⟩
  refine Wx_st (st' := []) rfl ?_
  refine x_iinc (lv' := [(2, .int (iI (1 + 1))), (0, .ref 140), (1, .ref 1)]) C dX8_copy_118 rfl (nlt rfl) rfl ?_
  refine Wx_lv (lv' := [(2, .int (iI (2))), (0, .ref 140), (1, .ref 1)]) rfl ?_
  refine x_goto (tgt := 98) C dX8_copy_121 (by decide) ?_
  refine x_iload_n (i := 2) C dX8_copy_98 rfl rfl ?_
  refine x_iconst C dX8_copy_99 ?_
  refine x_icmp_ge (tgt := 124) C dX8_copy_100 (by decide) ⟨by omega, by omega⟩ ⟨by omega, by omega⟩ (fun h13 => ?_) (fun h13 => by exfalso; omega)
  exact x_vret C hQ dX8_copy_124 (⟨rfl, hr⟩)
set_option maxHeartbeats 4000000 in
set_option maxRecDepth 100000 in
theorem x_image0 {D : va_G} {ad : Nat → Nat} {cA : Nat → ClassId}  : MetX (wX D ad cA) yX11_image cX11_image 2 (some .boolean) 3 103 [.ref 0, .int (iI (0))] x0X (fun r _ => r = some (.int (iI (1)))) := by
  have hr : HRX x0X := fun _ _ _ => rfl
  refine MetX.mk (own := RX11) (by decide +kernel) rfl (nle rfl) (fun E C hQ => ?_)
  refine Wx_lv (lv' := [(0, .ref 0), (1, .int (iI (0)))]) rfl ?_
  refine x_iload_n (i := 1) C dX11_image_0 rfl rfl ?_
  refine x_if_lt (tgt := 9) C dX11_image_1 (by decide) ⟨by omega, by omega⟩ (fun h1 => by exfalso; omega) (fun h1 => ?_)
  refine x_iload_n (i := 1) C dX11_image_4 rfl rfl ?_
  refine x_iconst C dX11_image_5 ?_
  refine x_icmp_lt (tgt := 11) C dX11_image_6 (by decide) ⟨by omega, by omega⟩ ⟨by omega, by omega⟩ (fun h2 => ?_) (fun h2 => by exfalso; omega)
  refine x_aload_n (i := 0) C dX11_image_11 rfl rfl ?_
  refine x_getRs (r := 19) C fkX_X11_16 (nlt rfl) rfl (hr 0 1 rfl) dX11_image_12 ?_
  refine x_iload_n (i := 1) C dX11_image_15 rfl rfl ?_
  refine x_aald (r := some 104) C (nlt rfl) rfl rfl (nle rfl) (by omega) (by omega) (hr 19 0 rfl) dX11_image_16 ?_
  refine x_aload_n (i := 0) C dX11_image_17 rfl rfl ?_
  refine x_getRs (r := 1) C fkX_X11_10 (nlt rfl) rfl (hr 0 0 rfl) dX11_image_18 ?_
  refine x_callV (As := [.ref 1]) C (by exact (n_tcopy_104 (by exact hr))) ckX11_283 im_X8_copy se_X8_copy (nlt rfl) rfl rfl rfl rfl (nle rfl) (by exact ⟨nle rfl, nle rfl⟩) dX11_image_21 ?_
  rintro _ Xk3 ⟨rfl, hr⟩
  refine Wx_st (st' := []) rfl ?_
  refine x_aload_n (i := 0) C dX11_image_24 rfl rfl ?_
  refine x_getRs (r := 20) C fkX_X11_20 (nlt rfl) rfl (hr 0 2 rfl) dX11_image_25 ?_
  refine x_iload_n (i := 1) C dX11_image_28 rfl rfl ?_
  refine x_iconst C dX11_image_29 ?_
  refine x_zast C (nlt rfl) rfl rfl (nle rfl) (by omega) (by omega) (by omega) dX11_image_30 ?_
  refine x_iconst C dX11_image_31 ?_
  exact x_zret C hQ (by omega) dX11_image_32 (congrArg (fun z : Int => some (Value.int (iI z))) (by first | rfl | omega | (split <;> omega) | (repeat (first | omega | split))))
set_option maxHeartbeats 4000000 in
set_option maxRecDepth 100000 in
theorem x_image1 {D : va_G} {ad : Nat → Nat} {cA : Nat → ClassId}  : MetX (wX D ad cA) yX11_image cX11_image 2 (some .boolean) 3 103 [.ref 0, .int (iI (1))] x0X (fun r _ => r = some (.int (iI (1)))) := by
  have hr : HRX x0X := fun _ _ _ => rfl
  refine MetX.mk (own := RX11) (by decide +kernel) rfl (nle rfl) (fun E C hQ => ?_)
  refine Wx_lv (lv' := [(0, .ref 0), (1, .int (iI (1)))]) rfl ?_
  refine x_iload_n (i := 1) C dX11_image_0 rfl rfl ?_
  refine x_if_lt (tgt := 9) C dX11_image_1 (by decide) ⟨by omega, by omega⟩ (fun h1 => by exfalso; omega) (fun h1 => ?_)
  refine x_iload_n (i := 1) C dX11_image_4 rfl rfl ?_
  refine x_iconst C dX11_image_5 ?_
  refine x_icmp_lt (tgt := 11) C dX11_image_6 (by decide) ⟨by omega, by omega⟩ ⟨by omega, by omega⟩ (fun h2 => ?_) (fun h2 => by exfalso; omega)
  refine x_aload_n (i := 0) C dX11_image_11 rfl rfl ?_
  refine x_getRs (r := 19) C fkX_X11_16 (nlt rfl) rfl (hr 0 1 rfl) dX11_image_12 ?_
  refine x_iload_n (i := 1) C dX11_image_15 rfl rfl ?_
  refine x_aald (r := some 122) C (nlt rfl) rfl rfl (nle rfl) (by omega) (by omega) (hr 19 1 rfl) dX11_image_16 ?_
  refine x_aload_n (i := 0) C dX11_image_17 rfl rfl ?_
  refine x_getRs (r := 1) C fkX_X11_10 (nlt rfl) rfl (hr 0 0 rfl) dX11_image_18 ?_
  refine x_callV (As := [.ref 1]) C (by exact (n_tcopy_122 (by exact hr))) ckX11_283 im_X8_copy se_X8_copy (nlt rfl) rfl rfl rfl rfl (nle rfl) (by exact ⟨nle rfl, nle rfl⟩) dX11_image_21 ?_
  rintro _ Xk3 ⟨rfl, hr⟩
  refine Wx_st (st' := []) rfl ?_
  refine x_aload_n (i := 0) C dX11_image_24 rfl rfl ?_
  refine x_getRs (r := 20) C fkX_X11_20 (nlt rfl) rfl (hr 0 2 rfl) dX11_image_25 ?_
  refine x_iload_n (i := 1) C dX11_image_28 rfl rfl ?_
  refine x_iconst C dX11_image_29 ?_
  refine x_zast C (nlt rfl) rfl rfl (nle rfl) (by omega) (by omega) (by omega) dX11_image_30 ?_
  refine x_iconst C dX11_image_31 ?_
  exact x_zret C hQ (by omega) dX11_image_32 (congrArg (fun z : Int => some (Value.int (iI z))) (by first | rfl | omega | (split <;> omega) | (repeat (first | omega | split))))
set_option maxHeartbeats 4000000 in
set_option maxRecDepth 100000 in
theorem x_image2 {D : va_G} {ad : Nat → Nat} {cA : Nat → ClassId}  : MetX (wX D ad cA) yX11_image cX11_image 2 (some .boolean) 3 103 [.ref 0, .int (iI (2))] x0X (fun r _ => r = some (.int (iI (1)))) := by
  have hr : HRX x0X := fun _ _ _ => rfl
  refine MetX.mk (own := RX11) (by decide +kernel) rfl (nle rfl) (fun E C hQ => ?_)
  refine Wx_lv (lv' := [(0, .ref 0), (1, .int (iI (2)))]) rfl ?_
  refine x_iload_n (i := 1) C dX11_image_0 rfl rfl ?_
  refine x_if_lt (tgt := 9) C dX11_image_1 (by decide) ⟨by omega, by omega⟩ (fun h1 => by exfalso; omega) (fun h1 => ?_)
  refine x_iload_n (i := 1) C dX11_image_4 rfl rfl ?_
  refine x_iconst C dX11_image_5 ?_
  refine x_icmp_lt (tgt := 11) C dX11_image_6 (by decide) ⟨by omega, by omega⟩ ⟨by omega, by omega⟩ (fun h2 => ?_) (fun h2 => by exfalso; omega)
  refine x_aload_n (i := 0) C dX11_image_11 rfl rfl ?_
  refine x_getRs (r := 19) C fkX_X11_16 (nlt rfl) rfl (hr 0 1 rfl) dX11_image_12 ?_
  refine x_iload_n (i := 1) C dX11_image_15 rfl rfl ?_
  refine x_aald (r := some 140) C (nlt rfl) rfl rfl (nle rfl) (by omega) (by omega) (hr 19 2 rfl) dX11_image_16 ?_
  refine x_aload_n (i := 0) C dX11_image_17 rfl rfl ?_
  refine x_getRs (r := 1) C fkX_X11_10 (nlt rfl) rfl (hr 0 0 rfl) dX11_image_18 ?_
  refine x_callV (As := [.ref 1]) C (by exact (n_tcopy_140 (by exact hr))) ckX11_283 im_X8_copy se_X8_copy (nlt rfl) rfl rfl rfl rfl (nle rfl) (by exact ⟨nle rfl, nle rfl⟩) dX11_image_21 ?_
  rintro _ Xk3 ⟨rfl, hr⟩
  refine Wx_st (st' := []) rfl ?_
  refine x_aload_n (i := 0) C dX11_image_24 rfl rfl ?_
  refine x_getRs (r := 20) C fkX_X11_20 (nlt rfl) rfl (hr 0 2 rfl) dX11_image_25 ?_
  refine x_iload_n (i := 1) C dX11_image_28 rfl rfl ?_
  refine x_iconst C dX11_image_29 ?_
  refine x_zast C (nlt rfl) rfl rfl (nle rfl) (by omega) (by omega) (by omega) dX11_image_30 ?_
  refine x_iconst C dX11_image_31 ?_
  exact x_zret C hQ (by omega) dX11_image_32 (congrArg (fun z : Int => some (Value.int (iI z))) (by first | rfl | omega | (split <;> omega) | (repeat (first | omega | split))))
set_option maxHeartbeats 4000000 in
set_option maxRecDepth 100000 in
theorem x_imageX {D : va_G} {ad : Nat → Nat} {cA : Nat → ClassId} {k : Int} (hk : inR k) (hn : ¬ (0 ≤ k ∧ k ≤ 2)) : MetX (wX D ad cA) yX11_image cX11_image 2 (some .boolean) 3 103 [.ref 0, .int (iI (k))] x0X (fun r _ => r = some (.int (iI (0)))) := by
  unfold inR at hk
  refine MetX.mk (own := RX11) (by decide +kernel) rfl (nle rfl) (fun E C hQ => ?_)
  refine Wx_lv (lv' := [(0, .ref 0), (1, .int (iI (k)))]) rfl ?_
  refine x_iload_n (i := 1) C dX11_image_0 rfl rfl ?_
  refine x_if_lt (tgt := 9) C dX11_image_1 (by decide) ⟨by omega, by omega⟩ (fun h1 => ?_) (fun h1 => ?_)
  · refine x_iconst C dX11_image_9 ?_
    exact x_zret C hQ (by omega) dX11_image_10 (congrArg (fun z : Int => some (Value.int (iI z))) (by first | rfl | omega | (split <;> omega) | (repeat (first | omega | split))))
  · refine x_iload_n (i := 1) C dX11_image_4 rfl rfl ?_
    refine x_iconst C dX11_image_5 ?_
    refine x_icmp_lt (tgt := 11) C dX11_image_6 (by decide) ⟨by omega, by omega⟩ ⟨by omega, by omega⟩ (fun h2 => by exfalso; omega) (fun h2 => ?_)
    refine x_iconst C dX11_image_9 ?_
    exact x_zret C hQ (by omega) dX11_image_10 (congrArg (fun z : Int => some (Value.int (iI z))) (by first | rfl | omega | (split <;> omega) | (repeat (first | omega | split))))
set_option maxHeartbeats 4000000 in
set_option maxRecDepth 100000 in
theorem x_again {D : va_G} {ad : Nat → Nat} {cA : Nat → ClassId} {k : Int} (hk : inR k) : MetX (wX D ad cA) yX11_again cX11_again 2 (some .boolean) 3 103 [.ref 0, .int (iI (k))] x0X (fun r _ => r = some (.int (iI (0)))) := by
  have hr : HRX x0X := fun _ _ _ => rfl
  unfold inR at hk
  refine MetX.mk (own := RX11) (by decide +kernel) rfl (nle rfl) (fun E C hQ => ?_)
  refine Wx_lv (lv' := [(0, .ref 0), (1, .int (iI (k)))]) rfl ?_
  refine x_iload_n (i := 1) C dX11_again_0 rfl rfl ?_
  refine x_if_lt (tgt := 18) C dX11_again_1 (by decide) ⟨by omega, by omega⟩ (fun h1 => ?_) (fun h1 => ?_)
  · refine x_iconst C dX11_again_18 ?_
    exact x_zret C hQ (by omega) dX11_again_19 (congrArg (fun z : Int => some (Value.int (iI z))) (by first | rfl | omega | (split <;> omega) | (repeat (first | omega | split))))
  · refine x_iload_n (i := 1) C dX11_again_4 rfl rfl ?_
    refine x_iconst C dX11_again_5 ?_
    refine x_icmp_ge (tgt := 18) C dX11_again_6 (by decide) ⟨by omega, by omega⟩ ⟨by omega, by omega⟩ (fun h2 => ?_) (fun h2 => ?_)
    · refine x_iconst C dX11_again_18 ?_
      exact x_zret C hQ (by omega) dX11_again_19 (congrArg (fun z : Int => some (Value.int (iI z))) (by first | rfl | omega | (split <;> omega) | (repeat (first | omega | split))))
    · refine x_aload_n (i := 0) C dX11_again_9 rfl rfl ?_
      refine x_getRs (r := 20) C fkX_X11_20 (nlt rfl) rfl (hr 0 2 rfl) dX11_again_10 ?_
      refine x_iload_n (i := 1) C dX11_again_13 rfl rfl ?_
      refine x_zald C (nlt rfl) rfl rfl (nle rfl) (by omega) (by omega) dX11_again_14 ?_
      refine x_eq (b := 0) rfl ?_
      refine x_if_ne (tgt := 20) C dX11_again_15 (by decide) ⟨by omega, by omega⟩ (fun h3 => by exfalso; omega) (fun h3 => ?_)
      refine x_iconst C dX11_again_18 ?_
      exact x_zret C hQ (by omega) dX11_again_19 (congrArg (fun z : Int => some (Value.int (iI z))) (by first | rfl | omega | (split <;> omega) | (repeat (first | omega | split))))
