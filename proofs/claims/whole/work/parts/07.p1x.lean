set_option maxHeartbeats 4000000 in
set_option maxRecDepth 100000 in
theorem n_boardAt {D : va_G} {ad : Nat → Nat} {cA : Nat → ClassId} {X : XT} (hr : X.2.2 = rX) (mz : ∀ i, X.1 3 i = 0) {k : Int} (hk : inR k) : MetX (wX D ad cA) yX8_boardAt cX8_boardAt 2 (some (.object "WrittenMoves$Board")) 0 0 [.ref 1, .int (iI (k))] X (fun r X' => X' = X ∧ r = some .null) := by
  unfold inR at hk
  refine MetX.mk (own := RX8) (by decide +kernel) rfl (nle rfl) (fun E C => ?_)
  refine Wx_lv (lv' := [(0, .ref 1), (1, .int (iI (k)))]) rfl ?_
  refine x_iload_n (i := 1) C dX8_boardAt_0 rfl rfl ?_
  refine x_if_lt (tgt := 23) C dX8_boardAt_1 (by decide) ⟨by omega, by omega⟩ (fun h1 => ?_) (fun h1 => ?_)
  · refine x_null C dX8_boardAt_23 ?_
    exact x_aret (r := none) C dX8_boardAt_24 (⟨rfl, rfl⟩)
  · refine x_iload_n (i := 1) C dX8_boardAt_4 rfl rfl ?_
    refine x_aload_n (i := 0) C dX8_boardAt_5 rfl rfl ?_
    refine x_getRs (r := 3) C fkX_X8_19 (nlt rfl) rfl (congrFun (congrFun hr 1) 4) dX8_boardAt_6 ?_
    refine x_iconst C dX8_boardAt_9 ?_
    refine x_iald C (nlt rfl) rfl rfl (nle rfl) (by omega) (by omega) dX8_boardAt_10 ?_
    refine x_eq (b := 0) (mz _) ?_
    refine x_icmp_ge (tgt := 23) C dX8_boardAt_11 (by decide) ⟨by omega, by omega⟩ ⟨by omega, by omega⟩ (fun h2 => ?_) (fun h2 => by exfalso; omega)
    refine x_null C dX8_boardAt_23 ?_
    exact x_aret (r := none) C dX8_boardAt_24 (⟨rfl, rfl⟩)
set_option maxHeartbeats 4000000 in
set_option maxRecDepth 100000 in
theorem n_gameAt {D : va_G} {ad : Nat → Nat} {cA : Nat → ClassId} {X : XT} (hr : X.2.2 = rX) (mz : ∀ i, X.1 3 i = 0) {k : Int} (hk : inR k) : MetX (wX D ad cA) yX8_gameAt cX8_gameAt 2 (some (.object "WrittenMoves$Game")) 0 0 [.ref 1, .int (iI (k))] X (fun r X' => X' = X ∧ r = some .null) := by
  unfold inR at hk
  refine MetX.mk (own := RX8) (by decide +kernel) rfl (nle rfl) (fun E C => ?_)
  refine Wx_lv (lv' := [(0, .ref 1), (1, .int (iI (k)))]) rfl ?_
  refine x_iload_n (i := 1) C dX8_gameAt_0 rfl rfl ?_
  refine x_if_lt (tgt := 23) C dX8_gameAt_1 (by decide) ⟨by omega, by omega⟩ (fun h1 => ?_) (fun h1 => ?_)
  · refine x_null C dX8_gameAt_23 ?_
    exact x_aret (r := none) C dX8_gameAt_24 (⟨rfl, rfl⟩)
  · refine x_iload_n (i := 1) C dX8_gameAt_4 rfl rfl ?_
    refine x_aload_n (i := 0) C dX8_gameAt_5 rfl rfl ?_
    refine x_getRs (r := 3) C fkX_X8_19 (nlt rfl) rfl (congrFun (congrFun hr 1) 4) dX8_gameAt_6 ?_
    refine x_iconst C dX8_gameAt_9 ?_
    refine x_iald C (nlt rfl) rfl rfl (nle rfl) (by omega) (by omega) dX8_gameAt_10 ?_
    refine x_eq (b := 0) (mz _) ?_
    refine x_icmp_ge (tgt := 23) C dX8_gameAt_11 (by decide) ⟨by omega, by omega⟩ ⟨by omega, by omega⟩ (fun h2 => ?_) (fun h2 => by exfalso; omega)
    refine x_null C dX8_gameAt_23 ?_
    exact x_aret (r := none) C dX8_gameAt_24 (⟨rfl, rfl⟩)
set_option maxHeartbeats 4000000 in
set_option maxRecDepth 100000 in
theorem n_hasRule {D : va_G} {ad : Nat → Nat} {cA : Nat → ClassId} {X : XT} (hr : X.2.2 = rX) (mz : ∀ i, X.1 3 i = 0) {k : Int} (hk : inR k) : MetX (wX D ad cA) yX8_hasRule cX8_hasRule 2 (some .boolean) 0 0 [.ref 1, .int (iI (k))] X (fun r X' => X' = X ∧ r = some (.int (iI 0))) := by
  unfold inR at hk
  refine MetX.mk (own := RX8) (by decide +kernel) rfl (nle rfl) (fun E C => ?_)
  refine Wx_lv (lv' := [(0, .ref 1), (1, .int (iI (k)))]) rfl ?_
  refine x_iload_n (i := 1) C dX8_hasRule_0 rfl rfl ?_
  refine x_if_lt (tgt := 18) C dX8_hasRule_1 (by decide) ⟨by omega, by omega⟩ (fun h1 => ?_) (fun h1 => ?_)
  · refine x_iconst C dX8_hasRule_18 ?_
    exact x_zret C (by omega) dX8_hasRule_19 (⟨rfl, rfl⟩)
  · refine x_iload_n (i := 1) C dX8_hasRule_4 rfl rfl ?_
    refine x_aload_n (i := 0) C dX8_hasRule_5 rfl rfl ?_
    refine x_getRs (r := 3) C fkX_X8_19 (nlt rfl) rfl (congrFun (congrFun hr 1) 4) dX8_hasRule_6 ?_
    refine x_iconst C dX8_hasRule_9 ?_
    refine x_iald C (nlt rfl) rfl rfl (nle rfl) (by omega) (by omega) dX8_hasRule_10 ?_
    refine x_eq (b := 0) (mz _) ?_
    refine x_icmp_ge (tgt := 18) C dX8_hasRule_11 (by decide) ⟨by omega, by omega⟩ ⟨by omega, by omega⟩ (fun h2 => ?_) (fun h2 => by exfalso; omega)
    refine x_iconst C dX8_hasRule_18 ?_
    exact x_zret C (by omega) dX8_hasRule_19 (⟨rfl, rfl⟩)
set_option maxHeartbeats 4000000 in
set_option maxRecDepth 100000 in
theorem n_canContest {D : va_G} {ad : Nat → Nat} {cA : Nat → ClassId} {X : XT} {a b : Int} (ha : inR a) (hb : inR b) : MetX (wX D ad cA) yX11_canContest cX11_canContest 3 (some .boolean) 0 0 [.null, .int (iI (a)), .int (iI (b))] X (fun r X' => X' = X ∧ r = some (.int (iI 0))) := by
  unfold inR at ha hb
  refine MetX.mk (own := RX11) (by decide +kernel) rfl (nle rfl) (fun E C => ?_)
  refine Wx_lv (lv' := [(0, .null), (1, .int (iI (a))), (2, .int (iI (b)))]) rfl ?_
  refine x_aload_nN (i := 0) C dX11_canContest_0 rfl rfl ?_
  refine x_ifnullN (tgt := 27) C dX11_canContest_1 (by decide) ?_
  refine x_iconst C dX11_canContest_27 ?_
  exact x_zret C (by omega) dX11_canContest_28 (⟨rfl, rfl⟩)
set_option maxHeartbeats 4000000 in
set_option maxRecDepth 100000 in
theorem n_canTrace {D : va_G} {ad : Nat → Nat} {cA : Nat → ClassId} {X : XT} (hr : X.2.2 = rX) (mz : ∀ i, X.1 3 i = 0) {a b c d : Int} (ha : inR a) (hb : inR b) (hc : inR c) (hd : inR d) : MetX (wX D ad cA) yX11_canTrace cX11_canTrace 6 (some .boolean) 1 21 [.ref 0, .int (iI (a)), .int (iI (b)), .int (iI (c)), .int (iI (d))] X (fun r X' => X' = X ∧ r = some (.int (iI 0))) := by
  unfold inR at ha hb hc hd
  refine MetX.mk (own := RX11) (by decide +kernel) rfl (nle rfl) (fun E C => ?_)
  refine Wx_lv (lv' := [(0, .ref 0), (1, .int (iI (a))), (2, .int (iI (b))), (3, .int (iI (c))), (4, .int (iI (d)))]) rfl ?_
  refine x_aload_n (i := 0) C dX11_canTrace_0 rfl rfl ?_
  refine x_getRs (r := 1) C fkX_X11_10 (nlt rfl) rfl (congrFun (congrFun hr 0) 0) dX11_canTrace_1 ?_
  refine x_iload_n (i := 1) C dX11_canTrace_4 rfl rfl ?_
  refine x_callV (As := [.int (iI (a))]) C (by exact (n_boardAt (k := a) (by exact hr) (by exact mz) ⟨by omega, by omega⟩)) ckX11_93 im_X8_boardAt se_X8_boardAt (nlt rfl) rfl rfl rfl rfl (nle rfl) (by exact ⟨nle rfl, nle rfl⟩) dX11_canTrace_5 ?_
  rintro _ _ ⟨rfl, rfl⟩
  refine Wx_st (st' := [.null]) rfl ?_
  refine x_astoreN (lv' := [(5, .null), (0, .ref 0), (1, .int (iI (a))), (2, .int (iI (b))), (3, .int (iI (c))), (4, .int (iI (d)))]) C dX11_canTrace_8 (nlt rfl) rfl ?_
  refine x_aloadN C dX11_canTrace_10 rfl ?_
  refine x_ifnullN (tgt := 49) C dX11_canTrace_12 (by decide) ?_
  refine x_iconst C dX11_canTrace_49 ?_
  exact x_zret C (by omega) dX11_canTrace_50 (⟨rfl, rfl⟩)
set_option maxHeartbeats 4000000 in
set_option maxRecDepth 100000 in
theorem n_follow {D : va_G} {ad : Nat → Nat} {cA : Nat → ClassId} {X : XT} {n : Int} (hn : inR n) : MetX (wX D ad cA) yX5_follow cX5_follow 8 (some .int) 6 159 [.ref 60, .null, .null, .int (iI (n))] X (fun r X' => X' = X ∧ r = some (.int (iI (-1)))) := by
  unfold inR at hn
  refine MetX.mk (own := RX5) (by decide +kernel) rfl (nle rfl) (fun E C => ?_)
  refine Wx_lv (lv' := [(0, .ref 60), (1, .null), (2, .null), (3, .int (iI (n)))]) rfl ?_
  refine x_aload_nN (i := 1) C dX5_follow_0 rfl rfl ?_
  refine x_ifnullN (tgt := 20) C dX5_follow_1 (by decide) ?_
  refine x_iconst C dX5_follow_20 ?_
  exact x_iret C dX5_follow_21 (⟨rfl, rfl⟩)
set_option maxHeartbeats 4000000 in
set_option maxRecDepth 100000 in
theorem n_put {D : va_G} {ad : Nat → Nat} {cA : Nat → ClassId} {X : XT} (hr : X.2.2 = rX) {v n : Int} (hv : inR v) (hm : X.1 1 0 = n) (hn0 : 0 ≤ n) (hn : n ≤ 580) : MetX (wX D ad cA) yX8_put cX8_put 3 none 0 0 [.ref 1, .int (iI (v))] X (fun r X' => r = none ∧ X'.2.2 = rX ∧ X'.1 1 0 = n + 4) := by
  unfold inR at hv
  refine MetX.mk (own := RX8) (by decide +kernel) rfl (nle rfl) (fun E C => ?_)
  refine Wx_lv (lv' := [(0, .ref 1), (1, .int (iI (v)))]) rfl ?_
  refine x_bipush C dX8_put_0 (by decide) ?_
  refine x_istore_n (i := 2) (lv' := [(2, .int (iI (24))), (0, .ref 1), (1, .int (iI (v)))]) C dX8_put_2 rfl (nlt rfl) rfl ?_
  refine x_iload_n (i := 2) C dX8_put_3 rfl rfl ?_
  refine x_if_lt (tgt := 49) C dX8_put_4 (by decide) ⟨by omega, by omega⟩ (fun h1 => by exfalso; omega) (fun h1 => ?_)
  refine x_aload_n (i := 0) C dX8_put_7 rfl rfl ?_
  refine x_getI C fkX_X8_40 (nlt rfl) rfl dX8_put_8 ?_
  refine x_eq (b := n) hm ?_
  refine x_sipush C dX8_put_11 (by decide) ?_
  refine x_icmp_ge (tgt := 49) C dX8_put_14 (by decide) ⟨by omega, by omega⟩ ⟨by omega, by omega⟩ (fun h2 => by exfalso; omega) (fun h2 => ?_)
  refine x_aload_n (i := 0) C dX8_put_17 rfl rfl ?_
  refine x_getRs (r := 2) C fkX_X8_15 (nlt rfl) rfl (congrFun (congrFun hr 1) 3) dX8_put_18 ?_
  refine x_aload_n (i := 0) C dX8_put_21 rfl rfl ?_
  refine x_getI C fkX_X8_40 (nlt rfl) rfl dX8_put_22 ?_
  refine x_eq (b := n) hm ?_
  refine x_iload_n (i := 1) C dX8_put_25 rfl rfl ?_
  refine x_iload_n (i := 2) C dX8_put_26 rfl rfl ?_
  refine x_iushr C dX8_put_27 ?_
  refine x_topi (fun v3 rv3 ev3 => ?_)
  unfold inR at rv3
  refine x_sipush C dX8_put_28 (by decide) ?_
  refine x_iand C dX8_put_31 ?_
  refine x_topi (fun v4 rv4 ev4 => ?_)
  unfold inR at rv4
  have bv4 := and_bd (m := 255) (by decide) (by decide) rv4 ev4
  refine x_iast C (nlt rfl) rfl rfl (nle rfl) (by omega) (by omega) dX8_put_32 ?_
  refine x_aload_n (i := 0) C dX8_put_33 rfl rfl ?_
  refine x_dup C dX8_put_34 rfl ?_
  refine x_getI C fkX_X8_40 (nlt rfl) rfl dX8_put_35 ?_
  refine x_eq (b := n) hm ?_
  refine x_iconst C dX8_put_38 ?_
  refine x_iadd C dX8_put_39 ?_
  refine x_putI C pkX_X8_40 (nlt rfl) rfl dX8_put_40 ?_
  refine x_iinc (lv' := [(2, .int (iI (24 + (-8)))), (0, .ref 1), (1, .int (iI (v)))]) C dX8_put_43 rfl (nlt rfl) rfl ?_
  refine Wx_lv (lv' := [(2, .int (iI (16))), (0, .ref 1), (1, .int (iI (v)))]) rfl ?_
  refine x_goto (tgt := 3) C dX8_put_46 (by decide) ?_
  refine x_iload_n (i := 2) C dX8_put_3 rfl rfl ?_
  refine x_if_lt (tgt := 49) C dX8_put_4 (by decide) ⟨by omega, by omega⟩ (fun h5 => by exfalso; omega) (fun h5 => ?_)
  refine x_aload_n (i := 0) C dX8_put_7 rfl rfl ?_
  refine x_getI C fkX_X8_40 (nlt rfl) rfl dX8_put_8 ?_
  refine x_eq (b := n + 1) rfl ?_
  refine x_sipush C dX8_put_11 (by decide) ?_
  refine x_icmp_ge (tgt := 49) C dX8_put_14 (by decide) ⟨by omega, by omega⟩ ⟨by omega, by omega⟩ (fun h6 => by exfalso; omega) (fun h6 => ?_)
  refine x_aload_n (i := 0) C dX8_put_17 rfl rfl ?_
  refine x_getRs (r := 2) C fkX_X8_15 (nlt rfl) rfl (congrFun (congrFun hr 1) 3) dX8_put_18 ?_
  refine x_aload_n (i := 0) C dX8_put_21 rfl rfl ?_
  refine x_getI C fkX_X8_40 (nlt rfl) rfl dX8_put_22 ?_
  refine x_eq (b := n + 1) rfl ?_
  refine x_iload_n (i := 1) C dX8_put_25 rfl rfl ?_
  refine x_iload_n (i := 2) C dX8_put_26 rfl rfl ?_
  refine x_iushr C dX8_put_27 ?_
  refine x_topi (fun v7 rv7 ev7 => ?_)
  unfold inR at rv7
  have bv7 := ushr16_bd rv7 ev7
  refine x_sipush C dX8_put_28 (by decide) ?_
  refine x_iand C dX8_put_31 ?_
  refine x_topi (fun v8 rv8 ev8 => ?_)
  unfold inR at rv8
  have bv8 := and_bd (m := 255) (by decide) (by decide) rv8 ev8
  refine x_iast C (nlt rfl) rfl rfl (nle rfl) (by omega) (by omega) dX8_put_32 ?_
  refine x_aload_n (i := 0) C dX8_put_33 rfl rfl ?_
  refine x_dup C dX8_put_34 rfl ?_
  refine x_getI C fkX_X8_40 (nlt rfl) rfl dX8_put_35 ?_
  refine x_eq (b := n + 1) rfl ?_
  refine x_iconst C dX8_put_38 ?_
  refine x_iadd C dX8_put_39 ?_
  refine x_putI C pkX_X8_40 (nlt rfl) rfl dX8_put_40 ?_
  refine x_iinc (lv' := [(2, .int (iI (16 + (-8)))), (0, .ref 1), (1, .int (iI (v)))]) C dX8_put_43 rfl (nlt rfl) rfl ?_
  refine Wx_lv (lv' := [(2, .int (iI (8))), (0, .ref 1), (1, .int (iI (v)))]) rfl ?_
  refine x_goto (tgt := 3) C dX8_put_46 (by decide) ?_
  refine x_iload_n (i := 2) C dX8_put_3 rfl rfl ?_
  refine x_if_lt (tgt := 49) C dX8_put_4 (by decide) ⟨by omega, by omega⟩ (fun h9 => by exfalso; omega) (fun h9 => ?_)
  refine x_aload_n (i := 0) C dX8_put_7 rfl rfl ?_
  refine x_getI C fkX_X8_40 (nlt rfl) rfl dX8_put_8 ?_
  refine x_eq (b := (n + 1) + 1) rfl ?_
  refine x_sipush C dX8_put_11 (by decide) ?_
  refine x_icmp_ge (tgt := 49) C dX8_put_14 (by decide) ⟨by omega, by omega⟩ ⟨by omega, by omega⟩ (fun h10 => by exfalso; omega) (fun h10 => ?_)
  refine x_aload_n (i := 0) C dX8_put_17 rfl rfl ?_
  refine x_getRs (r := 2) C fkX_X8_15 (nlt rfl) rfl (congrFun (congrFun hr 1) 3) dX8_put_18 ?_
  refine x_aload_n (i := 0) C dX8_put_21 rfl rfl ?_
  refine x_getI C fkX_X8_40 (nlt rfl) rfl dX8_put_22 ?_
  refine x_eq (b := (n + 1) + 1) rfl ?_
  refine x_iload_n (i := 1) C dX8_put_25 rfl rfl ?_
  refine x_iload_n (i := 2) C dX8_put_26 rfl rfl ?_
  refine x_iushr C dX8_put_27 ?_
  refine x_topi (fun v11 rv11 ev11 => ?_)
  unfold inR at rv11
  refine x_sipush C dX8_put_28 (by decide) ?_
  refine x_iand C dX8_put_31 ?_
  refine x_topi (fun v12 rv12 ev12 => ?_)
  unfold inR at rv12
  have bv12 := and_bd (m := 255) (by decide) (by decide) rv12 ev12
  refine x_iast C (nlt rfl) rfl rfl (nle rfl) (by omega) (by omega) dX8_put_32 ?_
  refine x_aload_n (i := 0) C dX8_put_33 rfl rfl ?_
  refine x_dup C dX8_put_34 rfl ?_
  refine x_getI C fkX_X8_40 (nlt rfl) rfl dX8_put_35 ?_
  refine x_eq (b := (n + 1) + 1) rfl ?_
  refine x_iconst C dX8_put_38 ?_
  refine x_iadd C dX8_put_39 ?_
  refine x_putI C pkX_X8_40 (nlt rfl) rfl dX8_put_40 ?_
  refine x_iinc (lv' := [(2, .int (iI (8 + (-8)))), (0, .ref 1), (1, .int (iI (v)))]) C dX8_put_43 rfl (nlt rfl) rfl ?_
  refine Wx_lv (lv' := [(2, .int (iI (0))), (0, .ref 1), (1, .int (iI (v)))]) rfl ?_
  refine x_goto (tgt := 3) C dX8_put_46 (by decide) ?_
  refine x_iload_n (i := 2) C dX8_put_3 rfl rfl ?_
  refine x_if_lt (tgt := 49) C dX8_put_4 (by decide) ⟨by omega, by omega⟩ (fun h13 => by exfalso; omega) (fun h13 => ?_)
  refine x_aload_n (i := 0) C dX8_put_7 rfl rfl ?_
  refine x_getI C fkX_X8_40 (nlt rfl) rfl dX8_put_8 ?_
  refine x_eq (b := ((n + 1) + 1) + 1) rfl ?_
  refine x_sipush C dX8_put_11 (by decide) ?_
  refine x_icmp_ge (tgt := 49) C dX8_put_14 (by decide) ⟨by omega, by omega⟩ ⟨by omega, by omega⟩ (fun h14 => by exfalso; omega) (fun h14 => ?_)
  refine x_aload_n (i := 0) C dX8_put_17 rfl rfl ?_
  refine x_getRs (r := 2) C fkX_X8_15 (nlt rfl) rfl (congrFun (congrFun hr 1) 3) dX8_put_18 ?_
  refine x_aload_n (i := 0) C dX8_put_21 rfl rfl ?_
  refine x_getI C fkX_X8_40 (nlt rfl) rfl dX8_put_22 ?_
  refine x_eq (b := ((n + 1) + 1) + 1) rfl ?_
  refine x_iload_n (i := 1) C dX8_put_25 rfl rfl ?_
  refine x_iload_n (i := 2) C dX8_put_26 rfl rfl ?_
  refine x_iushr C dX8_put_27 ?_
  refine x_topi (fun v15 rv15 ev15 => ?_)
  unfold inR at rv15
  refine x_sipush C dX8_put_28 (by decide) ?_
  refine x_iand C dX8_put_31 ?_
  refine x_topi (fun v16 rv16 ev16 => ?_)
  unfold inR at rv16
  have bv16 := and_bd (m := 255) (by decide) (by decide) rv16 ev16
  refine x_iast C (nlt rfl) rfl rfl (nle rfl) (by omega) (by omega) dX8_put_32 ?_
  refine x_aload_n (i := 0) C dX8_put_33 rfl rfl ?_
  refine x_dup C dX8_put_34 rfl ?_
  refine x_getI C fkX_X8_40 (nlt rfl) rfl dX8_put_35 ?_
  refine x_eq (b := ((n + 1) + 1) + 1) rfl ?_
  refine x_iconst C dX8_put_38 ?_
  refine x_iadd C dX8_put_39 ?_
  refine x_putI C pkX_X8_40 (nlt rfl) rfl dX8_put_40 ?_
  refine x_iinc (lv' := [(2, .int (iI (0 + (-8)))), (0, .ref 1), (1, .int (iI (v)))]) C dX8_put_43 rfl (nlt rfl) rfl ?_
  refine Wx_lv (lv' := [(2, .int (iI ((-8)))), (0, .ref 1), (1, .int (iI (v)))]) rfl ?_
  refine x_goto (tgt := 3) C dX8_put_46 (by decide) ?_
  refine x_iload_n (i := 2) C dX8_put_3 rfl rfl ?_
  refine x_if_lt (tgt := 49) C dX8_put_4 (by decide) ⟨by omega, by omega⟩ (fun h17 => ?_) (fun h17 => by exfalso; omega)
  exact x_vret C dX8_put_49 (⟨rfl, hr, by show (((n + 1) + 1) + 1) + 1 = n + 4; omega⟩)
set_option maxHeartbeats 4000000 in
set_option maxRecDepth 100000 in
theorem x_feed {D : va_G} {ad : Nat → Nat} {cA : Nat → ClassId} {a b c d e : Int} (ha : inR a) (hb : inR b) (hc : inR c) (hd : inR d) (he : inR e) : MetX (wX D ad cA) yX11_feed cX11_feed 6 (some .int) 1 22 [.ref 0, .int (iI (a)), .int (iI (b)), .int (iI (c)), .int (iI (d)), .int (iI (e))] x0X (fun r _ => r = some (.int (iI (20)))) := by
  have hr : (x0X).2.2 = rX := rfl
  unfold inR at ha hb hc hd he
  refine MetX.mk (own := RX11) (by decide +kernel) rfl (nle rfl) (fun E C => ?_)
  refine Wx_lv (lv' := [(0, .ref 0), (1, .int (iI (a))), (2, .int (iI (b))), (3, .int (iI (c))), (4, .int (iI (d))), (5, .int (iI (e)))]) rfl ?_
  refine x_aload_n (i := 0) C dX11_feed_0 rfl rfl ?_
  refine x_getRs (r := 1) C fkX_X11_10 (nlt rfl) rfl (congrFun (congrFun hr 0) 0) dX11_feed_1 ?_
  refine x_getI C fkX_X11_61 (nlt rfl) rfl dX11_feed_4 ?_
  refine x_eq (b := 0) rfl ?_
  refine x_bipush C dX11_feed_7 (by decide) ?_
  refine x_iadd C dX11_feed_9 ?_
  refine x_eq (b := 20) rfl ?_
  refine x_sipush C dX11_feed_10 (by decide) ?_
  refine x_icmp_le (tgt := 18) C dX11_feed_13 (by decide) ⟨by omega, by omega⟩ ⟨by omega, by omega⟩ (fun h1 => ?_) (fun h1 => by exfalso; omega)
  refine x_aload_n (i := 0) C dX11_feed_18 rfl rfl ?_
  refine x_getRs (r := 1) C fkX_X11_10 (nlt rfl) rfl (congrFun (congrFun hr 0) 0) dX11_feed_19 ?_
  refine x_iload_n (i := 1) C dX11_feed_22 rfl rfl ?_
  refine x_callV (As := [.int (iI (a))]) C (by exact (n_put (v := a) (n := 0) (by exact hr) ⟨by omega, by omega⟩ (by exact rfl) (by omega) (by omega))) ckX11_65 im_X8_put se_X8_put (nlt rfl) rfl rfl rfl rfl (nle rfl) (by exact ⟨nle rfl, nle rfl⟩) dX11_feed_23 ?_
  rintro _ Xh2 ⟨rfl, hr, h2⟩
  refine Wx_st (st' := []) rfl ?_
  refine x_aload_n (i := 0) C dX11_feed_26 rfl rfl ?_
  refine x_getRs (r := 1) C fkX_X11_10 (nlt rfl) rfl (congrFun (congrFun hr 0) 0) dX11_feed_27 ?_
  refine x_iload_n (i := 2) C dX11_feed_30 rfl rfl ?_
  refine x_callV (As := [.int (iI (b))]) C (by exact (n_put (v := b) (n := 4) (by exact hr) ⟨by omega, by omega⟩ (by exact h2) (by omega) (by omega))) ckX11_65 im_X8_put se_X8_put (nlt rfl) rfl rfl rfl rfl (nle rfl) (by exact ⟨nle rfl, nle rfl⟩) dX11_feed_31 ?_
  rintro _ Xh3 ⟨rfl, hr, h3⟩
  refine Wx_st (st' := []) rfl ?_
  refine x_aload_n (i := 0) C dX11_feed_34 rfl rfl ?_
  refine x_getRs (r := 1) C fkX_X11_10 (nlt rfl) rfl (congrFun (congrFun hr 0) 0) dX11_feed_35 ?_
  refine x_iload_n (i := 3) C dX11_feed_38 rfl rfl ?_
  refine x_callV (As := [.int (iI (c))]) C (by exact (n_put (v := c) (n := 8) (by exact hr) ⟨by omega, by omega⟩ (by exact h3) (by omega) (by omega))) ckX11_65 im_X8_put se_X8_put (nlt rfl) rfl rfl rfl rfl (nle rfl) (by exact ⟨nle rfl, nle rfl⟩) dX11_feed_39 ?_
  rintro _ Xh4 ⟨rfl, hr, h4⟩
  refine Wx_st (st' := []) rfl ?_
  refine x_aload_n (i := 0) C dX11_feed_42 rfl rfl ?_
  refine x_getRs (r := 1) C fkX_X11_10 (nlt rfl) rfl (congrFun (congrFun hr 0) 0) dX11_feed_43 ?_
  refine x_iload C dX11_feed_46 rfl ?_
  refine x_callV (As := [.int (iI (d))]) C (by exact (n_put (v := d) (n := 12) (by exact hr) ⟨by omega, by omega⟩ (by exact h4) (by omega) (by omega))) ckX11_65 im_X8_put se_X8_put (nlt rfl) rfl rfl rfl rfl (nle rfl) (by exact ⟨nle rfl, nle rfl⟩) dX11_feed_48 ?_
  rintro _ Xh5 ⟨rfl, hr, h5⟩
  refine Wx_st (st' := []) rfl ?_
  refine x_aload_n (i := 0) C dX11_feed_51 rfl rfl ?_
  refine x_getRs (r := 1) C fkX_X11_10 (nlt rfl) rfl (congrFun (congrFun hr 0) 0) dX11_feed_52 ?_
  refine x_iload C dX11_feed_55 rfl ?_
  refine x_callV (As := [.int (iI (e))]) C (by exact (n_put (v := e) (n := 16) (by exact hr) ⟨by omega, by omega⟩ (by exact h5) (by omega) (by omega))) ckX11_65 im_X8_put se_X8_put (nlt rfl) rfl rfl rfl rfl (nle rfl) (by exact ⟨nle rfl, nle rfl⟩) dX11_feed_57 ?_
  rintro _ Xh6 ⟨rfl, hr, h6⟩
  refine Wx_st (st' := []) rfl ?_
  refine x_aload_n (i := 0) C dX11_feed_60 rfl rfl ?_
  refine x_getRs (r := 1) C fkX_X11_10 (nlt rfl) rfl (congrFun (congrFun hr 0) 0) dX11_feed_61 ?_
  refine x_getI C fkX_X11_61 (nlt rfl) rfl dX11_feed_64 ?_
  refine x_eq (b := 20) h6 ?_
  exact x_iret C dX11_feed_67 (congrArg (fun z : Int => some (Value.int (iI z))) (by first | rfl | omega | (split <;> omega) | (repeat (first | omega | split))))
set_option maxHeartbeats 4000000 in
set_option maxRecDepth 100000 in
theorem x_end {D : va_G} {ad : Nat → Nat} {cA : Nat → ClassId} {n : Int} (hn : inR n) : MetX (wX D ad cA) yX11_end cX11_end 2 (some .int) 0 0 [.ref 0, .int (iI (n))] x0X (fun r _ => r = some (.int (iI (if n = 0 then 0 else -1)))) := by
  have hr : (x0X).2.2 = rX := rfl
  unfold inR at hn
  refine MetX.mk (own := RX11) (by decide +kernel) rfl (nle rfl) (fun E C => ?_)
  refine Wx_lv (lv' := [(0, .ref 0), (1, .int (iI (n)))]) rfl ?_
  refine x_iload_n (i := 1) C dX11_end_0 rfl rfl ?_
  refine x_if_lt (tgt := 15) C dX11_end_1 (by decide) ⟨by omega, by omega⟩ (fun h1 => ?_) (fun h1 => ?_)
  · refine x_iconst C dX11_end_15 ?_
    exact x_iret C dX11_end_16 (congrArg (fun z : Int => some (Value.int (iI z))) (by first | rfl | omega | (split <;> omega) | (repeat (first | omega | split))))
  · refine x_iload_n (i := 1) C dX11_end_4 rfl rfl ?_
    refine x_aload_n (i := 0) C dX11_end_5 rfl rfl ?_
    refine x_getRs (r := 1) C fkX_X11_10 (nlt rfl) rfl (congrFun (congrFun hr 0) 0) dX11_end_6 ?_
    refine x_getI C fkX_X11_61 (nlt rfl) rfl dX11_end_9 ?_
    refine x_eq (b := 0) rfl ?_
    refine x_icmp_le (tgt := 17) C dX11_end_12 (by decide) ⟨by omega, by omega⟩ ⟨by omega, by omega⟩ (fun h2 => ?_) (fun h2 => ?_)
    · refine x_aload_n (i := 0) C dX11_end_17 rfl rfl ?_
      refine x_getRs (r := 1) C fkX_X11_10 (nlt rfl) rfl (congrFun (congrFun hr 0) 0) dX11_end_18 ?_
      refine x_iload_n (i := 1) C dX11_end_21 rfl rfl ?_
      refine x_putI C pkX_X11_61 (nlt rfl) rfl dX11_end_22 ?_
      refine x_iload_n (i := 1) C dX11_end_25 rfl rfl ?_
      exact x_iret C dX11_end_26 (congrArg (fun z : Int => some (Value.int (iI z))) (by first | rfl | omega | (split <;> omega) | (repeat (first | omega | split))))
    · refine x_iconst C dX11_end_15 ?_
      exact x_iret C dX11_end_16 (congrArg (fun z : Int => some (Value.int (iI z))) (by first | rfl | omega | (split <;> omega) | (repeat (first | omega | split))))
set_option maxHeartbeats 4000000 in
set_option maxRecDepth 100000 in
theorem x_fault {D : va_G} {ad : Nat → Nat} {cA : Nat → ClassId} {q : Int} (hq : inR q) : MetX (wX D ad cA) yX11_fault cX11_fault 2 (some .int) 0 0 [.ref 0, .int (iI (q))] x0X (fun r _ => r = some (.int (iI (if q = 1 then -1 else if q = 0 then 0 else -1)))) := by
  have hr : (x0X).2.2 = rX := rfl
  unfold inR at hq
  refine MetX.mk (own := RX11) (by decide +kernel) rfl (nle rfl) (fun E C => ?_)
  refine Wx_lv (lv' := [(0, .ref 0), (1, .int (iI (q)))]) rfl ?_
  refine x_iload_n (i := 1) C dX11_fault_0 rfl rfl ?_
  refine x_if_ne (tgt := 14) C dX11_fault_1 (by decide) ⟨by omega, by omega⟩ (fun h1 => ?_) (fun h1 => ?_)
  · refine x_iload_n (i := 1) C dX11_fault_14 rfl rfl ?_
    refine x_iconst C dX11_fault_15 ?_
    refine x_icmp_ne (tgt := 29) C dX11_fault_16 (by decide) ⟨by omega, by omega⟩ ⟨by omega, by omega⟩ (fun h2 => ?_) (fun h2 => ?_)
    · refine x_iconst C dX11_fault_29 ?_
      exact x_iret C dX11_fault_30 (congrArg (fun z : Int => some (Value.int (iI z))) (by first | rfl | omega | (split <;> omega) | (repeat (first | omega | split))))
    · refine x_aload_n (i := 0) C dX11_fault_19 rfl rfl ?_
      refine x_getRs (r := 1) C fkX_X11_10 (nlt rfl) rfl (congrFun (congrFun hr 0) 0) dX11_fault_20 ?_
      refine x_getI C fkX_X11_72 (nlt rfl) rfl dX11_fault_23 ?_
      refine x_eq (b := (-1)) rfl ?_
      refine x_goto (tgt := 30) C dX11_fault_26 (by decide) ?_
      exact x_iret C dX11_fault_30 (congrArg (fun z : Int => some (Value.int (iI z))) (by first | rfl | omega | (split <;> omega) | (repeat (first | omega | split))))
  · refine x_aload_n (i := 0) C dX11_fault_4 rfl rfl ?_
    refine x_getRs (r := 1) C fkX_X11_10 (nlt rfl) rfl (congrFun (congrFun hr 0) 0) dX11_fault_5 ?_
    refine x_getI C fkX_X11_69 (nlt rfl) rfl dX11_fault_8 ?_
    refine x_eq (b := 0) rfl ?_
    refine x_goto (tgt := 30) C dX11_fault_11 (by decide) ?_
    exact x_iret C dX11_fault_30 (congrArg (fun z : Int => some (Value.int (iI z))) (by first | rfl | omega | (split <;> omega) | (repeat (first | omega | split))))
set_option maxHeartbeats 4000000 in
set_option maxRecDepth 100000 in
theorem x_count {D : va_G} {ad : Nat → Nat} {cA : Nat → ClassId} {q : Int} (hq : inR q) : MetX (wX D ad cA) yX11_count cX11_count 2 (some .int) 0 0 [.ref 0, .int (iI (q))] x0X (fun r _ => r = some (.int (iI (if 0 ≤ q ∧ q ≤ 2 then 0 else -2)))) := by
  have hr : (x0X).2.2 = rX := rfl
  unfold inR at hq
  refine MetX.mk (own := RX11) (by decide +kernel) rfl (nle rfl) (fun E C => ?_)
  refine Wx_lv (lv' := [(0, .ref 0), (1, .int (iI (q)))]) rfl ?_
  refine x_iload_n (i := 1) C dX11_count_0 rfl rfl ?_
  refine x_if_lt (tgt := 21) C dX11_count_1 (by decide) ⟨by omega, by omega⟩ (fun h1 => ?_) (fun h1 => ?_)
  · refine x_bipush C dX11_count_21 (by decide) ?_
    exact x_iret C dX11_count_23 (congrArg (fun z : Int => some (Value.int (iI z))) (by first | rfl | omega | (split <;> omega) | (repeat (first | omega | split))))
  · refine x_iload_n (i := 1) C dX11_count_4 rfl rfl ?_
    refine x_iconst C dX11_count_5 ?_
    refine x_icmp_ge (tgt := 21) C dX11_count_6 (by decide) ⟨by omega, by omega⟩ ⟨by omega, by omega⟩ (fun h2 => ?_) (fun h2 => ?_)
    · refine x_bipush C dX11_count_21 (by decide) ?_
      exact x_iret C dX11_count_23 (congrArg (fun z : Int => some (Value.int (iI z))) (by first | rfl | omega | (split <;> omega) | (repeat (first | omega | split))))
    · refine x_aload_n (i := 0) C dX11_count_9 rfl rfl ?_
      refine x_getRs (r := 1) C fkX_X11_10 (nlt rfl) rfl (congrFun (congrFun hr 0) 0) dX11_count_10 ?_
      refine x_getRs (r := 3) C fkX_X11_284 (nlt rfl) rfl (congrFun (congrFun hr 1) 4) dX11_count_13 ?_
      refine x_iload_n (i := 1) C dX11_count_16 rfl rfl ?_
      refine x_iald C (nlt rfl) rfl rfl (nle rfl) (by omega) (by omega) dX11_count_17 ?_
      refine x_eq (b := 0) rfl ?_
      refine x_goto (tgt := 23) C dX11_count_18 (by decide) ?_
      exact x_iret C dX11_count_23 (congrArg (fun z : Int => some (Value.int (iI z))) (by first | rfl | omega | (split <;> omega) | (repeat (first | omega | split))))
set_option maxHeartbeats 4000000 in
set_option maxRecDepth 100000 in
theorem x_board {D : va_G} {ad : Nat → Nat} {cA : Nat → ClassId} {a b : Int} (ha : inR a) (hb : inR b) : MetX (wX D ad cA) yX11_board cX11_board 4 (some .int) 1 21 [.ref 0, .int (iI (a)), .int (iI (b))] x0X (fun r _ => r = some (.int (iI (-1)))) := by
  have hr : (x0X).2.2 = rX := rfl
  unfold inR at ha hb
  refine MetX.mk (own := RX11) (by decide +kernel) rfl (nle rfl) (fun E C => ?_)
  refine Wx_lv (lv' := [(0, .ref 0), (1, .int (iI (a))), (2, .int (iI (b)))]) rfl ?_
  refine x_aload_n (i := 0) C dX11_board_0 rfl rfl ?_
  refine x_getRs (r := 1) C fkX_X11_10 (nlt rfl) rfl (congrFun (congrFun hr 0) 0) dX11_board_1 ?_
  refine x_iload_n (i := 1) C dX11_board_4 rfl rfl ?_
  refine x_callV (As := [.int (iI (a))]) C (by exact (n_boardAt (k := a) (by exact hr) (by exact (fun _ => rfl)) ⟨by omega, by omega⟩)) ckX11_93 im_X8_boardAt se_X8_boardAt (nlt rfl) rfl rfl rfl rfl (nle rfl) (by exact ⟨nle rfl, nle rfl⟩) dX11_board_5 ?_
  rintro _ _ ⟨rfl, rfl⟩
  refine Wx_st (st' := [.null]) rfl ?_
  refine x_astore_nN (i := 3) (lv' := [(3, .null), (0, .ref 0), (1, .int (iI (a))), (2, .int (iI (b)))]) C dX11_board_8 rfl (nlt rfl) rfl ?_
  refine x_aload_nN (i := 3) C dX11_board_9 rfl rfl ?_
  refine x_ifnonnullN C dX11_board_10 ?_
  refine x_iconst C dX11_board_13 ?_
  exact x_iret C dX11_board_14 (congrArg (fun z : Int => some (Value.int (iI z))) (by first | rfl | omega | (split <;> omega) | (repeat (first | omega | split))))
set_option maxHeartbeats 4000000 in
set_option maxRecDepth 100000 in
theorem x_field {D : va_G} {ad : Nat → Nat} {cA : Nat → ClassId} {a b : Int} (ha : inR a) (hb : inR b) : MetX (wX D ad cA) yX11_field cX11_field 5 (some .int) 1 22 [.ref 0, .int (iI (a)), .int (iI (b))] x0X (fun r _ => r = some (.int (iI (-1)))) := by
  have hr : (x0X).2.2 = rX := rfl
  unfold inR at ha hb
  refine MetX.mk (own := RX11) (by decide +kernel) rfl (nle rfl) (fun E C => ?_)
  refine Wx_lv (lv' := [(0, .ref 0), (1, .int (iI (a))), (2, .int (iI (b)))]) rfl ?_
  refine x_aload_n (i := 0) C dX11_field_0 rfl rfl ?_
  refine x_getRs (r := 1) C fkX_X11_10 (nlt rfl) rfl (congrFun (congrFun hr 0) 0) dX11_field_1 ?_
  refine x_iload_n (i := 1) C dX11_field_4 rfl rfl ?_
  refine x_callV (As := [.int (iI (a))]) C (by exact (n_boardAt (k := a) (by exact hr) (by exact (fun _ => rfl)) ⟨by omega, by omega⟩)) ckX11_93 im_X8_boardAt se_X8_boardAt (nlt rfl) rfl rfl rfl rfl (nle rfl) (by exact ⟨nle rfl, nle rfl⟩) dX11_field_5 ?_
  rintro _ _ ⟨rfl, rfl⟩
  refine Wx_st (st' := [.null]) rfl ?_
  refine x_astore_nN (i := 3) (lv' := [(3, .null), (0, .ref 0), (1, .int (iI (a))), (2, .int (iI (b)))]) C dX11_field_8 rfl (nlt rfl) rfl ?_
  refine x_aload_nN (i := 3) C dX11_field_9 rfl rfl ?_
  refine x_ifnullN (tgt := 21) C dX11_field_10 (by decide) ?_
  refine x_iconst C dX11_field_21 ?_
  exact x_iret C dX11_field_22 (congrArg (fun z : Int => some (Value.int (iI z))) (by first | rfl | omega | (split <;> omega) | (repeat (first | omega | split))))
set_option maxHeartbeats 4000000 in
set_option maxRecDepth 100000 in
theorem x_man {D : va_G} {ad : Nat → Nat} {cA : Nat → ClassId} {a b c : Int} (ha : inR a) (hb : inR b) (hc : inR c) : MetX (wX D ad cA) yX11_man cX11_man 5 (some .int) 1 21 [.ref 0, .int (iI (a)), .int (iI (b)), .int (iI (c))] x0X (fun r _ => r = some (.int (iI (-1)))) := by
  have hr : (x0X).2.2 = rX := rfl
  unfold inR at ha hb hc
  refine MetX.mk (own := RX11) (by decide +kernel) rfl (nle rfl) (fun E C => ?_)
  refine Wx_lv (lv' := [(0, .ref 0), (1, .int (iI (a))), (2, .int (iI (b))), (3, .int (iI (c)))]) rfl ?_
  refine x_aload_n (i := 0) C dX11_man_0 rfl rfl ?_
  refine x_getRs (r := 1) C fkX_X11_10 (nlt rfl) rfl (congrFun (congrFun hr 0) 0) dX11_man_1 ?_
  refine x_iload_n (i := 1) C dX11_man_4 rfl rfl ?_
  refine x_callV (As := [.int (iI (a))]) C (by exact (n_boardAt (k := a) (by exact hr) (by exact (fun _ => rfl)) ⟨by omega, by omega⟩)) ckX11_93 im_X8_boardAt se_X8_boardAt (nlt rfl) rfl rfl rfl rfl (nle rfl) (by exact ⟨nle rfl, nle rfl⟩) dX11_man_5 ?_
  rintro _ _ ⟨rfl, rfl⟩
  refine Wx_st (st' := [.null]) rfl ?_
  refine x_astoreN (lv' := [(4, .null), (0, .ref 0), (1, .int (iI (a))), (2, .int (iI (b))), (3, .int (iI (c)))]) C dX11_man_8 (nlt rfl) rfl ?_
  refine x_aloadN C dX11_man_10 rfl ?_
  refine x_ifnullN (tgt := 24) C dX11_man_12 (by decide) ?_
  refine x_iconst C dX11_man_24 ?_
  exact x_iret C dX11_man_25 (congrArg (fun z : Int => some (Value.int (iI z))) (by first | rfl | omega | (split <;> omega) | (repeat (first | omega | split))))
set_option maxHeartbeats 4000000 in
set_option maxRecDepth 100000 in
theorem x_rule {D : va_G} {ad : Nat → Nat} {cA : Nat → ClassId} {a b : Int} (ha : inR a) (hb : inR b) : MetX (wX D ad cA) yX11_rule cX11_rule 5 (some .int) 1 22 [.ref 0, .int (iI (a)), .int (iI (b))] x0X (fun r _ => r = some (.int (iI (-2)))) := by
  have hr : (x0X).2.2 = rX := rfl
  unfold inR at ha hb
  refine MetX.mk (own := RX11) (by decide +kernel) rfl (nle rfl) (fun E C => ?_)
  refine Wx_lv (lv' := [(0, .ref 0), (1, .int (iI (a))), (2, .int (iI (b)))]) rfl ?_
  refine x_aload_n (i := 0) C dX11_rule_0 rfl rfl ?_
  refine x_getRs (r := 1) C fkX_X11_10 (nlt rfl) rfl (congrFun (congrFun hr 0) 0) dX11_rule_1 ?_
  refine x_iload_n (i := 1) C dX11_rule_4 rfl rfl ?_
  refine x_callV (As := [.int (iI (a))]) C (by exact (n_hasRule (k := a) (by exact hr) (by exact (fun _ => rfl)) ⟨by omega, by omega⟩)) ckX11_142 im_X8_hasRule se_X8_hasRule (nlt rfl) rfl rfl rfl rfl (nle rfl) (by exact ⟨nle rfl, nle rfl⟩) dX11_rule_5 ?_
  rintro _ _ ⟨rfl, rfl⟩
  refine Wx_st (st' := [.int (iI (0))]) rfl ?_
  refine x_if_ne (tgt := 14) C dX11_rule_8 (by decide) ⟨by omega, by omega⟩ (fun h1 => by exfalso; omega) (fun h1 => ?_)
  refine x_bipush C dX11_rule_11 (by decide) ?_
  exact x_iret C dX11_rule_13 (congrArg (fun z : Int => some (Value.int (iI z))) (by first | rfl | omega | (split <;> omega) | (repeat (first | omega | split))))
set_option maxHeartbeats 4000000 in
set_option maxRecDepth 100000 in
theorem x_ends {D : va_G} {ad : Nat → Nat} {cA : Nat → ClassId} {a b c : Int} (ha : inR a) (hb : inR b) (hc : inR c) : MetX (wX D ad cA) yX11_ends cX11_ends 5 (some .long) 6 157 [.ref 0, .int (iI (a)), .int (iI (b)), .int (iI (c))] x0X (fun r _ => r = some (.long (-1))) := by
  have hr : (x0X).2.2 = rX := rfl
  unfold inR at ha hb hc
  refine MetX.mk (own := RX11) (by decide +kernel) rfl (nle rfl) (fun E C => ?_)
  refine Wx_lv (lv' := [(0, .ref 0), (1, .int (iI (a))), (2, .int (iI (b))), (3, .int (iI (c)))]) rfl ?_
  refine x_aload_n (i := 0) C dX11_ends_0 rfl rfl ?_
  refine x_getRs (r := 1) C fkX_X11_10 (nlt rfl) rfl (congrFun (congrFun hr 0) 0) dX11_ends_1 ?_
  refine x_iload_n (i := 1) C dX11_ends_4 rfl rfl ?_
  refine x_callV (As := [.int (iI (a))]) C (by exact (n_boardAt (k := a) (by exact hr) (by exact (fun _ => rfl)) ⟨by omega, by omega⟩)) ckX11_93 im_X8_boardAt se_X8_boardAt (nlt rfl) rfl rfl rfl rfl (nle rfl) (by exact ⟨nle rfl, nle rfl⟩) dX11_ends_5 ?_
  rintro _ _ ⟨rfl, rfl⟩
  refine Wx_st (st' := [.null]) rfl ?_
  refine x_astoreN (lv' := [(4, .null), (0, .ref 0), (1, .int (iI (a))), (2, .int (iI (b))), (3, .int (iI (c)))]) C dX11_ends_8 (nlt rfl) rfl ?_
  refine x_aloadN C dX11_ends_10 rfl ?_
  refine x_ifnullN (tgt := 35) C dX11_ends_12 (by decide) ?_
  refine x_ldc2 C dX11_ends_35 cnX11_156 ?_
  exact x_lret C dX11_ends_38 (rfl)
set_option maxHeartbeats 4000000 in
set_option maxRecDepth 100000 in
theorem x_ways {D : va_G} {ad : Nat → Nat} {cA : Nat → ClassId} {a b c d : Int} (ha : inR a) (hb : inR b) (hc : inR c) (hd : inR d) : MetX (wX D ad cA) yX11_ways cX11_ways 6 (some .int) 6 149 [.ref 0, .int (iI (a)), .int (iI (b)), .int (iI (c)), .int (iI (d))] x0X (fun r _ => r = some (.int (iI (-1)))) := by
  have hr : (x0X).2.2 = rX := rfl
  unfold inR at ha hb hc hd
  refine MetX.mk (own := RX11) (by decide +kernel) rfl (nle rfl) (fun E C => ?_)
  refine Wx_lv (lv' := [(0, .ref 0), (1, .int (iI (a))), (2, .int (iI (b))), (3, .int (iI (c))), (4, .int (iI (d)))]) rfl ?_
  refine x_aload_n (i := 0) C dX11_ways_0 rfl rfl ?_
  refine x_iload_n (i := 1) C dX11_ways_1 rfl rfl ?_
  refine x_iload_n (i := 2) C dX11_ways_2 rfl rfl ?_
  refine x_iload_n (i := 3) C dX11_ways_3 rfl rfl ?_
  refine x_iload C dX11_ways_4 rfl ?_
  refine x_callV (As := [.int (iI (a)), .int (iI (b)), .int (iI (c)), .int (iI (d))]) C (by exact (n_canTrace (a := a) (b := b) (c := c) (d := d) (by exact hr) (by exact (fun _ => rfl)) ⟨by omega, by omega⟩ ⟨by omega, by omega⟩ ⟨by omega, by omega⟩ ⟨by omega, by omega⟩)) ckX11_162 im_X11_canTrace se_X11_canTrace (nlt rfl) rfl rfl rfl rfl (nle rfl) (by exact ⟨nle rfl, nle rfl⟩) dX11_ways_6 ?_
  rintro _ _ ⟨rfl, rfl⟩
  refine Wx_st (st' := [.int (iI (0))]) rfl ?_
  refine x_if_ne (tgt := 14) C dX11_ways_9 (by decide) ⟨by omega, by omega⟩ (fun h1 => by exfalso; omega) (fun h1 => ?_)
  refine x_iconst C dX11_ways_12 ?_
  exact x_iret C dX11_ways_13 (congrArg (fun z : Int => some (Value.int (iI z))) (by first | rfl | omega | (split <;> omega) | (repeat (first | omega | split))))
set_option maxHeartbeats 4000000 in
set_option maxRecDepth 100000 in
theorem x_path {D : va_G} {ad : Nat → Nat} {cA : Nat → ClassId} {a b c d e : Int} (ha : inR a) (hb : inR b) (hc : inR c) (hd : inR d) (he : inR e) : MetX (wX D ad cA) yX11_path cX11_path 7 (some .int) 6 149 [.ref 0, .int (iI (a)), .int (iI (b)), .int (iI (c)), .int (iI (d)), .int (iI (e))] x0X (fun r _ => r = some (.int (iI (-1)))) := by
  have hr : (x0X).2.2 = rX := rfl
  unfold inR at ha hb hc hd he
  refine MetX.mk (own := RX11) (by decide +kernel) rfl (nle rfl) (fun E C => ?_)
  refine Wx_lv (lv' := [(0, .ref 0), (1, .int (iI (a))), (2, .int (iI (b))), (3, .int (iI (c))), (4, .int (iI (d))), (5, .int (iI (e)))]) rfl ?_
  refine x_aload_n (i := 0) C dX11_path_0 rfl rfl ?_
  refine x_iload_n (i := 1) C dX11_path_1 rfl rfl ?_
  refine x_iload_n (i := 2) C dX11_path_2 rfl rfl ?_
  refine x_iload_n (i := 3) C dX11_path_3 rfl rfl ?_
  refine x_iload C dX11_path_4 rfl ?_
  refine x_callV (As := [.int (iI (a)), .int (iI (b)), .int (iI (c)), .int (iI (d))]) C (by exact (n_canTrace (a := a) (b := b) (c := c) (d := d) (by exact hr) (by exact (fun _ => rfl)) ⟨by omega, by omega⟩ ⟨by omega, by omega⟩ ⟨by omega, by omega⟩ ⟨by omega, by omega⟩)) ckX11_162 im_X11_canTrace se_X11_canTrace (nlt rfl) rfl rfl rfl rfl (nle rfl) (by exact ⟨nle rfl, nle rfl⟩) dX11_path_6 ?_
  rintro _ _ ⟨rfl, rfl⟩
  refine Wx_st (st' := [.int (iI (0))]) rfl ?_
  refine x_if_ne (tgt := 14) C dX11_path_9 (by decide) ⟨by omega, by omega⟩ (fun h1 => by exfalso; omega) (fun h1 => ?_)
  refine x_iconst C dX11_path_12 ?_
  exact x_iret C dX11_path_13 (congrArg (fun z : Int => some (Value.int (iI z))) (by first | rfl | omega | (split <;> omega) | (repeat (first | omega | split))))
set_option maxHeartbeats 4000000 in
set_option maxRecDepth 100000 in
theorem x_move {D : va_G} {ad : Nat → Nat} {cA : Nat → ClassId} {a b c : Int} (ha : inR a) (hb : inR b) (hc : inR c) : MetX (wX D ad cA) yX11_move cX11_move 7 (some .int) 1 22 [.ref 0, .int (iI (a)), .int (iI (b)), .int (iI (c))] x0X (fun r _ => r = some (.int (iI (-2)))) := by
  have hr : (x0X).2.2 = rX := rfl
  unfold inR at ha hb hc
  refine MetX.mk (own := RX11) (by decide +kernel) rfl (nle rfl) (fun E C => ?_)
  refine Wx_lv (lv' := [(0, .ref 0), (1, .int (iI (a))), (2, .int (iI (b))), (3, .int (iI (c)))]) rfl ?_
  refine x_aload_n (i := 0) C dX11_move_0 rfl rfl ?_
  refine x_getRs (r := 1) C fkX_X11_10 (nlt rfl) rfl (congrFun (congrFun hr 0) 0) dX11_move_1 ?_
  refine x_iload_n (i := 1) C dX11_move_4 rfl rfl ?_
  refine x_callV (As := [.int (iI (a))]) C (by exact (n_gameAt (k := a) (by exact hr) (by exact (fun _ => rfl)) ⟨by omega, by omega⟩)) ckX11_180 im_X8_gameAt se_X8_gameAt (nlt rfl) rfl rfl rfl rfl (nle rfl) (by exact ⟨nle rfl, nle rfl⟩) dX11_move_5 ?_
  rintro _ _ ⟨rfl, rfl⟩
  refine Wx_st (st' := [.null]) rfl ?_
  refine x_astoreN (lv' := [(4, .null), (0, .ref 0), (1, .int (iI (a))), (2, .int (iI (b))), (3, .int (iI (c)))]) C dX11_move_8 (nlt rfl) rfl ?_
  refine x_aloadN C dX11_move_10 rfl ?_
  refine x_ifnonnullN C dX11_move_12 ?_
  refine x_bipush C dX11_move_15 (by decide) ?_
  exact x_iret C dX11_move_17 (congrArg (fun z : Int => some (Value.int (iI z))) (by first | rfl | omega | (split <;> omega) | (repeat (first | omega | split))))
set_option maxHeartbeats 4000000 in
set_option maxRecDepth 100000 in
theorem x_stop {D : va_G} {ad : Nat → Nat} {cA : Nat → ClassId} {a b : Int} (ha : inR a) (hb : inR b) : MetX (wX D ad cA) yX11_stop cX11_stop 4 (some .int) 7 186 [.ref 0, .int (iI (a)), .int (iI (b))] x0X (fun r _ => r = some (.int (iI (-1)))) := by
  have hr : (x0X).2.2 = rX := rfl
  unfold inR at ha hb
  refine MetX.mk (own := RX11) (by decide +kernel) rfl (nle rfl) (fun E C => ?_)
  refine Wx_lv (lv' := [(0, .ref 0), (1, .int (iI (a))), (2, .int (iI (b)))]) rfl ?_
  refine x_aload_n (i := 0) C dX11_stop_0 rfl rfl ?_
  refine x_getRs (r := 1) C fkX_X11_10 (nlt rfl) rfl (congrFun (congrFun hr 0) 0) dX11_stop_1 ?_
  refine x_iload_n (i := 2) C dX11_stop_4 rfl rfl ?_
  refine x_callV (As := [.int (iI (b))]) C (by exact (n_gameAt (k := b) (by exact hr) (by exact (fun _ => rfl)) ⟨by omega, by omega⟩)) ckX11_180 im_X8_gameAt se_X8_gameAt (nlt rfl) rfl rfl rfl rfl (nle rfl) (by exact ⟨nle rfl, nle rfl⟩) dX11_stop_5 ?_
  rintro _ _ ⟨rfl, rfl⟩
  refine Wx_st (st' := [.null]) rfl ?_
  refine x_astore_nN (i := 3) (lv' := [(3, .null), (0, .ref 0), (1, .int (iI (a))), (2, .int (iI (b)))]) C dX11_stop_8 rfl (nlt rfl) rfl ?_
  refine x_aload_nN (i := 3) C dX11_stop_9 rfl rfl ?_
  refine x_ifnonnullN C dX11_stop_10 ?_
  refine x_iconst C dX11_stop_13 ?_
  refine x_goto (tgt := 37) C dX11_stop_14 (by decide) ?_
  exact x_iret C dX11_stop_37 (congrArg (fun z : Int => some (Value.int (iI z))) (by first | rfl | omega | (split <;> omega) | (repeat (first | omega | split))))
set_option maxHeartbeats 4000000 in
set_option maxRecDepth 100000 in
theorem x_state {D : va_G} {ad : Nat → Nat} {cA : Nat → ClassId} {a b c d : Int} (ha : inR a) (hb : inR b) (hc : inR c) (hd : inR d) : MetX (wX D ad cA) yX11_state cX11_state 6 (some .int) 7 186 [.ref 0, .int (iI (a)), .int (iI (b)), .int (iI (c)), .int (iI (d))] x0X (fun r _ => r = some (.int (iI (-2)))) := by
  have hr : (x0X).2.2 = rX := rfl
  unfold inR at ha hb hc hd
  refine MetX.mk (own := RX11) (by decide +kernel) rfl (nle rfl) (fun E C => ?_)
  refine Wx_lv (lv' := [(0, .ref 0), (1, .int (iI (a))), (2, .int (iI (b))), (3, .int (iI (c))), (4, .int (iI (d)))]) rfl ?_
  refine x_aload_n (i := 0) C dX11_state_0 rfl rfl ?_
  refine x_getRs (r := 60) C fkX_X11_48 (nlt rfl) rfl (congrFun (congrFun hr 0) 6) dX11_state_1 ?_
  refine x_aload_n (i := 0) C dX11_state_4 rfl rfl ?_
  refine x_getRs (r := 1) C fkX_X11_10 (nlt rfl) rfl (congrFun (congrFun hr 0) 0) dX11_state_5 ?_
  refine x_iload_n (i := 1) C dX11_state_8 rfl rfl ?_
  refine x_callV (As := [.int (iI (a))]) C (by exact (n_boardAt (k := a) (by exact hr) (by exact (fun _ => rfl)) ⟨by omega, by omega⟩)) ckX11_93 im_X8_boardAt se_X8_boardAt (nlt rfl) rfl rfl rfl rfl (nle rfl) (by exact ⟨nle rfl, nle rfl⟩) dX11_state_9 ?_
  rintro _ _ ⟨rfl, rfl⟩
  refine Wx_st (st' := [.null, .ref 60]) rfl ?_
  refine x_aload_n (i := 0) C dX11_state_12 rfl rfl ?_
  refine x_getRs (r := 1) C fkX_X11_10 (nlt rfl) rfl (congrFun (congrFun hr 0) 0) dX11_state_13 ?_
  refine x_iload_n (i := 2) C dX11_state_16 rfl rfl ?_
  refine x_callV (As := [.int (iI (b))]) C (by exact (n_gameAt (k := b) (by exact hr) (by exact (fun _ => rfl)) ⟨by omega, by omega⟩)) ckX11_180 im_X8_gameAt se_X8_gameAt (nlt rfl) rfl rfl rfl rfl (nle rfl) (by exact ⟨nle rfl, nle rfl⟩) dX11_state_17 ?_
  rintro _ _ ⟨rfl, rfl⟩
  refine Wx_st (st' := [.null, .null, .ref 60]) rfl ?_
  refine x_iload_n (i := 3) C dX11_state_20 rfl rfl ?_
  refine x_callV (As := [.null, .null, .int (iI (c))]) C (by exact (n_follow (n := c) ⟨by omega, by omega⟩)) ckX11_194 im_X5_follow se_X5_follow (nlt rfl) rfl rfl rfl rfl (nle rfl) (by exact ⟨nle rfl, nle rfl⟩) dX11_state_21 ?_
  rintro _ _ ⟨rfl, rfl⟩
  refine Wx_st (st' := [.int (iI ((-1)))]) rfl ?_
  refine x_istore (lv' := [(5, .int (iI ((-1)))), (0, .ref 0), (1, .int (iI (a))), (2, .int (iI (b))), (3, .int (iI (c))), (4, .int (iI (d)))]) C dX11_state_24 (nlt rfl) rfl ?_
  refine x_iload C dX11_state_26 rfl ?_
  refine x_iconst C dX11_state_28 ?_
  refine x_icmp_eq (tgt := 53) C dX11_state_29 (by decide) ⟨by omega, by omega⟩ ⟨by omega, by omega⟩ (fun h1 => ?_) (fun h1 => by exfalso; omega)
  refine x_bipush C dX11_state_53 (by decide) ?_
  exact x_iret C dX11_state_55 (congrArg (fun z : Int => some (Value.int (iI z))) (by first | rfl | omega | (split <;> omega) | (repeat (first | omega | split))))
set_option maxHeartbeats 4000000 in
set_option maxRecDepth 100000 in
theorem x_may {D : va_G} {ad : Nat → Nat} {cA : Nat → ClassId} {a b c d : Int} (ha : inR a) (hb : inR b) (hc : inR c) (hd : inR d) : MetX (wX D ad cA) yX11_may cX11_may 7 (some .long) 7 186 [.ref 0, .int (iI (a)), .int (iI (b)), .int (iI (c)), .int (iI (d))] x0X (fun r _ => r = some (.long (-1))) := by
  have hr : (x0X).2.2 = rX := rfl
  unfold inR at ha hb hc hd
  refine MetX.mk (own := RX11) (by decide +kernel) rfl (nle rfl) (fun E C => ?_)
  refine Wx_lv (lv' := [(0, .ref 0), (1, .int (iI (a))), (2, .int (iI (b))), (3, .int (iI (c))), (4, .int (iI (d)))]) rfl ?_
  refine x_aload_n (i := 0) C dX11_may_0 rfl rfl ?_
  refine x_getRs (r := 1) C fkX_X11_10 (nlt rfl) rfl (congrFun (congrFun hr 0) 0) dX11_may_1 ?_
  refine x_iload_n (i := 2) C dX11_may_4 rfl rfl ?_
  refine x_callV (As := [.int (iI (b))]) C (by exact (n_gameAt (k := b) (by exact hr) (by exact (fun _ => rfl)) ⟨by omega, by omega⟩)) ckX11_180 im_X8_gameAt se_X8_gameAt (nlt rfl) rfl rfl rfl rfl (nle rfl) (by exact ⟨nle rfl, nle rfl⟩) dX11_may_5 ?_
  rintro _ _ ⟨rfl, rfl⟩
  refine Wx_st (st' := [.null]) rfl ?_
  refine x_astoreN (lv' := [(5, .null), (0, .ref 0), (1, .int (iI (a))), (2, .int (iI (b))), (3, .int (iI (c))), (4, .int (iI (d)))]) C dX11_may_8 (nlt rfl) rfl ?_
  refine x_aloadN C dX11_may_10 rfl ?_
  refine x_ifnullN (tgt := 27) C dX11_may_12 (by decide) ?_
  refine x_ldc2 C dX11_may_27 cnX11_156 ?_
  exact x_lret C dX11_may_30 (rfl)
set_option maxHeartbeats 4000000 in
set_option maxRecDepth 100000 in
theorem x_fatal {D : va_G} {ad : Nat → Nat} {cA : Nat → ClassId} {a b c d : Int} (ha : inR a) (hb : inR b) (hc : inR c) (hd : inR d) : MetX (wX D ad cA) yX11_fatal cX11_fatal 7 (some .int) 7 187 [.ref 0, .int (iI (a)), .int (iI (b)), .int (iI (c)), .int (iI (d))] x0X (fun r _ => r = some (.int (iI (-1)))) := by
  have hr : (x0X).2.2 = rX := rfl
  unfold inR at ha hb hc hd
  refine MetX.mk (own := RX11) (by decide +kernel) rfl (nle rfl) (fun E C => ?_)
  refine Wx_lv (lv' := [(0, .ref 0), (1, .int (iI (a))), (2, .int (iI (b))), (3, .int (iI (c))), (4, .int (iI (d)))]) rfl ?_
  refine x_aload_n (i := 0) C dX11_fatal_0 rfl rfl ?_
  refine x_getRs (r := 1) C fkX_X11_10 (nlt rfl) rfl (congrFun (congrFun hr 0) 0) dX11_fatal_1 ?_
  refine x_iload_n (i := 2) C dX11_fatal_4 rfl rfl ?_
  refine x_callV (As := [.int (iI (b))]) C (by exact (n_gameAt (k := b) (by exact hr) (by exact (fun _ => rfl)) ⟨by omega, by omega⟩)) ckX11_180 im_X8_gameAt se_X8_gameAt (nlt rfl) rfl rfl rfl rfl (nle rfl) (by exact ⟨nle rfl, nle rfl⟩) dX11_fatal_5 ?_
  rintro _ _ ⟨rfl, rfl⟩
  refine Wx_st (st' := [.null]) rfl ?_
  refine x_astoreN (lv' := [(5, .null), (0, .ref 0), (1, .int (iI (a))), (2, .int (iI (b))), (3, .int (iI (c))), (4, .int (iI (d)))]) C dX11_fatal_8 (nlt rfl) rfl ?_
  refine x_aloadN C dX11_fatal_10 rfl ?_
  refine x_ifnullN (tgt := 37) C dX11_fatal_12 (by decide) ?_
  refine x_iconst C dX11_fatal_37 ?_
  exact x_iret C dX11_fatal_38 (congrArg (fun z : Int => some (Value.int (iI z))) (by first | rfl | omega | (split <;> omega) | (repeat (first | omega | split))))
set_option maxHeartbeats 4000000 in
set_option maxRecDepth 100000 in
theorem x_loses {D : va_G} {ad : Nat → Nat} {cA : Nat → ClassId} {a b c : Int} (ha : inR a) (hb : inR b) (hc : inR c) : MetX (wX D ad cA) yX11_loses cX11_loses 5 (some .boolean) 7 186 [.ref 0, .int (iI (a)), .int (iI (b)), .int (iI (c))] x0X (fun r _ => r = some (.int (iI (0)))) := by
  have hr : (x0X).2.2 = rX := rfl
  unfold inR at ha hb hc
  refine MetX.mk (own := RX11) (by decide +kernel) rfl (nle rfl) (fun E C => ?_)
  refine Wx_lv (lv' := [(0, .ref 0), (1, .int (iI (a))), (2, .int (iI (b))), (3, .int (iI (c)))]) rfl ?_
  refine x_aload_n (i := 0) C dX11_loses_0 rfl rfl ?_
  refine x_getRs (r := 1) C fkX_X11_10 (nlt rfl) rfl (congrFun (congrFun hr 0) 0) dX11_loses_1 ?_
  refine x_iload_n (i := 2) C dX11_loses_4 rfl rfl ?_
  refine x_callV (As := [.int (iI (b))]) C (by exact (n_gameAt (k := b) (by exact hr) (by exact (fun _ => rfl)) ⟨by omega, by omega⟩)) ckX11_180 im_X8_gameAt se_X8_gameAt (nlt rfl) rfl rfl rfl rfl (nle rfl) (by exact ⟨nle rfl, nle rfl⟩) dX11_loses_5 ?_
  rintro _ _ ⟨rfl, rfl⟩
  refine Wx_st (st' := [.null]) rfl ?_
  refine x_astoreN (lv' := [(4, .null), (0, .ref 0), (1, .int (iI (a))), (2, .int (iI (b))), (3, .int (iI (c)))]) C dX11_loses_8 (nlt rfl) rfl ?_
  refine x_aloadN C dX11_loses_10 rfl ?_
  refine x_ifnullN (tgt := 54) C dX11_loses_12 (by decide) ?_
  refine x_iconst C dX11_loses_54 ?_
  exact x_zret C (by omega) dX11_loses_55 (congrArg (fun z : Int => some (Value.int (iI z))) (by first | rfl | omega | (split <;> omega) | (repeat (first | omega | split))))
set_option maxHeartbeats 4000000 in
set_option maxRecDepth 100000 in
theorem x_brave {D : va_G} {ad : Nat → Nat} {cA : Nat → ClassId} {a b c : Int} (ha : inR a) (hb : inR b) (hc : inR c) : MetX (wX D ad cA) yX11_brave cX11_brave 6 (some .int) 7 186 [.ref 0, .int (iI (a)), .int (iI (b)), .int (iI (c))] x0X (fun r _ => r = some (.int (iI (-1)))) := by
  have hr : (x0X).2.2 = rX := rfl
  unfold inR at ha hb hc
  refine MetX.mk (own := RX11) (by decide +kernel) rfl (nle rfl) (fun E C => ?_)
  refine Wx_lv (lv' := [(0, .ref 0), (1, .int (iI (a))), (2, .int (iI (b))), (3, .int (iI (c)))]) rfl ?_
  refine x_aload_n (i := 0) C dX11_brave_0 rfl rfl ?_
  refine x_getRs (r := 1) C fkX_X11_10 (nlt rfl) rfl (congrFun (congrFun hr 0) 0) dX11_brave_1 ?_
  refine x_iload_n (i := 2) C dX11_brave_4 rfl rfl ?_
  refine x_callV (As := [.int (iI (b))]) C (by exact (n_gameAt (k := b) (by exact hr) (by exact (fun _ => rfl)) ⟨by omega, by omega⟩)) ckX11_180 im_X8_gameAt se_X8_gameAt (nlt rfl) rfl rfl rfl rfl (nle rfl) (by exact ⟨nle rfl, nle rfl⟩) dX11_brave_5 ?_
  rintro _ _ ⟨rfl, rfl⟩
  refine Wx_st (st' := [.null]) rfl ?_
  refine x_astoreN (lv' := [(4, .null), (0, .ref 0), (1, .int (iI (a))), (2, .int (iI (b))), (3, .int (iI (c)))]) C dX11_brave_8 (nlt rfl) rfl ?_
  refine x_aloadN C dX11_brave_10 rfl ?_
  refine x_ifnullN (tgt := 24) C dX11_brave_12 (by decide) ?_
  refine x_iconst C dX11_brave_24 ?_
  exact x_iret C dX11_brave_25 (congrArg (fun z : Int => some (Value.int (iI z))) (by first | rfl | omega | (split <;> omega) | (repeat (first | omega | split))))
set_option maxHeartbeats 4000000 in
set_option maxRecDepth 100000 in
theorem x_binds {D : va_G} {ad : Nat → Nat} {cA : Nat → ClassId} {a b c d : Int} (ha : inR a) (hb : inR b) (hc : inR c) (hd : inR d) : MetX (wX D ad cA) yX11_binds cX11_binds 6 (some .int) 5 126 [.ref 0, .int (iI (a)), .int (iI (b)), .int (iI (c)), .int (iI (d))] x0X (fun r _ => r = some (.int (iI (-1)))) := by
  have hr : (x0X).2.2 = rX := rfl
  unfold inR at ha hb hc hd
  refine MetX.mk (own := RX11) (by decide +kernel) rfl (nle rfl) (fun E C => ?_)
  refine Wx_lv (lv' := [(0, .ref 0), (1, .int (iI (a))), (2, .int (iI (b))), (3, .int (iI (c))), (4, .int (iI (d)))]) rfl ?_
  refine x_aload_n (i := 0) C dX11_binds_0 rfl rfl ?_
  refine x_getRs (r := 1) C fkX_X11_10 (nlt rfl) rfl (congrFun (congrFun hr 0) 0) dX11_binds_1 ?_
  refine x_iload_n (i := 1) C dX11_binds_4 rfl rfl ?_
  refine x_callV (As := [.int (iI (a))]) C (by exact (n_boardAt (k := a) (by exact hr) (by exact (fun _ => rfl)) ⟨by omega, by omega⟩)) ckX11_93 im_X8_boardAt se_X8_boardAt (nlt rfl) rfl rfl rfl rfl (nle rfl) (by exact ⟨nle rfl, nle rfl⟩) dX11_binds_5 ?_
  rintro _ _ ⟨rfl, rfl⟩
  refine Wx_st (st' := [.null]) rfl ?_
  refine x_astoreN (lv' := [(5, .null), (0, .ref 0), (1, .int (iI (a))), (2, .int (iI (b))), (3, .int (iI (c))), (4, .int (iI (d)))]) C dX11_binds_8 (nlt rfl) rfl ?_
  refine x_aloadN C dX11_binds_10 rfl ?_
  refine x_ifnullN (tgt := 33) C dX11_binds_12 (by decide) ?_
  refine x_iconst C dX11_binds_33 ?_
  exact x_iret C dX11_binds_34 (congrArg (fun z : Int => some (Value.int (iI z))) (by first | rfl | omega | (split <;> omega) | (repeat (first | omega | split))))
set_option maxHeartbeats 4000000 in
set_option maxRecDepth 100000 in
theorem x_drive {D : va_G} {ad : Nat → Nat} {cA : Nat → ClassId} {a b c d : Int} (ha : inR a) (hb : inR b) (hc : inR c) (hd : inR d) : MetX (wX D ad cA) yX11_drive cX11_drive 6 (some .int) 5 126 [.ref 0, .int (iI (a)), .int (iI (b)), .int (iI (c)), .int (iI (d))] x0X (fun r _ => r = some (.int (iI (-1)))) := by
  have hr : (x0X).2.2 = rX := rfl
  unfold inR at ha hb hc hd
  refine MetX.mk (own := RX11) (by decide +kernel) rfl (nle rfl) (fun E C => ?_)
  refine Wx_lv (lv' := [(0, .ref 0), (1, .int (iI (a))), (2, .int (iI (b))), (3, .int (iI (c))), (4, .int (iI (d)))]) rfl ?_
  refine x_aload_n (i := 0) C dX11_drive_0 rfl rfl ?_
  refine x_getRs (r := 1) C fkX_X11_10 (nlt rfl) rfl (congrFun (congrFun hr 0) 0) dX11_drive_1 ?_
  refine x_iload_n (i := 1) C dX11_drive_4 rfl rfl ?_
  refine x_callV (As := [.int (iI (a))]) C (by exact (n_boardAt (k := a) (by exact hr) (by exact (fun _ => rfl)) ⟨by omega, by omega⟩)) ckX11_93 im_X8_boardAt se_X8_boardAt (nlt rfl) rfl rfl rfl rfl (nle rfl) (by exact ⟨nle rfl, nle rfl⟩) dX11_drive_5 ?_
  rintro _ _ ⟨rfl, rfl⟩
  refine Wx_st (st' := [.null]) rfl ?_
  refine x_astoreN (lv' := [(5, .null), (0, .ref 0), (1, .int (iI (a))), (2, .int (iI (b))), (3, .int (iI (c))), (4, .int (iI (d)))]) C dX11_drive_8 (nlt rfl) rfl ?_
  refine x_aloadN C dX11_drive_10 rfl ?_
  refine x_ifnullN (tgt := 33) C dX11_drive_12 (by decide) ?_
  refine x_iconst C dX11_drive_33 ?_
  exact x_iret C dX11_drive_34 (congrArg (fun z : Int => some (Value.int (iI z))) (by first | rfl | omega | (split <;> omega) | (repeat (first | omega | split))))
set_option maxHeartbeats 4000000 in
set_option maxRecDepth 100000 in
theorem x_shorter {D : va_G} {ad : Nat → Nat} {cA : Nat → ClassId} {a b c d : Int} (ha : inR a) (hb : inR b) (hc : inR c) (hd : inR d) : MetX (wX D ad cA) yX11_shorter cX11_shorter 8 (some .int) 6 157 [.ref 0, .int (iI (a)), .int (iI (b)), .int (iI (c)), .int (iI (d))] x0X (fun r _ => r = some (.int (iI (-1)))) := by
  have hr : (x0X).2.2 = rX := rfl
  unfold inR at ha hb hc hd
  refine MetX.mk (own := RX11) (by decide +kernel) rfl (nle rfl) (fun E C => ?_)
  refine Wx_lv (lv' := [(0, .ref 0), (1, .int (iI (a))), (2, .int (iI (b))), (3, .int (iI (c))), (4, .int (iI (d)))]) rfl ?_
  refine x_aload_n (i := 0) C dX11_shorter_0 rfl rfl ?_
  refine x_getRs (r := 1) C fkX_X11_10 (nlt rfl) rfl (congrFun (congrFun hr 0) 0) dX11_shorter_1 ?_
  refine x_iload_n (i := 1) C dX11_shorter_4 rfl rfl ?_
  refine x_callV (As := [.int (iI (a))]) C (by exact (n_boardAt (k := a) (by exact hr) (by exact (fun _ => rfl)) ⟨by omega, by omega⟩)) ckX11_93 im_X8_boardAt se_X8_boardAt (nlt rfl) rfl rfl rfl rfl (nle rfl) (by exact ⟨nle rfl, nle rfl⟩) dX11_shorter_5 ?_
  rintro _ _ ⟨rfl, rfl⟩
  refine Wx_st (st' := [.null]) rfl ?_
  refine x_astoreN (lv' := [(5, .null), (0, .ref 0), (1, .int (iI (a))), (2, .int (iI (b))), (3, .int (iI (c))), (4, .int (iI (d)))]) C dX11_shorter_8 (nlt rfl) rfl ?_
  refine x_aloadN C dX11_shorter_10 rfl ?_
  refine x_ifnullN (tgt := 35) C dX11_shorter_12 (by decide) ?_
  refine x_iconst C dX11_shorter_35 ?_
  exact x_iret C dX11_shorter_36 (congrArg (fun z : Int => some (Value.int (iI z))) (by first | rfl | omega | (split <;> omega) | (repeat (first | omega | split))))
set_option maxHeartbeats 4000000 in
set_option maxRecDepth 100000 in
theorem x_alike {D : va_G} {ad : Nat → Nat} {cA : Nat → ClassId} {a b c : Int} (ha : inR a) (hb : inR b) (hc : inR c) : MetX (wX D ad cA) yX11_alike cX11_alike 5 (some .boolean) 6 160 [.ref 0, .int (iI (a)), .int (iI (b)), .int (iI (c))] x0X (fun r _ => r = some (.int (iI (0)))) := by
  have hr : (x0X).2.2 = rX := rfl
  unfold inR at ha hb hc
  refine MetX.mk (own := RX11) (by decide +kernel) rfl (nle rfl) (fun E C => ?_)
  refine Wx_lv (lv' := [(0, .ref 0), (1, .int (iI (a))), (2, .int (iI (b))), (3, .int (iI (c)))]) rfl ?_
  refine x_aload_n (i := 0) C dX11_alike_0 rfl rfl ?_
  refine x_getRs (r := 1) C fkX_X11_10 (nlt rfl) rfl (congrFun (congrFun hr 0) 0) dX11_alike_1 ?_
  refine x_iload_n (i := 1) C dX11_alike_4 rfl rfl ?_
  refine x_callV (As := [.int (iI (a))]) C (by exact (n_boardAt (k := a) (by exact hr) (by exact (fun _ => rfl)) ⟨by omega, by omega⟩)) ckX11_93 im_X8_boardAt se_X8_boardAt (nlt rfl) rfl rfl rfl rfl (nle rfl) (by exact ⟨nle rfl, nle rfl⟩) dX11_alike_5 ?_
  rintro _ _ ⟨rfl, rfl⟩
  refine Wx_st (st' := [.null]) rfl ?_
  refine x_astoreN (lv' := [(4, .null), (0, .ref 0), (1, .int (iI (a))), (2, .int (iI (b))), (3, .int (iI (c)))]) C dX11_alike_8 (nlt rfl) rfl ?_
  refine x_aloadN C dX11_alike_10 rfl ?_
  refine x_ifnullN (tgt := 37) C dX11_alike_12 (by decide) ?_
  refine x_iconst C dX11_alike_37 ?_
  exact x_zret C (by omega) dX11_alike_38 (congrArg (fun z : Int => some (Value.int (iI z))) (by first | rfl | omega | (split <;> omega) | (repeat (first | omega | split))))
set_option maxHeartbeats 4000000 in
set_option maxRecDepth 100000 in
theorem x_meanings {D : va_G} {ad : Nat → Nat} {cA : Nat → ClassId} {a b c d : Int} (ha : inR a) (hb : inR b) (hc : inR c) (hd : inR d) : MetX (wX D ad cA) yX11_meanings cX11_meanings 6 (some .int) 5 128 [.ref 0, .int (iI (a)), .int (iI (b)), .int (iI (c)), .int (iI (d))] x0X (fun r _ => r = some (.int (iI (-1)))) := by
  have hr : (x0X).2.2 = rX := rfl
  unfold inR at ha hb hc hd
  refine MetX.mk (own := RX11) (by decide +kernel) rfl (nle rfl) (fun E C => ?_)
  refine Wx_lv (lv' := [(0, .ref 0), (1, .int (iI (a))), (2, .int (iI (b))), (3, .int (iI (c))), (4, .int (iI (d)))]) rfl ?_
  refine x_aload_n (i := 0) C dX11_meanings_0 rfl rfl ?_
  refine x_getRs (r := 1) C fkX_X11_10 (nlt rfl) rfl (congrFun (congrFun hr 0) 0) dX11_meanings_1 ?_
  refine x_iload_n (i := 1) C dX11_meanings_4 rfl rfl ?_
  refine x_callV (As := [.int (iI (a))]) C (by exact (n_boardAt (k := a) (by exact hr) (by exact (fun _ => rfl)) ⟨by omega, by omega⟩)) ckX11_93 im_X8_boardAt se_X8_boardAt (nlt rfl) rfl rfl rfl rfl (nle rfl) (by exact ⟨nle rfl, nle rfl⟩) dX11_meanings_5 ?_
  rintro _ _ ⟨rfl, rfl⟩
  refine Wx_st (st' := [.null]) rfl ?_
  refine x_astoreN (lv' := [(5, .null), (0, .ref 0), (1, .int (iI (a))), (2, .int (iI (b))), (3, .int (iI (c))), (4, .int (iI (d)))]) C dX11_meanings_8 (nlt rfl) rfl ?_
  refine x_aloadN C dX11_meanings_10 rfl ?_
  refine x_ifnullN (tgt := 34) C dX11_meanings_12 (by decide) ?_
  refine x_iconst C dX11_meanings_34 ?_
  exact x_iret C dX11_meanings_35 (congrArg (fun z : Int => some (Value.int (iI z))) (by first | rfl | omega | (split <;> omega) | (repeat (first | omega | split))))
set_option maxHeartbeats 4000000 in
set_option maxRecDepth 100000 in
theorem x_wins {D : va_G} {ad : Nat → Nat} {cA : Nat → ClassId} {a b c d e : Int} (ha : inR a) (hb : inR b) (hc : inR c) (hd : inR d) (he : inR e) : MetX (wX D ad cA) yX11_wins cX11_wins 8 (some .int) 102 6045 [.ref 0, .int (iI (a)), .int (iI (b)), .int (iI (c)), .int (iI (d)), .int (iI (e))] x0X (fun r _ => r = some (.int (iI (-2)))) := by
  have hr : (x0X).2.2 = rX := rfl
  unfold inR at ha hb hc hd he
  refine MetX.mk (own := RX11) (by decide +kernel) rfl (nle rfl) (fun E C => ?_)
  refine Wx_lv (lv' := [(0, .ref 0), (1, .int (iI (a))), (2, .int (iI (b))), (3, .int (iI (c))), (4, .int (iI (d))), (5, .int (iI (e)))]) rfl ?_
  refine x_aload_n (i := 0) C dX11_wins_0 rfl rfl ?_
  refine x_getRs (r := 1) C fkX_X11_10 (nlt rfl) rfl (congrFun (congrFun hr 0) 0) dX11_wins_1 ?_
  refine x_iload_n (i := 1) C dX11_wins_4 rfl rfl ?_
  refine x_callV (As := [.int (iI (a))]) C (by exact (n_boardAt (k := a) (by exact hr) (by exact (fun _ => rfl)) ⟨by omega, by omega⟩)) ckX11_93 im_X8_boardAt se_X8_boardAt (nlt rfl) rfl rfl rfl rfl (nle rfl) (by exact ⟨nle rfl, nle rfl⟩) dX11_wins_5 ?_
  rintro _ _ ⟨rfl, rfl⟩
  refine Wx_st (st' := [.null]) rfl ?_
  refine x_astoreN (lv' := [(6, .null), (0, .ref 0), (1, .int (iI (a))), (2, .int (iI (b))), (3, .int (iI (c))), (4, .int (iI (d))), (5, .int (iI (e)))]) C dX11_wins_8 (nlt rfl) rfl ?_
  refine x_aloadN C dX11_wins_10 rfl ?_
  refine x_iload_n (i := 2) C dX11_wins_12 rfl rfl ?_
  refine x_iload_n (i := 3) C dX11_wins_13 rfl rfl ?_
  refine x_callS (As := [.null, .int (iI (b)), .int (iI (c))]) C (by exact (n_canContest (a := b) (b := c) ⟨by omega, by omega⟩ ⟨by omega, by omega⟩)) ckX11_267 sm_X11_canContest rfl rfl (nle rfl) (by exact ⟨nle rfl, nle rfl⟩) dX11_wins_14 ?_
  rintro _ _ ⟨rfl, rfl⟩
  refine Wx_st (st' := [.int (iI (0))]) rfl ?_
  refine x_if_eq (tgt := 43) C dX11_wins_17 (by decide) ⟨by omega, by omega⟩ (fun h1 => ?_) (fun h1 => by exfalso; omega)
  refine x_bipush C dX11_wins_43 (by decide) ?_
  exact x_iret C dX11_wins_45 (congrArg (fun z : Int => some (Value.int (iI z))) (by first | rfl | omega | (split <;> omega) | (repeat (first | omega | split))))
set_option maxHeartbeats 4000000 in
set_option maxRecDepth 100000 in
theorem x_soonest {D : va_G} {ad : Nat → Nat} {cA : Nat → ClassId} {a b c : Int} (ha : inR a) (hb : inR b) (hc : inR c) : MetX (wX D ad cA) yX11_soonest cX11_soonest 6 (some .int) 101 6024 [.ref 0, .int (iI (a)), .int (iI (b)), .int (iI (c))] x0X (fun r _ => r = some (.int (iI (-1)))) := by
  have hr : (x0X).2.2 = rX := rfl
  unfold inR at ha hb hc
  refine MetX.mk (own := RX11) (by decide +kernel) rfl (nle rfl) (fun E C => ?_)
  refine Wx_lv (lv' := [(0, .ref 0), (1, .int (iI (a))), (2, .int (iI (b))), (3, .int (iI (c)))]) rfl ?_
  refine x_aload_n (i := 0) C dX11_soonest_0 rfl rfl ?_
  refine x_getRs (r := 1) C fkX_X11_10 (nlt rfl) rfl (congrFun (congrFun hr 0) 0) dX11_soonest_1 ?_
  refine x_iload_n (i := 1) C dX11_soonest_4 rfl rfl ?_
  refine x_callV (As := [.int (iI (a))]) C (by exact (n_boardAt (k := a) (by exact hr) (by exact (fun _ => rfl)) ⟨by omega, by omega⟩)) ckX11_93 im_X8_boardAt se_X8_boardAt (nlt rfl) rfl rfl rfl rfl (nle rfl) (by exact ⟨nle rfl, nle rfl⟩) dX11_soonest_5 ?_
  rintro _ _ ⟨rfl, rfl⟩
  refine Wx_st (st' := [.null]) rfl ?_
  refine x_astoreN (lv' := [(4, .null), (0, .ref 0), (1, .int (iI (a))), (2, .int (iI (b))), (3, .int (iI (c)))]) C dX11_soonest_8 (nlt rfl) rfl ?_
  refine x_aloadN C dX11_soonest_10 rfl ?_
  refine x_iload_n (i := 2) C dX11_soonest_12 rfl rfl ?_
  refine x_iload_n (i := 3) C dX11_soonest_13 rfl rfl ?_
  refine x_callS (As := [.null, .int (iI (b)), .int (iI (c))]) C (by exact (n_canContest (a := b) (b := c) ⟨by omega, by omega⟩ ⟨by omega, by omega⟩)) ckX11_267 sm_X11_canContest rfl rfl (nle rfl) (by exact ⟨nle rfl, nle rfl⟩) dX11_soonest_14 ?_
  rintro _ _ ⟨rfl, rfl⟩
  refine Wx_st (st' := [.int (iI (0))]) rfl ?_
  refine x_if_ne (tgt := 22) C dX11_soonest_17 (by decide) ⟨by omega, by omega⟩ (fun h1 => by exfalso; omega) (fun h1 => ?_)
  refine x_iconst C dX11_soonest_20 ?_
  exact x_iret C dX11_soonest_21 (congrArg (fun z : Int => some (Value.int (iI z))) (by first | rfl | omega | (split <;> omega) | (repeat (first | omega | split))))
set_option maxHeartbeats 4000000 in
set_option maxRecDepth 100000 in
theorem x_drawn {D : va_G} {ad : Nat → Nat} {cA : Nat → ClassId} {a b c d : Int} (ha : inR a) (hb : inR b) (hc : inR c) (hd : inR d) : MetX (wX D ad cA) yX11_drawn cX11_drawn 7 (some .int) 7 188 [.ref 0, .int (iI (a)), .int (iI (b)), .int (iI (c)), .int (iI (d))] x0X (fun r _ => r = some (.int (iI (-2)))) := by
  have hr : (x0X).2.2 = rX := rfl
  unfold inR at ha hb hc hd
  refine MetX.mk (own := RX11) (by decide +kernel) rfl (nle rfl) (fun E C => ?_)
  refine Wx_lv (lv' := [(0, .ref 0), (1, .int (iI (a))), (2, .int (iI (b))), (3, .int (iI (c))), (4, .int (iI (d)))]) rfl ?_
  refine x_aload_n (i := 0) C dX11_drawn_0 rfl rfl ?_
  refine x_getRs (r := 1) C fkX_X11_10 (nlt rfl) rfl (congrFun (congrFun hr 0) 0) dX11_drawn_1 ?_
  refine x_iload_n (i := 1) C dX11_drawn_4 rfl rfl ?_
  refine x_callV (As := [.int (iI (a))]) C (by exact (n_boardAt (k := a) (by exact hr) (by exact (fun _ => rfl)) ⟨by omega, by omega⟩)) ckX11_93 im_X8_boardAt se_X8_boardAt (nlt rfl) rfl rfl rfl rfl (nle rfl) (by exact ⟨nle rfl, nle rfl⟩) dX11_drawn_5 ?_
  rintro _ _ ⟨rfl, rfl⟩
  refine Wx_st (st' := [.null]) rfl ?_
  refine x_astoreN (lv' := [(5, .null), (0, .ref 0), (1, .int (iI (a))), (2, .int (iI (b))), (3, .int (iI (c))), (4, .int (iI (d)))]) C dX11_drawn_8 (nlt rfl) rfl ?_
  refine x_aloadN C dX11_drawn_10 rfl ?_
  refine x_ifnullN (tgt := 26) C dX11_drawn_12 (by decide) ?_
  refine x_bipush C dX11_drawn_26 (by decide) ?_
  exact x_iret C dX11_drawn_28 (congrArg (fun z : Int => some (Value.int (iI z))) (by first | rfl | omega | (split <;> omega) | (repeat (first | omega | split))))
