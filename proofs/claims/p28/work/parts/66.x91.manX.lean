/-! ===== the class: man ===== -/
theorem dX8_boardAt_0 : decode cX8_boardAt 0 = .ok (.iload_n 1, 1) := by decide +kernel
theorem dX8_boardAt_1 : decode cX8_boardAt 1 = .ok (.ifCond .lt 22, 3) := by decide +kernel
theorem dX8_boardAt_4 : decode cX8_boardAt 4 = .ok (.iload_n 1, 1) := by decide +kernel
theorem dX8_boardAt_5 : decode cX8_boardAt 5 = .ok (.aload_n 0, 1) := by decide +kernel
theorem dX8_boardAt_6 : decode cX8_boardAt 6 = .ok (.getfield 19, 3) := by decide +kernel
theorem dX8_boardAt_9 : decode cX8_boardAt 9 = .ok (.iconst 0, 1) := by decide +kernel
theorem dX8_boardAt_10 : decode cX8_boardAt 10 = .ok (.iaload, 1) := by decide +kernel
theorem dX8_boardAt_11 : decode cX8_boardAt 11 = .ok (.if_icmp .ge 12, 3) := by decide +kernel
theorem dX8_boardAt_14 : decode cX8_boardAt 14 = .ok (.aload_n 0, 1) := by decide +kernel
theorem dX8_boardAt_15 : decode cX8_boardAt 15 = .ok (.getfield 24, 3) := by decide +kernel
theorem dX8_boardAt_18 : decode cX8_boardAt 18 = .ok (.iload_n 1, 1) := by decide +kernel
theorem dX8_boardAt_19 : decode cX8_boardAt 19 = .ok (.aaload, 1) := by decide +kernel
theorem dX8_boardAt_20 : decode cX8_boardAt 20 = .ok (.goto 4, 3) := by decide +kernel
theorem dX8_boardAt_23 : decode cX8_boardAt 23 = .ok (.aconst_null, 1) := by decide +kernel
theorem dX8_boardAt_24 : decode cX8_boardAt 24 = .ok (.areturn, 1) := by decide +kernel
theorem dX11_man_0 : decode cX11_man 0 = .ok (.aload_n 0, 1) := by decide +kernel
theorem dX11_man_1 : decode cX11_man 1 = .ok (.getfield 10, 3) := by decide +kernel
theorem dX11_man_4 : decode cX11_man 4 = .ok (.iload_n 1, 1) := by decide +kernel
theorem dX11_man_5 : decode cX11_man 5 = .ok (.invokevirtual 89, 3) := by decide +kernel
theorem dX11_man_8 : decode cX11_man 8 = .ok (.astore 4, 2) := by decide +kernel
theorem dX11_man_10 : decode cX11_man 10 = .ok (.aload 4, 2) := by decide +kernel
theorem dX11_man_12 : decode cX11_man 12 = .ok (.ifnull 12, 3) := by decide +kernel
theorem dX11_man_15 : decode cX11_man 15 = .ok (.aload 4, 2) := by decide +kernel
theorem dX11_man_17 : decode cX11_man 17 = .ok (.iload_n 2, 1) := by decide +kernel
theorem dX11_man_18 : decode cX11_man 18 = .ok (.invokevirtual 129, 3) := by decide +kernel
theorem dX11_man_21 : decode cX11_man 21 = .ok (.ifCond .ne 5, 3) := by decide +kernel
theorem dX11_man_24 : decode cX11_man 24 = .ok (.iconst (-1), 1) := by decide +kernel
theorem dX11_man_25 : decode cX11_man 25 = .ok (.ireturn, 1) := by decide +kernel
theorem dX11_man_26 : decode cX11_man 26 = .ok (.iload_n 3, 1) := by decide +kernel
theorem dX11_man_27 : decode cX11_man 27 = .ok (.ifCond .ne 13, 3) := by decide +kernel
theorem dX11_man_30 : decode cX11_man 30 = .ok (.aload 4, 2) := by decide +kernel
theorem dX11_man_32 : decode cX11_man 32 = .ok (.getfield 132, 3) := by decide +kernel
theorem dX11_man_35 : decode cX11_man 35 = .ok (.iload_n 2, 1) := by decide +kernel
theorem dX11_man_36 : decode cX11_man 36 = .ok (.iaload, 1) := by decide +kernel
theorem dX11_man_37 : decode cX11_man 37 = .ok (.goto 19, 3) := by decide +kernel
theorem dX11_man_40 : decode cX11_man 40 = .ok (.iload_n 3, 1) := by decide +kernel
theorem dX11_man_41 : decode cX11_man 41 = .ok (.iconst 1, 1) := by decide +kernel
theorem dX11_man_42 : decode cX11_man 42 = .ok (.if_icmp .ne 13, 3) := by decide +kernel
theorem dX11_man_45 : decode cX11_man 45 = .ok (.aload 4, 2) := by decide +kernel
theorem dX11_man_47 : decode cX11_man 47 = .ok (.getfield 135, 3) := by decide +kernel
theorem dX11_man_50 : decode cX11_man 50 = .ok (.iload_n 2, 1) := by decide +kernel
theorem dX11_man_51 : decode cX11_man 51 = .ok (.iaload, 1) := by decide +kernel
theorem dX11_man_52 : decode cX11_man 52 = .ok (.goto 4, 3) := by decide +kernel
theorem dX11_man_55 : decode cX11_man 55 = .ok (.iconst (-1), 1) := by decide +kernel
theorem dX11_man_56 : decode cX11_man 56 = .ok (.ireturn, 1) := by decide +kernel

/-- what man() says of the board at b, its sides at s, its fields at f -/
def MNX (b s f : Nat) (k q : Int) (X : XT) (u : Int) : Prop := (¬ (0 ≤ k ∧ k < X.1 b 4 ∧ (q = 0 ∨ q = 1)) ∧ u = -1) ∨ (0 ≤ k ∧ k < X.1 b 4 ∧ ((q = 0 ∧ u = X.1 s k.toNat) ∨ (q = 1 ∧ u = X.1 f k.toNat)))
set_option maxHeartbeats 4000000 in
set_option maxRecDepth 100000 in
theorem c_boardAt0 {D : va_G} {ad : Nat → Nat} {cA : Nat → ClassId} {X : XT} (hc : 0 < X.1 3 0) (hH : HG vX X) : MetX (wX D ad cA) yX8_boardAt cX8_boardAt 2 (some (.object "WrittenMoves$Board")) 0 0 [.ref 1, .int (iI (0))] X (fun r X' => X' = X ∧ r = some (va_rf (some 7))) := by
  have cb : (0 : Int) ≤ X.1 3 0 ∧ X.1 3 0 ≤ 2 := hH.rF (k := 3) (i := 0) (p := (0, 2)) rfl rfl
  refine MetX.mk (own := RX8) (by decide +kernel) rfl (nle rfl) (fun E C hQ => ?_)
  refine Wx_lv (lv' := [(0, .ref 1), (1, .int (iI (0)))]) rfl ?_
  refine x_iload_n (i := 1) C dX8_boardAt_0 rfl rfl ?_
  refine x_if_lt (tgt := 23) C dX8_boardAt_1 (by decide) ⟨by omega, by omega⟩ (fun h1 => by exfalso; omega) (fun h1 => ?_)
  refine x_iload_n (i := 1) C dX8_boardAt_4 rfl rfl ?_
  refine x_aload_n (i := 0) C dX8_boardAt_5 rfl rfl ?_
  refine x_getRs (r := 3) C fkX_X8_19 (nlt rfl) rfl (HG.rR hH (k := 1) (i := 4) rfl rfl) dX8_boardAt_6 ?_
  refine x_iconst C dX8_boardAt_9 ?_
  refine x_iald C (nlt rfl) rfl rfl (nle rfl) (by omega) (by omega) dX8_boardAt_10 ?_
  refine x_gen (fun v2 ev2 => ?_)
  replace ev2 : v2 = X.1 3 0 := ev2
  have qv2 : (0 : Int) ≤ v2 ∧ v2 ≤ (2 : Int) := by
    rw [ev2]
    exact hH.rF (k := 3) (i := 0) (p := (0, 2)) rfl rfl
  refine x_icmp_ge (tgt := 23) C dX8_boardAt_11 (by decide) ⟨by omega, by omega⟩ ⟨by omega, by omega⟩ (fun h3 => by exfalso; omega) (fun h3 => ?_)
  refine x_aload_n (i := 0) C dX8_boardAt_14 rfl rfl ?_
  refine x_getRs (r := 4) C fkX_X8_24 (nlt rfl) rfl (HG.rR hH (k := 1) (i := 5) rfl rfl) dX8_boardAt_15 ?_
  refine x_iload_n (i := 1) C dX8_boardAt_18 rfl rfl ?_
  refine x_aald (r := some 7) C (nlt rfl) rfl rfl (nle rfl) (by omega) (by omega) (HG.rR hH (k := 4) (i := 0) rfl rfl) dX8_boardAt_19 ?_
  refine x_goto (tgt := 24) C dX8_boardAt_20 (by decide) ?_
  exact x_aret (r := some 7) C hQ dX8_boardAt_24 (⟨rfl, rfl⟩)
set_option maxHeartbeats 4000000 in
set_option maxRecDepth 100000 in
theorem c_boardAt1 {D : va_G} {ad : Nat → Nat} {cA : Nat → ClassId} {X : XT} (hc : 1 < X.1 3 0) (hH : HG vX X) : MetX (wX D ad cA) yX8_boardAt cX8_boardAt 2 (some (.object "WrittenMoves$Board")) 0 0 [.ref 1, .int (iI (1))] X (fun r X' => X' = X ∧ r = some (va_rf (some 10))) := by
  have cb : (0 : Int) ≤ X.1 3 0 ∧ X.1 3 0 ≤ 2 := hH.rF (k := 3) (i := 0) (p := (0, 2)) rfl rfl
  refine MetX.mk (own := RX8) (by decide +kernel) rfl (nle rfl) (fun E C hQ => ?_)
  refine Wx_lv (lv' := [(0, .ref 1), (1, .int (iI (1)))]) rfl ?_
  refine x_iload_n (i := 1) C dX8_boardAt_0 rfl rfl ?_
  refine x_if_lt (tgt := 23) C dX8_boardAt_1 (by decide) ⟨by omega, by omega⟩ (fun h1 => by exfalso; omega) (fun h1 => ?_)
  refine x_iload_n (i := 1) C dX8_boardAt_4 rfl rfl ?_
  refine x_aload_n (i := 0) C dX8_boardAt_5 rfl rfl ?_
  refine x_getRs (r := 3) C fkX_X8_19 (nlt rfl) rfl (HG.rR hH (k := 1) (i := 4) rfl rfl) dX8_boardAt_6 ?_
  refine x_iconst C dX8_boardAt_9 ?_
  refine x_iald C (nlt rfl) rfl rfl (nle rfl) (by omega) (by omega) dX8_boardAt_10 ?_
  refine x_gen (fun v2 ev2 => ?_)
  replace ev2 : v2 = X.1 3 0 := ev2
  have qv2 : (0 : Int) ≤ v2 ∧ v2 ≤ (2 : Int) := by
    rw [ev2]
    exact hH.rF (k := 3) (i := 0) (p := (0, 2)) rfl rfl
  refine x_icmp_ge (tgt := 23) C dX8_boardAt_11 (by decide) ⟨by omega, by omega⟩ ⟨by omega, by omega⟩ (fun h3 => by exfalso; omega) (fun h3 => ?_)
  refine x_aload_n (i := 0) C dX8_boardAt_14 rfl rfl ?_
  refine x_getRs (r := 4) C fkX_X8_24 (nlt rfl) rfl (HG.rR hH (k := 1) (i := 5) rfl rfl) dX8_boardAt_15 ?_
  refine x_iload_n (i := 1) C dX8_boardAt_18 rfl rfl ?_
  refine x_aald (r := some 10) C (nlt rfl) rfl rfl (nle rfl) (by omega) (by omega) (HG.rR hH (k := 4) (i := 1) rfl rfl) dX8_boardAt_19 ?_
  refine x_goto (tgt := 24) C dX8_boardAt_20 (by decide) ?_
  exact x_aret (r := some 10) C hQ dX8_boardAt_24 (⟨rfl, rfl⟩)
set_option maxHeartbeats 4000000 in
set_option maxRecDepth 100000 in
theorem c_boardAtN {D : va_G} {ad : Nat → Nat} {cA : Nat → ClassId} {X : XT} {n : Int} (nn : inR n) (hn : ¬ (0 ≤ n ∧ n < X.1 3 0)) (hH : HG vX X) : MetX (wX D ad cA) yX8_boardAt cX8_boardAt 2 (some (.object "WrittenMoves$Board")) 0 0 [.ref 1, .int (iI (n))] X (fun r X' => X' = X ∧ r = some (va_rf none)) := by
  unfold inR at nn
  refine MetX.mk (own := RX8) (by decide +kernel) rfl (nle rfl) (fun E C hQ => ?_)
  refine Wx_lv (lv' := [(0, .ref 1), (1, .int (iI (n)))]) rfl ?_
  refine x_iload_n (i := 1) C dX8_boardAt_0 rfl rfl ?_
  refine x_if_lt (tgt := 23) C dX8_boardAt_1 (by decide) ⟨by omega, by omega⟩ (fun h1 => ?_) (fun h1 => ?_)
  · refine x_null C dX8_boardAt_23 ?_
    exact x_aret (r := none) C hQ dX8_boardAt_24 (⟨rfl, rfl⟩)
  · refine x_iload_n (i := 1) C dX8_boardAt_4 rfl rfl ?_
    refine x_aload_n (i := 0) C dX8_boardAt_5 rfl rfl ?_
    refine x_getRs (r := 3) C fkX_X8_19 (nlt rfl) rfl (HG.rR hH (k := 1) (i := 4) rfl rfl) dX8_boardAt_6 ?_
    refine x_iconst C dX8_boardAt_9 ?_
    refine x_iald C (nlt rfl) rfl rfl (nle rfl) (by omega) (by omega) dX8_boardAt_10 ?_
    refine x_gen (fun v2 ev2 => ?_)
    replace ev2 : v2 = X.1 3 0 := ev2
    have qv2 : (0 : Int) ≤ v2 ∧ v2 ≤ (2 : Int) := by
      rw [ev2]
      exact hH.rF (k := 3) (i := 0) (p := (0, 2)) rfl rfl
    refine x_icmp_ge (tgt := 23) C dX8_boardAt_11 (by decide) ⟨by omega, by omega⟩ ⟨by omega, by omega⟩ (fun h3 => ?_) (fun h3 => by exfalso; omega)
    refine x_null C dX8_boardAt_23 ?_
    exact x_aret (r := none) C hQ dX8_boardAt_24 (⟨rfl, rfl⟩)
set_option maxHeartbeats 4000000 in
set_option maxRecDepth 100000 in
theorem c_hasMan7 {D : va_G} {ad : Nat → Nat} {cA : Nat → ClassId} {X : XT} {k : Int} (kk : inR k) (hH : HG vX X) : MetX (wX D ad cA) yX0_hasMan cX0_hasMan 2 (some .boolean) 0 0 [.ref 7, .int (iI (k))] X (fun r X' => X' = X ∧ ∃ u : Int, r = some (.int (iI u)) ∧ ((u = 1 ∧ 0 ≤ k ∧ k < X.1 7 4) ∨ (u = 0 ∧ ¬ (0 ≤ k ∧ k < X.1 7 4)))) := by
  unfold inR at kk
  refine MetX.mk (own := RX0) (by decide +kernel) rfl (nle rfl) (fun E C hQ => ?_)
  refine Wx_lv (lv' := [(0, .ref 7), (1, .int (iI (k)))]) rfl ?_
  refine x_iload_n (i := 1) C dX0_hasMan_0 rfl rfl ?_
  refine x_if_lt (tgt := 16) C dX0_hasMan_1 (by decide) ⟨by omega, by omega⟩ (fun h1 => ?_) (fun h1 => ?_)
  · refine x_iconst C dX0_hasMan_16 ?_
    exact x_zret C hQ (by omega) dX0_hasMan_17 (⟨rfl, _, rfl, by omega⟩)
  · refine x_iload_n (i := 1) C dX0_hasMan_4 rfl rfl ?_
    refine x_aload_n (i := 0) C dX0_hasMan_5 rfl rfl ?_
    refine x_getI C fkX_X0_32 (nlt rfl) rfl dX0_hasMan_6 ?_
    refine x_gen (fun v2 ev2 => ?_)
    replace ev2 : v2 = X.1 7 4 := ev2
    have qv2 : (0 : Int) ≤ v2 ∧ v2 ≤ (6 : Int) := by
      rw [ev2]
      exact hH.rF (k := 7) (i := 4) rfl rfl
    refine x_icmp_ge (tgt := 16) C dX0_hasMan_9 (by decide) ⟨by omega, by omega⟩ ⟨by omega, by omega⟩ (fun h3 => ?_) (fun h3 => ?_)
    · refine x_iconst C dX0_hasMan_16 ?_
      exact x_zret C hQ (by omega) dX0_hasMan_17 (⟨rfl, _, rfl, by omega⟩)
    · refine x_iconst C dX0_hasMan_12 ?_
      refine x_goto (tgt := 17) C dX0_hasMan_13 (by decide) ?_
      exact x_zret C hQ (by omega) dX0_hasMan_17 (⟨rfl, _, rfl, by omega⟩)
set_option maxHeartbeats 4000000 in
set_option maxRecDepth 100000 in
theorem c_hasMan10 {D : va_G} {ad : Nat → Nat} {cA : Nat → ClassId} {X : XT} {k : Int} (kk : inR k) (hH : HG vX X) : MetX (wX D ad cA) yX0_hasMan cX0_hasMan 2 (some .boolean) 0 0 [.ref 10, .int (iI (k))] X (fun r X' => X' = X ∧ ∃ u : Int, r = some (.int (iI u)) ∧ ((u = 1 ∧ 0 ≤ k ∧ k < X.1 10 4) ∨ (u = 0 ∧ ¬ (0 ≤ k ∧ k < X.1 10 4)))) := by
  unfold inR at kk
  refine MetX.mk (own := RX0) (by decide +kernel) rfl (nle rfl) (fun E C hQ => ?_)
  refine Wx_lv (lv' := [(0, .ref 10), (1, .int (iI (k)))]) rfl ?_
  refine x_iload_n (i := 1) C dX0_hasMan_0 rfl rfl ?_
  refine x_if_lt (tgt := 16) C dX0_hasMan_1 (by decide) ⟨by omega, by omega⟩ (fun h1 => ?_) (fun h1 => ?_)
  · refine x_iconst C dX0_hasMan_16 ?_
    exact x_zret C hQ (by omega) dX0_hasMan_17 (⟨rfl, _, rfl, by omega⟩)
  · refine x_iload_n (i := 1) C dX0_hasMan_4 rfl rfl ?_
    refine x_aload_n (i := 0) C dX0_hasMan_5 rfl rfl ?_
    refine x_getI C fkX_X0_32 (nlt rfl) rfl dX0_hasMan_6 ?_
    refine x_gen (fun v2 ev2 => ?_)
    replace ev2 : v2 = X.1 10 4 := ev2
    have qv2 : (0 : Int) ≤ v2 ∧ v2 ≤ (6 : Int) := by
      rw [ev2]
      exact hH.rF (k := 10) (i := 4) rfl rfl
    refine x_icmp_ge (tgt := 16) C dX0_hasMan_9 (by decide) ⟨by omega, by omega⟩ ⟨by omega, by omega⟩ (fun h3 => ?_) (fun h3 => ?_)
    · refine x_iconst C dX0_hasMan_16 ?_
      exact x_zret C hQ (by omega) dX0_hasMan_17 (⟨rfl, _, rfl, by omega⟩)
    · refine x_iconst C dX0_hasMan_12 ?_
      refine x_goto (tgt := 17) C dX0_hasMan_13 (by decide) ?_
      exact x_zret C hQ (by omega) dX0_hasMan_17 (⟨rfl, _, rfl, by omega⟩)
set_option maxHeartbeats 4000000 in
set_option maxRecDepth 100000 in
theorem c_man0 {D : va_G} {ad : Nat → Nat} {cA : Nat → ClassId} {X : XT} {k q : Int} (kk : inR k) (qq : inR q) (hc : 0 < X.1 3 0) (hH : HG vX X) : MetX (wX D ad cA) yX11_man cX11_man 5 (some .int) 1 21 [.ref 0, .int (iI (0)), .int (iI (k)), .int (iI (q))] X (fun r X' => X' = X ∧ ∃ u : Int, r = some (.int (iI u)) ∧ inR u ∧ MNX 7 8 9 k q X u) := by
  unfold inR at kk qq
  have gb : (0 : Int) ≤ X.1 7 4 ∧ X.1 7 4 ≤ 6 := hH.rF (k := 7) (i := 4) (p := (0, 6)) rfl rfl
  refine MetX.mk (own := RX11) (by decide +kernel) rfl (nle rfl) (fun E C hQ => ?_)
  refine Wx_lv (lv' := [(0, .ref 0), (1, .int (iI (0))), (2, .int (iI (k))), (3, .int (iI (q)))]) rfl ?_
  refine x_aload_n (i := 0) C dX11_man_0 rfl rfl ?_
  refine x_getRs (r := 1) C fkX_X11_10 (nlt rfl) rfl (HG.rR hH (k := 0) (i := 0) rfl rfl) dX11_man_1 ?_
  refine x_iload_n (i := 1) C dX11_man_4 rfl rfl ?_
  refine x_callV (As := [.int (iI (0))]) C (by exact (c_boardAt0 hc hH)) ckX11_89 im_X8_boardAt se_X8_boardAt (nlt rfl) rfl rfl rfl rfl (nle rfl) (by exact ⟨nle rfl, nle rfl⟩) dX11_man_5 ?_
  rintro _ Xv1 ⟨hxv1, rfl⟩
  rw [hxv1]
  refine Wx_st (st' := [.ref 7]) rfl ?_
  refine x_astore (lv' := [(4, .ref 7), (0, .ref 0), (1, .int (iI (0))), (2, .int (iI (k))), (3, .int (iI (q)))]) C dX11_man_8 (nlt rfl) rfl ?_
  refine x_aload C dX11_man_10 rfl ?_
  refine x_ifnullR C dX11_man_12 ?_
  refine x_aload C dX11_man_15 rfl ?_
  refine x_iload_n (i := 2) C dX11_man_17 rfl rfl ?_
  refine x_callV (As := [.int (iI (k))]) C (by exact (c_hasMan7 (k := k) ⟨by omega, by omega⟩ hH)) ckX11_129 im_X0_hasMan se_X0_hasMan (nlt rfl) rfl rfl rfl rfl (nle rfl) (by exact ⟨nle rfl, nle rfl⟩) dX11_man_18 ?_
  rintro _ Xv2 ⟨hxv2, v2, rfl, ev2⟩
  rw [hxv2]
  refine Wx_st (st' := [.int (iI (v2))]) rfl ?_
  refine x_if_ne (tgt := 26) C dX11_man_21 (by decide) ⟨by omega, by omega⟩ (fun h3 => ?_) (fun h3 => ?_)
  · refine x_iload_n (i := 3) C dX11_man_26 rfl rfl ?_
    refine x_if_ne (tgt := 40) C dX11_man_27 (by decide) ⟨by omega, by omega⟩ (fun h4 => ?_) (fun h4 => ?_)
    · refine x_iload_n (i := 3) C dX11_man_40 rfl rfl ?_
      refine x_iconst C dX11_man_41 ?_
      refine x_icmp_ne (tgt := 55) C dX11_man_42 (by decide) ⟨by omega, by omega⟩ ⟨by omega, by omega⟩ (fun h5 => ?_) (fun h5 => ?_)
      · refine x_iconst C dX11_man_55 ?_
        exact x_iret C hQ dX11_man_56 (⟨rfl, _, rfl, ⟨by omega, by omega⟩, by first | exact .inl ⟨by omega, by omega⟩ | exact .inr ⟨by omega, by omega, .inl ⟨by omega, by omega⟩⟩ | exact .inr ⟨by omega, by omega, .inr ⟨by omega, by omega⟩⟩⟩)
      · refine x_aload C dX11_man_45 rfl ?_
        refine x_getRs (r := 9) C fkX_X11_135 (nlt rfl) rfl (HG.rR hH (k := 7) (i := 6) rfl rfl) dX11_man_47 ?_
        refine x_iload_n (i := 2) C dX11_man_50 rfl rfl ?_
        refine x_iald C (nlt rfl) rfl rfl (nle rfl) (by omega) (by omega) dX11_man_51 ?_
        refine x_gen (fun v6 ev6 => ?_)
        have qv6 : ((-2147483648) : Int) ≤ v6 ∧ v6 ≤ (2147483647 : Int) := by
          rw [ev6]
          exact hH.rA (k := 9) (n := 6) (p := ((-2147483648), 2147483647)) (nlt rfl) rfl (by decide +kernel) (by omega)
        refine x_goto (tgt := 56) C dX11_man_52 (by decide) ?_
        exact x_iret C hQ dX11_man_56 (⟨rfl, _, rfl, ⟨by omega, by omega⟩, by first | exact .inl ⟨by omega, by omega⟩ | exact .inr ⟨by omega, by omega, .inl ⟨by omega, by omega⟩⟩ | exact .inr ⟨by omega, by omega, .inr ⟨by omega, by omega⟩⟩⟩)
    · refine x_aload C dX11_man_30 rfl ?_
      refine x_getRs (r := 8) C fkX_X11_132 (nlt rfl) rfl (HG.rR hH (k := 7) (i := 5) rfl rfl) dX11_man_32 ?_
      refine x_iload_n (i := 2) C dX11_man_35 rfl rfl ?_
      refine x_iald C (nlt rfl) rfl rfl (nle rfl) (by omega) (by omega) dX11_man_36 ?_
      refine x_gen (fun v7 ev7 => ?_)
      have qv7 : ((-2147483648) : Int) ≤ v7 ∧ v7 ≤ (2147483647 : Int) := by
        rw [ev7]
        exact hH.rA (k := 8) (n := 6) (p := ((-2147483648), 2147483647)) (nlt rfl) rfl (by decide +kernel) (by omega)
      refine x_goto (tgt := 56) C dX11_man_37 (by decide) ?_
      exact x_iret C hQ dX11_man_56 (⟨rfl, _, rfl, ⟨by omega, by omega⟩, by first | exact .inl ⟨by omega, by omega⟩ | exact .inr ⟨by omega, by omega, .inl ⟨by omega, by omega⟩⟩ | exact .inr ⟨by omega, by omega, .inr ⟨by omega, by omega⟩⟩⟩)
  · refine x_iconst C dX11_man_24 ?_
    exact x_iret C hQ dX11_man_25 (⟨rfl, _, rfl, ⟨by omega, by omega⟩, by first | exact .inl ⟨by omega, by omega⟩ | exact .inr ⟨by omega, by omega, .inl ⟨by omega, by omega⟩⟩ | exact .inr ⟨by omega, by omega, .inr ⟨by omega, by omega⟩⟩⟩)
set_option maxHeartbeats 4000000 in
set_option maxRecDepth 100000 in
theorem c_man1 {D : va_G} {ad : Nat → Nat} {cA : Nat → ClassId} {X : XT} {k q : Int} (kk : inR k) (qq : inR q) (hc : 1 < X.1 3 0) (hH : HG vX X) : MetX (wX D ad cA) yX11_man cX11_man 5 (some .int) 1 21 [.ref 0, .int (iI (1)), .int (iI (k)), .int (iI (q))] X (fun r X' => X' = X ∧ ∃ u : Int, r = some (.int (iI u)) ∧ inR u ∧ MNX 10 11 12 k q X u) := by
  unfold inR at kk qq
  have gb : (0 : Int) ≤ X.1 10 4 ∧ X.1 10 4 ≤ 6 := hH.rF (k := 10) (i := 4) (p := (0, 6)) rfl rfl
  refine MetX.mk (own := RX11) (by decide +kernel) rfl (nle rfl) (fun E C hQ => ?_)
  refine Wx_lv (lv' := [(0, .ref 0), (1, .int (iI (1))), (2, .int (iI (k))), (3, .int (iI (q)))]) rfl ?_
  refine x_aload_n (i := 0) C dX11_man_0 rfl rfl ?_
  refine x_getRs (r := 1) C fkX_X11_10 (nlt rfl) rfl (HG.rR hH (k := 0) (i := 0) rfl rfl) dX11_man_1 ?_
  refine x_iload_n (i := 1) C dX11_man_4 rfl rfl ?_
  refine x_callV (As := [.int (iI (1))]) C (by exact (c_boardAt1 hc hH)) ckX11_89 im_X8_boardAt se_X8_boardAt (nlt rfl) rfl rfl rfl rfl (nle rfl) (by exact ⟨nle rfl, nle rfl⟩) dX11_man_5 ?_
  rintro _ Xv1 ⟨hxv1, rfl⟩
  rw [hxv1]
  refine Wx_st (st' := [.ref 10]) rfl ?_
  refine x_astore (lv' := [(4, .ref 10), (0, .ref 0), (1, .int (iI (1))), (2, .int (iI (k))), (3, .int (iI (q)))]) C dX11_man_8 (nlt rfl) rfl ?_
  refine x_aload C dX11_man_10 rfl ?_
  refine x_ifnullR C dX11_man_12 ?_
  refine x_aload C dX11_man_15 rfl ?_
  refine x_iload_n (i := 2) C dX11_man_17 rfl rfl ?_
  refine x_callV (As := [.int (iI (k))]) C (by exact (c_hasMan10 (k := k) ⟨by omega, by omega⟩ hH)) ckX11_129 im_X0_hasMan se_X0_hasMan (nlt rfl) rfl rfl rfl rfl (nle rfl) (by exact ⟨nle rfl, nle rfl⟩) dX11_man_18 ?_
  rintro _ Xv2 ⟨hxv2, v2, rfl, ev2⟩
  rw [hxv2]
  refine Wx_st (st' := [.int (iI (v2))]) rfl ?_
  refine x_if_ne (tgt := 26) C dX11_man_21 (by decide) ⟨by omega, by omega⟩ (fun h3 => ?_) (fun h3 => ?_)
  · refine x_iload_n (i := 3) C dX11_man_26 rfl rfl ?_
    refine x_if_ne (tgt := 40) C dX11_man_27 (by decide) ⟨by omega, by omega⟩ (fun h4 => ?_) (fun h4 => ?_)
    · refine x_iload_n (i := 3) C dX11_man_40 rfl rfl ?_
      refine x_iconst C dX11_man_41 ?_
      refine x_icmp_ne (tgt := 55) C dX11_man_42 (by decide) ⟨by omega, by omega⟩ ⟨by omega, by omega⟩ (fun h5 => ?_) (fun h5 => ?_)
      · refine x_iconst C dX11_man_55 ?_
        exact x_iret C hQ dX11_man_56 (⟨rfl, _, rfl, ⟨by omega, by omega⟩, by first | exact .inl ⟨by omega, by omega⟩ | exact .inr ⟨by omega, by omega, .inl ⟨by omega, by omega⟩⟩ | exact .inr ⟨by omega, by omega, .inr ⟨by omega, by omega⟩⟩⟩)
      · refine x_aload C dX11_man_45 rfl ?_
        refine x_getRs (r := 12) C fkX_X11_135 (nlt rfl) rfl (HG.rR hH (k := 10) (i := 6) rfl rfl) dX11_man_47 ?_
        refine x_iload_n (i := 2) C dX11_man_50 rfl rfl ?_
        refine x_iald C (nlt rfl) rfl rfl (nle rfl) (by omega) (by omega) dX11_man_51 ?_
        refine x_gen (fun v6 ev6 => ?_)
        have qv6 : ((-2147483648) : Int) ≤ v6 ∧ v6 ≤ (2147483647 : Int) := by
          rw [ev6]
          exact hH.rA (k := 12) (n := 6) (p := ((-2147483648), 2147483647)) (nlt rfl) rfl (by decide +kernel) (by omega)
        refine x_goto (tgt := 56) C dX11_man_52 (by decide) ?_
        exact x_iret C hQ dX11_man_56 (⟨rfl, _, rfl, ⟨by omega, by omega⟩, by first | exact .inl ⟨by omega, by omega⟩ | exact .inr ⟨by omega, by omega, .inl ⟨by omega, by omega⟩⟩ | exact .inr ⟨by omega, by omega, .inr ⟨by omega, by omega⟩⟩⟩)
    · refine x_aload C dX11_man_30 rfl ?_
      refine x_getRs (r := 11) C fkX_X11_132 (nlt rfl) rfl (HG.rR hH (k := 10) (i := 5) rfl rfl) dX11_man_32 ?_
      refine x_iload_n (i := 2) C dX11_man_35 rfl rfl ?_
      refine x_iald C (nlt rfl) rfl rfl (nle rfl) (by omega) (by omega) dX11_man_36 ?_
      refine x_gen (fun v7 ev7 => ?_)
      have qv7 : ((-2147483648) : Int) ≤ v7 ∧ v7 ≤ (2147483647 : Int) := by
        rw [ev7]
        exact hH.rA (k := 11) (n := 6) (p := ((-2147483648), 2147483647)) (nlt rfl) rfl (by decide +kernel) (by omega)
      refine x_goto (tgt := 56) C dX11_man_37 (by decide) ?_
      exact x_iret C hQ dX11_man_56 (⟨rfl, _, rfl, ⟨by omega, by omega⟩, by first | exact .inl ⟨by omega, by omega⟩ | exact .inr ⟨by omega, by omega, .inl ⟨by omega, by omega⟩⟩ | exact .inr ⟨by omega, by omega, .inr ⟨by omega, by omega⟩⟩⟩)
  · refine x_iconst C dX11_man_24 ?_
    exact x_iret C hQ dX11_man_25 (⟨rfl, _, rfl, ⟨by omega, by omega⟩, by first | exact .inl ⟨by omega, by omega⟩ | exact .inr ⟨by omega, by omega, .inl ⟨by omega, by omega⟩⟩ | exact .inr ⟨by omega, by omega, .inr ⟨by omega, by omega⟩⟩⟩)
set_option maxHeartbeats 4000000 in
set_option maxRecDepth 100000 in
theorem c_manN {D : va_G} {ad : Nat → Nat} {cA : Nat → ClassId} {X : XT} {n k q : Int} (nn : inR n) (hn : ¬ (0 ≤ n ∧ n < X.1 3 0)) (hH : HG vX X) : MetX (wX D ad cA) yX11_man cX11_man 5 (some .int) 1 21 [.ref 0, .int (iI (n)), .int (iI (k)), .int (iI (q))] X (fun r X' => X' = X ∧ r = some (.int (iI (-1)))) := by
  refine MetX.mk (own := RX11) (by decide +kernel) rfl (nle rfl) (fun E C hQ => ?_)
  refine Wx_lv (lv' := [(0, .ref 0), (1, .int (iI (n))), (2, .int (iI (k))), (3, .int (iI (q)))]) rfl ?_
  refine x_aload_n (i := 0) C dX11_man_0 rfl rfl ?_
  refine x_getRs (r := 1) C fkX_X11_10 (nlt rfl) rfl (HG.rR hH (k := 0) (i := 0) rfl rfl) dX11_man_1 ?_
  refine x_iload_n (i := 1) C dX11_man_4 rfl rfl ?_
  refine x_callV (As := [.int (iI (n))]) C (by exact (c_boardAtN (n := n) nn hn hH)) ckX11_89 im_X8_boardAt se_X8_boardAt (nlt rfl) rfl rfl rfl rfl (nle rfl) (by exact ⟨nle rfl, nle rfl⟩) dX11_man_5 ?_
  rintro _ Xv1 ⟨hxv1, rfl⟩
  rw [hxv1]
  refine Wx_st (st' := [.null]) rfl ?_
  refine x_astoreN (lv' := [(4, .null), (0, .ref 0), (1, .int (iI (n))), (2, .int (iI (k))), (3, .int (iI (q)))]) C dX11_man_8 (nlt rfl) rfl ?_
  refine x_aloadN C dX11_man_10 rfl ?_
  refine x_ifnullN (tgt := 24) C dX11_man_12 (by decide) ?_
  refine x_iconst C dX11_man_24 ?_
  exact x_iret C hQ dX11_man_25 (⟨rfl, rfl⟩)
