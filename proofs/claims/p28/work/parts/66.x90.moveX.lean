/-! ===== the class: move ===== -/
theorem dX8_gameAt_0 : decode cX8_gameAt 0 = .ok (.iload_n 1, 1) := by decide +kernel
theorem dX8_gameAt_1 : decode cX8_gameAt 1 = .ok (.ifCond .lt 22, 3) := by decide +kernel
theorem dX8_gameAt_4 : decode cX8_gameAt 4 = .ok (.iload_n 1, 1) := by decide +kernel
theorem dX8_gameAt_5 : decode cX8_gameAt 5 = .ok (.aload_n 0, 1) := by decide +kernel
theorem dX8_gameAt_6 : decode cX8_gameAt 6 = .ok (.getfield 19, 3) := by decide +kernel
theorem dX8_gameAt_9 : decode cX8_gameAt 9 = .ok (.iconst 2, 1) := by decide +kernel
theorem dX8_gameAt_10 : decode cX8_gameAt 10 = .ok (.iaload, 1) := by decide +kernel
theorem dX8_gameAt_11 : decode cX8_gameAt 11 = .ok (.if_icmp .ge 12, 3) := by decide +kernel
theorem dX8_gameAt_14 : decode cX8_gameAt 14 = .ok (.aload_n 0, 1) := by decide +kernel
theorem dX8_gameAt_15 : decode cX8_gameAt 15 = .ok (.getfield 34, 3) := by decide +kernel
theorem dX8_gameAt_18 : decode cX8_gameAt 18 = .ok (.iload_n 1, 1) := by decide +kernel
theorem dX8_gameAt_19 : decode cX8_gameAt 19 = .ok (.aaload, 1) := by decide +kernel
theorem dX8_gameAt_20 : decode cX8_gameAt 20 = .ok (.goto 4, 3) := by decide +kernel
theorem dX8_gameAt_23 : decode cX8_gameAt 23 = .ok (.aconst_null, 1) := by decide +kernel
theorem dX8_gameAt_24 : decode cX8_gameAt 24 = .ok (.areturn, 1) := by decide +kernel
theorem dX2_hasMove_0 : decode cX2_hasMove 0 = .ok (.iload_n 1, 1) := by decide +kernel
theorem dX2_hasMove_1 : decode cX2_hasMove 1 = .ok (.ifCond .lt 15, 3) := by decide +kernel
theorem dX2_hasMove_4 : decode cX2_hasMove 4 = .ok (.iload_n 1, 1) := by decide +kernel
theorem dX2_hasMove_5 : decode cX2_hasMove 5 = .ok (.aload_n 0, 1) := by decide +kernel
theorem dX2_hasMove_6 : decode cX2_hasMove 6 = .ok (.getfield 19, 3) := by decide +kernel
theorem dX2_hasMove_9 : decode cX2_hasMove 9 = .ok (.if_icmp .ge 7, 3) := by decide +kernel
theorem dX2_hasMove_12 : decode cX2_hasMove 12 = .ok (.iconst 1, 1) := by decide +kernel
theorem dX2_hasMove_13 : decode cX2_hasMove 13 = .ok (.goto 4, 3) := by decide +kernel
theorem dX2_hasMove_16 : decode cX2_hasMove 16 = .ok (.iconst 0, 1) := by decide +kernel
theorem dX2_hasMove_17 : decode cX2_hasMove 17 = .ok (.ireturn, 1) := by decide +kernel
theorem dX11_move_0 : decode cX11_move 0 = .ok (.aload_n 0, 1) := by decide +kernel
theorem dX11_move_1 : decode cX11_move 1 = .ok (.getfield 10, 3) := by decide +kernel
theorem dX11_move_4 : decode cX11_move 4 = .ok (.iload_n 1, 1) := by decide +kernel
theorem dX11_move_5 : decode cX11_move 5 = .ok (.invokevirtual 176, 3) := by decide +kernel
theorem dX11_move_8 : decode cX11_move 8 = .ok (.astore 4, 2) := by decide +kernel
theorem dX11_move_10 : decode cX11_move 10 = .ok (.aload 4, 2) := by decide +kernel
theorem dX11_move_12 : decode cX11_move 12 = .ok (.ifnonnull 6, 3) := by decide +kernel
theorem dX11_move_15 : decode cX11_move 15 = .ok (.bipush (-2), 2) := by decide +kernel
theorem dX11_move_17 : decode cX11_move 17 = .ok (.ireturn, 1) := by decide +kernel
theorem dX11_move_18 : decode cX11_move 18 = .ok (.iload_n 2, 1) := by decide +kernel
theorem dX11_move_19 : decode cX11_move 19 = .ok (.iconst (-1), 1) := by decide +kernel
theorem dX11_move_20 : decode cX11_move 20 = .ok (.if_icmp .ne 13, 3) := by decide +kernel
theorem dX11_move_23 : decode cX11_move 23 = .ok (.iload_n 3, 1) := by decide +kernel
theorem dX11_move_24 : decode cX11_move 24 = .ok (.ifCond .ne 9, 3) := by decide +kernel
theorem dX11_move_27 : decode cX11_move 27 = .ok (.aload 4, 2) := by decide +kernel
theorem dX11_move_29 : decode cX11_move 29 = .ok (.getfield 180, 3) := by decide +kernel
theorem dX11_move_32 : decode cX11_move 32 = .ok (.ireturn, 1) := by decide +kernel
theorem dX11_move_33 : decode cX11_move 33 = .ok (.aload 4, 2) := by decide +kernel
theorem dX11_move_35 : decode cX11_move 35 = .ok (.iload_n 2, 1) := by decide +kernel
theorem dX11_move_36 : decode cX11_move 36 = .ok (.invokevirtual 185, 3) := by decide +kernel
theorem dX11_move_39 : decode cX11_move 39 = .ok (.ifCond .ne 6, 3) := by decide +kernel
theorem dX11_move_42 : decode cX11_move 42 = .ok (.bipush (-2), 2) := by decide +kernel
theorem dX11_move_44 : decode cX11_move 44 = .ok (.ireturn, 1) := by decide +kernel
theorem dX11_move_45 : decode cX11_move 45 = .ok (.aload 4, 2) := by decide +kernel
theorem dX11_move_47 : decode cX11_move 47 = .ok (.getfield 188, 3) := by decide +kernel
theorem dX11_move_50 : decode cX11_move 50 = .ok (.iload_n 2, 1) := by decide +kernel
theorem dX11_move_51 : decode cX11_move 51 = .ok (.laload, 1) := by decide +kernel
theorem dX11_move_52 : decode cX11_move 52 = .ok (.lstore 5, 2) := by decide +kernel
theorem dX11_move_54 : decode cX11_move 54 = .ok (.iload_n 3, 1) := by decide +kernel
theorem dX11_move_55 : decode cX11_move 55 = .ok (.ifCond .ne 11, 3) := by decide +kernel
theorem dX11_move_58 : decode cX11_move 58 = .ok (.aload 4, 2) := by decide +kernel
theorem dX11_move_60 : decode cX11_move 60 = .ok (.getfield 189, 3) := by decide +kernel
theorem dX11_move_63 : decode cX11_move 63 = .ok (.iload_n 2, 1) := by decide +kernel
theorem dX11_move_64 : decode cX11_move 64 = .ok (.iaload, 1) := by decide +kernel
theorem dX11_move_65 : decode cX11_move 65 = .ok (.ireturn, 1) := by decide +kernel
theorem dX11_move_66 : decode cX11_move 66 = .ok (.iload_n 3, 1) := by decide +kernel
theorem dX11_move_67 : decode cX11_move 67 = .ok (.iconst 1, 1) := by decide +kernel
theorem dX11_move_68 : decode cX11_move 68 = .ok (.if_icmp .ne 9, 3) := by decide +kernel
theorem dX11_move_71 : decode cX11_move 71 = .ok (.lload 5, 2) := by decide +kernel
theorem dX11_move_73 : decode cX11_move 73 = .ok (.invokestatic 145, 3) := by decide +kernel
theorem dX11_move_76 : decode cX11_move 76 = .ok (.ireturn, 1) := by decide +kernel
theorem dX11_move_77 : decode cX11_move 77 = .ok (.iload_n 3, 1) := by decide +kernel
theorem dX11_move_78 : decode cX11_move 78 = .ok (.bipush 10, 2) := by decide +kernel
theorem dX11_move_80 : decode cX11_move 80 = .ok (.if_icmp .lt 27, 3) := by decide +kernel
theorem dX11_move_83 : decode cX11_move 83 = .ok (.iload_n 3, 1) := by decide +kernel
theorem dX11_move_84 : decode cX11_move 84 = .ok (.bipush 10, 2) := by decide +kernel
theorem dX11_move_86 : decode cX11_move 86 = .ok (.lload 5, 2) := by decide +kernel
theorem dX11_move_88 : decode cX11_move 88 = .ok (.invokestatic 145, 3) := by decide +kernel
theorem dX11_move_91 : decode cX11_move 91 = .ok (.iadd, 1) := by decide +kernel
theorem dX11_move_92 : decode cX11_move 92 = .ok (.if_icmp .ge 15, 3) := by decide +kernel
theorem dX11_move_95 : decode cX11_move 95 = .ok (.lload 5, 2) := by decide +kernel
theorem dX11_move_97 : decode cX11_move 97 = .ok (.iload_n 3, 1) := by decide +kernel
theorem dX11_move_98 : decode cX11_move 98 = .ok (.bipush 10, 2) := by decide +kernel
theorem dX11_move_100 : decode cX11_move 100 = .ok (.isub, 1) := by decide +kernel
theorem dX11_move_101 : decode cX11_move 101 = .ok (.invokestatic 148, 3) := by decide +kernel
theorem dX11_move_104 : decode cX11_move 104 = .ok (.goto 5, 3) := by decide +kernel
theorem dX11_move_107 : decode cX11_move 107 = .ok (.bipush (-2), 2) := by decide +kernel
theorem dX11_move_109 : decode cX11_move 109 = .ok (.ireturn, 1) := by decide +kernel

/-- what move() says of the game at g, its rules at r, its fields at f -/
def MVX (g r f : Nat) (k q : Int) (X : XT) (u : Int) : Prop := (k = -1 ∧ q = 0 ∧ u = X.1 g 0) ∨ (¬ (k = -1 ∧ q = 0) ∧ ¬ (0 ≤ k ∧ k < X.1 g 0) ∧ u = -2) ∨ (0 ≤ k ∧ k < X.1 g 0 ∧ ((q = 0 ∧ u = X.1 f k.toNat) ∨ (q = 1 ∧ u = lenL (X.2.1 r k.toNat)) ∨ (10 ≤ q ∧ q < 10 + lenL (X.2.1 r k.toNat) ∧ sgR (X.2.1 r k.toNat) (q - 10) u) ∨ (q ≠ 0 ∧ q ≠ 1 ∧ ¬ (10 ≤ q ∧ q < 10 + lenL (X.2.1 r k.toNat)) ∧ u = -2)))
set_option maxHeartbeats 4000000 in
set_option maxRecDepth 100000 in
theorem c_gameAt0 {D : va_G} {ad : Nat → Nat} {cA : Nat → ClassId} {X : XT} (hc : 0 < X.1 3 2) (hH : HG vX X) : MetX (wX D ad cA) yX8_gameAt cX8_gameAt 2 (some (.object "WrittenMoves$Game")) 0 0 [.ref 1, .int (iI (0))] X (fun r X' => X' = X ∧ r = some (va_rf (some 13))) := by
  have cb : (0 : Int) ≤ X.1 3 2 ∧ X.1 3 2 ≤ 2 := hH.rF (k := 3) (i := 2) (p := (0, 2)) rfl rfl
  refine MetX.mk (own := RX8) (by decide +kernel) rfl (nle rfl) (fun E C hQ => ?_)
  refine Wx_lv (lv' := [(0, .ref 1), (1, .int (iI (0)))]) rfl ?_
  refine x_iload_n (i := 1) C dX8_gameAt_0 rfl rfl ?_
  refine x_if_lt (tgt := 23) C dX8_gameAt_1 (by decide) ⟨by omega, by omega⟩ (fun h1 => by exfalso; omega) (fun h1 => ?_)
  refine x_iload_n (i := 1) C dX8_gameAt_4 rfl rfl ?_
  refine x_aload_n (i := 0) C dX8_gameAt_5 rfl rfl ?_
  refine x_getRs (r := 3) C fkX_X8_19 (nlt rfl) rfl (HG.rR hH (k := 1) (i := 4) rfl rfl) dX8_gameAt_6 ?_
  refine x_iconst C dX8_gameAt_9 ?_
  refine x_iald C (nlt rfl) rfl rfl (nle rfl) (by omega) (by omega) dX8_gameAt_10 ?_
  refine x_gen (fun v2 ev2 => ?_)
  replace ev2 : v2 = X.1 3 2 := ev2
  have qv2 : (0 : Int) ≤ v2 ∧ v2 ≤ (2 : Int) := by
    rw [ev2]
    exact hH.rF (k := 3) (i := 2) (p := (0, 2)) rfl rfl
  refine x_icmp_ge (tgt := 23) C dX8_gameAt_11 (by decide) ⟨by omega, by omega⟩ ⟨by omega, by omega⟩ (fun h3 => by exfalso; omega) (fun h3 => ?_)
  refine x_aload_n (i := 0) C dX8_gameAt_14 rfl rfl ?_
  refine x_getRs (r := 6) C fkX_X8_34 (nlt rfl) rfl (HG.rR hH (k := 1) (i := 7) rfl rfl) dX8_gameAt_15 ?_
  refine x_iload_n (i := 1) C dX8_gameAt_18 rfl rfl ?_
  refine x_aald (r := some 13) C (nlt rfl) rfl rfl (nle rfl) (by omega) (by omega) (HG.rR hH (k := 6) (i := 0) rfl rfl) dX8_gameAt_19 ?_
  refine x_goto (tgt := 24) C dX8_gameAt_20 (by decide) ?_
  exact x_aret (r := some 13) C hQ dX8_gameAt_24 (⟨rfl, rfl⟩)
set_option maxHeartbeats 4000000 in
set_option maxRecDepth 100000 in
theorem c_gameAt1 {D : va_G} {ad : Nat → Nat} {cA : Nat → ClassId} {X : XT} (hc : 1 < X.1 3 2) (hH : HG vX X) : MetX (wX D ad cA) yX8_gameAt cX8_gameAt 2 (some (.object "WrittenMoves$Game")) 0 0 [.ref 1, .int (iI (1))] X (fun r X' => X' = X ∧ r = some (va_rf (some 16))) := by
  have cb : (0 : Int) ≤ X.1 3 2 ∧ X.1 3 2 ≤ 2 := hH.rF (k := 3) (i := 2) (p := (0, 2)) rfl rfl
  refine MetX.mk (own := RX8) (by decide +kernel) rfl (nle rfl) (fun E C hQ => ?_)
  refine Wx_lv (lv' := [(0, .ref 1), (1, .int (iI (1)))]) rfl ?_
  refine x_iload_n (i := 1) C dX8_gameAt_0 rfl rfl ?_
  refine x_if_lt (tgt := 23) C dX8_gameAt_1 (by decide) ⟨by omega, by omega⟩ (fun h1 => by exfalso; omega) (fun h1 => ?_)
  refine x_iload_n (i := 1) C dX8_gameAt_4 rfl rfl ?_
  refine x_aload_n (i := 0) C dX8_gameAt_5 rfl rfl ?_
  refine x_getRs (r := 3) C fkX_X8_19 (nlt rfl) rfl (HG.rR hH (k := 1) (i := 4) rfl rfl) dX8_gameAt_6 ?_
  refine x_iconst C dX8_gameAt_9 ?_
  refine x_iald C (nlt rfl) rfl rfl (nle rfl) (by omega) (by omega) dX8_gameAt_10 ?_
  refine x_gen (fun v2 ev2 => ?_)
  replace ev2 : v2 = X.1 3 2 := ev2
  have qv2 : (0 : Int) ≤ v2 ∧ v2 ≤ (2 : Int) := by
    rw [ev2]
    exact hH.rF (k := 3) (i := 2) (p := (0, 2)) rfl rfl
  refine x_icmp_ge (tgt := 23) C dX8_gameAt_11 (by decide) ⟨by omega, by omega⟩ ⟨by omega, by omega⟩ (fun h3 => by exfalso; omega) (fun h3 => ?_)
  refine x_aload_n (i := 0) C dX8_gameAt_14 rfl rfl ?_
  refine x_getRs (r := 6) C fkX_X8_34 (nlt rfl) rfl (HG.rR hH (k := 1) (i := 7) rfl rfl) dX8_gameAt_15 ?_
  refine x_iload_n (i := 1) C dX8_gameAt_18 rfl rfl ?_
  refine x_aald (r := some 16) C (nlt rfl) rfl rfl (nle rfl) (by omega) (by omega) (HG.rR hH (k := 6) (i := 1) rfl rfl) dX8_gameAt_19 ?_
  refine x_goto (tgt := 24) C dX8_gameAt_20 (by decide) ?_
  exact x_aret (r := some 16) C hQ dX8_gameAt_24 (⟨rfl, rfl⟩)
set_option maxHeartbeats 4000000 in
set_option maxRecDepth 100000 in
theorem c_gameAtN {D : va_G} {ad : Nat → Nat} {cA : Nat → ClassId} {X : XT} {n : Int} (nn : inR n) (hn : ¬ (0 ≤ n ∧ n < X.1 3 2)) (hH : HG vX X) : MetX (wX D ad cA) yX8_gameAt cX8_gameAt 2 (some (.object "WrittenMoves$Game")) 0 0 [.ref 1, .int (iI (n))] X (fun r X' => X' = X ∧ r = some (va_rf none)) := by
  unfold inR at nn
  refine MetX.mk (own := RX8) (by decide +kernel) rfl (nle rfl) (fun E C hQ => ?_)
  refine Wx_lv (lv' := [(0, .ref 1), (1, .int (iI (n)))]) rfl ?_
  refine x_iload_n (i := 1) C dX8_gameAt_0 rfl rfl ?_
  refine x_if_lt (tgt := 23) C dX8_gameAt_1 (by decide) ⟨by omega, by omega⟩ (fun h1 => ?_) (fun h1 => ?_)
  · refine x_null C dX8_gameAt_23 ?_
    exact x_aret (r := none) C hQ dX8_gameAt_24 (⟨rfl, rfl⟩)
  · refine x_iload_n (i := 1) C dX8_gameAt_4 rfl rfl ?_
    refine x_aload_n (i := 0) C dX8_gameAt_5 rfl rfl ?_
    refine x_getRs (r := 3) C fkX_X8_19 (nlt rfl) rfl (HG.rR hH (k := 1) (i := 4) rfl rfl) dX8_gameAt_6 ?_
    refine x_iconst C dX8_gameAt_9 ?_
    refine x_iald C (nlt rfl) rfl rfl (nle rfl) (by omega) (by omega) dX8_gameAt_10 ?_
    refine x_gen (fun v2 ev2 => ?_)
    replace ev2 : v2 = X.1 3 2 := ev2
    have qv2 : (0 : Int) ≤ v2 ∧ v2 ≤ (2 : Int) := by
      rw [ev2]
      exact hH.rF (k := 3) (i := 2) (p := (0, 2)) rfl rfl
    refine x_icmp_ge (tgt := 23) C dX8_gameAt_11 (by decide) ⟨by omega, by omega⟩ ⟨by omega, by omega⟩ (fun h3 => ?_) (fun h3 => by exfalso; omega)
    refine x_null C dX8_gameAt_23 ?_
    exact x_aret (r := none) C hQ dX8_gameAt_24 (⟨rfl, rfl⟩)
set_option maxHeartbeats 4000000 in
set_option maxRecDepth 100000 in
theorem c_hasMove13 {D : va_G} {ad : Nat → Nat} {cA : Nat → ClassId} {X : XT} {k : Int} (kk : inR k) (hH : HG vX X) : MetX (wX D ad cA) yX2_hasMove cX2_hasMove 2 (some .boolean) 0 0 [.ref 13, .int (iI (k))] X (fun r X' => X' = X ∧ ∃ u : Int, r = some (.int (iI u)) ∧ ((u = 1 ∧ 0 ≤ k ∧ k < X.1 13 0) ∨ (u = 0 ∧ ¬ (0 ≤ k ∧ k < X.1 13 0)))) := by
  unfold inR at kk
  refine MetX.mk (own := RX2) (by decide +kernel) rfl (nle rfl) (fun E C hQ => ?_)
  refine Wx_lv (lv' := [(0, .ref 13), (1, .int (iI (k)))]) rfl ?_
  refine x_iload_n (i := 1) C dX2_hasMove_0 rfl rfl ?_
  refine x_if_lt (tgt := 16) C dX2_hasMove_1 (by decide) ⟨by omega, by omega⟩ (fun h1 => ?_) (fun h1 => ?_)
  · refine x_iconst C dX2_hasMove_16 ?_
    exact x_zret C hQ (by omega) dX2_hasMove_17 (⟨rfl, _, rfl, by omega⟩)
  · refine x_iload_n (i := 1) C dX2_hasMove_4 rfl rfl ?_
    refine x_aload_n (i := 0) C dX2_hasMove_5 rfl rfl ?_
    refine x_getI C fkX_X2_19 (nlt rfl) rfl dX2_hasMove_6 ?_
    refine x_gen (fun v2 ev2 => ?_)
    replace ev2 : v2 = X.1 13 0 := ev2
    have qv2 : (0 : Int) ≤ v2 ∧ v2 ≤ (30 : Int) := by
      rw [ev2]
      exact hH.rF (k := 13) (i := 0) rfl rfl
    refine x_icmp_ge (tgt := 16) C dX2_hasMove_9 (by decide) ⟨by omega, by omega⟩ ⟨by omega, by omega⟩ (fun h3 => ?_) (fun h3 => ?_)
    · refine x_iconst C dX2_hasMove_16 ?_
      exact x_zret C hQ (by omega) dX2_hasMove_17 (⟨rfl, _, rfl, by omega⟩)
    · refine x_iconst C dX2_hasMove_12 ?_
      refine x_goto (tgt := 17) C dX2_hasMove_13 (by decide) ?_
      exact x_zret C hQ (by omega) dX2_hasMove_17 (⟨rfl, _, rfl, by omega⟩)
set_option maxHeartbeats 4000000 in
set_option maxRecDepth 100000 in
theorem c_hasMove16 {D : va_G} {ad : Nat → Nat} {cA : Nat → ClassId} {X : XT} {k : Int} (kk : inR k) (hH : HG vX X) : MetX (wX D ad cA) yX2_hasMove cX2_hasMove 2 (some .boolean) 0 0 [.ref 16, .int (iI (k))] X (fun r X' => X' = X ∧ ∃ u : Int, r = some (.int (iI u)) ∧ ((u = 1 ∧ 0 ≤ k ∧ k < X.1 16 0) ∨ (u = 0 ∧ ¬ (0 ≤ k ∧ k < X.1 16 0)))) := by
  unfold inR at kk
  refine MetX.mk (own := RX2) (by decide +kernel) rfl (nle rfl) (fun E C hQ => ?_)
  refine Wx_lv (lv' := [(0, .ref 16), (1, .int (iI (k)))]) rfl ?_
  refine x_iload_n (i := 1) C dX2_hasMove_0 rfl rfl ?_
  refine x_if_lt (tgt := 16) C dX2_hasMove_1 (by decide) ⟨by omega, by omega⟩ (fun h1 => ?_) (fun h1 => ?_)
  · refine x_iconst C dX2_hasMove_16 ?_
    exact x_zret C hQ (by omega) dX2_hasMove_17 (⟨rfl, _, rfl, by omega⟩)
  · refine x_iload_n (i := 1) C dX2_hasMove_4 rfl rfl ?_
    refine x_aload_n (i := 0) C dX2_hasMove_5 rfl rfl ?_
    refine x_getI C fkX_X2_19 (nlt rfl) rfl dX2_hasMove_6 ?_
    refine x_gen (fun v2 ev2 => ?_)
    replace ev2 : v2 = X.1 16 0 := ev2
    have qv2 : (0 : Int) ≤ v2 ∧ v2 ≤ (30 : Int) := by
      rw [ev2]
      exact hH.rF (k := 16) (i := 0) rfl rfl
    refine x_icmp_ge (tgt := 16) C dX2_hasMove_9 (by decide) ⟨by omega, by omega⟩ ⟨by omega, by omega⟩ (fun h3 => ?_) (fun h3 => ?_)
    · refine x_iconst C dX2_hasMove_16 ?_
      exact x_zret C hQ (by omega) dX2_hasMove_17 (⟨rfl, _, rfl, by omega⟩)
    · refine x_iconst C dX2_hasMove_12 ?_
      refine x_goto (tgt := 17) C dX2_hasMove_13 (by decide) ?_
      exact x_zret C hQ (by omega) dX2_hasMove_17 (⟨rfl, _, rfl, by omega⟩)
set_option maxHeartbeats 4000000 in
set_option maxRecDepth 100000 in
theorem c_move0 {D : va_G} {ad : Nat → Nat} {cA : Nat → ClassId} {X : XT} {k q : Int} (kk : inR k) (qq : inR q) (hc : 0 < X.1 3 2) (hH : HG vX X) : MetX (wX D ad cA) yX11_move cX11_move 7 (some .int) 1 22 [.ref 0, .int (iI (0)), .int (iI (k)), .int (iI (q))] X (fun r X' => X' = X ∧ ∃ u : Int, r = some (.int (iI u)) ∧ inR u ∧ MVX 13 14 15 k q X u) := by
  unfold inR at kk qq
  have gb : (0 : Int) ≤ X.1 13 0 ∧ X.1 13 0 ≤ 30 := hH.rF (k := 13) (i := 0) (p := (0, 30)) rfl rfl
  refine MetX.mk (own := RX11) (by decide +kernel) rfl (nle rfl) (fun E C hQ => ?_)
  refine Wx_lv (lv' := [(0, .ref 0), (1, .int (iI (0))), (2, .int (iI (k))), (3, .int (iI (q)))]) rfl ?_
  refine x_aload_n (i := 0) C dX11_move_0 rfl rfl ?_
  refine x_getRs (r := 1) C fkX_X11_10 (nlt rfl) rfl (HG.rR hH (k := 0) (i := 0) rfl rfl) dX11_move_1 ?_
  refine x_iload_n (i := 1) C dX11_move_4 rfl rfl ?_
  refine x_callV (As := [.int (iI (0))]) C (by exact (c_gameAt0 hc hH)) ckX11_176 im_X8_gameAt se_X8_gameAt (nlt rfl) rfl rfl rfl rfl (nle rfl) (by exact ⟨nle rfl, nle rfl⟩) dX11_move_5 ?_
  rintro _ Xv1 ⟨hxv1, rfl⟩
  rw [hxv1]
  refine Wx_st (st' := [.ref 13]) rfl ?_
  refine x_astore (lv' := [(4, .ref 13), (0, .ref 0), (1, .int (iI (0))), (2, .int (iI (k))), (3, .int (iI (q)))]) C dX11_move_8 (nlt rfl) rfl ?_
  refine x_aload C dX11_move_10 rfl ?_
  refine x_ifnonnullR (tgt := 18) C dX11_move_12 (by decide) ?_
  refine x_iload_n (i := 2) C dX11_move_18 rfl rfl ?_
  refine x_iconst C dX11_move_19 ?_
  refine x_icmp_ne (tgt := 33) C dX11_move_20 (by decide) ⟨by omega, by omega⟩ ⟨by omega, by omega⟩ (fun h2 => ?_) (fun h2 => ?_)
  · refine x_aload C dX11_move_33 rfl ?_
    refine x_iload_n (i := 2) C dX11_move_35 rfl rfl ?_
    refine x_callV (As := [.int (iI (k))]) C (by exact (c_hasMove13 (k := k) ⟨by omega, by omega⟩ hH)) ckX11_185 im_X2_hasMove se_X2_hasMove (nlt rfl) rfl rfl rfl rfl (nle rfl) (by exact ⟨nle rfl, nle rfl⟩) dX11_move_36 ?_
    rintro _ Xv3 ⟨hxv3, v3, rfl, ev3⟩
    rw [hxv3]
    refine Wx_st (st' := [.int (iI (v3))]) rfl ?_
    refine x_if_ne (tgt := 45) C dX11_move_39 (by decide) ⟨by omega, by omega⟩ (fun h4 => ?_) (fun h4 => ?_)
    · refine x_aload C dX11_move_45 rfl ?_
      refine x_getRs (r := 14) C fkX_X11_188 (nlt rfl) rfl (HG.rR hH (k := 13) (i := 1) rfl rfl) dX11_move_47 ?_
      refine x_iload_n (i := 2) C dX11_move_50 rfl rfl ?_
      refine x_lald C (nlt rfl) rfl rfl (nle rfl) (by omega) (by omega) dX11_move_51 ?_
      refine x_genL (fun l5 el5 => ?_)
      refine x_lstore (lv' := [(5, .long (l5)), (4, .ref 13), (0, .ref 0), (1, .int (iI (0))), (2, .int (iI (k))), (3, .int (iI (q)))]) C dX11_move_52 (nlt rfl) rfl ?_
      refine x_iload_n (i := 3) C dX11_move_54 rfl rfl ?_
      refine x_if_ne (tgt := 66) C dX11_move_55 (by decide) ⟨by omega, by omega⟩ (fun h6 => ?_) (fun h6 => ?_)
      · refine x_iload_n (i := 3) C dX11_move_66 rfl rfl ?_
        refine x_iconst C dX11_move_67 ?_
        refine x_icmp_ne (tgt := 77) C dX11_move_68 (by decide) ⟨by omega, by omega⟩ ⟨by omega, by omega⟩ (fun h7 => ?_) (fun h7 => ?_)
        · refine x_iload_n (i := 3) C dX11_move_77 rfl rfl ?_
          refine x_bipush C dX11_move_78 (by decide) ?_
          refine x_icmp_lt (tgt := 107) C dX11_move_80 (by decide) ⟨by omega, by omega⟩ ⟨by omega, by omega⟩ (fun h8 => ?_) (fun h8 => ?_)
          · refine x_bipush C dX11_move_107 (by decide) ?_
            exact x_iret C hQ dX11_move_109 (⟨rfl, _, rfl, ⟨by omega, by omega⟩, .inr (.inr ⟨by omega, by omega, by first | exact .inl ⟨by omega, by omega⟩ | exact .inr (.inl ⟨by omega, by rw [← el5]; omega⟩) | exact .inr (.inr (.inr ⟨by omega, by omega, by rw [← el5]; omega, by omega⟩)) | exact .inr (.inr (.inl ⟨by omega, by rw [← el5]; omega, by rw [← el5]; assumption⟩))⟩)⟩)
          · refine x_iload_n (i := 3) C dX11_move_83 rfl rfl ?_
            refine x_bipush C dX11_move_84 (by decide) ?_
            refine x_lload C dX11_move_86 rfl ?_
            refine x_callS (As := [.long (l5)]) C (by exact (c_lengthOf (r := l5))) ckX11_145 sm_X11_lengthOf rfl rfl (nle rfl) (by exact ⟨nle rfl, nle rfl⟩) dX11_move_88 ?_
            rintro _ Xv9 ⟨hxv9, v9, rfl, ev9, bv9, cv9⟩
            rw [hxv9]
            refine Wx_st (st' := [.int (iI (v9)), .int (iI (10)), .int (iI (q))]) rfl ?_
            refine x_iadd C dX11_move_91 ?_
            refine x_icmp_ge (tgt := 107) C dX11_move_92 (by decide) ⟨by omega, by omega⟩ ⟨by omega, by omega⟩ (fun h10 => ?_) (fun h10 => ?_)
            · refine x_bipush C dX11_move_107 (by decide) ?_
              exact x_iret C hQ dX11_move_109 (⟨rfl, _, rfl, ⟨by omega, by omega⟩, .inr (.inr ⟨by omega, by omega, by first | exact .inl ⟨by omega, by omega⟩ | exact .inr (.inl ⟨by omega, by rw [← el5]; omega⟩) | exact .inr (.inr (.inr ⟨by omega, by omega, by rw [← el5]; omega, by omega⟩)) | exact .inr (.inr (.inl ⟨by omega, by rw [← el5]; omega, by rw [← el5]; assumption⟩))⟩)⟩)
            · refine x_lload C dX11_move_95 rfl ?_
              refine x_iload_n (i := 3) C dX11_move_97 rfl rfl ?_
              refine x_bipush C dX11_move_98 (by decide) ?_
              refine x_isub C dX11_move_100 ?_
              refine x_callS (As := [.long (l5), .int (iI (q - 10))]) C (by exact (c_signOf (r := l5) (k := q - 10) (by omega) (by omega))) ckX11_148 sm_X11_signOf rfl rfl (nle rfl) (by exact ⟨nle rfl, nle rfl⟩) dX11_move_101 ?_
              rintro _ Xv11 ⟨hxv11, v11, rfl, rv11, sgv11⟩
              rw [hxv11]
              unfold inR at rv11
              refine Wx_st (st' := [.int (iI (v11))]) rfl ?_
              refine x_goto (tgt := 109) C dX11_move_104 (by decide) ?_
              exact x_iret C hQ dX11_move_109 (⟨rfl, _, rfl, ⟨by omega, by omega⟩, .inr (.inr ⟨by omega, by omega, by first | exact .inl ⟨by omega, by omega⟩ | exact .inr (.inl ⟨by omega, by rw [← el5]; omega⟩) | exact .inr (.inr (.inr ⟨by omega, by omega, by rw [← el5]; omega, by omega⟩)) | exact .inr (.inr (.inl ⟨by omega, by rw [← el5]; omega, by rw [← el5]; assumption⟩))⟩)⟩)
        · refine x_lload C dX11_move_71 rfl ?_
          refine x_callS (As := [.long (l5)]) C (by exact (c_lengthOf (r := l5))) ckX11_145 sm_X11_lengthOf rfl rfl (nle rfl) (by exact ⟨nle rfl, nle rfl⟩) dX11_move_73 ?_
          rintro _ Xv12 ⟨hxv12, v12, rfl, ev12, bv12, cv12⟩
          rw [hxv12]
          refine Wx_st (st' := [.int (iI (v12))]) rfl ?_
          exact x_iret C hQ dX11_move_76 (⟨rfl, _, rfl, ⟨by omega, by omega⟩, .inr (.inr ⟨by omega, by omega, by first | exact .inl ⟨by omega, by omega⟩ | exact .inr (.inl ⟨by omega, by rw [← el5]; omega⟩) | exact .inr (.inr (.inr ⟨by omega, by omega, by rw [← el5]; omega, by omega⟩)) | exact .inr (.inr (.inl ⟨by omega, by rw [← el5]; omega, by rw [← el5]; assumption⟩))⟩)⟩)
      · refine x_aload C dX11_move_58 rfl ?_
        refine x_getRs (r := 15) C fkX_X11_189 (nlt rfl) rfl (HG.rR hH (k := 13) (i := 2) rfl rfl) dX11_move_60 ?_
        refine x_iload_n (i := 2) C dX11_move_63 rfl rfl ?_
        refine x_iald C (nlt rfl) rfl rfl (nle rfl) (by omega) (by omega) dX11_move_64 ?_
        refine x_gen (fun v13 ev13 => ?_)
        have qv13 : ((-2147483648) : Int) ≤ v13 ∧ v13 ≤ (2147483647 : Int) := by
          rw [ev13]
          exact hH.rA (k := 15) (n := 30) (p := ((-2147483648), 2147483647)) (nlt rfl) rfl (by decide +kernel) (by omega)
        exact x_iret C hQ dX11_move_65 (⟨rfl, _, rfl, ⟨by omega, by omega⟩, .inr (.inr ⟨by omega, by omega, by first | exact .inl ⟨by omega, by omega⟩ | exact .inr (.inl ⟨by omega, by rw [← el5]; omega⟩) | exact .inr (.inr (.inr ⟨by omega, by omega, by rw [← el5]; omega, by omega⟩)) | exact .inr (.inr (.inl ⟨by omega, by rw [← el5]; omega, by rw [← el5]; assumption⟩))⟩)⟩)
    · refine x_bipush C dX11_move_42 (by decide) ?_
      exact x_iret C hQ dX11_move_44 (⟨rfl, _, rfl, ⟨by omega, by omega⟩, by first | exact .inl ⟨by omega, by omega, by omega⟩ | exact .inr (.inl ⟨by omega, by omega, by omega⟩)⟩)
  · refine x_iload_n (i := 3) C dX11_move_23 rfl rfl ?_
    refine x_if_ne (tgt := 33) C dX11_move_24 (by decide) ⟨by omega, by omega⟩ (fun h14 => ?_) (fun h14 => ?_)
    · refine x_aload C dX11_move_33 rfl ?_
      refine x_iload_n (i := 2) C dX11_move_35 rfl rfl ?_
      refine x_callV (As := [.int (iI (k))]) C (by exact (c_hasMove13 (k := k) ⟨by omega, by omega⟩ hH)) ckX11_185 im_X2_hasMove se_X2_hasMove (nlt rfl) rfl rfl rfl rfl (nle rfl) (by exact ⟨nle rfl, nle rfl⟩) dX11_move_36 ?_
      rintro _ Xv15 ⟨hxv15, v15, rfl, ev15⟩
      rw [hxv15]
      refine Wx_st (st' := [.int (iI (v15))]) rfl ?_
      refine x_if_ne (tgt := 45) C dX11_move_39 (by decide) ⟨by omega, by omega⟩ (fun h16 => ?_) (fun h16 => ?_)
      · refine x_aload C dX11_move_45 rfl ?_
        refine x_getRs (r := 14) C fkX_X11_188 (nlt rfl) rfl (HG.rR hH (k := 13) (i := 1) rfl rfl) dX11_move_47 ?_
        refine x_iload_n (i := 2) C dX11_move_50 rfl rfl ?_
        refine x_lald C (nlt rfl) rfl rfl (nle rfl) (by omega) (by omega) dX11_move_51 ?_
        refine x_genL (fun l17 el17 => ?_)
        refine x_lstore (lv' := [(5, .long (l17)), (4, .ref 13), (0, .ref 0), (1, .int (iI (0))), (2, .int (iI (k))), (3, .int (iI (q)))]) C dX11_move_52 (nlt rfl) rfl ?_
        refine x_iload_n (i := 3) C dX11_move_54 rfl rfl ?_
        refine x_if_ne (tgt := 66) C dX11_move_55 (by decide) ⟨by omega, by omega⟩ (fun h18 => ?_) (fun h18 => ?_)
        · refine x_iload_n (i := 3) C dX11_move_66 rfl rfl ?_
          refine x_iconst C dX11_move_67 ?_
          refine x_icmp_ne (tgt := 77) C dX11_move_68 (by decide) ⟨by omega, by omega⟩ ⟨by omega, by omega⟩ (fun h19 => ?_) (fun h19 => ?_)
          · refine x_iload_n (i := 3) C dX11_move_77 rfl rfl ?_
            refine x_bipush C dX11_move_78 (by decide) ?_
            refine x_icmp_lt (tgt := 107) C dX11_move_80 (by decide) ⟨by omega, by omega⟩ ⟨by omega, by omega⟩ (fun h20 => ?_) (fun h20 => ?_)
            · refine x_bipush C dX11_move_107 (by decide) ?_
              exact x_iret C hQ dX11_move_109 (⟨rfl, _, rfl, ⟨by omega, by omega⟩, .inr (.inr ⟨by omega, by omega, by first | exact .inl ⟨by omega, by omega⟩ | exact .inr (.inl ⟨by omega, by rw [← el17]; omega⟩) | exact .inr (.inr (.inr ⟨by omega, by omega, by rw [← el17]; omega, by omega⟩)) | exact .inr (.inr (.inl ⟨by omega, by rw [← el17]; omega, by rw [← el17]; assumption⟩))⟩)⟩)
            · refine x_iload_n (i := 3) C dX11_move_83 rfl rfl ?_
              refine x_bipush C dX11_move_84 (by decide) ?_
              refine x_lload C dX11_move_86 rfl ?_
              refine x_callS (As := [.long (l17)]) C (by exact (c_lengthOf (r := l17))) ckX11_145 sm_X11_lengthOf rfl rfl (nle rfl) (by exact ⟨nle rfl, nle rfl⟩) dX11_move_88 ?_
              rintro _ Xv21 ⟨hxv21, v21, rfl, ev21, bv21, cv21⟩
              rw [hxv21]
              refine Wx_st (st' := [.int (iI (v21)), .int (iI (10)), .int (iI (q))]) rfl ?_
              refine x_iadd C dX11_move_91 ?_
              refine x_icmp_ge (tgt := 107) C dX11_move_92 (by decide) ⟨by omega, by omega⟩ ⟨by omega, by omega⟩ (fun h22 => ?_) (fun h22 => ?_)
              · refine x_bipush C dX11_move_107 (by decide) ?_
                exact x_iret C hQ dX11_move_109 (⟨rfl, _, rfl, ⟨by omega, by omega⟩, .inr (.inr ⟨by omega, by omega, by first | exact .inl ⟨by omega, by omega⟩ | exact .inr (.inl ⟨by omega, by rw [← el17]; omega⟩) | exact .inr (.inr (.inr ⟨by omega, by omega, by rw [← el17]; omega, by omega⟩)) | exact .inr (.inr (.inl ⟨by omega, by rw [← el17]; omega, by rw [← el17]; assumption⟩))⟩)⟩)
              · refine x_lload C dX11_move_95 rfl ?_
                refine x_iload_n (i := 3) C dX11_move_97 rfl rfl ?_
                refine x_bipush C dX11_move_98 (by decide) ?_
                refine x_isub C dX11_move_100 ?_
                refine x_callS (As := [.long (l17), .int (iI (q - 10))]) C (by exact (c_signOf (r := l17) (k := q - 10) (by omega) (by omega))) ckX11_148 sm_X11_signOf rfl rfl (nle rfl) (by exact ⟨nle rfl, nle rfl⟩) dX11_move_101 ?_
                rintro _ Xv23 ⟨hxv23, v23, rfl, rv23, sgv23⟩
                rw [hxv23]
                unfold inR at rv23
                refine Wx_st (st' := [.int (iI (v23))]) rfl ?_
                refine x_goto (tgt := 109) C dX11_move_104 (by decide) ?_
                exact x_iret C hQ dX11_move_109 (⟨rfl, _, rfl, ⟨by omega, by omega⟩, .inr (.inr ⟨by omega, by omega, by first | exact .inl ⟨by omega, by omega⟩ | exact .inr (.inl ⟨by omega, by rw [← el17]; omega⟩) | exact .inr (.inr (.inr ⟨by omega, by omega, by rw [← el17]; omega, by omega⟩)) | exact .inr (.inr (.inl ⟨by omega, by rw [← el17]; omega, by rw [← el17]; assumption⟩))⟩)⟩)
          · refine x_lload C dX11_move_71 rfl ?_
            refine x_callS (As := [.long (l17)]) C (by exact (c_lengthOf (r := l17))) ckX11_145 sm_X11_lengthOf rfl rfl (nle rfl) (by exact ⟨nle rfl, nle rfl⟩) dX11_move_73 ?_
            rintro _ Xv24 ⟨hxv24, v24, rfl, ev24, bv24, cv24⟩
            rw [hxv24]
            refine Wx_st (st' := [.int (iI (v24))]) rfl ?_
            exact x_iret C hQ dX11_move_76 (⟨rfl, _, rfl, ⟨by omega, by omega⟩, .inr (.inr ⟨by omega, by omega, by first | exact .inl ⟨by omega, by omega⟩ | exact .inr (.inl ⟨by omega, by rw [← el17]; omega⟩) | exact .inr (.inr (.inr ⟨by omega, by omega, by rw [← el17]; omega, by omega⟩)) | exact .inr (.inr (.inl ⟨by omega, by rw [← el17]; omega, by rw [← el17]; assumption⟩))⟩)⟩)
        · refine x_aload C dX11_move_58 rfl ?_
          refine x_getRs (r := 15) C fkX_X11_189 (nlt rfl) rfl (HG.rR hH (k := 13) (i := 2) rfl rfl) dX11_move_60 ?_
          refine x_iload_n (i := 2) C dX11_move_63 rfl rfl ?_
          refine x_iald C (nlt rfl) rfl rfl (nle rfl) (by omega) (by omega) dX11_move_64 ?_
          refine x_gen (fun v25 ev25 => ?_)
          have qv25 : ((-2147483648) : Int) ≤ v25 ∧ v25 ≤ (2147483647 : Int) := by
            rw [ev25]
            exact hH.rA (k := 15) (n := 30) (p := ((-2147483648), 2147483647)) (nlt rfl) rfl (by decide +kernel) (by omega)
          exact x_iret C hQ dX11_move_65 (⟨rfl, _, rfl, ⟨by omega, by omega⟩, .inr (.inr ⟨by omega, by omega, by first | exact .inl ⟨by omega, by omega⟩ | exact .inr (.inl ⟨by omega, by rw [← el17]; omega⟩) | exact .inr (.inr (.inr ⟨by omega, by omega, by rw [← el17]; omega, by omega⟩)) | exact .inr (.inr (.inl ⟨by omega, by rw [← el17]; omega, by rw [← el17]; assumption⟩))⟩)⟩)
      · refine x_bipush C dX11_move_42 (by decide) ?_
        exact x_iret C hQ dX11_move_44 (⟨rfl, _, rfl, ⟨by omega, by omega⟩, by first | exact .inl ⟨by omega, by omega, by omega⟩ | exact .inr (.inl ⟨by omega, by omega, by omega⟩)⟩)
    · refine x_aload C dX11_move_27 rfl ?_
      refine x_getI C fkX_X11_180 (nlt rfl) rfl dX11_move_29 ?_
      refine x_gen (fun v26 ev26 => ?_)
      replace ev26 : v26 = X.1 13 0 := ev26
      have qv26 : (0 : Int) ≤ v26 ∧ v26 ≤ (30 : Int) := by
        rw [ev26]
        exact hH.rF (k := 13) (i := 0) rfl rfl
      exact x_iret C hQ dX11_move_32 (⟨rfl, _, rfl, ⟨by omega, by omega⟩, by first | exact .inl ⟨by omega, by omega, by omega⟩ | exact .inr (.inl ⟨by omega, by omega, by omega⟩)⟩)
set_option maxHeartbeats 4000000 in
set_option maxRecDepth 100000 in
theorem c_move1 {D : va_G} {ad : Nat → Nat} {cA : Nat → ClassId} {X : XT} {k q : Int} (kk : inR k) (qq : inR q) (hc : 1 < X.1 3 2) (hH : HG vX X) : MetX (wX D ad cA) yX11_move cX11_move 7 (some .int) 1 22 [.ref 0, .int (iI (1)), .int (iI (k)), .int (iI (q))] X (fun r X' => X' = X ∧ ∃ u : Int, r = some (.int (iI u)) ∧ inR u ∧ MVX 16 17 18 k q X u) := by
  unfold inR at kk qq
  have gb : (0 : Int) ≤ X.1 16 0 ∧ X.1 16 0 ≤ 30 := hH.rF (k := 16) (i := 0) (p := (0, 30)) rfl rfl
  refine MetX.mk (own := RX11) (by decide +kernel) rfl (nle rfl) (fun E C hQ => ?_)
  refine Wx_lv (lv' := [(0, .ref 0), (1, .int (iI (1))), (2, .int (iI (k))), (3, .int (iI (q)))]) rfl ?_
  refine x_aload_n (i := 0) C dX11_move_0 rfl rfl ?_
  refine x_getRs (r := 1) C fkX_X11_10 (nlt rfl) rfl (HG.rR hH (k := 0) (i := 0) rfl rfl) dX11_move_1 ?_
  refine x_iload_n (i := 1) C dX11_move_4 rfl rfl ?_
  refine x_callV (As := [.int (iI (1))]) C (by exact (c_gameAt1 hc hH)) ckX11_176 im_X8_gameAt se_X8_gameAt (nlt rfl) rfl rfl rfl rfl (nle rfl) (by exact ⟨nle rfl, nle rfl⟩) dX11_move_5 ?_
  rintro _ Xv1 ⟨hxv1, rfl⟩
  rw [hxv1]
  refine Wx_st (st' := [.ref 16]) rfl ?_
  refine x_astore (lv' := [(4, .ref 16), (0, .ref 0), (1, .int (iI (1))), (2, .int (iI (k))), (3, .int (iI (q)))]) C dX11_move_8 (nlt rfl) rfl ?_
  refine x_aload C dX11_move_10 rfl ?_
  refine x_ifnonnullR (tgt := 18) C dX11_move_12 (by decide) ?_
  refine x_iload_n (i := 2) C dX11_move_18 rfl rfl ?_
  refine x_iconst C dX11_move_19 ?_
  refine x_icmp_ne (tgt := 33) C dX11_move_20 (by decide) ⟨by omega, by omega⟩ ⟨by omega, by omega⟩ (fun h2 => ?_) (fun h2 => ?_)
  · refine x_aload C dX11_move_33 rfl ?_
    refine x_iload_n (i := 2) C dX11_move_35 rfl rfl ?_
    refine x_callV (As := [.int (iI (k))]) C (by exact (c_hasMove16 (k := k) ⟨by omega, by omega⟩ hH)) ckX11_185 im_X2_hasMove se_X2_hasMove (nlt rfl) rfl rfl rfl rfl (nle rfl) (by exact ⟨nle rfl, nle rfl⟩) dX11_move_36 ?_
    rintro _ Xv3 ⟨hxv3, v3, rfl, ev3⟩
    rw [hxv3]
    refine Wx_st (st' := [.int (iI (v3))]) rfl ?_
    refine x_if_ne (tgt := 45) C dX11_move_39 (by decide) ⟨by omega, by omega⟩ (fun h4 => ?_) (fun h4 => ?_)
    · refine x_aload C dX11_move_45 rfl ?_
      refine x_getRs (r := 17) C fkX_X11_188 (nlt rfl) rfl (HG.rR hH (k := 16) (i := 1) rfl rfl) dX11_move_47 ?_
      refine x_iload_n (i := 2) C dX11_move_50 rfl rfl ?_
      refine x_lald C (nlt rfl) rfl rfl (nle rfl) (by omega) (by omega) dX11_move_51 ?_
      refine x_genL (fun l5 el5 => ?_)
      refine x_lstore (lv' := [(5, .long (l5)), (4, .ref 16), (0, .ref 0), (1, .int (iI (1))), (2, .int (iI (k))), (3, .int (iI (q)))]) C dX11_move_52 (nlt rfl) rfl ?_
      refine x_iload_n (i := 3) C dX11_move_54 rfl rfl ?_
      refine x_if_ne (tgt := 66) C dX11_move_55 (by decide) ⟨by omega, by omega⟩ (fun h6 => ?_) (fun h6 => ?_)
      · refine x_iload_n (i := 3) C dX11_move_66 rfl rfl ?_
        refine x_iconst C dX11_move_67 ?_
        refine x_icmp_ne (tgt := 77) C dX11_move_68 (by decide) ⟨by omega, by omega⟩ ⟨by omega, by omega⟩ (fun h7 => ?_) (fun h7 => ?_)
        · refine x_iload_n (i := 3) C dX11_move_77 rfl rfl ?_
          refine x_bipush C dX11_move_78 (by decide) ?_
          refine x_icmp_lt (tgt := 107) C dX11_move_80 (by decide) ⟨by omega, by omega⟩ ⟨by omega, by omega⟩ (fun h8 => ?_) (fun h8 => ?_)
          · refine x_bipush C dX11_move_107 (by decide) ?_
            exact x_iret C hQ dX11_move_109 (⟨rfl, _, rfl, ⟨by omega, by omega⟩, .inr (.inr ⟨by omega, by omega, by first | exact .inl ⟨by omega, by omega⟩ | exact .inr (.inl ⟨by omega, by rw [← el5]; omega⟩) | exact .inr (.inr (.inr ⟨by omega, by omega, by rw [← el5]; omega, by omega⟩)) | exact .inr (.inr (.inl ⟨by omega, by rw [← el5]; omega, by rw [← el5]; assumption⟩))⟩)⟩)
          · refine x_iload_n (i := 3) C dX11_move_83 rfl rfl ?_
            refine x_bipush C dX11_move_84 (by decide) ?_
            refine x_lload C dX11_move_86 rfl ?_
            refine x_callS (As := [.long (l5)]) C (by exact (c_lengthOf (r := l5))) ckX11_145 sm_X11_lengthOf rfl rfl (nle rfl) (by exact ⟨nle rfl, nle rfl⟩) dX11_move_88 ?_
            rintro _ Xv9 ⟨hxv9, v9, rfl, ev9, bv9, cv9⟩
            rw [hxv9]
            refine Wx_st (st' := [.int (iI (v9)), .int (iI (10)), .int (iI (q))]) rfl ?_
            refine x_iadd C dX11_move_91 ?_
            refine x_icmp_ge (tgt := 107) C dX11_move_92 (by decide) ⟨by omega, by omega⟩ ⟨by omega, by omega⟩ (fun h10 => ?_) (fun h10 => ?_)
            · refine x_bipush C dX11_move_107 (by decide) ?_
              exact x_iret C hQ dX11_move_109 (⟨rfl, _, rfl, ⟨by omega, by omega⟩, .inr (.inr ⟨by omega, by omega, by first | exact .inl ⟨by omega, by omega⟩ | exact .inr (.inl ⟨by omega, by rw [← el5]; omega⟩) | exact .inr (.inr (.inr ⟨by omega, by omega, by rw [← el5]; omega, by omega⟩)) | exact .inr (.inr (.inl ⟨by omega, by rw [← el5]; omega, by rw [← el5]; assumption⟩))⟩)⟩)
            · refine x_lload C dX11_move_95 rfl ?_
              refine x_iload_n (i := 3) C dX11_move_97 rfl rfl ?_
              refine x_bipush C dX11_move_98 (by decide) ?_
              refine x_isub C dX11_move_100 ?_
              refine x_callS (As := [.long (l5), .int (iI (q - 10))]) C (by exact (c_signOf (r := l5) (k := q - 10) (by omega) (by omega))) ckX11_148 sm_X11_signOf rfl rfl (nle rfl) (by exact ⟨nle rfl, nle rfl⟩) dX11_move_101 ?_
              rintro _ Xv11 ⟨hxv11, v11, rfl, rv11, sgv11⟩
              rw [hxv11]
              unfold inR at rv11
              refine Wx_st (st' := [.int (iI (v11))]) rfl ?_
              refine x_goto (tgt := 109) C dX11_move_104 (by decide) ?_
              exact x_iret C hQ dX11_move_109 (⟨rfl, _, rfl, ⟨by omega, by omega⟩, .inr (.inr ⟨by omega, by omega, by first | exact .inl ⟨by omega, by omega⟩ | exact .inr (.inl ⟨by omega, by rw [← el5]; omega⟩) | exact .inr (.inr (.inr ⟨by omega, by omega, by rw [← el5]; omega, by omega⟩)) | exact .inr (.inr (.inl ⟨by omega, by rw [← el5]; omega, by rw [← el5]; assumption⟩))⟩)⟩)
        · refine x_lload C dX11_move_71 rfl ?_
          refine x_callS (As := [.long (l5)]) C (by exact (c_lengthOf (r := l5))) ckX11_145 sm_X11_lengthOf rfl rfl (nle rfl) (by exact ⟨nle rfl, nle rfl⟩) dX11_move_73 ?_
          rintro _ Xv12 ⟨hxv12, v12, rfl, ev12, bv12, cv12⟩
          rw [hxv12]
          refine Wx_st (st' := [.int (iI (v12))]) rfl ?_
          exact x_iret C hQ dX11_move_76 (⟨rfl, _, rfl, ⟨by omega, by omega⟩, .inr (.inr ⟨by omega, by omega, by first | exact .inl ⟨by omega, by omega⟩ | exact .inr (.inl ⟨by omega, by rw [← el5]; omega⟩) | exact .inr (.inr (.inr ⟨by omega, by omega, by rw [← el5]; omega, by omega⟩)) | exact .inr (.inr (.inl ⟨by omega, by rw [← el5]; omega, by rw [← el5]; assumption⟩))⟩)⟩)
      · refine x_aload C dX11_move_58 rfl ?_
        refine x_getRs (r := 18) C fkX_X11_189 (nlt rfl) rfl (HG.rR hH (k := 16) (i := 2) rfl rfl) dX11_move_60 ?_
        refine x_iload_n (i := 2) C dX11_move_63 rfl rfl ?_
        refine x_iald C (nlt rfl) rfl rfl (nle rfl) (by omega) (by omega) dX11_move_64 ?_
        refine x_gen (fun v13 ev13 => ?_)
        have qv13 : ((-2147483648) : Int) ≤ v13 ∧ v13 ≤ (2147483647 : Int) := by
          rw [ev13]
          exact hH.rA (k := 18) (n := 30) (p := ((-2147483648), 2147483647)) (nlt rfl) rfl (by decide +kernel) (by omega)
        exact x_iret C hQ dX11_move_65 (⟨rfl, _, rfl, ⟨by omega, by omega⟩, .inr (.inr ⟨by omega, by omega, by first | exact .inl ⟨by omega, by omega⟩ | exact .inr (.inl ⟨by omega, by rw [← el5]; omega⟩) | exact .inr (.inr (.inr ⟨by omega, by omega, by rw [← el5]; omega, by omega⟩)) | exact .inr (.inr (.inl ⟨by omega, by rw [← el5]; omega, by rw [← el5]; assumption⟩))⟩)⟩)
    · refine x_bipush C dX11_move_42 (by decide) ?_
      exact x_iret C hQ dX11_move_44 (⟨rfl, _, rfl, ⟨by omega, by omega⟩, by first | exact .inl ⟨by omega, by omega, by omega⟩ | exact .inr (.inl ⟨by omega, by omega, by omega⟩)⟩)
  · refine x_iload_n (i := 3) C dX11_move_23 rfl rfl ?_
    refine x_if_ne (tgt := 33) C dX11_move_24 (by decide) ⟨by omega, by omega⟩ (fun h14 => ?_) (fun h14 => ?_)
    · refine x_aload C dX11_move_33 rfl ?_
      refine x_iload_n (i := 2) C dX11_move_35 rfl rfl ?_
      refine x_callV (As := [.int (iI (k))]) C (by exact (c_hasMove16 (k := k) ⟨by omega, by omega⟩ hH)) ckX11_185 im_X2_hasMove se_X2_hasMove (nlt rfl) rfl rfl rfl rfl (nle rfl) (by exact ⟨nle rfl, nle rfl⟩) dX11_move_36 ?_
      rintro _ Xv15 ⟨hxv15, v15, rfl, ev15⟩
      rw [hxv15]
      refine Wx_st (st' := [.int (iI (v15))]) rfl ?_
      refine x_if_ne (tgt := 45) C dX11_move_39 (by decide) ⟨by omega, by omega⟩ (fun h16 => ?_) (fun h16 => ?_)
      · refine x_aload C dX11_move_45 rfl ?_
        refine x_getRs (r := 17) C fkX_X11_188 (nlt rfl) rfl (HG.rR hH (k := 16) (i := 1) rfl rfl) dX11_move_47 ?_
        refine x_iload_n (i := 2) C dX11_move_50 rfl rfl ?_
        refine x_lald C (nlt rfl) rfl rfl (nle rfl) (by omega) (by omega) dX11_move_51 ?_
        refine x_genL (fun l17 el17 => ?_)
        refine x_lstore (lv' := [(5, .long (l17)), (4, .ref 16), (0, .ref 0), (1, .int (iI (1))), (2, .int (iI (k))), (3, .int (iI (q)))]) C dX11_move_52 (nlt rfl) rfl ?_
        refine x_iload_n (i := 3) C dX11_move_54 rfl rfl ?_
        refine x_if_ne (tgt := 66) C dX11_move_55 (by decide) ⟨by omega, by omega⟩ (fun h18 => ?_) (fun h18 => ?_)
        · refine x_iload_n (i := 3) C dX11_move_66 rfl rfl ?_
          refine x_iconst C dX11_move_67 ?_
          refine x_icmp_ne (tgt := 77) C dX11_move_68 (by decide) ⟨by omega, by omega⟩ ⟨by omega, by omega⟩ (fun h19 => ?_) (fun h19 => ?_)
          · refine x_iload_n (i := 3) C dX11_move_77 rfl rfl ?_
            refine x_bipush C dX11_move_78 (by decide) ?_
            refine x_icmp_lt (tgt := 107) C dX11_move_80 (by decide) ⟨by omega, by omega⟩ ⟨by omega, by omega⟩ (fun h20 => ?_) (fun h20 => ?_)
            · refine x_bipush C dX11_move_107 (by decide) ?_
              exact x_iret C hQ dX11_move_109 (⟨rfl, _, rfl, ⟨by omega, by omega⟩, .inr (.inr ⟨by omega, by omega, by first | exact .inl ⟨by omega, by omega⟩ | exact .inr (.inl ⟨by omega, by rw [← el17]; omega⟩) | exact .inr (.inr (.inr ⟨by omega, by omega, by rw [← el17]; omega, by omega⟩)) | exact .inr (.inr (.inl ⟨by omega, by rw [← el17]; omega, by rw [← el17]; assumption⟩))⟩)⟩)
            · refine x_iload_n (i := 3) C dX11_move_83 rfl rfl ?_
              refine x_bipush C dX11_move_84 (by decide) ?_
              refine x_lload C dX11_move_86 rfl ?_
              refine x_callS (As := [.long (l17)]) C (by exact (c_lengthOf (r := l17))) ckX11_145 sm_X11_lengthOf rfl rfl (nle rfl) (by exact ⟨nle rfl, nle rfl⟩) dX11_move_88 ?_
              rintro _ Xv21 ⟨hxv21, v21, rfl, ev21, bv21, cv21⟩
              rw [hxv21]
              refine Wx_st (st' := [.int (iI (v21)), .int (iI (10)), .int (iI (q))]) rfl ?_
              refine x_iadd C dX11_move_91 ?_
              refine x_icmp_ge (tgt := 107) C dX11_move_92 (by decide) ⟨by omega, by omega⟩ ⟨by omega, by omega⟩ (fun h22 => ?_) (fun h22 => ?_)
              · refine x_bipush C dX11_move_107 (by decide) ?_
                exact x_iret C hQ dX11_move_109 (⟨rfl, _, rfl, ⟨by omega, by omega⟩, .inr (.inr ⟨by omega, by omega, by first | exact .inl ⟨by omega, by omega⟩ | exact .inr (.inl ⟨by omega, by rw [← el17]; omega⟩) | exact .inr (.inr (.inr ⟨by omega, by omega, by rw [← el17]; omega, by omega⟩)) | exact .inr (.inr (.inl ⟨by omega, by rw [← el17]; omega, by rw [← el17]; assumption⟩))⟩)⟩)
              · refine x_lload C dX11_move_95 rfl ?_
                refine x_iload_n (i := 3) C dX11_move_97 rfl rfl ?_
                refine x_bipush C dX11_move_98 (by decide) ?_
                refine x_isub C dX11_move_100 ?_
                refine x_callS (As := [.long (l17), .int (iI (q - 10))]) C (by exact (c_signOf (r := l17) (k := q - 10) (by omega) (by omega))) ckX11_148 sm_X11_signOf rfl rfl (nle rfl) (by exact ⟨nle rfl, nle rfl⟩) dX11_move_101 ?_
                rintro _ Xv23 ⟨hxv23, v23, rfl, rv23, sgv23⟩
                rw [hxv23]
                unfold inR at rv23
                refine Wx_st (st' := [.int (iI (v23))]) rfl ?_
                refine x_goto (tgt := 109) C dX11_move_104 (by decide) ?_
                exact x_iret C hQ dX11_move_109 (⟨rfl, _, rfl, ⟨by omega, by omega⟩, .inr (.inr ⟨by omega, by omega, by first | exact .inl ⟨by omega, by omega⟩ | exact .inr (.inl ⟨by omega, by rw [← el17]; omega⟩) | exact .inr (.inr (.inr ⟨by omega, by omega, by rw [← el17]; omega, by omega⟩)) | exact .inr (.inr (.inl ⟨by omega, by rw [← el17]; omega, by rw [← el17]; assumption⟩))⟩)⟩)
          · refine x_lload C dX11_move_71 rfl ?_
            refine x_callS (As := [.long (l17)]) C (by exact (c_lengthOf (r := l17))) ckX11_145 sm_X11_lengthOf rfl rfl (nle rfl) (by exact ⟨nle rfl, nle rfl⟩) dX11_move_73 ?_
            rintro _ Xv24 ⟨hxv24, v24, rfl, ev24, bv24, cv24⟩
            rw [hxv24]
            refine Wx_st (st' := [.int (iI (v24))]) rfl ?_
            exact x_iret C hQ dX11_move_76 (⟨rfl, _, rfl, ⟨by omega, by omega⟩, .inr (.inr ⟨by omega, by omega, by first | exact .inl ⟨by omega, by omega⟩ | exact .inr (.inl ⟨by omega, by rw [← el17]; omega⟩) | exact .inr (.inr (.inr ⟨by omega, by omega, by rw [← el17]; omega, by omega⟩)) | exact .inr (.inr (.inl ⟨by omega, by rw [← el17]; omega, by rw [← el17]; assumption⟩))⟩)⟩)
        · refine x_aload C dX11_move_58 rfl ?_
          refine x_getRs (r := 18) C fkX_X11_189 (nlt rfl) rfl (HG.rR hH (k := 16) (i := 2) rfl rfl) dX11_move_60 ?_
          refine x_iload_n (i := 2) C dX11_move_63 rfl rfl ?_
          refine x_iald C (nlt rfl) rfl rfl (nle rfl) (by omega) (by omega) dX11_move_64 ?_
          refine x_gen (fun v25 ev25 => ?_)
          have qv25 : ((-2147483648) : Int) ≤ v25 ∧ v25 ≤ (2147483647 : Int) := by
            rw [ev25]
            exact hH.rA (k := 18) (n := 30) (p := ((-2147483648), 2147483647)) (nlt rfl) rfl (by decide +kernel) (by omega)
          exact x_iret C hQ dX11_move_65 (⟨rfl, _, rfl, ⟨by omega, by omega⟩, .inr (.inr ⟨by omega, by omega, by first | exact .inl ⟨by omega, by omega⟩ | exact .inr (.inl ⟨by omega, by rw [← el17]; omega⟩) | exact .inr (.inr (.inr ⟨by omega, by omega, by rw [← el17]; omega, by omega⟩)) | exact .inr (.inr (.inl ⟨by omega, by rw [← el17]; omega, by rw [← el17]; assumption⟩))⟩)⟩)
      · refine x_bipush C dX11_move_42 (by decide) ?_
        exact x_iret C hQ dX11_move_44 (⟨rfl, _, rfl, ⟨by omega, by omega⟩, by first | exact .inl ⟨by omega, by omega, by omega⟩ | exact .inr (.inl ⟨by omega, by omega, by omega⟩)⟩)
    · refine x_aload C dX11_move_27 rfl ?_
      refine x_getI C fkX_X11_180 (nlt rfl) rfl dX11_move_29 ?_
      refine x_gen (fun v26 ev26 => ?_)
      replace ev26 : v26 = X.1 16 0 := ev26
      have qv26 : (0 : Int) ≤ v26 ∧ v26 ≤ (30 : Int) := by
        rw [ev26]
        exact hH.rF (k := 16) (i := 0) rfl rfl
      exact x_iret C hQ dX11_move_32 (⟨rfl, _, rfl, ⟨by omega, by omega⟩, by first | exact .inl ⟨by omega, by omega, by omega⟩ | exact .inr (.inl ⟨by omega, by omega, by omega⟩)⟩)
set_option maxHeartbeats 4000000 in
set_option maxRecDepth 100000 in
theorem c_moveN {D : va_G} {ad : Nat → Nat} {cA : Nat → ClassId} {X : XT} {n k q : Int} (nn : inR n) (hn : ¬ (0 ≤ n ∧ n < X.1 3 2)) (hH : HG vX X) : MetX (wX D ad cA) yX11_move cX11_move 7 (some .int) 1 22 [.ref 0, .int (iI (n)), .int (iI (k)), .int (iI (q))] X (fun r X' => X' = X ∧ r = some (.int (iI (-2)))) := by
  refine MetX.mk (own := RX11) (by decide +kernel) rfl (nle rfl) (fun E C hQ => ?_)
  refine Wx_lv (lv' := [(0, .ref 0), (1, .int (iI (n))), (2, .int (iI (k))), (3, .int (iI (q)))]) rfl ?_
  refine x_aload_n (i := 0) C dX11_move_0 rfl rfl ?_
  refine x_getRs (r := 1) C fkX_X11_10 (nlt rfl) rfl (HG.rR hH (k := 0) (i := 0) rfl rfl) dX11_move_1 ?_
  refine x_iload_n (i := 1) C dX11_move_4 rfl rfl ?_
  refine x_callV (As := [.int (iI (n))]) C (by exact (c_gameAtN (n := n) nn hn hH)) ckX11_176 im_X8_gameAt se_X8_gameAt (nlt rfl) rfl rfl rfl rfl (nle rfl) (by exact ⟨nle rfl, nle rfl⟩) dX11_move_5 ?_
  rintro _ Xv1 ⟨hxv1, rfl⟩
  rw [hxv1]
  refine Wx_st (st' := [.null]) rfl ?_
  refine x_astoreN (lv' := [(4, .null), (0, .ref 0), (1, .int (iI (n))), (2, .int (iI (k))), (3, .int (iI (q)))]) C dX11_move_8 (nlt rfl) rfl ?_
  refine x_aloadN C dX11_move_10 rfl ?_
  refine x_ifnonnullN C dX11_move_12 ?_
  refine x_bipush C dX11_move_15 (by decide) ?_
  exact x_iret C hQ dX11_move_17 (⟨rfl, rfl⟩)
