/-! ===== the reference: move ===== -/
theorem dX12_moves_0 : decode cX12_moves 0 = .ok (.aload_n 0, 1) := by decide +kernel
theorem dX12_moves_1 : decode cX12_moves 1 = .ok (.getfield 32, 3) := by decide +kernel
theorem dX12_moves_4 : decode cX12_moves 4 = .ok (.sipush 331, 3) := by decide +kernel
theorem dX12_moves_7 : decode cX12_moves 7 = .ok (.aload_n 0, 1) := by decide +kernel
theorem dX12_moves_8 : decode cX12_moves 8 = .ok (.getfield 430, 3) := by decide +kernel
theorem dX12_moves_11 : decode cX12_moves 11 = .ok (.imul, 1) := by decide +kernel
theorem dX12_moves_12 : decode cX12_moves 12 = .ok (.iaload, 1) := by decide +kernel
theorem dX12_moves_13 : decode cX12_moves 13 = .ok (.ireturn, 1) := by decide +kernel
theorem dX12_moveOf_0 : decode cX12_moveOf 0 = .ok (.aload_n 0, 1) := by decide +kernel
theorem dX12_moveOf_1 : decode cX12_moveOf 1 = .ok (.getfield 32, 3) := by decide +kernel
theorem dX12_moveOf_4 : decode cX12_moveOf 4 = .ok (.sipush 331, 3) := by decide +kernel
theorem dX12_moveOf_7 : decode cX12_moveOf 7 = .ok (.aload_n 0, 1) := by decide +kernel
theorem dX12_moveOf_8 : decode cX12_moveOf 8 = .ok (.getfield 430, 3) := by decide +kernel
theorem dX12_moveOf_11 : decode cX12_moveOf 11 = .ok (.imul, 1) := by decide +kernel
theorem dX12_moveOf_12 : decode cX12_moveOf 12 = .ok (.iconst 1, 1) := by decide +kernel
theorem dX12_moveOf_13 : decode cX12_moveOf 13 = .ok (.iadd, 1) := by decide +kernel
theorem dX12_moveOf_14 : decode cX12_moveOf 14 = .ok (.bipush 11, 2) := by decide +kernel
theorem dX12_moveOf_16 : decode cX12_moveOf 16 = .ok (.iload_n 1, 1) := by decide +kernel
theorem dX12_moveOf_17 : decode cX12_moveOf 17 = .ok (.imul, 1) := by decide +kernel
theorem dX12_moveOf_18 : decode cX12_moveOf 18 = .ok (.iadd, 1) := by decide +kernel
theorem dX12_moveOf_19 : decode cX12_moveOf 19 = .ok (.iload_n 2, 1) := by decide +kernel
theorem dX12_moveOf_20 : decode cX12_moveOf 20 = .ok (.iadd, 1) := by decide +kernel
theorem dX12_moveOf_21 : decode cX12_moveOf 21 = .ok (.iaload, 1) := by decide +kernel
theorem dX12_moveOf_22 : decode cX12_moveOf 22 = .ok (.ireturn, 1) := by decide +kernel
theorem dX12_move_0 : decode cX12_move 0 = .ok (.aload_n 0, 1) := by decide +kernel
theorem dX12_move_1 : decode cX12_move 1 = .ok (.iconst 0, 1) := by decide +kernel
theorem dX12_move_2 : decode cX12_move 2 = .ok (.putfield 157, 3) := by decide +kernel
theorem dX12_move_5 : decode cX12_move 5 = .ok (.aload_n 0, 1) := by decide +kernel
theorem dX12_move_6 : decode cX12_move 6 = .ok (.iconst 2, 1) := by decide +kernel
theorem dX12_move_7 : decode cX12_move 7 = .ok (.iload_n 1, 1) := by decide +kernel
theorem dX12_move_8 : decode cX12_move 8 = .ok (.invokevirtual 268, 3) := by decide +kernel
theorem dX12_move_11 : decode cX12_move 11 = .ok (.ifCond .ne 6, 3) := by decide +kernel
theorem dX12_move_14 : decode cX12_move 14 = .ok (.bipush (-2), 2) := by decide +kernel
theorem dX12_move_16 : decode cX12_move 16 = .ok (.ireturn, 1) := by decide +kernel
theorem dX12_move_17 : decode cX12_move 17 = .ok (.aload_n 0, 1) := by decide +kernel
theorem dX12_move_18 : decode cX12_move 18 = .ok (.iload_n 1, 1) := by decide +kernel
theorem dX12_move_19 : decode cX12_move 19 = .ok (.putfield 430, 3) := by decide +kernel
theorem dX12_move_22 : decode cX12_move 22 = .ok (.iload_n 2, 1) := by decide +kernel
theorem dX12_move_23 : decode cX12_move 23 = .ok (.iconst (-1), 1) := by decide +kernel
theorem dX12_move_24 : decode cX12_move 24 = .ok (.if_icmp .ne 17, 3) := by decide +kernel
theorem dX12_move_27 : decode cX12_move 27 = .ok (.iload_n 3, 1) := by decide +kernel
theorem dX12_move_28 : decode cX12_move 28 = .ok (.ifCond .ne 10, 3) := by decide +kernel
theorem dX12_move_31 : decode cX12_move 31 = .ok (.aload_n 0, 1) := by decide +kernel
theorem dX12_move_32 : decode cX12_move 32 = .ok (.invokevirtual 433, 3) := by decide +kernel
theorem dX12_move_35 : decode cX12_move 35 = .ok (.goto 5, 3) := by decide +kernel
theorem dX12_move_38 : decode cX12_move 38 = .ok (.bipush (-2), 2) := by decide +kernel
theorem dX12_move_40 : decode cX12_move 40 = .ok (.ireturn, 1) := by decide +kernel
theorem dX12_move_41 : decode cX12_move 41 = .ok (.iload_n 2, 1) := by decide +kernel
theorem dX12_move_42 : decode cX12_move 42 = .ok (.iconst 0, 1) := by decide +kernel
theorem dX12_move_43 : decode cX12_move 43 = .ok (.aload_n 0, 1) := by decide +kernel
theorem dX12_move_44 : decode cX12_move 44 = .ok (.invokevirtual 433, 3) := by decide +kernel
theorem dX12_move_47 : decode cX12_move 47 = .ok (.iconst 1, 1) := by decide +kernel
theorem dX12_move_48 : decode cX12_move 48 = .ok (.isub, 1) := by decide +kernel
theorem dX12_move_49 : decode cX12_move 49 = .ok (.invokestatic 165, 3) := by decide +kernel
theorem dX12_move_52 : decode cX12_move 52 = .ok (.ifCond .ne 6, 3) := by decide +kernel
theorem dX12_move_55 : decode cX12_move 55 = .ok (.bipush (-2), 2) := by decide +kernel
theorem dX12_move_57 : decode cX12_move 57 = .ok (.ireturn, 1) := by decide +kernel
theorem dX12_move_58 : decode cX12_move 58 = .ok (.iload_n 3, 1) := by decide +kernel
theorem dX12_move_59 : decode cX12_move 59 = .ok (.iconst 0, 1) := by decide +kernel
theorem dX12_move_60 : decode cX12_move 60 = .ok (.iconst 1, 1) := by decide +kernel
theorem dX12_move_61 : decode cX12_move 61 = .ok (.invokestatic 165, 3) := by decide +kernel
theorem dX12_move_64 : decode cX12_move 64 = .ok (.ifCond .eq 12, 3) := by decide +kernel
theorem dX12_move_67 : decode cX12_move 67 = .ok (.aload_n 0, 1) := by decide +kernel
theorem dX12_move_68 : decode cX12_move 68 = .ok (.iload_n 2, 1) := by decide +kernel
theorem dX12_move_69 : decode cX12_move 69 = .ok (.iload_n 3, 1) := by decide +kernel
theorem dX12_move_70 : decode cX12_move 70 = .ok (.invokevirtual 436, 3) := by decide +kernel
theorem dX12_move_73 : decode cX12_move 73 = .ok (.goto 35, 3) := by decide +kernel
theorem dX12_move_76 : decode cX12_move 76 = .ok (.iload_n 3, 1) := by decide +kernel
theorem dX12_move_77 : decode cX12_move 77 = .ok (.bipush 10, 2) := by decide +kernel
theorem dX12_move_79 : decode cX12_move 79 = .ok (.bipush 9, 2) := by decide +kernel
theorem dX12_move_81 : decode cX12_move 81 = .ok (.aload_n 0, 1) := by decide +kernel
theorem dX12_move_82 : decode cX12_move 82 = .ok (.iload_n 2, 1) := by decide +kernel
theorem dX12_move_83 : decode cX12_move 83 = .ok (.iconst 1, 1) := by decide +kernel
theorem dX12_move_84 : decode cX12_move 84 = .ok (.invokevirtual 436, 3) := by decide +kernel
theorem dX12_move_87 : decode cX12_move 87 = .ok (.iadd, 1) := by decide +kernel
theorem dX12_move_88 : decode cX12_move 88 = .ok (.invokestatic 165, 3) := by decide +kernel
theorem dX12_move_91 : decode cX12_move 91 = .ok (.ifCond .eq 15, 3) := by decide +kernel
theorem dX12_move_94 : decode cX12_move 94 = .ok (.aload_n 0, 1) := by decide +kernel
theorem dX12_move_95 : decode cX12_move 95 = .ok (.iload_n 2, 1) := by decide +kernel
theorem dX12_move_96 : decode cX12_move 96 = .ok (.iload_n 3, 1) := by decide +kernel
theorem dX12_move_97 : decode cX12_move 97 = .ok (.bipush 8, 2) := by decide +kernel
theorem dX12_move_99 : decode cX12_move 99 = .ok (.isub, 1) := by decide +kernel
theorem dX12_move_100 : decode cX12_move 100 = .ok (.invokevirtual 436, 3) := by decide +kernel
theorem dX12_move_103 : decode cX12_move 103 = .ok (.goto 5, 3) := by decide +kernel
theorem dX12_move_106 : decode cX12_move 106 = .ok (.bipush (-2), 2) := by decide +kernel
theorem dX12_move_108 : decode cX12_move 108 = .ok (.ireturn, 1) := by decide +kernel

def MVM (j : Nat) (k q : Int) (X : XT) (u : Int) : Prop := (k = -1 ∧ q = 0 ∧ u = X.1 8 (331 * j + 0)) ∨ (¬ (k = -1 ∧ q = 0) ∧ ¬ (0 ≤ k ∧ k < X.1 8 (331 * j + 0)) ∧ u = -2) ∨ (0 ≤ k ∧ k < X.1 8 (331 * j + 0) ∧ ((q = 0 ∧ u = X.1 8 (331 * j + (1 + 11 * k.toNat))) ∨ (q = 1 ∧ u = X.1 8 (331 * j + (2 + 11 * k.toNat))) ∨ (10 ≤ q ∧ q < 10 + X.1 8 (331 * j + (2 + 11 * k.toNat)) ∧ u = X.1 8 (331 * j + (2 + 11 * k.toNat + (q - 9).toNat))) ∨ (q ≠ 0 ∧ q ≠ 1 ∧ ¬ (10 ≤ q ∧ q < 10 + X.1 8 (331 * j + (2 + 11 * k.toNat))) ∧ u = -2)))
abbrev mmMV : List (Nat × Option Nat) := [(0, some 0), (0, some 59)]
set_option maxHeartbeats 4000000 in
set_option maxRecDepth 100000 in
theorem q_moves0 {D : va_G} {ad : Nat → Nat} {cA : Nat → ClassId} {X : XT} (hg : X.1 0 59 = 0) (hH : HG vM X) : MetX (wM D ad cA) yX12_moves cX12_moves 1 (some .int) 0 0 [.ref 0] X (fun r X' => X' = X ∧ ∃ u : Int, r = some (.int (iI u)) ∧ u = X.1 8 0 ∧ -1 ≤ u ∧ u ≤ 35) := by
  refine MetX.mk (own := RX12) (by decide +kernel) rfl (nle rfl) (fun E C hQ => ?_)
  refine Wx_lv (lv' := [(0, .ref 0)]) rfl ?_
  refine x_aload_n (i := 0) C dX12_moves_0 rfl rfl ?_
  refine x_getRs (r := 8) C fkM_X12_32 (nlt rfl) rfl (HG.rR hH (k := 0) (i := 8) rfl rfl) dX12_moves_1 ?_
  refine x_sipush C dX12_moves_4 (by decide) ?_
  refine x_aload_n (i := 0) C dX12_moves_7 rfl rfl ?_
  refine x_getI C fkM_X12_430 (nlt rfl) rfl dX12_moves_8 ?_
  refine x_gen (fun v1 ev1 => ?_)
  have qv1 : (0 : Int) ≤ v1 ∧ v1 ≤ (1 : Int) := by
    rw [ev1]
    exact hH.rF (k := 0) (i := 59) rfl rfl
  have gmv1 : v1 = 0 := by rw [ev1]; exact hg
  refine x_imul C dX12_moves_11 ?_
  refine x_iald C (nlt rfl) rfl rfl (nle rfl) (by omega) (by omega) dX12_moves_12 ?_
  refine x_gen (fun v2 ev2 => ?_)
  have qv2 : ((-1) : Int) ≤ v2 ∧ v2 ≤ (35 : Int) := by
    rw [ev2]
    exact hH.rA (k := 8) (n := 2648) (p := ((-1), 35)) (nlt rfl) rfl (by decide +kernel) (by omega)
  exact x_iret C hQ dX12_moves_13 (⟨rfl, _, rfl, by rw [ev2, show (331 * v1).toNat = 0 by omega], by omega, by omega⟩)
set_option maxHeartbeats 4000000 in
set_option maxRecDepth 100000 in
theorem q_moveOf0 {D : va_G} {ad : Nat → Nat} {cA : Nat → ClassId} {X : XT} {k q : Int} (k0 : 0 ≤ k ∧ k ≤ 29) (q0 : 0 ≤ q ∧ q ≤ 10) (hg : X.1 0 59 = 0) (hH : HG vM X) : MetX (wM D ad cA) yX12_moveOf cX12_moveOf 3 (some .int) 0 0 [.ref 0, .int (iI (k)), .int (iI (q))] X (fun r X' => X' = X ∧ ∃ u : Int, r = some (.int (iI u)) ∧ u = X.1 8 (0 + (1 + 11 * k.toNat + q.toNat)) ∧ -1 ≤ u ∧ u ≤ 35) := by
  refine MetX.mk (own := RX12) (by decide +kernel) rfl (nle rfl) (fun E C hQ => ?_)
  refine Wx_lv (lv' := [(0, .ref 0), (1, .int (iI (k))), (2, .int (iI (q)))]) rfl ?_
  refine x_aload_n (i := 0) C dX12_moveOf_0 rfl rfl ?_
  refine x_getRs (r := 8) C fkM_X12_32 (nlt rfl) rfl (HG.rR hH (k := 0) (i := 8) rfl rfl) dX12_moveOf_1 ?_
  refine x_sipush C dX12_moveOf_4 (by decide) ?_
  refine x_aload_n (i := 0) C dX12_moveOf_7 rfl rfl ?_
  refine x_getI C fkM_X12_430 (nlt rfl) rfl dX12_moveOf_8 ?_
  refine x_gen (fun v1 ev1 => ?_)
  have qv1 : (0 : Int) ≤ v1 ∧ v1 ≤ (1 : Int) := by
    rw [ev1]
    exact hH.rF (k := 0) (i := 59) rfl rfl
  have gmv1 : v1 = 0 := by rw [ev1]; exact hg
  refine x_imul C dX12_moveOf_11 ?_
  refine x_iconst C dX12_moveOf_12 ?_
  refine x_iadd C dX12_moveOf_13 ?_
  refine x_bipush C dX12_moveOf_14 (by decide) ?_
  refine x_iload_n (i := 1) C dX12_moveOf_16 rfl rfl ?_
  refine x_imul C dX12_moveOf_17 ?_
  refine x_iadd C dX12_moveOf_18 ?_
  refine x_iload_n (i := 2) C dX12_moveOf_19 rfl rfl ?_
  refine x_iadd C dX12_moveOf_20 ?_
  refine x_iald C (nlt rfl) rfl rfl (nle rfl) (by omega) (by omega) dX12_moveOf_21 ?_
  refine x_gen (fun v2 ev2 => ?_)
  have qv2 : ((-1) : Int) ≤ v2 ∧ v2 ≤ (35 : Int) := by
    rw [ev2]
    exact hH.rA (k := 8) (n := 2648) (p := ((-1), 35)) (nlt rfl) rfl (by decide +kernel) (by omega)
  exact x_iret C hQ dX12_moveOf_22 (⟨rfl, _, rfl, by rw [ev2]; exact congrArg (X.1 8) (by omega), by omega, by omega⟩)
set_option maxHeartbeats 4000000 in
set_option maxRecDepth 100000 in
theorem q_moves1 {D : va_G} {ad : Nat → Nat} {cA : Nat → ClassId} {X : XT} (hg : X.1 0 59 = 1) (hH : HG vM X) : MetX (wM D ad cA) yX12_moves cX12_moves 1 (some .int) 0 0 [.ref 0] X (fun r X' => X' = X ∧ ∃ u : Int, r = some (.int (iI u)) ∧ u = X.1 8 331 ∧ -1 ≤ u ∧ u ≤ 35) := by
  refine MetX.mk (own := RX12) (by decide +kernel) rfl (nle rfl) (fun E C hQ => ?_)
  refine Wx_lv (lv' := [(0, .ref 0)]) rfl ?_
  refine x_aload_n (i := 0) C dX12_moves_0 rfl rfl ?_
  refine x_getRs (r := 8) C fkM_X12_32 (nlt rfl) rfl (HG.rR hH (k := 0) (i := 8) rfl rfl) dX12_moves_1 ?_
  refine x_sipush C dX12_moves_4 (by decide) ?_
  refine x_aload_n (i := 0) C dX12_moves_7 rfl rfl ?_
  refine x_getI C fkM_X12_430 (nlt rfl) rfl dX12_moves_8 ?_
  refine x_gen (fun v1 ev1 => ?_)
  have qv1 : (0 : Int) ≤ v1 ∧ v1 ≤ (1 : Int) := by
    rw [ev1]
    exact hH.rF (k := 0) (i := 59) rfl rfl
  have gmv1 : v1 = 1 := by rw [ev1]; exact hg
  refine x_imul C dX12_moves_11 ?_
  refine x_iald C (nlt rfl) rfl rfl (nle rfl) (by omega) (by omega) dX12_moves_12 ?_
  refine x_gen (fun v2 ev2 => ?_)
  have qv2 : ((-1) : Int) ≤ v2 ∧ v2 ≤ (35 : Int) := by
    rw [ev2]
    exact hH.rA (k := 8) (n := 2648) (p := ((-1), 35)) (nlt rfl) rfl (by decide +kernel) (by omega)
  exact x_iret C hQ dX12_moves_13 (⟨rfl, _, rfl, by rw [ev2, show (331 * v1).toNat = 331 by omega], by omega, by omega⟩)
set_option maxHeartbeats 4000000 in
set_option maxRecDepth 100000 in
theorem q_moveOf1 {D : va_G} {ad : Nat → Nat} {cA : Nat → ClassId} {X : XT} {k q : Int} (k0 : 0 ≤ k ∧ k ≤ 29) (q0 : 0 ≤ q ∧ q ≤ 10) (hg : X.1 0 59 = 1) (hH : HG vM X) : MetX (wM D ad cA) yX12_moveOf cX12_moveOf 3 (some .int) 0 0 [.ref 0, .int (iI (k)), .int (iI (q))] X (fun r X' => X' = X ∧ ∃ u : Int, r = some (.int (iI u)) ∧ u = X.1 8 (331 + (1 + 11 * k.toNat + q.toNat)) ∧ -1 ≤ u ∧ u ≤ 35) := by
  refine MetX.mk (own := RX12) (by decide +kernel) rfl (nle rfl) (fun E C hQ => ?_)
  refine Wx_lv (lv' := [(0, .ref 0), (1, .int (iI (k))), (2, .int (iI (q)))]) rfl ?_
  refine x_aload_n (i := 0) C dX12_moveOf_0 rfl rfl ?_
  refine x_getRs (r := 8) C fkM_X12_32 (nlt rfl) rfl (HG.rR hH (k := 0) (i := 8) rfl rfl) dX12_moveOf_1 ?_
  refine x_sipush C dX12_moveOf_4 (by decide) ?_
  refine x_aload_n (i := 0) C dX12_moveOf_7 rfl rfl ?_
  refine x_getI C fkM_X12_430 (nlt rfl) rfl dX12_moveOf_8 ?_
  refine x_gen (fun v1 ev1 => ?_)
  have qv1 : (0 : Int) ≤ v1 ∧ v1 ≤ (1 : Int) := by
    rw [ev1]
    exact hH.rF (k := 0) (i := 59) rfl rfl
  have gmv1 : v1 = 1 := by rw [ev1]; exact hg
  refine x_imul C dX12_moveOf_11 ?_
  refine x_iconst C dX12_moveOf_12 ?_
  refine x_iadd C dX12_moveOf_13 ?_
  refine x_bipush C dX12_moveOf_14 (by decide) ?_
  refine x_iload_n (i := 1) C dX12_moveOf_16 rfl rfl ?_
  refine x_imul C dX12_moveOf_17 ?_
  refine x_iadd C dX12_moveOf_18 ?_
  refine x_iload_n (i := 2) C dX12_moveOf_19 rfl rfl ?_
  refine x_iadd C dX12_moveOf_20 ?_
  refine x_iald C (nlt rfl) rfl rfl (nle rfl) (by omega) (by omega) dX12_moveOf_21 ?_
  refine x_gen (fun v2 ev2 => ?_)
  have qv2 : ((-1) : Int) ≤ v2 ∧ v2 ≤ (35 : Int) := by
    rw [ev2]
    exact hH.rA (k := 8) (n := 2648) (p := ((-1), 35)) (nlt rfl) rfl (by decide +kernel) (by omega)
  exact x_iret C hQ dX12_moveOf_22 (⟨rfl, _, rfl, by rw [ev2]; exact congrArg (X.1 8) (by omega), by omega, by omega⟩)
set_option maxHeartbeats 4000000 in
set_option maxRecDepth 100000 in
theorem r_move0 {D : va_G} {ad : Nat → Nat} {cA : Nat → ClassId} {X : XT} {k q : Int} (kk : inR k) (qq : inR q) (hc : 0 < X.1 5 2) (hm : X.1 8 (331 * 0 + 0) ≤ 30) (hl : ∀ k : Nat, (k : Int) < X.1 8 (331 * 0 + 0) → X.1 8 (331 * 0 + (2 + 11 * k)) ≤ 9) (hH : HG vM X) (hF : FR mmMV X X) : MetX (wM D ad cA) yX12_move cX12_move 4 (some .int) 2 44 [.ref 0, .int (iI (0)), .int (iI (k)), .int (iI (q))] X (fun r X1 => HG vM X1 ∧ FR mmMV X X1 ∧ ∃ u : Int, r = some (.int (iI u)) ∧ inR u ∧ MVM 0 k q X u) := by
  unfold inR at kk qq
  refine MetX.mk (own := RX12) (by decide +kernel) rfl (nle rfl) (fun E C hQ => ?_)
  refine Wx_lv (lv' := [(0, .ref 0), (1, .int (iI (0))), (2, .int (iI (k))), (3, .int (iI (q)))]) rfl ?_
  refine x_aload_n (i := 0) C dX12_move_0 rfl rfl ?_
  refine x_iconst C dX12_move_1 ?_
  refine x_putI C pkM_X12_157 (nlt rfl) rfl dX12_move_2 ?_
  refine x_gX (fun Yy1 eYy1 => ?_)
  have hHy1 : HG vM Yy1 := by
    rw [eYy1]
    exact hg_wF hH (p := ((-2147483648), 2147483647)) rfl ⟨by omega, by omega⟩
  have hFy1 : FR mmMV X Yy1 := by
    rw [eYy1]
    exact FR.upI hF (rfl)
  refine x_aload_n (i := 0) C dX12_move_5 rfl rfl ?_
  refine x_iconst C dX12_move_6 ?_
  refine x_iload_n (i := 1) C dX12_move_7 rfl rfl ?_
  refine x_callV (As := [.int (iI (2)), .int (iI (0))]) C (by exact (r_is2 (k := 0) ⟨by omega, by omega⟩ hHy1)) ckX12_268 im_X12_is se_X12_is (nlt rfl) rfl rfl rfl rfl (nle rfl) (by exact ⟨nle rfl, nle rfl⟩) dX12_move_8 ?_
  rintro _ Xv2 ⟨hxv2, v2, rfl, isv2⟩
  rw [hxv2]
  have myv2 : Yy1.1 5 2 = X.1 5 2 := by rw [eYy1, upI_nc (by decide)]
  refine Wx_st (st' := [.int (iI (v2))]) rfl ?_
  refine x_if_ne (tgt := 17) C dX12_move_11 (by decide) ⟨by omega, by omega⟩ (fun h3 => ?_) (fun h3 => by exfalso; omega)
  refine x_aload_n (i := 0) C dX12_move_17 rfl rfl ?_
  refine x_iload_n (i := 1) C dX12_move_18 rfl rfl ?_
  refine x_putI C pkM_X12_430 (nlt rfl) rfl dX12_move_19 ?_
  refine x_gX (fun Yy4 eYy4 => ?_)
  have hHy4 : HG vM Yy4 := by
    rw [eYy4]
    exact hg_wF hHy1 (p := (0, 1)) rfl ⟨by omega, by omega⟩
  have hFy4 : FR mmMV X Yy4 := by
    rw [eYy4]
    exact FR.upI hFy1 (rfl)
  refine x_iload_n (i := 2) C dX12_move_22 rfl rfl ?_
  refine x_iconst C dX12_move_23 ?_
  refine x_icmp_ne (tgt := 41) C dX12_move_24 (by decide) ⟨by omega, by omega⟩ ⟨by omega, by omega⟩ (fun h5 => ?_) (fun h5 => ?_)
  · refine x_iload_n (i := 2) C dX12_move_41 rfl rfl ?_
    refine x_iconst C dX12_move_42 ?_
    refine x_aload_n (i := 0) C dX12_move_43 rfl rfl ?_
    refine x_callV (As := []) C (by exact (q_moves0 (by rw [eYy4, upI_at]) hHy4)) ckX12_433 im_X12_moves se_X12_moves (nlt rfl) rfl rfl rfl rfl (nle rfl) (by exact ⟨nle rfl, nle rfl⟩) dX12_move_44 ?_
    rintro _ Xv6 ⟨hxv6, v6, rfl, ev6, bv6⟩
    rw [hxv6]
    have mvv6 : v6 = X.1 8 (331 * 0 + 0) := by rw [ev6, eYy4, upI_nc (by decide), eYy1, upI_nc (by decide)]
    refine Wx_st (st' := [.int (iI (v6)), .int (iI (0)), .int (iI (k))]) rfl ?_
    refine x_iconst C dX12_move_47 ?_
    refine x_isub C dX12_move_48 ?_
    refine x_callS (As := [.int (iI (k)), .int (iI (0)), .int (iI (v6 - 1))]) C (by exact (q_in (v := k) (a := 0) (b := v6 - 1) ⟨by omega, by omega⟩ ⟨by omega, by omega⟩ ⟨by omega, by omega⟩)) ckX12_165 sm_X12_in rfl rfl (nle rfl) (by exact ⟨nle rfl, nle rfl⟩) dX12_move_49 ?_
    rintro _ Xv7 ⟨hxv7, v7, rfl, ev7⟩
    rw [hxv7]
    refine Wx_st (st' := [.int (iI (v7))]) rfl ?_
    refine x_if_ne (tgt := 58) C dX12_move_52 (by decide) ⟨by omega, by omega⟩ (fun h8 => ?_) (fun h8 => ?_)
    · refine x_iload_n (i := 3) C dX12_move_58 rfl rfl ?_
      refine x_iconst C dX12_move_59 ?_
      refine x_iconst C dX12_move_60 ?_
      refine x_callS (As := [.int (iI (q)), .int (iI (0)), .int (iI (1))]) C (by exact (q_in (v := q) (a := 0) (b := 1) ⟨by omega, by omega⟩ ⟨by omega, by omega⟩ ⟨by omega, by omega⟩)) ckX12_165 sm_X12_in rfl rfl (nle rfl) (by exact ⟨nle rfl, nle rfl⟩) dX12_move_61 ?_
      rintro _ Xv9 ⟨hxv9, v9, rfl, ev9⟩
      rw [hxv9]
      refine Wx_st (st' := [.int (iI (v9))]) rfl ?_
      refine x_if_eq (tgt := 76) C dX12_move_64 (by decide) ⟨by omega, by omega⟩ (fun h10 => ?_) (fun h10 => ?_)
      · refine x_iload_n (i := 3) C dX12_move_76 rfl rfl ?_
        refine x_bipush C dX12_move_77 (by decide) ?_
        refine x_bipush C dX12_move_79 (by decide) ?_
        refine x_aload_n (i := 0) C dX12_move_81 rfl rfl ?_
        refine x_iload_n (i := 2) C dX12_move_82 rfl rfl ?_
        refine x_iconst C dX12_move_83 ?_
        refine x_callV (As := [.int (iI (k)), .int (iI (1))]) C (by exact (q_moveOf0 (k := k) (q := 1) (by omega) (by omega) (by rw [eYy4, upI_at]) hHy4)) ckX12_436 im_X12_moveOf se_X12_moveOf (nlt rfl) rfl rfl rfl rfl (nle rfl) (by exact ⟨nle rfl, nle rfl⟩) dX12_move_84 ?_
        rintro _ Xv11 ⟨hxv11, v11, rfl, ev11, bv11⟩
        rw [hxv11]
        rw [eYy4, upI_nc (by decide), eYy1, upI_nc (by decide)] at ev11
        have fnv11 : v11 = X.1 8 (331 * 0 + (2 + 11 * k.toNat)) := by rw [ev11]; exact congrArg (X.1 8) (by omega)
        have lbv11 : v11 ≤ 9 := by rw [fnv11]; exact hl k.toNat (by omega)
        refine Wx_st (st' := [.int (iI (v11)), .int (iI (9)), .int (iI (10)), .int (iI (q))]) rfl ?_
        refine x_iadd C dX12_move_87 ?_
        refine x_callS (As := [.int (iI (q)), .int (iI (10)), .int (iI (9 + v11))]) C (by exact (q_in (v := q) (a := 10) (b := 9 + v11) ⟨by omega, by omega⟩ ⟨by omega, by omega⟩ ⟨by omega, by omega⟩)) ckX12_165 sm_X12_in rfl rfl (nle rfl) (by exact ⟨nle rfl, nle rfl⟩) dX12_move_88 ?_
        rintro _ Xv12 ⟨hxv12, v12, rfl, ev12⟩
        rw [hxv12]
        refine Wx_st (st' := [.int (iI (v12))]) rfl ?_
        refine x_if_eq (tgt := 106) C dX12_move_91 (by decide) ⟨by omega, by omega⟩ (fun h13 => ?_) (fun h13 => ?_)
        · refine x_bipush C dX12_move_106 (by decide) ?_
          exact x_iret C hQ dX12_move_108 (⟨hHy4, hFy4, _, rfl, ⟨by omega, by omega⟩, by first | exact .inl ⟨by omega, by omega, by omega⟩ | exact .inr (.inl ⟨by omega, by omega, by omega⟩) | exact .inr (.inr ⟨by omega, by omega, .inr (.inr (.inl ⟨by omega, by omega, by omega⟩))⟩) | exact .inr (.inr ⟨by omega, by omega, .inr (.inr (.inr ⟨by omega, by omega, by omega, by omega⟩))⟩)⟩)
        · refine x_aload_n (i := 0) C dX12_move_94 rfl rfl ?_
          refine x_iload_n (i := 2) C dX12_move_95 rfl rfl ?_
          refine x_iload_n (i := 3) C dX12_move_96 rfl rfl ?_
          refine x_bipush C dX12_move_97 (by decide) ?_
          refine x_isub C dX12_move_99 ?_
          refine x_callV (As := [.int (iI (k)), .int (iI (q - 8))]) C (by exact (q_moveOf0 (k := k) (q := q - 8) (by omega) (by omega) (by rw [eYy4, upI_at]) hHy4)) ckX12_436 im_X12_moveOf se_X12_moveOf (nlt rfl) rfl rfl rfl rfl (nle rfl) (by exact ⟨nle rfl, nle rfl⟩) dX12_move_100 ?_
          rintro _ Xv14 ⟨hxv14, v14, rfl, ev14, bv14⟩
          rw [hxv14]
          rw [eYy4, upI_nc (by decide), eYy1, upI_nc (by decide)] at ev14
          have fnv14 : v14 = X.1 8 (331 * 0 + (2 + 11 * k.toNat + (q - 9).toNat)) := by rw [ev14]; exact congrArg (X.1 8) (by omega)
          refine Wx_st (st' := [.int (iI (v14))]) rfl ?_
          refine x_goto (tgt := 108) C dX12_move_103 (by decide) ?_
          exact x_iret C hQ dX12_move_108 (⟨hHy4, hFy4, _, rfl, ⟨by omega, by omega⟩, by first | exact .inl ⟨by omega, by omega, by omega⟩ | exact .inr (.inl ⟨by omega, by omega, by omega⟩) | exact .inr (.inr ⟨by omega, by omega, .inr (.inr (.inl ⟨by omega, by omega, by omega⟩))⟩) | exact .inr (.inr ⟨by omega, by omega, .inr (.inr (.inr ⟨by omega, by omega, by omega, by omega⟩))⟩)⟩)
      · refine x_aload_n (i := 0) C dX12_move_67 rfl rfl ?_
        refine x_iload_n (i := 2) C dX12_move_68 rfl rfl ?_
        refine x_iload_n (i := 3) C dX12_move_69 rfl rfl ?_
        refine x_callV (As := [.int (iI (k)), .int (iI (q))]) C (by exact (q_moveOf0 (k := k) (q := q) (by omega) (by omega) (by rw [eYy4, upI_at]) hHy4)) ckX12_436 im_X12_moveOf se_X12_moveOf (nlt rfl) rfl rfl rfl rfl (nle rfl) (by exact ⟨nle rfl, nle rfl⟩) dX12_move_70 ?_
        rintro _ Xv15 ⟨hxv15, v15, rfl, ev15, bv15⟩
        rw [hxv15]
        rw [eYy4, upI_nc (by decide), eYy1, upI_nc (by decide)] at ev15
        have fav15 : q = 0 → v15 = X.1 8 (331 * 0 + (1 + 11 * k.toNat)) := fun q0 => by rw [ev15]; exact congrArg (X.1 8) (by omega)
        have fbv15 : q = 1 → v15 = X.1 8 (331 * 0 + (2 + 11 * k.toNat)) := fun q0 => by rw [ev15]; exact congrArg (X.1 8) (by omega)
        refine Wx_st (st' := [.int (iI (v15))]) rfl ?_
        refine x_goto (tgt := 108) C dX12_move_73 (by decide) ?_
        exact x_iret C hQ dX12_move_108 (⟨hHy4, hFy4, _, rfl, ⟨by omega, by omega⟩, .inr (.inr ⟨by omega, by omega, by rcases (show q = 0 ∨ q = 1 by omega) with q0 | q0; exact .inl ⟨q0, fav15 q0⟩; exact .inr (.inl ⟨q0, fbv15 q0⟩)⟩)⟩)
    · refine x_bipush C dX12_move_55 (by decide) ?_
      exact x_iret C hQ dX12_move_57 (⟨hHy4, hFy4, _, rfl, ⟨by omega, by omega⟩, by first | exact .inl ⟨by omega, by omega, by omega⟩ | exact .inr (.inl ⟨by omega, by omega, by omega⟩) | exact .inr (.inr ⟨by omega, by omega, .inr (.inr (.inl ⟨by omega, by omega, by omega⟩))⟩) | exact .inr (.inr ⟨by omega, by omega, .inr (.inr (.inr ⟨by omega, by omega, by omega, by omega⟩))⟩)⟩)
  · refine x_iload_n (i := 3) C dX12_move_27 rfl rfl ?_
    refine x_if_ne (tgt := 38) C dX12_move_28 (by decide) ⟨by omega, by omega⟩ (fun h16 => ?_) (fun h16 => ?_)
    · refine x_bipush C dX12_move_38 (by decide) ?_
      exact x_iret C hQ dX12_move_40 (⟨hHy4, hFy4, _, rfl, ⟨by omega, by omega⟩, by first | exact .inl ⟨by omega, by omega, by omega⟩ | exact .inr (.inl ⟨by omega, by omega, by omega⟩) | exact .inr (.inr ⟨by omega, by omega, .inr (.inr (.inl ⟨by omega, by omega, by omega⟩))⟩) | exact .inr (.inr ⟨by omega, by omega, .inr (.inr (.inr ⟨by omega, by omega, by omega, by omega⟩))⟩)⟩)
    · refine x_aload_n (i := 0) C dX12_move_31 rfl rfl ?_
      refine x_callV (As := []) C (by exact (q_moves0 (by rw [eYy4, upI_at]) hHy4)) ckX12_433 im_X12_moves se_X12_moves (nlt rfl) rfl rfl rfl rfl (nle rfl) (by exact ⟨nle rfl, nle rfl⟩) dX12_move_32 ?_
      rintro _ Xv17 ⟨hxv17, v17, rfl, ev17, bv17⟩
      rw [hxv17]
      have mvv17 : v17 = X.1 8 (331 * 0 + 0) := by rw [ev17, eYy4, upI_nc (by decide), eYy1, upI_nc (by decide)]
      refine Wx_st (st' := [.int (iI (v17))]) rfl ?_
      refine x_goto (tgt := 40) C dX12_move_35 (by decide) ?_
      exact x_iret C hQ dX12_move_40 (⟨hHy4, hFy4, _, rfl, ⟨by omega, by omega⟩, by first | exact .inl ⟨by omega, by omega, by omega⟩ | exact .inr (.inl ⟨by omega, by omega, by omega⟩) | exact .inr (.inr ⟨by omega, by omega, .inr (.inr (.inl ⟨by omega, by omega, by omega⟩))⟩) | exact .inr (.inr ⟨by omega, by omega, .inr (.inr (.inr ⟨by omega, by omega, by omega, by omega⟩))⟩)⟩)
set_option maxHeartbeats 4000000 in
set_option maxRecDepth 100000 in
theorem r_move1 {D : va_G} {ad : Nat → Nat} {cA : Nat → ClassId} {X : XT} {k q : Int} (kk : inR k) (qq : inR q) (hc : 1 < X.1 5 2) (hm : X.1 8 (331 * 1 + 0) ≤ 30) (hl : ∀ k : Nat, (k : Int) < X.1 8 (331 * 1 + 0) → X.1 8 (331 * 1 + (2 + 11 * k)) ≤ 9) (hH : HG vM X) (hF : FR mmMV X X) : MetX (wM D ad cA) yX12_move cX12_move 4 (some .int) 2 44 [.ref 0, .int (iI (1)), .int (iI (k)), .int (iI (q))] X (fun r X1 => HG vM X1 ∧ FR mmMV X X1 ∧ ∃ u : Int, r = some (.int (iI u)) ∧ inR u ∧ MVM 1 k q X u) := by
  unfold inR at kk qq
  refine MetX.mk (own := RX12) (by decide +kernel) rfl (nle rfl) (fun E C hQ => ?_)
  refine Wx_lv (lv' := [(0, .ref 0), (1, .int (iI (1))), (2, .int (iI (k))), (3, .int (iI (q)))]) rfl ?_
  refine x_aload_n (i := 0) C dX12_move_0 rfl rfl ?_
  refine x_iconst C dX12_move_1 ?_
  refine x_putI C pkM_X12_157 (nlt rfl) rfl dX12_move_2 ?_
  refine x_gX (fun Yy1 eYy1 => ?_)
  have hHy1 : HG vM Yy1 := by
    rw [eYy1]
    exact hg_wF hH (p := ((-2147483648), 2147483647)) rfl ⟨by omega, by omega⟩
  have hFy1 : FR mmMV X Yy1 := by
    rw [eYy1]
    exact FR.upI hF (rfl)
  refine x_aload_n (i := 0) C dX12_move_5 rfl rfl ?_
  refine x_iconst C dX12_move_6 ?_
  refine x_iload_n (i := 1) C dX12_move_7 rfl rfl ?_
  refine x_callV (As := [.int (iI (2)), .int (iI (1))]) C (by exact (r_is2 (k := 1) ⟨by omega, by omega⟩ hHy1)) ckX12_268 im_X12_is se_X12_is (nlt rfl) rfl rfl rfl rfl (nle rfl) (by exact ⟨nle rfl, nle rfl⟩) dX12_move_8 ?_
  rintro _ Xv2 ⟨hxv2, v2, rfl, isv2⟩
  rw [hxv2]
  have myv2 : Yy1.1 5 2 = X.1 5 2 := by rw [eYy1, upI_nc (by decide)]
  refine Wx_st (st' := [.int (iI (v2))]) rfl ?_
  refine x_if_ne (tgt := 17) C dX12_move_11 (by decide) ⟨by omega, by omega⟩ (fun h3 => ?_) (fun h3 => by exfalso; omega)
  refine x_aload_n (i := 0) C dX12_move_17 rfl rfl ?_
  refine x_iload_n (i := 1) C dX12_move_18 rfl rfl ?_
  refine x_putI C pkM_X12_430 (nlt rfl) rfl dX12_move_19 ?_
  refine x_gX (fun Yy4 eYy4 => ?_)
  have hHy4 : HG vM Yy4 := by
    rw [eYy4]
    exact hg_wF hHy1 (p := (0, 1)) rfl ⟨by omega, by omega⟩
  have hFy4 : FR mmMV X Yy4 := by
    rw [eYy4]
    exact FR.upI hFy1 (rfl)
  refine x_iload_n (i := 2) C dX12_move_22 rfl rfl ?_
  refine x_iconst C dX12_move_23 ?_
  refine x_icmp_ne (tgt := 41) C dX12_move_24 (by decide) ⟨by omega, by omega⟩ ⟨by omega, by omega⟩ (fun h5 => ?_) (fun h5 => ?_)
  · refine x_iload_n (i := 2) C dX12_move_41 rfl rfl ?_
    refine x_iconst C dX12_move_42 ?_
    refine x_aload_n (i := 0) C dX12_move_43 rfl rfl ?_
    refine x_callV (As := []) C (by exact (q_moves1 (by rw [eYy4, upI_at]) hHy4)) ckX12_433 im_X12_moves se_X12_moves (nlt rfl) rfl rfl rfl rfl (nle rfl) (by exact ⟨nle rfl, nle rfl⟩) dX12_move_44 ?_
    rintro _ Xv6 ⟨hxv6, v6, rfl, ev6, bv6⟩
    rw [hxv6]
    have mvv6 : v6 = X.1 8 (331 * 1 + 0) := by rw [ev6, eYy4, upI_nc (by decide), eYy1, upI_nc (by decide)]
    refine Wx_st (st' := [.int (iI (v6)), .int (iI (0)), .int (iI (k))]) rfl ?_
    refine x_iconst C dX12_move_47 ?_
    refine x_isub C dX12_move_48 ?_
    refine x_callS (As := [.int (iI (k)), .int (iI (0)), .int (iI (v6 - 1))]) C (by exact (q_in (v := k) (a := 0) (b := v6 - 1) ⟨by omega, by omega⟩ ⟨by omega, by omega⟩ ⟨by omega, by omega⟩)) ckX12_165 sm_X12_in rfl rfl (nle rfl) (by exact ⟨nle rfl, nle rfl⟩) dX12_move_49 ?_
    rintro _ Xv7 ⟨hxv7, v7, rfl, ev7⟩
    rw [hxv7]
    refine Wx_st (st' := [.int (iI (v7))]) rfl ?_
    refine x_if_ne (tgt := 58) C dX12_move_52 (by decide) ⟨by omega, by omega⟩ (fun h8 => ?_) (fun h8 => ?_)
    · refine x_iload_n (i := 3) C dX12_move_58 rfl rfl ?_
      refine x_iconst C dX12_move_59 ?_
      refine x_iconst C dX12_move_60 ?_
      refine x_callS (As := [.int (iI (q)), .int (iI (0)), .int (iI (1))]) C (by exact (q_in (v := q) (a := 0) (b := 1) ⟨by omega, by omega⟩ ⟨by omega, by omega⟩ ⟨by omega, by omega⟩)) ckX12_165 sm_X12_in rfl rfl (nle rfl) (by exact ⟨nle rfl, nle rfl⟩) dX12_move_61 ?_
      rintro _ Xv9 ⟨hxv9, v9, rfl, ev9⟩
      rw [hxv9]
      refine Wx_st (st' := [.int (iI (v9))]) rfl ?_
      refine x_if_eq (tgt := 76) C dX12_move_64 (by decide) ⟨by omega, by omega⟩ (fun h10 => ?_) (fun h10 => ?_)
      · refine x_iload_n (i := 3) C dX12_move_76 rfl rfl ?_
        refine x_bipush C dX12_move_77 (by decide) ?_
        refine x_bipush C dX12_move_79 (by decide) ?_
        refine x_aload_n (i := 0) C dX12_move_81 rfl rfl ?_
        refine x_iload_n (i := 2) C dX12_move_82 rfl rfl ?_
        refine x_iconst C dX12_move_83 ?_
        refine x_callV (As := [.int (iI (k)), .int (iI (1))]) C (by exact (q_moveOf1 (k := k) (q := 1) (by omega) (by omega) (by rw [eYy4, upI_at]) hHy4)) ckX12_436 im_X12_moveOf se_X12_moveOf (nlt rfl) rfl rfl rfl rfl (nle rfl) (by exact ⟨nle rfl, nle rfl⟩) dX12_move_84 ?_
        rintro _ Xv11 ⟨hxv11, v11, rfl, ev11, bv11⟩
        rw [hxv11]
        rw [eYy4, upI_nc (by decide), eYy1, upI_nc (by decide)] at ev11
        have fnv11 : v11 = X.1 8 (331 * 1 + (2 + 11 * k.toNat)) := by rw [ev11]; exact congrArg (X.1 8) (by omega)
        have lbv11 : v11 ≤ 9 := by rw [fnv11]; exact hl k.toNat (by omega)
        refine Wx_st (st' := [.int (iI (v11)), .int (iI (9)), .int (iI (10)), .int (iI (q))]) rfl ?_
        refine x_iadd C dX12_move_87 ?_
        refine x_callS (As := [.int (iI (q)), .int (iI (10)), .int (iI (9 + v11))]) C (by exact (q_in (v := q) (a := 10) (b := 9 + v11) ⟨by omega, by omega⟩ ⟨by omega, by omega⟩ ⟨by omega, by omega⟩)) ckX12_165 sm_X12_in rfl rfl (nle rfl) (by exact ⟨nle rfl, nle rfl⟩) dX12_move_88 ?_
        rintro _ Xv12 ⟨hxv12, v12, rfl, ev12⟩
        rw [hxv12]
        refine Wx_st (st' := [.int (iI (v12))]) rfl ?_
        refine x_if_eq (tgt := 106) C dX12_move_91 (by decide) ⟨by omega, by omega⟩ (fun h13 => ?_) (fun h13 => ?_)
        · refine x_bipush C dX12_move_106 (by decide) ?_
          exact x_iret C hQ dX12_move_108 (⟨hHy4, hFy4, _, rfl, ⟨by omega, by omega⟩, by first | exact .inl ⟨by omega, by omega, by omega⟩ | exact .inr (.inl ⟨by omega, by omega, by omega⟩) | exact .inr (.inr ⟨by omega, by omega, .inr (.inr (.inl ⟨by omega, by omega, by omega⟩))⟩) | exact .inr (.inr ⟨by omega, by omega, .inr (.inr (.inr ⟨by omega, by omega, by omega, by omega⟩))⟩)⟩)
        · refine x_aload_n (i := 0) C dX12_move_94 rfl rfl ?_
          refine x_iload_n (i := 2) C dX12_move_95 rfl rfl ?_
          refine x_iload_n (i := 3) C dX12_move_96 rfl rfl ?_
          refine x_bipush C dX12_move_97 (by decide) ?_
          refine x_isub C dX12_move_99 ?_
          refine x_callV (As := [.int (iI (k)), .int (iI (q - 8))]) C (by exact (q_moveOf1 (k := k) (q := q - 8) (by omega) (by omega) (by rw [eYy4, upI_at]) hHy4)) ckX12_436 im_X12_moveOf se_X12_moveOf (nlt rfl) rfl rfl rfl rfl (nle rfl) (by exact ⟨nle rfl, nle rfl⟩) dX12_move_100 ?_
          rintro _ Xv14 ⟨hxv14, v14, rfl, ev14, bv14⟩
          rw [hxv14]
          rw [eYy4, upI_nc (by decide), eYy1, upI_nc (by decide)] at ev14
          have fnv14 : v14 = X.1 8 (331 * 1 + (2 + 11 * k.toNat + (q - 9).toNat)) := by rw [ev14]; exact congrArg (X.1 8) (by omega)
          refine Wx_st (st' := [.int (iI (v14))]) rfl ?_
          refine x_goto (tgt := 108) C dX12_move_103 (by decide) ?_
          exact x_iret C hQ dX12_move_108 (⟨hHy4, hFy4, _, rfl, ⟨by omega, by omega⟩, by first | exact .inl ⟨by omega, by omega, by omega⟩ | exact .inr (.inl ⟨by omega, by omega, by omega⟩) | exact .inr (.inr ⟨by omega, by omega, .inr (.inr (.inl ⟨by omega, by omega, by omega⟩))⟩) | exact .inr (.inr ⟨by omega, by omega, .inr (.inr (.inr ⟨by omega, by omega, by omega, by omega⟩))⟩)⟩)
      · refine x_aload_n (i := 0) C dX12_move_67 rfl rfl ?_
        refine x_iload_n (i := 2) C dX12_move_68 rfl rfl ?_
        refine x_iload_n (i := 3) C dX12_move_69 rfl rfl ?_
        refine x_callV (As := [.int (iI (k)), .int (iI (q))]) C (by exact (q_moveOf1 (k := k) (q := q) (by omega) (by omega) (by rw [eYy4, upI_at]) hHy4)) ckX12_436 im_X12_moveOf se_X12_moveOf (nlt rfl) rfl rfl rfl rfl (nle rfl) (by exact ⟨nle rfl, nle rfl⟩) dX12_move_70 ?_
        rintro _ Xv15 ⟨hxv15, v15, rfl, ev15, bv15⟩
        rw [hxv15]
        rw [eYy4, upI_nc (by decide), eYy1, upI_nc (by decide)] at ev15
        have fav15 : q = 0 → v15 = X.1 8 (331 * 1 + (1 + 11 * k.toNat)) := fun q0 => by rw [ev15]; exact congrArg (X.1 8) (by omega)
        have fbv15 : q = 1 → v15 = X.1 8 (331 * 1 + (2 + 11 * k.toNat)) := fun q0 => by rw [ev15]; exact congrArg (X.1 8) (by omega)
        refine Wx_st (st' := [.int (iI (v15))]) rfl ?_
        refine x_goto (tgt := 108) C dX12_move_73 (by decide) ?_
        exact x_iret C hQ dX12_move_108 (⟨hHy4, hFy4, _, rfl, ⟨by omega, by omega⟩, .inr (.inr ⟨by omega, by omega, by rcases (show q = 0 ∨ q = 1 by omega) with q0 | q0; exact .inl ⟨q0, fav15 q0⟩; exact .inr (.inl ⟨q0, fbv15 q0⟩)⟩)⟩)
    · refine x_bipush C dX12_move_55 (by decide) ?_
      exact x_iret C hQ dX12_move_57 (⟨hHy4, hFy4, _, rfl, ⟨by omega, by omega⟩, by first | exact .inl ⟨by omega, by omega, by omega⟩ | exact .inr (.inl ⟨by omega, by omega, by omega⟩) | exact .inr (.inr ⟨by omega, by omega, .inr (.inr (.inl ⟨by omega, by omega, by omega⟩))⟩) | exact .inr (.inr ⟨by omega, by omega, .inr (.inr (.inr ⟨by omega, by omega, by omega, by omega⟩))⟩)⟩)
  · refine x_iload_n (i := 3) C dX12_move_27 rfl rfl ?_
    refine x_if_ne (tgt := 38) C dX12_move_28 (by decide) ⟨by omega, by omega⟩ (fun h16 => ?_) (fun h16 => ?_)
    · refine x_bipush C dX12_move_38 (by decide) ?_
      exact x_iret C hQ dX12_move_40 (⟨hHy4, hFy4, _, rfl, ⟨by omega, by omega⟩, by first | exact .inl ⟨by omega, by omega, by omega⟩ | exact .inr (.inl ⟨by omega, by omega, by omega⟩) | exact .inr (.inr ⟨by omega, by omega, .inr (.inr (.inl ⟨by omega, by omega, by omega⟩))⟩) | exact .inr (.inr ⟨by omega, by omega, .inr (.inr (.inr ⟨by omega, by omega, by omega, by omega⟩))⟩)⟩)
    · refine x_aload_n (i := 0) C dX12_move_31 rfl rfl ?_
      refine x_callV (As := []) C (by exact (q_moves1 (by rw [eYy4, upI_at]) hHy4)) ckX12_433 im_X12_moves se_X12_moves (nlt rfl) rfl rfl rfl rfl (nle rfl) (by exact ⟨nle rfl, nle rfl⟩) dX12_move_32 ?_
      rintro _ Xv17 ⟨hxv17, v17, rfl, ev17, bv17⟩
      rw [hxv17]
      have mvv17 : v17 = X.1 8 (331 * 1 + 0) := by rw [ev17, eYy4, upI_nc (by decide), eYy1, upI_nc (by decide)]
      refine Wx_st (st' := [.int (iI (v17))]) rfl ?_
      refine x_goto (tgt := 40) C dX12_move_35 (by decide) ?_
      exact x_iret C hQ dX12_move_40 (⟨hHy4, hFy4, _, rfl, ⟨by omega, by omega⟩, by first | exact .inl ⟨by omega, by omega, by omega⟩ | exact .inr (.inl ⟨by omega, by omega, by omega⟩) | exact .inr (.inr ⟨by omega, by omega, .inr (.inr (.inl ⟨by omega, by omega, by omega⟩))⟩) | exact .inr (.inr ⟨by omega, by omega, .inr (.inr (.inr ⟨by omega, by omega, by omega, by omega⟩))⟩)⟩)
set_option maxHeartbeats 4000000 in
set_option maxRecDepth 100000 in
theorem r_moveN {D : va_G} {ad : Nat → Nat} {cA : Nat → ClassId} {X : XT} {n k q : Int} (nn : inR n) (hn : ¬ (0 ≤ n ∧ n < X.1 5 2)) (hH : HG vM X) (hF : FR mmMV X X) : MetX (wM D ad cA) yX12_move cX12_move 4 (some .int) 2 44 [.ref 0, .int (iI (n)), .int (iI (k)), .int (iI (q))] X (fun r X1 => HG vM X1 ∧ FR mmMV X X1 ∧ r = some (.int (iI (-2)))) := by
  unfold inR at nn
  refine MetX.mk (own := RX12) (by decide +kernel) rfl (nle rfl) (fun E C hQ => ?_)
  refine Wx_lv (lv' := [(0, .ref 0), (1, .int (iI (n))), (2, .int (iI (k))), (3, .int (iI (q)))]) rfl ?_
  refine x_aload_n (i := 0) C dX12_move_0 rfl rfl ?_
  refine x_iconst C dX12_move_1 ?_
  refine x_putI C pkM_X12_157 (nlt rfl) rfl dX12_move_2 ?_
  refine x_gX (fun Yy1 eYy1 => ?_)
  have hHy1 : HG vM Yy1 := by
    rw [eYy1]
    exact hg_wF hH (p := ((-2147483648), 2147483647)) rfl ⟨by omega, by omega⟩
  have hFy1 : FR mmMV X Yy1 := by
    rw [eYy1]
    exact FR.upI hF (rfl)
  refine x_aload_n (i := 0) C dX12_move_5 rfl rfl ?_
  refine x_iconst C dX12_move_6 ?_
  refine x_iload_n (i := 1) C dX12_move_7 rfl rfl ?_
  refine x_callV (As := [.int (iI (2)), .int (iI (n))]) C (by exact (r_is2 (k := n) ⟨by omega, by omega⟩ hHy1)) ckX12_268 im_X12_is se_X12_is (nlt rfl) rfl rfl rfl rfl (nle rfl) (by exact ⟨nle rfl, nle rfl⟩) dX12_move_8 ?_
  rintro _ Xv2 ⟨hxv2, v2, rfl, isv2⟩
  rw [hxv2]
  have myv2 : Yy1.1 5 2 = X.1 5 2 := by rw [eYy1, upI_nc (by decide)]
  refine Wx_st (st' := [.int (iI (v2))]) rfl ?_
  refine x_if_ne (tgt := 17) C dX12_move_11 (by decide) ⟨by omega, by omega⟩ (fun h3 => by exfalso; omega) (fun h3 => ?_)
  refine x_bipush C dX12_move_14 (by decide) ?_
  exact x_iret C hQ dX12_move_16 (⟨hHy1, hFy1, rfl⟩)
