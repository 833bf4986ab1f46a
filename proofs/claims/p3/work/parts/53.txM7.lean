/-! ===== the reference: is it a wrong board ===== -/
theorem dX12_isWrongBoard_0 : decode cX12_isWrongBoard 0 = .ok (.aload_n 0, 1) := by decide +kernel
theorem dX12_isWrongBoard_1 : decode cX12_isWrongBoard 1 = .ok (.getfield 223, 3) := by decide +kernel
theorem dX12_isWrongBoard_4 : decode cX12_isWrongBoard 4 = .ok (.aload_n 0, 1) := by decide +kernel
theorem dX12_isWrongBoard_5 : decode cX12_isWrongBoard 5 = .ok (.getfield 35, 3) := by decide +kernel
theorem dX12_isWrongBoard_8 : decode cX12_isWrongBoard 8 = .ok (.iconst 0, 1) := by decide +kernel
theorem dX12_isWrongBoard_9 : decode cX12_isWrongBoard 9 = .ok (.iaload, 1) := by decide +kernel
theorem dX12_isWrongBoard_10 : decode cX12_isWrongBoard 10 = .ok (.aload_n 0, 1) := by decide +kernel
theorem dX12_isWrongBoard_11 : decode cX12_isWrongBoard 11 = .ok (.getfield 35, 3) := by decide +kernel
theorem dX12_isWrongBoard_14 : decode cX12_isWrongBoard 14 = .ok (.iconst 1, 1) := by decide +kernel
theorem dX12_isWrongBoard_15 : decode cX12_isWrongBoard 15 = .ok (.iaload, 1) := by decide +kernel
theorem dX12_isWrongBoard_16 : decode cX12_isWrongBoard 16 = .ok (.imul, 1) := by decide +kernel
theorem dX12_isWrongBoard_17 : decode cX12_isWrongBoard 17 = .ok (.if_icmp .lt 5, 3) := by decide +kernel
theorem dX12_isWrongBoard_20 : decode cX12_isWrongBoard 20 = .ok (.iconst 1, 1) := by decide +kernel
theorem dX12_isWrongBoard_21 : decode cX12_isWrongBoard 21 = .ok (.ireturn, 1) := by decide +kernel
theorem dX12_isWrongBoard_22 : decode cX12_isWrongBoard 22 = .ok (.iconst 0, 1) := by decide +kernel
theorem dX12_isWrongBoard_23 : decode cX12_isWrongBoard 23 = .ok (.istore_n 1, 1) := by decide +kernel
theorem dX12_isWrongBoard_24 : decode cX12_isWrongBoard 24 = .ok (.iload_n 1, 1) := by decide +kernel
theorem dX12_isWrongBoard_25 : decode cX12_isWrongBoard 25 = .ok (.aload_n 0, 1) := by decide +kernel
theorem dX12_isWrongBoard_26 : decode cX12_isWrongBoard 26 = .ok (.getfield 35, 3) := by decide +kernel
theorem dX12_isWrongBoard_29 : decode cX12_isWrongBoard 29 = .ok (.iconst 2, 1) := by decide +kernel
theorem dX12_isWrongBoard_30 : decode cX12_isWrongBoard 30 = .ok (.iaload, 1) := by decide +kernel
theorem dX12_isWrongBoard_31 : decode cX12_isWrongBoard 31 = .ok (.if_icmp .ge 67, 3) := by decide +kernel
theorem dX12_isWrongBoard_34 : decode cX12_isWrongBoard 34 = .ok (.aload_n 0, 1) := by decide +kernel
theorem dX12_isWrongBoard_35 : decode cX12_isWrongBoard 35 = .ok (.getfield 35, 3) := by decide +kernel
theorem dX12_isWrongBoard_38 : decode cX12_isWrongBoard 38 = .ok (.iconst 3, 1) := by decide +kernel
theorem dX12_isWrongBoard_39 : decode cX12_isWrongBoard 39 = .ok (.iconst 2, 1) := by decide +kernel
theorem dX12_isWrongBoard_40 : decode cX12_isWrongBoard 40 = .ok (.iload_n 1, 1) := by decide +kernel
theorem dX12_isWrongBoard_41 : decode cX12_isWrongBoard 41 = .ok (.imul, 1) := by decide +kernel
theorem dX12_isWrongBoard_42 : decode cX12_isWrongBoard 42 = .ok (.iadd, 1) := by decide +kernel
theorem dX12_isWrongBoard_43 : decode cX12_isWrongBoard 43 = .ok (.iconst 1, 1) := by decide +kernel
theorem dX12_isWrongBoard_44 : decode cX12_isWrongBoard 44 = .ok (.iadd, 1) := by decide +kernel
theorem dX12_isWrongBoard_45 : decode cX12_isWrongBoard 45 = .ok (.iaload, 1) := by decide +kernel
theorem dX12_isWrongBoard_46 : decode cX12_isWrongBoard 46 = .ok (.istore_n 2, 1) := by decide +kernel
theorem dX12_isWrongBoard_47 : decode cX12_isWrongBoard 47 = .ok (.aload_n 0, 1) := by decide +kernel
theorem dX12_isWrongBoard_48 : decode cX12_isWrongBoard 48 = .ok (.getfield 35, 3) := by decide +kernel
theorem dX12_isWrongBoard_51 : decode cX12_isWrongBoard 51 = .ok (.bipush 15, 2) := by decide +kernel
theorem dX12_isWrongBoard_53 : decode cX12_isWrongBoard 53 = .ok (.iload_n 2, 1) := by decide +kernel
theorem dX12_isWrongBoard_54 : decode cX12_isWrongBoard 54 = .ok (.iadd, 1) := by decide +kernel
theorem dX12_isWrongBoard_55 : decode cX12_isWrongBoard 55 = .ok (.iaload, 1) := by decide +kernel
theorem dX12_isWrongBoard_56 : decode cX12_isWrongBoard 56 = .ok (.ifCond .eq 5, 3) := by decide +kernel
theorem dX12_isWrongBoard_59 : decode cX12_isWrongBoard 59 = .ok (.iconst 1, 1) := by decide +kernel
theorem dX12_isWrongBoard_60 : decode cX12_isWrongBoard 60 = .ok (.ireturn, 1) := by decide +kernel
theorem dX12_isWrongBoard_61 : decode cX12_isWrongBoard 61 = .ok (.iconst 0, 1) := by decide +kernel
theorem dX12_isWrongBoard_62 : decode cX12_isWrongBoard 62 = .ok (.istore_n 3, 1) := by decide +kernel
theorem dX12_isWrongBoard_63 : decode cX12_isWrongBoard 63 = .ok (.iload_n 3, 1) := by decide +kernel
theorem dX12_isWrongBoard_64 : decode cX12_isWrongBoard 64 = .ok (.iload_n 1, 1) := by decide +kernel
theorem dX12_isWrongBoard_65 : decode cX12_isWrongBoard 65 = .ok (.if_icmp .ge 27, 3) := by decide +kernel
theorem dX12_isWrongBoard_68 : decode cX12_isWrongBoard 68 = .ok (.aload_n 0, 1) := by decide +kernel
theorem dX12_isWrongBoard_69 : decode cX12_isWrongBoard 69 = .ok (.getfield 35, 3) := by decide +kernel
theorem dX12_isWrongBoard_72 : decode cX12_isWrongBoard 72 = .ok (.iconst 3, 1) := by decide +kernel
theorem dX12_isWrongBoard_73 : decode cX12_isWrongBoard 73 = .ok (.iconst 2, 1) := by decide +kernel
theorem dX12_isWrongBoard_74 : decode cX12_isWrongBoard 74 = .ok (.iload_n 3, 1) := by decide +kernel
theorem dX12_isWrongBoard_75 : decode cX12_isWrongBoard 75 = .ok (.imul, 1) := by decide +kernel
theorem dX12_isWrongBoard_76 : decode cX12_isWrongBoard 76 = .ok (.iadd, 1) := by decide +kernel
theorem dX12_isWrongBoard_77 : decode cX12_isWrongBoard 77 = .ok (.iconst 1, 1) := by decide +kernel
theorem dX12_isWrongBoard_78 : decode cX12_isWrongBoard 78 = .ok (.iadd, 1) := by decide +kernel
theorem dX12_isWrongBoard_79 : decode cX12_isWrongBoard 79 = .ok (.iaload, 1) := by decide +kernel
theorem dX12_isWrongBoard_80 : decode cX12_isWrongBoard 80 = .ok (.iload_n 2, 1) := by decide +kernel
theorem dX12_isWrongBoard_81 : decode cX12_isWrongBoard 81 = .ok (.if_icmp .ne 5, 3) := by decide +kernel
theorem dX12_isWrongBoard_84 : decode cX12_isWrongBoard 84 = .ok (.iconst 1, 1) := by decide +kernel
theorem dX12_isWrongBoard_85 : decode cX12_isWrongBoard 85 = .ok (.ireturn, 1) := by decide +kernel
theorem dX12_isWrongBoard_86 : decode cX12_isWrongBoard 86 = .ok (.iinc 3 1, 3) := by decide +kernel
theorem dX12_isWrongBoard_89 : decode cX12_isWrongBoard 89 = .ok (.goto (-26), 3) := by decide +kernel
theorem dX12_isWrongBoard_92 : decode cX12_isWrongBoard 92 = .ok (.iinc 1 1, 3) := by decide +kernel
theorem dX12_isWrongBoard_95 : decode cX12_isWrongBoard 95 = .ok (.goto (-71), 3) := by decide +kernel
theorem dX12_isWrongBoard_98 : decode cX12_isWrongBoard 98 = .ok (.iconst 0, 1) := by decide +kernel
theorem dX12_isWrongBoard_99 : decode cX12_isWrongBoard 99 = .ok (.ireturn, 1) := by decide +kernel

set_option maxHeartbeats 4000000 in
set_option maxRecDepth 100000 in
theorem r_iwL {D : va_G} {ad : Nat → Nat} {cA : Nat → ClassId} {X : XT} {F : Int × Int} {B : BC} (f0 : F.1 = 0) (wf : WFB B) (hH : HG vM X) (hF : FR mmTM X X) (hB : BDM F B X) (gl : X.1 0 21 < B.1 * B.2.1) {E : ET} (C : CX E (wM D ad cA) cX12_isWrongBoard 4 RX12 (some .boolean) { frames := 0, cells := 0, slots := 0, locals := 0 }) (hQ : EQ E (wM D ad cA) (fun r X' => X' = X ∧ ∃ u : Int, r = some (.int (iI u)) ∧ ((u = 1 ∧ bSound (bst B) = false) ∨ (u = 0 ∧ bSound (bst B) = true)))) : ∀ (n : Nat) (k : Nat), ((7 - k : Nat) : Int) < n → (k : Int) ≤ B.2.2.2.2.1 → (∀ j, j < k → grF B.2.2.1 B.2.2.2.1 (B.2.2.2.2.2.2 j).toNat = 0 ∧ ∀ i, i < j → B.2.2.2.2.2.2 i ≠ B.2.2.2.2.2.2 j) → Wx E (wM D ad cA) 4 (PX (wM D ad cA) X) 24 [(0, .ref 0), (1, .int (iI ((k : Int))))] [] := by
  intro n
  induction n with
  | zero => intro k hn kl hk; exfalso; omega
  | succ n ih =>
    intro k hn kl hk
    have hg := (hB.2.2.2.2.1 f0).2
    have mb := hB.2.2.2.2.2.2
    have pm := wh_bd wf.1.1 wf.1.2 wf.2.1.1 wf.2.1.2
    refine x_iload_n (i := 1) C dX12_isWrongBoard_24 rfl rfl ?_
    refine x_aload_n (i := 0) C dX12_isWrongBoard_25 rfl rfl ?_
    refine x_getRs (r := 9) C fkM_X12_35 (nlt rfl) rfl (HG.rR hH (k := 0) (i := 18) rfl rfl) dX12_isWrongBoard_26 ?_
    refine x_iconst C dX12_isWrongBoard_29 ?_
    refine x_iald C (nlt rfl) rfl rfl (nle rfl) (by omega) (by omega) dX12_isWrongBoard_30 ?_
    refine x_gen (fun v1 ev1 => ?_)
    replace ev1 : v1 = X.1 9 2 := ev1
    have qv1 : ((-1) : Int) ≤ v1 ∧ v1 ≤ (99 : Int) := by
      rw [ev1]
      exact hH.rF (k := 9) (i := 2) (p := ((-1), 99)) rfl rfl
    have ktv1 := ev1
    have mmv1 : v1 = B.2.2.2.2.1 := by rw [ev1]; exact hB.2.2.1
    refine x_icmp_ge (tgt := 98) C dX12_isWrongBoard_31 (by decide) ⟨by omega, by omega⟩ ⟨by omega, by omega⟩ (fun h2 => ?_) (fun h2 => ?_)
    · refine x_iconst C dX12_isWrongBoard_98 ?_
      exact x_zret C hQ (by omega) dX12_isWrongBoard_99 (⟨rfl, _, rfl, .inr ⟨rfl, (bSound_iff wf hg).mpr ⟨gl, fun j hj => hk j (by omega)⟩⟩⟩)
    · refine x_aload_n (i := 0) C dX12_isWrongBoard_34 rfl rfl ?_
      refine x_getRs (r := 9) C fkM_X12_35 (nlt rfl) rfl (HG.rR hH (k := 0) (i := 18) rfl rfl) dX12_isWrongBoard_35 ?_
      refine x_iconst C dX12_isWrongBoard_38 ?_
      refine x_iconst C dX12_isWrongBoard_39 ?_
      refine x_iload_n (i := 1) C dX12_isWrongBoard_40 rfl rfl ?_
      refine x_imul C dX12_isWrongBoard_41 ?_
      refine x_iadd C dX12_isWrongBoard_42 ?_
      refine x_iconst C dX12_isWrongBoard_43 ?_
      refine x_iadd C dX12_isWrongBoard_44 ?_
      refine x_iald C (nlt rfl) rfl rfl (nle rfl) (by omega) (by omega) dX12_isWrongBoard_45 ?_
      refine x_gen (fun v3 ev3 => ?_)
      have qv3 : ((-1) : Int) ≤ v3 ∧ v3 ≤ (99 : Int) := by
        rw [ev3]
        exact hH.rA (k := 9) (n := 331) (p := ((-1), 99)) (nlt rfl) rfl (by decide +kernel) (by omega)
      have ktv3 := ev3
      have fk : v3 = B.2.2.2.2.2.2 k := by rw [ev3, show ((3 + (2 * ((k : Int)))) + 1).toNat = 4 + 2 * k by omega]; exact (hB.2.2.2.1 k (by omega)).2
      have bk := (wf.2.2.2 k (by omega)).2
      refine x_istore_n (i := 2) (lv' := [(2, .int (iI (v3))), (0, .ref 0), (1, .int (iI ((k : Int))))]) C dX12_isWrongBoard_46 rfl (nlt rfl) rfl ?_
      refine x_aload_n (i := 0) C dX12_isWrongBoard_47 rfl rfl ?_
      refine x_getRs (r := 9) C fkM_X12_35 (nlt rfl) rfl (HG.rR hH (k := 0) (i := 18) rfl rfl) dX12_isWrongBoard_48 ?_
      refine x_bipush C dX12_isWrongBoard_51 (by decide) ?_
      refine x_iload_n (i := 2) C dX12_isWrongBoard_53 rfl rfl ?_
      refine x_iadd C dX12_isWrongBoard_54 ?_
      refine x_iald C (nlt rfl) rfl rfl (nle rfl) (by omega) (by omega) dX12_isWrongBoard_55 ?_
      refine x_gen (fun v4 ev4 => ?_)
      have qv4 : ((-1) : Int) ≤ v4 ∧ v4 ≤ (99 : Int) := by
        rw [ev4]
        exact hH.rA (k := 9) (n := 331) (p := ((-1), 99)) (nlt rfl) rfl (by decide +kernel) (by omega)
      have ktv4 := ev4
      have gk : v4 = grF B.2.2.1 B.2.2.2.1 (B.2.2.2.2.2.2 k).toNat := by rw [ev4, show (15 + v3).toNat = 15 + (B.2.2.2.2.2.2 k).toNat by omega]; exact (hB.2.2.2.2.1 f0).1 _ (by omega)
      refine x_if_eq (tgt := 61) C dX12_isWrongBoard_56 (by decide) ⟨by omega, by omega⟩ (fun h5 => ?_) (fun h5 => ?_)
      · refine x_iconst C dX12_isWrongBoard_61 ?_
        refine x_istore_n (i := 3) (lv' := [(3, .int (iI (0))), (2, .int (iI (v3))), (0, .ref 0), (1, .int (iI ((k : Int))))]) C dX12_isWrongBoard_62 rfl (nlt rfl) rfl ?_
        refine x_iload_n (i := 3) C dX12_isWrongBoard_63 rfl rfl ?_
        refine x_iload_n (i := 1) C dX12_isWrongBoard_64 rfl rfl ?_
        refine x_icmp_ge (tgt := 92) C dX12_isWrongBoard_65 (by decide) ⟨by omega, by omega⟩ ⟨by omega, by omega⟩ (fun h6 => ?_) (fun h6 => ?_)
        · refine x_iinc (lv' := [(1, .int (iI ((k : Int) + 1))), (3, .int (iI (0))), (2, .int (iI (v3))), (0, .ref 0)]) C dX12_isWrongBoard_92 rfl (nlt rfl) rfl ?_
          refine x_goto (tgt := 24) C dX12_isWrongBoard_95 (by decide) ?_
          rw [show iI ((k : Int) + 1) = iI (((k + 1 : Nat) : Int)) by congr 1]
          refine Wx_pick [0, 1] ?_
          refine Wx_lv (lv' := [(0, .ref 0), (1, .int (iI (((k + 1 : Nat) : Int))))]) rfl ?_
          refine ih (k + 1) (by omega) (by omega) (fun j hj => ?_)
          by_cases ej : j = k
          · subst ej
            refine ⟨by omega, fun i hi => ?_⟩
            exact absurd hi (by omega)
          · exact hk j (by omega)
        · refine x_aload_n (i := 0) C dX12_isWrongBoard_68 rfl rfl ?_
          refine x_getRs (r := 9) C fkM_X12_35 (nlt rfl) rfl (HG.rR hH (k := 0) (i := 18) rfl rfl) dX12_isWrongBoard_69 ?_
          refine x_iconst C dX12_isWrongBoard_72 ?_
          refine x_iconst C dX12_isWrongBoard_73 ?_
          refine x_iload_n (i := 3) C dX12_isWrongBoard_74 rfl rfl ?_
          refine x_imul C dX12_isWrongBoard_75 ?_
          refine x_eq (b := 0) rfl ?_
          refine x_iadd C dX12_isWrongBoard_76 ?_
          refine x_eq (b := 3) rfl ?_
          refine x_iconst C dX12_isWrongBoard_77 ?_
          refine x_iadd C dX12_isWrongBoard_78 ?_
          refine x_eq (b := 4) rfl ?_
          refine x_iald C (nlt rfl) rfl rfl (nle rfl) (by omega) (by omega) dX12_isWrongBoard_79 ?_
          refine x_gen (fun v7 ev7 => ?_)
          replace ev7 : v7 = X.1 9 4 := ev7
          have qv7 : ((-1) : Int) ≤ v7 ∧ v7 ≤ (99 : Int) := by
            rw [ev7]
            exact hH.rF (k := 9) (i := 4) (p := ((-1), 99)) rfl rfl
          have ktv7 := ev7
          have fiv7 : v7 = B.2.2.2.2.2.2 0 := by rw [ev7]; exact (hB.2.2.2.1 0 (by decide)).2
          refine x_iload_n (i := 2) C dX12_isWrongBoard_80 rfl rfl ?_
          refine x_icmp_ne (tgt := 86) C dX12_isWrongBoard_81 (by decide) ⟨by omega, by omega⟩ ⟨by omega, by omega⟩ (fun h8 => ?_) (fun h8 => ?_)
          · refine x_iinc (lv' := [(3, .int (iI (0 + 1))), (2, .int (iI (v3))), (0, .ref 0), (1, .int (iI ((k : Int))))]) C dX12_isWrongBoard_86 rfl (nlt rfl) rfl ?_
            refine Wx_lv (lv' := [(3, .int (iI (1))), (2, .int (iI (v3))), (0, .ref 0), (1, .int (iI ((k : Int))))]) rfl ?_
            refine x_goto (tgt := 63) C dX12_isWrongBoard_89 (by decide) ?_
            refine x_iload_n (i := 3) C dX12_isWrongBoard_63 rfl rfl ?_
            refine x_iload_n (i := 1) C dX12_isWrongBoard_64 rfl rfl ?_
            refine x_icmp_ge (tgt := 92) C dX12_isWrongBoard_65 (by decide) ⟨by omega, by omega⟩ ⟨by omega, by omega⟩ (fun h9 => ?_) (fun h9 => ?_)
            · refine x_iinc (lv' := [(1, .int (iI ((k : Int) + 1))), (3, .int (iI (1))), (2, .int (iI (v3))), (0, .ref 0)]) C dX12_isWrongBoard_92 rfl (nlt rfl) rfl ?_
              refine x_goto (tgt := 24) C dX12_isWrongBoard_95 (by decide) ?_
              rw [show iI ((k : Int) + 1) = iI (((k + 1 : Nat) : Int)) by congr 1]
              refine Wx_pick [0, 1] ?_
              refine Wx_lv (lv' := [(0, .ref 0), (1, .int (iI (((k + 1 : Nat) : Int))))]) rfl ?_
              refine ih (k + 1) (by omega) (by omega) (fun j hj => ?_)
              by_cases ej : j = k
              · subst ej
                refine ⟨by omega, fun i hi => ?_⟩
                rcases (show i = 0 by omega) with rfl
                · omega
              · exact hk j (by omega)
            · refine x_aload_n (i := 0) C dX12_isWrongBoard_68 rfl rfl ?_
              refine x_getRs (r := 9) C fkM_X12_35 (nlt rfl) rfl (HG.rR hH (k := 0) (i := 18) rfl rfl) dX12_isWrongBoard_69 ?_
              refine x_iconst C dX12_isWrongBoard_72 ?_
              refine x_iconst C dX12_isWrongBoard_73 ?_
              refine x_iload_n (i := 3) C dX12_isWrongBoard_74 rfl rfl ?_
              refine x_imul C dX12_isWrongBoard_75 ?_
              refine x_eq (b := 2) rfl ?_
              refine x_iadd C dX12_isWrongBoard_76 ?_
              refine x_eq (b := 5) rfl ?_
              refine x_iconst C dX12_isWrongBoard_77 ?_
              refine x_iadd C dX12_isWrongBoard_78 ?_
              refine x_eq (b := 6) rfl ?_
              refine x_iald C (nlt rfl) rfl rfl (nle rfl) (by omega) (by omega) dX12_isWrongBoard_79 ?_
              refine x_gen (fun v10 ev10 => ?_)
              replace ev10 : v10 = X.1 9 6 := ev10
              have qv10 : ((-1) : Int) ≤ v10 ∧ v10 ≤ (99 : Int) := by
                rw [ev10]
                exact hH.rF (k := 9) (i := 6) (p := ((-1), 99)) rfl rfl
              have ktv10 := ev10
              have fiv10 : v10 = B.2.2.2.2.2.2 1 := by rw [ev10]; exact (hB.2.2.2.1 1 (by decide)).2
              refine x_iload_n (i := 2) C dX12_isWrongBoard_80 rfl rfl ?_
              refine x_icmp_ne (tgt := 86) C dX12_isWrongBoard_81 (by decide) ⟨by omega, by omega⟩ ⟨by omega, by omega⟩ (fun h11 => ?_) (fun h11 => ?_)
              · refine x_iinc (lv' := [(3, .int (iI (1 + 1))), (2, .int (iI (v3))), (0, .ref 0), (1, .int (iI ((k : Int))))]) C dX12_isWrongBoard_86 rfl (nlt rfl) rfl ?_
                refine Wx_lv (lv' := [(3, .int (iI (2))), (2, .int (iI (v3))), (0, .ref 0), (1, .int (iI ((k : Int))))]) rfl ?_
                refine x_goto (tgt := 63) C dX12_isWrongBoard_89 (by decide) ?_
                refine x_iload_n (i := 3) C dX12_isWrongBoard_63 rfl rfl ?_
                refine x_iload_n (i := 1) C dX12_isWrongBoard_64 rfl rfl ?_
                refine x_icmp_ge (tgt := 92) C dX12_isWrongBoard_65 (by decide) ⟨by omega, by omega⟩ ⟨by omega, by omega⟩ (fun h12 => ?_) (fun h12 => ?_)
                · refine x_iinc (lv' := [(1, .int (iI ((k : Int) + 1))), (3, .int (iI (2))), (2, .int (iI (v3))), (0, .ref 0)]) C dX12_isWrongBoard_92 rfl (nlt rfl) rfl ?_
                  refine x_goto (tgt := 24) C dX12_isWrongBoard_95 (by decide) ?_
                  rw [show iI ((k : Int) + 1) = iI (((k + 1 : Nat) : Int)) by congr 1]
                  refine Wx_pick [0, 1] ?_
                  refine Wx_lv (lv' := [(0, .ref 0), (1, .int (iI (((k + 1 : Nat) : Int))))]) rfl ?_
                  refine ih (k + 1) (by omega) (by omega) (fun j hj => ?_)
                  by_cases ej : j = k
                  · subst ej
                    refine ⟨by omega, fun i hi => ?_⟩
                    rcases (show i = 0 ∨ i = 1 by omega) with rfl | rfl
                    · omega
                    · omega
                  · exact hk j (by omega)
                · refine x_aload_n (i := 0) C dX12_isWrongBoard_68 rfl rfl ?_
                  refine x_getRs (r := 9) C fkM_X12_35 (nlt rfl) rfl (HG.rR hH (k := 0) (i := 18) rfl rfl) dX12_isWrongBoard_69 ?_
                  refine x_iconst C dX12_isWrongBoard_72 ?_
                  refine x_iconst C dX12_isWrongBoard_73 ?_
                  refine x_iload_n (i := 3) C dX12_isWrongBoard_74 rfl rfl ?_
                  refine x_imul C dX12_isWrongBoard_75 ?_
                  refine x_eq (b := 4) rfl ?_
                  refine x_iadd C dX12_isWrongBoard_76 ?_
                  refine x_eq (b := 7) rfl ?_
                  refine x_iconst C dX12_isWrongBoard_77 ?_
                  refine x_iadd C dX12_isWrongBoard_78 ?_
                  refine x_eq (b := 8) rfl ?_
                  refine x_iald C (nlt rfl) rfl rfl (nle rfl) (by omega) (by omega) dX12_isWrongBoard_79 ?_
                  refine x_gen (fun v13 ev13 => ?_)
                  replace ev13 : v13 = X.1 9 8 := ev13
                  have qv13 : ((-1) : Int) ≤ v13 ∧ v13 ≤ (99 : Int) := by
                    rw [ev13]
                    exact hH.rF (k := 9) (i := 8) (p := ((-1), 99)) rfl rfl
                  have ktv13 := ev13
                  have fiv13 : v13 = B.2.2.2.2.2.2 2 := by rw [ev13]; exact (hB.2.2.2.1 2 (by decide)).2
                  refine x_iload_n (i := 2) C dX12_isWrongBoard_80 rfl rfl ?_
                  refine x_icmp_ne (tgt := 86) C dX12_isWrongBoard_81 (by decide) ⟨by omega, by omega⟩ ⟨by omega, by omega⟩ (fun h14 => ?_) (fun h14 => ?_)
                  · refine x_iinc (lv' := [(3, .int (iI (2 + 1))), (2, .int (iI (v3))), (0, .ref 0), (1, .int (iI ((k : Int))))]) C dX12_isWrongBoard_86 rfl (nlt rfl) rfl ?_
                    refine Wx_lv (lv' := [(3, .int (iI (3))), (2, .int (iI (v3))), (0, .ref 0), (1, .int (iI ((k : Int))))]) rfl ?_
                    refine x_goto (tgt := 63) C dX12_isWrongBoard_89 (by decide) ?_
                    refine x_iload_n (i := 3) C dX12_isWrongBoard_63 rfl rfl ?_
                    refine x_iload_n (i := 1) C dX12_isWrongBoard_64 rfl rfl ?_
                    refine x_icmp_ge (tgt := 92) C dX12_isWrongBoard_65 (by decide) ⟨by omega, by omega⟩ ⟨by omega, by omega⟩ (fun h15 => ?_) (fun h15 => ?_)
                    · refine x_iinc (lv' := [(1, .int (iI ((k : Int) + 1))), (3, .int (iI (3))), (2, .int (iI (v3))), (0, .ref 0)]) C dX12_isWrongBoard_92 rfl (nlt rfl) rfl ?_
                      refine x_goto (tgt := 24) C dX12_isWrongBoard_95 (by decide) ?_
                      rw [show iI ((k : Int) + 1) = iI (((k + 1 : Nat) : Int)) by congr 1]
                      refine Wx_pick [0, 1] ?_
                      refine Wx_lv (lv' := [(0, .ref 0), (1, .int (iI (((k + 1 : Nat) : Int))))]) rfl ?_
                      refine ih (k + 1) (by omega) (by omega) (fun j hj => ?_)
                      by_cases ej : j = k
                      · subst ej
                        refine ⟨by omega, fun i hi => ?_⟩
                        rcases (show i = 0 ∨ i = 1 ∨ i = 2 by omega) with rfl | rfl | rfl
                        · omega
                        · omega
                        · omega
                      · exact hk j (by omega)
                    · refine x_aload_n (i := 0) C dX12_isWrongBoard_68 rfl rfl ?_
                      refine x_getRs (r := 9) C fkM_X12_35 (nlt rfl) rfl (HG.rR hH (k := 0) (i := 18) rfl rfl) dX12_isWrongBoard_69 ?_
                      refine x_iconst C dX12_isWrongBoard_72 ?_
                      refine x_iconst C dX12_isWrongBoard_73 ?_
                      refine x_iload_n (i := 3) C dX12_isWrongBoard_74 rfl rfl ?_
                      refine x_imul C dX12_isWrongBoard_75 ?_
                      refine x_eq (b := 6) rfl ?_
                      refine x_iadd C dX12_isWrongBoard_76 ?_
                      refine x_eq (b := 9) rfl ?_
                      refine x_iconst C dX12_isWrongBoard_77 ?_
                      refine x_iadd C dX12_isWrongBoard_78 ?_
                      refine x_eq (b := 10) rfl ?_
                      refine x_iald C (nlt rfl) rfl rfl (nle rfl) (by omega) (by omega) dX12_isWrongBoard_79 ?_
                      refine x_gen (fun v16 ev16 => ?_)
                      replace ev16 : v16 = X.1 9 10 := ev16
                      have qv16 : ((-1) : Int) ≤ v16 ∧ v16 ≤ (99 : Int) := by
                        rw [ev16]
                        exact hH.rF (k := 9) (i := 10) (p := ((-1), 99)) rfl rfl
                      have ktv16 := ev16
                      have fiv16 : v16 = B.2.2.2.2.2.2 3 := by rw [ev16]; exact (hB.2.2.2.1 3 (by decide)).2
                      refine x_iload_n (i := 2) C dX12_isWrongBoard_80 rfl rfl ?_
                      refine x_icmp_ne (tgt := 86) C dX12_isWrongBoard_81 (by decide) ⟨by omega, by omega⟩ ⟨by omega, by omega⟩ (fun h17 => ?_) (fun h17 => ?_)
                      · refine x_iinc (lv' := [(3, .int (iI (3 + 1))), (2, .int (iI (v3))), (0, .ref 0), (1, .int (iI ((k : Int))))]) C dX12_isWrongBoard_86 rfl (nlt rfl) rfl ?_
                        refine Wx_lv (lv' := [(3, .int (iI (4))), (2, .int (iI (v3))), (0, .ref 0), (1, .int (iI ((k : Int))))]) rfl ?_
                        refine x_goto (tgt := 63) C dX12_isWrongBoard_89 (by decide) ?_
                        refine x_iload_n (i := 3) C dX12_isWrongBoard_63 rfl rfl ?_
                        refine x_iload_n (i := 1) C dX12_isWrongBoard_64 rfl rfl ?_
                        refine x_icmp_ge (tgt := 92) C dX12_isWrongBoard_65 (by decide) ⟨by omega, by omega⟩ ⟨by omega, by omega⟩ (fun h18 => ?_) (fun h18 => ?_)
                        · refine x_iinc (lv' := [(1, .int (iI ((k : Int) + 1))), (3, .int (iI (4))), (2, .int (iI (v3))), (0, .ref 0)]) C dX12_isWrongBoard_92 rfl (nlt rfl) rfl ?_
                          refine x_goto (tgt := 24) C dX12_isWrongBoard_95 (by decide) ?_
                          rw [show iI ((k : Int) + 1) = iI (((k + 1 : Nat) : Int)) by congr 1]
                          refine Wx_pick [0, 1] ?_
                          refine Wx_lv (lv' := [(0, .ref 0), (1, .int (iI (((k + 1 : Nat) : Int))))]) rfl ?_
                          refine ih (k + 1) (by omega) (by omega) (fun j hj => ?_)
                          by_cases ej : j = k
                          · subst ej
                            refine ⟨by omega, fun i hi => ?_⟩
                            rcases (show i = 0 ∨ i = 1 ∨ i = 2 ∨ i = 3 by omega) with rfl | rfl | rfl | rfl
                            · omega
                            · omega
                            · omega
                            · omega
                          · exact hk j (by omega)
                        · refine x_aload_n (i := 0) C dX12_isWrongBoard_68 rfl rfl ?_
                          refine x_getRs (r := 9) C fkM_X12_35 (nlt rfl) rfl (HG.rR hH (k := 0) (i := 18) rfl rfl) dX12_isWrongBoard_69 ?_
                          refine x_iconst C dX12_isWrongBoard_72 ?_
                          refine x_iconst C dX12_isWrongBoard_73 ?_
                          refine x_iload_n (i := 3) C dX12_isWrongBoard_74 rfl rfl ?_
                          refine x_imul C dX12_isWrongBoard_75 ?_
                          refine x_eq (b := 8) rfl ?_
                          refine x_iadd C dX12_isWrongBoard_76 ?_
                          refine x_eq (b := 11) rfl ?_
                          refine x_iconst C dX12_isWrongBoard_77 ?_
                          refine x_iadd C dX12_isWrongBoard_78 ?_
                          refine x_eq (b := 12) rfl ?_
                          refine x_iald C (nlt rfl) rfl rfl (nle rfl) (by omega) (by omega) dX12_isWrongBoard_79 ?_
                          refine x_gen (fun v19 ev19 => ?_)
                          replace ev19 : v19 = X.1 9 12 := ev19
                          have qv19 : ((-1) : Int) ≤ v19 ∧ v19 ≤ (99 : Int) := by
                            rw [ev19]
                            exact hH.rF (k := 9) (i := 12) (p := ((-1), 99)) rfl rfl
                          have ktv19 := ev19
                          have fiv19 : v19 = B.2.2.2.2.2.2 4 := by rw [ev19]; exact (hB.2.2.2.1 4 (by decide)).2
                          refine x_iload_n (i := 2) C dX12_isWrongBoard_80 rfl rfl ?_
                          refine x_icmp_ne (tgt := 86) C dX12_isWrongBoard_81 (by decide) ⟨by omega, by omega⟩ ⟨by omega, by omega⟩ (fun h20 => ?_) (fun h20 => ?_)
                          · refine x_iinc (lv' := [(3, .int (iI (4 + 1))), (2, .int (iI (v3))), (0, .ref 0), (1, .int (iI ((k : Int))))]) C dX12_isWrongBoard_86 rfl (nlt rfl) rfl ?_
                            refine Wx_lv (lv' := [(3, .int (iI (5))), (2, .int (iI (v3))), (0, .ref 0), (1, .int (iI ((k : Int))))]) rfl ?_
                            refine x_goto (tgt := 63) C dX12_isWrongBoard_89 (by decide) ?_
                            refine x_iload_n (i := 3) C dX12_isWrongBoard_63 rfl rfl ?_
                            refine x_iload_n (i := 1) C dX12_isWrongBoard_64 rfl rfl ?_
                            refine x_icmp_ge (tgt := 92) C dX12_isWrongBoard_65 (by decide) ⟨by omega, by omega⟩ ⟨by omega, by omega⟩ (fun h21 => ?_) (fun h21 => by exfalso; omega)
                            refine x_iinc (lv' := [(1, .int (iI ((k : Int) + 1))), (3, .int (iI (5))), (2, .int (iI (v3))), (0, .ref 0)]) C dX12_isWrongBoard_92 rfl (nlt rfl) rfl ?_
                            refine x_goto (tgt := 24) C dX12_isWrongBoard_95 (by decide) ?_
                            rw [show iI ((k : Int) + 1) = iI (((k + 1 : Nat) : Int)) by congr 1]
                            refine Wx_pick [0, 1] ?_
                            refine Wx_lv (lv' := [(0, .ref 0), (1, .int (iI (((k + 1 : Nat) : Int))))]) rfl ?_
                            refine ih (k + 1) (by omega) (by omega) (fun j hj => ?_)
                            by_cases ej : j = k
                            · subst ej
                              refine ⟨by omega, fun i hi => ?_⟩
                              rcases (show i = 0 ∨ i = 1 ∨ i = 2 ∨ i = 3 ∨ i = 4 by omega) with rfl | rfl | rfl | rfl | rfl
                              · omega
                              · omega
                              · omega
                              · omega
                              · omega
                            · exact hk j (by omega)
                          · refine x_iconst C dX12_isWrongBoard_84 ?_
                            exact x_zret C hQ (by omega) dX12_isWrongBoard_85 (⟨rfl, _, rfl, .inl ⟨rfl, by cases e : bSound (bst B) with | false => rfl | true => exact absurd ((bSound_iff wf hg).mp e) (fun q => by have := (q.2 k (by omega)).2 4 (by omega); omega)⟩⟩)
                      · refine x_iconst C dX12_isWrongBoard_84 ?_
                        exact x_zret C hQ (by omega) dX12_isWrongBoard_85 (⟨rfl, _, rfl, .inl ⟨rfl, by cases e : bSound (bst B) with | false => rfl | true => exact absurd ((bSound_iff wf hg).mp e) (fun q => by have := (q.2 k (by omega)).2 3 (by omega); omega)⟩⟩)
                  · refine x_iconst C dX12_isWrongBoard_84 ?_
                    exact x_zret C hQ (by omega) dX12_isWrongBoard_85 (⟨rfl, _, rfl, .inl ⟨rfl, by cases e : bSound (bst B) with | false => rfl | true => exact absurd ((bSound_iff wf hg).mp e) (fun q => by have := (q.2 k (by omega)).2 2 (by omega); omega)⟩⟩)
              · refine x_iconst C dX12_isWrongBoard_84 ?_
                exact x_zret C hQ (by omega) dX12_isWrongBoard_85 (⟨rfl, _, rfl, .inl ⟨rfl, by cases e : bSound (bst B) with | false => rfl | true => exact absurd ((bSound_iff wf hg).mp e) (fun q => by have := (q.2 k (by omega)).2 1 (by omega); omega)⟩⟩)
          · refine x_iconst C dX12_isWrongBoard_84 ?_
            exact x_zret C hQ (by omega) dX12_isWrongBoard_85 (⟨rfl, _, rfl, .inl ⟨rfl, by cases e : bSound (bst B) with | false => rfl | true => exact absurd ((bSound_iff wf hg).mp e) (fun q => by have := (q.2 k (by omega)).2 0 (by omega); omega)⟩⟩)
      · refine x_iconst C dX12_isWrongBoard_59 ?_
        exact x_zret C hQ (by omega) dX12_isWrongBoard_60 (⟨rfl, _, rfl, .inl ⟨rfl, by cases e : bSound (bst B) with | false => rfl | true => exact absurd ((bSound_iff wf hg).mp e) (fun q => by have := (q.2 k (by omega)).1; omega)⟩⟩)
set_option maxHeartbeats 4000000 in
set_option maxRecDepth 100000 in
theorem r_isWrong {D : va_G} {ad : Nat → Nat} {cA : Nat → ClassId} {X : XT} {F : Int × Int} {B : BC} (f0 : F.1 = 0) (wf : WFB B) (hH : HG vM X) (hF : FR mmTM X X) (hB : BDM F B X) : MetX (wM D ad cA) yX12_isWrongBoard cX12_isWrongBoard 4 (some .boolean) 0 0 [.ref 0] X (fun r X' => X' = X ∧ ∃ u : Int, r = some (.int (iI u)) ∧ ((u = 1 ∧ bSound (bst B) = false) ∨ (u = 0 ∧ bSound (bst B) = true))) := by
  have hg := (hB.2.2.2.2.1 f0).2
  have mb := hB.2.2.2.2.2.2
  have pm := wh_bd wf.1.1 wf.1.2 wf.2.1.1 wf.2.1.2
  refine MetX.mk (own := RX12) (by decide +kernel) rfl (nle rfl) (fun E C hQ => ?_)
  refine Wx_lv (lv' := [(0, .ref 0)]) rfl ?_
  refine x_aload_n (i := 0) C dX12_isWrongBoard_0 rfl rfl ?_
  refine x_getI C fkM_X12_223 (nlt rfl) rfl dX12_isWrongBoard_1 ?_
  refine x_gen (fun v1 ev1 => ?_)
  have qv1 : ((-2147483648) : Int) ≤ v1 ∧ v1 ≤ (2147483647 : Int) := by
    rw [ev1]
    exact hH.rF (k := 0) (i := 21) rfl rfl
  refine x_aload_n (i := 0) C dX12_isWrongBoard_4 rfl rfl ?_
  refine x_getRs (r := 9) C fkM_X12_35 (nlt rfl) rfl (HG.rR hH (k := 0) (i := 18) rfl rfl) dX12_isWrongBoard_5 ?_
  refine x_iconst C dX12_isWrongBoard_8 ?_
  refine x_iald C (nlt rfl) rfl rfl (nle rfl) (by omega) (by omega) dX12_isWrongBoard_9 ?_
  refine x_gen (fun v2 ev2 => ?_)
  replace ev2 : v2 = X.1 9 0 := ev2
  have qv2 : ((-1) : Int) ≤ v2 ∧ v2 ≤ (99 : Int) := by
    rw [ev2]
    exact hH.rF (k := 9) (i := 0) (p := ((-1), 99)) rfl rfl
  have ktv2 := ev2
  have wwv2 : v2 = B.1 := by rw [ev2]; exact hB.1
  refine x_aload_n (i := 0) C dX12_isWrongBoard_10 rfl rfl ?_
  refine x_getRs (r := 9) C fkM_X12_35 (nlt rfl) rfl (HG.rR hH (k := 0) (i := 18) rfl rfl) dX12_isWrongBoard_11 ?_
  refine x_iconst C dX12_isWrongBoard_14 ?_
  refine x_iald C (nlt rfl) rfl rfl (nle rfl) (by omega) (by omega) dX12_isWrongBoard_15 ?_
  refine x_gen (fun v3 ev3 => ?_)
  replace ev3 : v3 = X.1 9 1 := ev3
  have qv3 : ((-1) : Int) ≤ v3 ∧ v3 ≤ (99 : Int) := by
    rw [ev3]
    exact hH.rF (k := 9) (i := 1) (p := ((-1), 99)) rfl rfl
  have ktv3 := ev3
  have wwv3 : v3 = B.2.1 := by rw [ev3]; exact hB.2.1
  refine x_imul C dX12_isWrongBoard_16 ?_
  have ew : v2 * v3 = B.1 * B.2.1 := by rw [wwv2, wwv3]
  rw [ew]
  refine x_icmp_lt (tgt := 22) C dX12_isWrongBoard_17 (by decide) ⟨by omega, by omega⟩ ⟨by omega, by omega⟩ (fun h4 => ?_) (fun h4 => ?_)
  · refine x_iconst C dX12_isWrongBoard_22 ?_
    refine x_istore_n (i := 1) (lv' := [(1, .int (iI (0))), (0, .ref 0)]) C dX12_isWrongBoard_23 rfl (nlt rfl) rfl ?_
    refine Wx_pick [0, 1] ?_
    refine Wx_lv (lv' := [(0, .ref 0), (1, .int (iI (0)))]) rfl ?_
    exact r_iwL f0 wf hH hF hB (by omega) C hQ 8 0 (by decide) (by omega) (fun j hj => absurd hj (by omega))
  · refine x_iconst C dX12_isWrongBoard_20 ?_
    exact x_zret C hQ (by omega) dX12_isWrongBoard_21 (⟨rfl, _, rfl, .inl ⟨rfl, by cases e : bSound (bst B) with | false => rfl | true => exact absurd ((bSound_iff wf hg).mp e) (fun q => by have := q.1; omega)⟩⟩)
