/-! ===== the reference: steps, paths, meanings ===== -/
theorem dX12_step_0 : decode cX12_step 0 = .ok (.aload_n 0, 1) := by decide +kernel
theorem dX12_step_1 : decode cX12_step 1 = .ok (.iload_n 1, 1) := by decide +kernel
theorem dX12_step_2 : decode cX12_step 2 = .ok (.iload_n 2, 1) := by decide +kernel
theorem dX12_step_3 : decode cX12_step 3 = .ok (.invokevirtual 318, 3) := by decide +kernel
theorem dX12_step_6 : decode cX12_step 6 = .ok (.istore_n 3, 1) := by decide +kernel
theorem dX12_step_7 : decode cX12_step 7 = .ok (.iload_n 3, 1) := by decide +kernel
theorem dX12_step_8 : decode cX12_step 8 = .ok (.iconst (-1), 1) := by decide +kernel
theorem dX12_step_9 : decode cX12_step 9 = .ok (.if_icmp .eq 19, 3) := by decide +kernel
theorem dX12_step_12 : decode cX12_step 12 = .ok (.aload_n 0, 1) := by decide +kernel
theorem dX12_step_13 : decode cX12_step 13 = .ok (.getfield 290, 3) := by decide +kernel
theorem dX12_step_16 : decode cX12_step 16 = .ok (.aload_n 0, 1) := by decide +kernel
theorem dX12_step_17 : decode cX12_step 17 = .ok (.getfield 312, 3) := by decide +kernel
theorem dX12_step_20 : decode cX12_step 20 = .ok (.lor, 1) := by decide +kernel
theorem dX12_step_21 : decode cX12_step 21 = .ok (.iload_n 3, 1) := by decide +kernel
theorem dX12_step_22 : decode cX12_step 22 = .ok (.invokestatic 299, 3) := by decide +kernel
theorem dX12_step_25 : decode cX12_step 25 = .ok (.ifCond .eq 7, 3) := by decide +kernel
theorem dX12_step_28 : decode cX12_step 28 = .ok (.iconst (-1), 1) := by decide +kernel
theorem dX12_step_29 : decode cX12_step 29 = .ok (.goto 4, 3) := by decide +kernel
theorem dX12_step_32 : decode cX12_step 32 = .ok (.iload_n 3, 1) := by decide +kernel
theorem dX12_step_33 : decode cX12_step 33 = .ok (.ireturn, 1) := by decide +kernel
theorem dX12_endsThere_0 : decode cX12_endsThere 0 = .ok (.aload_n 0, 1) := by decide +kernel
theorem dX12_endsThere_1 : decode cX12_endsThere 1 = .ok (.getfield 315, 3) := by decide +kernel
theorem dX12_endsThere_4 : decode cX12_endsThere 4 = .ok (.aload_n 0, 1) := by decide +kernel
theorem dX12_endsThere_5 : decode cX12_endsThere 5 = .ok (.getfield 293, 3) := by decide +kernel
theorem dX12_endsThere_8 : decode cX12_endsThere 8 = .ok (.lor, 1) := by decide +kernel
theorem dX12_endsThere_9 : decode cX12_endsThere 9 = .ok (.iload_n 1, 1) := by decide +kernel
theorem dX12_endsThere_10 : decode cX12_endsThere 10 = .ok (.invokestatic 299, 3) := by decide +kernel
theorem dX12_endsThere_13 : decode cX12_endsThere 13 = .ok (.ireturn, 1) := by decide +kernel
theorem dX12_goesOn_0 : decode cX12_goesOn 0 = .ok (.iload_n 2, 1) := by decide +kernel
theorem dX12_goesOn_1 : decode cX12_goesOn 1 = .ok (.iconst 4, 1) := by decide +kernel
theorem dX12_goesOn_2 : decode cX12_goesOn 2 = .ok (.if_icmp .ne 4, 3) := by decide +kernel
theorem dX12_goesOn_5 : decode cX12_goesOn 5 = .ok (.return_, 1) := by decide +kernel
theorem dX12_goesOn_6 : decode cX12_goesOn 6 = .ok (.iload_n 1, 1) := by decide +kernel
theorem dX12_goesOn_7 : decode cX12_goesOn 7 = .ok (.istore 4, 2) := by decide +kernel
theorem dX12_goesOn_9 : decode cX12_goesOn 9 = .ok (.aload_n 0, 1) := by decide +kernel
theorem dX12_goesOn_10 : decode cX12_goesOn 10 = .ok (.iload 4, 2) := by decide +kernel
theorem dX12_goesOn_12 : decode cX12_goesOn 12 = .ok (.iload_n 2, 1) := by decide +kernel
theorem dX12_goesOn_13 : decode cX12_goesOn 13 = .ok (.invokevirtual 322, 3) := by decide +kernel
theorem dX12_goesOn_16 : decode cX12_goesOn 16 = .ok (.istore 5, 2) := by decide +kernel
theorem dX12_goesOn_18 : decode cX12_goesOn 18 = .ok (.iload 5, 2) := by decide +kernel
theorem dX12_goesOn_20 : decode cX12_goesOn 20 = .ok (.iconst (-1), 1) := by decide +kernel
theorem dX12_goesOn_21 : decode cX12_goesOn 21 = .ok (.if_icmp .eq 42, 3) := by decide +kernel
theorem dX12_goesOn_24 : decode cX12_goesOn 24 = .ok (.iload 5, 2) := by decide +kernel
theorem dX12_goesOn_26 : decode cX12_goesOn 26 = .ok (.istore 4, 2) := by decide +kernel
theorem dX12_goesOn_28 : decode cX12_goesOn 28 = .ok (.aload_n 0, 1) := by decide +kernel
theorem dX12_goesOn_29 : decode cX12_goesOn 29 = .ok (.iload 4, 2) := by decide +kernel
theorem dX12_goesOn_31 : decode cX12_goesOn 31 = .ok (.invokevirtual 325, 3) := by decide +kernel
theorem dX12_goesOn_34 : decode cX12_goesOn 34 = .ok (.ifCond .eq 17, 3) := by decide +kernel
theorem dX12_goesOn_37 : decode cX12_goesOn 37 = .ok (.aload_n 0, 1) := by decide +kernel
theorem dX12_goesOn_38 : decode cX12_goesOn 38 = .ok (.dup, 1) := by decide +kernel
theorem dX12_goesOn_39 : decode cX12_goesOn 39 = .ok (.getfield 328, 3) := by decide +kernel
theorem dX12_goesOn_42 : decode cX12_goesOn 42 = .ok (.lconst 1, 1) := by decide +kernel
theorem dX12_goesOn_43 : decode cX12_goesOn 43 = .ok (.iload 4, 2) := by decide +kernel
theorem dX12_goesOn_45 : decode cX12_goesOn 45 = .ok (.lshl, 1) := by decide +kernel
theorem dX12_goesOn_46 : decode cX12_goesOn 46 = .ok (.lor, 1) := by decide +kernel
theorem dX12_goesOn_47 : decode cX12_goesOn 47 = .ok (.putfield 328, 3) := by decide +kernel
theorem dX12_goesOn_50 : decode cX12_goesOn 50 = .ok (.return_, 1) := by decide +kernel
theorem dX12_goesOn_51 : decode cX12_goesOn 51 = .ok (.aload_n 0, 1) := by decide +kernel
theorem dX12_goesOn_52 : decode cX12_goesOn 52 = .ok (.iload 4, 2) := by decide +kernel
theorem dX12_goesOn_54 : decode cX12_goesOn 54 = .ok (.iload_n 2, 1) := by decide +kernel
theorem dX12_goesOn_55 : decode cX12_goesOn 55 = .ok (.invokevirtual 322, 3) := by decide +kernel
theorem dX12_goesOn_58 : decode cX12_goesOn 58 = .ok (.istore 5, 2) := by decide +kernel
theorem dX12_goesOn_60 : decode cX12_goesOn 60 = .ok (.goto (-42), 3) := by decide +kernel
theorem dX12_goesOn_63 : decode cX12_goesOn 63 = .ok (.aload_n 3, 1) := by decide +kernel
theorem dX12_goesOn_64 : decode cX12_goesOn 64 = .ok (.iload_n 2, 1) := by decide +kernel
theorem dX12_goesOn_65 : decode cX12_goesOn 65 = .ok (.dup2, 1) := by decide +kernel
theorem dX12_goesOn_66 : decode cX12_goesOn 66 = .ok (.laload, 1) := by decide +kernel
theorem dX12_goesOn_67 : decode cX12_goesOn 67 = .ok (.lconst 1, 1) := by decide +kernel
theorem dX12_goesOn_68 : decode cX12_goesOn 68 = .ok (.iload 4, 2) := by decide +kernel
theorem dX12_goesOn_70 : decode cX12_goesOn 70 = .ok (.lshl, 1) := by decide +kernel
theorem dX12_goesOn_71 : decode cX12_goesOn 71 = .ok (.lor, 1) := by decide +kernel
theorem dX12_goesOn_72 : decode cX12_goesOn 72 = .ok (.lastore, 1) := by decide +kernel
theorem dX12_goesOn_73 : decode cX12_goesOn 73 = .ok (.return_, 1) := by decide +kernel

set_option maxHeartbeats 4000000 in
set_option maxRecDepth 100000 in
theorem qf_has {D : va_G} {ad : Nat → Nat} {cA : Nat → ClassId} {X : XT} {z : Int64} {i : Int} : MetX (wM D ad cA) yX12_has cX12_has 3 (some .boolean) 0 0 [.long (z), .int (iI (i))] X (fun r X' => X' = X ∧ ∃ u : Int, r = some (.int (iI u)) ∧ u = zB (tb z (i % 64).toNat)) := by
  refine MetX.mk (own := RX12) (by decide +kernel) rfl (nle rfl) (fun E C hQ => ?_)
  refine Wx_lv (lv' := [(0, .long (z)), (2, .int (iI (i)))]) rfl ?_
  refine x_lload_n (i := 0) C dX12_has_0 rfl rfl ?_
  refine x_iload_n (i := 2) C dX12_has_1 rfl rfl ?_
  refine x_lshr C dX12_has_2 ?_
  refine x_genL (fun l1 el1 => ?_)
  refine x_lconst C dX12_has_3 ?_
  refine x_eqL (b := 1) rfl ?_
  refine x_land C dX12_has_4 ?_
  refine x_genL (fun l2 el2 => ?_)
  refine x_lconst C dX12_has_5 ?_
  refine x_eqL (b := 1) rfl ?_
  refine x_lcmp C dX12_has_6 ?_
  refine x_topi (fun v3 rv3 ev3 => ?_)
  have cv3 := lcmp_iff rv3 ev3
  unfold inR at rv3
  refine x_if_ne (tgt := 14) C dX12_has_7 (by decide) ⟨by omega, by omega⟩ (fun h4 => ?_) (fun h4 => ?_)
  · refine x_iconst C dX12_has_14 ?_
    exact x_zret C hQ (by omega) dX12_has_15 (⟨rfl, _, rfl, zB_f (Bool.eq_false_iff.mpr (fun hh => absurd (cv3.1.mpr (by rw [el2, el1]; exact has_iff.mpr hh)) (by omega)))⟩)
  · refine x_iconst C dX12_has_10 ?_
    refine x_goto (tgt := 15) C dX12_has_11 (by decide) ?_
    exact x_zret C hQ (by omega) dX12_has_15 (⟨rfl, _, rfl, zB_t (has_iff.mp (by rw [← el1, ← el2]; exact cv3.1.mp (by omega)))⟩)
set_option maxHeartbeats 4000000 in
set_option maxRecDepth 100000 in
theorem qf_next {D : va_G} {ad : Nat → Nat} {cA : Nat → ClassId} {X : XT} {d : Int} (d0 : 0 ≤ d) (d1 : d ≤ 3) (hw : 2 ≤ X.1 0 22 ∧ X.1 0 22 ≤ 6) (hh : 2 ≤ X.1 0 23 ∧ X.1 0 23 ≤ 6) {p : Int} (p0 : 0 ≤ p) (p1 : p ≤ 35) : MetX (wM D ad cA) yX12_next cX12_next 5 (some .int) 1 22 [.ref 0, .int (iI (p)), .int (iI (d))] X (fun r X' => X' = X ∧ ∃ u : Int, r = some (.int (iI u)) ∧ u = nxtI (X.1 0 22) (X.1 0 23)  p d) := by
  refine MetX.mk (own := RX12) (by decide +kernel) rfl (nle rfl) (fun E C hQ => ?_)
  refine Wx_lv (lv' := [(0, .ref 0), (1, .int (iI (p))), (2, .int (iI (d)))]) rfl ?_
  refine x_iload_n (i := 1) C dX12_next_0 rfl rfl ?_
  refine x_aload_n (i := 0) C dX12_next_1 rfl rfl ?_
  refine x_getI C fkM_X12_278 (nlt rfl) rfl dX12_next_2 ?_
  refine x_gen (fun v1 ev1 => ?_)
  have qv1 : (2 : Int) ≤ v1 ∧ v1 ≤ 6 := by
    rw [ev1]
    exact hw
  refine x_irem C dX12_next_5 (by omega) (by omega) ⟨by omega, by omega⟩ ⟨by omega, by omega⟩ ?_
  have n6 := md_bd (p := p) (w := v1) (by omega) (by omega)
  refine x_iload_n (i := 2) C dX12_next_6 rfl rfl ?_
  refine x_iconst C dX12_next_7 ?_
  refine x_icmp_ne (tgt := 15) C dX12_next_8 (by decide) ⟨by omega, by omega⟩ ⟨by omega, by omega⟩ (fun h2 => ?_) (fun h2 => ?_)
  · refine x_iload_n (i := 2) C dX12_next_15 rfl rfl ?_
    refine x_iconst C dX12_next_16 ?_
    refine x_icmp_ne (tgt := 24) C dX12_next_17 (by decide) ⟨by omega, by omega⟩ ⟨by omega, by omega⟩ (fun h3 => ?_) (fun h3 => ?_)
    · refine x_iconst C dX12_next_24 ?_
      refine x_iadd C dX12_next_25 ?_
      refine x_gen (fun v4 ev4 => ?_)
      refine x_istore_n (i := 3) (lv' := [(3, .int (iI (v4))), (0, .ref 0), (1, .int (iI (p))), (2, .int (iI (d)))]) C dX12_next_26 rfl (nlt rfl) rfl ?_
      refine x_iload_n (i := 1) C dX12_next_27 rfl rfl ?_
      refine x_aload_n (i := 0) C dX12_next_28 rfl rfl ?_
      refine x_getI C fkM_X12_278 (nlt rfl) rfl dX12_next_29 ?_
      refine x_gen (fun v5 ev5 => ?_)
      have qv5 : (2 : Int) ≤ v5 ∧ v5 ≤ 6 := by
        rw [ev5]
        exact hw
      refine x_idiv C dX12_next_32 (by omega) (by omega) ⟨by omega, by omega⟩ ⟨by omega, by omega⟩ ?_
      have n33 := md_bd (p := p) (w := v5) (by omega) (by omega)
      refine x_iload_n (i := 2) C dX12_next_33 rfl rfl ?_
      refine x_iconst C dX12_next_34 ?_
      refine x_icmp_ne (tgt := 42) C dX12_next_35 (by decide) ⟨by omega, by omega⟩ ⟨by omega, by omega⟩ (fun h6 => ?_) (fun h6 => ?_)
      · refine x_iload_n (i := 2) C dX12_next_42 rfl rfl ?_
        refine x_if_ne (tgt := 50) C dX12_next_43 (by decide) ⟨by omega, by omega⟩ (fun h7 => ?_) (fun h7 => ?_)
        · refine x_iconst C dX12_next_50 ?_
          refine x_iadd C dX12_next_51 ?_
          refine x_gen (fun v8 ev8 => ?_)
          refine x_istore (lv' := [(4, .int (iI (v8))), (3, .int (iI (v4))), (0, .ref 0), (1, .int (iI (p))), (2, .int (iI (d)))]) C dX12_next_52 (nlt rfl) rfl ?_
          refine x_iload_n (i := 3) C dX12_next_54 rfl rfl ?_
          refine x_iconst C dX12_next_55 ?_
          refine x_aload_n (i := 0) C dX12_next_56 rfl rfl ?_
          refine x_getI C fkM_X12_278 (nlt rfl) rfl dX12_next_57 ?_
          refine x_gen (fun v9 ev9 => ?_)
          have qv9 : (2 : Int) ≤ v9 ∧ v9 ≤ 6 := by
            rw [ev9]
            exact hw
          refine x_iconst C dX12_next_60 ?_
          refine x_isub C dX12_next_61 ?_
          refine x_callS (As := [.int (iI (v4)), .int (iI (0)), .int (iI (v9 - 1))]) C (by exact (q_in (v := v4) (a := 0) (b := v9 - 1) ⟨by omega, by omega⟩ ⟨by omega, by omega⟩ ⟨by omega, by omega⟩)) ckX12_165 sm_X12_in rfl rfl (nle rfl) (by exact ⟨nle rfl, nle rfl⟩) dX12_next_62 ?_
          rintro _ Xv10 ⟨hxv10, v10, rfl, ev10⟩
          rw [hxv10]
          refine Wx_st (st' := [.int (iI (v10))]) rfl ?_
          refine x_if_eq (tgt := 95) C dX12_next_65 (by decide) ⟨by omega, by omega⟩ (fun h11 => ?_) (fun h11 => ?_)
          · refine x_iconst C dX12_next_95 ?_
            exact x_iret C hQ dX12_next_96 (⟨rfl, _, rfl, nxt_n (x := v4) (y := v8) (by subst_vars; unfold nxX; (repeat' split) <;> omega) (by subst_vars; unfold nxY; (repeat' split) <;> omega) (by omega)⟩)
          · refine x_iload C dX12_next_68 rfl ?_
            refine x_iconst C dX12_next_70 ?_
            refine x_aload_n (i := 0) C dX12_next_71 rfl rfl ?_
            refine x_getI C fkM_X12_281 (nlt rfl) rfl dX12_next_72 ?_
            refine x_gen (fun v12 ev12 => ?_)
            have qv12 : (2 : Int) ≤ v12 ∧ v12 ≤ 6 := by
              rw [ev12]
              exact hh
            refine x_iconst C dX12_next_75 ?_
            refine x_isub C dX12_next_76 ?_
            refine x_callS (As := [.int (iI (v8)), .int (iI (0)), .int (iI (v12 - 1))]) C (by exact (q_in (v := v8) (a := 0) (b := v12 - 1) ⟨by omega, by omega⟩ ⟨by omega, by omega⟩ ⟨by omega, by omega⟩)) ckX12_165 sm_X12_in rfl rfl (nle rfl) (by exact ⟨nle rfl, nle rfl⟩) dX12_next_77 ?_
            rintro _ Xv13 ⟨hxv13, v13, rfl, ev13⟩
            rw [hxv13]
            refine Wx_st (st' := [.int (iI (v13))]) rfl ?_
            refine x_if_eq (tgt := 95) C dX12_next_80 (by decide) ⟨by omega, by omega⟩ (fun h14 => ?_) (fun h14 => ?_)
            · refine x_iconst C dX12_next_95 ?_
              exact x_iret C hQ dX12_next_96 (⟨rfl, _, rfl, nxt_n (x := v4) (y := v8) (by subst_vars; unfold nxX; (repeat' split) <;> omega) (by subst_vars; unfold nxY; (repeat' split) <;> omega) (by omega)⟩)
            · refine x_iload C dX12_next_83 rfl ?_
              refine x_aload_n (i := 0) C dX12_next_85 rfl rfl ?_
              refine x_getI C fkM_X12_278 (nlt rfl) rfl dX12_next_86 ?_
              refine x_gen (fun v15 ev15 => ?_)
              have qv15 : (2 : Int) ≤ v15 ∧ v15 ≤ 6 := by
                rw [ev15]
                exact hw
              refine x_imul C dX12_next_89 ?_
              refine x_iload_n (i := 3) C dX12_next_90 rfl rfl ?_
              refine x_iadd C dX12_next_91 ?_
              refine x_goto (tgt := 96) C dX12_next_92 (by decide) ?_
              exact x_iret C hQ dX12_next_96 (⟨rfl, _, rfl, nxt_y (x := v4) (y := v8) (by subst_vars; unfold nxX; (repeat' split) <;> omega) (by subst_vars; unfold nxY; (repeat' split) <;> omega) (by omega) (by omega)⟩)
        · refine x_iconst C dX12_next_46 ?_
          refine x_goto (tgt := 51) C dX12_next_47 (by decide) ?_
          refine x_iadd C dX12_next_51 ?_
          refine x_gen (fun v16 ev16 => ?_)
          refine x_istore (lv' := [(4, .int (iI (v16))), (3, .int (iI (v4))), (0, .ref 0), (1, .int (iI (p))), (2, .int (iI (d)))]) C dX12_next_52 (nlt rfl) rfl ?_
          refine x_iload_n (i := 3) C dX12_next_54 rfl rfl ?_
          refine x_iconst C dX12_next_55 ?_
          refine x_aload_n (i := 0) C dX12_next_56 rfl rfl ?_
          refine x_getI C fkM_X12_278 (nlt rfl) rfl dX12_next_57 ?_
          refine x_gen (fun v17 ev17 => ?_)
          have qv17 : (2 : Int) ≤ v17 ∧ v17 ≤ 6 := by
            rw [ev17]
            exact hw
          refine x_iconst C dX12_next_60 ?_
          refine x_isub C dX12_next_61 ?_
          refine x_callS (As := [.int (iI (v4)), .int (iI (0)), .int (iI (v17 - 1))]) C (by exact (q_in (v := v4) (a := 0) (b := v17 - 1) ⟨by omega, by omega⟩ ⟨by omega, by omega⟩ ⟨by omega, by omega⟩)) ckX12_165 sm_X12_in rfl rfl (nle rfl) (by exact ⟨nle rfl, nle rfl⟩) dX12_next_62 ?_
          rintro _ Xv18 ⟨hxv18, v18, rfl, ev18⟩
          rw [hxv18]
          refine Wx_st (st' := [.int (iI (v18))]) rfl ?_
          refine x_if_eq (tgt := 95) C dX12_next_65 (by decide) ⟨by omega, by omega⟩ (fun h19 => ?_) (fun h19 => ?_)
          · refine x_iconst C dX12_next_95 ?_
            exact x_iret C hQ dX12_next_96 (⟨rfl, _, rfl, nxt_n (x := v4) (y := v16) (by subst_vars; unfold nxX; (repeat' split) <;> omega) (by subst_vars; unfold nxY; (repeat' split) <;> omega) (by omega)⟩)
          · refine x_iload C dX12_next_68 rfl ?_
            refine x_iconst C dX12_next_70 ?_
            refine x_aload_n (i := 0) C dX12_next_71 rfl rfl ?_
            refine x_getI C fkM_X12_281 (nlt rfl) rfl dX12_next_72 ?_
            refine x_gen (fun v20 ev20 => ?_)
            have qv20 : (2 : Int) ≤ v20 ∧ v20 ≤ 6 := by
              rw [ev20]
              exact hh
            refine x_iconst C dX12_next_75 ?_
            refine x_isub C dX12_next_76 ?_
            refine x_callS (As := [.int (iI (v16)), .int (iI (0)), .int (iI (v20 - 1))]) C (by exact (q_in (v := v16) (a := 0) (b := v20 - 1) ⟨by omega, by omega⟩ ⟨by omega, by omega⟩ ⟨by omega, by omega⟩)) ckX12_165 sm_X12_in rfl rfl (nle rfl) (by exact ⟨nle rfl, nle rfl⟩) dX12_next_77 ?_
            rintro _ Xv21 ⟨hxv21, v21, rfl, ev21⟩
            rw [hxv21]
            refine Wx_st (st' := [.int (iI (v21))]) rfl ?_
            refine x_if_eq (tgt := 95) C dX12_next_80 (by decide) ⟨by omega, by omega⟩ (fun h22 => ?_) (fun h22 => ?_)
            · refine x_iconst C dX12_next_95 ?_
              exact x_iret C hQ dX12_next_96 (⟨rfl, _, rfl, nxt_n (x := v4) (y := v16) (by subst_vars; unfold nxX; (repeat' split) <;> omega) (by subst_vars; unfold nxY; (repeat' split) <;> omega) (by omega)⟩)
            · refine x_iload C dX12_next_83 rfl ?_
              refine x_aload_n (i := 0) C dX12_next_85 rfl rfl ?_
              refine x_getI C fkM_X12_278 (nlt rfl) rfl dX12_next_86 ?_
              refine x_gen (fun v23 ev23 => ?_)
              have qv23 : (2 : Int) ≤ v23 ∧ v23 ≤ 6 := by
                rw [ev23]
                exact hw
              refine x_imul C dX12_next_89 ?_
              refine x_iload_n (i := 3) C dX12_next_90 rfl rfl ?_
              refine x_iadd C dX12_next_91 ?_
              refine x_goto (tgt := 96) C dX12_next_92 (by decide) ?_
              exact x_iret C hQ dX12_next_96 (⟨rfl, _, rfl, nxt_y (x := v4) (y := v16) (by subst_vars; unfold nxX; (repeat' split) <;> omega) (by subst_vars; unfold nxY; (repeat' split) <;> omega) (by omega) (by omega)⟩)
      · refine x_iconst C dX12_next_38 ?_
        refine x_goto (tgt := 51) C dX12_next_39 (by decide) ?_
        refine x_iadd C dX12_next_51 ?_
        refine x_gen (fun v24 ev24 => ?_)
        refine x_istore (lv' := [(4, .int (iI (v24))), (3, .int (iI (v4))), (0, .ref 0), (1, .int (iI (p))), (2, .int (iI (d)))]) C dX12_next_52 (nlt rfl) rfl ?_
        refine x_iload_n (i := 3) C dX12_next_54 rfl rfl ?_
        refine x_iconst C dX12_next_55 ?_
        refine x_aload_n (i := 0) C dX12_next_56 rfl rfl ?_
        refine x_getI C fkM_X12_278 (nlt rfl) rfl dX12_next_57 ?_
        refine x_gen (fun v25 ev25 => ?_)
        have qv25 : (2 : Int) ≤ v25 ∧ v25 ≤ 6 := by
          rw [ev25]
          exact hw
        refine x_iconst C dX12_next_60 ?_
        refine x_isub C dX12_next_61 ?_
        refine x_callS (As := [.int (iI (v4)), .int (iI (0)), .int (iI (v25 - 1))]) C (by exact (q_in (v := v4) (a := 0) (b := v25 - 1) ⟨by omega, by omega⟩ ⟨by omega, by omega⟩ ⟨by omega, by omega⟩)) ckX12_165 sm_X12_in rfl rfl (nle rfl) (by exact ⟨nle rfl, nle rfl⟩) dX12_next_62 ?_
        rintro _ Xv26 ⟨hxv26, v26, rfl, ev26⟩
        rw [hxv26]
        refine Wx_st (st' := [.int (iI (v26))]) rfl ?_
        refine x_if_eq (tgt := 95) C dX12_next_65 (by decide) ⟨by omega, by omega⟩ (fun h27 => ?_) (fun h27 => ?_)
        · refine x_iconst C dX12_next_95 ?_
          exact x_iret C hQ dX12_next_96 (⟨rfl, _, rfl, nxt_n (x := v4) (y := v24) (by subst_vars; unfold nxX; (repeat' split) <;> omega) (by subst_vars; unfold nxY; (repeat' split) <;> omega) (by omega)⟩)
        · refine x_iload C dX12_next_68 rfl ?_
          refine x_iconst C dX12_next_70 ?_
          refine x_aload_n (i := 0) C dX12_next_71 rfl rfl ?_
          refine x_getI C fkM_X12_281 (nlt rfl) rfl dX12_next_72 ?_
          refine x_gen (fun v28 ev28 => ?_)
          have qv28 : (2 : Int) ≤ v28 ∧ v28 ≤ 6 := by
            rw [ev28]
            exact hh
          refine x_iconst C dX12_next_75 ?_
          refine x_isub C dX12_next_76 ?_
          refine x_callS (As := [.int (iI (v24)), .int (iI (0)), .int (iI (v28 - 1))]) C (by exact (q_in (v := v24) (a := 0) (b := v28 - 1) ⟨by omega, by omega⟩ ⟨by omega, by omega⟩ ⟨by omega, by omega⟩)) ckX12_165 sm_X12_in rfl rfl (nle rfl) (by exact ⟨nle rfl, nle rfl⟩) dX12_next_77 ?_
          rintro _ Xv29 ⟨hxv29, v29, rfl, ev29⟩
          rw [hxv29]
          refine Wx_st (st' := [.int (iI (v29))]) rfl ?_
          refine x_if_eq (tgt := 95) C dX12_next_80 (by decide) ⟨by omega, by omega⟩ (fun h30 => ?_) (fun h30 => ?_)
          · refine x_iconst C dX12_next_95 ?_
            exact x_iret C hQ dX12_next_96 (⟨rfl, _, rfl, nxt_n (x := v4) (y := v24) (by subst_vars; unfold nxX; (repeat' split) <;> omega) (by subst_vars; unfold nxY; (repeat' split) <;> omega) (by omega)⟩)
          · refine x_iload C dX12_next_83 rfl ?_
            refine x_aload_n (i := 0) C dX12_next_85 rfl rfl ?_
            refine x_getI C fkM_X12_278 (nlt rfl) rfl dX12_next_86 ?_
            refine x_gen (fun v31 ev31 => ?_)
            have qv31 : (2 : Int) ≤ v31 ∧ v31 ≤ 6 := by
              rw [ev31]
              exact hw
            refine x_imul C dX12_next_89 ?_
            refine x_iload_n (i := 3) C dX12_next_90 rfl rfl ?_
            refine x_iadd C dX12_next_91 ?_
            refine x_goto (tgt := 96) C dX12_next_92 (by decide) ?_
            exact x_iret C hQ dX12_next_96 (⟨rfl, _, rfl, nxt_y (x := v4) (y := v24) (by subst_vars; unfold nxX; (repeat' split) <;> omega) (by subst_vars; unfold nxY; (repeat' split) <;> omega) (by omega) (by omega)⟩)
    · refine x_iconst C dX12_next_20 ?_
      refine x_goto (tgt := 25) C dX12_next_21 (by decide) ?_
      refine x_iadd C dX12_next_25 ?_
      refine x_gen (fun v32 ev32 => ?_)
      refine x_istore_n (i := 3) (lv' := [(3, .int (iI (v32))), (0, .ref 0), (1, .int (iI (p))), (2, .int (iI (d)))]) C dX12_next_26 rfl (nlt rfl) rfl ?_
      refine x_iload_n (i := 1) C dX12_next_27 rfl rfl ?_
      refine x_aload_n (i := 0) C dX12_next_28 rfl rfl ?_
      refine x_getI C fkM_X12_278 (nlt rfl) rfl dX12_next_29 ?_
      refine x_gen (fun v33 ev33 => ?_)
      have qv33 : (2 : Int) ≤ v33 ∧ v33 ≤ 6 := by
        rw [ev33]
        exact hw
      refine x_idiv C dX12_next_32 (by omega) (by omega) ⟨by omega, by omega⟩ ⟨by omega, by omega⟩ ?_
      have n33 := md_bd (p := p) (w := v33) (by omega) (by omega)
      refine x_iload_n (i := 2) C dX12_next_33 rfl rfl ?_
      refine x_iconst C dX12_next_34 ?_
      refine x_icmp_ne (tgt := 42) C dX12_next_35 (by decide) ⟨by omega, by omega⟩ ⟨by omega, by omega⟩ (fun h34 => ?_) (fun h34 => ?_)
      · refine x_iload_n (i := 2) C dX12_next_42 rfl rfl ?_
        refine x_if_ne (tgt := 50) C dX12_next_43 (by decide) ⟨by omega, by omega⟩ (fun h35 => ?_) (fun h35 => ?_)
        · refine x_iconst C dX12_next_50 ?_
          refine x_iadd C dX12_next_51 ?_
          refine x_gen (fun v36 ev36 => ?_)
          refine x_istore (lv' := [(4, .int (iI (v36))), (3, .int (iI (v32))), (0, .ref 0), (1, .int (iI (p))), (2, .int (iI (d)))]) C dX12_next_52 (nlt rfl) rfl ?_
          refine x_iload_n (i := 3) C dX12_next_54 rfl rfl ?_
          refine x_iconst C dX12_next_55 ?_
          refine x_aload_n (i := 0) C dX12_next_56 rfl rfl ?_
          refine x_getI C fkM_X12_278 (nlt rfl) rfl dX12_next_57 ?_
          refine x_gen (fun v37 ev37 => ?_)
          have qv37 : (2 : Int) ≤ v37 ∧ v37 ≤ 6 := by
            rw [ev37]
            exact hw
          refine x_iconst C dX12_next_60 ?_
          refine x_isub C dX12_next_61 ?_
          refine x_callS (As := [.int (iI (v32)), .int (iI (0)), .int (iI (v37 - 1))]) C (by exact (q_in (v := v32) (a := 0) (b := v37 - 1) ⟨by omega, by omega⟩ ⟨by omega, by omega⟩ ⟨by omega, by omega⟩)) ckX12_165 sm_X12_in rfl rfl (nle rfl) (by exact ⟨nle rfl, nle rfl⟩) dX12_next_62 ?_
          rintro _ Xv38 ⟨hxv38, v38, rfl, ev38⟩
          rw [hxv38]
          refine Wx_st (st' := [.int (iI (v38))]) rfl ?_
          refine x_if_eq (tgt := 95) C dX12_next_65 (by decide) ⟨by omega, by omega⟩ (fun h39 => ?_) (fun h39 => ?_)
          · refine x_iconst C dX12_next_95 ?_
            exact x_iret C hQ dX12_next_96 (⟨rfl, _, rfl, nxt_n (x := v32) (y := v36) (by subst_vars; unfold nxX; (repeat' split) <;> omega) (by subst_vars; unfold nxY; (repeat' split) <;> omega) (by omega)⟩)
          · refine x_iload C dX12_next_68 rfl ?_
            refine x_iconst C dX12_next_70 ?_
            refine x_aload_n (i := 0) C dX12_next_71 rfl rfl ?_
            refine x_getI C fkM_X12_281 (nlt rfl) rfl dX12_next_72 ?_
            refine x_gen (fun v40 ev40 => ?_)
            have qv40 : (2 : Int) ≤ v40 ∧ v40 ≤ 6 := by
              rw [ev40]
              exact hh
            refine x_iconst C dX12_next_75 ?_
            refine x_isub C dX12_next_76 ?_
            refine x_callS (As := [.int (iI (v36)), .int (iI (0)), .int (iI (v40 - 1))]) C (by exact (q_in (v := v36) (a := 0) (b := v40 - 1) ⟨by omega, by omega⟩ ⟨by omega, by omega⟩ ⟨by omega, by omega⟩)) ckX12_165 sm_X12_in rfl rfl (nle rfl) (by exact ⟨nle rfl, nle rfl⟩) dX12_next_77 ?_
            rintro _ Xv41 ⟨hxv41, v41, rfl, ev41⟩
            rw [hxv41]
            refine Wx_st (st' := [.int (iI (v41))]) rfl ?_
            refine x_if_eq (tgt := 95) C dX12_next_80 (by decide) ⟨by omega, by omega⟩ (fun h42 => ?_) (fun h42 => ?_)
            · refine x_iconst C dX12_next_95 ?_
              exact x_iret C hQ dX12_next_96 (⟨rfl, _, rfl, nxt_n (x := v32) (y := v36) (by subst_vars; unfold nxX; (repeat' split) <;> omega) (by subst_vars; unfold nxY; (repeat' split) <;> omega) (by omega)⟩)
            · refine x_iload C dX12_next_83 rfl ?_
              refine x_aload_n (i := 0) C dX12_next_85 rfl rfl ?_
              refine x_getI C fkM_X12_278 (nlt rfl) rfl dX12_next_86 ?_
              refine x_gen (fun v43 ev43 => ?_)
              have qv43 : (2 : Int) ≤ v43 ∧ v43 ≤ 6 := by
                rw [ev43]
                exact hw
              refine x_imul C dX12_next_89 ?_
              refine x_iload_n (i := 3) C dX12_next_90 rfl rfl ?_
              refine x_iadd C dX12_next_91 ?_
              refine x_goto (tgt := 96) C dX12_next_92 (by decide) ?_
              exact x_iret C hQ dX12_next_96 (⟨rfl, _, rfl, nxt_y (x := v32) (y := v36) (by subst_vars; unfold nxX; (repeat' split) <;> omega) (by subst_vars; unfold nxY; (repeat' split) <;> omega) (by omega) (by omega)⟩)
        · refine x_iconst C dX12_next_46 ?_
          refine x_goto (tgt := 51) C dX12_next_47 (by decide) ?_
          refine x_iadd C dX12_next_51 ?_
          refine x_gen (fun v44 ev44 => ?_)
          refine x_istore (lv' := [(4, .int (iI (v44))), (3, .int (iI (v32))), (0, .ref 0), (1, .int (iI (p))), (2, .int (iI (d)))]) C dX12_next_52 (nlt rfl) rfl ?_
          refine x_iload_n (i := 3) C dX12_next_54 rfl rfl ?_
          refine x_iconst C dX12_next_55 ?_
          refine x_aload_n (i := 0) C dX12_next_56 rfl rfl ?_
          refine x_getI C fkM_X12_278 (nlt rfl) rfl dX12_next_57 ?_
          refine x_gen (fun v45 ev45 => ?_)
          have qv45 : (2 : Int) ≤ v45 ∧ v45 ≤ 6 := by
            rw [ev45]
            exact hw
          refine x_iconst C dX12_next_60 ?_
          refine x_isub C dX12_next_61 ?_
          refine x_callS (As := [.int (iI (v32)), .int (iI (0)), .int (iI (v45 - 1))]) C (by exact (q_in (v := v32) (a := 0) (b := v45 - 1) ⟨by omega, by omega⟩ ⟨by omega, by omega⟩ ⟨by omega, by omega⟩)) ckX12_165 sm_X12_in rfl rfl (nle rfl) (by exact ⟨nle rfl, nle rfl⟩) dX12_next_62 ?_
          rintro _ Xv46 ⟨hxv46, v46, rfl, ev46⟩
          rw [hxv46]
          refine Wx_st (st' := [.int (iI (v46))]) rfl ?_
          refine x_if_eq (tgt := 95) C dX12_next_65 (by decide) ⟨by omega, by omega⟩ (fun h47 => ?_) (fun h47 => ?_)
          · refine x_iconst C dX12_next_95 ?_
            exact x_iret C hQ dX12_next_96 (⟨rfl, _, rfl, nxt_n (x := v32) (y := v44) (by subst_vars; unfold nxX; (repeat' split) <;> omega) (by subst_vars; unfold nxY; (repeat' split) <;> omega) (by omega)⟩)
          · refine x_iload C dX12_next_68 rfl ?_
            refine x_iconst C dX12_next_70 ?_
            refine x_aload_n (i := 0) C dX12_next_71 rfl rfl ?_
            refine x_getI C fkM_X12_281 (nlt rfl) rfl dX12_next_72 ?_
            refine x_gen (fun v48 ev48 => ?_)
            have qv48 : (2 : Int) ≤ v48 ∧ v48 ≤ 6 := by
              rw [ev48]
              exact hh
            refine x_iconst C dX12_next_75 ?_
            refine x_isub C dX12_next_76 ?_
            refine x_callS (As := [.int (iI (v44)), .int (iI (0)), .int (iI (v48 - 1))]) C (by exact (q_in (v := v44) (a := 0) (b := v48 - 1) ⟨by omega, by omega⟩ ⟨by omega, by omega⟩ ⟨by omega, by omega⟩)) ckX12_165 sm_X12_in rfl rfl (nle rfl) (by exact ⟨nle rfl, nle rfl⟩) dX12_next_77 ?_
            rintro _ Xv49 ⟨hxv49, v49, rfl, ev49⟩
            rw [hxv49]
            refine Wx_st (st' := [.int (iI (v49))]) rfl ?_
            refine x_if_eq (tgt := 95) C dX12_next_80 (by decide) ⟨by omega, by omega⟩ (fun h50 => ?_) (fun h50 => ?_)
            · refine x_iconst C dX12_next_95 ?_
              exact x_iret C hQ dX12_next_96 (⟨rfl, _, rfl, nxt_n (x := v32) (y := v44) (by subst_vars; unfold nxX; (repeat' split) <;> omega) (by subst_vars; unfold nxY; (repeat' split) <;> omega) (by omega)⟩)
            · refine x_iload C dX12_next_83 rfl ?_
              refine x_aload_n (i := 0) C dX12_next_85 rfl rfl ?_
              refine x_getI C fkM_X12_278 (nlt rfl) rfl dX12_next_86 ?_
              refine x_gen (fun v51 ev51 => ?_)
              have qv51 : (2 : Int) ≤ v51 ∧ v51 ≤ 6 := by
                rw [ev51]
                exact hw
              refine x_imul C dX12_next_89 ?_
              refine x_iload_n (i := 3) C dX12_next_90 rfl rfl ?_
              refine x_iadd C dX12_next_91 ?_
              refine x_goto (tgt := 96) C dX12_next_92 (by decide) ?_
              exact x_iret C hQ dX12_next_96 (⟨rfl, _, rfl, nxt_y (x := v32) (y := v44) (by subst_vars; unfold nxX; (repeat' split) <;> omega) (by subst_vars; unfold nxY; (repeat' split) <;> omega) (by omega) (by omega)⟩)
      · refine x_iconst C dX12_next_38 ?_
        refine x_goto (tgt := 51) C dX12_next_39 (by decide) ?_
        refine x_iadd C dX12_next_51 ?_
        refine x_gen (fun v52 ev52 => ?_)
        refine x_istore (lv' := [(4, .int (iI (v52))), (3, .int (iI (v32))), (0, .ref 0), (1, .int (iI (p))), (2, .int (iI (d)))]) C dX12_next_52 (nlt rfl) rfl ?_
        refine x_iload_n (i := 3) C dX12_next_54 rfl rfl ?_
        refine x_iconst C dX12_next_55 ?_
        refine x_aload_n (i := 0) C dX12_next_56 rfl rfl ?_
        refine x_getI C fkM_X12_278 (nlt rfl) rfl dX12_next_57 ?_
        refine x_gen (fun v53 ev53 => ?_)
        have qv53 : (2 : Int) ≤ v53 ∧ v53 ≤ 6 := by
          rw [ev53]
          exact hw
        refine x_iconst C dX12_next_60 ?_
        refine x_isub C dX12_next_61 ?_
        refine x_callS (As := [.int (iI (v32)), .int (iI (0)), .int (iI (v53 - 1))]) C (by exact (q_in (v := v32) (a := 0) (b := v53 - 1) ⟨by omega, by omega⟩ ⟨by omega, by omega⟩ ⟨by omega, by omega⟩)) ckX12_165 sm_X12_in rfl rfl (nle rfl) (by exact ⟨nle rfl, nle rfl⟩) dX12_next_62 ?_
        rintro _ Xv54 ⟨hxv54, v54, rfl, ev54⟩
        rw [hxv54]
        refine Wx_st (st' := [.int (iI (v54))]) rfl ?_
        refine x_if_eq (tgt := 95) C dX12_next_65 (by decide) ⟨by omega, by omega⟩ (fun h55 => ?_) (fun h55 => ?_)
        · refine x_iconst C dX12_next_95 ?_
          exact x_iret C hQ dX12_next_96 (⟨rfl, _, rfl, nxt_n (x := v32) (y := v52) (by subst_vars; unfold nxX; (repeat' split) <;> omega) (by subst_vars; unfold nxY; (repeat' split) <;> omega) (by omega)⟩)
        · refine x_iload C dX12_next_68 rfl ?_
          refine x_iconst C dX12_next_70 ?_
          refine x_aload_n (i := 0) C dX12_next_71 rfl rfl ?_
          refine x_getI C fkM_X12_281 (nlt rfl) rfl dX12_next_72 ?_
          refine x_gen (fun v56 ev56 => ?_)
          have qv56 : (2 : Int) ≤ v56 ∧ v56 ≤ 6 := by
            rw [ev56]
            exact hh
          refine x_iconst C dX12_next_75 ?_
          refine x_isub C dX12_next_76 ?_
          refine x_callS (As := [.int (iI (v52)), .int (iI (0)), .int (iI (v56 - 1))]) C (by exact (q_in (v := v52) (a := 0) (b := v56 - 1) ⟨by omega, by omega⟩ ⟨by omega, by omega⟩ ⟨by omega, by omega⟩)) ckX12_165 sm_X12_in rfl rfl (nle rfl) (by exact ⟨nle rfl, nle rfl⟩) dX12_next_77 ?_
          rintro _ Xv57 ⟨hxv57, v57, rfl, ev57⟩
          rw [hxv57]
          refine Wx_st (st' := [.int (iI (v57))]) rfl ?_
          refine x_if_eq (tgt := 95) C dX12_next_80 (by decide) ⟨by omega, by omega⟩ (fun h58 => ?_) (fun h58 => ?_)
          · refine x_iconst C dX12_next_95 ?_
            exact x_iret C hQ dX12_next_96 (⟨rfl, _, rfl, nxt_n (x := v32) (y := v52) (by subst_vars; unfold nxX; (repeat' split) <;> omega) (by subst_vars; unfold nxY; (repeat' split) <;> omega) (by omega)⟩)
          · refine x_iload C dX12_next_83 rfl ?_
            refine x_aload_n (i := 0) C dX12_next_85 rfl rfl ?_
            refine x_getI C fkM_X12_278 (nlt rfl) rfl dX12_next_86 ?_
            refine x_gen (fun v59 ev59 => ?_)
            have qv59 : (2 : Int) ≤ v59 ∧ v59 ≤ 6 := by
              rw [ev59]
              exact hw
            refine x_imul C dX12_next_89 ?_
            refine x_iload_n (i := 3) C dX12_next_90 rfl rfl ?_
            refine x_iadd C dX12_next_91 ?_
            refine x_goto (tgt := 96) C dX12_next_92 (by decide) ?_
            exact x_iret C hQ dX12_next_96 (⟨rfl, _, rfl, nxt_y (x := v32) (y := v52) (by subst_vars; unfold nxX; (repeat' split) <;> omega) (by subst_vars; unfold nxY; (repeat' split) <;> omega) (by omega) (by omega)⟩)
  · refine x_iconst C dX12_next_11 ?_
    refine x_goto (tgt := 25) C dX12_next_12 (by decide) ?_
    refine x_iadd C dX12_next_25 ?_
    refine x_gen (fun v60 ev60 => ?_)
    refine x_istore_n (i := 3) (lv' := [(3, .int (iI (v60))), (0, .ref 0), (1, .int (iI (p))), (2, .int (iI (d)))]) C dX12_next_26 rfl (nlt rfl) rfl ?_
    refine x_iload_n (i := 1) C dX12_next_27 rfl rfl ?_
    refine x_aload_n (i := 0) C dX12_next_28 rfl rfl ?_
    refine x_getI C fkM_X12_278 (nlt rfl) rfl dX12_next_29 ?_
    refine x_gen (fun v61 ev61 => ?_)
    have qv61 : (2 : Int) ≤ v61 ∧ v61 ≤ 6 := by
      rw [ev61]
      exact hw
    refine x_idiv C dX12_next_32 (by omega) (by omega) ⟨by omega, by omega⟩ ⟨by omega, by omega⟩ ?_
    have n33 := md_bd (p := p) (w := v61) (by omega) (by omega)
    refine x_iload_n (i := 2) C dX12_next_33 rfl rfl ?_
    refine x_iconst C dX12_next_34 ?_
    refine x_icmp_ne (tgt := 42) C dX12_next_35 (by decide) ⟨by omega, by omega⟩ ⟨by omega, by omega⟩ (fun h62 => ?_) (fun h62 => ?_)
    · refine x_iload_n (i := 2) C dX12_next_42 rfl rfl ?_
      refine x_if_ne (tgt := 50) C dX12_next_43 (by decide) ⟨by omega, by omega⟩ (fun h63 => ?_) (fun h63 => ?_)
      · refine x_iconst C dX12_next_50 ?_
        refine x_iadd C dX12_next_51 ?_
        refine x_gen (fun v64 ev64 => ?_)
        refine x_istore (lv' := [(4, .int (iI (v64))), (3, .int (iI (v60))), (0, .ref 0), (1, .int (iI (p))), (2, .int (iI (d)))]) C dX12_next_52 (nlt rfl) rfl ?_
        refine x_iload_n (i := 3) C dX12_next_54 rfl rfl ?_
        refine x_iconst C dX12_next_55 ?_
        refine x_aload_n (i := 0) C dX12_next_56 rfl rfl ?_
        refine x_getI C fkM_X12_278 (nlt rfl) rfl dX12_next_57 ?_
        refine x_gen (fun v65 ev65 => ?_)
        have qv65 : (2 : Int) ≤ v65 ∧ v65 ≤ 6 := by
          rw [ev65]
          exact hw
        refine x_iconst C dX12_next_60 ?_
        refine x_isub C dX12_next_61 ?_
        refine x_callS (As := [.int (iI (v60)), .int (iI (0)), .int (iI (v65 - 1))]) C (by exact (q_in (v := v60) (a := 0) (b := v65 - 1) ⟨by omega, by omega⟩ ⟨by omega, by omega⟩ ⟨by omega, by omega⟩)) ckX12_165 sm_X12_in rfl rfl (nle rfl) (by exact ⟨nle rfl, nle rfl⟩) dX12_next_62 ?_
        rintro _ Xv66 ⟨hxv66, v66, rfl, ev66⟩
        rw [hxv66]
        refine Wx_st (st' := [.int (iI (v66))]) rfl ?_
        refine x_if_eq (tgt := 95) C dX12_next_65 (by decide) ⟨by omega, by omega⟩ (fun h67 => ?_) (fun h67 => ?_)
        · refine x_iconst C dX12_next_95 ?_
          exact x_iret C hQ dX12_next_96 (⟨rfl, _, rfl, nxt_n (x := v60) (y := v64) (by subst_vars; unfold nxX; (repeat' split) <;> omega) (by subst_vars; unfold nxY; (repeat' split) <;> omega) (by omega)⟩)
        · refine x_iload C dX12_next_68 rfl ?_
          refine x_iconst C dX12_next_70 ?_
          refine x_aload_n (i := 0) C dX12_next_71 rfl rfl ?_
          refine x_getI C fkM_X12_281 (nlt rfl) rfl dX12_next_72 ?_
          refine x_gen (fun v68 ev68 => ?_)
          have qv68 : (2 : Int) ≤ v68 ∧ v68 ≤ 6 := by
            rw [ev68]
            exact hh
          refine x_iconst C dX12_next_75 ?_
          refine x_isub C dX12_next_76 ?_
          refine x_callS (As := [.int (iI (v64)), .int (iI (0)), .int (iI (v68 - 1))]) C (by exact (q_in (v := v64) (a := 0) (b := v68 - 1) ⟨by omega, by omega⟩ ⟨by omega, by omega⟩ ⟨by omega, by omega⟩)) ckX12_165 sm_X12_in rfl rfl (nle rfl) (by exact ⟨nle rfl, nle rfl⟩) dX12_next_77 ?_
          rintro _ Xv69 ⟨hxv69, v69, rfl, ev69⟩
          rw [hxv69]
          refine Wx_st (st' := [.int (iI (v69))]) rfl ?_
          refine x_if_eq (tgt := 95) C dX12_next_80 (by decide) ⟨by omega, by omega⟩ (fun h70 => ?_) (fun h70 => ?_)
          · refine x_iconst C dX12_next_95 ?_
            exact x_iret C hQ dX12_next_96 (⟨rfl, _, rfl, nxt_n (x := v60) (y := v64) (by subst_vars; unfold nxX; (repeat' split) <;> omega) (by subst_vars; unfold nxY; (repeat' split) <;> omega) (by omega)⟩)
          · refine x_iload C dX12_next_83 rfl ?_
            refine x_aload_n (i := 0) C dX12_next_85 rfl rfl ?_
            refine x_getI C fkM_X12_278 (nlt rfl) rfl dX12_next_86 ?_
            refine x_gen (fun v71 ev71 => ?_)
            have qv71 : (2 : Int) ≤ v71 ∧ v71 ≤ 6 := by
              rw [ev71]
              exact hw
            refine x_imul C dX12_next_89 ?_
            refine x_iload_n (i := 3) C dX12_next_90 rfl rfl ?_
            refine x_iadd C dX12_next_91 ?_
            refine x_goto (tgt := 96) C dX12_next_92 (by decide) ?_
            exact x_iret C hQ dX12_next_96 (⟨rfl, _, rfl, nxt_y (x := v60) (y := v64) (by subst_vars; unfold nxX; (repeat' split) <;> omega) (by subst_vars; unfold nxY; (repeat' split) <;> omega) (by omega) (by omega)⟩)
      · refine x_iconst C dX12_next_46 ?_
        refine x_goto (tgt := 51) C dX12_next_47 (by decide) ?_
        refine x_iadd C dX12_next_51 ?_
        refine x_gen (fun v72 ev72 => ?_)
        refine x_istore (lv' := [(4, .int (iI (v72))), (3, .int (iI (v60))), (0, .ref 0), (1, .int (iI (p))), (2, .int (iI (d)))]) C dX12_next_52 (nlt rfl) rfl ?_
        refine x_iload_n (i := 3) C dX12_next_54 rfl rfl ?_
        refine x_iconst C dX12_next_55 ?_
        refine x_aload_n (i := 0) C dX12_next_56 rfl rfl ?_
        refine x_getI C fkM_X12_278 (nlt rfl) rfl dX12_next_57 ?_
        refine x_gen (fun v73 ev73 => ?_)
        have qv73 : (2 : Int) ≤ v73 ∧ v73 ≤ 6 := by
          rw [ev73]
          exact hw
        refine x_iconst C dX12_next_60 ?_
        refine x_isub C dX12_next_61 ?_
        refine x_callS (As := [.int (iI (v60)), .int (iI (0)), .int (iI (v73 - 1))]) C (by exact (q_in (v := v60) (a := 0) (b := v73 - 1) ⟨by omega, by omega⟩ ⟨by omega, by omega⟩ ⟨by omega, by omega⟩)) ckX12_165 sm_X12_in rfl rfl (nle rfl) (by exact ⟨nle rfl, nle rfl⟩) dX12_next_62 ?_
        rintro _ Xv74 ⟨hxv74, v74, rfl, ev74⟩
        rw [hxv74]
        refine Wx_st (st' := [.int (iI (v74))]) rfl ?_
        refine x_if_eq (tgt := 95) C dX12_next_65 (by decide) ⟨by omega, by omega⟩ (fun h75 => ?_) (fun h75 => ?_)
        · refine x_iconst C dX12_next_95 ?_
          exact x_iret C hQ dX12_next_96 (⟨rfl, _, rfl, nxt_n (x := v60) (y := v72) (by subst_vars; unfold nxX; (repeat' split) <;> omega) (by subst_vars; unfold nxY; (repeat' split) <;> omega) (by omega)⟩)
        · refine x_iload C dX12_next_68 rfl ?_
          refine x_iconst C dX12_next_70 ?_
          refine x_aload_n (i := 0) C dX12_next_71 rfl rfl ?_
          refine x_getI C fkM_X12_281 (nlt rfl) rfl dX12_next_72 ?_
          refine x_gen (fun v76 ev76 => ?_)
          have qv76 : (2 : Int) ≤ v76 ∧ v76 ≤ 6 := by
            rw [ev76]
            exact hh
          refine x_iconst C dX12_next_75 ?_
          refine x_isub C dX12_next_76 ?_
          refine x_callS (As := [.int (iI (v72)), .int (iI (0)), .int (iI (v76 - 1))]) C (by exact (q_in (v := v72) (a := 0) (b := v76 - 1) ⟨by omega, by omega⟩ ⟨by omega, by omega⟩ ⟨by omega, by omega⟩)) ckX12_165 sm_X12_in rfl rfl (nle rfl) (by exact ⟨nle rfl, nle rfl⟩) dX12_next_77 ?_
          rintro _ Xv77 ⟨hxv77, v77, rfl, ev77⟩
          rw [hxv77]
          refine Wx_st (st' := [.int (iI (v77))]) rfl ?_
          refine x_if_eq (tgt := 95) C dX12_next_80 (by decide) ⟨by omega, by omega⟩ (fun h78 => ?_) (fun h78 => ?_)
          · refine x_iconst C dX12_next_95 ?_
            exact x_iret C hQ dX12_next_96 (⟨rfl, _, rfl, nxt_n (x := v60) (y := v72) (by subst_vars; unfold nxX; (repeat' split) <;> omega) (by subst_vars; unfold nxY; (repeat' split) <;> omega) (by omega)⟩)
          · refine x_iload C dX12_next_83 rfl ?_
            refine x_aload_n (i := 0) C dX12_next_85 rfl rfl ?_
            refine x_getI C fkM_X12_278 (nlt rfl) rfl dX12_next_86 ?_
            refine x_gen (fun v79 ev79 => ?_)
            have qv79 : (2 : Int) ≤ v79 ∧ v79 ≤ 6 := by
              rw [ev79]
              exact hw
            refine x_imul C dX12_next_89 ?_
            refine x_iload_n (i := 3) C dX12_next_90 rfl rfl ?_
            refine x_iadd C dX12_next_91 ?_
            refine x_goto (tgt := 96) C dX12_next_92 (by decide) ?_
            exact x_iret C hQ dX12_next_96 (⟨rfl, _, rfl, nxt_y (x := v60) (y := v72) (by subst_vars; unfold nxX; (repeat' split) <;> omega) (by subst_vars; unfold nxY; (repeat' split) <;> omega) (by omega) (by omega)⟩)
    · refine x_iconst C dX12_next_38 ?_
      refine x_goto (tgt := 51) C dX12_next_39 (by decide) ?_
      refine x_iadd C dX12_next_51 ?_
      refine x_gen (fun v80 ev80 => ?_)
      refine x_istore (lv' := [(4, .int (iI (v80))), (3, .int (iI (v60))), (0, .ref 0), (1, .int (iI (p))), (2, .int (iI (d)))]) C dX12_next_52 (nlt rfl) rfl ?_
      refine x_iload_n (i := 3) C dX12_next_54 rfl rfl ?_
      refine x_iconst C dX12_next_55 ?_
      refine x_aload_n (i := 0) C dX12_next_56 rfl rfl ?_
      refine x_getI C fkM_X12_278 (nlt rfl) rfl dX12_next_57 ?_
      refine x_gen (fun v81 ev81 => ?_)
      have qv81 : (2 : Int) ≤ v81 ∧ v81 ≤ 6 := by
        rw [ev81]
        exact hw
      refine x_iconst C dX12_next_60 ?_
      refine x_isub C dX12_next_61 ?_
      refine x_callS (As := [.int (iI (v60)), .int (iI (0)), .int (iI (v81 - 1))]) C (by exact (q_in (v := v60) (a := 0) (b := v81 - 1) ⟨by omega, by omega⟩ ⟨by omega, by omega⟩ ⟨by omega, by omega⟩)) ckX12_165 sm_X12_in rfl rfl (nle rfl) (by exact ⟨nle rfl, nle rfl⟩) dX12_next_62 ?_
      rintro _ Xv82 ⟨hxv82, v82, rfl, ev82⟩
      rw [hxv82]
      refine Wx_st (st' := [.int (iI (v82))]) rfl ?_
      refine x_if_eq (tgt := 95) C dX12_next_65 (by decide) ⟨by omega, by omega⟩ (fun h83 => ?_) (fun h83 => ?_)
      · refine x_iconst C dX12_next_95 ?_
        exact x_iret C hQ dX12_next_96 (⟨rfl, _, rfl, nxt_n (x := v60) (y := v80) (by subst_vars; unfold nxX; (repeat' split) <;> omega) (by subst_vars; unfold nxY; (repeat' split) <;> omega) (by omega)⟩)
      · refine x_iload C dX12_next_68 rfl ?_
        refine x_iconst C dX12_next_70 ?_
        refine x_aload_n (i := 0) C dX12_next_71 rfl rfl ?_
        refine x_getI C fkM_X12_281 (nlt rfl) rfl dX12_next_72 ?_
        refine x_gen (fun v84 ev84 => ?_)
        have qv84 : (2 : Int) ≤ v84 ∧ v84 ≤ 6 := by
          rw [ev84]
          exact hh
        refine x_iconst C dX12_next_75 ?_
        refine x_isub C dX12_next_76 ?_
        refine x_callS (As := [.int (iI (v80)), .int (iI (0)), .int (iI (v84 - 1))]) C (by exact (q_in (v := v80) (a := 0) (b := v84 - 1) ⟨by omega, by omega⟩ ⟨by omega, by omega⟩ ⟨by omega, by omega⟩)) ckX12_165 sm_X12_in rfl rfl (nle rfl) (by exact ⟨nle rfl, nle rfl⟩) dX12_next_77 ?_
        rintro _ Xv85 ⟨hxv85, v85, rfl, ev85⟩
        rw [hxv85]
        refine Wx_st (st' := [.int (iI (v85))]) rfl ?_
        refine x_if_eq (tgt := 95) C dX12_next_80 (by decide) ⟨by omega, by omega⟩ (fun h86 => ?_) (fun h86 => ?_)
        · refine x_iconst C dX12_next_95 ?_
          exact x_iret C hQ dX12_next_96 (⟨rfl, _, rfl, nxt_n (x := v60) (y := v80) (by subst_vars; unfold nxX; (repeat' split) <;> omega) (by subst_vars; unfold nxY; (repeat' split) <;> omega) (by omega)⟩)
        · refine x_iload C dX12_next_83 rfl ?_
          refine x_aload_n (i := 0) C dX12_next_85 rfl rfl ?_
          refine x_getI C fkM_X12_278 (nlt rfl) rfl dX12_next_86 ?_
          refine x_gen (fun v87 ev87 => ?_)
          have qv87 : (2 : Int) ≤ v87 ∧ v87 ≤ 6 := by
            rw [ev87]
            exact hw
          refine x_imul C dX12_next_89 ?_
          refine x_iload_n (i := 3) C dX12_next_90 rfl rfl ?_
          refine x_iadd C dX12_next_91 ?_
          refine x_goto (tgt := 96) C dX12_next_92 (by decide) ?_
          exact x_iret C hQ dX12_next_96 (⟨rfl, _, rfl, nxt_y (x := v60) (y := v80) (by subst_vars; unfold nxX; (repeat' split) <;> omega) (by subst_vars; unfold nxY; (repeat' split) <;> omega) (by omega) (by omega)⟩)
def stpI (X : XT) (p d : Int) : Int := if nxtI (X.1 0 22) (X.1 0 23)  p d = -1 then -1 else if tb (X.2.1 0 26 ||| X.2.1 0 32) (nxtI (X.1 0 22) (X.1 0 23)  p d % 64).toNat = true then -1 else nxtI (X.1 0 22) (X.1 0 23)  p d
theorem stp_c {X : XT} {p d : Int} (h : stpI X p d ≠ -1) : stpI X p d = nxtI (X.1 0 22) (X.1 0 23)  p d ∧ nxtI (X.1 0 22) (X.1 0 23)  p d ≠ -1 := by
  unfold stpI at h ⊢
  split
  · rename_i c
    rw [if_pos c] at h
    exact absurd rfl h
  · rename_i c
    rw [if_neg c] at h
    split
    · rename_i c2
      rw [if_pos c2] at h
      exact absurd rfl h
    · exact ⟨rfl, c⟩
theorem stp_bd {X : XT} {p d : Int} (hw : 2 ≤ X.1 0 22 ∧ X.1 0 22 ≤ 6) (hh : 2 ≤ X.1 0 23 ∧ X.1 0 23 ≤ 6) : stpI X p d = -1 ∨ (0 ≤ stpI X p d ∧ stpI X p d ≤ 35) := by
  by_cases h : stpI X p d = -1
  · exact .inl h
  · rw [(stp_c h).1]
    exact nxt_bd hw hh
theorem stp_dec {X : XT} {p d : Int} (hw : 2 ≤ X.1 0 22 ∧ X.1 0 22 ≤ 6) (hh : 2 ≤ X.1 0 23 ∧ X.1 0 23 ≤ 6) (p0 : 0 ≤ p) (p1 : p ≤ 35) (d0 : 0 ≤ d) (d1 : d ≤ 3) (h : stpI X p d ≠ -1) : rkI (X.1 0 22) (X.1 0 23) d (stpI X p d) < rkI (X.1 0 22) (X.1 0 23) d p ∧ rkI (X.1 0 22) (X.1 0 23) d p ≤ 6 := by
  obtain ⟨e, c⟩ := stp_c h
  rw [e]
  exact ⟨rk_dec hw p0 p1 d0 d1 c, rk_bd hw hh p0 p1 d0 d1 c⟩
theorem stp_cg {X Y : XT} (h1 : Y.1 0 22 = X.1 0 22) (h2 : Y.1 0 23 = X.1 0 23) (h3 : Y.2.1 0 26 = X.2.1 0 26) (h4 : Y.2.1 0 32 = X.2.1 0 32) (p d : Int) : stpI Y p d = stpI X p d := by
  unfold stpI
  rw [h1, h2, h3, h4]
set_option maxHeartbeats 4000000 in
set_option maxRecDepth 100000 in
theorem qf_step {D : va_G} {ad : Nat → Nat} {cA : Nat → ClassId} {X : XT} {d : Int} (d0 : 0 ≤ d) (d1 : d ≤ 3) (hw : 2 ≤ X.1 0 22 ∧ X.1 0 22 ≤ 6) (hh : 2 ≤ X.1 0 23 ∧ X.1 0 23 ≤ 6) {p : Int} (p0 : 0 ≤ p) (p1 : p ≤ 35) : MetX (wM D ad cA) yX12_step cX12_step 4 (some .int) 2 46 [.ref 0, .int (iI (p)), .int (iI (d))] X (fun r X' => X' = X ∧ ∃ u : Int, r = some (.int (iI u)) ∧ u = stpI X p d) := by
  refine MetX.mk (own := RX12) (by decide +kernel) rfl (nle rfl) (fun E C hQ => ?_)
  refine Wx_lv (lv' := [(0, .ref 0), (1, .int (iI (p))), (2, .int (iI (d)))]) rfl ?_
  refine x_aload_n (i := 0) C dX12_step_0 rfl rfl ?_
  refine x_iload_n (i := 1) C dX12_step_1 rfl rfl ?_
  refine x_iload_n (i := 2) C dX12_step_2 rfl rfl ?_
  refine x_callV (As := [.int (iI (p)), .int (iI (d))]) C (by exact (qf_next (p := p) (d := d) (by omega) (by omega) hw hh (by omega) (by omega))) ckX12_318 im_X12_next se_X12_next (nlt rfl) rfl rfl rfl rfl (nle rfl) (by exact ⟨nle rfl, nle rfl⟩) dX12_step_3 ?_
  rintro _ Xv1 ⟨hxv1, v1, rfl, ev1⟩
  rw [hxv1]
  refine Wx_st (st' := [.int (iI (v1))]) rfl ?_
  refine x_istore_n (i := 3) (lv' := [(3, .int (iI (v1))), (0, .ref 0), (1, .int (iI (p))), (2, .int (iI (d)))]) C dX12_step_6 rfl (nlt rfl) rfl ?_
  have b3 : v1 = -1 ∨ (0 ≤ v1 ∧ v1 ≤ 35) := by rw [ev1]; exact nxt_bd hw hh
  refine x_iload_n (i := 3) C dX12_step_7 rfl rfl ?_
  refine x_iconst C dX12_step_8 ?_
  refine x_icmp_eq (tgt := 28) C dX12_step_9 (by decide) ⟨by omega, by omega⟩ ⟨by omega, by omega⟩ (fun h2 => ?_) (fun h2 => ?_)
  · refine x_iconst C dX12_step_28 ?_
    refine x_goto (tgt := 33) C dX12_step_29 (by decide) ?_
    exact x_iret C hQ dX12_step_33 (⟨rfl, _, rfl, by unfold stpI; rw [← ev1, if_pos (by omega)]⟩)
  · refine x_aload_n (i := 0) C dX12_step_12 rfl rfl ?_
    refine x_getL C fkM_X12_290 (nlt rfl) rfl dX12_step_13 ?_
    refine x_genL (fun l3 el3 => ?_)
    refine x_aload_n (i := 0) C dX12_step_16 rfl rfl ?_
    refine x_getL C fkM_X12_312 (nlt rfl) rfl dX12_step_17 ?_
    refine x_genL (fun l4 el4 => ?_)
    refine x_lor C dX12_step_20 ?_
    refine x_genL (fun l5 el5 => ?_)
    refine x_iload_n (i := 3) C dX12_step_21 rfl rfl ?_
    have el5b : l5 = X.2.1 0 26 ||| X.2.1 0 32 := by rw [el5, el3, el4]
    refine x_callS (As := [.long (l5), .int (iI (v1))]) C (by exact (qf_has (z := l5) (i := v1))) ckX12_299 sm_X12_has rfl rfl (nle rfl) (by exact ⟨nle rfl, nle rfl⟩) dX12_step_22 ?_
    rintro _ Xv6 ⟨hxv6, v6, rfl, ev6⟩
    rw [hxv6]
    have bv6 : 0 ≤ v6 ∧ v6 ≤ 1 := by rw [ev6]; exact zB_01 _
    refine Wx_st (st' := [.int (iI (v6))]) rfl ?_
    refine x_if_eq (tgt := 32) C dX12_step_25 (by decide) ⟨by omega, by omega⟩ (fun h7 => ?_) (fun h7 => ?_)
    · refine x_iload_n (i := 3) C dX12_step_32 rfl rfl ?_
      exact x_iret C hQ dX12_step_33 (⟨rfl, _, rfl, by unfold stpI; rw [← ev1, if_neg (by omega), ← el5b, if_neg (fun hh => by rw [hh] at ev6; have : zB true = 1 := rfl; omega)]⟩)
    · refine x_iconst C dX12_step_28 ?_
      refine x_goto (tgt := 33) C dX12_step_29 (by decide) ?_
      exact x_iret C hQ dX12_step_33 (⟨rfl, _, rfl, by unfold stpI; rw [← ev1, if_neg (by omega), ← el5b, if_pos (by cases hh : tb l5 (v1 % 64).toNat with | false => (rw [hh] at ev6; have : zB false = 0 := rfl; omega) | true => rfl)]⟩)
set_option maxHeartbeats 4000000 in
set_option maxRecDepth 100000 in
theorem qf_endsThere {D : va_G} {ad : Nat → Nat} {cA : Nat → ClassId} {X : XT} {f : Int} : MetX (wM D ad cA) yX12_endsThere cX12_endsThere 2 (some .boolean) 1 22 [.ref 0, .int (iI (f))] X (fun r X' => X' = X ∧ ∃ u : Int, r = some (.int (iI u)) ∧ u = zB (tb (X.2.1 0 33 ||| X.2.1 0 27) (f % 64).toNat)) := by
  refine MetX.mk (own := RX12) (by decide +kernel) rfl (nle rfl) (fun E C hQ => ?_)
  refine Wx_lv (lv' := [(0, .ref 0), (1, .int (iI (f)))]) rfl ?_
  refine x_aload_n (i := 0) C dX12_endsThere_0 rfl rfl ?_
  refine x_getL C fkM_X12_315 (nlt rfl) rfl dX12_endsThere_1 ?_
  refine x_genL (fun l1 el1 => ?_)
  refine x_aload_n (i := 0) C dX12_endsThere_4 rfl rfl ?_
  refine x_getL C fkM_X12_293 (nlt rfl) rfl dX12_endsThere_5 ?_
  refine x_genL (fun l2 el2 => ?_)
  refine x_lor C dX12_endsThere_8 ?_
  refine x_genL (fun l3 el3 => ?_)
  refine x_iload_n (i := 1) C dX12_endsThere_9 rfl rfl ?_
  refine x_callS (As := [.long (l3), .int (iI (f))]) C (by exact (qf_has (z := l3) (i := f))) ckX12_299 sm_X12_has rfl rfl (nle rfl) (by exact ⟨nle rfl, nle rfl⟩) dX12_endsThere_10 ?_
  rintro _ Xv4 ⟨hxv4, v4, rfl, ev4⟩
  rw [hxv4]
  have bv4 : 0 ≤ v4 ∧ v4 ≤ 1 := by rw [ev4]; exact zB_01 _
  refine Wx_st (st' := [.int (iI (v4))]) rfl ?_
  rw [el3, el1, el2] at ev4
  exact x_zret C hQ (by omega) dX12_endsThere_13 (⟨rfl, _, rfl, ev4⟩)
set_option maxHeartbeats 4000000 in
set_option maxRecDepth 100000 in
theorem lq_goesOn19 {D : va_G} {ad : Nat → Nat} {cA : Nat → ClassId} {X : XT} {d : Int} (d0 : 0 ≤ d) (d1 : d ≤ 3) (hH : HG vM X) (hw : 2 ≤ X.1 0 22 ∧ X.1 0 22 ≤ 6) (hh : 2 ≤ X.1 0 23 ∧ X.1 0 23 ≤ 6) {f : Int} {E : ET} (C : CX E (wM D ad cA) cX12_goesOn 6 RX12 none { frames := 3, cells := 0, slots := 0, locals := 69 }) (hQ : EQ E (wM D ad cA) (fun r X1 => r = none ∧ HG vM X1 ∧ FR (cMd k_M_40) X X1)) : ∀ (n : Nat) (p : Int) (t : Int), rkI (X.1 0 22) (X.1 0 23) d p < n → 0 ≤ p → p ≤ 35 → (t = -1 ∨ (0 ≤ t ∧ t ≤ 35)) → (t = -1 ∨ (0 ≤ rkI (X.1 0 22) (X.1 0 23) d t ∧ rkI (X.1 0 22) (X.1 0 23) d t < rkI (X.1 0 22) (X.1 0 23) d p)) → 0 ≤ rkI (X.1 0 22) (X.1 0 23) d p → Wx E (wM D ad cA) 6 (PX (wM D ad cA) X) 18 [(5, .int (iI (t))), (4, .int (iI (p))), (0, .ref 0), (1, .int (iI (f))), (2, .int (iI (d))), (3, .ref 19)] [] := by
  intro n
  induction n with
  | zero => intro p t hn p0 p1 tb tk k0; exfalso; omega
  | succ n ih =>
    intro p t hn p0 p1 tb tk k0
    have hF : FR (cMd k_M_40) X X := FR.rf
    refine x_iload C dX12_goesOn_18 rfl ?_
    refine x_iconst C dX12_goesOn_20 ?_
    refine x_icmp_eq (tgt := 63) C dX12_goesOn_21 (by decide) ⟨by omega, by omega⟩ ⟨by omega, by omega⟩ (fun h1 => ?_) (fun h1 => ?_)
    · refine x_aload_n (i := 3) C dX12_goesOn_63 rfl rfl ?_
      refine x_iload_n (i := 2) C dX12_goesOn_64 rfl rfl ?_
      refine x_dup2_11 C dX12_goesOn_65 rfl rfl ?_
      refine x_lald C (nlt rfl) rfl rfl (nle rfl) (by omega) (by omega) dX12_goesOn_66 ?_
      refine x_genL (fun l2 el2 => ?_)
      have ql2 : (0 : Int) ≤ l2.toInt ∧ l2.toInt ≤ (68719476735 : Int) := by
        rw [el2]
        exact hH.rLA (k := 19) (n := 5) (p := (0, 68719476735)) (nlt rfl) rfl (by decide +kernel) (by omega)
      refine x_lconst C dX12_goesOn_67 ?_
      refine x_eqL (b := 1) rfl ?_
      refine x_iload C dX12_goesOn_68 rfl ?_
      refine x_lshl C dX12_goesOn_70 ?_
      refine x_genL (fun l3 el3 => ?_)
      refine x_lor C dX12_goesOn_71 ?_
      refine x_genL (fun l4 el4 => ?_)
      refine x_last C (nlt rfl) rfl rfl (nle rfl) (by omega) (by omega) dX12_goesOn_72 ?_
      refine x_gX (fun Yy5 eYy5 => ?_)
      have hHy5 : HG vM Yy5 := by
        rw [eYy5]
        exact hg_wLA hH (n := 5) (p := (0, 68719476735)) (by decide +kernel) (by omega) (by rw [el4, el3]; exact m36_or ql2 (m36_bit (by omega) (by omega)))
      have hFy5 : FR (cMd k_M_40) X Yy5 := by
        rw [eYy5]
        exact FR.upL hF (rfl)
      exact x_vret C hQ dX12_goesOn_73 (⟨rfl, hHy5, hFy5⟩)
    · refine x_iload C dX12_goesOn_24 rfl ?_
      refine x_istore (lv' := [(4, .int (iI (t))), (5, .int (iI (t))), (0, .ref 0), (1, .int (iI (f))), (2, .int (iI (d))), (3, .ref 19)]) C dX12_goesOn_26 (nlt rfl) rfl ?_
      refine x_aload_n (i := 0) C dX12_goesOn_28 rfl rfl ?_
      refine x_iload C dX12_goesOn_29 rfl ?_
      refine x_callV (As := [.int (iI (t))]) C (by exact (qf_endsThere (f := t))) ckX12_325 im_X12_endsThere se_X12_endsThere (nlt rfl) rfl rfl rfl rfl (nle rfl) (by exact ⟨nle rfl, nle rfl⟩) dX12_goesOn_31 ?_
      rintro _ Xv6 ⟨hxv6, v6, rfl, ev6⟩
      rw [hxv6]
      have bv6 : 0 ≤ v6 ∧ v6 ≤ 1 := by rw [ev6]; exact zB_01 _
      refine Wx_st (st' := [.int (iI (v6))]) rfl ?_
      refine x_if_eq (tgt := 51) C dX12_goesOn_34 (by decide) ⟨by omega, by omega⟩ (fun h7 => ?_) (fun h7 => ?_)
      · refine x_aload_n (i := 0) C dX12_goesOn_51 rfl rfl ?_
        refine x_iload C dX12_goesOn_52 rfl ?_
        refine x_iload_n (i := 2) C dX12_goesOn_54 rfl rfl ?_
        refine x_callV (As := [.int (iI (t)), .int (iI (d))]) C (by exact (qf_step (p := t) (d := d) (by omega) (by omega) hw hh (by omega) (by omega))) ckX12_322 im_X12_step se_X12_step (nlt rfl) rfl rfl rfl rfl (nle rfl) (by exact ⟨nle rfl, nle rfl⟩) dX12_goesOn_55 ?_
        rintro _ Xv8 ⟨hxv8, v8, rfl, ev8⟩
        rw [hxv8]
        refine Wx_st (st' := [.int (iI (v8))]) rfl ?_
        have bv8 : v8 = -1 ∨ (0 ≤ v8 ∧ v8 ≤ 35) := by rw [ev8]; exact stp_bd hw hh
        have kv8 : v8 = -1 ∨ (0 ≤ rkI (X.1 0 22) (X.1 0 23) d v8 ∧ rkI (X.1 0 22) (X.1 0 23) d v8 < rkI (X.1 0 22) (X.1 0 23) d t) := by
          by_cases q : v8 = -1
          · exact .inl q
          · rw [ev8] at q bv8 ⊢
            exact .inr ⟨rk_nn hw (by omega) (by omega), (stp_dec hw hh (by omega) (by omega) d0 d1 q).1⟩
        refine x_istore (lv' := [(5, .int (iI (v8))), (4, .int (iI (t))), (0, .ref 0), (1, .int (iI (f))), (2, .int (iI (d))), (3, .ref 19)]) C dX12_goesOn_58 (nlt rfl) rfl ?_
        refine x_goto (tgt := 18) C dX12_goesOn_60 (by decide) ?_
        exact ih _ _ (by omega) (by omega) (by omega) bv8 kv8 (by omega)
      · refine x_aload_n (i := 0) C dX12_goesOn_37 rfl rfl ?_
        refine x_dup C dX12_goesOn_38 rfl ?_
        refine x_getL C fkM_X12_328 (nlt rfl) rfl dX12_goesOn_39 ?_
        refine x_genL (fun l9 el9 => ?_)
        have ql9 : (0 : Int) ≤ l9.toInt ∧ l9.toInt ≤ (68719476735 : Int) := by
          rw [el9]
          exact hH.rLF (k := 0) (i := 34) (p := (0, 68719476735)) rfl rfl
        refine x_lconst C dX12_goesOn_42 ?_
        refine x_eqL (b := 1) rfl ?_
        refine x_iload C dX12_goesOn_43 rfl ?_
        refine x_lshl C dX12_goesOn_45 ?_
        refine x_genL (fun l10 el10 => ?_)
        refine x_lor C dX12_goesOn_46 ?_
        refine x_genL (fun l11 el11 => ?_)
        refine x_putL C pkM_X12_328 (nlt rfl) rfl dX12_goesOn_47 ?_
        refine x_gX (fun Yy12 eYy12 => ?_)
        have hHy12 : HG vM Yy12 := by
          rw [eYy12]
          exact hg_wLF hH (p := (0, 68719476735)) rfl (by rw [el11, el10]; exact m36_or ql9 (m36_bit (by omega) (by omega)))
        have hFy12 : FR (cMd k_M_40) X Yy12 := by
          rw [eYy12]
          exact FR.upL hF (rfl)
        exact x_vret C hQ dX12_goesOn_50 (⟨rfl, hHy12, hFy12⟩)
set_option maxHeartbeats 4000000 in
set_option maxRecDepth 100000 in
theorem q_goesOn19 {D : va_G} {ad : Nat → Nat} {cA : Nat → ClassId} {X : XT} {f d : Int} (f0 : 0 ≤ f) (f1 : f ≤ 35) (d0 : 0 ≤ d) (d1 : d ≤ 4) (hH : HG vM X) (hw : 2 ≤ X.1 0 22 ∧ X.1 0 22 ≤ 6) (hh : 2 ≤ X.1 0 23 ∧ X.1 0 23 ≤ 6) : MetX (wM D ad cA) yX12_goesOn cX12_goesOn 6 none 3 69 [.ref 0, .int (iI (f)), .int (iI (d)), .ref 19] X (fun r X1 => r = none ∧ HG vM X1 ∧ FR (cMd k_M_40) X X1) := by
  refine MetX.mk (own := RX12) (by decide +kernel) rfl (nle rfl) (fun E C hQ => ?_)
  refine Wx_lv (lv' := [(0, .ref 0), (1, .int (iI (f))), (2, .int (iI (d))), (3, .ref 19)]) rfl ?_
  refine x_iload_n (i := 2) C dX12_goesOn_0 rfl rfl ?_
  refine x_iconst C dX12_goesOn_1 ?_
  refine x_icmp_ne (tgt := 6) C dX12_goesOn_2 (by decide) ⟨by omega, by omega⟩ ⟨by omega, by omega⟩ (fun h1 => ?_) (fun h1 => ?_)
  · refine x_iload_n (i := 1) C dX12_goesOn_6 rfl rfl ?_
    refine x_istore (lv' := [(4, .int (iI (f))), (0, .ref 0), (1, .int (iI (f))), (2, .int (iI (d))), (3, .ref 19)]) C dX12_goesOn_7 (nlt rfl) rfl ?_
    refine x_aload_n (i := 0) C dX12_goesOn_9 rfl rfl ?_
    refine x_iload C dX12_goesOn_10 rfl ?_
    refine x_iload_n (i := 2) C dX12_goesOn_12 rfl rfl ?_
    refine x_callV (As := [.int (iI (f)), .int (iI (d))]) C (by exact (qf_step (p := f) (d := d) (by omega) (by omega) hw hh (by omega) (by omega))) ckX12_322 im_X12_step se_X12_step (nlt rfl) rfl rfl rfl rfl (nle rfl) (by exact ⟨nle rfl, nle rfl⟩) dX12_goesOn_13 ?_
    rintro _ Xv2 ⟨hxv2, v2, rfl, ev2⟩
    rw [hxv2]
    refine Wx_st (st' := [.int (iI (v2))]) rfl ?_
    have bv2 : v2 = -1 ∨ (0 ≤ v2 ∧ v2 ≤ 35) := by rw [ev2]; exact stp_bd hw hh
    have kv2 : v2 = -1 ∨ (0 ≤ rkI (X.1 0 22) (X.1 0 23) d v2 ∧ rkI (X.1 0 22) (X.1 0 23) d v2 < rkI (X.1 0 22) (X.1 0 23) d f) := by
      by_cases q : v2 = -1
      · exact .inl q
      · rw [ev2] at q bv2 ⊢
        exact .inr ⟨rk_nn hw (by omega) (by omega), (stp_dec hw hh (by omega) (by omega) (by omega) (by omega) q).1⟩
    refine x_istore (lv' := [(5, .int (iI (v2))), (4, .int (iI (f))), (0, .ref 0), (1, .int (iI (f))), (2, .int (iI (d))), (3, .ref 19)]) C dX12_goesOn_16 (nlt rfl) rfl ?_
    have nf := rk_nn (H := X.1 0 23) (d := d) (p := f) hw (by omega) (by omega)
    exact lq_goesOn19 (by omega) (by omega) hH hw hh C hQ (rkI (X.1 0 22) (X.1 0 23) d f + 1).toNat f v2 (by omega) (by omega) (by omega) bv2 kv2 (by omega)
  · exact x_vret C hQ dX12_goesOn_5 (⟨rfl, hH, FR.rf⟩)
set_option maxRecDepth 10000 in
theorem t_M_40 {D : va_G} {ad : Nat → Nat} {cA : Nat → ClassId} : CTR mtM vM gM (wM D ad cA) k_M_40 := by
  intro g X hpre
  obtain ⟨h00, hei, hel, hdl, hH, hE⟩ := hpre
  have h0 : (0 : Int) ≤ g.1 0 ∧ g.1 0 ≤ (0 : Int) := hei 0 _ rfl
  have h1 : (0 : Int) ≤ g.1 1 ∧ g.1 1 ≤ (35 : Int) := hei 1 _ rfl
  have h2 : (0 : Int) ≤ g.1 2 ∧ g.1 2 ≤ (4 : Int) := hei 2 _ rfl
  have h3 : (2 : Int) ≤ g.1 3 ∧ g.1 3 ≤ (6 : Int) := hei 3 _ rfl
  have h4 : (2 : Int) ≤ g.1 4 ∧ g.1 4 ≤ (6 : Int) := hei 4 _ rfl
  have e0 : X.1 0 22 = g.1 3 + 0 := (hdl ((0, 22), (0, 3, 0)) (.head _))
  have e1 : X.1 0 23 = g.1 4 + 0 := (hdl ((0, 23), (0, 4, 0)) (.tail _ (.head _)))
  refine MetX.imp (fun r X1 hp => ?_) (q_goesOn19 (X := X) (f := g.1 1 + 0) (d := g.1 2 + 0) (by omega) (by omega) (by omega) (by omega) hH ⟨by omega, by omega⟩ ⟨by omega, by omega⟩)
  obtain ⟨rfl, hH1, hF1⟩ := hp
  exact (altM_mk 0 [] rfl (ei_cons ⟨by show (0 : Int) ≤ g.1 0; omega, by show g.1 0 ≤ (0 : Int); omega⟩ (ei_cons ⟨by show (0 : Int) ≤ g.1 1; omega, by show g.1 1 ≤ (35 : Int); omega⟩ (ei_cons ⟨by show (0 : Int) ≤ g.1 2; omega, by show g.1 2 ≤ (4 : Int); omega⟩ (ei_cons ⟨by show (2 : Int) ≤ g.1 3; omega, by show g.1 3 ≤ (6 : Int); omega⟩ (ei_cons ⟨by show (2 : Int) ≤ g.1 4; omega, by show g.1 4 ≤ (6 : Int); omega⟩ ei_nil))))) el_nil (by rfl) dl_nil gd_nil hH1 trivial hF1)
set_option maxHeartbeats 4000000 in
set_option maxRecDepth 100000 in
theorem lq_goesOn15 {D : va_G} {ad : Nat → Nat} {cA : Nat → ClassId} {X : XT} {d : Int} (d0 : 0 ≤ d) (d1 : d ≤ 3) (hH : HG vM X) (hw : 2 ≤ X.1 0 22 ∧ X.1 0 22 ≤ 6) (hh : 2 ≤ X.1 0 23 ∧ X.1 0 23 ≤ 6) {f : Int} {E : ET} (C : CX E (wM D ad cA) cX12_goesOn 6 RX12 none { frames := 3, cells := 0, slots := 0, locals := 69 }) (hQ : EQ E (wM D ad cA) (fun r X1 => r = none ∧ HG vM X1 ∧ FR (cMd k_M_49) X X1)) : ∀ (n : Nat) (p : Int) (t : Int), rkI (X.1 0 22) (X.1 0 23) d p < n → 0 ≤ p → p ≤ 35 → (t = -1 ∨ (0 ≤ t ∧ t ≤ 35)) → (t = -1 ∨ (0 ≤ rkI (X.1 0 22) (X.1 0 23) d t ∧ rkI (X.1 0 22) (X.1 0 23) d t < rkI (X.1 0 22) (X.1 0 23) d p)) → 0 ≤ rkI (X.1 0 22) (X.1 0 23) d p → Wx E (wM D ad cA) 6 (PX (wM D ad cA) X) 18 [(5, .int (iI (t))), (4, .int (iI (p))), (0, .ref 0), (1, .int (iI (f))), (2, .int (iI (d))), (3, .ref 15)] [] := by
  intro n
  induction n with
  | zero => intro p t hn p0 p1 tb tk k0; exfalso; omega
  | succ n ih =>
    intro p t hn p0 p1 tb tk k0
    have hF : FR (cMd k_M_49) X X := FR.rf
    refine x_iload C dX12_goesOn_18 rfl ?_
    refine x_iconst C dX12_goesOn_20 ?_
    refine x_icmp_eq (tgt := 63) C dX12_goesOn_21 (by decide) ⟨by omega, by omega⟩ ⟨by omega, by omega⟩ (fun h1 => ?_) (fun h1 => ?_)
    · refine x_aload_n (i := 3) C dX12_goesOn_63 rfl rfl ?_
      refine x_iload_n (i := 2) C dX12_goesOn_64 rfl rfl ?_
      refine x_dup2_11 C dX12_goesOn_65 rfl rfl ?_
      refine x_lald C (nlt rfl) rfl rfl (nle rfl) (by omega) (by omega) dX12_goesOn_66 ?_
      refine x_genL (fun l2 el2 => ?_)
      have ql2 : (0 : Int) ≤ l2.toInt ∧ l2.toInt ≤ (68719476735 : Int) := by
        rw [el2]
        exact hH.rLA (k := 15) (n := 5) (p := (0, 68719476735)) (nlt rfl) rfl (by decide +kernel) (by omega)
      refine x_lconst C dX12_goesOn_67 ?_
      refine x_eqL (b := 1) rfl ?_
      refine x_iload C dX12_goesOn_68 rfl ?_
      refine x_lshl C dX12_goesOn_70 ?_
      refine x_genL (fun l3 el3 => ?_)
      refine x_lor C dX12_goesOn_71 ?_
      refine x_genL (fun l4 el4 => ?_)
      refine x_last C (nlt rfl) rfl rfl (nle rfl) (by omega) (by omega) dX12_goesOn_72 ?_
      refine x_gX (fun Yy5 eYy5 => ?_)
      have hHy5 : HG vM Yy5 := by
        rw [eYy5]
        exact hg_wLA hH (n := 5) (p := (0, 68719476735)) (by decide +kernel) (by omega) (by rw [el4, el3]; exact m36_or ql2 (m36_bit (by omega) (by omega)))
      have hFy5 : FR (cMd k_M_49) X Yy5 := by
        rw [eYy5]
        exact FR.upL hF (rfl)
      exact x_vret C hQ dX12_goesOn_73 (⟨rfl, hHy5, hFy5⟩)
    · refine x_iload C dX12_goesOn_24 rfl ?_
      refine x_istore (lv' := [(4, .int (iI (t))), (5, .int (iI (t))), (0, .ref 0), (1, .int (iI (f))), (2, .int (iI (d))), (3, .ref 15)]) C dX12_goesOn_26 (nlt rfl) rfl ?_
      refine x_aload_n (i := 0) C dX12_goesOn_28 rfl rfl ?_
      refine x_iload C dX12_goesOn_29 rfl ?_
      refine x_callV (As := [.int (iI (t))]) C (by exact (qf_endsThere (f := t))) ckX12_325 im_X12_endsThere se_X12_endsThere (nlt rfl) rfl rfl rfl rfl (nle rfl) (by exact ⟨nle rfl, nle rfl⟩) dX12_goesOn_31 ?_
      rintro _ Xv6 ⟨hxv6, v6, rfl, ev6⟩
      rw [hxv6]
      have bv6 : 0 ≤ v6 ∧ v6 ≤ 1 := by rw [ev6]; exact zB_01 _
      refine Wx_st (st' := [.int (iI (v6))]) rfl ?_
      refine x_if_eq (tgt := 51) C dX12_goesOn_34 (by decide) ⟨by omega, by omega⟩ (fun h7 => ?_) (fun h7 => ?_)
      · refine x_aload_n (i := 0) C dX12_goesOn_51 rfl rfl ?_
        refine x_iload C dX12_goesOn_52 rfl ?_
        refine x_iload_n (i := 2) C dX12_goesOn_54 rfl rfl ?_
        refine x_callV (As := [.int (iI (t)), .int (iI (d))]) C (by exact (qf_step (p := t) (d := d) (by omega) (by omega) hw hh (by omega) (by omega))) ckX12_322 im_X12_step se_X12_step (nlt rfl) rfl rfl rfl rfl (nle rfl) (by exact ⟨nle rfl, nle rfl⟩) dX12_goesOn_55 ?_
        rintro _ Xv8 ⟨hxv8, v8, rfl, ev8⟩
        rw [hxv8]
        refine Wx_st (st' := [.int (iI (v8))]) rfl ?_
        have bv8 : v8 = -1 ∨ (0 ≤ v8 ∧ v8 ≤ 35) := by rw [ev8]; exact stp_bd hw hh
        have kv8 : v8 = -1 ∨ (0 ≤ rkI (X.1 0 22) (X.1 0 23) d v8 ∧ rkI (X.1 0 22) (X.1 0 23) d v8 < rkI (X.1 0 22) (X.1 0 23) d t) := by
          by_cases q : v8 = -1
          · exact .inl q
          · rw [ev8] at q bv8 ⊢
            exact .inr ⟨rk_nn hw (by omega) (by omega), (stp_dec hw hh (by omega) (by omega) d0 d1 q).1⟩
        refine x_istore (lv' := [(5, .int (iI (v8))), (4, .int (iI (t))), (0, .ref 0), (1, .int (iI (f))), (2, .int (iI (d))), (3, .ref 15)]) C dX12_goesOn_58 (nlt rfl) rfl ?_
        refine x_goto (tgt := 18) C dX12_goesOn_60 (by decide) ?_
        exact ih _ _ (by omega) (by omega) (by omega) bv8 kv8 (by omega)
      · refine x_aload_n (i := 0) C dX12_goesOn_37 rfl rfl ?_
        refine x_dup C dX12_goesOn_38 rfl ?_
        refine x_getL C fkM_X12_328 (nlt rfl) rfl dX12_goesOn_39 ?_
        refine x_genL (fun l9 el9 => ?_)
        have ql9 : (0 : Int) ≤ l9.toInt ∧ l9.toInt ≤ (68719476735 : Int) := by
          rw [el9]
          exact hH.rLF (k := 0) (i := 34) (p := (0, 68719476735)) rfl rfl
        refine x_lconst C dX12_goesOn_42 ?_
        refine x_eqL (b := 1) rfl ?_
        refine x_iload C dX12_goesOn_43 rfl ?_
        refine x_lshl C dX12_goesOn_45 ?_
        refine x_genL (fun l10 el10 => ?_)
        refine x_lor C dX12_goesOn_46 ?_
        refine x_genL (fun l11 el11 => ?_)
        refine x_putL C pkM_X12_328 (nlt rfl) rfl dX12_goesOn_47 ?_
        refine x_gX (fun Yy12 eYy12 => ?_)
        have hHy12 : HG vM Yy12 := by
          rw [eYy12]
          exact hg_wLF hH (p := (0, 68719476735)) rfl (by rw [el11, el10]; exact m36_or ql9 (m36_bit (by omega) (by omega)))
        have hFy12 : FR (cMd k_M_49) X Yy12 := by
          rw [eYy12]
          exact FR.upL hF (rfl)
        exact x_vret C hQ dX12_goesOn_50 (⟨rfl, hHy12, hFy12⟩)
set_option maxHeartbeats 4000000 in
set_option maxRecDepth 100000 in
theorem q_goesOn15 {D : va_G} {ad : Nat → Nat} {cA : Nat → ClassId} {X : XT} {f d : Int} (f0 : 0 ≤ f) (f1 : f ≤ 35) (d0 : 0 ≤ d) (d1 : d ≤ 4) (hH : HG vM X) (hw : 2 ≤ X.1 0 22 ∧ X.1 0 22 ≤ 6) (hh : 2 ≤ X.1 0 23 ∧ X.1 0 23 ≤ 6) : MetX (wM D ad cA) yX12_goesOn cX12_goesOn 6 none 3 69 [.ref 0, .int (iI (f)), .int (iI (d)), .ref 15] X (fun r X1 => r = none ∧ HG vM X1 ∧ FR (cMd k_M_49) X X1) := by
  refine MetX.mk (own := RX12) (by decide +kernel) rfl (nle rfl) (fun E C hQ => ?_)
  refine Wx_lv (lv' := [(0, .ref 0), (1, .int (iI (f))), (2, .int (iI (d))), (3, .ref 15)]) rfl ?_
  refine x_iload_n (i := 2) C dX12_goesOn_0 rfl rfl ?_
  refine x_iconst C dX12_goesOn_1 ?_
  refine x_icmp_ne (tgt := 6) C dX12_goesOn_2 (by decide) ⟨by omega, by omega⟩ ⟨by omega, by omega⟩ (fun h1 => ?_) (fun h1 => ?_)
  · refine x_iload_n (i := 1) C dX12_goesOn_6 rfl rfl ?_
    refine x_istore (lv' := [(4, .int (iI (f))), (0, .ref 0), (1, .int (iI (f))), (2, .int (iI (d))), (3, .ref 15)]) C dX12_goesOn_7 (nlt rfl) rfl ?_
    refine x_aload_n (i := 0) C dX12_goesOn_9 rfl rfl ?_
    refine x_iload C dX12_goesOn_10 rfl ?_
    refine x_iload_n (i := 2) C dX12_goesOn_12 rfl rfl ?_
    refine x_callV (As := [.int (iI (f)), .int (iI (d))]) C (by exact (qf_step (p := f) (d := d) (by omega) (by omega) hw hh (by omega) (by omega))) ckX12_322 im_X12_step se_X12_step (nlt rfl) rfl rfl rfl rfl (nle rfl) (by exact ⟨nle rfl, nle rfl⟩) dX12_goesOn_13 ?_
    rintro _ Xv2 ⟨hxv2, v2, rfl, ev2⟩
    rw [hxv2]
    refine Wx_st (st' := [.int (iI (v2))]) rfl ?_
    have bv2 : v2 = -1 ∨ (0 ≤ v2 ∧ v2 ≤ 35) := by rw [ev2]; exact stp_bd hw hh
    have kv2 : v2 = -1 ∨ (0 ≤ rkI (X.1 0 22) (X.1 0 23) d v2 ∧ rkI (X.1 0 22) (X.1 0 23) d v2 < rkI (X.1 0 22) (X.1 0 23) d f) := by
      by_cases q : v2 = -1
      · exact .inl q
      · rw [ev2] at q bv2 ⊢
        exact .inr ⟨rk_nn hw (by omega) (by omega), (stp_dec hw hh (by omega) (by omega) (by omega) (by omega) q).1⟩
    refine x_istore (lv' := [(5, .int (iI (v2))), (4, .int (iI (f))), (0, .ref 0), (1, .int (iI (f))), (2, .int (iI (d))), (3, .ref 15)]) C dX12_goesOn_16 (nlt rfl) rfl ?_
    have nf := rk_nn (H := X.1 0 23) (d := d) (p := f) hw (by omega) (by omega)
    exact lq_goesOn15 (by omega) (by omega) hH hw hh C hQ (rkI (X.1 0 22) (X.1 0 23) d f + 1).toNat f v2 (by omega) (by omega) (by omega) bv2 kv2 (by omega)
  · exact x_vret C hQ dX12_goesOn_5 (⟨rfl, hH, FR.rf⟩)
set_option maxRecDepth 10000 in
theorem t_M_49 {D : va_G} {ad : Nat → Nat} {cA : Nat → ClassId} : CTR mtM vM gM (wM D ad cA) k_M_49 := by
  intro g X hpre
  obtain ⟨h00, hei, hel, hdl, hH, hE⟩ := hpre
  have h0 : (0 : Int) ≤ g.1 0 ∧ g.1 0 ≤ (0 : Int) := hei 0 _ rfl
  have h1 : (0 : Int) ≤ g.1 1 ∧ g.1 1 ≤ (35 : Int) := hei 1 _ rfl
  have h2 : (0 : Int) ≤ g.1 2 ∧ g.1 2 ≤ (4 : Int) := hei 2 _ rfl
  have h3 : (2 : Int) ≤ g.1 3 ∧ g.1 3 ≤ (6 : Int) := hei 3 _ rfl
  have h4 : (2 : Int) ≤ g.1 4 ∧ g.1 4 ≤ (6 : Int) := hei 4 _ rfl
  have e0 : X.1 0 22 = g.1 3 + 0 := (hdl ((0, 22), (0, 3, 0)) (.head _))
  have e1 : X.1 0 23 = g.1 4 + 0 := (hdl ((0, 23), (0, 4, 0)) (.tail _ (.head _)))
  refine MetX.imp (fun r X1 hp => ?_) (q_goesOn15 (X := X) (f := g.1 1 + 0) (d := g.1 2 + 0) (by omega) (by omega) (by omega) (by omega) hH ⟨by omega, by omega⟩ ⟨by omega, by omega⟩)
  obtain ⟨rfl, hH1, hF1⟩ := hp
  exact (altM_mk 0 [] rfl (ei_cons ⟨by show (0 : Int) ≤ g.1 0; omega, by show g.1 0 ≤ (0 : Int); omega⟩ (ei_cons ⟨by show (0 : Int) ≤ g.1 1; omega, by show g.1 1 ≤ (35 : Int); omega⟩ (ei_cons ⟨by show (0 : Int) ≤ g.1 2; omega, by show g.1 2 ≤ (4 : Int); omega⟩ (ei_cons ⟨by show (2 : Int) ≤ g.1 3; omega, by show g.1 3 ≤ (6 : Int); omega⟩ (ei_cons ⟨by show (2 : Int) ≤ g.1 4; omega, by show g.1 4 ≤ (6 : Int); omega⟩ ei_nil))))) el_nil (by rfl) dl_nil gd_nil hH1 trivial hF1)
set_option maxHeartbeats 4000000 in
set_option maxRecDepth 100000 in
theorem lq_goesOn24 {D : va_G} {ad : Nat → Nat} {cA : Nat → ClassId} {X : XT} {d : Int} (d0 : 0 ≤ d) (d1 : d ≤ 3) (hH : HG vM X) (hw : 2 ≤ X.1 0 22 ∧ X.1 0 22 ≤ 6) (hh : 2 ≤ X.1 0 23 ∧ X.1 0 23 ≤ 6) {f : Int} {E : ET} (C : CX E (wM D ad cA) cX12_goesOn 6 RX12 none { frames := 3, cells := 0, slots := 0, locals := 69 }) (hQ : EQ E (wM D ad cA) (fun r X1 => r = none ∧ HG vM X1 ∧ FR (cMd k_M_61) X X1)) : ∀ (n : Nat) (p : Int) (t : Int), rkI (X.1 0 22) (X.1 0 23) d p < n → 0 ≤ p → p ≤ 35 → (t = -1 ∨ (0 ≤ t ∧ t ≤ 35)) → (t = -1 ∨ (0 ≤ rkI (X.1 0 22) (X.1 0 23) d t ∧ rkI (X.1 0 22) (X.1 0 23) d t < rkI (X.1 0 22) (X.1 0 23) d p)) → 0 ≤ rkI (X.1 0 22) (X.1 0 23) d p → Wx E (wM D ad cA) 6 (PX (wM D ad cA) X) 18 [(5, .int (iI (t))), (4, .int (iI (p))), (0, .ref 0), (1, .int (iI (f))), (2, .int (iI (d))), (3, .ref 24)] [] := by
  intro n
  induction n with
  | zero => intro p t hn p0 p1 tb tk k0; exfalso; omega
  | succ n ih =>
    intro p t hn p0 p1 tb tk k0
    have hF : FR (cMd k_M_61) X X := FR.rf
    refine x_iload C dX12_goesOn_18 rfl ?_
    refine x_iconst C dX12_goesOn_20 ?_
    refine x_icmp_eq (tgt := 63) C dX12_goesOn_21 (by decide) ⟨by omega, by omega⟩ ⟨by omega, by omega⟩ (fun h1 => ?_) (fun h1 => ?_)
    · refine x_aload_n (i := 3) C dX12_goesOn_63 rfl rfl ?_
      refine x_iload_n (i := 2) C dX12_goesOn_64 rfl rfl ?_
      refine x_dup2_11 C dX12_goesOn_65 rfl rfl ?_
      refine x_lald C (nlt rfl) rfl rfl (nle rfl) (by omega) (by omega) dX12_goesOn_66 ?_
      refine x_genL (fun l2 el2 => ?_)
      have ql2 : (0 : Int) ≤ l2.toInt ∧ l2.toInt ≤ (68719476735 : Int) := by
        rw [el2]
        exact hH.rLA (k := 24) (n := 5) (p := (0, 68719476735)) (nlt rfl) rfl (by decide +kernel) (by omega)
      refine x_lconst C dX12_goesOn_67 ?_
      refine x_eqL (b := 1) rfl ?_
      refine x_iload C dX12_goesOn_68 rfl ?_
      refine x_lshl C dX12_goesOn_70 ?_
      refine x_genL (fun l3 el3 => ?_)
      refine x_lor C dX12_goesOn_71 ?_
      refine x_genL (fun l4 el4 => ?_)
      refine x_last C (nlt rfl) rfl rfl (nle rfl) (by omega) (by omega) dX12_goesOn_72 ?_
      refine x_gX (fun Yy5 eYy5 => ?_)
      have hHy5 : HG vM Yy5 := by
        rw [eYy5]
        exact hg_wLA hH (n := 5) (p := (0, 68719476735)) (by decide +kernel) (by omega) (by rw [el4, el3]; exact m36_or ql2 (m36_bit (by omega) (by omega)))
      have hFy5 : FR (cMd k_M_61) X Yy5 := by
        rw [eYy5]
        exact FR.upL hF (rfl)
      exact x_vret C hQ dX12_goesOn_73 (⟨rfl, hHy5, hFy5⟩)
    · refine x_iload C dX12_goesOn_24 rfl ?_
      refine x_istore (lv' := [(4, .int (iI (t))), (5, .int (iI (t))), (0, .ref 0), (1, .int (iI (f))), (2, .int (iI (d))), (3, .ref 24)]) C dX12_goesOn_26 (nlt rfl) rfl ?_
      refine x_aload_n (i := 0) C dX12_goesOn_28 rfl rfl ?_
      refine x_iload C dX12_goesOn_29 rfl ?_
      refine x_callV (As := [.int (iI (t))]) C (by exact (qf_endsThere (f := t))) ckX12_325 im_X12_endsThere se_X12_endsThere (nlt rfl) rfl rfl rfl rfl (nle rfl) (by exact ⟨nle rfl, nle rfl⟩) dX12_goesOn_31 ?_
      rintro _ Xv6 ⟨hxv6, v6, rfl, ev6⟩
      rw [hxv6]
      have bv6 : 0 ≤ v6 ∧ v6 ≤ 1 := by rw [ev6]; exact zB_01 _
      refine Wx_st (st' := [.int (iI (v6))]) rfl ?_
      refine x_if_eq (tgt := 51) C dX12_goesOn_34 (by decide) ⟨by omega, by omega⟩ (fun h7 => ?_) (fun h7 => ?_)
      · refine x_aload_n (i := 0) C dX12_goesOn_51 rfl rfl ?_
        refine x_iload C dX12_goesOn_52 rfl ?_
        refine x_iload_n (i := 2) C dX12_goesOn_54 rfl rfl ?_
        refine x_callV (As := [.int (iI (t)), .int (iI (d))]) C (by exact (qf_step (p := t) (d := d) (by omega) (by omega) hw hh (by omega) (by omega))) ckX12_322 im_X12_step se_X12_step (nlt rfl) rfl rfl rfl rfl (nle rfl) (by exact ⟨nle rfl, nle rfl⟩) dX12_goesOn_55 ?_
        rintro _ Xv8 ⟨hxv8, v8, rfl, ev8⟩
        rw [hxv8]
        refine Wx_st (st' := [.int (iI (v8))]) rfl ?_
        have bv8 : v8 = -1 ∨ (0 ≤ v8 ∧ v8 ≤ 35) := by rw [ev8]; exact stp_bd hw hh
        have kv8 : v8 = -1 ∨ (0 ≤ rkI (X.1 0 22) (X.1 0 23) d v8 ∧ rkI (X.1 0 22) (X.1 0 23) d v8 < rkI (X.1 0 22) (X.1 0 23) d t) := by
          by_cases q : v8 = -1
          · exact .inl q
          · rw [ev8] at q bv8 ⊢
            exact .inr ⟨rk_nn hw (by omega) (by omega), (stp_dec hw hh (by omega) (by omega) d0 d1 q).1⟩
        refine x_istore (lv' := [(5, .int (iI (v8))), (4, .int (iI (t))), (0, .ref 0), (1, .int (iI (f))), (2, .int (iI (d))), (3, .ref 24)]) C dX12_goesOn_58 (nlt rfl) rfl ?_
        refine x_goto (tgt := 18) C dX12_goesOn_60 (by decide) ?_
        exact ih _ _ (by omega) (by omega) (by omega) bv8 kv8 (by omega)
      · refine x_aload_n (i := 0) C dX12_goesOn_37 rfl rfl ?_
        refine x_dup C dX12_goesOn_38 rfl ?_
        refine x_getL C fkM_X12_328 (nlt rfl) rfl dX12_goesOn_39 ?_
        refine x_genL (fun l9 el9 => ?_)
        have ql9 : (0 : Int) ≤ l9.toInt ∧ l9.toInt ≤ (68719476735 : Int) := by
          rw [el9]
          exact hH.rLF (k := 0) (i := 34) (p := (0, 68719476735)) rfl rfl
        refine x_lconst C dX12_goesOn_42 ?_
        refine x_eqL (b := 1) rfl ?_
        refine x_iload C dX12_goesOn_43 rfl ?_
        refine x_lshl C dX12_goesOn_45 ?_
        refine x_genL (fun l10 el10 => ?_)
        refine x_lor C dX12_goesOn_46 ?_
        refine x_genL (fun l11 el11 => ?_)
        refine x_putL C pkM_X12_328 (nlt rfl) rfl dX12_goesOn_47 ?_
        refine x_gX (fun Yy12 eYy12 => ?_)
        have hHy12 : HG vM Yy12 := by
          rw [eYy12]
          exact hg_wLF hH (p := (0, 68719476735)) rfl (by rw [el11, el10]; exact m36_or ql9 (m36_bit (by omega) (by omega)))
        have hFy12 : FR (cMd k_M_61) X Yy12 := by
          rw [eYy12]
          exact FR.upL hF (rfl)
        exact x_vret C hQ dX12_goesOn_50 (⟨rfl, hHy12, hFy12⟩)
set_option maxHeartbeats 4000000 in
set_option maxRecDepth 100000 in
theorem q_goesOn24 {D : va_G} {ad : Nat → Nat} {cA : Nat → ClassId} {X : XT} {f d : Int} (f0 : 0 ≤ f) (f1 : f ≤ 35) (d0 : 0 ≤ d) (d1 : d ≤ 4) (hH : HG vM X) (hw : 2 ≤ X.1 0 22 ∧ X.1 0 22 ≤ 6) (hh : 2 ≤ X.1 0 23 ∧ X.1 0 23 ≤ 6) : MetX (wM D ad cA) yX12_goesOn cX12_goesOn 6 none 3 69 [.ref 0, .int (iI (f)), .int (iI (d)), .ref 24] X (fun r X1 => r = none ∧ HG vM X1 ∧ FR (cMd k_M_61) X X1) := by
  refine MetX.mk (own := RX12) (by decide +kernel) rfl (nle rfl) (fun E C hQ => ?_)
  refine Wx_lv (lv' := [(0, .ref 0), (1, .int (iI (f))), (2, .int (iI (d))), (3, .ref 24)]) rfl ?_
  refine x_iload_n (i := 2) C dX12_goesOn_0 rfl rfl ?_
  refine x_iconst C dX12_goesOn_1 ?_
  refine x_icmp_ne (tgt := 6) C dX12_goesOn_2 (by decide) ⟨by omega, by omega⟩ ⟨by omega, by omega⟩ (fun h1 => ?_) (fun h1 => ?_)
  · refine x_iload_n (i := 1) C dX12_goesOn_6 rfl rfl ?_
    refine x_istore (lv' := [(4, .int (iI (f))), (0, .ref 0), (1, .int (iI (f))), (2, .int (iI (d))), (3, .ref 24)]) C dX12_goesOn_7 (nlt rfl) rfl ?_
    refine x_aload_n (i := 0) C dX12_goesOn_9 rfl rfl ?_
    refine x_iload C dX12_goesOn_10 rfl ?_
    refine x_iload_n (i := 2) C dX12_goesOn_12 rfl rfl ?_
    refine x_callV (As := [.int (iI (f)), .int (iI (d))]) C (by exact (qf_step (p := f) (d := d) (by omega) (by omega) hw hh (by omega) (by omega))) ckX12_322 im_X12_step se_X12_step (nlt rfl) rfl rfl rfl rfl (nle rfl) (by exact ⟨nle rfl, nle rfl⟩) dX12_goesOn_13 ?_
    rintro _ Xv2 ⟨hxv2, v2, rfl, ev2⟩
    rw [hxv2]
    refine Wx_st (st' := [.int (iI (v2))]) rfl ?_
    have bv2 : v2 = -1 ∨ (0 ≤ v2 ∧ v2 ≤ 35) := by rw [ev2]; exact stp_bd hw hh
    have kv2 : v2 = -1 ∨ (0 ≤ rkI (X.1 0 22) (X.1 0 23) d v2 ∧ rkI (X.1 0 22) (X.1 0 23) d v2 < rkI (X.1 0 22) (X.1 0 23) d f) := by
      by_cases q : v2 = -1
      · exact .inl q
      · rw [ev2] at q bv2 ⊢
        exact .inr ⟨rk_nn hw (by omega) (by omega), (stp_dec hw hh (by omega) (by omega) (by omega) (by omega) q).1⟩
    refine x_istore (lv' := [(5, .int (iI (v2))), (4, .int (iI (f))), (0, .ref 0), (1, .int (iI (f))), (2, .int (iI (d))), (3, .ref 24)]) C dX12_goesOn_16 (nlt rfl) rfl ?_
    have nf := rk_nn (H := X.1 0 23) (d := d) (p := f) hw (by omega) (by omega)
    exact lq_goesOn24 (by omega) (by omega) hH hw hh C hQ (rkI (X.1 0 22) (X.1 0 23) d f + 1).toNat f v2 (by omega) (by omega) (by omega) bv2 kv2 (by omega)
  · exact x_vret C hQ dX12_goesOn_5 (⟨rfl, hH, FR.rf⟩)
set_option maxRecDepth 10000 in
theorem t_M_61 {D : va_G} {ad : Nat → Nat} {cA : Nat → ClassId} : CTR mtM vM gM (wM D ad cA) k_M_61 := by
  intro g X hpre
  obtain ⟨h00, hei, hel, hdl, hH, hE⟩ := hpre
  have h0 : (0 : Int) ≤ g.1 0 ∧ g.1 0 ≤ (0 : Int) := hei 0 _ rfl
  have h1 : (0 : Int) ≤ g.1 1 ∧ g.1 1 ≤ (35 : Int) := hei 1 _ rfl
  have h2 : (0 : Int) ≤ g.1 2 ∧ g.1 2 ≤ (4 : Int) := hei 2 _ rfl
  have h3 : (2 : Int) ≤ g.1 3 ∧ g.1 3 ≤ (6 : Int) := hei 3 _ rfl
  have h4 : (2 : Int) ≤ g.1 4 ∧ g.1 4 ≤ (6 : Int) := hei 4 _ rfl
  have e0 : X.1 0 22 = g.1 3 + 0 := (hdl ((0, 22), (0, 3, 0)) (.head _))
  have e1 : X.1 0 23 = g.1 4 + 0 := (hdl ((0, 23), (0, 4, 0)) (.tail _ (.head _)))
  refine MetX.imp (fun r X1 hp => ?_) (q_goesOn24 (X := X) (f := g.1 1 + 0) (d := g.1 2 + 0) (by omega) (by omega) (by omega) (by omega) hH ⟨by omega, by omega⟩ ⟨by omega, by omega⟩)
  obtain ⟨rfl, hH1, hF1⟩ := hp
  exact (altM_mk 0 [] rfl (ei_cons ⟨by show (0 : Int) ≤ g.1 0; omega, by show g.1 0 ≤ (0 : Int); omega⟩ (ei_cons ⟨by show (0 : Int) ≤ g.1 1; omega, by show g.1 1 ≤ (35 : Int); omega⟩ (ei_cons ⟨by show (0 : Int) ≤ g.1 2; omega, by show g.1 2 ≤ (4 : Int); omega⟩ (ei_cons ⟨by show (2 : Int) ≤ g.1 3; omega, by show g.1 3 ≤ (6 : Int); omega⟩ (ei_cons ⟨by show (2 : Int) ≤ g.1 4; omega, by show g.1 4 ≤ (6 : Int); omega⟩ ei_nil))))) el_nil (by rfl) dl_nil gd_nil hH1 trivial hF1)
set_option maxHeartbeats 4000000 in
set_option maxRecDepth 100000 in
theorem lq_goesOn25 {D : va_G} {ad : Nat → Nat} {cA : Nat → ClassId} {X : XT} {d : Int} (d0 : 0 ≤ d) (d1 : d ≤ 3) (hH : HG vM X) (hw : 2 ≤ X.1 0 22 ∧ X.1 0 22 ≤ 6) (hh : 2 ≤ X.1 0 23 ∧ X.1 0 23 ≤ 6) {f : Int} {E : ET} (C : CX E (wM D ad cA) cX12_goesOn 6 RX12 none { frames := 3, cells := 0, slots := 0, locals := 69 }) (hQ : EQ E (wM D ad cA) (fun r X1 => r = none ∧ HG vM X1 ∧ FR (cMd k_M_79) X X1)) : ∀ (n : Nat) (p : Int) (t : Int), rkI (X.1 0 22) (X.1 0 23) d p < n → 0 ≤ p → p ≤ 35 → (t = -1 ∨ (0 ≤ t ∧ t ≤ 35)) → (t = -1 ∨ (0 ≤ rkI (X.1 0 22) (X.1 0 23) d t ∧ rkI (X.1 0 22) (X.1 0 23) d t < rkI (X.1 0 22) (X.1 0 23) d p)) → 0 ≤ rkI (X.1 0 22) (X.1 0 23) d p → Wx E (wM D ad cA) 6 (PX (wM D ad cA) X) 18 [(5, .int (iI (t))), (4, .int (iI (p))), (0, .ref 0), (1, .int (iI (f))), (2, .int (iI (d))), (3, .ref 25)] [] := by
  intro n
  induction n with
  | zero => intro p t hn p0 p1 tb tk k0; exfalso; omega
  | succ n ih =>
    intro p t hn p0 p1 tb tk k0
    have hF : FR (cMd k_M_79) X X := FR.rf
    refine x_iload C dX12_goesOn_18 rfl ?_
    refine x_iconst C dX12_goesOn_20 ?_
    refine x_icmp_eq (tgt := 63) C dX12_goesOn_21 (by decide) ⟨by omega, by omega⟩ ⟨by omega, by omega⟩ (fun h1 => ?_) (fun h1 => ?_)
    · refine x_aload_n (i := 3) C dX12_goesOn_63 rfl rfl ?_
      refine x_iload_n (i := 2) C dX12_goesOn_64 rfl rfl ?_
      refine x_dup2_11 C dX12_goesOn_65 rfl rfl ?_
      refine x_lald C (nlt rfl) rfl rfl (nle rfl) (by omega) (by omega) dX12_goesOn_66 ?_
      refine x_genL (fun l2 el2 => ?_)
      have ql2 : (0 : Int) ≤ l2.toInt ∧ l2.toInt ≤ (68719476735 : Int) := by
        rw [el2]
        exact hH.rLA (k := 25) (n := 5) (p := (0, 68719476735)) (nlt rfl) rfl (by decide +kernel) (by omega)
      refine x_lconst C dX12_goesOn_67 ?_
      refine x_eqL (b := 1) rfl ?_
      refine x_iload C dX12_goesOn_68 rfl ?_
      refine x_lshl C dX12_goesOn_70 ?_
      refine x_genL (fun l3 el3 => ?_)
      refine x_lor C dX12_goesOn_71 ?_
      refine x_genL (fun l4 el4 => ?_)
      refine x_last C (nlt rfl) rfl rfl (nle rfl) (by omega) (by omega) dX12_goesOn_72 ?_
      refine x_gX (fun Yy5 eYy5 => ?_)
      have hHy5 : HG vM Yy5 := by
        rw [eYy5]
        exact hg_wLA hH (n := 5) (p := (0, 68719476735)) (by decide +kernel) (by omega) (by rw [el4, el3]; exact m36_or ql2 (m36_bit (by omega) (by omega)))
      have hFy5 : FR (cMd k_M_79) X Yy5 := by
        rw [eYy5]
        exact FR.upL hF (rfl)
      exact x_vret C hQ dX12_goesOn_73 (⟨rfl, hHy5, hFy5⟩)
    · refine x_iload C dX12_goesOn_24 rfl ?_
      refine x_istore (lv' := [(4, .int (iI (t))), (5, .int (iI (t))), (0, .ref 0), (1, .int (iI (f))), (2, .int (iI (d))), (3, .ref 25)]) C dX12_goesOn_26 (nlt rfl) rfl ?_
      refine x_aload_n (i := 0) C dX12_goesOn_28 rfl rfl ?_
      refine x_iload C dX12_goesOn_29 rfl ?_
      refine x_callV (As := [.int (iI (t))]) C (by exact (qf_endsThere (f := t))) ckX12_325 im_X12_endsThere se_X12_endsThere (nlt rfl) rfl rfl rfl rfl (nle rfl) (by exact ⟨nle rfl, nle rfl⟩) dX12_goesOn_31 ?_
      rintro _ Xv6 ⟨hxv6, v6, rfl, ev6⟩
      rw [hxv6]
      have bv6 : 0 ≤ v6 ∧ v6 ≤ 1 := by rw [ev6]; exact zB_01 _
      refine Wx_st (st' := [.int (iI (v6))]) rfl ?_
      refine x_if_eq (tgt := 51) C dX12_goesOn_34 (by decide) ⟨by omega, by omega⟩ (fun h7 => ?_) (fun h7 => ?_)
      · refine x_aload_n (i := 0) C dX12_goesOn_51 rfl rfl ?_
        refine x_iload C dX12_goesOn_52 rfl ?_
        refine x_iload_n (i := 2) C dX12_goesOn_54 rfl rfl ?_
        refine x_callV (As := [.int (iI (t)), .int (iI (d))]) C (by exact (qf_step (p := t) (d := d) (by omega) (by omega) hw hh (by omega) (by omega))) ckX12_322 im_X12_step se_X12_step (nlt rfl) rfl rfl rfl rfl (nle rfl) (by exact ⟨nle rfl, nle rfl⟩) dX12_goesOn_55 ?_
        rintro _ Xv8 ⟨hxv8, v8, rfl, ev8⟩
        rw [hxv8]
        refine Wx_st (st' := [.int (iI (v8))]) rfl ?_
        have bv8 : v8 = -1 ∨ (0 ≤ v8 ∧ v8 ≤ 35) := by rw [ev8]; exact stp_bd hw hh
        have kv8 : v8 = -1 ∨ (0 ≤ rkI (X.1 0 22) (X.1 0 23) d v8 ∧ rkI (X.1 0 22) (X.1 0 23) d v8 < rkI (X.1 0 22) (X.1 0 23) d t) := by
          by_cases q : v8 = -1
          · exact .inl q
          · rw [ev8] at q bv8 ⊢
            exact .inr ⟨rk_nn hw (by omega) (by omega), (stp_dec hw hh (by omega) (by omega) d0 d1 q).1⟩
        refine x_istore (lv' := [(5, .int (iI (v8))), (4, .int (iI (t))), (0, .ref 0), (1, .int (iI (f))), (2, .int (iI (d))), (3, .ref 25)]) C dX12_goesOn_58 (nlt rfl) rfl ?_
        refine x_goto (tgt := 18) C dX12_goesOn_60 (by decide) ?_
        exact ih _ _ (by omega) (by omega) (by omega) bv8 kv8 (by omega)
      · refine x_aload_n (i := 0) C dX12_goesOn_37 rfl rfl ?_
        refine x_dup C dX12_goesOn_38 rfl ?_
        refine x_getL C fkM_X12_328 (nlt rfl) rfl dX12_goesOn_39 ?_
        refine x_genL (fun l9 el9 => ?_)
        have ql9 : (0 : Int) ≤ l9.toInt ∧ l9.toInt ≤ (68719476735 : Int) := by
          rw [el9]
          exact hH.rLF (k := 0) (i := 34) (p := (0, 68719476735)) rfl rfl
        refine x_lconst C dX12_goesOn_42 ?_
        refine x_eqL (b := 1) rfl ?_
        refine x_iload C dX12_goesOn_43 rfl ?_
        refine x_lshl C dX12_goesOn_45 ?_
        refine x_genL (fun l10 el10 => ?_)
        refine x_lor C dX12_goesOn_46 ?_
        refine x_genL (fun l11 el11 => ?_)
        refine x_putL C pkM_X12_328 (nlt rfl) rfl dX12_goesOn_47 ?_
        refine x_gX (fun Yy12 eYy12 => ?_)
        have hHy12 : HG vM Yy12 := by
          rw [eYy12]
          exact hg_wLF hH (p := (0, 68719476735)) rfl (by rw [el11, el10]; exact m36_or ql9 (m36_bit (by omega) (by omega)))
        have hFy12 : FR (cMd k_M_79) X Yy12 := by
          rw [eYy12]
          exact FR.upL hF (rfl)
        exact x_vret C hQ dX12_goesOn_50 (⟨rfl, hHy12, hFy12⟩)
set_option maxHeartbeats 4000000 in
set_option maxRecDepth 100000 in
theorem q_goesOn25 {D : va_G} {ad : Nat → Nat} {cA : Nat → ClassId} {X : XT} {f d : Int} (f0 : 0 ≤ f) (f1 : f ≤ 35) (d0 : 0 ≤ d) (d1 : d ≤ 4) (hH : HG vM X) (hw : 2 ≤ X.1 0 22 ∧ X.1 0 22 ≤ 6) (hh : 2 ≤ X.1 0 23 ∧ X.1 0 23 ≤ 6) : MetX (wM D ad cA) yX12_goesOn cX12_goesOn 6 none 3 69 [.ref 0, .int (iI (f)), .int (iI (d)), .ref 25] X (fun r X1 => r = none ∧ HG vM X1 ∧ FR (cMd k_M_79) X X1) := by
  refine MetX.mk (own := RX12) (by decide +kernel) rfl (nle rfl) (fun E C hQ => ?_)
  refine Wx_lv (lv' := [(0, .ref 0), (1, .int (iI (f))), (2, .int (iI (d))), (3, .ref 25)]) rfl ?_
  refine x_iload_n (i := 2) C dX12_goesOn_0 rfl rfl ?_
  refine x_iconst C dX12_goesOn_1 ?_
  refine x_icmp_ne (tgt := 6) C dX12_goesOn_2 (by decide) ⟨by omega, by omega⟩ ⟨by omega, by omega⟩ (fun h1 => ?_) (fun h1 => ?_)
  · refine x_iload_n (i := 1) C dX12_goesOn_6 rfl rfl ?_
    refine x_istore (lv' := [(4, .int (iI (f))), (0, .ref 0), (1, .int (iI (f))), (2, .int (iI (d))), (3, .ref 25)]) C dX12_goesOn_7 (nlt rfl) rfl ?_
    refine x_aload_n (i := 0) C dX12_goesOn_9 rfl rfl ?_
    refine x_iload C dX12_goesOn_10 rfl ?_
    refine x_iload_n (i := 2) C dX12_goesOn_12 rfl rfl ?_
    refine x_callV (As := [.int (iI (f)), .int (iI (d))]) C (by exact (qf_step (p := f) (d := d) (by omega) (by omega) hw hh (by omega) (by omega))) ckX12_322 im_X12_step se_X12_step (nlt rfl) rfl rfl rfl rfl (nle rfl) (by exact ⟨nle rfl, nle rfl⟩) dX12_goesOn_13 ?_
    rintro _ Xv2 ⟨hxv2, v2, rfl, ev2⟩
    rw [hxv2]
    refine Wx_st (st' := [.int (iI (v2))]) rfl ?_
    have bv2 : v2 = -1 ∨ (0 ≤ v2 ∧ v2 ≤ 35) := by rw [ev2]; exact stp_bd hw hh
    have kv2 : v2 = -1 ∨ (0 ≤ rkI (X.1 0 22) (X.1 0 23) d v2 ∧ rkI (X.1 0 22) (X.1 0 23) d v2 < rkI (X.1 0 22) (X.1 0 23) d f) := by
      by_cases q : v2 = -1
      · exact .inl q
      · rw [ev2] at q bv2 ⊢
        exact .inr ⟨rk_nn hw (by omega) (by omega), (stp_dec hw hh (by omega) (by omega) (by omega) (by omega) q).1⟩
    refine x_istore (lv' := [(5, .int (iI (v2))), (4, .int (iI (f))), (0, .ref 0), (1, .int (iI (f))), (2, .int (iI (d))), (3, .ref 25)]) C dX12_goesOn_16 (nlt rfl) rfl ?_
    have nf := rk_nn (H := X.1 0 23) (d := d) (p := f) hw (by omega) (by omega)
    exact lq_goesOn25 (by omega) (by omega) hH hw hh C hQ (rkI (X.1 0 22) (X.1 0 23) d f + 1).toNat f v2 (by omega) (by omega) (by omega) bv2 kv2 (by omega)
  · exact x_vret C hQ dX12_goesOn_5 (⟨rfl, hH, FR.rf⟩)
set_option maxRecDepth 10000 in
theorem t_M_79 {D : va_G} {ad : Nat → Nat} {cA : Nat → ClassId} : CTR mtM vM gM (wM D ad cA) k_M_79 := by
  intro g X hpre
  obtain ⟨h00, hei, hel, hdl, hH, hE⟩ := hpre
  have h0 : (0 : Int) ≤ g.1 0 ∧ g.1 0 ≤ (0 : Int) := hei 0 _ rfl
  have h1 : (0 : Int) ≤ g.1 1 ∧ g.1 1 ≤ (35 : Int) := hei 1 _ rfl
  have h2 : (0 : Int) ≤ g.1 2 ∧ g.1 2 ≤ (4 : Int) := hei 2 _ rfl
  have h3 : (2 : Int) ≤ g.1 3 ∧ g.1 3 ≤ (6 : Int) := hei 3 _ rfl
  have h4 : (2 : Int) ≤ g.1 4 ∧ g.1 4 ≤ (6 : Int) := hei 4 _ rfl
  have e0 : X.1 0 22 = g.1 3 + 0 := (hdl ((0, 22), (0, 3, 0)) (.head _))
  have e1 : X.1 0 23 = g.1 4 + 0 := (hdl ((0, 23), (0, 4, 0)) (.tail _ (.head _)))
  refine MetX.imp (fun r X1 hp => ?_) (q_goesOn25 (X := X) (f := g.1 1 + 0) (d := g.1 2 + 0) (by omega) (by omega) (by omega) (by omega) hH ⟨by omega, by omega⟩ ⟨by omega, by omega⟩)
  obtain ⟨rfl, hH1, hF1⟩ := hp
  exact (altM_mk 0 [] rfl (ei_cons ⟨by show (0 : Int) ≤ g.1 0; omega, by show g.1 0 ≤ (0 : Int); omega⟩ (ei_cons ⟨by show (0 : Int) ≤ g.1 1; omega, by show g.1 1 ≤ (35 : Int); omega⟩ (ei_cons ⟨by show (0 : Int) ≤ g.1 2; omega, by show g.1 2 ≤ (4 : Int); omega⟩ (ei_cons ⟨by show (2 : Int) ≤ g.1 3; omega, by show g.1 3 ≤ (6 : Int); omega⟩ (ei_cons ⟨by show (2 : Int) ≤ g.1 4; omega, by show g.1 4 ≤ (6 : Int); omega⟩ ei_nil))))) el_nil (by rfl) dl_nil gd_nil hH1 trivial hF1)
