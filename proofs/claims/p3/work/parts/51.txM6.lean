/-! ===== the reference reads: lines ===== -/
theorem dX12_lines_0 : decode cX12_lines 0 = .ok (.iconst 1, 1) := by decide +kernel
theorem dX12_lines_1 : decode cX12_lines 1 = .ok (.istore_n 2, 1) := by decide +kernel
theorem dX12_lines_2 : decode cX12_lines 2 = .ok (.iload_n 2, 1) := by decide +kernel
theorem dX12_lines_3 : decode cX12_lines 3 = .ok (.ifCond .eq 83, 3) := by decide +kernel
theorem dX12_lines_6 : decode cX12_lines 6 = .ok (.aload_n 0, 1) := by decide +kernel
theorem dX12_lines_7 : decode cX12_lines 7 = .ok (.getfield 190, 3) := by decide +kernel
theorem dX12_lines_10 : decode cX12_lines 10 = .ok (.ifCond .eq 76, 3) := by decide +kernel
theorem dX12_lines_13 : decode cX12_lines 13 = .ok (.aload_n 0, 1) := by decide +kernel
theorem dX12_lines_14 : decode cX12_lines 14 = .ok (.getfield 183, 3) := by decide +kernel
theorem dX12_lines_17 : decode cX12_lines 17 = .ok (.istore_n 3, 1) := by decide +kernel
theorem dX12_lines_18 : decode cX12_lines 18 = .ok (.aload_n 0, 1) := by decide +kernel
theorem dX12_lines_19 : decode cX12_lines 19 = .ok (.getfield 190, 3) := by decide +kernel
theorem dX12_lines_22 : decode cX12_lines 22 = .ok (.iconst 2, 1) := by decide +kernel
theorem dX12_lines_23 : decode cX12_lines 23 = .ok (.if_icmp .ne 10, 3) := by decide +kernel
theorem dX12_lines_26 : decode cX12_lines 26 = .ok (.aload_n 0, 1) := by decide +kernel
theorem dX12_lines_27 : decode cX12_lines 27 = .ok (.getfield 186, 3) := by decide +kernel
theorem dX12_lines_30 : decode cX12_lines 30 = .ok (.goto 4, 3) := by decide +kernel
theorem dX12_lines_33 : decode cX12_lines 33 = .ok (.lconst 0, 1) := by decide +kernel
theorem dX12_lines_34 : decode cX12_lines 34 = .ok (.lstore 4, 2) := by decide +kernel
theorem dX12_lines_36 : decode cX12_lines 36 = .ok (.iload_n 1, 1) := by decide +kernel
theorem dX12_lines_37 : decode cX12_lines 37 = .ok (.ifCond .ne 13, 3) := by decide +kernel
theorem dX12_lines_40 : decode cX12_lines 40 = .ok (.aload_n 0, 1) := by decide +kernel
theorem dX12_lines_41 : decode cX12_lines 41 = .ok (.lload 4, 2) := by decide +kernel
theorem dX12_lines_43 : decode cX12_lines 43 = .ok (.iload_n 3, 1) := by decide +kernel
theorem dX12_lines_44 : decode cX12_lines 44 = .ok (.invokevirtual 248, 3) := by decide +kernel
theorem dX12_lines_47 : decode cX12_lines 47 = .ok (.goto 10, 3) := by decide +kernel
theorem dX12_lines_50 : decode cX12_lines 50 = .ok (.aload_n 0, 1) := by decide +kernel
theorem dX12_lines_51 : decode cX12_lines 51 = .ok (.lload 4, 2) := by decide +kernel
theorem dX12_lines_53 : decode cX12_lines 53 = .ok (.iload_n 3, 1) := by decide +kernel
theorem dX12_lines_54 : decode cX12_lines 54 = .ok (.invokevirtual 252, 3) := by decide +kernel
theorem dX12_lines_57 : decode cX12_lines 57 = .ok (.istore_n 2, 1) := by decide +kernel
theorem dX12_lines_58 : decode cX12_lines 58 = .ok (.iload_n 2, 1) := by decide +kernel
theorem dX12_lines_59 : decode cX12_lines 59 = .ok (.ifCond .eq 16, 3) := by decide +kernel
theorem dX12_lines_62 : decode cX12_lines 62 = .ok (.aload_n 0, 1) := by decide +kernel
theorem dX12_lines_63 : decode cX12_lines 63 = .ok (.getfield 190, 3) := by decide +kernel
theorem dX12_lines_66 : decode cX12_lines 66 = .ok (.iconst 4, 1) := by decide +kernel
theorem dX12_lines_67 : decode cX12_lines 67 = .ok (.if_icmp .eq 8, 3) := by decide +kernel
theorem dX12_lines_70 : decode cX12_lines 70 = .ok (.aload_n 0, 1) := by decide +kernel
theorem dX12_lines_71 : decode cX12_lines 71 = .ok (.invokevirtual 205, 3) := by decide +kernel
theorem dX12_lines_74 : decode cX12_lines 74 = .ok (.istore_n 2, 1) := by decide +kernel
theorem dX12_lines_75 : decode cX12_lines 75 = .ok (.iload_n 2, 1) := by decide +kernel
theorem dX12_lines_76 : decode cX12_lines 76 = .ok (.ifCond .eq 7, 3) := by decide +kernel
theorem dX12_lines_79 : decode cX12_lines 79 = .ok (.aload_n 0, 1) := by decide +kernel
theorem dX12_lines_80 : decode cX12_lines 80 = .ok (.invokevirtual 216, 3) := by decide +kernel
theorem dX12_lines_83 : decode cX12_lines 83 = .ok (.goto (-81), 3) := by decide +kernel
theorem dX12_lines_86 : decode cX12_lines 86 = .ok (.iload_n 2, 1) := by decide +kernel
theorem dX12_lines_87 : decode cX12_lines 87 = .ok (.ireturn, 1) := by decide +kernel

set_option maxHeartbeats 4000000 in
set_option maxRecDepth 100000 in
theorem r_linesL0 {D : va_G} {ad : Nat → Nat} {cA : Nat → ClassId} {X0 : XT} {b : Nat → Int} {N : Nat} (hT0 : TPM b N X0) {s0 : Nat} {F0 : Int × Int} {B0 : BC} {E : ET} (C : CX E (wM D ad cA) cX12_lines 6 RX12 (some .boolean) { frames := 5, cells := 0, slots := 0, locals := 111 }) (hQ : EQ E (wM D ad cA) (fun r X1 => ∃ u : Int, r = some (.int (iI u)) ∧ HG vM X1 ∧ FR mmBL X0 X1 ∧ ((u = 1 ∧ (bRun b N 600 s0 F0 B0).1 = true ∧ TKM b N (bRun b N 600 s0 F0 B0).2.1 X1 ∧ tK b N (bRun b N 600 s0 F0 B0).2.1 = 5 ∧ FLM (bRun b N 600 s0 F0 B0).2.2.1 X1 ∧ BDM (bRun b N 600 s0 F0 B0).2.2.1 (bRun b N 600 s0 F0 B0).2.2.2 X1) ∨ (u = 0 ∧ (bRun b N 600 s0 F0 B0).1 = false ∧ X1.1 0 15 = ((bRun b N 600 s0 F0 B0).2.1 : Int))))) : ∀ (n : Nat) (k : Nat) (s : Nat) (F : Int × Int) (B : BC) (X : XT), ((N + 1 - s : Nat) : Int) < n → HG vM X → FR mmBL X0 X → TKM b N s X → FLM F X → FO F s → BDM F B X → bRun b N k s F B = (bRun b N 600 s0 F0 B0) → N - s ≤ k → Wx E (wM D ad cA) 6 (PX (wM D ad cA) X) 2 [(0, .ref 0), (1, .int (iI (0))), (2, .int (iI (1)))] [] := by
  intro n
  induction n with
  | zero => intro k s F B X hn hH hF hK hL hO hB hr hk; exfalso; omega
  | succ n ih =>
    intro k s F B X hn hH hF hK hL hO hB hr hk
    have kb := hK.1
    have ks := hK.2.1
    have sN := hK.2.2.2.2.2.1
    have n6 := hT0.2.1
    have k0 := sK_5 hK.2.2.2.2.2.2 (tK_bd b N s).2
    have k2 := sK_2 hK.2.2.2.2.2.2 (tK_bd b N s).2
    refine x_iload_n (i := 2) C dX12_lines_2 rfl rfl ?_
    refine x_if_eq (tgt := 86) C dX12_lines_3 (by decide) ⟨by omega, by omega⟩ (fun h1 => by exfalso; omega) (fun h1 => ?_)
    refine x_aload_n (i := 0) C dX12_lines_6 rfl rfl ?_
    refine x_getI C fkM_X12_190 (nlt rfl) rfl dX12_lines_7 ?_
    refine x_gen (fun v2 ev2 => ?_)
    have qv2 : ((-2147483648) : Int) ≤ v2 ∧ v2 ≤ (2147483647 : Int) := by
      rw [ev2]
      exact hH.rF (k := 0) (i := 12) rfl rfl
    refine x_if_eq (tgt := 86) C dX12_lines_10 (by decide) ⟨by omega, by omega⟩ (fun h3 => ?_) (fun h3 => ?_)
    · have k5 : tK b N s = 5 := k0.mp (by omega)
      rw [bRun_E k5] at hr
      refine x_iload_n (i := 2) C dX12_lines_86 rfl rfl ?_
      exact x_zret C hQ (by omega) dX12_lines_87 (⟨_, rfl, hH, hF, .inl ⟨rfl, by rw [← hr], by rw [← hr]; exact hK, by rw [← hr]; exact k5, by rw [← hr]; exact hL, by rw [← hr]; exact hB⟩⟩)
    · refine x_aload_n (i := 0) C dX12_lines_13 rfl rfl ?_
      refine x_getI C fkM_X12_183 (nlt rfl) rfl dX12_lines_14 ?_
      refine x_gen (fun v4 ev4 => ?_)
      have qv4 : ((-2147483648) : Int) ≤ v4 ∧ v4 ≤ (2147483647 : Int) := by
        rw [ev4]
        exact hH.rF (k := 0) (i := 11) rfl rfl
      refine x_istore_n (i := 3) (lv' := [(3, .int (iI (v4))), (0, .ref 0), (1, .int (iI (0))), (2, .int (iI (1)))]) C dX12_lines_17 rfl (nlt rfl) rfl ?_
      refine x_aload_n (i := 0) C dX12_lines_18 rfl rfl ?_
      refine x_getI C fkM_X12_190 (nlt rfl) rfl dX12_lines_19 ?_
      refine x_gen (fun v5 ev5 => ?_)
      have qv5 : ((-2147483648) : Int) ≤ v5 ∧ v5 ≤ (2147483647 : Int) := by
        rw [ev5]
        exact hH.rF (k := 0) (i := 12) rfl rfl
      refine x_iconst C dX12_lines_22 ?_
      refine x_icmp_ne (tgt := 33) C dX12_lines_23 (by decide) ⟨by omega, by omega⟩ ⟨by omega, by omega⟩ (fun h6 => ?_) (fun h6 => ?_)
      · have kw0 : tK b N s ≠ 1 := fun g => by have := k2.mpr g; omega
        refine x_lconst C dX12_lines_33 ?_
        refine x_eqL (b := 0) rfl ?_
        refine x_lstore (lv' := [(4, .long (0)), (3, .int (iI (v4))), (0, .ref 0), (1, .int (iI (0))), (2, .int (iI (1)))]) C dX12_lines_34 (nlt rfl) rfl ?_
        refine x_iload_n (i := 1) C dX12_lines_36 rfl rfl ?_
        refine x_if_ne (tgt := 50) C dX12_lines_37 (by decide) ⟨by omega, by omega⟩ (fun h7 => by exfalso; omega) (fun h7 => ?_)
        refine x_aload_n (i := 0) C dX12_lines_40 rfl rfl ?_
        refine x_lload C dX12_lines_41 rfl ?_
        refine x_iload_n (i := 3) C dX12_lines_43 rfl rfl ?_
        rw [show iI v4 = iI ((s : Nat) : Int) by congr 1; omega]
        refine x_callV (As := [.long (0), .int (iI (((s : Nat) : Int)))]) C (by exact (r_boardLine (s := s) (F := F) (B := B) (wd := 0) (hT0.fr hF rfl) hH FR.rf (wW_0 kw0).symm hK hL hO hB)) ckX12_248 im_X12_boardLine se_X12_boardLine (nlt rfl) rfl rfl rfl rfl (nle rfl) (by exact ⟨nle rfl, nle rfl⟩) dX12_lines_44 ?_
        rintro _ Yy8 ⟨v9, rfl, hHy8, hGy8, lpv9⟩
        have hFy8 : FR mmBL X0 Yy8 := FR.tr hF hGy8 (by decide)
        obtain ⟨s1, F1, B1, hKy8, hLy8, hO1, lp⟩ := lpv9
        refine Wx_st (st' := [.int (iI (v9))]) rfl ?_
        refine x_goto (tgt := 57) C dX12_lines_47 (by decide) ?_
        refine x_istore_n (i := 2) (lv' := [(2, .int (iI (v9))), (4, .long (0)), (3, .int (iI (((s : Nat) : Int)))), (0, .ref 0), (1, .int (iI (0)))]) C dX12_lines_57 rfl (nlt rfl) rfl ?_
        refine x_iload_n (i := 2) C dX12_lines_58 rfl rfl ?_
        refine x_if_eq (tgt := 75) C dX12_lines_59 (by decide) ⟨by omega, by omega⟩ (fun h10 => ?_) (fun h10 => ?_)
        · have l0 := lp.elim (fun g => by exfalso; have := g.1; omega) (fun g => g.2)
          have le := l0.2
          have wa := l0.1
          refine x_iload_n (i := 2) C dX12_lines_75 rfl rfl ?_
          refine x_if_eq (tgt := 83) C dX12_lines_76 (by decide) ⟨by omega, by omega⟩ (fun h11 => ?_) (fun h11 => by exfalso; omega)
          refine x_goto (tgt := 2) C dX12_lines_83 (by decide) ?_
          refine x_iload_n (i := 2) C dX12_lines_2 rfl rfl ?_
          refine x_if_eq (tgt := 86) C dX12_lines_3 (by decide) ⟨by omega, by omega⟩ (fun h12 => ?_) (fun h12 => by exfalso; omega)
          have k5 : tK b N s ≠ 5 := fun g => by have := k0.mpr g; omega
          have sl := tK_lt k5 sN
          obtain ⟨k1, rfl⟩ : ∃ k1, k = k1 + 1 := ⟨k - 1, by omega⟩
          rw [bRun_n k5 (by rw [le]), le] at hr
          refine x_iload_n (i := 2) C dX12_lines_86 rfl rfl ?_
          exact x_zret C hQ (by omega) dX12_lines_87 (⟨_, rfl, hHy8, hFy8, .inr ⟨by omega, by rw [← hr], by rw [← hr]; exact wa⟩⟩)
        · have l1 := lp.elim (fun g => g.2) (fun g => by exfalso; have := g.1; omega)
          have hBy8 := l1.2.2
          have b1 := hKy8.2.2.2.2.2.2
          have b5 := (tK_bd b N s1).2
          have k4 := sK_4 b1 b5
          have so := hKy8.2.1
          refine x_aload_n (i := 0) C dX12_lines_62 rfl rfl ?_
          refine x_getI C fkM_X12_190 (nlt rfl) rfl dX12_lines_63 ?_
          refine x_gen (fun v13 ev13 => ?_)
          have qv13 : ((-2147483648) : Int) ≤ v13 ∧ v13 ≤ (2147483647 : Int) := by
            rw [ev13]
            exact hHy8.rF (k := 0) (i := 12) rfl rfl
          refine x_iconst C dX12_lines_66 ?_
          refine x_icmp_eq (tgt := 75) C dX12_lines_67 (by decide) ⟨by omega, by omega⟩ ⟨by omega, by omega⟩ (fun h14 => ?_) (fun h14 => ?_)
          · refine x_iload_n (i := 2) C dX12_lines_75 rfl rfl ?_
            refine x_if_eq (tgt := 83) C dX12_lines_76 (by decide) ⟨by omega, by omega⟩ (fun h15 => by exfalso; omega) (fun h15 => ?_)
            have k3 : tK b N s1 = 3 := k4.mp (by omega)
            have le := l1.2.1
            rw [if_pos k3] at le
            refine x_aload_n (i := 0) C dX12_lines_79 rfl rfl ?_
            refine x_callV (As := []) C (by exact (r_tok (s := s1) (hT0.fr hFy8 rfl) hHy8 hKy8 FR.rf)) ckX12_216 im_X12_token se_X12_token (nlt rfl) rfl rfl rfl rfl (nle rfl) (by exact ⟨nle rfl, nle rfl⟩) dX12_lines_80 ?_
            rintro _ Yy16 ⟨rfl, hHy16, hGy16, hKy16⟩
            have hFy16 : FR mmBL X0 Yy16 := FR.tr hFy8 hGy16 (by decide)
            have hLy16 := hLy8.fr hGy16 rfl
            have hBy16 := hBy8.fr hGy16 rfl
            have sny16 := nx_bd b N s1 hKy8.2.2.2.2.2.1
            refine Wx_st (st' := []) rfl ?_
            refine x_goto (tgt := 2) C dX12_lines_83 (by decide) ?_
            have k5 : tK b N s ≠ 5 := fun g => by have := k0.mpr g; omega
            have sl := tK_lt k5 sN
            have sx := nx_bd b N s sN
            have s1N := hKy16.2.2.2.2.2.1
            obtain ⟨k1, rfl⟩ : ∃ k1, k = k1 + 1 := ⟨k - 1, by omega⟩
            rw [bRun_y k5 (by rw [le]), le] at hr
            have fv : v9 = 1 := by omega
            rw [fv]
            refine Wx_pick [0, 1, 2] ?_
            refine Wx_lv (lv' := [(0, .ref 0), (1, .int (iI (0))), (2, .int (iI (1)))]) rfl ?_
            exact ih k1 (nx b N s1) F1 B1 _ (by have := sx.2.2 sl; omega) hHy16 hFy16 hKy16 hLy16 (hO1.mono (by omega)) hBy16 hr (by have := sx.2.2 sl; omega)
          · have k3 : tK b N s1 ≠ 3 := fun g => by have := k4.mpr g; omega
            have le := l1.2.1
            rw [if_neg k3] at le
            refine x_aload_n (i := 0) C dX12_lines_70 rfl rfl ?_
            refine x_callV (As := []) C (by exact (r_stops (s := s1) hHy8 FR.rf hKy8)) ckX12_205 im_X12_stops se_X12_stops (nlt rfl) rfl rfl rfl rfl (nle rfl) (by exact ⟨nle rfl, nle rfl⟩) dX12_lines_71 ?_
            rintro _ Yy17 ⟨v18, rfl, zv18, hHy17, hGy17, wa, hKy17⟩
            have hFy17 : FR mmBL X0 Yy17 := FR.tr hFy8 hGy17 (by decide)
            have hLy17 := hLy8.fr hGy17 rfl
            have hBy17 := hBy8.fr hGy17 rfl
            refine Wx_st (st' := [.int (iI (v18))]) rfl ?_
            refine x_istore_n (i := 2) (lv' := [(2, .int (iI (v18))), (4, .long (0)), (3, .int (iI (((s : Nat) : Int)))), (0, .ref 0), (1, .int (iI (0)))]) C dX12_lines_74 rfl (nlt rfl) rfl ?_
            refine x_iload_n (i := 2) C dX12_lines_75 rfl rfl ?_
            refine x_if_eq (tgt := 83) C dX12_lines_76 (by decide) ⟨by omega, by omega⟩ (fun h19 => ?_) (fun h19 => by exfalso; omega)
            refine x_goto (tgt := 2) C dX12_lines_83 (by decide) ?_
            refine x_iload_n (i := 2) C dX12_lines_2 rfl rfl ?_
            refine x_if_eq (tgt := 86) C dX12_lines_3 (by decide) ⟨by omega, by omega⟩ (fun h20 => ?_) (fun h20 => by exfalso; omega)
            have k5 : tK b N s ≠ 5 := fun g => by have := k0.mpr g; omega
            have sl := tK_lt k5 sN
            obtain ⟨k1, rfl⟩ : ∃ k1, k = k1 + 1 := ⟨k - 1, by omega⟩
            rw [bRun_n k5 (by rw [le]), le] at hr
            refine x_iload_n (i := 2) C dX12_lines_86 rfl rfl ?_
            exact x_zret C hQ (by omega) dX12_lines_87 (⟨_, rfl, hHy17, hFy17, .inr ⟨by omega, by rw [← hr], by rw [← hr]; exact wa⟩⟩)
      · have kw : tK b N s = 1 := k2.mp (by omega)
        refine x_aload_n (i := 0) C dX12_lines_26 rfl rfl ?_
        refine x_getL C fkM_X12_186 (nlt rfl) rfl dX12_lines_27 ?_
        refine x_genL (fun l21 el21 => ?_)
        refine x_goto (tgt := 34) C dX12_lines_30 (by decide) ?_
        refine x_lstore (lv' := [(4, .long (l21)), (3, .int (iI (v4))), (0, .ref 0), (1, .int (iI (0))), (2, .int (iI (1)))]) C dX12_lines_34 (nlt rfl) rfl ?_
        refine x_iload_n (i := 1) C dX12_lines_36 rfl rfl ?_
        refine x_if_ne (tgt := 50) C dX12_lines_37 (by decide) ⟨by omega, by omega⟩ (fun h22 => by exfalso; omega) (fun h22 => ?_)
        refine x_aload_n (i := 0) C dX12_lines_40 rfl rfl ?_
        refine x_lload C dX12_lines_41 rfl ?_
        refine x_iload_n (i := 3) C dX12_lines_43 rfl rfl ?_
        rw [show iI v4 = iI ((s : Nat) : Int) by congr 1; omega]
        refine x_callV (As := [.long (l21), .int (iI (((s : Nat) : Int)))]) C (by exact (r_boardLine (s := s) (F := F) (B := B) (wd := l21) (hT0.fr hF rfl) hH FR.rf (by rw [wW_1 kw, el21]; exact hK.2.2.2.2.1 kw) hK hL hO hB)) ckX12_248 im_X12_boardLine se_X12_boardLine (nlt rfl) rfl rfl rfl rfl (nle rfl) (by exact ⟨nle rfl, nle rfl⟩) dX12_lines_44 ?_
        rintro _ Yy23 ⟨v24, rfl, hHy23, hGy23, lpv24⟩
        have hFy23 : FR mmBL X0 Yy23 := FR.tr hF hGy23 (by decide)
        obtain ⟨s1, F1, B1, hKy23, hLy23, hO1, lp⟩ := lpv24
        refine Wx_st (st' := [.int (iI (v24))]) rfl ?_
        refine x_goto (tgt := 57) C dX12_lines_47 (by decide) ?_
        refine x_istore_n (i := 2) (lv' := [(2, .int (iI (v24))), (4, .long (l21)), (3, .int (iI (((s : Nat) : Int)))), (0, .ref 0), (1, .int (iI (0)))]) C dX12_lines_57 rfl (nlt rfl) rfl ?_
        refine x_iload_n (i := 2) C dX12_lines_58 rfl rfl ?_
        refine x_if_eq (tgt := 75) C dX12_lines_59 (by decide) ⟨by omega, by omega⟩ (fun h25 => ?_) (fun h25 => ?_)
        · have l0 := lp.elim (fun g => by exfalso; have := g.1; omega) (fun g => g.2)
          have le := l0.2
          have wa := l0.1
          refine x_iload_n (i := 2) C dX12_lines_75 rfl rfl ?_
          refine x_if_eq (tgt := 83) C dX12_lines_76 (by decide) ⟨by omega, by omega⟩ (fun h26 => ?_) (fun h26 => by exfalso; omega)
          refine x_goto (tgt := 2) C dX12_lines_83 (by decide) ?_
          refine x_iload_n (i := 2) C dX12_lines_2 rfl rfl ?_
          refine x_if_eq (tgt := 86) C dX12_lines_3 (by decide) ⟨by omega, by omega⟩ (fun h27 => ?_) (fun h27 => by exfalso; omega)
          have k5 : tK b N s ≠ 5 := fun g => by have := k0.mpr g; omega
          have sl := tK_lt k5 sN
          obtain ⟨k1, rfl⟩ : ∃ k1, k = k1 + 1 := ⟨k - 1, by omega⟩
          rw [bRun_n k5 (by rw [le]), le] at hr
          refine x_iload_n (i := 2) C dX12_lines_86 rfl rfl ?_
          exact x_zret C hQ (by omega) dX12_lines_87 (⟨_, rfl, hHy23, hFy23, .inr ⟨by omega, by rw [← hr], by rw [← hr]; exact wa⟩⟩)
        · have l1 := lp.elim (fun g => g.2) (fun g => by exfalso; have := g.1; omega)
          have hBy23 := l1.2.2
          have b1 := hKy23.2.2.2.2.2.2
          have b5 := (tK_bd b N s1).2
          have k4 := sK_4 b1 b5
          have so := hKy23.2.1
          refine x_aload_n (i := 0) C dX12_lines_62 rfl rfl ?_
          refine x_getI C fkM_X12_190 (nlt rfl) rfl dX12_lines_63 ?_
          refine x_gen (fun v28 ev28 => ?_)
          have qv28 : ((-2147483648) : Int) ≤ v28 ∧ v28 ≤ (2147483647 : Int) := by
            rw [ev28]
            exact hHy23.rF (k := 0) (i := 12) rfl rfl
          refine x_iconst C dX12_lines_66 ?_
          refine x_icmp_eq (tgt := 75) C dX12_lines_67 (by decide) ⟨by omega, by omega⟩ ⟨by omega, by omega⟩ (fun h29 => ?_) (fun h29 => ?_)
          · refine x_iload_n (i := 2) C dX12_lines_75 rfl rfl ?_
            refine x_if_eq (tgt := 83) C dX12_lines_76 (by decide) ⟨by omega, by omega⟩ (fun h30 => by exfalso; omega) (fun h30 => ?_)
            have k3 : tK b N s1 = 3 := k4.mp (by omega)
            have le := l1.2.1
            rw [if_pos k3] at le
            refine x_aload_n (i := 0) C dX12_lines_79 rfl rfl ?_
            refine x_callV (As := []) C (by exact (r_tok (s := s1) (hT0.fr hFy23 rfl) hHy23 hKy23 FR.rf)) ckX12_216 im_X12_token se_X12_token (nlt rfl) rfl rfl rfl rfl (nle rfl) (by exact ⟨nle rfl, nle rfl⟩) dX12_lines_80 ?_
            rintro _ Yy31 ⟨rfl, hHy31, hGy31, hKy31⟩
            have hFy31 : FR mmBL X0 Yy31 := FR.tr hFy23 hGy31 (by decide)
            have hLy31 := hLy23.fr hGy31 rfl
            have hBy31 := hBy23.fr hGy31 rfl
            have sny31 := nx_bd b N s1 hKy23.2.2.2.2.2.1
            refine Wx_st (st' := []) rfl ?_
            refine x_goto (tgt := 2) C dX12_lines_83 (by decide) ?_
            have k5 : tK b N s ≠ 5 := fun g => by have := k0.mpr g; omega
            have sl := tK_lt k5 sN
            have sx := nx_bd b N s sN
            have s1N := hKy31.2.2.2.2.2.1
            obtain ⟨k1, rfl⟩ : ∃ k1, k = k1 + 1 := ⟨k - 1, by omega⟩
            rw [bRun_y k5 (by rw [le]), le] at hr
            have fv : v24 = 1 := by omega
            rw [fv]
            refine Wx_pick [0, 1, 2] ?_
            refine Wx_lv (lv' := [(0, .ref 0), (1, .int (iI (0))), (2, .int (iI (1)))]) rfl ?_
            exact ih k1 (nx b N s1) F1 B1 _ (by have := sx.2.2 sl; omega) hHy31 hFy31 hKy31 hLy31 (hO1.mono (by omega)) hBy31 hr (by have := sx.2.2 sl; omega)
          · have k3 : tK b N s1 ≠ 3 := fun g => by have := k4.mpr g; omega
            have le := l1.2.1
            rw [if_neg k3] at le
            refine x_aload_n (i := 0) C dX12_lines_70 rfl rfl ?_
            refine x_callV (As := []) C (by exact (r_stops (s := s1) hHy23 FR.rf hKy23)) ckX12_205 im_X12_stops se_X12_stops (nlt rfl) rfl rfl rfl rfl (nle rfl) (by exact ⟨nle rfl, nle rfl⟩) dX12_lines_71 ?_
            rintro _ Yy32 ⟨v33, rfl, zv33, hHy32, hGy32, wa, hKy32⟩
            have hFy32 : FR mmBL X0 Yy32 := FR.tr hFy23 hGy32 (by decide)
            have hLy32 := hLy23.fr hGy32 rfl
            have hBy32 := hBy23.fr hGy32 rfl
            refine Wx_st (st' := [.int (iI (v33))]) rfl ?_
            refine x_istore_n (i := 2) (lv' := [(2, .int (iI (v33))), (4, .long (l21)), (3, .int (iI (((s : Nat) : Int)))), (0, .ref 0), (1, .int (iI (0)))]) C dX12_lines_74 rfl (nlt rfl) rfl ?_
            refine x_iload_n (i := 2) C dX12_lines_75 rfl rfl ?_
            refine x_if_eq (tgt := 83) C dX12_lines_76 (by decide) ⟨by omega, by omega⟩ (fun h34 => ?_) (fun h34 => by exfalso; omega)
            refine x_goto (tgt := 2) C dX12_lines_83 (by decide) ?_
            refine x_iload_n (i := 2) C dX12_lines_2 rfl rfl ?_
            refine x_if_eq (tgt := 86) C dX12_lines_3 (by decide) ⟨by omega, by omega⟩ (fun h35 => ?_) (fun h35 => by exfalso; omega)
            have k5 : tK b N s ≠ 5 := fun g => by have := k0.mpr g; omega
            have sl := tK_lt k5 sN
            obtain ⟨k1, rfl⟩ : ∃ k1, k = k1 + 1 := ⟨k - 1, by omega⟩
            rw [bRun_n k5 (by rw [le]), le] at hr
            refine x_iload_n (i := 2) C dX12_lines_86 rfl rfl ?_
            exact x_zret C hQ (by omega) dX12_lines_87 (⟨_, rfl, hHy32, hFy32, .inr ⟨by omega, by rw [← hr], by rw [← hr]; exact wa⟩⟩)
set_option maxHeartbeats 4000000 in
set_option maxRecDepth 100000 in
theorem r_linesL2 {D : va_G} {ad : Nat → Nat} {cA : Nat → ClassId} {X0 : XT} {b : Nat → Int} {N : Nat} (hT0 : TPM b N X0) {s0 : Nat} {F0 : Int × Int} {G0 : GC} {E : ET} (C : CX E (wM D ad cA) cX12_lines 6 RX12 (some .boolean) { frames := 5, cells := 0, slots := 0, locals := 111 }) (hQ : EQ E (wM D ad cA) (fun r X1 => ∃ u : Int, r = some (.int (iI u)) ∧ HG vM X1 ∧ FR mmGL X0 X1 ∧ ((u = 1 ∧ (gRun b N 600 s0 F0 G0).1 = true ∧ TKM b N (gRun b N 600 s0 F0 G0).2.1 X1 ∧ tK b N (gRun b N 600 s0 F0 G0).2.1 = 5 ∧ FLM (gRun b N 600 s0 F0 G0).2.2.1 X1 ∧ GDM (gRun b N 600 s0 F0 G0).2.2.2 X1) ∨ (u = 0 ∧ (gRun b N 600 s0 F0 G0).1 = false ∧ X1.1 0 15 = ((gRun b N 600 s0 F0 G0).2.1 : Int))))) : ∀ (n : Nat) (k : Nat) (s : Nat) (F : Int × Int) (G : GC) (X : XT), ((N + 1 - s : Nat) : Int) < n → HG vM X → FR mmGL X0 X → TKM b N s X → FLM F X → FO F s → GDM G X → gRun b N k s F G = (gRun b N 600 s0 F0 G0) → N - s ≤ k → Wx E (wM D ad cA) 6 (PX (wM D ad cA) X) 2 [(0, .ref 0), (1, .int (iI (2))), (2, .int (iI (1)))] [] := by
  intro n
  induction n with
  | zero => intro k s F G X hn hH hF hK hL hO hM hr hk; exfalso; omega
  | succ n ih =>
    intro k s F G X hn hH hF hK hL hO hM hr hk
    have kb := hK.1
    have ks := hK.2.1
    have sN := hK.2.2.2.2.2.1
    have n6 := hT0.2.1
    have k0 := sK_5 hK.2.2.2.2.2.2 (tK_bd b N s).2
    have k2 := sK_2 hK.2.2.2.2.2.2 (tK_bd b N s).2
    refine x_iload_n (i := 2) C dX12_lines_2 rfl rfl ?_
    refine x_if_eq (tgt := 86) C dX12_lines_3 (by decide) ⟨by omega, by omega⟩ (fun h1 => by exfalso; omega) (fun h1 => ?_)
    refine x_aload_n (i := 0) C dX12_lines_6 rfl rfl ?_
    refine x_getI C fkM_X12_190 (nlt rfl) rfl dX12_lines_7 ?_
    refine x_gen (fun v2 ev2 => ?_)
    have qv2 : ((-2147483648) : Int) ≤ v2 ∧ v2 ≤ (2147483647 : Int) := by
      rw [ev2]
      exact hH.rF (k := 0) (i := 12) rfl rfl
    refine x_if_eq (tgt := 86) C dX12_lines_10 (by decide) ⟨by omega, by omega⟩ (fun h3 => ?_) (fun h3 => ?_)
    · have k5 : tK b N s = 5 := k0.mp (by omega)
      rw [gRun_E k5] at hr
      refine x_iload_n (i := 2) C dX12_lines_86 rfl rfl ?_
      exact x_zret C hQ (by omega) dX12_lines_87 (⟨_, rfl, hH, hF, .inl ⟨rfl, by rw [← hr], by rw [← hr]; exact hK, by rw [← hr]; exact k5, by rw [← hr]; exact hL, by rw [← hr]; exact hM⟩⟩)
    · refine x_aload_n (i := 0) C dX12_lines_13 rfl rfl ?_
      refine x_getI C fkM_X12_183 (nlt rfl) rfl dX12_lines_14 ?_
      refine x_gen (fun v4 ev4 => ?_)
      have qv4 : ((-2147483648) : Int) ≤ v4 ∧ v4 ≤ (2147483647 : Int) := by
        rw [ev4]
        exact hH.rF (k := 0) (i := 11) rfl rfl
      refine x_istore_n (i := 3) (lv' := [(3, .int (iI (v4))), (0, .ref 0), (1, .int (iI (2))), (2, .int (iI (1)))]) C dX12_lines_17 rfl (nlt rfl) rfl ?_
      refine x_aload_n (i := 0) C dX12_lines_18 rfl rfl ?_
      refine x_getI C fkM_X12_190 (nlt rfl) rfl dX12_lines_19 ?_
      refine x_gen (fun v5 ev5 => ?_)
      have qv5 : ((-2147483648) : Int) ≤ v5 ∧ v5 ≤ (2147483647 : Int) := by
        rw [ev5]
        exact hH.rF (k := 0) (i := 12) rfl rfl
      refine x_iconst C dX12_lines_22 ?_
      refine x_icmp_ne (tgt := 33) C dX12_lines_23 (by decide) ⟨by omega, by omega⟩ ⟨by omega, by omega⟩ (fun h6 => ?_) (fun h6 => ?_)
      · have kw0 : tK b N s ≠ 1 := fun g => by have := k2.mpr g; omega
        refine x_lconst C dX12_lines_33 ?_
        refine x_eqL (b := 0) rfl ?_
        refine x_lstore (lv' := [(4, .long (0)), (3, .int (iI (v4))), (0, .ref 0), (1, .int (iI (2))), (2, .int (iI (1)))]) C dX12_lines_34 (nlt rfl) rfl ?_
        refine x_iload_n (i := 1) C dX12_lines_36 rfl rfl ?_
        refine x_if_ne (tgt := 50) C dX12_lines_37 (by decide) ⟨by omega, by omega⟩ (fun h7 => ?_) (fun h7 => by exfalso; omega)
        refine x_aload_n (i := 0) C dX12_lines_50 rfl rfl ?_
        refine x_lload C dX12_lines_51 rfl ?_
        refine x_iload_n (i := 3) C dX12_lines_53 rfl rfl ?_
        rw [show iI v4 = iI ((s : Nat) : Int) by congr 1; omega]
        refine x_callV (As := [.long (0), .int (iI (((s : Nat) : Int)))]) C (by exact (r_gameLine (s := s) (F := F) (G := G) (wd := 0) (hT0.fr hF rfl) hH FR.rf (wW_0 kw0).symm hK hL hO hM)) ckX12_252 im_X12_gameLine se_X12_gameLine (nlt rfl) rfl rfl rfl rfl (nle rfl) (by exact ⟨nle rfl, nle rfl⟩) dX12_lines_54 ?_
        rintro _ Yy8 ⟨v9, rfl, hHy8, hGy8, lpv9⟩
        have hFy8 : FR mmGL X0 Yy8 := FR.tr hF hGy8 (by decide)
        obtain ⟨s1, F1, B1, hKy8, hLy8, hO1, lp⟩ := lpv9
        refine Wx_st (st' := [.int (iI (v9))]) rfl ?_
        refine x_istore_n (i := 2) (lv' := [(2, .int (iI (v9))), (4, .long (0)), (3, .int (iI (((s : Nat) : Int)))), (0, .ref 0), (1, .int (iI (2)))]) C dX12_lines_57 rfl (nlt rfl) rfl ?_
        refine x_iload_n (i := 2) C dX12_lines_58 rfl rfl ?_
        refine x_if_eq (tgt := 75) C dX12_lines_59 (by decide) ⟨by omega, by omega⟩ (fun h10 => ?_) (fun h10 => ?_)
        · have l0 := lp.elim (fun g => by exfalso; have := g.1; omega) (fun g => g.2)
          have le := l0.2
          have wa := l0.1
          refine x_iload_n (i := 2) C dX12_lines_75 rfl rfl ?_
          refine x_if_eq (tgt := 83) C dX12_lines_76 (by decide) ⟨by omega, by omega⟩ (fun h11 => ?_) (fun h11 => by exfalso; omega)
          refine x_goto (tgt := 2) C dX12_lines_83 (by decide) ?_
          refine x_iload_n (i := 2) C dX12_lines_2 rfl rfl ?_
          refine x_if_eq (tgt := 86) C dX12_lines_3 (by decide) ⟨by omega, by omega⟩ (fun h12 => ?_) (fun h12 => by exfalso; omega)
          have k5 : tK b N s ≠ 5 := fun g => by have := k0.mpr g; omega
          have sl := tK_lt k5 sN
          obtain ⟨k1, rfl⟩ : ∃ k1, k = k1 + 1 := ⟨k - 1, by omega⟩
          rw [gRun_n k5 (by rw [le]), le] at hr
          refine x_iload_n (i := 2) C dX12_lines_86 rfl rfl ?_
          exact x_zret C hQ (by omega) dX12_lines_87 (⟨_, rfl, hHy8, hFy8, .inr ⟨by omega, by rw [← hr], by rw [← hr]; exact wa⟩⟩)
        · have l1 := lp.elim (fun g => g.2) (fun g => by exfalso; have := g.1; omega)
          have hMy8 := l1.2.2
          have b1 := hKy8.2.2.2.2.2.2
          have b5 := (tK_bd b N s1).2
          have k4 := sK_4 b1 b5
          have so := hKy8.2.1
          refine x_aload_n (i := 0) C dX12_lines_62 rfl rfl ?_
          refine x_getI C fkM_X12_190 (nlt rfl) rfl dX12_lines_63 ?_
          refine x_gen (fun v13 ev13 => ?_)
          have qv13 : ((-2147483648) : Int) ≤ v13 ∧ v13 ≤ (2147483647 : Int) := by
            rw [ev13]
            exact hHy8.rF (k := 0) (i := 12) rfl rfl
          refine x_iconst C dX12_lines_66 ?_
          refine x_icmp_eq (tgt := 75) C dX12_lines_67 (by decide) ⟨by omega, by omega⟩ ⟨by omega, by omega⟩ (fun h14 => ?_) (fun h14 => ?_)
          · refine x_iload_n (i := 2) C dX12_lines_75 rfl rfl ?_
            refine x_if_eq (tgt := 83) C dX12_lines_76 (by decide) ⟨by omega, by omega⟩ (fun h15 => by exfalso; omega) (fun h15 => ?_)
            have k3 : tK b N s1 = 3 := k4.mp (by omega)
            have le := l1.2.1
            rw [if_pos k3] at le
            refine x_aload_n (i := 0) C dX12_lines_79 rfl rfl ?_
            refine x_callV (As := []) C (by exact (r_tok (s := s1) (hT0.fr hFy8 rfl) hHy8 hKy8 FR.rf)) ckX12_216 im_X12_token se_X12_token (nlt rfl) rfl rfl rfl rfl (nle rfl) (by exact ⟨nle rfl, nle rfl⟩) dX12_lines_80 ?_
            rintro _ Yy16 ⟨rfl, hHy16, hGy16, hKy16⟩
            have hFy16 : FR mmGL X0 Yy16 := FR.tr hFy8 hGy16 (by decide)
            have hLy16 := hLy8.fr hGy16 rfl
            have hMy16 := hMy8.fr hGy16 rfl
            have sny16 := nx_bd b N s1 hKy8.2.2.2.2.2.1
            refine Wx_st (st' := []) rfl ?_
            refine x_goto (tgt := 2) C dX12_lines_83 (by decide) ?_
            have k5 : tK b N s ≠ 5 := fun g => by have := k0.mpr g; omega
            have sl := tK_lt k5 sN
            have sx := nx_bd b N s sN
            have s1N := hKy16.2.2.2.2.2.1
            obtain ⟨k1, rfl⟩ : ∃ k1, k = k1 + 1 := ⟨k - 1, by omega⟩
            rw [gRun_y k5 (by rw [le]), le] at hr
            have fv : v9 = 1 := by omega
            rw [fv]
            refine Wx_pick [0, 1, 2] ?_
            refine Wx_lv (lv' := [(0, .ref 0), (1, .int (iI (2))), (2, .int (iI (1)))]) rfl ?_
            exact ih k1 (nx b N s1) F1 B1 _ (by have := sx.2.2 sl; omega) hHy16 hFy16 hKy16 hLy16 (hO1.mono (by omega)) hMy16 hr (by have := sx.2.2 sl; omega)
          · have k3 : tK b N s1 ≠ 3 := fun g => by have := k4.mpr g; omega
            have le := l1.2.1
            rw [if_neg k3] at le
            refine x_aload_n (i := 0) C dX12_lines_70 rfl rfl ?_
            refine x_callV (As := []) C (by exact (r_stops (s := s1) hHy8 FR.rf hKy8)) ckX12_205 im_X12_stops se_X12_stops (nlt rfl) rfl rfl rfl rfl (nle rfl) (by exact ⟨nle rfl, nle rfl⟩) dX12_lines_71 ?_
            rintro _ Yy17 ⟨v18, rfl, zv18, hHy17, hGy17, wa, hKy17⟩
            have hFy17 : FR mmGL X0 Yy17 := FR.tr hFy8 hGy17 (by decide)
            have hLy17 := hLy8.fr hGy17 rfl
            have hMy17 := hMy8.fr hGy17 rfl
            refine Wx_st (st' := [.int (iI (v18))]) rfl ?_
            refine x_istore_n (i := 2) (lv' := [(2, .int (iI (v18))), (4, .long (0)), (3, .int (iI (((s : Nat) : Int)))), (0, .ref 0), (1, .int (iI (2)))]) C dX12_lines_74 rfl (nlt rfl) rfl ?_
            refine x_iload_n (i := 2) C dX12_lines_75 rfl rfl ?_
            refine x_if_eq (tgt := 83) C dX12_lines_76 (by decide) ⟨by omega, by omega⟩ (fun h19 => ?_) (fun h19 => by exfalso; omega)
            refine x_goto (tgt := 2) C dX12_lines_83 (by decide) ?_
            refine x_iload_n (i := 2) C dX12_lines_2 rfl rfl ?_
            refine x_if_eq (tgt := 86) C dX12_lines_3 (by decide) ⟨by omega, by omega⟩ (fun h20 => ?_) (fun h20 => by exfalso; omega)
            have k5 : tK b N s ≠ 5 := fun g => by have := k0.mpr g; omega
            have sl := tK_lt k5 sN
            obtain ⟨k1, rfl⟩ : ∃ k1, k = k1 + 1 := ⟨k - 1, by omega⟩
            rw [gRun_n k5 (by rw [le]), le] at hr
            refine x_iload_n (i := 2) C dX12_lines_86 rfl rfl ?_
            exact x_zret C hQ (by omega) dX12_lines_87 (⟨_, rfl, hHy17, hFy17, .inr ⟨by omega, by rw [← hr], by rw [← hr]; exact wa⟩⟩)
      · have kw : tK b N s = 1 := k2.mp (by omega)
        refine x_aload_n (i := 0) C dX12_lines_26 rfl rfl ?_
        refine x_getL C fkM_X12_186 (nlt rfl) rfl dX12_lines_27 ?_
        refine x_genL (fun l21 el21 => ?_)
        refine x_goto (tgt := 34) C dX12_lines_30 (by decide) ?_
        refine x_lstore (lv' := [(4, .long (l21)), (3, .int (iI (v4))), (0, .ref 0), (1, .int (iI (2))), (2, .int (iI (1)))]) C dX12_lines_34 (nlt rfl) rfl ?_
        refine x_iload_n (i := 1) C dX12_lines_36 rfl rfl ?_
        refine x_if_ne (tgt := 50) C dX12_lines_37 (by decide) ⟨by omega, by omega⟩ (fun h22 => ?_) (fun h22 => by exfalso; omega)
        refine x_aload_n (i := 0) C dX12_lines_50 rfl rfl ?_
        refine x_lload C dX12_lines_51 rfl ?_
        refine x_iload_n (i := 3) C dX12_lines_53 rfl rfl ?_
        rw [show iI v4 = iI ((s : Nat) : Int) by congr 1; omega]
        refine x_callV (As := [.long (l21), .int (iI (((s : Nat) : Int)))]) C (by exact (r_gameLine (s := s) (F := F) (G := G) (wd := l21) (hT0.fr hF rfl) hH FR.rf (by rw [wW_1 kw, el21]; exact hK.2.2.2.2.1 kw) hK hL hO hM)) ckX12_252 im_X12_gameLine se_X12_gameLine (nlt rfl) rfl rfl rfl rfl (nle rfl) (by exact ⟨nle rfl, nle rfl⟩) dX12_lines_54 ?_
        rintro _ Yy23 ⟨v24, rfl, hHy23, hGy23, lpv24⟩
        have hFy23 : FR mmGL X0 Yy23 := FR.tr hF hGy23 (by decide)
        obtain ⟨s1, F1, B1, hKy23, hLy23, hO1, lp⟩ := lpv24
        refine Wx_st (st' := [.int (iI (v24))]) rfl ?_
        refine x_istore_n (i := 2) (lv' := [(2, .int (iI (v24))), (4, .long (l21)), (3, .int (iI (((s : Nat) : Int)))), (0, .ref 0), (1, .int (iI (2)))]) C dX12_lines_57 rfl (nlt rfl) rfl ?_
        refine x_iload_n (i := 2) C dX12_lines_58 rfl rfl ?_
        refine x_if_eq (tgt := 75) C dX12_lines_59 (by decide) ⟨by omega, by omega⟩ (fun h25 => ?_) (fun h25 => ?_)
        · have l0 := lp.elim (fun g => by exfalso; have := g.1; omega) (fun g => g.2)
          have le := l0.2
          have wa := l0.1
          refine x_iload_n (i := 2) C dX12_lines_75 rfl rfl ?_
          refine x_if_eq (tgt := 83) C dX12_lines_76 (by decide) ⟨by omega, by omega⟩ (fun h26 => ?_) (fun h26 => by exfalso; omega)
          refine x_goto (tgt := 2) C dX12_lines_83 (by decide) ?_
          refine x_iload_n (i := 2) C dX12_lines_2 rfl rfl ?_
          refine x_if_eq (tgt := 86) C dX12_lines_3 (by decide) ⟨by omega, by omega⟩ (fun h27 => ?_) (fun h27 => by exfalso; omega)
          have k5 : tK b N s ≠ 5 := fun g => by have := k0.mpr g; omega
          have sl := tK_lt k5 sN
          obtain ⟨k1, rfl⟩ : ∃ k1, k = k1 + 1 := ⟨k - 1, by omega⟩
          rw [gRun_n k5 (by rw [le]), le] at hr
          refine x_iload_n (i := 2) C dX12_lines_86 rfl rfl ?_
          exact x_zret C hQ (by omega) dX12_lines_87 (⟨_, rfl, hHy23, hFy23, .inr ⟨by omega, by rw [← hr], by rw [← hr]; exact wa⟩⟩)
        · have l1 := lp.elim (fun g => g.2) (fun g => by exfalso; have := g.1; omega)
          have hMy23 := l1.2.2
          have b1 := hKy23.2.2.2.2.2.2
          have b5 := (tK_bd b N s1).2
          have k4 := sK_4 b1 b5
          have so := hKy23.2.1
          refine x_aload_n (i := 0) C dX12_lines_62 rfl rfl ?_
          refine x_getI C fkM_X12_190 (nlt rfl) rfl dX12_lines_63 ?_
          refine x_gen (fun v28 ev28 => ?_)
          have qv28 : ((-2147483648) : Int) ≤ v28 ∧ v28 ≤ (2147483647 : Int) := by
            rw [ev28]
            exact hHy23.rF (k := 0) (i := 12) rfl rfl
          refine x_iconst C dX12_lines_66 ?_
          refine x_icmp_eq (tgt := 75) C dX12_lines_67 (by decide) ⟨by omega, by omega⟩ ⟨by omega, by omega⟩ (fun h29 => ?_) (fun h29 => ?_)
          · refine x_iload_n (i := 2) C dX12_lines_75 rfl rfl ?_
            refine x_if_eq (tgt := 83) C dX12_lines_76 (by decide) ⟨by omega, by omega⟩ (fun h30 => by exfalso; omega) (fun h30 => ?_)
            have k3 : tK b N s1 = 3 := k4.mp (by omega)
            have le := l1.2.1
            rw [if_pos k3] at le
            refine x_aload_n (i := 0) C dX12_lines_79 rfl rfl ?_
            refine x_callV (As := []) C (by exact (r_tok (s := s1) (hT0.fr hFy23 rfl) hHy23 hKy23 FR.rf)) ckX12_216 im_X12_token se_X12_token (nlt rfl) rfl rfl rfl rfl (nle rfl) (by exact ⟨nle rfl, nle rfl⟩) dX12_lines_80 ?_
            rintro _ Yy31 ⟨rfl, hHy31, hGy31, hKy31⟩
            have hFy31 : FR mmGL X0 Yy31 := FR.tr hFy23 hGy31 (by decide)
            have hLy31 := hLy23.fr hGy31 rfl
            have hMy31 := hMy23.fr hGy31 rfl
            have sny31 := nx_bd b N s1 hKy23.2.2.2.2.2.1
            refine Wx_st (st' := []) rfl ?_
            refine x_goto (tgt := 2) C dX12_lines_83 (by decide) ?_
            have k5 : tK b N s ≠ 5 := fun g => by have := k0.mpr g; omega
            have sl := tK_lt k5 sN
            have sx := nx_bd b N s sN
            have s1N := hKy31.2.2.2.2.2.1
            obtain ⟨k1, rfl⟩ : ∃ k1, k = k1 + 1 := ⟨k - 1, by omega⟩
            rw [gRun_y k5 (by rw [le]), le] at hr
            have fv : v24 = 1 := by omega
            rw [fv]
            refine Wx_pick [0, 1, 2] ?_
            refine Wx_lv (lv' := [(0, .ref 0), (1, .int (iI (2))), (2, .int (iI (1)))]) rfl ?_
            exact ih k1 (nx b N s1) F1 B1 _ (by have := sx.2.2 sl; omega) hHy31 hFy31 hKy31 hLy31 (hO1.mono (by omega)) hMy31 hr (by have := sx.2.2 sl; omega)
          · have k3 : tK b N s1 ≠ 3 := fun g => by have := k4.mpr g; omega
            have le := l1.2.1
            rw [if_neg k3] at le
            refine x_aload_n (i := 0) C dX12_lines_70 rfl rfl ?_
            refine x_callV (As := []) C (by exact (r_stops (s := s1) hHy23 FR.rf hKy23)) ckX12_205 im_X12_stops se_X12_stops (nlt rfl) rfl rfl rfl rfl (nle rfl) (by exact ⟨nle rfl, nle rfl⟩) dX12_lines_71 ?_
            rintro _ Yy32 ⟨v33, rfl, zv33, hHy32, hGy32, wa, hKy32⟩
            have hFy32 : FR mmGL X0 Yy32 := FR.tr hFy23 hGy32 (by decide)
            have hLy32 := hLy23.fr hGy32 rfl
            have hMy32 := hMy23.fr hGy32 rfl
            refine Wx_st (st' := [.int (iI (v33))]) rfl ?_
            refine x_istore_n (i := 2) (lv' := [(2, .int (iI (v33))), (4, .long (l21)), (3, .int (iI (((s : Nat) : Int)))), (0, .ref 0), (1, .int (iI (2)))]) C dX12_lines_74 rfl (nlt rfl) rfl ?_
            refine x_iload_n (i := 2) C dX12_lines_75 rfl rfl ?_
            refine x_if_eq (tgt := 83) C dX12_lines_76 (by decide) ⟨by omega, by omega⟩ (fun h34 => ?_) (fun h34 => by exfalso; omega)
            refine x_goto (tgt := 2) C dX12_lines_83 (by decide) ?_
            refine x_iload_n (i := 2) C dX12_lines_2 rfl rfl ?_
            refine x_if_eq (tgt := 86) C dX12_lines_3 (by decide) ⟨by omega, by omega⟩ (fun h35 => ?_) (fun h35 => by exfalso; omega)
            have k5 : tK b N s ≠ 5 := fun g => by have := k0.mpr g; omega
            have sl := tK_lt k5 sN
            obtain ⟨k1, rfl⟩ : ∃ k1, k = k1 + 1 := ⟨k - 1, by omega⟩
            rw [gRun_n k5 (by rw [le]), le] at hr
            refine x_iload_n (i := 2) C dX12_lines_86 rfl rfl ?_
            exact x_zret C hQ (by omega) dX12_lines_87 (⟨_, rfl, hHy32, hFy32, .inr ⟨by omega, by rw [← hr], by rw [← hr]; exact wa⟩⟩)
