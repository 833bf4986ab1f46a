/-! ===== the reference reads a whole text ===== -/
theorem dX12_readText_0 : decode cX12_readText 0 = .ok (.iconst 0, 1) := by decide +kernel
theorem dX12_readText_1 : decode cX12_readText 1 = .ok (.istore_n 2, 1) := by decide +kernel
theorem dX12_readText_2 : decode cX12_readText 2 = .ok (.iload_n 2, 1) := by decide +kernel
theorem dX12_readText_3 : decode cX12_readText 3 = .ok (.sipush 331, 3) := by decide +kernel
theorem dX12_readText_6 : decode cX12_readText 6 = .ok (.if_icmp .ge 16, 3) := by decide +kernel
theorem dX12_readText_9 : decode cX12_readText 9 = .ok (.aload_n 0, 1) := by decide +kernel
theorem dX12_readText_10 : decode cX12_readText 10 = .ok (.getfield 35, 3) := by decide +kernel
theorem dX12_readText_13 : decode cX12_readText 13 = .ok (.iload_n 2, 1) := by decide +kernel
theorem dX12_readText_14 : decode cX12_readText 14 = .ok (.iconst 0, 1) := by decide +kernel
theorem dX12_readText_15 : decode cX12_readText 15 = .ok (.iastore, 1) := by decide +kernel
theorem dX12_readText_16 : decode cX12_readText 16 = .ok (.iinc 2 1, 3) := by decide +kernel
theorem dX12_readText_19 : decode cX12_readText 19 = .ok (.goto (-17), 3) := by decide +kernel
theorem dX12_readText_22 : decode cX12_readText 22 = .ok (.aload_n 0, 1) := by decide +kernel
theorem dX12_readText_23 : decode cX12_readText 23 = .ok (.getfield 35, 3) := by decide +kernel
theorem dX12_readText_26 : decode cX12_readText 26 = .ok (.iconst 0, 1) := by decide +kernel
theorem dX12_readText_27 : decode cX12_readText 27 = .ok (.iload_n 1, 1) := by decide +kernel
theorem dX12_readText_28 : decode cX12_readText 28 = .ok (.ifCond .ne 7, 3) := by decide +kernel
theorem dX12_readText_31 : decode cX12_readText 31 = .ok (.iconst 4, 1) := by decide +kernel
theorem dX12_readText_32 : decode cX12_readText 32 = .ok (.goto 4, 3) := by decide +kernel
theorem dX12_readText_35 : decode cX12_readText 35 = .ok (.iconst 0, 1) := by decide +kernel
theorem dX12_readText_36 : decode cX12_readText 36 = .ok (.iastore, 1) := by decide +kernel
theorem dX12_readText_37 : decode cX12_readText 37 = .ok (.aload_n 0, 1) := by decide +kernel
theorem dX12_readText_38 : decode cX12_readText 38 = .ok (.getfield 35, 3) := by decide +kernel
theorem dX12_readText_41 : decode cX12_readText 41 = .ok (.iconst 1, 1) := by decide +kernel
theorem dX12_readText_42 : decode cX12_readText 42 = .ok (.iload_n 1, 1) := by decide +kernel
theorem dX12_readText_43 : decode cX12_readText 43 = .ok (.ifCond .ne 7, 3) := by decide +kernel
theorem dX12_readText_46 : decode cX12_readText 46 = .ok (.iconst 4, 1) := by decide +kernel
theorem dX12_readText_47 : decode cX12_readText 47 = .ok (.goto 4, 3) := by decide +kernel
theorem dX12_readText_50 : decode cX12_readText 50 = .ok (.iconst 0, 1) := by decide +kernel
theorem dX12_readText_51 : decode cX12_readText 51 = .ok (.iastore, 1) := by decide +kernel
theorem dX12_readText_52 : decode cX12_readText 52 = .ok (.aload_n 0, 1) := by decide +kernel
theorem dX12_readText_53 : decode cX12_readText 53 = .ok (.iconst (-1), 1) := by decide +kernel
theorem dX12_readText_54 : decode cX12_readText 54 = .ok (.putfield 223, 3) := by decide +kernel
theorem dX12_readText_57 : decode cX12_readText 57 = .ok (.aload_n 0, 1) := by decide +kernel
theorem dX12_readText_58 : decode cX12_readText 58 = .ok (.iconst 0, 1) := by decide +kernel
theorem dX12_readText_59 : decode cX12_readText 59 = .ok (.putfield 173, 3) := by decide +kernel
theorem dX12_readText_62 : decode cX12_readText 62 = .ok (.aload_n 0, 1) := by decide +kernel
theorem dX12_readText_63 : decode cX12_readText 63 = .ok (.iconst 0, 1) := by decide +kernel
theorem dX12_readText_64 : decode cX12_readText 64 = .ok (.putfield 199, 3) := by decide +kernel
theorem dX12_readText_67 : decode cX12_readText 67 = .ok (.aload_n 0, 1) := by decide +kernel
theorem dX12_readText_68 : decode cX12_readText 68 = .ok (.invokevirtual 216, 3) := by decide +kernel
theorem dX12_readText_71 : decode cX12_readText 71 = .ok (.iload_n 1, 1) := by decide +kernel
theorem dX12_readText_72 : decode cX12_readText 72 = .ok (.iconst 1, 1) := by decide +kernel
theorem dX12_readText_73 : decode cX12_readText 73 = .ok (.if_icmp .ne 10, 3) := by decide +kernel
theorem dX12_readText_76 : decode cX12_readText 76 = .ok (.aload_n 0, 1) := by decide +kernel
theorem dX12_readText_77 : decode cX12_readText 77 = .ok (.invokevirtual 255, 3) := by decide +kernel
theorem dX12_readText_80 : decode cX12_readText 80 = .ok (.goto 8, 3) := by decide +kernel
theorem dX12_readText_83 : decode cX12_readText 83 = .ok (.aload_n 0, 1) := by decide +kernel
theorem dX12_readText_84 : decode cX12_readText 84 = .ok (.iload_n 1, 1) := by decide +kernel
theorem dX12_readText_85 : decode cX12_readText 85 = .ok (.invokevirtual 258, 3) := by decide +kernel
theorem dX12_readText_88 : decode cX12_readText 88 = .ok (.istore_n 2, 1) := by decide +kernel
theorem dX12_readText_89 : decode cX12_readText 89 = .ok (.iload_n 2, 1) := by decide +kernel
theorem dX12_readText_90 : decode cX12_readText 90 = .ok (.ifCond .eq 30, 3) := by decide +kernel
theorem dX12_readText_93 : decode cX12_readText 93 = .ok (.iload_n 1, 1) := by decide +kernel
theorem dX12_readText_94 : decode cX12_readText 94 = .ok (.ifCond .ne 26, 3) := by decide +kernel
theorem dX12_readText_97 : decode cX12_readText 97 = .ok (.aload_n 0, 1) := by decide +kernel
theorem dX12_readText_98 : decode cX12_readText 98 = .ok (.getfield 199, 3) := by decide +kernel
theorem dX12_readText_101 : decode cX12_readText 101 = .ok (.ifCond .ne 19, 3) := by decide +kernel
theorem dX12_readText_104 : decode cX12_readText 104 = .ok (.aload_n 0, 1) := by decide +kernel
theorem dX12_readText_105 : decode cX12_readText 105 = .ok (.invokevirtual 262, 3) := by decide +kernel
theorem dX12_readText_108 : decode cX12_readText 108 = .ok (.ifCond .eq 12, 3) := by decide +kernel
theorem dX12_readText_111 : decode cX12_readText 111 = .ok (.aload_n 0, 1) := by decide +kernel
theorem dX12_readText_112 : decode cX12_readText 112 = .ok (.iconst 4, 1) := by decide +kernel
theorem dX12_readText_113 : decode cX12_readText 113 = .ok (.aload_n 0, 1) := by decide +kernel
theorem dX12_readText_114 : decode cX12_readText 114 = .ok (.getfield 183, 3) := by decide +kernel
theorem dX12_readText_117 : decode cX12_readText 117 = .ok (.invokevirtual 212, 3) := by decide +kernel
theorem dX12_readText_120 : decode cX12_readText 120 = .ok (.aload_n 0, 1) := by decide +kernel
theorem dX12_readText_121 : decode cX12_readText 121 = .ok (.getfield 17, 3) := by decide +kernel
theorem dX12_readText_124 : decode cX12_readText 124 = .ok (.iconst 0, 1) := by decide +kernel
theorem dX12_readText_125 : decode cX12_readText 125 = .ok (.iload_n 2, 1) := by decide +kernel
theorem dX12_readText_126 : decode cX12_readText 126 = .ok (.ifCond .eq 10, 3) := by decide +kernel
theorem dX12_readText_129 : decode cX12_readText 129 = .ok (.aload_n 0, 1) := by decide +kernel
theorem dX12_readText_130 : decode cX12_readText 130 = .ok (.getfield 199, 3) := by decide +kernel
theorem dX12_readText_133 : decode cX12_readText 133 = .ok (.goto 4, 3) := by decide +kernel
theorem dX12_readText_136 : decode cX12_readText 136 = .ok (.iconst 1, 1) := by decide +kernel
theorem dX12_readText_137 : decode cX12_readText 137 = .ok (.iastore, 1) := by decide +kernel
theorem dX12_readText_138 : decode cX12_readText 138 = .ok (.aload_n 0, 1) := by decide +kernel
theorem dX12_readText_139 : decode cX12_readText 139 = .ok (.getfield 20, 3) := by decide +kernel
theorem dX12_readText_142 : decode cX12_readText 142 = .ok (.iconst 0, 1) := by decide +kernel
theorem dX12_readText_143 : decode cX12_readText 143 = .ok (.iload_n 2, 1) := by decide +kernel
theorem dX12_readText_144 : decode cX12_readText 144 = .ok (.ifCond .ne 10, 3) := by decide +kernel
theorem dX12_readText_147 : decode cX12_readText 147 = .ok (.aload_n 0, 1) := by decide +kernel
theorem dX12_readText_148 : decode cX12_readText 148 = .ok (.getfield 196, 3) := by decide +kernel
theorem dX12_readText_151 : decode cX12_readText 151 = .ok (.goto 18, 3) := by decide +kernel
theorem dX12_readText_154 : decode cX12_readText 154 = .ok (.aload_n 0, 1) := by decide +kernel
theorem dX12_readText_155 : decode cX12_readText 155 = .ok (.getfield 199, 3) := by decide +kernel
theorem dX12_readText_158 : decode cX12_readText 158 = .ok (.ifCond .le 10, 3) := by decide +kernel
theorem dX12_readText_161 : decode cX12_readText 161 = .ok (.aload_n 0, 1) := by decide +kernel
theorem dX12_readText_162 : decode cX12_readText 162 = .ok (.getfield 202, 3) := by decide +kernel
theorem dX12_readText_165 : decode cX12_readText 165 = .ok (.goto 4, 3) := by decide +kernel
theorem dX12_readText_168 : decode cX12_readText 168 = .ok (.iconst (-1), 1) := by decide +kernel
theorem dX12_readText_169 : decode cX12_readText 169 = .ok (.iastore, 1) := by decide +kernel
theorem dX12_readText_170 : decode cX12_readText 170 = .ok (.aload_n 0, 1) := by decide +kernel
theorem dX12_readText_171 : decode cX12_readText 171 = .ok (.getfield 17, 3) := by decide +kernel
theorem dX12_readText_174 : decode cX12_readText 174 = .ok (.iconst 0, 1) := by decide +kernel
theorem dX12_readText_175 : decode cX12_readText 175 = .ok (.iaload, 1) := by decide +kernel
theorem dX12_readText_176 : decode cX12_readText 176 = .ok (.ifCond .ne 7, 3) := by decide +kernel
theorem dX12_readText_179 : decode cX12_readText 179 = .ok (.iconst 1, 1) := by decide +kernel
theorem dX12_readText_180 : decode cX12_readText 180 = .ok (.goto 4, 3) := by decide +kernel
theorem dX12_readText_183 : decode cX12_readText 183 = .ok (.iconst 0, 1) := by decide +kernel
theorem dX12_readText_184 : decode cX12_readText 184 = .ok (.ireturn, 1) := by decide +kernel

set_option maxHeartbeats 4000000 in
set_option maxRecDepth 100000 in
theorem r_rt22_0 {D : va_G} {ad : Nat → Nat} {cA : Nat → ClassId} {X0 : XT} {b : Nat → Int} {N : Nat} (hT0 : TPM b N X0) {E : ET} (C : CX E (wM D ad cA) cX12_readText 3 RX12 (some .boolean) { frames := 6, cells := 0, slots := 0, locals := 136 }) (hQ : EQ E (wM D ad cA) (fun r X1 => ∃ u : Int, r = some (.int (iI u)) ∧ HG vM X1 ∧ FR mmRD X0 X1 ∧ FTM (txF b N 0) X1 ∧ ((u = 1 ∧ (txF b N 0).1 = 0 ∧ BRW (fun i => X1.1 9 i) (txB b N)) ∨ (u = 0 ∧ (txF b N 0).1 ≠ 0)))) : ∀ (n : Nat) (X : XT), (0 : Int) < n → HG vM X → FR mmRD X0 X → (∀ i, i < 331 → X.1 9 i = 0) → Wx E (wM D ad cA) 3 (PX (wM D ad cA) X) 22 [(0, .ref 0), (1, .int (iI (0)))] [] := by
  intro n
  induction n with
  | zero => intro X hn hH hF hz; exfalso; omega
  | succ n ih =>
    intro X hn hH hF hz
    have n6 := hT0.2.1
    refine x_aload_n (i := 0) C dX12_readText_22 rfl rfl ?_
    refine x_getRs (r := 9) C fkM_X12_35 (nlt rfl) rfl (HG.rR hH (k := 0) (i := 18) rfl rfl) dX12_readText_23 ?_
    refine x_iconst C dX12_readText_26 ?_
    refine x_iload_n (i := 1) C dX12_readText_27 rfl rfl ?_
    refine x_if_ne (tgt := 35) C dX12_readText_28 (by decide) ⟨by omega, by omega⟩ (fun h1 => by exfalso; omega) (fun h1 => ?_)
    refine x_iconst C dX12_readText_31 ?_
    refine x_goto (tgt := 36) C dX12_readText_32 (by decide) ?_
    refine x_iast C (nlt rfl) rfl rfl (nle rfl) (by omega) (by omega) dX12_readText_36 ?_
    refine x_gX (fun Yy2 eYy2 => ?_)
    have hHy2 : HG vM Yy2 := by
      rw [eYy2]
      exact hg_wF hH (p := ((-1), 99)) rfl ⟨by omega, by omega⟩
    have hFy2 : FR mmRD X0 Yy2 := by
      rw [eYy2]
      exact FR.upI hF (rfl)
    replace eYy2 : Yy2 = upI X 9 0 (4) := eYy2
    refine x_aload_n (i := 0) C dX12_readText_37 rfl rfl ?_
    refine x_getRs (r := 9) C fkM_X12_35 (nlt rfl) rfl (HG.rR hHy2 (k := 0) (i := 18) rfl rfl) dX12_readText_38 ?_
    refine x_iconst C dX12_readText_41 ?_
    refine x_iload_n (i := 1) C dX12_readText_42 rfl rfl ?_
    refine x_if_ne (tgt := 50) C dX12_readText_43 (by decide) ⟨by omega, by omega⟩ (fun h3 => by exfalso; omega) (fun h3 => ?_)
    refine x_iconst C dX12_readText_46 ?_
    refine x_goto (tgt := 51) C dX12_readText_47 (by decide) ?_
    refine x_iast C (nlt rfl) rfl rfl (nle rfl) (by omega) (by omega) dX12_readText_51 ?_
    refine x_gX (fun Yy4 eYy4 => ?_)
    have hHy4 : HG vM Yy4 := by
      rw [eYy4]
      exact hg_wF hHy2 (p := ((-1), 99)) rfl ⟨by omega, by omega⟩
    have hFy4 : FR mmRD X0 Yy4 := by
      rw [eYy4]
      exact FR.upI hFy2 (rfl)
    replace eYy4 : Yy4 = upI Yy2 9 1 (4) := eYy4
    refine x_aload_n (i := 0) C dX12_readText_52 rfl rfl ?_
    refine x_iconst C dX12_readText_53 ?_
    refine x_putI C pkM_X12_223 (nlt rfl) rfl dX12_readText_54 ?_
    refine x_gX (fun Yy5 eYy5 => ?_)
    have hHy5 : HG vM Yy5 := by
      rw [eYy5]
      exact hg_wF hHy4 (p := ((-2147483648), 2147483647)) rfl ⟨by omega, by omega⟩
    have hFy5 : FR mmRD X0 Yy5 := by
      rw [eYy5]
      exact FR.upI hFy4 (rfl)
    refine x_aload_n (i := 0) C dX12_readText_57 rfl rfl ?_
    refine x_iconst C dX12_readText_58 ?_
    refine x_putI C pkM_X12_173 (nlt rfl) rfl dX12_readText_59 ?_
    refine x_gX (fun Yy6 eYy6 => ?_)
    have hHy6 : HG vM Yy6 := by
      rw [eYy6]
      exact hg_wF hHy5 (p := ((-2147483648), 2147483647)) rfl ⟨by omega, by omega⟩
    have hFy6 : FR mmRD X0 Yy6 := by
      rw [eYy6]
      exact FR.upI hFy5 (rfl)
    refine x_aload_n (i := 0) C dX12_readText_62 rfl rfl ?_
    refine x_iconst C dX12_readText_63 ?_
    refine x_putI C pkM_X12_199 (nlt rfl) rfl dX12_readText_64 ?_
    refine x_gX (fun Yy7 eYy7 => ?_)
    have hHy7 : HG vM Yy7 := by
      rw [eYy7]
      exact hg_wF hHy6 (p := ((-2147483648), 2147483647)) rfl ⟨by omega, by omega⟩
    have hFy7 : FR mmRD X0 Yy7 := by
      rw [eYy7]
      exact FR.upI hFy6 (rfl)
    have hz9 : ∀ i, 2 ≤ i → i < 331 → Yy7.1 9 i = 0 := fun i i2 i3 => by rw [eYy7, upI_nc (by decide), eYy6, upI_nc (by decide), eYy5, upI_nc (by decide), eYy4, upI_ne (by omega), eYy2, upI_ne (by omega)]; exact hz i i3
    have hLy7 : FLM (0, -1) Yy7 := ⟨by rw [eYy7, upI_at], fun g => absurd rfl g⟩
    have hBy7 : BDM (0, -1) bZ Yy7 := BDM_z (by rw [eYy7, upI_nc (by decide), eYy6, upI_nc (by decide), eYy5, upI_nc (by decide), eYy4, upI_ne (by omega), eYy2, upI_at]) (by rw [eYy7, upI_nc (by decide), eYy6, upI_nc (by decide), eYy5, upI_nc (by decide), eYy4, upI_at]) hz9 (by rw [eYy7, upI_ne (by omega), eYy6, upI_ne (by omega), eYy5, upI_at])
    refine x_aload_n (i := 0) C dX12_readText_67 rfl rfl ?_
    refine x_callV (As := []) C (by exact (r_token (b := b) (N := N) (p := 0) (Nat.zero_le N) (hT0.fr hFy7 rfl) FR.rf hHy7 (by rw [eYy7, upI_ne (by omega), eYy6, upI_at]; rfl))) ckX12_216 im_X12_token se_X12_token (nlt rfl) rfl rfl rfl rfl (nle rfl) (by exact ⟨nle rfl, nle rfl⟩) dX12_readText_68 ?_
    rintro _ Yy8 ⟨rfl, hHy8, hGy8, hKy8⟩
    have hFy8 : FR mmRD X0 Yy8 := FR.tr hFy7 hGy8 (by decide)
    have hLy8 := hLy7.fr hGy8 rfl
    have hBy8 := hBy7.fr hGy8 rfl
    refine Wx_st (st' := []) rfl ?_
    refine x_iload_n (i := 1) C dX12_readText_71 rfl rfl ?_
    refine x_iconst C dX12_readText_72 ?_
    refine x_icmp_ne (tgt := 83) C dX12_readText_73 (by decide) ⟨by omega, by omega⟩ ⟨by omega, by omega⟩ (fun h9 => ?_) (fun h9 => by exfalso; omega)
    refine x_aload_n (i := 0) C dX12_readText_83 rfl rfl ?_
    refine x_iload_n (i := 1) C dX12_readText_84 rfl rfl ?_
    refine x_callV (As := [.int (iI (0))]) C (by exact (r_lines0 (s0 := (tS b N 0)) (F0 := (0, -1)) (B0 := bZ) (hT0.fr hFy8 rfl) hHy8 FR.rf hKy8 hLy8 (fun g => absurd rfl g) hBy8)) ckX12_258 im_X12_lines se_X12_lines (nlt rfl) rfl rfl rfl rfl (nle rfl) (by exact ⟨nle rfl, nle rfl⟩) dX12_readText_85 ?_
    rintro _ Yy10 ⟨v11, rfl, hHy10, hGy10, ln⟩
    have hFy10 : FR mmRD X0 Yy10 := FR.tr hFy8 hGy10 (by decide)
    refine Wx_st (st' := [.int (iI (v11))]) rfl ?_
    refine x_istore_n (i := 2) (lv' := [(2, .int (iI (v11))), (0, .ref 0), (1, .int (iI (0)))]) C dX12_readText_88 rfl (nlt rfl) rfl ?_
    refine x_iload_n (i := 2) C dX12_readText_89 rfl rfl ?_
    refine x_if_eq (tgt := 120) C dX12_readText_90 (by decide) ⟨by omega, by omega⟩ (fun h12 => ?_) (fun h12 => ?_)
    · have l0 := ln.elim (fun g => by exfalso; have := g.1; omega) (fun g => g.2)
      have nf : txF b N 0 = (1, Yy10.1 0 15) := by rw [l0.2]; exact txF_Bn l0.1
      refine x_aload_n (i := 0) C dX12_readText_120 rfl rfl ?_
      refine x_getRs (r := 3) C fkM_X12_17 (nlt rfl) rfl (HG.rR hHy10 (k := 0) (i := 3) rfl rfl) dX12_readText_121 ?_
      refine x_iconst C dX12_readText_124 ?_
      refine x_iload_n (i := 2) C dX12_readText_125 rfl rfl ?_
      refine x_if_eq (tgt := 136) C dX12_readText_126 (by decide) ⟨by omega, by omega⟩ (fun h13 => ?_) (fun h13 => by exfalso; omega)
      refine x_iconst C dX12_readText_136 ?_
      refine x_iast C (nlt rfl) rfl rfl (nle rfl) (by omega) (by omega) dX12_readText_137 ?_
      refine x_gX (fun Yy14 eYy14 => ?_)
      have hHy14 : HG vM Yy14 := by
        rw [eYy14]
        exact hg_wF hHy10 (p := ((-2147483648), 2147483647)) rfl ⟨by omega, by omega⟩
      have hFy14 : FR mmRD X0 Yy14 := by
        rw [eYy14]
        exact FR.upI hFy10 (rfl)
      replace eYy14 : Yy14 = upI Yy10 3 0 (1) := eYy14
      have hGy14 : FR [(3, some 0)] Yy10 Yy14 := by
        rw [eYy14]
        exact FR.upI FR.rf rfl
      refine x_aload_n (i := 0) C dX12_readText_138 rfl rfl ?_
      refine x_getRs (r := 4) C fkM_X12_20 (nlt rfl) rfl (HG.rR hHy14 (k := 0) (i := 4) rfl rfl) dX12_readText_139 ?_
      refine x_iconst C dX12_readText_142 ?_
      refine x_iload_n (i := 2) C dX12_readText_143 rfl rfl ?_
      refine x_if_ne (tgt := 154) C dX12_readText_144 (by decide) ⟨by omega, by omega⟩ (fun h15 => by exfalso; omega) (fun h15 => ?_)
      refine x_aload_n (i := 0) C dX12_readText_147 rfl rfl ?_
      refine x_getI C fkM_X12_196 (nlt rfl) rfl dX12_readText_148 ?_
      refine x_gen (fun v16 ev16 => ?_)
      have qv16 : ((-2147483648) : Int) ≤ v16 ∧ v16 ≤ (2147483647 : Int) := by
        rw [ev16]
        exact hHy14.rF (k := 0) (i := 15) rfl rfl
      have kv16 : v16 = Yy10.1 0 15 := by rw [ev16, eYy14, upI_nc (by decide)]
      have wav16 : v16 = Yy10.1 0 15 := by exact kv16
      refine x_goto (tgt := 169) C dX12_readText_151 (by decide) ?_
      refine x_iast C (nlt rfl) rfl rfl (nle rfl) (by omega) (by omega) dX12_readText_169 ?_
      refine x_gX (fun Yy17 eYy17 => ?_)
      have hHy17 : HG vM Yy17 := by
        rw [eYy17]
        exact hg_wF hHy14 (p := ((-2147483648), 2147483647)) rfl ⟨by omega, by omega⟩
      have hFy17 : FR mmRD X0 Yy17 := by
        rw [eYy17]
        exact FR.upI hFy14 (rfl)
      replace eYy17 : Yy17 = upI Yy14 4 0 (v16) := eYy17
      have hGy17 : FR [(4, some 0)] Yy14 Yy17 := by
        rw [eYy17]
        exact FR.upI FR.rf rfl
      refine x_aload_n (i := 0) C dX12_readText_170 rfl rfl ?_
      refine x_getRs (r := 3) C fkM_X12_17 (nlt rfl) rfl (HG.rR hHy17 (k := 0) (i := 3) rfl rfl) dX12_readText_171 ?_
      refine x_iconst C dX12_readText_174 ?_
      refine x_iald C (nlt rfl) rfl rfl (nle rfl) (by omega) (by omega) dX12_readText_175 ?_
      refine x_gen (fun v18 ev18 => ?_)
      replace ev18 : v18 = Yy17.1 3 0 := ev18
      have qv18 : ((-2147483648) : Int) ≤ v18 ∧ v18 ≤ (2147483647 : Int) := by
        rw [ev18]
        exact hHy17.rF (k := 3) (i := 0) (p := ((-2147483648), 2147483647)) rfl rfl
      have kv18 : v18 = 1 := by rw [ev18, eYy17, upI_nc (by decide), eYy14, upI_at]
      refine x_if_ne (tgt := 183) C dX12_readText_176 (by decide) ⟨by omega, by omega⟩ (fun h19 => ?_) (fun h19 => by exfalso; omega)
      refine x_iconst C dX12_readText_183 ?_
      exact x_zret C hQ (by omega) dX12_readText_184 (⟨_, rfl, hHy17, hFy17, ⟨by rw [eYy17, upI_nc (by decide), eYy14, upI_at, nf], by rw [eYy17, upI_at, nf]; exact wav16⟩, .inr ⟨rfl, by rw [nf]; exact (show (1 : Int) ≠ 0 by decide)⟩⟩)
    · have l1 := ln.elim (fun g => g.2) (fun g => by exfalso; have := g.1; omega)
      have hKy10 := l1.2.1
      have hLy10 := l1.2.2.2.1
      have hBy10 := l1.2.2.2.2
      have fp0 := (rnB_bd (b := b) (N := N)).2.1
      refine x_iload_n (i := 1) C dX12_readText_93 rfl rfl ?_
      refine x_if_ne (tgt := 120) C dX12_readText_94 (by decide) ⟨by omega, by omega⟩ (fun h20 => by exfalso; omega) (fun h20 => ?_)
      refine x_aload_n (i := 0) C dX12_readText_97 rfl rfl ?_
      refine x_getI C fkM_X12_199 (nlt rfl) rfl dX12_readText_98 ?_
      refine x_gen (fun v21 ev21 => ?_)
      have qv21 : ((-2147483648) : Int) ≤ v21 ∧ v21 ≤ (2147483647 : Int) := by
        rw [ev21]
        exact hHy10.rF (k := 0) (i := 16) rfl rfl
      have lfv21 : v21 = (rnB b N).2.2.1.1 := by rw [ev21]; exact hLy10.1
      refine x_if_ne (tgt := 120) C dX12_readText_101 (by decide) ⟨by omega, by omega⟩ (fun h22 => ?_) (fun h22 => ?_)
      · have ff : txF b N 0 = (rnB b N).2.2.1 := txF_By l1.1 (.inl (by omega))
        have hZy10 : FLM (txF b N 0) Yy10 := by rw [ff]; exact hLy10
        have tz := txF_fz (b := b) (N := N) 0
        have tb0 := (txF_bd (b := b) (N := N) 0).1
        refine x_aload_n (i := 0) C dX12_readText_120 rfl rfl ?_
        refine x_getRs (r := 3) C fkM_X12_17 (nlt rfl) rfl (HG.rR hHy10 (k := 0) (i := 3) rfl rfl) dX12_readText_121 ?_
        refine x_iconst C dX12_readText_124 ?_
        refine x_iload_n (i := 2) C dX12_readText_125 rfl rfl ?_
        refine x_if_eq (tgt := 136) C dX12_readText_126 (by decide) ⟨by omega, by omega⟩ (fun h23 => by exfalso; omega) (fun h23 => ?_)
        refine x_aload_n (i := 0) C dX12_readText_129 rfl rfl ?_
        refine x_getI C fkM_X12_199 (nlt rfl) rfl dX12_readText_130 ?_
        refine x_gen (fun v24 ev24 => ?_)
        have qv24 : ((-2147483648) : Int) ≤ v24 ∧ v24 ≤ (2147483647 : Int) := by
          rw [ev24]
          exact hHy10.rF (k := 0) (i := 16) rfl rfl
        have lzv24 : v24 = (txF b N 0).1 := by rw [ev24]; exact hZy10.1
        refine x_goto (tgt := 137) C dX12_readText_133 (by decide) ?_
        refine x_iast C (nlt rfl) rfl rfl (nle rfl) (by omega) (by omega) dX12_readText_137 ?_
        refine x_gX (fun Yy25 eYy25 => ?_)
        have hHy25 : HG vM Yy25 := by
          rw [eYy25]
          exact hg_wF hHy10 (p := ((-2147483648), 2147483647)) rfl ⟨by omega, by omega⟩
        have hFy25 : FR mmRD X0 Yy25 := by
          rw [eYy25]
          exact FR.upI hFy10 (rfl)
        replace eYy25 : Yy25 = upI Yy10 3 0 (v24) := eYy25
        have hGy25 : FR [(3, some 0)] Yy10 Yy25 := by
          rw [eYy25]
          exact FR.upI FR.rf rfl
        have hZy25 := hZy10.fr hGy25 rfl
        have hKy25 := hKy10.fr hGy25 rfl
        have hBy25 := hBy10.fr hGy25 rfl
        refine x_aload_n (i := 0) C dX12_readText_138 rfl rfl ?_
        refine x_getRs (r := 4) C fkM_X12_20 (nlt rfl) rfl (HG.rR hHy25 (k := 0) (i := 4) rfl rfl) dX12_readText_139 ?_
        refine x_iconst C dX12_readText_142 ?_
        refine x_iload_n (i := 2) C dX12_readText_143 rfl rfl ?_
        refine x_if_ne (tgt := 154) C dX12_readText_144 (by decide) ⟨by omega, by omega⟩ (fun h26 => ?_) (fun h26 => by exfalso; omega)
        refine x_aload_n (i := 0) C dX12_readText_154 rfl rfl ?_
        refine x_getI C fkM_X12_199 (nlt rfl) rfl dX12_readText_155 ?_
        refine x_gen (fun v27 ev27 => ?_)
        have qv27 : ((-2147483648) : Int) ≤ v27 ∧ v27 ≤ (2147483647 : Int) := by
          rw [ev27]
          exact hHy25.rF (k := 0) (i := 16) rfl rfl
        have kv27 : v27 = Yy10.1 0 16 := by rw [ev27, eYy25, upI_nc (by decide)]
        have lzv27 : v27 = (txF b N 0).1 := by rw [ev27]; exact hZy25.1
        refine x_if_le (tgt := 168) C dX12_readText_158 (by decide) ⟨by omega, by omega⟩ (fun h28 => ?_) (fun h28 => ?_)
        · refine x_iconst C dX12_readText_168 ?_
          refine x_iast C (nlt rfl) rfl rfl (nle rfl) (by omega) (by omega) dX12_readText_169 ?_
          refine x_gX (fun Yy29 eYy29 => ?_)
          have hHy29 : HG vM Yy29 := by
            rw [eYy29]
            exact hg_wF hHy25 (p := ((-2147483648), 2147483647)) rfl ⟨by omega, by omega⟩
          have hFy29 : FR mmRD X0 Yy29 := by
            rw [eYy29]
            exact FR.upI hFy25 (rfl)
          replace eYy29 : Yy29 = upI Yy25 4 0 ((-1)) := eYy29
          have hGy29 : FR [(4, some 0)] Yy25 Yy29 := by
            rw [eYy29]
            exact FR.upI FR.rf rfl
          have hZy29 := hZy25.fr hGy29 rfl
          have hKy29 := hKy25.fr hGy29 rfl
          have hBy29 := hBy25.fr hGy29 rfl
          refine x_aload_n (i := 0) C dX12_readText_170 rfl rfl ?_
          refine x_getRs (r := 3) C fkM_X12_17 (nlt rfl) rfl (HG.rR hHy29 (k := 0) (i := 3) rfl rfl) dX12_readText_171 ?_
          refine x_iconst C dX12_readText_174 ?_
          refine x_iald C (nlt rfl) rfl rfl (nle rfl) (by omega) (by omega) dX12_readText_175 ?_
          refine x_gen (fun v30 ev30 => ?_)
          replace ev30 : v30 = Yy29.1 3 0 := ev30
          have qv30 : ((-2147483648) : Int) ≤ v30 ∧ v30 ≤ (2147483647 : Int) := by
            rw [ev30]
            exact hHy29.rF (k := 3) (i := 0) (p := ((-2147483648), 2147483647)) rfl rfl
          have kv30 : v30 = v24 := by rw [ev30, eYy29, upI_nc (by decide), eYy25, upI_at]
          refine x_if_ne (tgt := 183) C dX12_readText_176 (by decide) ⟨by omega, by omega⟩ (fun h31 => ?_) (fun h31 => ?_)
          · refine x_iconst C dX12_readText_183 ?_
            exact x_zret C hQ (by omega) dX12_readText_184 (⟨_, rfl, hHy29, hFy29, ⟨by rw [eYy29, upI_nc (by decide), eYy25, upI_at]; exact lzv24, by rw [eYy29, upI_at]; exact (tz (by omega)).symm⟩, .inr ⟨rfl, by omega⟩⟩)
          · refine x_iconst C dX12_readText_179 ?_
            refine x_goto (tgt := 184) C dX12_readText_180 (by decide) ?_
            exact x_zret C hQ (by omega) dX12_readText_184 (by have f0 : (txF b N 0).1 = 0 := (by omega); exact ⟨_, rfl, hHy29, hFy29, ⟨by rw [eYy29, upI_nc (by decide), eYy25, upI_at]; exact lzv24, by rw [eYy29, upI_at]; exact (tz (by omega)).symm⟩, .inl ⟨rfl, f0, (BRW_of (hBy29) (fB_0 (show (fB N (rnB b N)).1 = 0 from f0)).2.1).st⟩⟩)
        · refine x_aload_n (i := 0) C dX12_readText_161 rfl rfl ?_
          refine x_getI C fkM_X12_202 (nlt rfl) rfl dX12_readText_162 ?_
          refine x_gen (fun v32 ev32 => ?_)
          have qv32 : ((-2147483648) : Int) ≤ v32 ∧ v32 ≤ (2147483647 : Int) := by
            rw [ev32]
            exact hHy25.rF (k := 0) (i := 17) rfl rfl
          have kv32 : v32 = Yy10.1 0 17 := by rw [ev32, eYy25, upI_nc (by decide)]
          have lpv32 : v32 = (txF b N 0).2 := by rw [ev32]; exact hZy25.2 (by omega)
          refine x_goto (tgt := 169) C dX12_readText_165 (by decide) ?_
          refine x_iast C (nlt rfl) rfl rfl (nle rfl) (by omega) (by omega) dX12_readText_169 ?_
          refine x_gX (fun Yy33 eYy33 => ?_)
          have hHy33 : HG vM Yy33 := by
            rw [eYy33]
            exact hg_wF hHy25 (p := ((-2147483648), 2147483647)) rfl ⟨by omega, by omega⟩
          have hFy33 : FR mmRD X0 Yy33 := by
            rw [eYy33]
            exact FR.upI hFy25 (rfl)
          replace eYy33 : Yy33 = upI Yy25 4 0 (v32) := eYy33
          have hGy33 : FR [(4, some 0)] Yy25 Yy33 := by
            rw [eYy33]
            exact FR.upI FR.rf rfl
          have hZy33 := hZy25.fr hGy33 rfl
          have hKy33 := hKy25.fr hGy33 rfl
          have hBy33 := hBy25.fr hGy33 rfl
          refine x_aload_n (i := 0) C dX12_readText_170 rfl rfl ?_
          refine x_getRs (r := 3) C fkM_X12_17 (nlt rfl) rfl (HG.rR hHy33 (k := 0) (i := 3) rfl rfl) dX12_readText_171 ?_
          refine x_iconst C dX12_readText_174 ?_
          refine x_iald C (nlt rfl) rfl rfl (nle rfl) (by omega) (by omega) dX12_readText_175 ?_
          refine x_gen (fun v34 ev34 => ?_)
          replace ev34 : v34 = Yy33.1 3 0 := ev34
          have qv34 : ((-2147483648) : Int) ≤ v34 ∧ v34 ≤ (2147483647 : Int) := by
            rw [ev34]
            exact hHy33.rF (k := 3) (i := 0) (p := ((-2147483648), 2147483647)) rfl rfl
          have kv34 : v34 = v24 := by rw [ev34, eYy33, upI_nc (by decide), eYy25, upI_at]
          refine x_if_ne (tgt := 183) C dX12_readText_176 (by decide) ⟨by omega, by omega⟩ (fun h35 => ?_) (fun h35 => ?_)
          · refine x_iconst C dX12_readText_183 ?_
            exact x_zret C hQ (by omega) dX12_readText_184 (⟨_, rfl, hHy33, hFy33, ⟨by rw [eYy33, upI_nc (by decide), eYy25, upI_at]; exact lzv24, by rw [eYy33, upI_at]; exact lpv32⟩, .inr ⟨rfl, by omega⟩⟩)
          · refine x_iconst C dX12_readText_179 ?_
            refine x_goto (tgt := 184) C dX12_readText_180 (by decide) ?_
            exact x_zret C hQ (by omega) dX12_readText_184 (by have f0 : (txF b N 0).1 = 0 := (by omega); exact ⟨_, rfl, hHy33, hFy33, ⟨by rw [eYy33, upI_nc (by decide), eYy25, upI_at]; exact lzv24, by rw [eYy33, upI_at]; exact lpv32⟩, .inl ⟨rfl, f0, (BRW_of (hBy33) (fB_0 (show (fB N (rnB b N)).1 = 0 from f0)).2.1).st⟩⟩)
      · have l00 : (rnB b N).2.2.1.1 = 0 := by omega
        refine x_aload_n (i := 0) C dX12_readText_104 rfl rfl ?_
        refine x_callV (As := []) C (by exact (r_isWrong l00 (rnB_wf2 l1.1 l00) hHy10 FR.rf hBy10)) ckX12_262 im_X12_isWrongBoard se_X12_isWrongBoard (nlt rfl) rfl rfl rfl rfl (nle rfl) (by exact ⟨nle rfl, nle rfl⟩) dX12_readText_105 ?_
        rintro _ Xv36 ⟨hxv36, v36, rfl, iw⟩
        rw [hxv36]
        refine Wx_st (st' := [.int (iI (v36))]) rfl ?_
        refine x_if_eq (tgt := 120) C dX12_readText_108 (by decide) ⟨by omega, by omega⟩ (fun h37 => ?_) (fun h37 => ?_)
        · have is1 := iw.elim (fun g => by exfalso; have := g.1; omega) (fun g => g.2)
          have ff : txF b N 0 = (rnB b N).2.2.1 := txF_By l1.1 (.inr is1)
          have hZy10 : FLM (txF b N 0) Yy10 := by rw [ff]; exact hLy10
          have tz := txF_fz (b := b) (N := N) 0
          have tb0 := (txF_bd (b := b) (N := N) 0).1
          refine x_aload_n (i := 0) C dX12_readText_120 rfl rfl ?_
          refine x_getRs (r := 3) C fkM_X12_17 (nlt rfl) rfl (HG.rR hHy10 (k := 0) (i := 3) rfl rfl) dX12_readText_121 ?_
          refine x_iconst C dX12_readText_124 ?_
          refine x_iload_n (i := 2) C dX12_readText_125 rfl rfl ?_
          refine x_if_eq (tgt := 136) C dX12_readText_126 (by decide) ⟨by omega, by omega⟩ (fun h38 => by exfalso; omega) (fun h38 => ?_)
          refine x_aload_n (i := 0) C dX12_readText_129 rfl rfl ?_
          refine x_getI C fkM_X12_199 (nlt rfl) rfl dX12_readText_130 ?_
          refine x_gen (fun v39 ev39 => ?_)
          have qv39 : ((-2147483648) : Int) ≤ v39 ∧ v39 ≤ (2147483647 : Int) := by
            rw [ev39]
            exact hHy10.rF (k := 0) (i := 16) rfl rfl
          have lzv39 : v39 = (txF b N 0).1 := by rw [ev39]; exact hZy10.1
          refine x_goto (tgt := 137) C dX12_readText_133 (by decide) ?_
          refine x_iast C (nlt rfl) rfl rfl (nle rfl) (by omega) (by omega) dX12_readText_137 ?_
          refine x_gX (fun Yy40 eYy40 => ?_)
          have hHy40 : HG vM Yy40 := by
            rw [eYy40]
            exact hg_wF hHy10 (p := ((-2147483648), 2147483647)) rfl ⟨by omega, by omega⟩
          have hFy40 : FR mmRD X0 Yy40 := by
            rw [eYy40]
            exact FR.upI hFy10 (rfl)
          replace eYy40 : Yy40 = upI Yy10 3 0 (v39) := eYy40
          have hGy40 : FR [(3, some 0)] Yy10 Yy40 := by
            rw [eYy40]
            exact FR.upI FR.rf rfl
          have hZy40 := hZy10.fr hGy40 rfl
          have hKy40 := hKy10.fr hGy40 rfl
          have hBy40 := hBy10.fr hGy40 rfl
          refine x_aload_n (i := 0) C dX12_readText_138 rfl rfl ?_
          refine x_getRs (r := 4) C fkM_X12_20 (nlt rfl) rfl (HG.rR hHy40 (k := 0) (i := 4) rfl rfl) dX12_readText_139 ?_
          refine x_iconst C dX12_readText_142 ?_
          refine x_iload_n (i := 2) C dX12_readText_143 rfl rfl ?_
          refine x_if_ne (tgt := 154) C dX12_readText_144 (by decide) ⟨by omega, by omega⟩ (fun h41 => ?_) (fun h41 => by exfalso; omega)
          refine x_aload_n (i := 0) C dX12_readText_154 rfl rfl ?_
          refine x_getI C fkM_X12_199 (nlt rfl) rfl dX12_readText_155 ?_
          refine x_gen (fun v42 ev42 => ?_)
          have qv42 : ((-2147483648) : Int) ≤ v42 ∧ v42 ≤ (2147483647 : Int) := by
            rw [ev42]
            exact hHy40.rF (k := 0) (i := 16) rfl rfl
          have kv42 : v42 = Yy10.1 0 16 := by rw [ev42, eYy40, upI_nc (by decide)]
          have lzv42 : v42 = (txF b N 0).1 := by rw [ev42]; exact hZy40.1
          refine x_if_le (tgt := 168) C dX12_readText_158 (by decide) ⟨by omega, by omega⟩ (fun h43 => ?_) (fun h43 => ?_)
          · refine x_iconst C dX12_readText_168 ?_
            refine x_iast C (nlt rfl) rfl rfl (nle rfl) (by omega) (by omega) dX12_readText_169 ?_
            refine x_gX (fun Yy44 eYy44 => ?_)
            have hHy44 : HG vM Yy44 := by
              rw [eYy44]
              exact hg_wF hHy40 (p := ((-2147483648), 2147483647)) rfl ⟨by omega, by omega⟩
            have hFy44 : FR mmRD X0 Yy44 := by
              rw [eYy44]
              exact FR.upI hFy40 (rfl)
            replace eYy44 : Yy44 = upI Yy40 4 0 ((-1)) := eYy44
            have hGy44 : FR [(4, some 0)] Yy40 Yy44 := by
              rw [eYy44]
              exact FR.upI FR.rf rfl
            have hZy44 := hZy40.fr hGy44 rfl
            have hKy44 := hKy40.fr hGy44 rfl
            have hBy44 := hBy40.fr hGy44 rfl
            refine x_aload_n (i := 0) C dX12_readText_170 rfl rfl ?_
            refine x_getRs (r := 3) C fkM_X12_17 (nlt rfl) rfl (HG.rR hHy44 (k := 0) (i := 3) rfl rfl) dX12_readText_171 ?_
            refine x_iconst C dX12_readText_174 ?_
            refine x_iald C (nlt rfl) rfl rfl (nle rfl) (by omega) (by omega) dX12_readText_175 ?_
            refine x_gen (fun v45 ev45 => ?_)
            replace ev45 : v45 = Yy44.1 3 0 := ev45
            have qv45 : ((-2147483648) : Int) ≤ v45 ∧ v45 ≤ (2147483647 : Int) := by
              rw [ev45]
              exact hHy44.rF (k := 3) (i := 0) (p := ((-2147483648), 2147483647)) rfl rfl
            have kv45 : v45 = v39 := by rw [ev45, eYy44, upI_nc (by decide), eYy40, upI_at]
            refine x_if_ne (tgt := 183) C dX12_readText_176 (by decide) ⟨by omega, by omega⟩ (fun h46 => ?_) (fun h46 => ?_)
            · refine x_iconst C dX12_readText_183 ?_
              exact x_zret C hQ (by omega) dX12_readText_184 (⟨_, rfl, hHy44, hFy44, ⟨by rw [eYy44, upI_nc (by decide), eYy40, upI_at]; exact lzv39, by rw [eYy44, upI_at]; exact (tz (by omega)).symm⟩, .inr ⟨rfl, by omega⟩⟩)
            · refine x_iconst C dX12_readText_179 ?_
              refine x_goto (tgt := 184) C dX12_readText_180 (by decide) ?_
              exact x_zret C hQ (by omega) dX12_readText_184 (by have f0 : (txF b N 0).1 = 0 := (by omega); exact ⟨_, rfl, hHy44, hFy44, ⟨by rw [eYy44, upI_nc (by decide), eYy40, upI_at]; exact lzv39, by rw [eYy44, upI_at]; exact (tz (by omega)).symm⟩, .inl ⟨rfl, f0, (BRW_of (hBy44) (fB_0 (show (fB N (rnB b N)).1 = 0 from f0)).2.1).st⟩⟩)
          · refine x_aload_n (i := 0) C dX12_readText_161 rfl rfl ?_
            refine x_getI C fkM_X12_202 (nlt rfl) rfl dX12_readText_162 ?_
            refine x_gen (fun v47 ev47 => ?_)
            have qv47 : ((-2147483648) : Int) ≤ v47 ∧ v47 ≤ (2147483647 : Int) := by
              rw [ev47]
              exact hHy40.rF (k := 0) (i := 17) rfl rfl
            have kv47 : v47 = Yy10.1 0 17 := by rw [ev47, eYy40, upI_nc (by decide)]
            have lpv47 : v47 = (txF b N 0).2 := by rw [ev47]; exact hZy40.2 (by omega)
            refine x_goto (tgt := 169) C dX12_readText_165 (by decide) ?_
            refine x_iast C (nlt rfl) rfl rfl (nle rfl) (by omega) (by omega) dX12_readText_169 ?_
            refine x_gX (fun Yy48 eYy48 => ?_)
            have hHy48 : HG vM Yy48 := by
              rw [eYy48]
              exact hg_wF hHy40 (p := ((-2147483648), 2147483647)) rfl ⟨by omega, by omega⟩
            have hFy48 : FR mmRD X0 Yy48 := by
              rw [eYy48]
              exact FR.upI hFy40 (rfl)
            replace eYy48 : Yy48 = upI Yy40 4 0 (v47) := eYy48
            have hGy48 : FR [(4, some 0)] Yy40 Yy48 := by
              rw [eYy48]
              exact FR.upI FR.rf rfl
            have hZy48 := hZy40.fr hGy48 rfl
            have hKy48 := hKy40.fr hGy48 rfl
            have hBy48 := hBy40.fr hGy48 rfl
            refine x_aload_n (i := 0) C dX12_readText_170 rfl rfl ?_
            refine x_getRs (r := 3) C fkM_X12_17 (nlt rfl) rfl (HG.rR hHy48 (k := 0) (i := 3) rfl rfl) dX12_readText_171 ?_
            refine x_iconst C dX12_readText_174 ?_
            refine x_iald C (nlt rfl) rfl rfl (nle rfl) (by omega) (by omega) dX12_readText_175 ?_
            refine x_gen (fun v49 ev49 => ?_)
            replace ev49 : v49 = Yy48.1 3 0 := ev49
            have qv49 : ((-2147483648) : Int) ≤ v49 ∧ v49 ≤ (2147483647 : Int) := by
              rw [ev49]
              exact hHy48.rF (k := 3) (i := 0) (p := ((-2147483648), 2147483647)) rfl rfl
            have kv49 : v49 = v39 := by rw [ev49, eYy48, upI_nc (by decide), eYy40, upI_at]
            refine x_if_ne (tgt := 183) C dX12_readText_176 (by decide) ⟨by omega, by omega⟩ (fun h50 => ?_) (fun h50 => ?_)
            · refine x_iconst C dX12_readText_183 ?_
              exact x_zret C hQ (by omega) dX12_readText_184 (⟨_, rfl, hHy48, hFy48, ⟨by rw [eYy48, upI_nc (by decide), eYy40, upI_at]; exact lzv39, by rw [eYy48, upI_at]; exact lpv47⟩, .inr ⟨rfl, by omega⟩⟩)
            · refine x_iconst C dX12_readText_179 ?_
              refine x_goto (tgt := 184) C dX12_readText_180 (by decide) ?_
              exact x_zret C hQ (by omega) dX12_readText_184 (by have f0 : (txF b N 0).1 = 0 := (by omega); exact ⟨_, rfl, hHy48, hFy48, ⟨by rw [eYy48, upI_nc (by decide), eYy40, upI_at]; exact lzv39, by rw [eYy48, upI_at]; exact lpv47⟩, .inl ⟨rfl, f0, (BRW_of (hBy48) (fB_0 (show (fB N (rnB b N)).1 = 0 from f0)).2.1).st⟩⟩)
        · have is0 := iw.elim (fun g => g.2) (fun g => by exfalso; have := g.1; omega)
          refine x_aload_n (i := 0) C dX12_readText_111 rfl rfl ?_
          refine x_iconst C dX12_readText_112 ?_
          refine x_aload_n (i := 0) C dX12_readText_113 rfl rfl ?_
          refine x_getI C fkM_X12_183 (nlt rfl) rfl dX12_readText_114 ?_
          refine x_gen (fun v51 ev51 => ?_)
          have qv51 : ((-2147483648) : Int) ≤ v51 ∧ v51 ≤ (2147483647 : Int) := by
            rw [ev51]
            exact hHy10.rF (k := 0) (i := 11) rfl rfl
          have bzv51 : v51 = (((rnB b N).2.1 : Nat) : Int) := by rw [ev51]; exact hKy10.1
          refine x_callV (As := [.int (iI (4)), .int (iI (v51))]) C (by exact (r_later (F := (rnB b N).2.2.1) (f := 4) (p := v51) (by omega) (by omega) ⟨by omega, by omega⟩ (fun g => absurd l00 g) hHy10 FR.rf hLy10)) ckX12_212 im_X12_later se_X12_later (nlt rfl) rfl rfl rfl rfl (nle rfl) (by exact ⟨nle rfl, nle rfl⟩) dX12_readText_117 ?_
          rintro _ Yy52 ⟨rfl, hHy52, hGy52, hLy52⟩
          have hFy52 : FR mmRD X0 Yy52 := FR.tr hFy10 hGy52 (by decide)
          have hKy52 := hKy10.fr hGy52 rfl
          have hBy52 := hBy10.fr hGy52 rfl
          rw [show v51 = (((rnB b N).2.1 : Nat) : Int) by omega] at hLy52
          refine Wx_st (st' := []) rfl ?_
          have ff : txF b N 0 = (4, (N : Int)) := txF_B4 l1.1 l00 is0
          have sN : (rnB b N).2.1 = N := tK_5N l1.2.2.1 (rnB_bd (b := b) (N := N)).1
          have hZy52 : FLM (txF b N 0) Yy52 := by
            have t := hLy52
            rw [show ntF (rnB b N).2.2.1 4 (((rnB b N).2.1 : Nat) : Int) = (4, (N : Int)) by unfold ntF; rw [if_pos l00, sN]] at t
            rw [ff]
            exact t
          have tz := txF_fz (b := b) (N := N) 0
          have tb0 := (txF_bd (b := b) (N := N) 0).1
          refine x_aload_n (i := 0) C dX12_readText_120 rfl rfl ?_
          refine x_getRs (r := 3) C fkM_X12_17 (nlt rfl) rfl (HG.rR hHy52 (k := 0) (i := 3) rfl rfl) dX12_readText_121 ?_
          refine x_iconst C dX12_readText_124 ?_
          refine x_iload_n (i := 2) C dX12_readText_125 rfl rfl ?_
          refine x_if_eq (tgt := 136) C dX12_readText_126 (by decide) ⟨by omega, by omega⟩ (fun h53 => by exfalso; omega) (fun h53 => ?_)
          refine x_aload_n (i := 0) C dX12_readText_129 rfl rfl ?_
          refine x_getI C fkM_X12_199 (nlt rfl) rfl dX12_readText_130 ?_
          refine x_gen (fun v54 ev54 => ?_)
          have qv54 : ((-2147483648) : Int) ≤ v54 ∧ v54 ≤ (2147483647 : Int) := by
            rw [ev54]
            exact hHy52.rF (k := 0) (i := 16) rfl rfl
          have lzv54 : v54 = (txF b N 0).1 := by rw [ev54]; exact hZy52.1
          refine x_goto (tgt := 137) C dX12_readText_133 (by decide) ?_
          refine x_iast C (nlt rfl) rfl rfl (nle rfl) (by omega) (by omega) dX12_readText_137 ?_
          refine x_gX (fun Yy55 eYy55 => ?_)
          have hHy55 : HG vM Yy55 := by
            rw [eYy55]
            exact hg_wF hHy52 (p := ((-2147483648), 2147483647)) rfl ⟨by omega, by omega⟩
          have hFy55 : FR mmRD X0 Yy55 := by
            rw [eYy55]
            exact FR.upI hFy52 (rfl)
          replace eYy55 : Yy55 = upI Yy52 3 0 (v54) := eYy55
          have hGy55 : FR [(3, some 0)] Yy52 Yy55 := by
            rw [eYy55]
            exact FR.upI FR.rf rfl
          have hZy55 := hZy52.fr hGy55 rfl
          have hKy55 := hKy52.fr hGy55 rfl
          have hBy55 := hBy52.fr hGy55 rfl
          refine x_aload_n (i := 0) C dX12_readText_138 rfl rfl ?_
          refine x_getRs (r := 4) C fkM_X12_20 (nlt rfl) rfl (HG.rR hHy55 (k := 0) (i := 4) rfl rfl) dX12_readText_139 ?_
          refine x_iconst C dX12_readText_142 ?_
          refine x_iload_n (i := 2) C dX12_readText_143 rfl rfl ?_
          refine x_if_ne (tgt := 154) C dX12_readText_144 (by decide) ⟨by omega, by omega⟩ (fun h56 => ?_) (fun h56 => by exfalso; omega)
          refine x_aload_n (i := 0) C dX12_readText_154 rfl rfl ?_
          refine x_getI C fkM_X12_199 (nlt rfl) rfl dX12_readText_155 ?_
          refine x_gen (fun v57 ev57 => ?_)
          have qv57 : ((-2147483648) : Int) ≤ v57 ∧ v57 ≤ (2147483647 : Int) := by
            rw [ev57]
            exact hHy55.rF (k := 0) (i := 16) rfl rfl
          have kv57 : v57 = Yy52.1 0 16 := by rw [ev57, eYy55, upI_nc (by decide)]
          have lzv57 : v57 = (txF b N 0).1 := by rw [ev57]; exact hZy55.1
          refine x_if_le (tgt := 168) C dX12_readText_158 (by decide) ⟨by omega, by omega⟩ (fun h58 => ?_) (fun h58 => ?_)
          · refine x_iconst C dX12_readText_168 ?_
            refine x_iast C (nlt rfl) rfl rfl (nle rfl) (by omega) (by omega) dX12_readText_169 ?_
            refine x_gX (fun Yy59 eYy59 => ?_)
            have hHy59 : HG vM Yy59 := by
              rw [eYy59]
              exact hg_wF hHy55 (p := ((-2147483648), 2147483647)) rfl ⟨by omega, by omega⟩
            have hFy59 : FR mmRD X0 Yy59 := by
              rw [eYy59]
              exact FR.upI hFy55 (rfl)
            replace eYy59 : Yy59 = upI Yy55 4 0 ((-1)) := eYy59
            have hGy59 : FR [(4, some 0)] Yy55 Yy59 := by
              rw [eYy59]
              exact FR.upI FR.rf rfl
            have hZy59 := hZy55.fr hGy59 rfl
            have hKy59 := hKy55.fr hGy59 rfl
            have hBy59 := hBy55.fr hGy59 rfl
            refine x_aload_n (i := 0) C dX12_readText_170 rfl rfl ?_
            refine x_getRs (r := 3) C fkM_X12_17 (nlt rfl) rfl (HG.rR hHy59 (k := 0) (i := 3) rfl rfl) dX12_readText_171 ?_
            refine x_iconst C dX12_readText_174 ?_
            refine x_iald C (nlt rfl) rfl rfl (nle rfl) (by omega) (by omega) dX12_readText_175 ?_
            refine x_gen (fun v60 ev60 => ?_)
            replace ev60 : v60 = Yy59.1 3 0 := ev60
            have qv60 : ((-2147483648) : Int) ≤ v60 ∧ v60 ≤ (2147483647 : Int) := by
              rw [ev60]
              exact hHy59.rF (k := 3) (i := 0) (p := ((-2147483648), 2147483647)) rfl rfl
            have kv60 : v60 = v54 := by rw [ev60, eYy59, upI_nc (by decide), eYy55, upI_at]
            refine x_if_ne (tgt := 183) C dX12_readText_176 (by decide) ⟨by omega, by omega⟩ (fun h61 => ?_) (fun h61 => ?_)
            · refine x_iconst C dX12_readText_183 ?_
              exact x_zret C hQ (by omega) dX12_readText_184 (⟨_, rfl, hHy59, hFy59, ⟨by rw [eYy59, upI_nc (by decide), eYy55, upI_at]; exact lzv54, by rw [eYy59, upI_at]; exact (tz (by omega)).symm⟩, .inr ⟨rfl, by omega⟩⟩)
            · refine x_iconst C dX12_readText_179 ?_
              refine x_goto (tgt := 184) C dX12_readText_180 (by decide) ?_
              exact x_zret C hQ (by omega) dX12_readText_184 (by have f0 : (txF b N 0).1 = 0 := (by omega); exact ⟨_, rfl, hHy59, hFy59, ⟨by rw [eYy59, upI_nc (by decide), eYy55, upI_at]; exact lzv54, by rw [eYy59, upI_at]; exact (tz (by omega)).symm⟩, .inl ⟨rfl, f0, (BRW_of (hBy59) (fB_0 (show (fB N (rnB b N)).1 = 0 from f0)).2.1).st⟩⟩)
          · refine x_aload_n (i := 0) C dX12_readText_161 rfl rfl ?_
            refine x_getI C fkM_X12_202 (nlt rfl) rfl dX12_readText_162 ?_
            refine x_gen (fun v62 ev62 => ?_)
            have qv62 : ((-2147483648) : Int) ≤ v62 ∧ v62 ≤ (2147483647 : Int) := by
              rw [ev62]
              exact hHy55.rF (k := 0) (i := 17) rfl rfl
            have kv62 : v62 = Yy52.1 0 17 := by rw [ev62, eYy55, upI_nc (by decide)]
            have lpv62 : v62 = (txF b N 0).2 := by rw [ev62]; exact hZy55.2 (by omega)
            refine x_goto (tgt := 169) C dX12_readText_165 (by decide) ?_
            refine x_iast C (nlt rfl) rfl rfl (nle rfl) (by omega) (by omega) dX12_readText_169 ?_
            refine x_gX (fun Yy63 eYy63 => ?_)
            have hHy63 : HG vM Yy63 := by
              rw [eYy63]
              exact hg_wF hHy55 (p := ((-2147483648), 2147483647)) rfl ⟨by omega, by omega⟩
            have hFy63 : FR mmRD X0 Yy63 := by
              rw [eYy63]
              exact FR.upI hFy55 (rfl)
            replace eYy63 : Yy63 = upI Yy55 4 0 (v62) := eYy63
            have hGy63 : FR [(4, some 0)] Yy55 Yy63 := by
              rw [eYy63]
              exact FR.upI FR.rf rfl
            have hZy63 := hZy55.fr hGy63 rfl
            have hKy63 := hKy55.fr hGy63 rfl
            have hBy63 := hBy55.fr hGy63 rfl
            refine x_aload_n (i := 0) C dX12_readText_170 rfl rfl ?_
            refine x_getRs (r := 3) C fkM_X12_17 (nlt rfl) rfl (HG.rR hHy63 (k := 0) (i := 3) rfl rfl) dX12_readText_171 ?_
            refine x_iconst C dX12_readText_174 ?_
            refine x_iald C (nlt rfl) rfl rfl (nle rfl) (by omega) (by omega) dX12_readText_175 ?_
            refine x_gen (fun v64 ev64 => ?_)
            replace ev64 : v64 = Yy63.1 3 0 := ev64
            have qv64 : ((-2147483648) : Int) ≤ v64 ∧ v64 ≤ (2147483647 : Int) := by
              rw [ev64]
              exact hHy63.rF (k := 3) (i := 0) (p := ((-2147483648), 2147483647)) rfl rfl
            have kv64 : v64 = v54 := by rw [ev64, eYy63, upI_nc (by decide), eYy55, upI_at]
            refine x_if_ne (tgt := 183) C dX12_readText_176 (by decide) ⟨by omega, by omega⟩ (fun h65 => ?_) (fun h65 => ?_)
            · refine x_iconst C dX12_readText_183 ?_
              exact x_zret C hQ (by omega) dX12_readText_184 (⟨_, rfl, hHy63, hFy63, ⟨by rw [eYy63, upI_nc (by decide), eYy55, upI_at]; exact lzv54, by rw [eYy63, upI_at]; exact lpv62⟩, .inr ⟨rfl, by omega⟩⟩)
            · refine x_iconst C dX12_readText_179 ?_
              refine x_goto (tgt := 184) C dX12_readText_180 (by decide) ?_
              exact x_zret C hQ (by omega) dX12_readText_184 (by have f0 : (txF b N 0).1 = 0 := (by omega); exact ⟨_, rfl, hHy63, hFy63, ⟨by rw [eYy63, upI_nc (by decide), eYy55, upI_at]; exact lzv54, by rw [eYy63, upI_at]; exact lpv62⟩, .inl ⟨rfl, f0, (BRW_of (hBy63) (fB_0 (show (fB N (rnB b N)).1 = 0 from f0)).2.1).st⟩⟩)
set_option maxHeartbeats 4000000 in
set_option maxRecDepth 100000 in
theorem r_rtL_0 {D : va_G} {ad : Nat → Nat} {cA : Nat → ClassId} {X0 : XT} {b : Nat → Int} {N : Nat} (hT0 : TPM b N X0) {E : ET} (C : CX E (wM D ad cA) cX12_readText 3 RX12 (some .boolean) { frames := 6, cells := 0, slots := 0, locals := 136 }) (hQ : EQ E (wM D ad cA) (fun r X1 => ∃ u : Int, r = some (.int (iI u)) ∧ HG vM X1 ∧ FR mmRD X0 X1 ∧ FTM (txF b N 0) X1 ∧ ((u = 1 ∧ (txF b N 0).1 = 0 ∧ BRW (fun i => X1.1 9 i) (txB b N)) ∨ (u = 0 ∧ (txF b N 0).1 ≠ 0)))) : ∀ (n : Nat) (i : Nat) (X : XT), ((332 - i : Nat) : Int) < n → HG vM X → FR mmRD X0 X → i ≤ 331 → (∀ p, p < i → X.1 9 p = 0) → Wx E (wM D ad cA) 3 (PX (wM D ad cA) X) 2 [(0, .ref 0), (1, .int (iI (0))), (2, .int (iI ((i : Int))))] [] := by
  intro n
  induction n with
  | zero => intro i X hn hH hF il c1; exfalso; omega
  | succ n ih =>
    intro i X hn hH hF il c1
    refine x_iload_n (i := 2) C dX12_readText_2 rfl rfl ?_
    refine x_sipush C dX12_readText_3 (by decide) ?_
    refine x_icmp_ge (tgt := 22) C dX12_readText_6 (by decide) ⟨by omega, by omega⟩ ⟨by omega, by omega⟩ (fun h1 => ?_) (fun h1 => ?_)
    · refine Wx_pick [0, 1] ?_
      refine Wx_lv (lv' := [(0, .ref 0), (1, .int (iI (0)))]) rfl ?_
      exact r_rt22_0 hT0 C hQ 1 X (by decide) hH hF (fun p hp => c1 p (by omega))
    · refine x_aload_n (i := 0) C dX12_readText_9 rfl rfl ?_
      refine x_getRs (r := 9) C fkM_X12_35 (nlt rfl) rfl (HG.rR hH (k := 0) (i := 18) rfl rfl) dX12_readText_10 ?_
      refine x_iload_n (i := 2) C dX12_readText_13 rfl rfl ?_
      refine x_iconst C dX12_readText_14 ?_
      refine x_iast C (nlt rfl) rfl rfl (nle rfl) (by omega) (by omega) dX12_readText_15 ?_
      refine x_gX (fun Yy2 eYy2 => ?_)
      have hHy2 : HG vM Yy2 := by
        rw [eYy2]
        exact hg_wA hH (n := 331) (p := ((-1), 99)) (by decide +kernel) (by omega) ⟨by omega, by omega⟩
      have hFy2 : FR mmRD X0 Yy2 := by
        rw [eYy2]
        exact FR.upI hF (rfl)
      rw [show ((i : Int)).toNat = i by omega] at eYy2
      refine x_iinc (lv' := [(2, .int (iI ((i : Int) + 1))), (0, .ref 0), (1, .int (iI (0)))]) C dX12_readText_16 rfl (nlt rfl) rfl ?_
      refine x_goto (tgt := 2) C dX12_readText_19 (by decide) ?_
      rw [show iI ((i : Int) + 1) = iI (((i + 1 : Nat) : Int)) by congr 1]
      refine Wx_pick [0, 1, 2] ?_
      refine Wx_lv (lv' := [(0, .ref 0), (1, .int (iI (0))), (2, .int (iI (((i + 1 : Nat) : Int))))]) rfl ?_
      refine ih (i + 1) _ (by omega) hHy2 hFy2 (by omega) (fun p hp => ?_)
      by_cases ep : p = i
      · subst ep
        rw [eYy2, upI_at]
      · rw [eYy2, upI_ne (by omega)]
        exact c1 p (by omega)
set_option maxHeartbeats 4000000 in
set_option maxRecDepth 100000 in
theorem r_readText0 {D : va_G} {ad : Nat → Nat} {cA : Nat → ClassId} {X0 : XT} {b : Nat → Int} {N : Nat} (hT0 : TPM b N X0) (hH : HG vM X0) (hF : FR mmRD X0 X0) : MetX (wM D ad cA) yX12_readText cX12_readText 3 (some .boolean) 6 136 [.ref 0, .int (iI (0))] X0 (fun r X1 => ∃ u : Int, r = some (.int (iI u)) ∧ HG vM X1 ∧ FR mmRD X0 X1 ∧ FTM (txF b N 0) X1 ∧ ((u = 1 ∧ (txF b N 0).1 = 0 ∧ BRW (fun i => X1.1 9 i) (txB b N)) ∨ (u = 0 ∧ (txF b N 0).1 ≠ 0))) := by
  refine MetX.mk (own := RX12) (by decide +kernel) rfl (nle rfl) (fun E C hQ => ?_)
  refine Wx_lv (lv' := [(0, .ref 0), (1, .int (iI (0)))]) rfl ?_
  refine x_iconst C dX12_readText_0 ?_
  refine x_istore_n (i := 2) (lv' := [(2, .int (iI (0))), (0, .ref 0), (1, .int (iI (0)))]) C dX12_readText_1 rfl (nlt rfl) rfl ?_
  refine Wx_pick [0, 1, 2] ?_
  refine Wx_lv (lv' := [(0, .ref 0), (1, .int (iI (0))), (2, .int (iI (0)))]) rfl ?_
  exact r_rtL_0 hT0 C hQ 333 0 X0 (by decide) hH hF (by omega) (fun p hp => absurd hp (by omega))
set_option maxHeartbeats 4000000 in
set_option maxRecDepth 100000 in
theorem r_rt22_1 {D : va_G} {ad : Nat → Nat} {cA : Nat → ClassId} {X0 : XT} {b : Nat → Int} {N : Nat} (hT0 : TPM b N X0) {E : ET} (C : CX E (wM D ad cA) cX12_readText 3 RX12 (some .boolean) { frames := 6, cells := 0, slots := 0, locals := 136 }) (hQ : EQ E (wM D ad cA) (fun r X1 => ∃ u : Int, r = some (.int (iI u)) ∧ HG vM X1 ∧ FR mmRD X0 X1 ∧ FTM (txF b N 1) X1 ∧ ((u = 1 ∧ (txF b N 1).1 = 0 ∧ (tr b N (tS b N 0) ∧ (∀ i : Nat, i < 10 → X1.1 9 i = X1.1 10 i) ∧ RSM b N (tS b N 0) X1)) ∨ (u = 0 ∧ (txF b N 1).1 ≠ 0)))) : ∀ (n : Nat) (X : XT), (0 : Int) < n → HG vM X → FR mmRD X0 X → (∀ i, i < 331 → X.1 9 i = 0) → Wx E (wM D ad cA) 3 (PX (wM D ad cA) X) 22 [(0, .ref 0), (1, .int (iI (1)))] [] := by
  intro n
  induction n with
  | zero => intro X hn hH hF hz; exfalso; omega
  | succ n ih =>
    intro X hn hH hF hz
    have n6 := hT0.2.1
    refine x_aload_n (i := 0) C dX12_readText_22 rfl rfl ?_
    refine x_getRs (r := 9) C fkM_X12_35 (nlt rfl) rfl (HG.rR hH (k := 0) (i := 18) rfl rfl) dX12_readText_23 ?_
    refine x_iconst C dX12_readText_26 ?_
    refine x_iload_n (i := 1) C dX12_readText_27 rfl rfl ?_
    refine x_if_ne (tgt := 35) C dX12_readText_28 (by decide) ⟨by omega, by omega⟩ (fun h1 => ?_) (fun h1 => by exfalso; omega)
    refine x_iconst C dX12_readText_35 ?_
    refine x_iast C (nlt rfl) rfl rfl (nle rfl) (by omega) (by omega) dX12_readText_36 ?_
    refine x_gX (fun Yy2 eYy2 => ?_)
    have hHy2 : HG vM Yy2 := by
      rw [eYy2]
      exact hg_wF hH (p := ((-1), 99)) rfl ⟨by omega, by omega⟩
    have hFy2 : FR mmRD X0 Yy2 := by
      rw [eYy2]
      exact FR.upI hF (rfl)
    replace eYy2 : Yy2 = upI X 9 0 (0) := eYy2
    refine x_aload_n (i := 0) C dX12_readText_37 rfl rfl ?_
    refine x_getRs (r := 9) C fkM_X12_35 (nlt rfl) rfl (HG.rR hHy2 (k := 0) (i := 18) rfl rfl) dX12_readText_38 ?_
    refine x_iconst C dX12_readText_41 ?_
    refine x_iload_n (i := 1) C dX12_readText_42 rfl rfl ?_
    refine x_if_ne (tgt := 50) C dX12_readText_43 (by decide) ⟨by omega, by omega⟩ (fun h3 => ?_) (fun h3 => by exfalso; omega)
    refine x_iconst C dX12_readText_50 ?_
    refine x_iast C (nlt rfl) rfl rfl (nle rfl) (by omega) (by omega) dX12_readText_51 ?_
    refine x_gX (fun Yy4 eYy4 => ?_)
    have hHy4 : HG vM Yy4 := by
      rw [eYy4]
      exact hg_wF hHy2 (p := ((-1), 99)) rfl ⟨by omega, by omega⟩
    have hFy4 : FR mmRD X0 Yy4 := by
      rw [eYy4]
      exact FR.upI hFy2 (rfl)
    replace eYy4 : Yy4 = upI Yy2 9 1 (0) := eYy4
    refine x_aload_n (i := 0) C dX12_readText_52 rfl rfl ?_
    refine x_iconst C dX12_readText_53 ?_
    refine x_putI C pkM_X12_223 (nlt rfl) rfl dX12_readText_54 ?_
    refine x_gX (fun Yy5 eYy5 => ?_)
    have hHy5 : HG vM Yy5 := by
      rw [eYy5]
      exact hg_wF hHy4 (p := ((-2147483648), 2147483647)) rfl ⟨by omega, by omega⟩
    have hFy5 : FR mmRD X0 Yy5 := by
      rw [eYy5]
      exact FR.upI hFy4 (rfl)
    refine x_aload_n (i := 0) C dX12_readText_57 rfl rfl ?_
    refine x_iconst C dX12_readText_58 ?_
    refine x_putI C pkM_X12_173 (nlt rfl) rfl dX12_readText_59 ?_
    refine x_gX (fun Yy6 eYy6 => ?_)
    have hHy6 : HG vM Yy6 := by
      rw [eYy6]
      exact hg_wF hHy5 (p := ((-2147483648), 2147483647)) rfl ⟨by omega, by omega⟩
    have hFy6 : FR mmRD X0 Yy6 := by
      rw [eYy6]
      exact FR.upI hFy5 (rfl)
    refine x_aload_n (i := 0) C dX12_readText_62 rfl rfl ?_
    refine x_iconst C dX12_readText_63 ?_
    refine x_putI C pkM_X12_199 (nlt rfl) rfl dX12_readText_64 ?_
    refine x_gX (fun Yy7 eYy7 => ?_)
    have hHy7 : HG vM Yy7 := by
      rw [eYy7]
      exact hg_wF hHy6 (p := ((-2147483648), 2147483647)) rfl ⟨by omega, by omega⟩
    have hFy7 : FR mmRD X0 Yy7 := by
      rw [eYy7]
      exact FR.upI hFy6 (rfl)
    have hz9 : ∀ i, 2 ≤ i → i < 331 → Yy7.1 9 i = 0 := fun i i2 i3 => by rw [eYy7, upI_nc (by decide), eYy6, upI_nc (by decide), eYy5, upI_nc (by decide), eYy4, upI_ne (by omega), eYy2, upI_ne (by omega)]; exact hz i i3
    have hLy7 : FLM (0, -1) Yy7 := ⟨by rw [eYy7, upI_at], fun g => absurd rfl g⟩
    refine x_aload_n (i := 0) C dX12_readText_67 rfl rfl ?_
    refine x_callV (As := []) C (by exact (r_token (b := b) (N := N) (p := 0) (Nat.zero_le N) (hT0.fr hFy7 rfl) FR.rf hHy7 (by rw [eYy7, upI_ne (by omega), eYy6, upI_at]; rfl))) ckX12_216 im_X12_token se_X12_token (nlt rfl) rfl rfl rfl rfl (nle rfl) (by exact ⟨nle rfl, nle rfl⟩) dX12_readText_68 ?_
    rintro _ Yy8 ⟨rfl, hHy8, hGy8, hKy8⟩
    have hFy8 : FR mmRD X0 Yy8 := FR.tr hFy7 hGy8 (by decide)
    have hLy8 := hLy7.fr hGy8 rfl
    refine Wx_st (st' := []) rfl ?_
    refine x_iload_n (i := 1) C dX12_readText_71 rfl rfl ?_
    refine x_iconst C dX12_readText_72 ?_
    refine x_icmp_ne (tgt := 83) C dX12_readText_73 (by decide) ⟨by omega, by omega⟩ ⟨by omega, by omega⟩ (fun h9 => by exfalso; omega) (fun h9 => ?_)
    refine x_aload_n (i := 0) C dX12_readText_76 rfl rfl ?_
    refine x_callV (As := []) C (by exact (r_ruleText (hT0.fr hFy8 rfl) hHy8 FR.rf hKy8)) ckX12_255 im_X12_ruleText se_X12_ruleText (nlt rfl) rfl rfl rfl rfl (nle rfl) (by exact ⟨nle rfl, nle rfl⟩) dX12_readText_77 ?_
    rintro _ Yy10 ⟨v11, rfl, hHy10, hGy10, ln⟩
    have hFy10 : FR mmRD X0 Yy10 := FR.tr hFy8 hGy10 (by decide)
    have hLy10 := hLy8.fr hGy10 rfl
    refine Wx_st (st' := [.int (iI (v11))]) rfl ?_
    refine x_goto (tgt := 88) C dX12_readText_80 (by decide) ?_
    refine x_istore_n (i := 2) (lv' := [(2, .int (iI (v11))), (0, .ref 0), (1, .int (iI (1)))]) C dX12_readText_88 rfl (nlt rfl) rfl ?_
    refine x_iload_n (i := 2) C dX12_readText_89 rfl rfl ?_
    refine x_if_eq (tgt := 120) C dX12_readText_90 (by decide) ⟨by omega, by omega⟩ (fun h12 => ?_) (fun h12 => ?_)
    · have nf : txF b N 1 = (1, Yy10.1 0 15) := ln.elim (fun g => by exfalso; have := g.1; omega) (fun g => g.2)
      refine x_aload_n (i := 0) C dX12_readText_120 rfl rfl ?_
      refine x_getRs (r := 3) C fkM_X12_17 (nlt rfl) rfl (HG.rR hHy10 (k := 0) (i := 3) rfl rfl) dX12_readText_121 ?_
      refine x_iconst C dX12_readText_124 ?_
      refine x_iload_n (i := 2) C dX12_readText_125 rfl rfl ?_
      refine x_if_eq (tgt := 136) C dX12_readText_126 (by decide) ⟨by omega, by omega⟩ (fun h13 => ?_) (fun h13 => by exfalso; omega)
      refine x_iconst C dX12_readText_136 ?_
      refine x_iast C (nlt rfl) rfl rfl (nle rfl) (by omega) (by omega) dX12_readText_137 ?_
      refine x_gX (fun Yy14 eYy14 => ?_)
      have hHy14 : HG vM Yy14 := by
        rw [eYy14]
        exact hg_wF hHy10 (p := ((-2147483648), 2147483647)) rfl ⟨by omega, by omega⟩
      have hFy14 : FR mmRD X0 Yy14 := by
        rw [eYy14]
        exact FR.upI hFy10 (rfl)
      replace eYy14 : Yy14 = upI Yy10 3 0 (1) := eYy14
      have hGy14 : FR [(3, some 0)] Yy10 Yy14 := by
        rw [eYy14]
        exact FR.upI FR.rf rfl
      have hLy14 := hLy10.fr hGy14 rfl
      refine x_aload_n (i := 0) C dX12_readText_138 rfl rfl ?_
      refine x_getRs (r := 4) C fkM_X12_20 (nlt rfl) rfl (HG.rR hHy14 (k := 0) (i := 4) rfl rfl) dX12_readText_139 ?_
      refine x_iconst C dX12_readText_142 ?_
      refine x_iload_n (i := 2) C dX12_readText_143 rfl rfl ?_
      refine x_if_ne (tgt := 154) C dX12_readText_144 (by decide) ⟨by omega, by omega⟩ (fun h15 => by exfalso; omega) (fun h15 => ?_)
      refine x_aload_n (i := 0) C dX12_readText_147 rfl rfl ?_
      refine x_getI C fkM_X12_196 (nlt rfl) rfl dX12_readText_148 ?_
      refine x_gen (fun v16 ev16 => ?_)
      have qv16 : ((-2147483648) : Int) ≤ v16 ∧ v16 ≤ (2147483647 : Int) := by
        rw [ev16]
        exact hHy14.rF (k := 0) (i := 15) rfl rfl
      have kv16 : v16 = Yy10.1 0 15 := by rw [ev16, eYy14, upI_nc (by decide)]
      have wav16 : v16 = Yy10.1 0 15 := by exact kv16
      refine x_goto (tgt := 169) C dX12_readText_151 (by decide) ?_
      refine x_iast C (nlt rfl) rfl rfl (nle rfl) (by omega) (by omega) dX12_readText_169 ?_
      refine x_gX (fun Yy17 eYy17 => ?_)
      have hHy17 : HG vM Yy17 := by
        rw [eYy17]
        exact hg_wF hHy14 (p := ((-2147483648), 2147483647)) rfl ⟨by omega, by omega⟩
      have hFy17 : FR mmRD X0 Yy17 := by
        rw [eYy17]
        exact FR.upI hFy14 (rfl)
      replace eYy17 : Yy17 = upI Yy14 4 0 (v16) := eYy17
      have hGy17 : FR [(4, some 0)] Yy14 Yy17 := by
        rw [eYy17]
        exact FR.upI FR.rf rfl
      have hLy17 := hLy14.fr hGy17 rfl
      refine x_aload_n (i := 0) C dX12_readText_170 rfl rfl ?_
      refine x_getRs (r := 3) C fkM_X12_17 (nlt rfl) rfl (HG.rR hHy17 (k := 0) (i := 3) rfl rfl) dX12_readText_171 ?_
      refine x_iconst C dX12_readText_174 ?_
      refine x_iald C (nlt rfl) rfl rfl (nle rfl) (by omega) (by omega) dX12_readText_175 ?_
      refine x_gen (fun v18 ev18 => ?_)
      replace ev18 : v18 = Yy17.1 3 0 := ev18
      have qv18 : ((-2147483648) : Int) ≤ v18 ∧ v18 ≤ (2147483647 : Int) := by
        rw [ev18]
        exact hHy17.rF (k := 3) (i := 0) (p := ((-2147483648), 2147483647)) rfl rfl
      have kv18 : v18 = 1 := by rw [ev18, eYy17, upI_nc (by decide), eYy14, upI_at]
      refine x_if_ne (tgt := 183) C dX12_readText_176 (by decide) ⟨by omega, by omega⟩ (fun h19 => ?_) (fun h19 => by exfalso; omega)
      refine x_iconst C dX12_readText_183 ?_
      exact x_zret C hQ (by omega) dX12_readText_184 (⟨_, rfl, hHy17, hFy17, ⟨by rw [eYy17, upI_nc (by decide), eYy14, upI_at, nf], by rw [eYy17, upI_at, nf]; exact wav16⟩, .inr ⟨rfl, by rw [nf]; exact (show (1 : Int) ≠ 0 by decide)⟩⟩)
    · have l1 := ln.elim (fun g => g.2) (fun g => by exfalso; have := g.1; omega)
      have hRy10 := l1.2.2.2
      refine x_iload_n (i := 1) C dX12_readText_93 rfl rfl ?_
      refine x_if_ne (tgt := 120) C dX12_readText_94 (by decide) ⟨by omega, by omega⟩ (fun h20 => ?_) (fun h20 => by exfalso; omega)
      have ff : txF b N 1 = (0, -1) := l1.1
      have hZy10 : FLM (txF b N 1) Yy10 := by rw [ff]; exact hLy10
      have tz := txF_fz (b := b) (N := N) 1
      have tb0 := (txF_bd (b := b) (N := N) 1).1
      refine x_aload_n (i := 0) C dX12_readText_120 rfl rfl ?_
      refine x_getRs (r := 3) C fkM_X12_17 (nlt rfl) rfl (HG.rR hHy10 (k := 0) (i := 3) rfl rfl) dX12_readText_121 ?_
      refine x_iconst C dX12_readText_124 ?_
      refine x_iload_n (i := 2) C dX12_readText_125 rfl rfl ?_
      refine x_if_eq (tgt := 136) C dX12_readText_126 (by decide) ⟨by omega, by omega⟩ (fun h21 => by exfalso; omega) (fun h21 => ?_)
      refine x_aload_n (i := 0) C dX12_readText_129 rfl rfl ?_
      refine x_getI C fkM_X12_199 (nlt rfl) rfl dX12_readText_130 ?_
      refine x_gen (fun v22 ev22 => ?_)
      have qv22 : ((-2147483648) : Int) ≤ v22 ∧ v22 ≤ (2147483647 : Int) := by
        rw [ev22]
        exact hHy10.rF (k := 0) (i := 16) rfl rfl
      have kv22 : v22 = 0 := by rw [ev22, (hGy10 0 16 rfl).1, (hGy8 0 16 rfl).1, eYy7, upI_at]
      have lzv22 : v22 = (txF b N 1).1 := by rw [ev22]; exact hZy10.1
      refine x_goto (tgt := 137) C dX12_readText_133 (by decide) ?_
      refine x_iast C (nlt rfl) rfl rfl (nle rfl) (by omega) (by omega) dX12_readText_137 ?_
      refine x_gX (fun Yy23 eYy23 => ?_)
      have hHy23 : HG vM Yy23 := by
        rw [eYy23]
        exact hg_wF hHy10 (p := ((-2147483648), 2147483647)) rfl ⟨by omega, by omega⟩
      have hFy23 : FR mmRD X0 Yy23 := by
        rw [eYy23]
        exact FR.upI hFy10 (rfl)
      replace eYy23 : Yy23 = upI Yy10 3 0 (v22) := eYy23
      have hGy23 : FR [(3, some 0)] Yy10 Yy23 := by
        rw [eYy23]
        exact FR.upI FR.rf rfl
      have hZy23 := hZy10.fr hGy23 rfl
      have hRy23 := hRy10.fr hGy23 rfl
      refine x_aload_n (i := 0) C dX12_readText_138 rfl rfl ?_
      refine x_getRs (r := 4) C fkM_X12_20 (nlt rfl) rfl (HG.rR hHy23 (k := 0) (i := 4) rfl rfl) dX12_readText_139 ?_
      refine x_iconst C dX12_readText_142 ?_
      refine x_iload_n (i := 2) C dX12_readText_143 rfl rfl ?_
      refine x_if_ne (tgt := 154) C dX12_readText_144 (by decide) ⟨by omega, by omega⟩ (fun h24 => ?_) (fun h24 => by exfalso; omega)
      refine x_aload_n (i := 0) C dX12_readText_154 rfl rfl ?_
      refine x_getI C fkM_X12_199 (nlt rfl) rfl dX12_readText_155 ?_
      refine x_gen (fun v25 ev25 => ?_)
      have qv25 : ((-2147483648) : Int) ≤ v25 ∧ v25 ≤ (2147483647 : Int) := by
        rw [ev25]
        exact hHy23.rF (k := 0) (i := 16) rfl rfl
      have kv25 : v25 = 0 := by rw [ev25, eYy23, upI_nc (by decide), (hGy10 0 16 rfl).1, (hGy8 0 16 rfl).1, eYy7, upI_at]
      have lzv25 : v25 = (txF b N 1).1 := by rw [ev25]; exact hZy23.1
      refine x_if_le (tgt := 168) C dX12_readText_158 (by decide) ⟨by omega, by omega⟩ (fun h26 => ?_) (fun h26 => ?_)
      · refine x_iconst C dX12_readText_168 ?_
        refine x_iast C (nlt rfl) rfl rfl (nle rfl) (by omega) (by omega) dX12_readText_169 ?_
        refine x_gX (fun Yy27 eYy27 => ?_)
        have hHy27 : HG vM Yy27 := by
          rw [eYy27]
          exact hg_wF hHy23 (p := ((-2147483648), 2147483647)) rfl ⟨by omega, by omega⟩
        have hFy27 : FR mmRD X0 Yy27 := by
          rw [eYy27]
          exact FR.upI hFy23 (rfl)
        replace eYy27 : Yy27 = upI Yy23 4 0 ((-1)) := eYy27
        have hGy27 : FR [(4, some 0)] Yy23 Yy27 := by
          rw [eYy27]
          exact FR.upI FR.rf rfl
        have hZy27 := hZy23.fr hGy27 rfl
        have hRy27 := hRy23.fr hGy27 rfl
        refine x_aload_n (i := 0) C dX12_readText_170 rfl rfl ?_
        refine x_getRs (r := 3) C fkM_X12_17 (nlt rfl) rfl (HG.rR hHy27 (k := 0) (i := 3) rfl rfl) dX12_readText_171 ?_
        refine x_iconst C dX12_readText_174 ?_
        refine x_iald C (nlt rfl) rfl rfl (nle rfl) (by omega) (by omega) dX12_readText_175 ?_
        refine x_gen (fun v28 ev28 => ?_)
        replace ev28 : v28 = Yy27.1 3 0 := ev28
        have qv28 : ((-2147483648) : Int) ≤ v28 ∧ v28 ≤ (2147483647 : Int) := by
          rw [ev28]
          exact hHy27.rF (k := 3) (i := 0) (p := ((-2147483648), 2147483647)) rfl rfl
        have kv28 : v28 = v22 := by rw [ev28, eYy27, upI_nc (by decide), eYy23, upI_at]
        refine x_if_ne (tgt := 183) C dX12_readText_176 (by decide) ⟨by omega, by omega⟩ (fun h29 => ?_) (fun h29 => ?_)
        · refine x_iconst C dX12_readText_183 ?_
          exact x_zret C hQ (by omega) dX12_readText_184 (⟨_, rfl, hHy27, hFy27, ⟨by rw [eYy27, upI_nc (by decide), eYy23, upI_at]; exact lzv22, by rw [eYy27, upI_at]; exact (tz (by omega)).symm⟩, .inr ⟨rfl, by omega⟩⟩)
        · refine x_iconst C dX12_readText_179 ?_
          refine x_goto (tgt := 184) C dX12_readText_180 (by decide) ?_
          exact x_zret C hQ (by omega) dX12_readText_184 (by have f0 : (txF b N 1).1 = 0 := (by omega); have hS9 : ∀ i, Yy27.1 9 i = Yy10.1 9 i := (fun i => by rw [eYy27, upI_nc (by decide), eYy23, upI_nc (by decide)]); have hS10 : ∀ i, Yy27.1 10 i = Yy10.1 10 i := (fun i => by rw [eYy27, upI_nc (by decide), eYy23, upI_nc (by decide)]); exact ⟨_, rfl, hHy27, hFy27, ⟨by rw [eYy27, upI_nc (by decide), eYy23, upI_at]; exact lzv22, by rw [eYy27, upI_at]; exact (tz (by omega)).symm⟩, .inl ⟨rfl, f0, ⟨l1.2.1, fun i hi => by rw [hS9, hS10]; exact l1.2.2.1 i hi, hRy27⟩⟩⟩)
      · refine x_aload_n (i := 0) C dX12_readText_161 rfl rfl ?_
        refine x_getI C fkM_X12_202 (nlt rfl) rfl dX12_readText_162 ?_
        refine x_gen (fun v30 ev30 => ?_)
        have qv30 : ((-2147483648) : Int) ≤ v30 ∧ v30 ≤ (2147483647 : Int) := by
          rw [ev30]
          exact hHy23.rF (k := 0) (i := 17) rfl rfl
        have kv30 : v30 = X.1 0 17 := by rw [ev30, eYy23, upI_nc (by decide), (hGy10 0 17 rfl).1, (hGy8 0 17 rfl).1, eYy7, upI_ne (by omega), eYy6, upI_ne (by omega), eYy5, upI_ne (by omega), eYy4, upI_nc (by decide), eYy2, upI_nc (by decide)]
        have lpv30 : v30 = (txF b N 1).2 := by rw [ev30]; exact hZy23.2 (by omega)
        refine x_goto (tgt := 169) C dX12_readText_165 (by decide) ?_
        refine x_iast C (nlt rfl) rfl rfl (nle rfl) (by omega) (by omega) dX12_readText_169 ?_
        refine x_gX (fun Yy31 eYy31 => ?_)
        have hHy31 : HG vM Yy31 := by
          rw [eYy31]
          exact hg_wF hHy23 (p := ((-2147483648), 2147483647)) rfl ⟨by omega, by omega⟩
        have hFy31 : FR mmRD X0 Yy31 := by
          rw [eYy31]
          exact FR.upI hFy23 (rfl)
        replace eYy31 : Yy31 = upI Yy23 4 0 (v30) := eYy31
        have hGy31 : FR [(4, some 0)] Yy23 Yy31 := by
          rw [eYy31]
          exact FR.upI FR.rf rfl
        have hZy31 := hZy23.fr hGy31 rfl
        have hRy31 := hRy23.fr hGy31 rfl
        refine x_aload_n (i := 0) C dX12_readText_170 rfl rfl ?_
        refine x_getRs (r := 3) C fkM_X12_17 (nlt rfl) rfl (HG.rR hHy31 (k := 0) (i := 3) rfl rfl) dX12_readText_171 ?_
        refine x_iconst C dX12_readText_174 ?_
        refine x_iald C (nlt rfl) rfl rfl (nle rfl) (by omega) (by omega) dX12_readText_175 ?_
        refine x_gen (fun v32 ev32 => ?_)
        replace ev32 : v32 = Yy31.1 3 0 := ev32
        have qv32 : ((-2147483648) : Int) ≤ v32 ∧ v32 ≤ (2147483647 : Int) := by
          rw [ev32]
          exact hHy31.rF (k := 3) (i := 0) (p := ((-2147483648), 2147483647)) rfl rfl
        have kv32 : v32 = v22 := by rw [ev32, eYy31, upI_nc (by decide), eYy23, upI_at]
        refine x_if_ne (tgt := 183) C dX12_readText_176 (by decide) ⟨by omega, by omega⟩ (fun h33 => ?_) (fun h33 => ?_)
        · refine x_iconst C dX12_readText_183 ?_
          exact x_zret C hQ (by omega) dX12_readText_184 (⟨_, rfl, hHy31, hFy31, ⟨by rw [eYy31, upI_nc (by decide), eYy23, upI_at]; exact lzv22, by rw [eYy31, upI_at]; exact lpv30⟩, .inr ⟨rfl, by omega⟩⟩)
        · refine x_iconst C dX12_readText_179 ?_
          refine x_goto (tgt := 184) C dX12_readText_180 (by decide) ?_
          exact x_zret C hQ (by omega) dX12_readText_184 (by have f0 : (txF b N 1).1 = 0 := (by omega); have hS9 : ∀ i, Yy31.1 9 i = Yy10.1 9 i := (fun i => by rw [eYy31, upI_nc (by decide), eYy23, upI_nc (by decide)]); have hS10 : ∀ i, Yy31.1 10 i = Yy10.1 10 i := (fun i => by rw [eYy31, upI_nc (by decide), eYy23, upI_nc (by decide)]); exact ⟨_, rfl, hHy31, hFy31, ⟨by rw [eYy31, upI_nc (by decide), eYy23, upI_at]; exact lzv22, by rw [eYy31, upI_at]; exact lpv30⟩, .inl ⟨rfl, f0, ⟨l1.2.1, fun i hi => by rw [hS9, hS10]; exact l1.2.2.1 i hi, hRy31⟩⟩⟩)
set_option maxHeartbeats 4000000 in
set_option maxRecDepth 100000 in
theorem r_rtL_1 {D : va_G} {ad : Nat → Nat} {cA : Nat → ClassId} {X0 : XT} {b : Nat → Int} {N : Nat} (hT0 : TPM b N X0) {E : ET} (C : CX E (wM D ad cA) cX12_readText 3 RX12 (some .boolean) { frames := 6, cells := 0, slots := 0, locals := 136 }) (hQ : EQ E (wM D ad cA) (fun r X1 => ∃ u : Int, r = some (.int (iI u)) ∧ HG vM X1 ∧ FR mmRD X0 X1 ∧ FTM (txF b N 1) X1 ∧ ((u = 1 ∧ (txF b N 1).1 = 0 ∧ (tr b N (tS b N 0) ∧ (∀ i : Nat, i < 10 → X1.1 9 i = X1.1 10 i) ∧ RSM b N (tS b N 0) X1)) ∨ (u = 0 ∧ (txF b N 1).1 ≠ 0)))) : ∀ (n : Nat) (i : Nat) (X : XT), ((332 - i : Nat) : Int) < n → HG vM X → FR mmRD X0 X → i ≤ 331 → (∀ p, p < i → X.1 9 p = 0) → Wx E (wM D ad cA) 3 (PX (wM D ad cA) X) 2 [(0, .ref 0), (1, .int (iI (1))), (2, .int (iI ((i : Int))))] [] := by
  intro n
  induction n with
  | zero => intro i X hn hH hF il c1; exfalso; omega
  | succ n ih =>
    intro i X hn hH hF il c1
    refine x_iload_n (i := 2) C dX12_readText_2 rfl rfl ?_
    refine x_sipush C dX12_readText_3 (by decide) ?_
    refine x_icmp_ge (tgt := 22) C dX12_readText_6 (by decide) ⟨by omega, by omega⟩ ⟨by omega, by omega⟩ (fun h1 => ?_) (fun h1 => ?_)
    · refine Wx_pick [0, 1] ?_
      refine Wx_lv (lv' := [(0, .ref 0), (1, .int (iI (1)))]) rfl ?_
      exact r_rt22_1 hT0 C hQ 1 X (by decide) hH hF (fun p hp => c1 p (by omega))
    · refine x_aload_n (i := 0) C dX12_readText_9 rfl rfl ?_
      refine x_getRs (r := 9) C fkM_X12_35 (nlt rfl) rfl (HG.rR hH (k := 0) (i := 18) rfl rfl) dX12_readText_10 ?_
      refine x_iload_n (i := 2) C dX12_readText_13 rfl rfl ?_
      refine x_iconst C dX12_readText_14 ?_
      refine x_iast C (nlt rfl) rfl rfl (nle rfl) (by omega) (by omega) dX12_readText_15 ?_
      refine x_gX (fun Yy2 eYy2 => ?_)
      have hHy2 : HG vM Yy2 := by
        rw [eYy2]
        exact hg_wA hH (n := 331) (p := ((-1), 99)) (by decide +kernel) (by omega) ⟨by omega, by omega⟩
      have hFy2 : FR mmRD X0 Yy2 := by
        rw [eYy2]
        exact FR.upI hF (rfl)
      rw [show ((i : Int)).toNat = i by omega] at eYy2
      refine x_iinc (lv' := [(2, .int (iI ((i : Int) + 1))), (0, .ref 0), (1, .int (iI (1)))]) C dX12_readText_16 rfl (nlt rfl) rfl ?_
      refine x_goto (tgt := 2) C dX12_readText_19 (by decide) ?_
      rw [show iI ((i : Int) + 1) = iI (((i + 1 : Nat) : Int)) by congr 1]
      refine Wx_pick [0, 1, 2] ?_
      refine Wx_lv (lv' := [(0, .ref 0), (1, .int (iI (1))), (2, .int (iI (((i + 1 : Nat) : Int))))]) rfl ?_
      refine ih (i + 1) _ (by omega) hHy2 hFy2 (by omega) (fun p hp => ?_)
      by_cases ep : p = i
      · subst ep
        rw [eYy2, upI_at]
      · rw [eYy2, upI_ne (by omega)]
        exact c1 p (by omega)
set_option maxHeartbeats 4000000 in
set_option maxRecDepth 100000 in
theorem r_readText1 {D : va_G} {ad : Nat → Nat} {cA : Nat → ClassId} {X0 : XT} {b : Nat → Int} {N : Nat} (hT0 : TPM b N X0) (hH : HG vM X0) (hF : FR mmRD X0 X0) : MetX (wM D ad cA) yX12_readText cX12_readText 3 (some .boolean) 6 136 [.ref 0, .int (iI (1))] X0 (fun r X1 => ∃ u : Int, r = some (.int (iI u)) ∧ HG vM X1 ∧ FR mmRD X0 X1 ∧ FTM (txF b N 1) X1 ∧ ((u = 1 ∧ (txF b N 1).1 = 0 ∧ (tr b N (tS b N 0) ∧ (∀ i : Nat, i < 10 → X1.1 9 i = X1.1 10 i) ∧ RSM b N (tS b N 0) X1)) ∨ (u = 0 ∧ (txF b N 1).1 ≠ 0))) := by
  refine MetX.mk (own := RX12) (by decide +kernel) rfl (nle rfl) (fun E C hQ => ?_)
  refine Wx_lv (lv' := [(0, .ref 0), (1, .int (iI (1)))]) rfl ?_
  refine x_iconst C dX12_readText_0 ?_
  refine x_istore_n (i := 2) (lv' := [(2, .int (iI (0))), (0, .ref 0), (1, .int (iI (1)))]) C dX12_readText_1 rfl (nlt rfl) rfl ?_
  refine Wx_pick [0, 1, 2] ?_
  refine Wx_lv (lv' := [(0, .ref 0), (1, .int (iI (1))), (2, .int (iI (0)))]) rfl ?_
  exact r_rtL_1 hT0 C hQ 333 0 X0 (by decide) hH hF (by omega) (fun p hp => absurd hp (by omega))
set_option maxHeartbeats 4000000 in
set_option maxRecDepth 100000 in
theorem r_rt22_2 {D : va_G} {ad : Nat → Nat} {cA : Nat → ClassId} {X0 : XT} {b : Nat → Int} {N : Nat} (hT0 : TPM b N X0) {E : ET} (C : CX E (wM D ad cA) cX12_readText 3 RX12 (some .boolean) { frames := 6, cells := 0, slots := 0, locals := 136 }) (hQ : EQ E (wM D ad cA) (fun r X1 => ∃ u : Int, r = some (.int (iI u)) ∧ HG vM X1 ∧ FR mmRD X0 X1 ∧ FTM (txF b N 2) X1 ∧ ((u = 1 ∧ (txF b N 2).1 = 0 ∧ GRW (fun i => X1.1 9 i) (txG b N)) ∨ (u = 0 ∧ (txF b N 2).1 ≠ 0)))) : ∀ (n : Nat) (X : XT), (0 : Int) < n → HG vM X → FR mmRD X0 X → (∀ i, i < 331 → X.1 9 i = 0) → Wx E (wM D ad cA) 3 (PX (wM D ad cA) X) 22 [(0, .ref 0), (1, .int (iI (2)))] [] := by
  intro n
  induction n with
  | zero => intro X hn hH hF hz; exfalso; omega
  | succ n ih =>
    intro X hn hH hF hz
    have n6 := hT0.2.1
    refine x_aload_n (i := 0) C dX12_readText_22 rfl rfl ?_
    refine x_getRs (r := 9) C fkM_X12_35 (nlt rfl) rfl (HG.rR hH (k := 0) (i := 18) rfl rfl) dX12_readText_23 ?_
    refine x_iconst C dX12_readText_26 ?_
    refine x_iload_n (i := 1) C dX12_readText_27 rfl rfl ?_
    refine x_if_ne (tgt := 35) C dX12_readText_28 (by decide) ⟨by omega, by omega⟩ (fun h1 => ?_) (fun h1 => by exfalso; omega)
    refine x_iconst C dX12_readText_35 ?_
    refine x_iast C (nlt rfl) rfl rfl (nle rfl) (by omega) (by omega) dX12_readText_36 ?_
    refine x_gX (fun Yy2 eYy2 => ?_)
    have hHy2 : HG vM Yy2 := by
      rw [eYy2]
      exact hg_wF hH (p := ((-1), 99)) rfl ⟨by omega, by omega⟩
    have hFy2 : FR mmRD X0 Yy2 := by
      rw [eYy2]
      exact FR.upI hF (rfl)
    replace eYy2 : Yy2 = upI X 9 0 (0) := eYy2
    refine x_aload_n (i := 0) C dX12_readText_37 rfl rfl ?_
    refine x_getRs (r := 9) C fkM_X12_35 (nlt rfl) rfl (HG.rR hHy2 (k := 0) (i := 18) rfl rfl) dX12_readText_38 ?_
    refine x_iconst C dX12_readText_41 ?_
    refine x_iload_n (i := 1) C dX12_readText_42 rfl rfl ?_
    refine x_if_ne (tgt := 50) C dX12_readText_43 (by decide) ⟨by omega, by omega⟩ (fun h3 => ?_) (fun h3 => by exfalso; omega)
    refine x_iconst C dX12_readText_50 ?_
    refine x_iast C (nlt rfl) rfl rfl (nle rfl) (by omega) (by omega) dX12_readText_51 ?_
    refine x_gX (fun Yy4 eYy4 => ?_)
    have hHy4 : HG vM Yy4 := by
      rw [eYy4]
      exact hg_wF hHy2 (p := ((-1), 99)) rfl ⟨by omega, by omega⟩
    have hFy4 : FR mmRD X0 Yy4 := by
      rw [eYy4]
      exact FR.upI hFy2 (rfl)
    replace eYy4 : Yy4 = upI Yy2 9 1 (0) := eYy4
    refine x_aload_n (i := 0) C dX12_readText_52 rfl rfl ?_
    refine x_iconst C dX12_readText_53 ?_
    refine x_putI C pkM_X12_223 (nlt rfl) rfl dX12_readText_54 ?_
    refine x_gX (fun Yy5 eYy5 => ?_)
    have hHy5 : HG vM Yy5 := by
      rw [eYy5]
      exact hg_wF hHy4 (p := ((-2147483648), 2147483647)) rfl ⟨by omega, by omega⟩
    have hFy5 : FR mmRD X0 Yy5 := by
      rw [eYy5]
      exact FR.upI hFy4 (rfl)
    refine x_aload_n (i := 0) C dX12_readText_57 rfl rfl ?_
    refine x_iconst C dX12_readText_58 ?_
    refine x_putI C pkM_X12_173 (nlt rfl) rfl dX12_readText_59 ?_
    refine x_gX (fun Yy6 eYy6 => ?_)
    have hHy6 : HG vM Yy6 := by
      rw [eYy6]
      exact hg_wF hHy5 (p := ((-2147483648), 2147483647)) rfl ⟨by omega, by omega⟩
    have hFy6 : FR mmRD X0 Yy6 := by
      rw [eYy6]
      exact FR.upI hFy5 (rfl)
    refine x_aload_n (i := 0) C dX12_readText_62 rfl rfl ?_
    refine x_iconst C dX12_readText_63 ?_
    refine x_putI C pkM_X12_199 (nlt rfl) rfl dX12_readText_64 ?_
    refine x_gX (fun Yy7 eYy7 => ?_)
    have hHy7 : HG vM Yy7 := by
      rw [eYy7]
      exact hg_wF hHy6 (p := ((-2147483648), 2147483647)) rfl ⟨by omega, by omega⟩
    have hFy7 : FR mmRD X0 Yy7 := by
      rw [eYy7]
      exact FR.upI hFy6 (rfl)
    have hz9 : ∀ i, 2 ≤ i → i < 331 → Yy7.1 9 i = 0 := fun i i2 i3 => by rw [eYy7, upI_nc (by decide), eYy6, upI_nc (by decide), eYy5, upI_nc (by decide), eYy4, upI_ne (by omega), eYy2, upI_ne (by omega)]; exact hz i i3
    have hLy7 : FLM (0, -1) Yy7 := ⟨by rw [eYy7, upI_at], fun g => absurd rfl g⟩
    have hMy7 : GDM gZ Yy7 := GDM_z (fun i hi => by
      by_cases i0 : i = 0
      · subst i0
        rw [eYy7, upI_nc (by decide), eYy6, upI_nc (by decide), eYy5, upI_nc (by decide), eYy4, upI_ne (by omega), eYy2, upI_at]
      · by_cases i1 : i = 1
        · subst i1
          rw [eYy7, upI_nc (by decide), eYy6, upI_nc (by decide), eYy5, upI_nc (by decide), eYy4, upI_at]
        · exact hz9 i (by omega) hi)
    refine x_aload_n (i := 0) C dX12_readText_67 rfl rfl ?_
    refine x_callV (As := []) C (by exact (r_token (b := b) (N := N) (p := 0) (Nat.zero_le N) (hT0.fr hFy7 rfl) FR.rf hHy7 (by rw [eYy7, upI_ne (by omega), eYy6, upI_at]; rfl))) ckX12_216 im_X12_token se_X12_token (nlt rfl) rfl rfl rfl rfl (nle rfl) (by exact ⟨nle rfl, nle rfl⟩) dX12_readText_68 ?_
    rintro _ Yy8 ⟨rfl, hHy8, hGy8, hKy8⟩
    have hFy8 : FR mmRD X0 Yy8 := FR.tr hFy7 hGy8 (by decide)
    have hLy8 := hLy7.fr hGy8 rfl
    have hMy8 := hMy7.fr hGy8 rfl
    refine Wx_st (st' := []) rfl ?_
    refine x_iload_n (i := 1) C dX12_readText_71 rfl rfl ?_
    refine x_iconst C dX12_readText_72 ?_
    refine x_icmp_ne (tgt := 83) C dX12_readText_73 (by decide) ⟨by omega, by omega⟩ ⟨by omega, by omega⟩ (fun h9 => ?_) (fun h9 => by exfalso; omega)
    refine x_aload_n (i := 0) C dX12_readText_83 rfl rfl ?_
    refine x_iload_n (i := 1) C dX12_readText_84 rfl rfl ?_
    refine x_callV (As := [.int (iI (2))]) C (by exact (r_lines2 (s0 := (tS b N 0)) (F0 := (0, -1)) (G0 := gZ) (hT0.fr hFy8 rfl) hHy8 FR.rf hKy8 hLy8 (fun g => absurd rfl g) hMy8)) ckX12_258 im_X12_lines se_X12_lines (nlt rfl) rfl rfl rfl rfl (nle rfl) (by exact ⟨nle rfl, nle rfl⟩) dX12_readText_85 ?_
    rintro _ Yy10 ⟨v11, rfl, hHy10, hGy10, ln⟩
    have hFy10 : FR mmRD X0 Yy10 := FR.tr hFy8 hGy10 (by decide)
    refine Wx_st (st' := [.int (iI (v11))]) rfl ?_
    refine x_istore_n (i := 2) (lv' := [(2, .int (iI (v11))), (0, .ref 0), (1, .int (iI (2)))]) C dX12_readText_88 rfl (nlt rfl) rfl ?_
    refine x_iload_n (i := 2) C dX12_readText_89 rfl rfl ?_
    refine x_if_eq (tgt := 120) C dX12_readText_90 (by decide) ⟨by omega, by omega⟩ (fun h12 => ?_) (fun h12 => ?_)
    · have l0 := ln.elim (fun g => by exfalso; have := g.1; omega) (fun g => g.2)
      have nf : txF b N 2 = (1, Yy10.1 0 15) := by rw [l0.2]; exact txF_Gn l0.1
      refine x_aload_n (i := 0) C dX12_readText_120 rfl rfl ?_
      refine x_getRs (r := 3) C fkM_X12_17 (nlt rfl) rfl (HG.rR hHy10 (k := 0) (i := 3) rfl rfl) dX12_readText_121 ?_
      refine x_iconst C dX12_readText_124 ?_
      refine x_iload_n (i := 2) C dX12_readText_125 rfl rfl ?_
      refine x_if_eq (tgt := 136) C dX12_readText_126 (by decide) ⟨by omega, by omega⟩ (fun h13 => ?_) (fun h13 => by exfalso; omega)
      refine x_iconst C dX12_readText_136 ?_
      refine x_iast C (nlt rfl) rfl rfl (nle rfl) (by omega) (by omega) dX12_readText_137 ?_
      refine x_gX (fun Yy14 eYy14 => ?_)
      have hHy14 : HG vM Yy14 := by
        rw [eYy14]
        exact hg_wF hHy10 (p := ((-2147483648), 2147483647)) rfl ⟨by omega, by omega⟩
      have hFy14 : FR mmRD X0 Yy14 := by
        rw [eYy14]
        exact FR.upI hFy10 (rfl)
      replace eYy14 : Yy14 = upI Yy10 3 0 (1) := eYy14
      have hGy14 : FR [(3, some 0)] Yy10 Yy14 := by
        rw [eYy14]
        exact FR.upI FR.rf rfl
      refine x_aload_n (i := 0) C dX12_readText_138 rfl rfl ?_
      refine x_getRs (r := 4) C fkM_X12_20 (nlt rfl) rfl (HG.rR hHy14 (k := 0) (i := 4) rfl rfl) dX12_readText_139 ?_
      refine x_iconst C dX12_readText_142 ?_
      refine x_iload_n (i := 2) C dX12_readText_143 rfl rfl ?_
      refine x_if_ne (tgt := 154) C dX12_readText_144 (by decide) ⟨by omega, by omega⟩ (fun h15 => by exfalso; omega) (fun h15 => ?_)
      refine x_aload_n (i := 0) C dX12_readText_147 rfl rfl ?_
      refine x_getI C fkM_X12_196 (nlt rfl) rfl dX12_readText_148 ?_
      refine x_gen (fun v16 ev16 => ?_)
      have qv16 : ((-2147483648) : Int) ≤ v16 ∧ v16 ≤ (2147483647 : Int) := by
        rw [ev16]
        exact hHy14.rF (k := 0) (i := 15) rfl rfl
      have kv16 : v16 = Yy10.1 0 15 := by rw [ev16, eYy14, upI_nc (by decide)]
      have wav16 : v16 = Yy10.1 0 15 := by exact kv16
      refine x_goto (tgt := 169) C dX12_readText_151 (by decide) ?_
      refine x_iast C (nlt rfl) rfl rfl (nle rfl) (by omega) (by omega) dX12_readText_169 ?_
      refine x_gX (fun Yy17 eYy17 => ?_)
      have hHy17 : HG vM Yy17 := by
        rw [eYy17]
        exact hg_wF hHy14 (p := ((-2147483648), 2147483647)) rfl ⟨by omega, by omega⟩
      have hFy17 : FR mmRD X0 Yy17 := by
        rw [eYy17]
        exact FR.upI hFy14 (rfl)
      replace eYy17 : Yy17 = upI Yy14 4 0 (v16) := eYy17
      have hGy17 : FR [(4, some 0)] Yy14 Yy17 := by
        rw [eYy17]
        exact FR.upI FR.rf rfl
      refine x_aload_n (i := 0) C dX12_readText_170 rfl rfl ?_
      refine x_getRs (r := 3) C fkM_X12_17 (nlt rfl) rfl (HG.rR hHy17 (k := 0) (i := 3) rfl rfl) dX12_readText_171 ?_
      refine x_iconst C dX12_readText_174 ?_
      refine x_iald C (nlt rfl) rfl rfl (nle rfl) (by omega) (by omega) dX12_readText_175 ?_
      refine x_gen (fun v18 ev18 => ?_)
      replace ev18 : v18 = Yy17.1 3 0 := ev18
      have qv18 : ((-2147483648) : Int) ≤ v18 ∧ v18 ≤ (2147483647 : Int) := by
        rw [ev18]
        exact hHy17.rF (k := 3) (i := 0) (p := ((-2147483648), 2147483647)) rfl rfl
      have kv18 : v18 = 1 := by rw [ev18, eYy17, upI_nc (by decide), eYy14, upI_at]
      refine x_if_ne (tgt := 183) C dX12_readText_176 (by decide) ⟨by omega, by omega⟩ (fun h19 => ?_) (fun h19 => by exfalso; omega)
      refine x_iconst C dX12_readText_183 ?_
      exact x_zret C hQ (by omega) dX12_readText_184 (⟨_, rfl, hHy17, hFy17, ⟨by rw [eYy17, upI_nc (by decide), eYy14, upI_at, nf], by rw [eYy17, upI_at, nf]; exact wav16⟩, .inr ⟨rfl, by rw [nf]; exact (show (1 : Int) ≠ 0 by decide)⟩⟩)
    · have l1 := ln.elim (fun g => g.2) (fun g => by exfalso; have := g.1; omega)
      have hKy10 := l1.2.1
      have hLy10 := l1.2.2.2.1
      have hMy10 := l1.2.2.2.2
      have fp0 := (rnG_bd (b := b) (N := N)).2.1
      refine x_iload_n (i := 1) C dX12_readText_93 rfl rfl ?_
      refine x_if_ne (tgt := 120) C dX12_readText_94 (by decide) ⟨by omega, by omega⟩ (fun h20 => ?_) (fun h20 => by exfalso; omega)
      have ff : txF b N 2 = (rnG b N).2.2.1 := txF_Gy l1.1
      have hZy10 : FLM (txF b N 2) Yy10 := by rw [ff]; exact hLy10
      have tz := txF_fz (b := b) (N := N) 2
      have tb0 := (txF_bd (b := b) (N := N) 2).1
      refine x_aload_n (i := 0) C dX12_readText_120 rfl rfl ?_
      refine x_getRs (r := 3) C fkM_X12_17 (nlt rfl) rfl (HG.rR hHy10 (k := 0) (i := 3) rfl rfl) dX12_readText_121 ?_
      refine x_iconst C dX12_readText_124 ?_
      refine x_iload_n (i := 2) C dX12_readText_125 rfl rfl ?_
      refine x_if_eq (tgt := 136) C dX12_readText_126 (by decide) ⟨by omega, by omega⟩ (fun h21 => by exfalso; omega) (fun h21 => ?_)
      refine x_aload_n (i := 0) C dX12_readText_129 rfl rfl ?_
      refine x_getI C fkM_X12_199 (nlt rfl) rfl dX12_readText_130 ?_
      refine x_gen (fun v22 ev22 => ?_)
      have qv22 : ((-2147483648) : Int) ≤ v22 ∧ v22 ≤ (2147483647 : Int) := by
        rw [ev22]
        exact hHy10.rF (k := 0) (i := 16) rfl rfl
      have lzv22 : v22 = (txF b N 2).1 := by rw [ev22]; exact hZy10.1
      refine x_goto (tgt := 137) C dX12_readText_133 (by decide) ?_
      refine x_iast C (nlt rfl) rfl rfl (nle rfl) (by omega) (by omega) dX12_readText_137 ?_
      refine x_gX (fun Yy23 eYy23 => ?_)
      have hHy23 : HG vM Yy23 := by
        rw [eYy23]
        exact hg_wF hHy10 (p := ((-2147483648), 2147483647)) rfl ⟨by omega, by omega⟩
      have hFy23 : FR mmRD X0 Yy23 := by
        rw [eYy23]
        exact FR.upI hFy10 (rfl)
      replace eYy23 : Yy23 = upI Yy10 3 0 (v22) := eYy23
      have hGy23 : FR [(3, some 0)] Yy10 Yy23 := by
        rw [eYy23]
        exact FR.upI FR.rf rfl
      have hZy23 := hZy10.fr hGy23 rfl
      have hKy23 := hKy10.fr hGy23 rfl
      have hMy23 := hMy10.fr hGy23 rfl
      refine x_aload_n (i := 0) C dX12_readText_138 rfl rfl ?_
      refine x_getRs (r := 4) C fkM_X12_20 (nlt rfl) rfl (HG.rR hHy23 (k := 0) (i := 4) rfl rfl) dX12_readText_139 ?_
      refine x_iconst C dX12_readText_142 ?_
      refine x_iload_n (i := 2) C dX12_readText_143 rfl rfl ?_
      refine x_if_ne (tgt := 154) C dX12_readText_144 (by decide) ⟨by omega, by omega⟩ (fun h24 => ?_) (fun h24 => by exfalso; omega)
      refine x_aload_n (i := 0) C dX12_readText_154 rfl rfl ?_
      refine x_getI C fkM_X12_199 (nlt rfl) rfl dX12_readText_155 ?_
      refine x_gen (fun v25 ev25 => ?_)
      have qv25 : ((-2147483648) : Int) ≤ v25 ∧ v25 ≤ (2147483647 : Int) := by
        rw [ev25]
        exact hHy23.rF (k := 0) (i := 16) rfl rfl
      have kv25 : v25 = Yy10.1 0 16 := by rw [ev25, eYy23, upI_nc (by decide)]
      have lzv25 : v25 = (txF b N 2).1 := by rw [ev25]; exact hZy23.1
      refine x_if_le (tgt := 168) C dX12_readText_158 (by decide) ⟨by omega, by omega⟩ (fun h26 => ?_) (fun h26 => ?_)
      · refine x_iconst C dX12_readText_168 ?_
        refine x_iast C (nlt rfl) rfl rfl (nle rfl) (by omega) (by omega) dX12_readText_169 ?_
        refine x_gX (fun Yy27 eYy27 => ?_)
        have hHy27 : HG vM Yy27 := by
          rw [eYy27]
          exact hg_wF hHy23 (p := ((-2147483648), 2147483647)) rfl ⟨by omega, by omega⟩
        have hFy27 : FR mmRD X0 Yy27 := by
          rw [eYy27]
          exact FR.upI hFy23 (rfl)
        replace eYy27 : Yy27 = upI Yy23 4 0 ((-1)) := eYy27
        have hGy27 : FR [(4, some 0)] Yy23 Yy27 := by
          rw [eYy27]
          exact FR.upI FR.rf rfl
        have hZy27 := hZy23.fr hGy27 rfl
        have hKy27 := hKy23.fr hGy27 rfl
        have hMy27 := hMy23.fr hGy27 rfl
        refine x_aload_n (i := 0) C dX12_readText_170 rfl rfl ?_
        refine x_getRs (r := 3) C fkM_X12_17 (nlt rfl) rfl (HG.rR hHy27 (k := 0) (i := 3) rfl rfl) dX12_readText_171 ?_
        refine x_iconst C dX12_readText_174 ?_
        refine x_iald C (nlt rfl) rfl rfl (nle rfl) (by omega) (by omega) dX12_readText_175 ?_
        refine x_gen (fun v28 ev28 => ?_)
        replace ev28 : v28 = Yy27.1 3 0 := ev28
        have qv28 : ((-2147483648) : Int) ≤ v28 ∧ v28 ≤ (2147483647 : Int) := by
          rw [ev28]
          exact hHy27.rF (k := 3) (i := 0) (p := ((-2147483648), 2147483647)) rfl rfl
        have kv28 : v28 = v22 := by rw [ev28, eYy27, upI_nc (by decide), eYy23, upI_at]
        refine x_if_ne (tgt := 183) C dX12_readText_176 (by decide) ⟨by omega, by omega⟩ (fun h29 => ?_) (fun h29 => ?_)
        · refine x_iconst C dX12_readText_183 ?_
          exact x_zret C hQ (by omega) dX12_readText_184 (⟨_, rfl, hHy27, hFy27, ⟨by rw [eYy27, upI_nc (by decide), eYy23, upI_at]; exact lzv22, by rw [eYy27, upI_at]; exact (tz (by omega)).symm⟩, .inr ⟨rfl, by omega⟩⟩)
        · refine x_iconst C dX12_readText_179 ?_
          refine x_goto (tgt := 184) C dX12_readText_180 (by decide) ?_
          exact x_zret C hQ (by omega) dX12_readText_184 (by have f0 : (txF b N 2).1 = 0 := (by omega); exact ⟨_, rfl, hHy27, hFy27, ⟨by rw [eYy27, upI_nc (by decide), eYy23, upI_at]; exact lzv22, by rw [eYy27, upI_at]; exact (tz (by omega)).symm⟩, .inl ⟨rfl, f0, hMy27⟩⟩)
      · refine x_aload_n (i := 0) C dX12_readText_161 rfl rfl ?_
        refine x_getI C fkM_X12_202 (nlt rfl) rfl dX12_readText_162 ?_
        refine x_gen (fun v30 ev30 => ?_)
        have qv30 : ((-2147483648) : Int) ≤ v30 ∧ v30 ≤ (2147483647 : Int) := by
          rw [ev30]
          exact hHy23.rF (k := 0) (i := 17) rfl rfl
        have kv30 : v30 = Yy10.1 0 17 := by rw [ev30, eYy23, upI_nc (by decide)]
        have lpv30 : v30 = (txF b N 2).2 := by rw [ev30]; exact hZy23.2 (by omega)
        refine x_goto (tgt := 169) C dX12_readText_165 (by decide) ?_
        refine x_iast C (nlt rfl) rfl rfl (nle rfl) (by omega) (by omega) dX12_readText_169 ?_
        refine x_gX (fun Yy31 eYy31 => ?_)
        have hHy31 : HG vM Yy31 := by
          rw [eYy31]
          exact hg_wF hHy23 (p := ((-2147483648), 2147483647)) rfl ⟨by omega, by omega⟩
        have hFy31 : FR mmRD X0 Yy31 := by
          rw [eYy31]
          exact FR.upI hFy23 (rfl)
        replace eYy31 : Yy31 = upI Yy23 4 0 (v30) := eYy31
        have hGy31 : FR [(4, some 0)] Yy23 Yy31 := by
          rw [eYy31]
          exact FR.upI FR.rf rfl
        have hZy31 := hZy23.fr hGy31 rfl
        have hKy31 := hKy23.fr hGy31 rfl
        have hMy31 := hMy23.fr hGy31 rfl
        refine x_aload_n (i := 0) C dX12_readText_170 rfl rfl ?_
        refine x_getRs (r := 3) C fkM_X12_17 (nlt rfl) rfl (HG.rR hHy31 (k := 0) (i := 3) rfl rfl) dX12_readText_171 ?_
        refine x_iconst C dX12_readText_174 ?_
        refine x_iald C (nlt rfl) rfl rfl (nle rfl) (by omega) (by omega) dX12_readText_175 ?_
        refine x_gen (fun v32 ev32 => ?_)
        replace ev32 : v32 = Yy31.1 3 0 := ev32
        have qv32 : ((-2147483648) : Int) ≤ v32 ∧ v32 ≤ (2147483647 : Int) := by
          rw [ev32]
          exact hHy31.rF (k := 3) (i := 0) (p := ((-2147483648), 2147483647)) rfl rfl
        have kv32 : v32 = v22 := by rw [ev32, eYy31, upI_nc (by decide), eYy23, upI_at]
        refine x_if_ne (tgt := 183) C dX12_readText_176 (by decide) ⟨by omega, by omega⟩ (fun h33 => ?_) (fun h33 => ?_)
        · refine x_iconst C dX12_readText_183 ?_
          exact x_zret C hQ (by omega) dX12_readText_184 (⟨_, rfl, hHy31, hFy31, ⟨by rw [eYy31, upI_nc (by decide), eYy23, upI_at]; exact lzv22, by rw [eYy31, upI_at]; exact lpv30⟩, .inr ⟨rfl, by omega⟩⟩)
        · refine x_iconst C dX12_readText_179 ?_
          refine x_goto (tgt := 184) C dX12_readText_180 (by decide) ?_
          exact x_zret C hQ (by omega) dX12_readText_184 (by have f0 : (txF b N 2).1 = 0 := (by omega); exact ⟨_, rfl, hHy31, hFy31, ⟨by rw [eYy31, upI_nc (by decide), eYy23, upI_at]; exact lzv22, by rw [eYy31, upI_at]; exact lpv30⟩, .inl ⟨rfl, f0, hMy31⟩⟩)
set_option maxHeartbeats 4000000 in
set_option maxRecDepth 100000 in
theorem r_rtL_2 {D : va_G} {ad : Nat → Nat} {cA : Nat → ClassId} {X0 : XT} {b : Nat → Int} {N : Nat} (hT0 : TPM b N X0) {E : ET} (C : CX E (wM D ad cA) cX12_readText 3 RX12 (some .boolean) { frames := 6, cells := 0, slots := 0, locals := 136 }) (hQ : EQ E (wM D ad cA) (fun r X1 => ∃ u : Int, r = some (.int (iI u)) ∧ HG vM X1 ∧ FR mmRD X0 X1 ∧ FTM (txF b N 2) X1 ∧ ((u = 1 ∧ (txF b N 2).1 = 0 ∧ GRW (fun i => X1.1 9 i) (txG b N)) ∨ (u = 0 ∧ (txF b N 2).1 ≠ 0)))) : ∀ (n : Nat) (i : Nat) (X : XT), ((332 - i : Nat) : Int) < n → HG vM X → FR mmRD X0 X → i ≤ 331 → (∀ p, p < i → X.1 9 p = 0) → Wx E (wM D ad cA) 3 (PX (wM D ad cA) X) 2 [(0, .ref 0), (1, .int (iI (2))), (2, .int (iI ((i : Int))))] [] := by
  intro n
  induction n with
  | zero => intro i X hn hH hF il c1; exfalso; omega
  | succ n ih =>
    intro i X hn hH hF il c1
    refine x_iload_n (i := 2) C dX12_readText_2 rfl rfl ?_
    refine x_sipush C dX12_readText_3 (by decide) ?_
    refine x_icmp_ge (tgt := 22) C dX12_readText_6 (by decide) ⟨by omega, by omega⟩ ⟨by omega, by omega⟩ (fun h1 => ?_) (fun h1 => ?_)
    · refine Wx_pick [0, 1] ?_
      refine Wx_lv (lv' := [(0, .ref 0), (1, .int (iI (2)))]) rfl ?_
      exact r_rt22_2 hT0 C hQ 1 X (by decide) hH hF (fun p hp => c1 p (by omega))
    · refine x_aload_n (i := 0) C dX12_readText_9 rfl rfl ?_
      refine x_getRs (r := 9) C fkM_X12_35 (nlt rfl) rfl (HG.rR hH (k := 0) (i := 18) rfl rfl) dX12_readText_10 ?_
      refine x_iload_n (i := 2) C dX12_readText_13 rfl rfl ?_
      refine x_iconst C dX12_readText_14 ?_
      refine x_iast C (nlt rfl) rfl rfl (nle rfl) (by omega) (by omega) dX12_readText_15 ?_
      refine x_gX (fun Yy2 eYy2 => ?_)
      have hHy2 : HG vM Yy2 := by
        rw [eYy2]
        exact hg_wA hH (n := 331) (p := ((-1), 99)) (by decide +kernel) (by omega) ⟨by omega, by omega⟩
      have hFy2 : FR mmRD X0 Yy2 := by
        rw [eYy2]
        exact FR.upI hF (rfl)
      rw [show ((i : Int)).toNat = i by omega] at eYy2
      refine x_iinc (lv' := [(2, .int (iI ((i : Int) + 1))), (0, .ref 0), (1, .int (iI (2)))]) C dX12_readText_16 rfl (nlt rfl) rfl ?_
      refine x_goto (tgt := 2) C dX12_readText_19 (by decide) ?_
      rw [show iI ((i : Int) + 1) = iI (((i + 1 : Nat) : Int)) by congr 1]
      refine Wx_pick [0, 1, 2] ?_
      refine Wx_lv (lv' := [(0, .ref 0), (1, .int (iI (2))), (2, .int (iI (((i + 1 : Nat) : Int))))]) rfl ?_
      refine ih (i + 1) _ (by omega) hHy2 hFy2 (by omega) (fun p hp => ?_)
      by_cases ep : p = i
      · subst ep
        rw [eYy2, upI_at]
      · rw [eYy2, upI_ne (by omega)]
        exact c1 p (by omega)
set_option maxHeartbeats 4000000 in
set_option maxRecDepth 100000 in
theorem r_readText2 {D : va_G} {ad : Nat → Nat} {cA : Nat → ClassId} {X0 : XT} {b : Nat → Int} {N : Nat} (hT0 : TPM b N X0) (hH : HG vM X0) (hF : FR mmRD X0 X0) : MetX (wM D ad cA) yX12_readText cX12_readText 3 (some .boolean) 6 136 [.ref 0, .int (iI (2))] X0 (fun r X1 => ∃ u : Int, r = some (.int (iI u)) ∧ HG vM X1 ∧ FR mmRD X0 X1 ∧ FTM (txF b N 2) X1 ∧ ((u = 1 ∧ (txF b N 2).1 = 0 ∧ GRW (fun i => X1.1 9 i) (txG b N)) ∨ (u = 0 ∧ (txF b N 2).1 ≠ 0))) := by
  refine MetX.mk (own := RX12) (by decide +kernel) rfl (nle rfl) (fun E C hQ => ?_)
  refine Wx_lv (lv' := [(0, .ref 0), (1, .int (iI (2)))]) rfl ?_
  refine x_iconst C dX12_readText_0 ?_
  refine x_istore_n (i := 2) (lv' := [(2, .int (iI (0))), (0, .ref 0), (1, .int (iI (2)))]) C dX12_readText_1 rfl (nlt rfl) rfl ?_
  refine Wx_pick [0, 1, 2] ?_
  refine Wx_lv (lv' := [(0, .ref 0), (1, .int (iI (2))), (2, .int (iI (0)))]) rfl ?_
  exact r_rtL_2 hT0 C hQ 333 0 X0 (by decide) hH hF (by omega) (fun p hp => absurd hp (by omega))
