/-! ===== the reference reads: a line of a game ===== -/
theorem dX12_gameLine_0 : decode cX12_gameLine 0 = .ok (.lload_n 1, 1) := by decide +kernel
theorem dX12_gameLine_1 : decode cX12_gameLine 1 = .ok (.ldc2_w 241, 3) := by decide +kernel
theorem dX12_gameLine_4 : decode cX12_gameLine 4 = .ok (.lcmp, 1) := by decide +kernel
theorem dX12_gameLine_5 : decode cX12_gameLine 5 = .ok (.ifCond .eq 8, 3) := by decide +kernel
theorem dX12_gameLine_8 : decode cX12_gameLine 8 = .ok (.aload_n 0, 1) := by decide +kernel
theorem dX12_gameLine_9 : decode cX12_gameLine 9 = .ok (.invokevirtual 205, 3) := by decide +kernel
theorem dX12_gameLine_12 : decode cX12_gameLine 12 = .ok (.ireturn, 1) := by decide +kernel
theorem dX12_gameLine_13 : decode cX12_gameLine 13 = .ok (.aload_n 0, 1) := by decide +kernel
theorem dX12_gameLine_14 : decode cX12_gameLine 14 = .ok (.getfield 35, 3) := by decide +kernel
theorem dX12_gameLine_17 : decode cX12_gameLine 17 = .ok (.iconst 0, 1) := by decide +kernel
theorem dX12_gameLine_18 : decode cX12_gameLine 18 = .ok (.iaload, 1) := by decide +kernel
theorem dX12_gameLine_19 : decode cX12_gameLine 19 = .ok (.bipush 30, 2) := by decide +kernel
theorem dX12_gameLine_21 : decode cX12_gameLine 21 = .ok (.if_icmp .ne 9, 3) := by decide +kernel
theorem dX12_gameLine_24 : decode cX12_gameLine 24 = .ok (.aload_n 0, 1) := by decide +kernel
theorem dX12_gameLine_25 : decode cX12_gameLine 25 = .ok (.iconst 3, 1) := by decide +kernel
theorem dX12_gameLine_26 : decode cX12_gameLine 26 = .ok (.iload_n 3, 1) := by decide +kernel
theorem dX12_gameLine_27 : decode cX12_gameLine 27 = .ok (.invokevirtual 212, 3) := by decide +kernel
theorem dX12_gameLine_30 : decode cX12_gameLine 30 = .ok (.aload_n 0, 1) := by decide +kernel
theorem dX12_gameLine_31 : decode cX12_gameLine 31 = .ok (.invokevirtual 216, 3) := by decide +kernel
theorem dX12_gameLine_34 : decode cX12_gameLine 34 = .ok (.aload_n 0, 1) := by decide +kernel
theorem dX12_gameLine_35 : decode cX12_gameLine 35 = .ok (.invokevirtual 243, 3) := by decide +kernel
theorem dX12_gameLine_38 : decode cX12_gameLine 38 = .ok (.ifCond .ne 5, 3) := by decide +kernel
theorem dX12_gameLine_41 : decode cX12_gameLine 41 = .ok (.iconst 0, 1) := by decide +kernel
theorem dX12_gameLine_42 : decode cX12_gameLine 42 = .ok (.ireturn, 1) := by decide +kernel
theorem dX12_gameLine_43 : decode cX12_gameLine 43 = .ok (.aload_n 0, 1) := by decide +kernel
theorem dX12_gameLine_44 : decode cX12_gameLine 44 = .ok (.iconst (-1), 1) := by decide +kernel
theorem dX12_gameLine_45 : decode cX12_gameLine 45 = .ok (.putfield 209, 3) := by decide +kernel
theorem dX12_gameLine_48 : decode cX12_gameLine 48 = .ok (.aload_n 0, 1) := by decide +kernel
theorem dX12_gameLine_49 : decode cX12_gameLine 49 = .ok (.getfield 190, 3) := by decide +kernel
theorem dX12_gameLine_52 : decode cX12_gameLine 52 = .ok (.iconst 2, 1) := by decide +kernel
theorem dX12_gameLine_53 : decode cX12_gameLine 53 = .ok (.if_icmp .ne 30, 3) := by decide +kernel
theorem dX12_gameLine_56 : decode cX12_gameLine 56 = .ok (.aload_n 0, 1) := by decide +kernel
theorem dX12_gameLine_57 : decode cX12_gameLine 57 = .ok (.getfield 186, 3) := by decide +kernel
theorem dX12_gameLine_60 : decode cX12_gameLine 60 = .ok (.ldc2_w 246, 3) := by decide +kernel
theorem dX12_gameLine_63 : decode cX12_gameLine 63 = .ok (.lcmp, 1) := by decide +kernel
theorem dX12_gameLine_64 : decode cX12_gameLine 64 = .ok (.ifCond .ne 19, 3) := by decide +kernel
theorem dX12_gameLine_67 : decode cX12_gameLine 67 = .ok (.aload_n 0, 1) := by decide +kernel
theorem dX12_gameLine_68 : decode cX12_gameLine 68 = .ok (.invokevirtual 216, 3) := by decide +kernel
theorem dX12_gameLine_71 : decode cX12_gameLine 71 = .ok (.aload_n 0, 1) := by decide +kernel
theorem dX12_gameLine_72 : decode cX12_gameLine 72 = .ok (.iconst 0, 1) := by decide +kernel
theorem dX12_gameLine_73 : decode cX12_gameLine 73 = .ok (.bipush 35, 2) := by decide +kernel
theorem dX12_gameLine_75 : decode cX12_gameLine 75 = .ok (.invokevirtual 219, 3) := by decide +kernel
theorem dX12_gameLine_78 : decode cX12_gameLine 78 = .ok (.ifCond .ne 5, 3) := by decide +kernel
theorem dX12_gameLine_81 : decode cX12_gameLine 81 = .ok (.iconst 0, 1) := by decide +kernel
theorem dX12_gameLine_82 : decode cX12_gameLine 82 = .ok (.ireturn, 1) := by decide +kernel
theorem dX12_gameLine_83 : decode cX12_gameLine 83 = .ok (.aload_n 0, 1) := by decide +kernel
theorem dX12_gameLine_84 : decode cX12_gameLine 84 = .ok (.getfield 35, 3) := by decide +kernel
theorem dX12_gameLine_87 : decode cX12_gameLine 87 = .ok (.iconst 0, 1) := by decide +kernel
theorem dX12_gameLine_88 : decode cX12_gameLine 88 = .ok (.iaload, 1) := by decide +kernel
theorem dX12_gameLine_89 : decode cX12_gameLine 89 = .ok (.bipush 30, 2) := by decide +kernel
theorem dX12_gameLine_91 : decode cX12_gameLine 91 = .ok (.if_icmp .ge 72, 3) := by decide +kernel
theorem dX12_gameLine_94 : decode cX12_gameLine 94 = .ok (.iconst 1, 1) := by decide +kernel
theorem dX12_gameLine_95 : decode cX12_gameLine 95 = .ok (.bipush 11, 2) := by decide +kernel
theorem dX12_gameLine_97 : decode cX12_gameLine 97 = .ok (.aload_n 0, 1) := by decide +kernel
theorem dX12_gameLine_98 : decode cX12_gameLine 98 = .ok (.getfield 35, 3) := by decide +kernel
theorem dX12_gameLine_101 : decode cX12_gameLine 101 = .ok (.iconst 0, 1) := by decide +kernel
theorem dX12_gameLine_102 : decode cX12_gameLine 102 = .ok (.iaload, 1) := by decide +kernel
theorem dX12_gameLine_103 : decode cX12_gameLine 103 = .ok (.imul, 1) := by decide +kernel
theorem dX12_gameLine_104 : decode cX12_gameLine 104 = .ok (.iadd, 1) := by decide +kernel
theorem dX12_gameLine_105 : decode cX12_gameLine 105 = .ok (.istore 4, 2) := by decide +kernel
theorem dX12_gameLine_107 : decode cX12_gameLine 107 = .ok (.aload_n 0, 1) := by decide +kernel
theorem dX12_gameLine_108 : decode cX12_gameLine 108 = .ok (.getfield 35, 3) := by decide +kernel
theorem dX12_gameLine_111 : decode cX12_gameLine 111 = .ok (.iload 4, 2) := by decide +kernel
theorem dX12_gameLine_113 : decode cX12_gameLine 113 = .ok (.aload_n 0, 1) := by decide +kernel
theorem dX12_gameLine_114 : decode cX12_gameLine 114 = .ok (.getfield 209, 3) := by decide +kernel
theorem dX12_gameLine_117 : decode cX12_gameLine 117 = .ok (.iastore, 1) := by decide +kernel
theorem dX12_gameLine_118 : decode cX12_gameLine 118 = .ok (.iconst 0, 1) := by decide +kernel
theorem dX12_gameLine_119 : decode cX12_gameLine 119 = .ok (.istore 5, 2) := by decide +kernel
theorem dX12_gameLine_121 : decode cX12_gameLine 121 = .ok (.iload 5, 2) := by decide +kernel
theorem dX12_gameLine_123 : decode cX12_gameLine 123 = .ok (.bipush 10, 2) := by decide +kernel
theorem dX12_gameLine_125 : decode cX12_gameLine 125 = .ok (.if_icmp .ge 28, 3) := by decide +kernel
theorem dX12_gameLine_128 : decode cX12_gameLine 128 = .ok (.aload_n 0, 1) := by decide +kernel
theorem dX12_gameLine_129 : decode cX12_gameLine 129 = .ok (.getfield 35, 3) := by decide +kernel
theorem dX12_gameLine_132 : decode cX12_gameLine 132 = .ok (.iload 4, 2) := by decide +kernel
theorem dX12_gameLine_134 : decode cX12_gameLine 134 = .ok (.iconst 1, 1) := by decide +kernel
theorem dX12_gameLine_135 : decode cX12_gameLine 135 = .ok (.iadd, 1) := by decide +kernel
theorem dX12_gameLine_136 : decode cX12_gameLine 136 = .ok (.iload 5, 2) := by decide +kernel
theorem dX12_gameLine_138 : decode cX12_gameLine 138 = .ok (.iadd, 1) := by decide +kernel
theorem dX12_gameLine_139 : decode cX12_gameLine 139 = .ok (.aload_n 0, 1) := by decide +kernel
theorem dX12_gameLine_140 : decode cX12_gameLine 140 = .ok (.getfield 38, 3) := by decide +kernel
theorem dX12_gameLine_143 : decode cX12_gameLine 143 = .ok (.iload 5, 2) := by decide +kernel
theorem dX12_gameLine_145 : decode cX12_gameLine 145 = .ok (.iaload, 1) := by decide +kernel
theorem dX12_gameLine_146 : decode cX12_gameLine 146 = .ok (.iastore, 1) := by decide +kernel
theorem dX12_gameLine_147 : decode cX12_gameLine 147 = .ok (.iinc 5 1, 3) := by decide +kernel
theorem dX12_gameLine_150 : decode cX12_gameLine 150 = .ok (.goto (-29), 3) := by decide +kernel
theorem dX12_gameLine_153 : decode cX12_gameLine 153 = .ok (.aload_n 0, 1) := by decide +kernel
theorem dX12_gameLine_154 : decode cX12_gameLine 154 = .ok (.getfield 35, 3) := by decide +kernel
theorem dX12_gameLine_157 : decode cX12_gameLine 157 = .ok (.iconst 0, 1) := by decide +kernel
theorem dX12_gameLine_158 : decode cX12_gameLine 158 = .ok (.dup2, 1) := by decide +kernel
theorem dX12_gameLine_159 : decode cX12_gameLine 159 = .ok (.iaload, 1) := by decide +kernel
theorem dX12_gameLine_160 : decode cX12_gameLine 160 = .ok (.iconst 1, 1) := by decide +kernel
theorem dX12_gameLine_161 : decode cX12_gameLine 161 = .ok (.iadd, 1) := by decide +kernel
theorem dX12_gameLine_162 : decode cX12_gameLine 162 = .ok (.iastore, 1) := by decide +kernel
theorem dX12_gameLine_163 : decode cX12_gameLine 163 = .ok (.iconst 1, 1) := by decide +kernel
theorem dX12_gameLine_164 : decode cX12_gameLine 164 = .ok (.ireturn, 1) := by decide +kernel
theorem cnX12_241 : Cond.constantLong RX12 241 (7561593) ∈ lw_g := lw_gi 1570 (by decide +kernel) rfl
theorem cnX12_246 : Cond.constantLong RX12 246 (26479) ∈ lw_g := lw_gi 1571 (by decide +kernel) rfl
abbrev mmGL : List (Nat × Option Nat) := [(0, some 9), (0, some 11), (0, some 12), (0, some 13), (0, some 14), (0, some 15), (10, none), (0, some 16), (0, some 17), (0, some 20), (9, none)]
set_option maxHeartbeats 4000000 in
set_option maxRecDepth 100000 in
theorem r_gl83 {D : va_G} {ad : Nat → Nat} {cA : Nat → ClassId} {X0 X : XT} {b : Nat → Int} {N : Nat} (hT0 : TPM b N X0) {s s1 t : Nat} {F F1 : Int × Int} {G : GC} {v : Int} {wd : Int64} (ht : tr b N t) (hg : gLine b N s F G = finG b N s1 F1 (gmv G (rV b N t) v)) (v0 : -1 ≤ v) (v1 : v ≤ 99) (st : nx b N s ≤ s1) (hv : X.1 0 20 = v) (hH : HG vM X) (hF : FR mmGL X0 X) (hK : TKM b N s1 X) (hL : FLM F1 X) (hO : FO F1 s1) (hM : GDM G X) (hR : RSM b N t X) {E : ET} (C : CX E (wM D ad cA) cX12_gameLine 6 RX12 (some .boolean) { frames := 3, cells := 0, slots := 0, locals := 68 }) (hQ : EQ E (wM D ad cA) (fun r X1 => ∃ u : Int, r = some (.int (iI u)) ∧ HG vM X1 ∧ FR mmGL X0 X1 ∧ LPG b N s F G X1 u)) : ∀ (n : Nat), (0 : Int) < n → Wx E (wM D ad cA) 6 (PX (wM D ad cA) X) 83 [(0, .ref 0), (1, .long (wd)), (3, .int (iI (((s : Nat) : Int))))] [] := by
  intro n
  induction n with
  | zero => intro  hn ; exfalso; omega
  | succ n ih =>
    intro  hn 
    have hM1 := hM.2.1
    refine x_aload_n (i := 0) C dX12_gameLine_83 rfl rfl ?_
    refine x_getRs (r := 9) C fkM_X12_35 (nlt rfl) rfl (HG.rR hH (k := 0) (i := 18) rfl rfl) dX12_gameLine_84 ?_
    refine x_iconst C dX12_gameLine_87 ?_
    refine x_iald C (nlt rfl) rfl rfl (nle rfl) (by omega) (by omega) dX12_gameLine_88 ?_
    refine x_gen (fun v1 ev1 => ?_)
    replace ev1 : v1 = X.1 9 0 := ev1
    have qv1 : ((-1) : Int) ≤ v1 ∧ v1 ≤ (99 : Int) := by
      rw [ev1]
      exact hH.rF (k := 9) (i := 0) (p := ((-1), 99)) rfl rfl
    have ktv1 := ev1
    have mmv1 : v1 = G.1 := by rw [ktv1]; exact hM.1
    refine x_bipush C dX12_gameLine_89 (by decide) ?_
    refine x_icmp_ge (tgt := 163) C dX12_gameLine_91 (by decide) ⟨by omega, by omega⟩ ⟨by omega, by omega⟩ (fun h2 => ?_) (fun h2 => ?_)
    · have e1 : gmv G (rV b N t) v = G := if_neg (by omega)
      have hMn : GDM (gmv G (rV b N t) v) X := by rw [e1]; exact hM
      refine x_iconst C dX12_gameLine_163 ?_
      exact x_zret C hQ (by omega) dX12_gameLine_164 (⟨_, rfl, hH, hF, s1, F1, gmv G (rV b N t) v, hK, hL, hO, .inl ⟨rfl, st, hg, hMn⟩⟩)
    · refine x_iconst C dX12_gameLine_94 ?_
      refine x_bipush C dX12_gameLine_95 (by decide) ?_
      refine x_aload_n (i := 0) C dX12_gameLine_97 rfl rfl ?_
      refine x_getRs (r := 9) C fkM_X12_35 (nlt rfl) rfl (HG.rR hH (k := 0) (i := 18) rfl rfl) dX12_gameLine_98 ?_
      refine x_iconst C dX12_gameLine_101 ?_
      refine x_iald C (nlt rfl) rfl rfl (nle rfl) (by omega) (by omega) dX12_gameLine_102 ?_
      refine x_gen (fun v3 ev3 => ?_)
      replace ev3 : v3 = X.1 9 0 := ev3
      have qv3 : ((-1) : Int) ≤ v3 ∧ v3 ≤ (99 : Int) := by
        rw [ev3]
        exact hH.rF (k := 9) (i := 0) (p := ((-1), 99)) rfl rfl
      have ktv3 := ev3
      have mmv3 : v3 = G.1 := by rw [ktv3]; exact hM.1
      refine x_imul C dX12_gameLine_103 ?_
      refine x_iadd C dX12_gameLine_104 ?_
      refine x_gen (fun v4 ev4 => ?_)
      refine x_istore (lv' := [(4, .int (iI (v4))), (0, .ref 0), (1, .long (wd)), (3, .int (iI (((s : Nat) : Int))))]) C dX12_gameLine_105 (nlt rfl) rfl ?_
      refine x_aload_n (i := 0) C dX12_gameLine_107 rfl rfl ?_
      refine x_getRs (r := 9) C fkM_X12_35 (nlt rfl) rfl (HG.rR hH (k := 0) (i := 18) rfl rfl) dX12_gameLine_108 ?_
      refine x_iload C dX12_gameLine_111 rfl ?_
      refine x_aload_n (i := 0) C dX12_gameLine_113 rfl rfl ?_
      refine x_getI C fkM_X12_209 (nlt rfl) rfl dX12_gameLine_114 ?_
      refine x_gen (fun v5 ev5 => ?_)
      have qv5 : ((-2147483648) : Int) ≤ v5 ∧ v5 ≤ (2147483647 : Int) := by
        rw [ev5]
        exact hH.rF (k := 0) (i := 20) rfl rfl
      have rdv5 : v5 = v := by rw [ev5]; exact hv
      refine x_iast C (nlt rfl) rfl rfl (nle rfl) (by omega) (by omega) dX12_gameLine_117 ?_
      refine x_gX (fun Yy6 eYy6 => ?_)
      have hHy6 : HG vM Yy6 := by
        rw [eYy6]
        exact hg_wA hH (n := 331) (p := ((-1), 99)) (by decide +kernel) (by omega) ⟨by omega, by omega⟩
      have hFy6 : FR mmGL X0 Yy6 := by
        rw [eYy6]
        exact FR.upI hF (rfl)
      have hGy6 : FR [(9, none)] X Yy6 := by
        rw [eYy6]
        exact FR.upI FR.rf rfl
      have hKy6 := hK.fr hGy6 rfl
      have hLy6 := hL.fr hGy6 rfl
      have hRy6 := hR.fr hGy6 rfl
      refine x_iconst C dX12_gameLine_118 ?_
      refine x_istore (lv' := [(5, .int (iI (0))), (4, .int (iI (v4))), (0, .ref 0), (1, .long (wd)), (3, .int (iI (((s : Nat) : Int))))]) C dX12_gameLine_119 (nlt rfl) rfl ?_
      refine x_iload C dX12_gameLine_121 rfl ?_
      refine x_bipush C dX12_gameLine_123 (by decide) ?_
      refine x_icmp_ge (tgt := 153) C dX12_gameLine_125 (by decide) ⟨by omega, by omega⟩ ⟨by omega, by omega⟩ (fun h7 => by exfalso; omega) (fun h7 => ?_)
      refine x_aload_n (i := 0) C dX12_gameLine_128 rfl rfl ?_
      refine x_getRs (r := 9) C fkM_X12_35 (nlt rfl) rfl (HG.rR hHy6 (k := 0) (i := 18) rfl rfl) dX12_gameLine_129 ?_
      refine x_iload C dX12_gameLine_132 rfl ?_
      refine x_iconst C dX12_gameLine_134 ?_
      refine x_iadd C dX12_gameLine_135 ?_
      refine x_iload C dX12_gameLine_136 rfl ?_
      refine x_iadd C dX12_gameLine_138 ?_
      refine x_aload_n (i := 0) C dX12_gameLine_139 rfl rfl ?_
      refine x_getRs (r := 10) C fkM_X12_38 (nlt rfl) rfl (HG.rR hHy6 (k := 0) (i := 19) rfl rfl) dX12_gameLine_140 ?_
      refine x_iload C dX12_gameLine_143 rfl ?_
      refine x_iald C (nlt rfl) rfl rfl (nle rfl) (by omega) (by omega) dX12_gameLine_145 ?_
      refine x_gen (fun v8 ev8 => ?_)
      replace ev8 : v8 = Yy6.1 10 0 := ev8
      have qv8 : (0 : Int) ≤ v8 ∧ v8 ≤ (9 : Int) := by
        rw [ev8]
        exact hHy6.rF (k := 10) (i := 0) (p := (0, 9)) rfl rfl
      have kv8 : v8 = X.1 10 0 := by rw [ev8, eYy6, upI_nc (by decide)]
      refine x_iast C (nlt rfl) rfl rfl (nle rfl) (by omega) (by omega) dX12_gameLine_146 ?_
      refine x_gX (fun Yy9 eYy9 => ?_)
      have hHy9 : HG vM Yy9 := by
        rw [eYy9]
        exact hg_wA hHy6 (n := 331) (p := ((-1), 99)) (by decide +kernel) (by omega) ⟨by omega, by omega⟩
      have hFy9 : FR mmGL X0 Yy9 := by
        rw [eYy9]
        exact FR.upI hFy6 (rfl)
      have hGy9 : FR [(9, none)] Yy6 Yy9 := by
        rw [eYy9]
        exact FR.upI FR.rf rfl
      have hKy9 := hKy6.fr hGy9 rfl
      have hLy9 := hLy6.fr hGy9 rfl
      have hRy9 := hRy6.fr hGy9 rfl
      refine x_iinc (lv' := [(5, .int (iI (0 + 1))), (4, .int (iI (v4))), (0, .ref 0), (1, .long (wd)), (3, .int (iI (((s : Nat) : Int))))]) C dX12_gameLine_147 rfl (nlt rfl) rfl ?_
      refine Wx_lv (lv' := [(5, .int (iI (1))), (4, .int (iI (v4))), (0, .ref 0), (1, .long (wd)), (3, .int (iI (((s : Nat) : Int))))]) rfl ?_
      refine x_goto (tgt := 121) C dX12_gameLine_150 (by decide) ?_
      refine x_iload C dX12_gameLine_121 rfl ?_
      refine x_bipush C dX12_gameLine_123 (by decide) ?_
      refine x_icmp_ge (tgt := 153) C dX12_gameLine_125 (by decide) ⟨by omega, by omega⟩ ⟨by omega, by omega⟩ (fun h10 => by exfalso; omega) (fun h10 => ?_)
      refine x_aload_n (i := 0) C dX12_gameLine_128 rfl rfl ?_
      refine x_getRs (r := 9) C fkM_X12_35 (nlt rfl) rfl (HG.rR hHy9 (k := 0) (i := 18) rfl rfl) dX12_gameLine_129 ?_
      refine x_iload C dX12_gameLine_132 rfl ?_
      refine x_iconst C dX12_gameLine_134 ?_
      refine x_iadd C dX12_gameLine_135 ?_
      refine x_iload C dX12_gameLine_136 rfl ?_
      refine x_iadd C dX12_gameLine_138 ?_
      refine x_aload_n (i := 0) C dX12_gameLine_139 rfl rfl ?_
      refine x_getRs (r := 10) C fkM_X12_38 (nlt rfl) rfl (HG.rR hHy9 (k := 0) (i := 19) rfl rfl) dX12_gameLine_140 ?_
      refine x_iload C dX12_gameLine_143 rfl ?_
      refine x_iald C (nlt rfl) rfl rfl (nle rfl) (by omega) (by omega) dX12_gameLine_145 ?_
      refine x_gen (fun v11 ev11 => ?_)
      replace ev11 : v11 = Yy9.1 10 1 := ev11
      have qv11 : (0 : Int) ≤ v11 ∧ v11 ≤ (10 : Int) := by
        rw [ev11]
        exact hHy9.rF (k := 10) (i := 1) (p := (0, 10)) rfl rfl
      have kv11 : v11 = X.1 10 1 := by rw [ev11, eYy9, upI_nc (by decide), eYy6, upI_nc (by decide)]
      refine x_iast C (nlt rfl) rfl rfl (nle rfl) (by omega) (by omega) dX12_gameLine_146 ?_
      refine x_gX (fun Yy12 eYy12 => ?_)
      have hHy12 : HG vM Yy12 := by
        rw [eYy12]
        exact hg_wA hHy9 (n := 331) (p := ((-1), 99)) (by decide +kernel) (by omega) ⟨by omega, by omega⟩
      have hFy12 : FR mmGL X0 Yy12 := by
        rw [eYy12]
        exact FR.upI hFy9 (rfl)
      have hGy12 : FR [(9, none)] Yy9 Yy12 := by
        rw [eYy12]
        exact FR.upI FR.rf rfl
      have hKy12 := hKy9.fr hGy12 rfl
      have hLy12 := hLy9.fr hGy12 rfl
      have hRy12 := hRy9.fr hGy12 rfl
      refine x_iinc (lv' := [(5, .int (iI (1 + 1))), (4, .int (iI (v4))), (0, .ref 0), (1, .long (wd)), (3, .int (iI (((s : Nat) : Int))))]) C dX12_gameLine_147 rfl (nlt rfl) rfl ?_
      refine Wx_lv (lv' := [(5, .int (iI (2))), (4, .int (iI (v4))), (0, .ref 0), (1, .long (wd)), (3, .int (iI (((s : Nat) : Int))))]) rfl ?_
      refine x_goto (tgt := 121) C dX12_gameLine_150 (by decide) ?_
      refine x_iload C dX12_gameLine_121 rfl ?_
      refine x_bipush C dX12_gameLine_123 (by decide) ?_
      refine x_icmp_ge (tgt := 153) C dX12_gameLine_125 (by decide) ⟨by omega, by omega⟩ ⟨by omega, by omega⟩ (fun h13 => by exfalso; omega) (fun h13 => ?_)
      refine x_aload_n (i := 0) C dX12_gameLine_128 rfl rfl ?_
      refine x_getRs (r := 9) C fkM_X12_35 (nlt rfl) rfl (HG.rR hHy12 (k := 0) (i := 18) rfl rfl) dX12_gameLine_129 ?_
      refine x_iload C dX12_gameLine_132 rfl ?_
      refine x_iconst C dX12_gameLine_134 ?_
      refine x_iadd C dX12_gameLine_135 ?_
      refine x_iload C dX12_gameLine_136 rfl ?_
      refine x_iadd C dX12_gameLine_138 ?_
      refine x_aload_n (i := 0) C dX12_gameLine_139 rfl rfl ?_
      refine x_getRs (r := 10) C fkM_X12_38 (nlt rfl) rfl (HG.rR hHy12 (k := 0) (i := 19) rfl rfl) dX12_gameLine_140 ?_
      refine x_iload C dX12_gameLine_143 rfl ?_
      refine x_iald C (nlt rfl) rfl rfl (nle rfl) (by omega) (by omega) dX12_gameLine_145 ?_
      refine x_gen (fun v14 ev14 => ?_)
      replace ev14 : v14 = Yy12.1 10 2 := ev14
      have qv14 : (0 : Int) ≤ v14 ∧ v14 ≤ (10 : Int) := by
        rw [ev14]
        exact hHy12.rF (k := 10) (i := 2) (p := (0, 10)) rfl rfl
      have kv14 : v14 = X.1 10 2 := by rw [ev14, eYy12, upI_nc (by decide), eYy9, upI_nc (by decide), eYy6, upI_nc (by decide)]
      refine x_iast C (nlt rfl) rfl rfl (nle rfl) (by omega) (by omega) dX12_gameLine_146 ?_
      refine x_gX (fun Yy15 eYy15 => ?_)
      have hHy15 : HG vM Yy15 := by
        rw [eYy15]
        exact hg_wA hHy12 (n := 331) (p := ((-1), 99)) (by decide +kernel) (by omega) ⟨by omega, by omega⟩
      have hFy15 : FR mmGL X0 Yy15 := by
        rw [eYy15]
        exact FR.upI hFy12 (rfl)
      have hGy15 : FR [(9, none)] Yy12 Yy15 := by
        rw [eYy15]
        exact FR.upI FR.rf rfl
      have hKy15 := hKy12.fr hGy15 rfl
      have hLy15 := hLy12.fr hGy15 rfl
      have hRy15 := hRy12.fr hGy15 rfl
      refine x_iinc (lv' := [(5, .int (iI (2 + 1))), (4, .int (iI (v4))), (0, .ref 0), (1, .long (wd)), (3, .int (iI (((s : Nat) : Int))))]) C dX12_gameLine_147 rfl (nlt rfl) rfl ?_
      refine Wx_lv (lv' := [(5, .int (iI (3))), (4, .int (iI (v4))), (0, .ref 0), (1, .long (wd)), (3, .int (iI (((s : Nat) : Int))))]) rfl ?_
      refine x_goto (tgt := 121) C dX12_gameLine_150 (by decide) ?_
      refine x_iload C dX12_gameLine_121 rfl ?_
      refine x_bipush C dX12_gameLine_123 (by decide) ?_
      refine x_icmp_ge (tgt := 153) C dX12_gameLine_125 (by decide) ⟨by omega, by omega⟩ ⟨by omega, by omega⟩ (fun h16 => by exfalso; omega) (fun h16 => ?_)
      refine x_aload_n (i := 0) C dX12_gameLine_128 rfl rfl ?_
      refine x_getRs (r := 9) C fkM_X12_35 (nlt rfl) rfl (HG.rR hHy15 (k := 0) (i := 18) rfl rfl) dX12_gameLine_129 ?_
      refine x_iload C dX12_gameLine_132 rfl ?_
      refine x_iconst C dX12_gameLine_134 ?_
      refine x_iadd C dX12_gameLine_135 ?_
      refine x_iload C dX12_gameLine_136 rfl ?_
      refine x_iadd C dX12_gameLine_138 ?_
      refine x_aload_n (i := 0) C dX12_gameLine_139 rfl rfl ?_
      refine x_getRs (r := 10) C fkM_X12_38 (nlt rfl) rfl (HG.rR hHy15 (k := 0) (i := 19) rfl rfl) dX12_gameLine_140 ?_
      refine x_iload C dX12_gameLine_143 rfl ?_
      refine x_iald C (nlt rfl) rfl rfl (nle rfl) (by omega) (by omega) dX12_gameLine_145 ?_
      refine x_gen (fun v17 ev17 => ?_)
      replace ev17 : v17 = Yy15.1 10 3 := ev17
      have qv17 : (0 : Int) ≤ v17 ∧ v17 ≤ (10 : Int) := by
        rw [ev17]
        exact hHy15.rF (k := 10) (i := 3) (p := (0, 10)) rfl rfl
      have kv17 : v17 = X.1 10 3 := by rw [ev17, eYy15, upI_nc (by decide), eYy12, upI_nc (by decide), eYy9, upI_nc (by decide), eYy6, upI_nc (by decide)]
      refine x_iast C (nlt rfl) rfl rfl (nle rfl) (by omega) (by omega) dX12_gameLine_146 ?_
      refine x_gX (fun Yy18 eYy18 => ?_)
      have hHy18 : HG vM Yy18 := by
        rw [eYy18]
        exact hg_wA hHy15 (n := 331) (p := ((-1), 99)) (by decide +kernel) (by omega) ⟨by omega, by omega⟩
      have hFy18 : FR mmGL X0 Yy18 := by
        rw [eYy18]
        exact FR.upI hFy15 (rfl)
      have hGy18 : FR [(9, none)] Yy15 Yy18 := by
        rw [eYy18]
        exact FR.upI FR.rf rfl
      have hKy18 := hKy15.fr hGy18 rfl
      have hLy18 := hLy15.fr hGy18 rfl
      have hRy18 := hRy15.fr hGy18 rfl
      refine x_iinc (lv' := [(5, .int (iI (3 + 1))), (4, .int (iI (v4))), (0, .ref 0), (1, .long (wd)), (3, .int (iI (((s : Nat) : Int))))]) C dX12_gameLine_147 rfl (nlt rfl) rfl ?_
      refine Wx_lv (lv' := [(5, .int (iI (4))), (4, .int (iI (v4))), (0, .ref 0), (1, .long (wd)), (3, .int (iI (((s : Nat) : Int))))]) rfl ?_
      refine x_goto (tgt := 121) C dX12_gameLine_150 (by decide) ?_
      refine x_iload C dX12_gameLine_121 rfl ?_
      refine x_bipush C dX12_gameLine_123 (by decide) ?_
      refine x_icmp_ge (tgt := 153) C dX12_gameLine_125 (by decide) ⟨by omega, by omega⟩ ⟨by omega, by omega⟩ (fun h19 => by exfalso; omega) (fun h19 => ?_)
      refine x_aload_n (i := 0) C dX12_gameLine_128 rfl rfl ?_
      refine x_getRs (r := 9) C fkM_X12_35 (nlt rfl) rfl (HG.rR hHy18 (k := 0) (i := 18) rfl rfl) dX12_gameLine_129 ?_
      refine x_iload C dX12_gameLine_132 rfl ?_
      refine x_iconst C dX12_gameLine_134 ?_
      refine x_iadd C dX12_gameLine_135 ?_
      refine x_iload C dX12_gameLine_136 rfl ?_
      refine x_iadd C dX12_gameLine_138 ?_
      refine x_aload_n (i := 0) C dX12_gameLine_139 rfl rfl ?_
      refine x_getRs (r := 10) C fkM_X12_38 (nlt rfl) rfl (HG.rR hHy18 (k := 0) (i := 19) rfl rfl) dX12_gameLine_140 ?_
      refine x_iload C dX12_gameLine_143 rfl ?_
      refine x_iald C (nlt rfl) rfl rfl (nle rfl) (by omega) (by omega) dX12_gameLine_145 ?_
      refine x_gen (fun v20 ev20 => ?_)
      replace ev20 : v20 = Yy18.1 10 4 := ev20
      have qv20 : (0 : Int) ≤ v20 ∧ v20 ≤ (10 : Int) := by
        rw [ev20]
        exact hHy18.rF (k := 10) (i := 4) (p := (0, 10)) rfl rfl
      have kv20 : v20 = X.1 10 4 := by rw [ev20, eYy18, upI_nc (by decide), eYy15, upI_nc (by decide), eYy12, upI_nc (by decide), eYy9, upI_nc (by decide), eYy6, upI_nc (by decide)]
      refine x_iast C (nlt rfl) rfl rfl (nle rfl) (by omega) (by omega) dX12_gameLine_146 ?_
      refine x_gX (fun Yy21 eYy21 => ?_)
      have hHy21 : HG vM Yy21 := by
        rw [eYy21]
        exact hg_wA hHy18 (n := 331) (p := ((-1), 99)) (by decide +kernel) (by omega) ⟨by omega, by omega⟩
      have hFy21 : FR mmGL X0 Yy21 := by
        rw [eYy21]
        exact FR.upI hFy18 (rfl)
      have hGy21 : FR [(9, none)] Yy18 Yy21 := by
        rw [eYy21]
        exact FR.upI FR.rf rfl
      have hKy21 := hKy18.fr hGy21 rfl
      have hLy21 := hLy18.fr hGy21 rfl
      have hRy21 := hRy18.fr hGy21 rfl
      refine x_iinc (lv' := [(5, .int (iI (4 + 1))), (4, .int (iI (v4))), (0, .ref 0), (1, .long (wd)), (3, .int (iI (((s : Nat) : Int))))]) C dX12_gameLine_147 rfl (nlt rfl) rfl ?_
      refine Wx_lv (lv' := [(5, .int (iI (5))), (4, .int (iI (v4))), (0, .ref 0), (1, .long (wd)), (3, .int (iI (((s : Nat) : Int))))]) rfl ?_
      refine x_goto (tgt := 121) C dX12_gameLine_150 (by decide) ?_
      refine x_iload C dX12_gameLine_121 rfl ?_
      refine x_bipush C dX12_gameLine_123 (by decide) ?_
      refine x_icmp_ge (tgt := 153) C dX12_gameLine_125 (by decide) ⟨by omega, by omega⟩ ⟨by omega, by omega⟩ (fun h22 => by exfalso; omega) (fun h22 => ?_)
      refine x_aload_n (i := 0) C dX12_gameLine_128 rfl rfl ?_
      refine x_getRs (r := 9) C fkM_X12_35 (nlt rfl) rfl (HG.rR hHy21 (k := 0) (i := 18) rfl rfl) dX12_gameLine_129 ?_
      refine x_iload C dX12_gameLine_132 rfl ?_
      refine x_iconst C dX12_gameLine_134 ?_
      refine x_iadd C dX12_gameLine_135 ?_
      refine x_iload C dX12_gameLine_136 rfl ?_
      refine x_iadd C dX12_gameLine_138 ?_
      refine x_aload_n (i := 0) C dX12_gameLine_139 rfl rfl ?_
      refine x_getRs (r := 10) C fkM_X12_38 (nlt rfl) rfl (HG.rR hHy21 (k := 0) (i := 19) rfl rfl) dX12_gameLine_140 ?_
      refine x_iload C dX12_gameLine_143 rfl ?_
      refine x_iald C (nlt rfl) rfl rfl (nle rfl) (by omega) (by omega) dX12_gameLine_145 ?_
      refine x_gen (fun v23 ev23 => ?_)
      replace ev23 : v23 = Yy21.1 10 5 := ev23
      have qv23 : (0 : Int) ≤ v23 ∧ v23 ≤ (10 : Int) := by
        rw [ev23]
        exact hHy21.rF (k := 10) (i := 5) (p := (0, 10)) rfl rfl
      have kv23 : v23 = X.1 10 5 := by rw [ev23, eYy21, upI_nc (by decide), eYy18, upI_nc (by decide), eYy15, upI_nc (by decide), eYy12, upI_nc (by decide), eYy9, upI_nc (by decide), eYy6, upI_nc (by decide)]
      refine x_iast C (nlt rfl) rfl rfl (nle rfl) (by omega) (by omega) dX12_gameLine_146 ?_
      refine x_gX (fun Yy24 eYy24 => ?_)
      have hHy24 : HG vM Yy24 := by
        rw [eYy24]
        exact hg_wA hHy21 (n := 331) (p := ((-1), 99)) (by decide +kernel) (by omega) ⟨by omega, by omega⟩
      have hFy24 : FR mmGL X0 Yy24 := by
        rw [eYy24]
        exact FR.upI hFy21 (rfl)
      have hGy24 : FR [(9, none)] Yy21 Yy24 := by
        rw [eYy24]
        exact FR.upI FR.rf rfl
      have hKy24 := hKy21.fr hGy24 rfl
      have hLy24 := hLy21.fr hGy24 rfl
      have hRy24 := hRy21.fr hGy24 rfl
      refine x_iinc (lv' := [(5, .int (iI (5 + 1))), (4, .int (iI (v4))), (0, .ref 0), (1, .long (wd)), (3, .int (iI (((s : Nat) : Int))))]) C dX12_gameLine_147 rfl (nlt rfl) rfl ?_
      refine Wx_lv (lv' := [(5, .int (iI (6))), (4, .int (iI (v4))), (0, .ref 0), (1, .long (wd)), (3, .int (iI (((s : Nat) : Int))))]) rfl ?_
      refine x_goto (tgt := 121) C dX12_gameLine_150 (by decide) ?_
      refine x_iload C dX12_gameLine_121 rfl ?_
      refine x_bipush C dX12_gameLine_123 (by decide) ?_
      refine x_icmp_ge (tgt := 153) C dX12_gameLine_125 (by decide) ⟨by omega, by omega⟩ ⟨by omega, by omega⟩ (fun h25 => by exfalso; omega) (fun h25 => ?_)
      refine x_aload_n (i := 0) C dX12_gameLine_128 rfl rfl ?_
      refine x_getRs (r := 9) C fkM_X12_35 (nlt rfl) rfl (HG.rR hHy24 (k := 0) (i := 18) rfl rfl) dX12_gameLine_129 ?_
      refine x_iload C dX12_gameLine_132 rfl ?_
      refine x_iconst C dX12_gameLine_134 ?_
      refine x_iadd C dX12_gameLine_135 ?_
      refine x_iload C dX12_gameLine_136 rfl ?_
      refine x_iadd C dX12_gameLine_138 ?_
      refine x_aload_n (i := 0) C dX12_gameLine_139 rfl rfl ?_
      refine x_getRs (r := 10) C fkM_X12_38 (nlt rfl) rfl (HG.rR hHy24 (k := 0) (i := 19) rfl rfl) dX12_gameLine_140 ?_
      refine x_iload C dX12_gameLine_143 rfl ?_
      refine x_iald C (nlt rfl) rfl rfl (nle rfl) (by omega) (by omega) dX12_gameLine_145 ?_
      refine x_gen (fun v26 ev26 => ?_)
      replace ev26 : v26 = Yy24.1 10 6 := ev26
      have qv26 : (0 : Int) ≤ v26 ∧ v26 ≤ (10 : Int) := by
        rw [ev26]
        exact hHy24.rF (k := 10) (i := 6) (p := (0, 10)) rfl rfl
      have kv26 : v26 = X.1 10 6 := by rw [ev26, eYy24, upI_nc (by decide), eYy21, upI_nc (by decide), eYy18, upI_nc (by decide), eYy15, upI_nc (by decide), eYy12, upI_nc (by decide), eYy9, upI_nc (by decide), eYy6, upI_nc (by decide)]
      refine x_iast C (nlt rfl) rfl rfl (nle rfl) (by omega) (by omega) dX12_gameLine_146 ?_
      refine x_gX (fun Yy27 eYy27 => ?_)
      have hHy27 : HG vM Yy27 := by
        rw [eYy27]
        exact hg_wA hHy24 (n := 331) (p := ((-1), 99)) (by decide +kernel) (by omega) ⟨by omega, by omega⟩
      have hFy27 : FR mmGL X0 Yy27 := by
        rw [eYy27]
        exact FR.upI hFy24 (rfl)
      have hGy27 : FR [(9, none)] Yy24 Yy27 := by
        rw [eYy27]
        exact FR.upI FR.rf rfl
      have hKy27 := hKy24.fr hGy27 rfl
      have hLy27 := hLy24.fr hGy27 rfl
      have hRy27 := hRy24.fr hGy27 rfl
      refine x_iinc (lv' := [(5, .int (iI (6 + 1))), (4, .int (iI (v4))), (0, .ref 0), (1, .long (wd)), (3, .int (iI (((s : Nat) : Int))))]) C dX12_gameLine_147 rfl (nlt rfl) rfl ?_
      refine Wx_lv (lv' := [(5, .int (iI (7))), (4, .int (iI (v4))), (0, .ref 0), (1, .long (wd)), (3, .int (iI (((s : Nat) : Int))))]) rfl ?_
      refine x_goto (tgt := 121) C dX12_gameLine_150 (by decide) ?_
      refine x_iload C dX12_gameLine_121 rfl ?_
      refine x_bipush C dX12_gameLine_123 (by decide) ?_
      refine x_icmp_ge (tgt := 153) C dX12_gameLine_125 (by decide) ⟨by omega, by omega⟩ ⟨by omega, by omega⟩ (fun h28 => by exfalso; omega) (fun h28 => ?_)
      refine x_aload_n (i := 0) C dX12_gameLine_128 rfl rfl ?_
      refine x_getRs (r := 9) C fkM_X12_35 (nlt rfl) rfl (HG.rR hHy27 (k := 0) (i := 18) rfl rfl) dX12_gameLine_129 ?_
      refine x_iload C dX12_gameLine_132 rfl ?_
      refine x_iconst C dX12_gameLine_134 ?_
      refine x_iadd C dX12_gameLine_135 ?_
      refine x_iload C dX12_gameLine_136 rfl ?_
      refine x_iadd C dX12_gameLine_138 ?_
      refine x_aload_n (i := 0) C dX12_gameLine_139 rfl rfl ?_
      refine x_getRs (r := 10) C fkM_X12_38 (nlt rfl) rfl (HG.rR hHy27 (k := 0) (i := 19) rfl rfl) dX12_gameLine_140 ?_
      refine x_iload C dX12_gameLine_143 rfl ?_
      refine x_iald C (nlt rfl) rfl rfl (nle rfl) (by omega) (by omega) dX12_gameLine_145 ?_
      refine x_gen (fun v29 ev29 => ?_)
      replace ev29 : v29 = Yy27.1 10 7 := ev29
      have qv29 : (0 : Int) ≤ v29 ∧ v29 ≤ (10 : Int) := by
        rw [ev29]
        exact hHy27.rF (k := 10) (i := 7) (p := (0, 10)) rfl rfl
      have kv29 : v29 = X.1 10 7 := by rw [ev29, eYy27, upI_nc (by decide), eYy24, upI_nc (by decide), eYy21, upI_nc (by decide), eYy18, upI_nc (by decide), eYy15, upI_nc (by decide), eYy12, upI_nc (by decide), eYy9, upI_nc (by decide), eYy6, upI_nc (by decide)]
      refine x_iast C (nlt rfl) rfl rfl (nle rfl) (by omega) (by omega) dX12_gameLine_146 ?_
      refine x_gX (fun Yy30 eYy30 => ?_)
      have hHy30 : HG vM Yy30 := by
        rw [eYy30]
        exact hg_wA hHy27 (n := 331) (p := ((-1), 99)) (by decide +kernel) (by omega) ⟨by omega, by omega⟩
      have hFy30 : FR mmGL X0 Yy30 := by
        rw [eYy30]
        exact FR.upI hFy27 (rfl)
      have hGy30 : FR [(9, none)] Yy27 Yy30 := by
        rw [eYy30]
        exact FR.upI FR.rf rfl
      have hKy30 := hKy27.fr hGy30 rfl
      have hLy30 := hLy27.fr hGy30 rfl
      have hRy30 := hRy27.fr hGy30 rfl
      refine x_iinc (lv' := [(5, .int (iI (7 + 1))), (4, .int (iI (v4))), (0, .ref 0), (1, .long (wd)), (3, .int (iI (((s : Nat) : Int))))]) C dX12_gameLine_147 rfl (nlt rfl) rfl ?_
      refine Wx_lv (lv' := [(5, .int (iI (8))), (4, .int (iI (v4))), (0, .ref 0), (1, .long (wd)), (3, .int (iI (((s : Nat) : Int))))]) rfl ?_
      refine x_goto (tgt := 121) C dX12_gameLine_150 (by decide) ?_
      refine x_iload C dX12_gameLine_121 rfl ?_
      refine x_bipush C dX12_gameLine_123 (by decide) ?_
      refine x_icmp_ge (tgt := 153) C dX12_gameLine_125 (by decide) ⟨by omega, by omega⟩ ⟨by omega, by omega⟩ (fun h31 => by exfalso; omega) (fun h31 => ?_)
      refine x_aload_n (i := 0) C dX12_gameLine_128 rfl rfl ?_
      refine x_getRs (r := 9) C fkM_X12_35 (nlt rfl) rfl (HG.rR hHy30 (k := 0) (i := 18) rfl rfl) dX12_gameLine_129 ?_
      refine x_iload C dX12_gameLine_132 rfl ?_
      refine x_iconst C dX12_gameLine_134 ?_
      refine x_iadd C dX12_gameLine_135 ?_
      refine x_iload C dX12_gameLine_136 rfl ?_
      refine x_iadd C dX12_gameLine_138 ?_
      refine x_aload_n (i := 0) C dX12_gameLine_139 rfl rfl ?_
      refine x_getRs (r := 10) C fkM_X12_38 (nlt rfl) rfl (HG.rR hHy30 (k := 0) (i := 19) rfl rfl) dX12_gameLine_140 ?_
      refine x_iload C dX12_gameLine_143 rfl ?_
      refine x_iald C (nlt rfl) rfl rfl (nle rfl) (by omega) (by omega) dX12_gameLine_145 ?_
      refine x_gen (fun v32 ev32 => ?_)
      replace ev32 : v32 = Yy30.1 10 8 := ev32
      have qv32 : (0 : Int) ≤ v32 ∧ v32 ≤ (10 : Int) := by
        rw [ev32]
        exact hHy30.rF (k := 10) (i := 8) (p := (0, 10)) rfl rfl
      have kv32 : v32 = X.1 10 8 := by rw [ev32, eYy30, upI_nc (by decide), eYy27, upI_nc (by decide), eYy24, upI_nc (by decide), eYy21, upI_nc (by decide), eYy18, upI_nc (by decide), eYy15, upI_nc (by decide), eYy12, upI_nc (by decide), eYy9, upI_nc (by decide), eYy6, upI_nc (by decide)]
      refine x_iast C (nlt rfl) rfl rfl (nle rfl) (by omega) (by omega) dX12_gameLine_146 ?_
      refine x_gX (fun Yy33 eYy33 => ?_)
      have hHy33 : HG vM Yy33 := by
        rw [eYy33]
        exact hg_wA hHy30 (n := 331) (p := ((-1), 99)) (by decide +kernel) (by omega) ⟨by omega, by omega⟩
      have hFy33 : FR mmGL X0 Yy33 := by
        rw [eYy33]
        exact FR.upI hFy30 (rfl)
      have hGy33 : FR [(9, none)] Yy30 Yy33 := by
        rw [eYy33]
        exact FR.upI FR.rf rfl
      have hKy33 := hKy30.fr hGy33 rfl
      have hLy33 := hLy30.fr hGy33 rfl
      have hRy33 := hRy30.fr hGy33 rfl
      refine x_iinc (lv' := [(5, .int (iI (8 + 1))), (4, .int (iI (v4))), (0, .ref 0), (1, .long (wd)), (3, .int (iI (((s : Nat) : Int))))]) C dX12_gameLine_147 rfl (nlt rfl) rfl ?_
      refine Wx_lv (lv' := [(5, .int (iI (9))), (4, .int (iI (v4))), (0, .ref 0), (1, .long (wd)), (3, .int (iI (((s : Nat) : Int))))]) rfl ?_
      refine x_goto (tgt := 121) C dX12_gameLine_150 (by decide) ?_
      refine x_iload C dX12_gameLine_121 rfl ?_
      refine x_bipush C dX12_gameLine_123 (by decide) ?_
      refine x_icmp_ge (tgt := 153) C dX12_gameLine_125 (by decide) ⟨by omega, by omega⟩ ⟨by omega, by omega⟩ (fun h34 => by exfalso; omega) (fun h34 => ?_)
      refine x_aload_n (i := 0) C dX12_gameLine_128 rfl rfl ?_
      refine x_getRs (r := 9) C fkM_X12_35 (nlt rfl) rfl (HG.rR hHy33 (k := 0) (i := 18) rfl rfl) dX12_gameLine_129 ?_
      refine x_iload C dX12_gameLine_132 rfl ?_
      refine x_iconst C dX12_gameLine_134 ?_
      refine x_iadd C dX12_gameLine_135 ?_
      refine x_iload C dX12_gameLine_136 rfl ?_
      refine x_iadd C dX12_gameLine_138 ?_
      refine x_aload_n (i := 0) C dX12_gameLine_139 rfl rfl ?_
      refine x_getRs (r := 10) C fkM_X12_38 (nlt rfl) rfl (HG.rR hHy33 (k := 0) (i := 19) rfl rfl) dX12_gameLine_140 ?_
      refine x_iload C dX12_gameLine_143 rfl ?_
      refine x_iald C (nlt rfl) rfl rfl (nle rfl) (by omega) (by omega) dX12_gameLine_145 ?_
      refine x_gen (fun v35 ev35 => ?_)
      replace ev35 : v35 = Yy33.1 10 9 := ev35
      have qv35 : (0 : Int) ≤ v35 ∧ v35 ≤ (10 : Int) := by
        rw [ev35]
        exact hHy33.rF (k := 10) (i := 9) (p := (0, 10)) rfl rfl
      have kv35 : v35 = X.1 10 9 := by rw [ev35, eYy33, upI_nc (by decide), eYy30, upI_nc (by decide), eYy27, upI_nc (by decide), eYy24, upI_nc (by decide), eYy21, upI_nc (by decide), eYy18, upI_nc (by decide), eYy15, upI_nc (by decide), eYy12, upI_nc (by decide), eYy9, upI_nc (by decide), eYy6, upI_nc (by decide)]
      refine x_iast C (nlt rfl) rfl rfl (nle rfl) (by omega) (by omega) dX12_gameLine_146 ?_
      refine x_gX (fun Yy36 eYy36 => ?_)
      have hHy36 : HG vM Yy36 := by
        rw [eYy36]
        exact hg_wA hHy33 (n := 331) (p := ((-1), 99)) (by decide +kernel) (by omega) ⟨by omega, by omega⟩
      have hFy36 : FR mmGL X0 Yy36 := by
        rw [eYy36]
        exact FR.upI hFy33 (rfl)
      have hGy36 : FR [(9, none)] Yy33 Yy36 := by
        rw [eYy36]
        exact FR.upI FR.rf rfl
      have hKy36 := hKy33.fr hGy36 rfl
      have hLy36 := hLy33.fr hGy36 rfl
      have hRy36 := hRy33.fr hGy36 rfl
      refine x_iinc (lv' := [(5, .int (iI (9 + 1))), (4, .int (iI (v4))), (0, .ref 0), (1, .long (wd)), (3, .int (iI (((s : Nat) : Int))))]) C dX12_gameLine_147 rfl (nlt rfl) rfl ?_
      refine Wx_lv (lv' := [(5, .int (iI (10))), (4, .int (iI (v4))), (0, .ref 0), (1, .long (wd)), (3, .int (iI (((s : Nat) : Int))))]) rfl ?_
      refine x_goto (tgt := 121) C dX12_gameLine_150 (by decide) ?_
      refine x_iload C dX12_gameLine_121 rfl ?_
      refine x_bipush C dX12_gameLine_123 (by decide) ?_
      refine x_icmp_ge (tgt := 153) C dX12_gameLine_125 (by decide) ⟨by omega, by omega⟩ ⟨by omega, by omega⟩ (fun h37 => ?_) (fun h37 => by exfalso; omega)
      refine x_aload_n (i := 0) C dX12_gameLine_153 rfl rfl ?_
      refine x_getRs (r := 9) C fkM_X12_35 (nlt rfl) rfl (HG.rR hHy36 (k := 0) (i := 18) rfl rfl) dX12_gameLine_154 ?_
      refine x_iconst C dX12_gameLine_157 ?_
      refine x_dup2_11 C dX12_gameLine_158 rfl rfl ?_
      refine x_iald C (nlt rfl) rfl rfl (nle rfl) (by omega) (by omega) dX12_gameLine_159 ?_
      refine x_gen (fun v38 ev38 => ?_)
      replace ev38 : v38 = Yy36.1 9 0 := ev38
      have qv38 : ((-1) : Int) ≤ v38 ∧ v38 ≤ (99 : Int) := by
        rw [ev38]
        exact hHy36.rF (k := 9) (i := 0) (p := ((-1), 99)) rfl rfl
      have kv38 : v38 = X.1 9 0 := by rw [ev38, eYy36, upI_ne (by omega), eYy33, upI_ne (by omega), eYy30, upI_ne (by omega), eYy27, upI_ne (by omega), eYy24, upI_ne (by omega), eYy21, upI_ne (by omega), eYy18, upI_ne (by omega), eYy15, upI_ne (by omega), eYy12, upI_ne (by omega), eYy9, upI_ne (by omega), eYy6, upI_ne (by omega)]
      have ktv38 : v38 = X.1 9 0 := by rw [ev38, eYy36, upI_ne (by omega), eYy33, upI_ne (by omega), eYy30, upI_ne (by omega), eYy27, upI_ne (by omega), eYy24, upI_ne (by omega), eYy21, upI_ne (by omega), eYy18, upI_ne (by omega), eYy15, upI_ne (by omega), eYy12, upI_ne (by omega), eYy9, upI_ne (by omega), eYy6, upI_ne (by omega)]
      have mmv38 : v38 = G.1 := by rw [ktv38]; exact hM.1
      refine x_iconst C dX12_gameLine_160 ?_
      refine x_iadd C dX12_gameLine_161 ?_
      refine x_iast C (nlt rfl) rfl rfl (nle rfl) (by omega) (by omega) dX12_gameLine_162 ?_
      refine x_gX (fun Yy39 eYy39 => ?_)
      have hHy39 : HG vM Yy39 := by
        rw [eYy39]
        exact hg_wF hHy36 (p := ((-1), 99)) rfl ⟨by omega, by omega⟩
      have hFy39 : FR mmGL X0 Yy39 := by
        rw [eYy39]
        exact FR.upI hFy36 (rfl)
      replace eYy39 : Yy39 = upI Yy36 9 0 (v38 + 1) := eYy39
      have hGy39 : FR [(9, some 0)] Yy36 Yy39 := by
        rw [eYy39]
        exact FR.upI FR.rf rfl
      have hKy39 := hKy36.fr hGy39 rfl
      have hLy39 := hLy36.fr hGy39 rfl
      have hRy39 := hRy36.fr hGy39 rfl
      have hM1 := hM.2.1
      have m30 : G.1 < 30 := by omega
      have e1 : gmv G (rV b N t) v = (G.1 + 1, upJ G.2.1 G.1 (rV b N t), upF G.2.2 G.1 v) := if_pos m30
      have hc : ∀ k : Nat, (k : Int) = G.1 → ∀ i : Nat, i < 10 → Yy39.1 9 (2 + 11 * k + i) = X.1 10 i := by
        intro k ek i hi
        rcases (show i = 0 ∨ i = 1 ∨ i = 2 ∨ i = 3 ∨ i = 4 ∨ i = 5 ∨ i = 6 ∨ i = 7 ∨ i = 8 ∨ i = 9 by omega) with rfl | rfl | rfl | rfl | rfl | rfl | rfl | rfl | rfl | rfl
        · rw [eYy39, upI_ne (by omega), eYy36, upI_ne (by omega), eYy33, upI_ne (by omega), eYy30, upI_ne (by omega), eYy27, upI_ne (by omega), eYy24, upI_ne (by omega), eYy21, upI_ne (by omega), eYy18, upI_ne (by omega), eYy15, upI_ne (by omega), eYy12, upI_ne (by omega), eYy9, show 2 + 11 * k + 0 = ((v4 + 1) + 0).toNat by omega, upI_at]
          exact kv8
        · rw [eYy39, upI_ne (by omega), eYy36, upI_ne (by omega), eYy33, upI_ne (by omega), eYy30, upI_ne (by omega), eYy27, upI_ne (by omega), eYy24, upI_ne (by omega), eYy21, upI_ne (by omega), eYy18, upI_ne (by omega), eYy15, upI_ne (by omega), eYy12, show 2 + 11 * k + 1 = ((v4 + 1) + 1).toNat by omega, upI_at]
          exact kv11
        · rw [eYy39, upI_ne (by omega), eYy36, upI_ne (by omega), eYy33, upI_ne (by omega), eYy30, upI_ne (by omega), eYy27, upI_ne (by omega), eYy24, upI_ne (by omega), eYy21, upI_ne (by omega), eYy18, upI_ne (by omega), eYy15, show 2 + 11 * k + 2 = ((v4 + 1) + 2).toNat by omega, upI_at]
          exact kv14
        · rw [eYy39, upI_ne (by omega), eYy36, upI_ne (by omega), eYy33, upI_ne (by omega), eYy30, upI_ne (by omega), eYy27, upI_ne (by omega), eYy24, upI_ne (by omega), eYy21, upI_ne (by omega), eYy18, show 2 + 11 * k + 3 = ((v4 + 1) + 3).toNat by omega, upI_at]
          exact kv17
        · rw [eYy39, upI_ne (by omega), eYy36, upI_ne (by omega), eYy33, upI_ne (by omega), eYy30, upI_ne (by omega), eYy27, upI_ne (by omega), eYy24, upI_ne (by omega), eYy21, show 2 + 11 * k + 4 = ((v4 + 1) + 4).toNat by omega, upI_at]
          exact kv20
        · rw [eYy39, upI_ne (by omega), eYy36, upI_ne (by omega), eYy33, upI_ne (by omega), eYy30, upI_ne (by omega), eYy27, upI_ne (by omega), eYy24, show 2 + 11 * k + 5 = ((v4 + 1) + 5).toNat by omega, upI_at]
          exact kv23
        · rw [eYy39, upI_ne (by omega), eYy36, upI_ne (by omega), eYy33, upI_ne (by omega), eYy30, upI_ne (by omega), eYy27, show 2 + 11 * k + 6 = ((v4 + 1) + 6).toNat by omega, upI_at]
          exact kv26
        · rw [eYy39, upI_ne (by omega), eYy36, upI_ne (by omega), eYy33, upI_ne (by omega), eYy30, show 2 + 11 * k + 7 = ((v4 + 1) + 7).toNat by omega, upI_at]
          exact kv29
        · rw [eYy39, upI_ne (by omega), eYy36, upI_ne (by omega), eYy33, show 2 + 11 * k + 8 = ((v4 + 1) + 8).toNat by omega, upI_at]
          exact kv32
        · rw [eYy39, upI_ne (by omega), eYy36, show 2 + 11 * k + 9 = ((v4 + 1) + 9).toNat by omega, upI_at]
          exact kv35
      have hMn : GDM (gmv G (rV b N t) v) Yy39 := by
        rw [e1]
        refine ⟨by show _ = G.1 + 1; rw [eYy39, upI_at]; omega, ⟨by show 0 ≤ G.1 + 1; omega, by show G.1 + 1 ≤ 30; omega⟩, fun k hk => ?_⟩
        show _ = upF G.2.2 G.1 v k ∧ RLM (upJ G.2.1 G.1 (rV b N t) k) _ ∧ _
        unfold upF upJ
        by_cases e : (k : Int) = G.1
        · rw [if_pos e, if_pos e]
          refine ⟨?_, (RLM_of ht hR).cg (hc k e), fun i hi => ?_⟩
          · rw [eYy39, upI_ne (by omega), eYy36, upI_ne (by omega), eYy33, upI_ne (by omega), eYy30, upI_ne (by omega), eYy27, upI_ne (by omega), eYy24, upI_ne (by omega), eYy21, upI_ne (by omega), eYy18, upI_ne (by omega), eYy15, upI_ne (by omega), eYy12, upI_ne (by omega), eYy9, upI_ne (by omega), eYy6, show 1 + 11 * k = (v4).toNat by omega, upI_at]
            omega
          · rw [hc k e i hi]
            exact hH.rA (k := 10) (n := 10) (p := (0, 10)) (nlt rfl) rfl (by decide +kernel) hi
        · rw [if_neg e, if_neg e]
          have q := hM.2.2 k hk
          refine ⟨by rw [eYy39, upI_ne (by omega), eYy36, upI_ne (by omega), eYy33, upI_ne (by omega), eYy30, upI_ne (by omega), eYy27, upI_ne (by omega), eYy24, upI_ne (by omega), eYy21, upI_ne (by omega), eYy18, upI_ne (by omega), eYy15, upI_ne (by omega), eYy12, upI_ne (by omega), eYy9, upI_ne (by omega), eYy6, upI_ne (by omega)]; exact q.1, q.2.1.cg (fun i hi => by rw [eYy39, upI_ne (by omega), eYy36, upI_ne (by omega), eYy33, upI_ne (by omega), eYy30, upI_ne (by omega), eYy27, upI_ne (by omega), eYy24, upI_ne (by omega), eYy21, upI_ne (by omega), eYy18, upI_ne (by omega), eYy15, upI_ne (by omega), eYy12, upI_ne (by omega), eYy9, upI_ne (by omega), eYy6, upI_ne (by omega)]), fun i hi => by rw [eYy39, upI_ne (by omega), eYy36, upI_ne (by omega), eYy33, upI_ne (by omega), eYy30, upI_ne (by omega), eYy27, upI_ne (by omega), eYy24, upI_ne (by omega), eYy21, upI_ne (by omega), eYy18, upI_ne (by omega), eYy15, upI_ne (by omega), eYy12, upI_ne (by omega), eYy9, upI_ne (by omega), eYy6, upI_ne (by omega)]; exact q.2.2 i hi⟩
      refine x_iconst C dX12_gameLine_163 ?_
      exact x_zret C hQ (by omega) dX12_gameLine_164 (⟨_, rfl, hHy39, hFy39, s1, F1, gmv G (rV b N t) v, hKy39, hLy39, hO, .inl ⟨rfl, st, hg, hMn⟩⟩)
set_option maxHeartbeats 4000000 in
set_option maxRecDepth 100000 in
theorem r_gameLine {D : va_G} {ad : Nat → Nat} {cA : Nat → ClassId} {X0 : XT} {b : Nat → Int} {N : Nat} (hT0 : TPM b N X0) (hH : HG vM X0) {s : Nat} {F : Int × Int} {G : GC} {wd : Int64} (hF : FR mmGL X0 X0) (hw : wd = wW b N s) (hK : TKM b N s X0) (hL : FLM F X0) (hO : FO F s) (hM : GDM G X0) : MetX (wM D ad cA) yX12_gameLine cX12_gameLine 6 (some .boolean) 3 68 [.ref 0, .long (wd), .int (iI (((s : Nat) : Int)))] X0 (fun r X1 => ∃ u : Int, r = some (.int (iI u)) ∧ HG vM X1 ∧ FR mmGL X0 X1 ∧ LPG b N s F G X1 u) := by
  have kb := hK.1
  have sN := hK.2.2.2.2.2.1
  have n6 := hT0.2.1
  have hM1 := hM.2.1
  refine MetX.mk (own := RX12) (by decide +kernel) rfl (nle rfl) (fun E C hQ => ?_)
  refine Wx_lv (lv' := [(0, .ref 0), (1, .long (wd)), (3, .int (iI (((s : Nat) : Int))))]) rfl ?_
  have sx := nx_bd b N s sN
  rcases Classical.em (isW b N 4 s) with wk | wk
  · have e4 : wd = 7561593 := by rw [hw]; exact isW_4.mpr wk
    have sl : s < N := (tK_1 wk.1).2
    refine x_lload_n (i := 1) C dX12_gameLine_0 rfl rfl ?_
    refine x_ldc2 C dX12_gameLine_1 cnX12_241 ?_
    refine x_lcmp C dX12_gameLine_4 ?_
    refine x_topi (fun v1 rv1 ev1 => ?_)
    have cv1 := lcmp_iff rv1 ev1
    unfold inR at rv1
    have zzv1 : v1 = 0 := cv1.1.mpr e4
    refine x_if_eq (tgt := 13) C dX12_gameLine_5 (by decide) ⟨by omega, by omega⟩ (fun h2 => ?_) (fun h2 => by exfalso; omega)
    refine x_aload_n (i := 0) C dX12_gameLine_13 rfl rfl ?_
    refine x_getRs (r := 9) C fkM_X12_35 (nlt rfl) rfl (HG.rR hH (k := 0) (i := 18) rfl rfl) dX12_gameLine_14 ?_
    refine x_iconst C dX12_gameLine_17 ?_
    refine x_iald C (nlt rfl) rfl rfl (nle rfl) (by omega) (by omega) dX12_gameLine_18 ?_
    refine x_gen (fun v3 ev3 => ?_)
    replace ev3 : v3 = X0.1 9 0 := ev3
    have qv3 : ((-1) : Int) ≤ v3 ∧ v3 ≤ (99 : Int) := by
      rw [ev3]
      exact hH.rF (k := 9) (i := 0) (p := ((-1), 99)) rfl rfl
    have ktv3 := ev3
    have mmv3 : v3 = G.1 := by rw [ktv3]; exact hM.1
    refine x_bipush C dX12_gameLine_19 (by decide) ?_
    refine x_icmp_ne (tgt := 30) C dX12_gameLine_21 (by decide) ⟨by omega, by omega⟩ ⟨by omega, by omega⟩ (fun h4 => ?_) (fun h4 => ?_)
    · have hOn : FO F (nx b N s) := hO.mono sx.1
      have f3 : (if G.1 = 30 then ntF F 3 s else F) = F := if_neg (by omega)
      refine x_aload_n (i := 0) C dX12_gameLine_30 rfl rfl ?_
      refine x_callV (As := []) C (by exact (r_tok (s := s) (hT0.fr hF rfl) hH hK FR.rf)) ckX12_216 im_X12_token se_X12_token (nlt rfl) rfl rfl rfl rfl (nle rfl) (by exact ⟨nle rfl, nle rfl⟩) dX12_gameLine_31 ?_
      rintro _ Yy5 ⟨rfl, hHy5, hGy5, hKy5⟩
      have hFy5 : FR mmGL X0 Yy5 := FR.tr hF hGy5 (by decide)
      have hLy5 := hL.fr hGy5 rfl
      have hMy5 := hM.fr hGy5 rfl
      have sny5 := nx_bd b N s hK.2.2.2.2.2.1
      refine Wx_st (st' := []) rfl ?_
      refine x_aload_n (i := 0) C dX12_gameLine_34 rfl rfl ?_
      refine x_callV (As := []) C (by exact (r_takeRule (s := (nx b N s)) (hT0.fr hFy5 rfl) hHy5 FR.rf hKy5)) ckX12_243 im_X12_takeRule se_X12_takeRule (nlt rfl) rfl rfl rfl rfl (nle rfl) (by exact ⟨nle rfl, nle rfl⟩) dX12_gameLine_35 ?_
      rintro _ Yy6 ⟨v7, rfl, hHy6, hGy6, trv7⟩
      have hFy6 : FR mmGL X0 Yy6 := FR.tr hFy5 hGy6 (by decide)
      have hLy6 := hLy5.fr hGy6 rfl
      have hMy6 := hMy5.fr hGy6 rfl
      refine Wx_st (st' := [.int (iI (v7))]) rfl ?_
      refine x_if_ne (tgt := 43) C dX12_gameLine_38 (by decide) ⟨by omega, by omega⟩ (fun h8 => ?_) (fun h8 => ?_)
      · have r1 := trv7.elim (fun g => g.2) (fun g => by exfalso; have := g.1; omega)
        have hKy6 := r1.2.1
        have hRy6 := r1.2.2
        have t1 := nx_bd b N (nx b N s) sx.2.1
        have hO2 : FO F (nx b N (nx b N s)) := hOn.mono t1.1
        have tb1 := hKy6.2.2.2.2.2.2
        have tb5 := (tK_bd b N (nx b N (nx b N s))).2
        have k2i := sK_2 tb1 tb5
        refine x_aload_n (i := 0) C dX12_gameLine_43 rfl rfl ?_
        refine x_iconst C dX12_gameLine_44 ?_
        refine x_putI C pkM_X12_209 (nlt rfl) rfl dX12_gameLine_45 ?_
        refine x_gX (fun Yy9 eYy9 => ?_)
        have hHy9 : HG vM Yy9 := by
          rw [eYy9]
          exact hg_wF hHy6 (p := ((-2147483648), 2147483647)) rfl ⟨by omega, by omega⟩
        have hFy9 : FR mmGL X0 Yy9 := by
          rw [eYy9]
          exact FR.upI hFy6 (rfl)
        have hGy9 : FR [(0, some 20)] Yy6 Yy9 := by
          rw [eYy9]
          exact FR.upI FR.rf rfl
        have hLy9 := hLy6.fr hGy9 rfl
        have hMy9 := hMy6.fr hGy9 rfl
        have hKy9 := hKy6.fr hGy9 rfl
        have hRy9 := hRy6.fr hGy9 rfl
        refine x_aload_n (i := 0) C dX12_gameLine_48 rfl rfl ?_
        refine x_getI C fkM_X12_190 (nlt rfl) rfl dX12_gameLine_49 ?_
        refine x_gen (fun v10 ev10 => ?_)
        have qv10 : ((-2147483648) : Int) ≤ v10 ∧ v10 ≤ (2147483647 : Int) := by
          rw [ev10]
          exact hHy9.rF (k := 0) (i := 12) rfl rfl
        have kv10 : v10 = Yy6.1 0 12 := by rw [ev10, eYy9, upI_ne (by omega)]
        have sov10 : v10 = sK (tK b N (nx b N (nx b N s))) := by rw [ev10]; exact hKy9.2.1
        refine x_iconst C dX12_gameLine_52 ?_
        refine x_icmp_ne (tgt := 83) C dX12_gameLine_53 (by decide) ⟨by omega, by omega⟩ ⟨by omega, by omega⟩ (fun h11 => ?_) (fun h11 => ?_)
        · have n5 : ¬ isW b N 5 (nx b N (nx b N s)) := fun g => by have := k2i.mpr g.1; omega
          refine Wx_pick [0, 1, 3] ?_
          refine Wx_lv (lv' := [(0, .ref 0), (1, .long (wd)), (3, .int (iI (((s : Nat) : Int))))]) rfl ?_
          exact r_gl83 hT0 (s := s) (s1 := (nx b N (nx b N s))) (t := (nx b N s)) (F := F) (F1 := F) (G := G) (v := -1) r1.1 (by rw [gL_y wk r1.1 n5, f3]) (by omega) (by omega) (by omega) (by rw [eYy9, upI_at]) hHy9 hFy9 hKy9 hLy9 hO2 hMy9 hRy9 C hQ 1 (by decide)
        · have kw : tK b N (nx b N (nx b N s)) = 1 := k2i.mp (by omega)
          refine x_aload_n (i := 0) C dX12_gameLine_56 rfl rfl ?_
          refine x_getL C fkM_X12_186 (nlt rfl) rfl dX12_gameLine_57 ?_
          refine x_genL (fun l12 el12 => ?_)
          have lw : l12 = wW b N (nx b N (nx b N s)) := by rw [wW_1 kw, el12]; exact hKy9.2.2.2.2.1 kw
          refine x_ldc2 C dX12_gameLine_60 cnX12_246 ?_
          refine x_lcmp C dX12_gameLine_63 ?_
          refine x_topi (fun v13 rv13 ev13 => ?_)
          have cv13 := lcmp_iff rv13 ev13
          unfold inR at rv13
          refine x_if_ne (tgt := 83) C dX12_gameLine_64 (by decide) ⟨by omega, by omega⟩ (fun h14 => ?_) (fun h14 => ?_)
          · have n5 : ¬ isW b N 5 (nx b N (nx b N s)) := fun g => by have := cv13.1.mpr (lw.trans (isW_5.mpr g)); omega
            refine Wx_pick [0, 1, 3] ?_
            refine Wx_lv (lv' := [(0, .ref 0), (1, .long (wd)), (3, .int (iI (((s : Nat) : Int))))]) rfl ?_
            exact r_gl83 hT0 (s := s) (s1 := (nx b N (nx b N s))) (t := (nx b N s)) (F := F) (F1 := F) (G := G) (v := -1) r1.1 (by rw [gL_y wk r1.1 n5, f3]) (by omega) (by omega) (by omega) (by rw [eYy9, upI_at]) hHy9 hFy9 hKy9 hLy9 hO2 hMy9 hRy9 C hQ 1 (by decide)
          · have w5 : isW b N 5 (nx b N (nx b N s)) := isW_5.mp (by rw [← lw]; exact cv13.1.mp (by omega))
            refine x_aload_n (i := 0) C dX12_gameLine_67 rfl rfl ?_
            refine x_callV (As := []) C (by exact (r_tok (s := (nx b N (nx b N s))) (hT0.fr hFy9 rfl) hHy9 hKy9 FR.rf)) ckX12_216 im_X12_token se_X12_token (nlt rfl) rfl rfl rfl rfl (nle rfl) (by exact ⟨nle rfl, nle rfl⟩) dX12_gameLine_68 ?_
            rintro _ Yy15 ⟨rfl, hHy15, hGy15, hKy15⟩
            have hFy15 : FR mmGL X0 Yy15 := FR.tr hFy9 hGy15 (by decide)
            have hLy15 := hLy9.fr hGy15 rfl
            have hMy15 := hMy9.fr hGy15 rfl
            have hRy15 := hRy9.fr hGy15 rfl
            have sny15 := nx_bd b N (nx b N (nx b N s)) hKy9.2.2.2.2.2.1
            refine Wx_st (st' := []) rfl ?_
            refine x_aload_n (i := 0) C dX12_gameLine_71 rfl rfl ?_
            refine x_iconst C dX12_gameLine_72 ?_
            refine x_bipush C dX12_gameLine_73 (by decide) ?_
            have t2 := nx_bd b N (nx b N (nx b N s)) (by omega)
            have hO3 : FO F (nx b N (nx b N (nx b N s))) := hO2.mono t2.1
            refine x_callV (As := [.int (iI (0)), .int (iI (35))]) C (by exact (r_take (s := (nx b N (nx b N (nx b N s)))) (F := F) (lo := 0) (hi := 35) (hT0.fr hFy15 rfl) hHy15 (by omega) (by omega) (by omega) (by omega) FR.rf hKy15 hLy15 hO3)) ckX12_219 im_X12_take se_X12_take (nlt rfl) rfl rfl rfl rfl (nle rfl) (by exact ⟨nle rfl, nle rfl⟩) dX12_gameLine_75 ?_
            rintro _ Yy16 ⟨v17, rfl, hHy16, hGy16, hKy16, hLy16, tkv17⟩
            have hFy16 : FR mmGL X0 Yy16 := FR.tr hFy15 hGy16 (by decide)
            have hMy16 := hMy15.fr hGy16 rfl
            have hRy16 := hRy15.fr hGy16 rfl
            have hOy16 := hO3.tn (b := b) (lo := 0) (hi := 35) hKy15.2.2.2.2.2.1
            have sby16 := tnS_bd b N (nx b N (nx b N (nx b N s))) hKy15.2.2.2.2.2.1
            refine Wx_st (st' := [.int (iI (v17))]) rfl ?_
            refine x_if_ne (tgt := 83) C dX12_gameLine_78 (by decide) ⟨by omega, by omega⟩ (fun h18 => ?_) (fun h18 => ?_)
            · have tk2 : tK b N (nx b N (nx b N (nx b N s))) = 2 := tkv17.elim (fun g => g.2.1) (fun g => by exfalso; have := g.1; omega)
              have kv := tnV_y tk2 (by omega)
              have rv : Yy16.1 0 20 = tnV b N (nx b N (nx b N (nx b N s))) := tkv17.elim (fun g => g.2.2) (fun g => by exfalso; have := g.1; omega)
              refine Wx_pick [0, 1, 3] ?_
              refine Wx_lv (lv' := [(0, .ref 0), (1, .long (wd)), (3, .int (iI (((s : Nat) : Int))))]) rfl ?_
              exact r_gl83 hT0 (s := s) (s1 := (tnS b N (nx b N (nx b N (nx b N s))))) (t := (nx b N s)) (F := F) (F1 := (tnF b N 0 35 (nx b N (nx b N (nx b N s))) F)) (G := G) (v := tnV b N (nx b N (nx b N (nx b N s)))) r1.1 (by rw [gL_gy wk r1.1 w5 (by omega), f3]) (by omega) (by omega) (by omega) (rv) hHy16 hFy16 hKy16 hLy16 hOy16 hMy16 hRy16 C hQ 1 (by decide)
            · have kn : tK b N (nx b N (nx b N (nx b N s))) ≠ 2 := tkv17.elim (fun g => by exfalso; have := g.1; omega) (fun g => g.2.1)
              have wa : Yy16.1 0 15 = (((nx b N (nx b N (nx b N s))) : Nat) : Int) := tkv17.elim (fun g => by exfalso; have := g.1; omega) (fun g => g.2.2)
              refine x_iconst C dX12_gameLine_81 ?_
              exact x_zret C hQ (by omega) dX12_gameLine_82 (⟨_, rfl, hHy16, hFy16, (tnS b N (nx b N (nx b N (nx b N s)))), (tnF b N 0 35 (nx b N (nx b N (nx b N s))) F), G, hKy16, hLy16, hOy16, .inr ⟨rfl, by rw [tnS_n kn]; exact wa, by rw [gL_gn wk r1.1 w5 (tnV_n kn), f3, tnS_n kn, tnF_n kn]⟩⟩)
      · have r0 := trv7.elim (fun g => by exfalso; have := g.1; omega) (fun g => g.2)
        have hKy6 := r0.2.2
        refine x_iconst C dX12_gameLine_41 ?_
        exact x_zret C hQ (by omega) dX12_gameLine_42 (⟨_, rfl, hHy6, hFy6, (nx b N s), F, G, hKy6, hLy6, hOn, .inr ⟨rfl, r0.2.1, by rw [gL_nr wk r0.1, f3]⟩⟩)
    · refine x_aload_n (i := 0) C dX12_gameLine_24 rfl rfl ?_
      refine x_iconst C dX12_gameLine_25 ?_
      refine x_iload_n (i := 3) C dX12_gameLine_26 rfl rfl ?_
      refine x_callV (As := [.int (iI (3)), .int (iI (((s : Nat) : Int)))]) C (by exact (r_later (F := F) (f := 3) (p := ((s : Nat) : Int)) (by omega) (by omega) ⟨by omega, by omega⟩ (hO) hH FR.rf hL)) ckX12_212 im_X12_later se_X12_later (nlt rfl) rfl rfl rfl rfl (nle rfl) (by exact ⟨nle rfl, nle rfl⟩) dX12_gameLine_27 ?_
      rintro _ Yy19 ⟨rfl, hHy19, hGy19, hLy19⟩
      have hFy19 : FR mmGL X0 Yy19 := FR.tr hF hGy19 (by decide)
      have hKy19 := hK.fr hGy19 rfl
      have hMy19 := hM.fr hGy19 rfl
      refine Wx_st (st' := []) rfl ?_
      have hOn : FO (ntF F 3 ((s : Nat) : Int)) (nx b N s) := hO.nt (sx.2.2 sl)
      have f3 : (if G.1 = 30 then ntF F 3 s else F) = (ntF F 3 ((s : Nat) : Int)) := if_pos (by omega)
      refine x_aload_n (i := 0) C dX12_gameLine_30 rfl rfl ?_
      refine x_callV (As := []) C (by exact (r_tok (s := s) (hT0.fr hFy19 rfl) hHy19 hKy19 FR.rf)) ckX12_216 im_X12_token se_X12_token (nlt rfl) rfl rfl rfl rfl (nle rfl) (by exact ⟨nle rfl, nle rfl⟩) dX12_gameLine_31 ?_
      rintro _ Yy20 ⟨rfl, hHy20, hGy20, hKy20⟩
      have hFy20 : FR mmGL X0 Yy20 := FR.tr hFy19 hGy20 (by decide)
      have hLy20 := hLy19.fr hGy20 rfl
      have hMy20 := hMy19.fr hGy20 rfl
      have sny20 := nx_bd b N s hKy19.2.2.2.2.2.1
      refine Wx_st (st' := []) rfl ?_
      refine x_aload_n (i := 0) C dX12_gameLine_34 rfl rfl ?_
      refine x_callV (As := []) C (by exact (r_takeRule (s := (nx b N s)) (hT0.fr hFy20 rfl) hHy20 FR.rf hKy20)) ckX12_243 im_X12_takeRule se_X12_takeRule (nlt rfl) rfl rfl rfl rfl (nle rfl) (by exact ⟨nle rfl, nle rfl⟩) dX12_gameLine_35 ?_
      rintro _ Yy21 ⟨v22, rfl, hHy21, hGy21, trv22⟩
      have hFy21 : FR mmGL X0 Yy21 := FR.tr hFy20 hGy21 (by decide)
      have hLy21 := hLy20.fr hGy21 rfl
      have hMy21 := hMy20.fr hGy21 rfl
      refine Wx_st (st' := [.int (iI (v22))]) rfl ?_
      refine x_if_ne (tgt := 43) C dX12_gameLine_38 (by decide) ⟨by omega, by omega⟩ (fun h23 => ?_) (fun h23 => ?_)
      · have r1 := trv22.elim (fun g => g.2) (fun g => by exfalso; have := g.1; omega)
        have hKy21 := r1.2.1
        have hRy21 := r1.2.2
        have t1 := nx_bd b N (nx b N s) sx.2.1
        have hO2 : FO (ntF F 3 ((s : Nat) : Int)) (nx b N (nx b N s)) := hOn.mono t1.1
        have tb1 := hKy21.2.2.2.2.2.2
        have tb5 := (tK_bd b N (nx b N (nx b N s))).2
        have k2i := sK_2 tb1 tb5
        refine x_aload_n (i := 0) C dX12_gameLine_43 rfl rfl ?_
        refine x_iconst C dX12_gameLine_44 ?_
        refine x_putI C pkM_X12_209 (nlt rfl) rfl dX12_gameLine_45 ?_
        refine x_gX (fun Yy24 eYy24 => ?_)
        have hHy24 : HG vM Yy24 := by
          rw [eYy24]
          exact hg_wF hHy21 (p := ((-2147483648), 2147483647)) rfl ⟨by omega, by omega⟩
        have hFy24 : FR mmGL X0 Yy24 := by
          rw [eYy24]
          exact FR.upI hFy21 (rfl)
        have hGy24 : FR [(0, some 20)] Yy21 Yy24 := by
          rw [eYy24]
          exact FR.upI FR.rf rfl
        have hLy24 := hLy21.fr hGy24 rfl
        have hMy24 := hMy21.fr hGy24 rfl
        have hKy24 := hKy21.fr hGy24 rfl
        have hRy24 := hRy21.fr hGy24 rfl
        refine x_aload_n (i := 0) C dX12_gameLine_48 rfl rfl ?_
        refine x_getI C fkM_X12_190 (nlt rfl) rfl dX12_gameLine_49 ?_
        refine x_gen (fun v25 ev25 => ?_)
        have qv25 : ((-2147483648) : Int) ≤ v25 ∧ v25 ≤ (2147483647 : Int) := by
          rw [ev25]
          exact hHy24.rF (k := 0) (i := 12) rfl rfl
        have kv25 : v25 = Yy21.1 0 12 := by rw [ev25, eYy24, upI_ne (by omega)]
        have sov25 : v25 = sK (tK b N (nx b N (nx b N s))) := by rw [ev25]; exact hKy24.2.1
        refine x_iconst C dX12_gameLine_52 ?_
        refine x_icmp_ne (tgt := 83) C dX12_gameLine_53 (by decide) ⟨by omega, by omega⟩ ⟨by omega, by omega⟩ (fun h26 => ?_) (fun h26 => ?_)
        · have n5 : ¬ isW b N 5 (nx b N (nx b N s)) := fun g => by have := k2i.mpr g.1; omega
          refine Wx_pick [0, 1, 3] ?_
          refine Wx_lv (lv' := [(0, .ref 0), (1, .long (wd)), (3, .int (iI (((s : Nat) : Int))))]) rfl ?_
          exact r_gl83 hT0 (s := s) (s1 := (nx b N (nx b N s))) (t := (nx b N s)) (F := F) (F1 := (ntF F 3 ((s : Nat) : Int))) (G := G) (v := -1) r1.1 (by rw [gL_y wk r1.1 n5, f3]) (by omega) (by omega) (by omega) (by rw [eYy24, upI_at]) hHy24 hFy24 hKy24 hLy24 hO2 hMy24 hRy24 C hQ 1 (by decide)
        · have kw : tK b N (nx b N (nx b N s)) = 1 := k2i.mp (by omega)
          refine x_aload_n (i := 0) C dX12_gameLine_56 rfl rfl ?_
          refine x_getL C fkM_X12_186 (nlt rfl) rfl dX12_gameLine_57 ?_
          refine x_genL (fun l27 el27 => ?_)
          have lw : l27 = wW b N (nx b N (nx b N s)) := by rw [wW_1 kw, el27]; exact hKy24.2.2.2.2.1 kw
          refine x_ldc2 C dX12_gameLine_60 cnX12_246 ?_
          refine x_lcmp C dX12_gameLine_63 ?_
          refine x_topi (fun v28 rv28 ev28 => ?_)
          have cv28 := lcmp_iff rv28 ev28
          unfold inR at rv28
          refine x_if_ne (tgt := 83) C dX12_gameLine_64 (by decide) ⟨by omega, by omega⟩ (fun h29 => ?_) (fun h29 => ?_)
          · have n5 : ¬ isW b N 5 (nx b N (nx b N s)) := fun g => by have := cv28.1.mpr (lw.trans (isW_5.mpr g)); omega
            refine Wx_pick [0, 1, 3] ?_
            refine Wx_lv (lv' := [(0, .ref 0), (1, .long (wd)), (3, .int (iI (((s : Nat) : Int))))]) rfl ?_
            exact r_gl83 hT0 (s := s) (s1 := (nx b N (nx b N s))) (t := (nx b N s)) (F := F) (F1 := (ntF F 3 ((s : Nat) : Int))) (G := G) (v := -1) r1.1 (by rw [gL_y wk r1.1 n5, f3]) (by omega) (by omega) (by omega) (by rw [eYy24, upI_at]) hHy24 hFy24 hKy24 hLy24 hO2 hMy24 hRy24 C hQ 1 (by decide)
          · have w5 : isW b N 5 (nx b N (nx b N s)) := isW_5.mp (by rw [← lw]; exact cv28.1.mp (by omega))
            refine x_aload_n (i := 0) C dX12_gameLine_67 rfl rfl ?_
            refine x_callV (As := []) C (by exact (r_tok (s := (nx b N (nx b N s))) (hT0.fr hFy24 rfl) hHy24 hKy24 FR.rf)) ckX12_216 im_X12_token se_X12_token (nlt rfl) rfl rfl rfl rfl (nle rfl) (by exact ⟨nle rfl, nle rfl⟩) dX12_gameLine_68 ?_
            rintro _ Yy30 ⟨rfl, hHy30, hGy30, hKy30⟩
            have hFy30 : FR mmGL X0 Yy30 := FR.tr hFy24 hGy30 (by decide)
            have hLy30 := hLy24.fr hGy30 rfl
            have hMy30 := hMy24.fr hGy30 rfl
            have hRy30 := hRy24.fr hGy30 rfl
            have sny30 := nx_bd b N (nx b N (nx b N s)) hKy24.2.2.2.2.2.1
            refine Wx_st (st' := []) rfl ?_
            refine x_aload_n (i := 0) C dX12_gameLine_71 rfl rfl ?_
            refine x_iconst C dX12_gameLine_72 ?_
            refine x_bipush C dX12_gameLine_73 (by decide) ?_
            have t2 := nx_bd b N (nx b N (nx b N s)) (by omega)
            have hO3 : FO (ntF F 3 ((s : Nat) : Int)) (nx b N (nx b N (nx b N s))) := hO2.mono t2.1
            refine x_callV (As := [.int (iI (0)), .int (iI (35))]) C (by exact (r_take (s := (nx b N (nx b N (nx b N s)))) (F := (ntF F 3 ((s : Nat) : Int))) (lo := 0) (hi := 35) (hT0.fr hFy30 rfl) hHy30 (by omega) (by omega) (by omega) (by omega) FR.rf hKy30 hLy30 hO3)) ckX12_219 im_X12_take se_X12_take (nlt rfl) rfl rfl rfl rfl (nle rfl) (by exact ⟨nle rfl, nle rfl⟩) dX12_gameLine_75 ?_
            rintro _ Yy31 ⟨v32, rfl, hHy31, hGy31, hKy31, hLy31, tkv32⟩
            have hFy31 : FR mmGL X0 Yy31 := FR.tr hFy30 hGy31 (by decide)
            have hMy31 := hMy30.fr hGy31 rfl
            have hRy31 := hRy30.fr hGy31 rfl
            have hOy31 := hO3.tn (b := b) (lo := 0) (hi := 35) hKy30.2.2.2.2.2.1
            have sby31 := tnS_bd b N (nx b N (nx b N (nx b N s))) hKy30.2.2.2.2.2.1
            refine Wx_st (st' := [.int (iI (v32))]) rfl ?_
            refine x_if_ne (tgt := 83) C dX12_gameLine_78 (by decide) ⟨by omega, by omega⟩ (fun h33 => ?_) (fun h33 => ?_)
            · have tk2 : tK b N (nx b N (nx b N (nx b N s))) = 2 := tkv32.elim (fun g => g.2.1) (fun g => by exfalso; have := g.1; omega)
              have kv := tnV_y tk2 (by omega)
              have rv : Yy31.1 0 20 = tnV b N (nx b N (nx b N (nx b N s))) := tkv32.elim (fun g => g.2.2) (fun g => by exfalso; have := g.1; omega)
              refine Wx_pick [0, 1, 3] ?_
              refine Wx_lv (lv' := [(0, .ref 0), (1, .long (wd)), (3, .int (iI (((s : Nat) : Int))))]) rfl ?_
              exact r_gl83 hT0 (s := s) (s1 := (tnS b N (nx b N (nx b N (nx b N s))))) (t := (nx b N s)) (F := F) (F1 := (tnF b N 0 35 (nx b N (nx b N (nx b N s))) (ntF F 3 ((s : Nat) : Int)))) (G := G) (v := tnV b N (nx b N (nx b N (nx b N s)))) r1.1 (by rw [gL_gy wk r1.1 w5 (by omega), f3]) (by omega) (by omega) (by omega) (rv) hHy31 hFy31 hKy31 hLy31 hOy31 hMy31 hRy31 C hQ 1 (by decide)
            · have kn : tK b N (nx b N (nx b N (nx b N s))) ≠ 2 := tkv32.elim (fun g => by exfalso; have := g.1; omega) (fun g => g.2.1)
              have wa : Yy31.1 0 15 = (((nx b N (nx b N (nx b N s))) : Nat) : Int) := tkv32.elim (fun g => by exfalso; have := g.1; omega) (fun g => g.2.2)
              refine x_iconst C dX12_gameLine_81 ?_
              exact x_zret C hQ (by omega) dX12_gameLine_82 (⟨_, rfl, hHy31, hFy31, (tnS b N (nx b N (nx b N (nx b N s)))), (tnF b N 0 35 (nx b N (nx b N (nx b N s))) (ntF F 3 ((s : Nat) : Int))), G, hKy31, hLy31, hOy31, .inr ⟨rfl, by rw [tnS_n kn]; exact wa, by rw [gL_gn wk r1.1 w5 (tnV_n kn), f3, tnS_n kn, tnF_n kn]⟩⟩)
      · have r0 := trv22.elim (fun g => by exfalso; have := g.1; omega) (fun g => g.2)
        have hKy21 := r0.2.2
        refine x_iconst C dX12_gameLine_41 ?_
        exact x_zret C hQ (by omega) dX12_gameLine_42 (⟨_, rfl, hHy21, hFy21, (nx b N s), (ntF F 3 ((s : Nat) : Int)), G, hKy21, hLy21, hOn, .inr ⟨rfl, r0.2.1, by rw [gL_nr wk r0.1, f3]⟩⟩)
  · have e4 : wd ≠ 7561593 := by rw [hw]; exact fun g => wk (isW_4.mp g)
    refine x_lload_n (i := 1) C dX12_gameLine_0 rfl rfl ?_
    refine x_ldc2 C dX12_gameLine_1 cnX12_241 ?_
    refine x_lcmp C dX12_gameLine_4 ?_
    refine x_topi (fun v34 rv34 ev34 => ?_)
    have cv34 := lcmp_iff rv34 ev34
    unfold inR at rv34
    have zzv34 : v34 ≠ 0 := fun g => e4 (cv34.1.mp g)
    refine x_if_eq (tgt := 13) C dX12_gameLine_5 (by decide) ⟨by omega, by omega⟩ (fun h35 => by exfalso; omega) (fun h35 => ?_)
    refine x_aload_n (i := 0) C dX12_gameLine_8 rfl rfl ?_
    refine x_callV (As := []) C (by exact (r_stops (s := s) hH FR.rf hK)) ckX12_205 im_X12_stops se_X12_stops (nlt rfl) rfl rfl rfl rfl (nle rfl) (by exact ⟨nle rfl, nle rfl⟩) dX12_gameLine_9 ?_
    rintro _ Yy36 ⟨v37, rfl, zv37, hHy36, hGy36, wa, hKy36⟩
    have hFy36 : FR mmGL X0 Yy36 := FR.tr hF hGy36 (by decide)
    have hLy36 := hL.fr hGy36 rfl
    have hMy36 := hM.fr hGy36 rfl
    refine Wx_st (st' := [.int (iI (v37))]) rfl ?_
    exact x_zret C hQ (by omega) dX12_gameLine_12 (⟨_, rfl, hHy36, hFy36, s, F, G, hKy36, hLy36, hO, .inr ⟨zv37, wa, by rw [gL_no wk]⟩⟩)
