/-! ===== the reference: text ===== -/
theorem dX12_mostOf_0 : decode cX12_mostOf 0 = .ok (.iload_n 0, 1) := by decide +kernel
theorem dX12_mostOf_1 : decode cX12_mostOf 1 = .ok (.iconst 1, 1) := by decide +kernel
theorem dX12_mostOf_2 : decode cX12_mostOf 2 = .ok (.if_icmp .ne 7, 3) := by decide +kernel
theorem dX12_mostOf_5 : decode cX12_mostOf 5 = .ok (.iconst 3, 1) := by decide +kernel
theorem dX12_mostOf_6 : decode cX12_mostOf 6 = .ok (.goto 4, 3) := by decide +kernel
theorem dX12_mostOf_9 : decode cX12_mostOf 9 = .ok (.iconst 2, 1) := by decide +kernel
theorem dX12_mostOf_10 : decode cX12_mostOf 10 = .ok (.ireturn, 1) := by decide +kernel
theorem dX12_text_0 : decode cX12_text 0 = .ok (.aload_n 0, 1) := by decide +kernel
theorem dX12_text_1 : decode cX12_text 1 = .ok (.iconst 0, 1) := by decide +kernel
theorem dX12_text_2 : decode cX12_text 2 = .ok (.putfield 157, 3) := by decide +kernel
theorem dX12_text_5 : decode cX12_text 5 = .ok (.aload_n 0, 1) := by decide +kernel
theorem dX12_text_6 : decode cX12_text 6 = .ok (.aload_n 0, 1) := by decide +kernel
theorem dX12_text_7 : decode cX12_text 7 = .ok (.getfield 13, 3) := by decide +kernel
theorem dX12_text_10 : decode cX12_text 10 = .ok (.iconst 0, 1) := by decide +kernel
theorem dX12_text_11 : decode cX12_text 11 = .ok (.iaload, 1) := by decide +kernel
theorem dX12_text_12 : decode cX12_text 12 = .ok (.putfield 176, 3) := by decide +kernel
theorem dX12_text_15 : decode cX12_text 15 = .ok (.aload_n 0, 1) := by decide +kernel
theorem dX12_text_16 : decode cX12_text 16 = .ok (.getfield 13, 3) := by decide +kernel
theorem dX12_text_19 : decode cX12_text 19 = .ok (.iconst 0, 1) := by decide +kernel
theorem dX12_text_20 : decode cX12_text 20 = .ok (.iconst 0, 1) := by decide +kernel
theorem dX12_text_21 : decode cX12_text 21 = .ok (.iastore, 1) := by decide +kernel
theorem dX12_text_22 : decode cX12_text 22 = .ok (.aload_n 0, 1) := by decide +kernel
theorem dX12_text_23 : decode cX12_text 23 = .ok (.getfield 17, 3) := by decide +kernel
theorem dX12_text_26 : decode cX12_text 26 = .ok (.iconst 0, 1) := by decide +kernel
theorem dX12_text_27 : decode cX12_text 27 = .ok (.iconst 0, 1) := by decide +kernel
theorem dX12_text_28 : decode cX12_text 28 = .ok (.iastore, 1) := by decide +kernel
theorem dX12_text_29 : decode cX12_text 29 = .ok (.aload_n 0, 1) := by decide +kernel
theorem dX12_text_30 : decode cX12_text 30 = .ok (.getfield 20, 3) := by decide +kernel
theorem dX12_text_33 : decode cX12_text 33 = .ok (.iconst 0, 1) := by decide +kernel
theorem dX12_text_34 : decode cX12_text 34 = .ok (.iconst (-1), 1) := by decide +kernel
theorem dX12_text_35 : decode cX12_text 35 = .ok (.iastore, 1) := by decide +kernel
theorem dX12_text_36 : decode cX12_text 36 = .ok (.iload_n 1, 1) := by decide +kernel
theorem dX12_text_37 : decode cX12_text 37 = .ok (.iconst 0, 1) := by decide +kernel
theorem dX12_text_38 : decode cX12_text 38 = .ok (.iconst 2, 1) := by decide +kernel
theorem dX12_text_39 : decode cX12_text 39 = .ok (.invokestatic 165, 3) := by decide +kernel
theorem dX12_text_42 : decode cX12_text 42 = .ok (.ifCond .eq 33, 3) := by decide +kernel
theorem dX12_text_45 : decode cX12_text 45 = .ok (.iload_n 2, 1) := by decide +kernel
theorem dX12_text_46 : decode cX12_text 46 = .ok (.iconst (-1), 1) := by decide +kernel
theorem dX12_text_47 : decode cX12_text 47 = .ok (.if_icmp .ne 19, 3) := by decide +kernel
theorem dX12_text_50 : decode cX12_text 50 = .ok (.aload_n 0, 1) := by decide +kernel
theorem dX12_text_51 : decode cX12_text 51 = .ok (.getfield 23, 3) := by decide +kernel
theorem dX12_text_54 : decode cX12_text 54 = .ok (.iload_n 1, 1) := by decide +kernel
theorem dX12_text_55 : decode cX12_text 55 = .ok (.iaload, 1) := by decide +kernel
theorem dX12_text_56 : decode cX12_text 56 = .ok (.iload_n 1, 1) := by decide +kernel
theorem dX12_text_57 : decode cX12_text 57 = .ok (.invokestatic 265, 3) := by decide +kernel
theorem dX12_text_60 : decode cX12_text 60 = .ok (.if_icmp .ne 18, 3) := by decide +kernel
theorem dX12_text_63 : decode cX12_text 63 = .ok (.goto 12, 3) := by decide +kernel
theorem dX12_text_66 : decode cX12_text 66 = .ok (.aload_n 0, 1) := by decide +kernel
theorem dX12_text_67 : decode cX12_text 67 = .ok (.iload_n 1, 1) := by decide +kernel
theorem dX12_text_68 : decode cX12_text 68 = .ok (.iload_n 2, 1) := by decide +kernel
theorem dX12_text_69 : decode cX12_text 69 = .ok (.invokevirtual 268, 3) := by decide +kernel
theorem dX12_text_72 : decode cX12_text 72 = .ok (.ifCond .ne 6, 3) := by decide +kernel
theorem dX12_text_75 : decode cX12_text 75 = .ok (.bipush (-2), 2) := by decide +kernel
theorem dX12_text_77 : decode cX12_text 77 = .ok (.ireturn, 1) := by decide +kernel
theorem dX12_text_78 : decode cX12_text 78 = .ok (.aload_n 0, 1) := by decide +kernel
theorem dX12_text_79 : decode cX12_text 79 = .ok (.iload_n 1, 1) := by decide +kernel
theorem dX12_text_80 : decode cX12_text 80 = .ok (.invokevirtual 271, 3) := by decide +kernel
theorem dX12_text_83 : decode cX12_text 83 = .ok (.ifCond .ne 5, 3) := by decide +kernel
theorem dX12_text_86 : decode cX12_text 86 = .ok (.iconst (-1), 1) := by decide +kernel
theorem dX12_text_87 : decode cX12_text 87 = .ok (.ireturn, 1) := by decide +kernel
theorem dX12_text_88 : decode cX12_text 88 = .ok (.iload_n 2, 1) := by decide +kernel
theorem dX12_text_89 : decode cX12_text 89 = .ok (.iconst (-1), 1) := by decide +kernel
theorem dX12_text_90 : decode cX12_text 90 = .ok (.if_icmp .ne 12, 3) := by decide +kernel
theorem dX12_text_93 : decode cX12_text 93 = .ok (.aload_n 0, 1) := by decide +kernel
theorem dX12_text_94 : decode cX12_text 94 = .ok (.getfield 23, 3) := by decide +kernel
theorem dX12_text_97 : decode cX12_text 97 = .ok (.iload_n 1, 1) := by decide +kernel
theorem dX12_text_98 : decode cX12_text 98 = .ok (.iaload, 1) := by decide +kernel
theorem dX12_text_99 : decode cX12_text 99 = .ok (.goto 4, 3) := by decide +kernel
theorem dX12_text_102 : decode cX12_text 102 = .ok (.iload_n 2, 1) := by decide +kernel
theorem dX12_text_103 : decode cX12_text 103 = .ok (.istore_n 3, 1) := by decide +kernel
theorem dX12_text_104 : decode cX12_text 104 = .ok (.aload_n 0, 1) := by decide +kernel
theorem dX12_text_105 : decode cX12_text 105 = .ok (.getfield 23, 3) := by decide +kernel
theorem dX12_text_108 : decode cX12_text 108 = .ok (.iload_n 1, 1) := by decide +kernel
theorem dX12_text_109 : decode cX12_text 109 = .ok (.dup2, 1) := by decide +kernel
theorem dX12_text_110 : decode cX12_text 110 = .ok (.iaload, 1) := by decide +kernel
theorem dX12_text_111 : decode cX12_text 111 = .ok (.iload_n 2, 1) := by decide +kernel
theorem dX12_text_112 : decode cX12_text 112 = .ok (.iconst (-1), 1) := by decide +kernel
theorem dX12_text_113 : decode cX12_text 113 = .ok (.if_icmp .ne 7, 3) := by decide +kernel
theorem dX12_text_116 : decode cX12_text 116 = .ok (.iconst 1, 1) := by decide +kernel
theorem dX12_text_117 : decode cX12_text 117 = .ok (.goto 4, 3) := by decide +kernel
theorem dX12_text_120 : decode cX12_text 120 = .ok (.iconst 0, 1) := by decide +kernel
theorem dX12_text_121 : decode cX12_text 121 = .ok (.iadd, 1) := by decide +kernel
theorem dX12_text_122 : decode cX12_text 122 = .ok (.iastore, 1) := by decide +kernel
theorem dX12_text_123 : decode cX12_text 123 = .ok (.iload_n 1, 1) := by decide +kernel
theorem dX12_text_124 : decode cX12_text 124 = .ok (.lookupswitch 56 #[(0, 28), (1, 42)], 28) := by decide +kernel
theorem dX12_text_152 : decode cX12_text 152 = .ok (.aload_n 0, 1) := by decide +kernel
theorem dX12_text_153 : decode cX12_text 153 = .ok (.aload_n 0, 1) := by decide +kernel
theorem dX12_text_154 : decode cX12_text 154 = .ok (.getfield 26, 3) := by decide +kernel
theorem dX12_text_157 : decode cX12_text 157 = .ok (.bipush 51, 2) := by decide +kernel
theorem dX12_text_159 : decode cX12_text 159 = .ok (.iload_n 3, 1) := by decide +kernel
theorem dX12_text_160 : decode cX12_text 160 = .ok (.invokevirtual 274, 3) := by decide +kernel
theorem dX12_text_163 : decode cX12_text 163 = .ok (.goto 29, 3) := by decide +kernel
theorem dX12_text_166 : decode cX12_text 166 = .ok (.aload_n 0, 1) := by decide +kernel
theorem dX12_text_167 : decode cX12_text 167 = .ok (.aload_n 0, 1) := by decide +kernel
theorem dX12_text_168 : decode cX12_text 168 = .ok (.getfield 29, 3) := by decide +kernel
theorem dX12_text_171 : decode cX12_text 171 = .ok (.bipush 10, 2) := by decide +kernel
theorem dX12_text_173 : decode cX12_text 173 = .ok (.iload_n 3, 1) := by decide +kernel
theorem dX12_text_174 : decode cX12_text 174 = .ok (.invokevirtual 274, 3) := by decide +kernel
theorem dX12_text_177 : decode cX12_text 177 = .ok (.goto 15, 3) := by decide +kernel
theorem dX12_text_180 : decode cX12_text 180 = .ok (.aload_n 0, 1) := by decide +kernel
theorem dX12_text_181 : decode cX12_text 181 = .ok (.aload_n 0, 1) := by decide +kernel
theorem dX12_text_182 : decode cX12_text 182 = .ok (.getfield 32, 3) := by decide +kernel
theorem dX12_text_185 : decode cX12_text 185 = .ok (.sipush 331, 3) := by decide +kernel
theorem dX12_text_188 : decode cX12_text 188 = .ok (.iload_n 3, 1) := by decide +kernel
theorem dX12_text_189 : decode cX12_text 189 = .ok (.invokevirtual 274, 3) := by decide +kernel
theorem dX12_text_192 : decode cX12_text 192 = .ok (.iload_n 3, 1) := by decide +kernel
theorem dX12_text_193 : decode cX12_text 193 = .ok (.ireturn, 1) := by decide +kernel

set_option maxHeartbeats 4000000 in
set_option maxRecDepth 100000 in
theorem r_mostOf0 {D : va_G} {ad : Nat → Nat} {cA : Nat → ClassId} {X : XT} : MetX (wM D ad cA) yX12_mostOf cX12_mostOf 1 (some .int) 0 0 [.int (iI (0))] X (fun r X' => X' = X ∧ ∃ u : Int, r = some (.int (iI u)) ∧ u = 2) := by
  refine MetX.mk (own := RX12) (by decide +kernel) rfl (nle rfl) (fun E C hQ => ?_)
  refine Wx_lv (lv' := [(0, .int (iI (0)))]) rfl ?_
  refine x_iload_n (i := 0) C dX12_mostOf_0 rfl rfl ?_
  refine x_iconst C dX12_mostOf_1 ?_
  refine x_icmp_ne (tgt := 9) C dX12_mostOf_2 (by decide) ⟨by omega, by omega⟩ ⟨by omega, by omega⟩ (fun h1 => ?_) (fun h1 => by exfalso; omega)
  refine x_iconst C dX12_mostOf_9 ?_
  exact x_iret C hQ dX12_mostOf_10 (⟨rfl, _, rfl, rfl⟩)
set_option maxHeartbeats 4000000 in
set_option maxRecDepth 100000 in
theorem r_is0 {D : va_G} {ad : Nat → Nat} {cA : Nat → ClassId} {X : XT} {k : Int} (kk : inR k) (hH : HG vM X) : MetX (wM D ad cA) yX12_is cX12_is 3 (some .boolean) 1 22 [.ref 0, .int (iI (0)), .int (iI (k))] X (fun r X' => X' = X ∧ ∃ u : Int, r = some (.int (iI u)) ∧ ((u = 1 ∧ 0 ≤ k ∧ k < X.1 5 0) ∨ (u = 0 ∧ ¬ (0 ≤ k ∧ k < X.1 5 0)))) := by
  unfold inR at kk
  refine MetX.mk (own := RX12) (by decide +kernel) rfl (nle rfl) (fun E C hQ => ?_)
  refine Wx_lv (lv' := [(0, .ref 0), (1, .int (iI (0))), (2, .int (iI (k)))]) rfl ?_
  refine x_iload_n (i := 2) C dX12_is_0 rfl rfl ?_
  refine x_iconst C dX12_is_1 ?_
  refine x_aload_n (i := 0) C dX12_is_2 rfl rfl ?_
  refine x_getRs (r := 5) C fkM_X12_23 (nlt rfl) rfl (HG.rR hH (k := 0) (i := 5) rfl rfl) dX12_is_3 ?_
  refine x_iload_n (i := 1) C dX12_is_6 rfl rfl ?_
  refine x_iald C (nlt rfl) rfl rfl (nle rfl) (by omega) (by omega) dX12_is_7 ?_
  refine x_gen (fun v1 ev1 => ?_)
  replace ev1 : v1 = X.1 5 0 := ev1
  have qv1 : (0 : Int) ≤ v1 ∧ v1 ≤ (2 : Int) := by
    rw [ev1]
    exact hH.rF (k := 5) (i := 0) (p := (0, 2)) rfl rfl
  refine x_iconst C dX12_is_8 ?_
  refine x_isub C dX12_is_9 ?_
  refine x_callS (As := [.int (iI (k)), .int (iI (0)), .int (iI (v1 - 1))]) C (by exact (q_in (v := k) (a := 0) (b := v1 - 1) ⟨by omega, by omega⟩ ⟨by omega, by omega⟩ ⟨by omega, by omega⟩)) ckX12_165 sm_X12_in rfl rfl (nle rfl) (by exact ⟨nle rfl, nle rfl⟩) dX12_is_10 ?_
  rintro _ Xv2 ⟨hxv2, v2, rfl, ev2⟩
  rw [hxv2]
  refine Wx_st (st' := [.int (iI (v2))]) rfl ?_
  exact x_zret C hQ (by omega) dX12_is_13 (⟨rfl, _, rfl, by omega⟩)
set_option maxHeartbeats 4000000 in
set_option maxRecDepth 100000 in
theorem r_mostOf1 {D : va_G} {ad : Nat → Nat} {cA : Nat → ClassId} {X : XT} : MetX (wM D ad cA) yX12_mostOf cX12_mostOf 1 (some .int) 0 0 [.int (iI (1))] X (fun r X' => X' = X ∧ ∃ u : Int, r = some (.int (iI u)) ∧ u = 3) := by
  refine MetX.mk (own := RX12) (by decide +kernel) rfl (nle rfl) (fun E C hQ => ?_)
  refine Wx_lv (lv' := [(0, .int (iI (1)))]) rfl ?_
  refine x_iload_n (i := 0) C dX12_mostOf_0 rfl rfl ?_
  refine x_iconst C dX12_mostOf_1 ?_
  refine x_icmp_ne (tgt := 9) C dX12_mostOf_2 (by decide) ⟨by omega, by omega⟩ ⟨by omega, by omega⟩ (fun h1 => by exfalso; omega) (fun h1 => ?_)
  refine x_iconst C dX12_mostOf_5 ?_
  refine x_goto (tgt := 10) C dX12_mostOf_6 (by decide) ?_
  exact x_iret C hQ dX12_mostOf_10 (⟨rfl, _, rfl, rfl⟩)
set_option maxHeartbeats 4000000 in
set_option maxRecDepth 100000 in
theorem r_is1 {D : va_G} {ad : Nat → Nat} {cA : Nat → ClassId} {X : XT} {k : Int} (kk : inR k) (hH : HG vM X) : MetX (wM D ad cA) yX12_is cX12_is 3 (some .boolean) 1 22 [.ref 0, .int (iI (1)), .int (iI (k))] X (fun r X' => X' = X ∧ ∃ u : Int, r = some (.int (iI u)) ∧ ((u = 1 ∧ 0 ≤ k ∧ k < X.1 5 1) ∨ (u = 0 ∧ ¬ (0 ≤ k ∧ k < X.1 5 1)))) := by
  unfold inR at kk
  refine MetX.mk (own := RX12) (by decide +kernel) rfl (nle rfl) (fun E C hQ => ?_)
  refine Wx_lv (lv' := [(0, .ref 0), (1, .int (iI (1))), (2, .int (iI (k)))]) rfl ?_
  refine x_iload_n (i := 2) C dX12_is_0 rfl rfl ?_
  refine x_iconst C dX12_is_1 ?_
  refine x_aload_n (i := 0) C dX12_is_2 rfl rfl ?_
  refine x_getRs (r := 5) C fkM_X12_23 (nlt rfl) rfl (HG.rR hH (k := 0) (i := 5) rfl rfl) dX12_is_3 ?_
  refine x_iload_n (i := 1) C dX12_is_6 rfl rfl ?_
  refine x_iald C (nlt rfl) rfl rfl (nle rfl) (by omega) (by omega) dX12_is_7 ?_
  refine x_gen (fun v1 ev1 => ?_)
  replace ev1 : v1 = X.1 5 1 := ev1
  have qv1 : (0 : Int) ≤ v1 ∧ v1 ≤ (3 : Int) := by
    rw [ev1]
    exact hH.rF (k := 5) (i := 1) (p := (0, 3)) rfl rfl
  refine x_iconst C dX12_is_8 ?_
  refine x_isub C dX12_is_9 ?_
  refine x_callS (As := [.int (iI (k)), .int (iI (0)), .int (iI (v1 - 1))]) C (by exact (q_in (v := k) (a := 0) (b := v1 - 1) ⟨by omega, by omega⟩ ⟨by omega, by omega⟩ ⟨by omega, by omega⟩)) ckX12_165 sm_X12_in rfl rfl (nle rfl) (by exact ⟨nle rfl, nle rfl⟩) dX12_is_10 ?_
  rintro _ Xv2 ⟨hxv2, v2, rfl, ev2⟩
  rw [hxv2]
  refine Wx_st (st' := [.int (iI (v2))]) rfl ?_
  exact x_zret C hQ (by omega) dX12_is_13 (⟨rfl, _, rfl, by omega⟩)
set_option maxHeartbeats 4000000 in
set_option maxRecDepth 100000 in
theorem r_mostOf2 {D : va_G} {ad : Nat → Nat} {cA : Nat → ClassId} {X : XT} : MetX (wM D ad cA) yX12_mostOf cX12_mostOf 1 (some .int) 0 0 [.int (iI (2))] X (fun r X' => X' = X ∧ ∃ u : Int, r = some (.int (iI u)) ∧ u = 2) := by
  refine MetX.mk (own := RX12) (by decide +kernel) rfl (nle rfl) (fun E C hQ => ?_)
  refine Wx_lv (lv' := [(0, .int (iI (2)))]) rfl ?_
  refine x_iload_n (i := 0) C dX12_mostOf_0 rfl rfl ?_
  refine x_iconst C dX12_mostOf_1 ?_
  refine x_icmp_ne (tgt := 9) C dX12_mostOf_2 (by decide) ⟨by omega, by omega⟩ ⟨by omega, by omega⟩ (fun h1 => ?_) (fun h1 => by exfalso; omega)
  refine x_iconst C dX12_mostOf_9 ?_
  exact x_iret C hQ dX12_mostOf_10 (⟨rfl, _, rfl, rfl⟩)
set_option maxHeartbeats 4000000 in
set_option maxRecDepth 100000 in
theorem r_is2 {D : va_G} {ad : Nat → Nat} {cA : Nat → ClassId} {X : XT} {k : Int} (kk : inR k) (hH : HG vM X) : MetX (wM D ad cA) yX12_is cX12_is 3 (some .boolean) 1 22 [.ref 0, .int (iI (2)), .int (iI (k))] X (fun r X' => X' = X ∧ ∃ u : Int, r = some (.int (iI u)) ∧ ((u = 1 ∧ 0 ≤ k ∧ k < X.1 5 2) ∨ (u = 0 ∧ ¬ (0 ≤ k ∧ k < X.1 5 2)))) := by
  unfold inR at kk
  refine MetX.mk (own := RX12) (by decide +kernel) rfl (nle rfl) (fun E C hQ => ?_)
  refine Wx_lv (lv' := [(0, .ref 0), (1, .int (iI (2))), (2, .int (iI (k)))]) rfl ?_
  refine x_iload_n (i := 2) C dX12_is_0 rfl rfl ?_
  refine x_iconst C dX12_is_1 ?_
  refine x_aload_n (i := 0) C dX12_is_2 rfl rfl ?_
  refine x_getRs (r := 5) C fkM_X12_23 (nlt rfl) rfl (HG.rR hH (k := 0) (i := 5) rfl rfl) dX12_is_3 ?_
  refine x_iload_n (i := 1) C dX12_is_6 rfl rfl ?_
  refine x_iald C (nlt rfl) rfl rfl (nle rfl) (by omega) (by omega) dX12_is_7 ?_
  refine x_gen (fun v1 ev1 => ?_)
  replace ev1 : v1 = X.1 5 2 := ev1
  have qv1 : (0 : Int) ≤ v1 ∧ v1 ≤ (2 : Int) := by
    rw [ev1]
    exact hH.rF (k := 5) (i := 2) (p := (0, 2)) rfl rfl
  refine x_iconst C dX12_is_8 ?_
  refine x_isub C dX12_is_9 ?_
  refine x_callS (As := [.int (iI (k)), .int (iI (0)), .int (iI (v1 - 1))]) C (by exact (q_in (v := k) (a := 0) (b := v1 - 1) ⟨by omega, by omega⟩ ⟨by omega, by omega⟩ ⟨by omega, by omega⟩)) ckX12_165 sm_X12_in rfl rfl (nle rfl) (by exact ⟨nle rfl, nle rfl⟩) dX12_is_10 ?_
  rintro _ Xv2 ⟨hxv2, v2, rfl, ev2⟩
  rw [hxv2]
  refine Wx_st (st' := [.int (iI (v2))]) rfl ?_
  exact x_zret C hQ (by omega) dX12_is_13 (⟨rfl, _, rfl, by omega⟩)
set_option maxHeartbeats 4000000 in
set_option maxRecDepth 100000 in
theorem r_text0 {D : va_G} {ad : Nat → Nat} {cA : Nat → ClassId} {X0 : XT} {b : Nat → Int} {N : Nat} {at_ : Int} (aa : inR at_) (hN : X0.1 2 0 = (N : Int)) (hb : ∀ i, i < N → X0.1 1 i % 256 = b i) (hH : HG vM X0) (hF : FR mmWB X0 X0) (hF0 : FR mmT0 X0 X0) : MetX (wM D ad cA) yX12_text cX12_text 4 (some .int) 7 158 [.ref 0, .int (iI (0)), .int (iI (at_))] X0 (fun r X1 => ∃ u : Int, r = some (.int (iI u)) ∧ HG vM X1 ∧ TXM b N X0 X1 0 at_ u) := by
  unfold inR at aa
  have n6 : N ≤ 600 := by have q : (0 : Int) ≤ X0.1 2 0 ∧ X0.1 2 0 ≤ 600 := hH.rF (k := 2) (i := 0) (p := (0, 600)) rfl rfl; omega
  have mb : (0 : Int) ≤ X0.1 5 0 ∧ X0.1 5 0 ≤ 2 := hH.rF (k := 5) (i := 0) (p := (0, 2)) rfl rfl
  have hb2 : ∀ i, i < N → 0 ≤ b i ∧ b i ≤ 255 := fun i hi => by have := hb i hi; omega
  refine MetX.mk (own := RX12) (by decide +kernel) rfl (nle rfl) (fun E C hQ => ?_)
  refine Wx_lv (lv' := [(0, .ref 0), (1, .int (iI (0))), (2, .int (iI (at_)))]) rfl ?_
  refine x_aload_n (i := 0) C dX12_text_0 rfl rfl ?_
  refine x_iconst C dX12_text_1 ?_
  refine x_putI C pkM_X12_157 (nlt rfl) rfl dX12_text_2 ?_
  refine x_gX (fun Yy1 eYy1 => ?_)
  have hHy1 : HG vM Yy1 := by
    rw [eYy1]
    exact hg_wF hH (p := ((-2147483648), 2147483647)) rfl ⟨by omega, by omega⟩
  have hFy1 : FR mmWB X0 Yy1 := by
    rw [eYy1]
    exact FR.upI hF (rfl)
  have hFy10 : FR mmT0 X0 Yy1 := by
    rw [eYy1]
    exact FR.upI hF0 rfl
  refine x_aload_n (i := 0) C dX12_text_5 rfl rfl ?_
  refine x_aload_n (i := 0) C dX12_text_6 rfl rfl ?_
  refine x_getRs (r := 2) C fkM_X12_13 (nlt rfl) rfl (HG.rR hHy1 (k := 0) (i := 2) rfl rfl) dX12_text_7 ?_
  refine x_iconst C dX12_text_10 ?_
  refine x_iald C (nlt rfl) rfl rfl (nle rfl) (by omega) (by omega) dX12_text_11 ?_
  refine x_gen (fun v2 ev2 => ?_)
  replace ev2 : v2 = Yy1.1 2 0 := ev2
  have qv2 : (0 : Int) ≤ v2 ∧ v2 ≤ (600 : Int) := by
    rw [ev2]
    exact hHy1.rF (k := 2) (i := 0) (p := (0, 600)) rfl rfl
  have kv2 : v2 = X0.1 2 0 := by rw [ev2, eYy1, upI_nc (by decide)]
  have z0N : v2 = (N : Int) := by rw [kv2]; exact hN
  refine x_putI C pkM_X12_176 (nlt rfl) rfl dX12_text_12 ?_
  refine x_gX (fun Yy3 eYy3 => ?_)
  have hHy3 : HG vM Yy3 := by
    rw [eYy3]
    exact hg_wF hHy1 (p := ((-2147483648), 2147483647)) rfl ⟨by omega, by omega⟩
  have hFy3 : FR mmWB X0 Yy3 := by
    rw [eYy3]
    exact FR.upI hFy1 (rfl)
  have hFy30 : FR mmT0 X0 Yy3 := by
    rw [eYy3]
    exact FR.upI hFy10 rfl
  refine x_aload_n (i := 0) C dX12_text_15 rfl rfl ?_
  refine x_getRs (r := 2) C fkM_X12_13 (nlt rfl) rfl (HG.rR hHy3 (k := 0) (i := 2) rfl rfl) dX12_text_16 ?_
  refine x_iconst C dX12_text_19 ?_
  refine x_iconst C dX12_text_20 ?_
  refine x_iast C (nlt rfl) rfl rfl (nle rfl) (by omega) (by omega) dX12_text_21 ?_
  refine x_gX (fun Yy4 eYy4 => ?_)
  have hHy4 : HG vM Yy4 := by
    rw [eYy4]
    exact hg_wF hHy3 (p := (0, 600)) rfl ⟨by omega, by omega⟩
  have hFy4 : FR mmWB X0 Yy4 := by
    rw [eYy4]
    exact FR.upI hFy3 (rfl)
  replace eYy4 : Yy4 = upI Yy3 2 0 (0) := eYy4
  have hFy40 : FR mmT0 X0 Yy4 := by
    rw [eYy4]
    exact FR.upI hFy30 rfl
  refine x_aload_n (i := 0) C dX12_text_22 rfl rfl ?_
  refine x_getRs (r := 3) C fkM_X12_17 (nlt rfl) rfl (HG.rR hHy4 (k := 0) (i := 3) rfl rfl) dX12_text_23 ?_
  refine x_iconst C dX12_text_26 ?_
  refine x_iconst C dX12_text_27 ?_
  refine x_iast C (nlt rfl) rfl rfl (nle rfl) (by omega) (by omega) dX12_text_28 ?_
  refine x_gX (fun Yy5 eYy5 => ?_)
  have hHy5 : HG vM Yy5 := by
    rw [eYy5]
    exact hg_wF hHy4 (p := ((-2147483648), 2147483647)) rfl ⟨by omega, by omega⟩
  have hFy5 : FR mmWB X0 Yy5 := by
    rw [eYy5]
    exact FR.upI hFy4 (rfl)
  replace eYy5 : Yy5 = upI Yy4 3 0 (0) := eYy5
  have hFy50 : FR mmT0 X0 Yy5 := by
    rw [eYy5]
    exact FR.upI hFy40 rfl
  refine x_aload_n (i := 0) C dX12_text_29 rfl rfl ?_
  refine x_getRs (r := 4) C fkM_X12_20 (nlt rfl) rfl (HG.rR hHy5 (k := 0) (i := 4) rfl rfl) dX12_text_30 ?_
  refine x_iconst C dX12_text_33 ?_
  refine x_iconst C dX12_text_34 ?_
  refine x_iast C (nlt rfl) rfl rfl (nle rfl) (by omega) (by omega) dX12_text_35 ?_
  refine x_gX (fun Yy6 eYy6 => ?_)
  have hHy6 : HG vM Yy6 := by
    rw [eYy6]
    exact hg_wF hHy5 (p := ((-2147483648), 2147483647)) rfl ⟨by omega, by omega⟩
  have hFy6 : FR mmWB X0 Yy6 := by
    rw [eYy6]
    exact FR.upI hFy5 (rfl)
  replace eYy6 : Yy6 = upI Yy5 4 0 ((-1)) := eYy6
  have hFy60 : FR mmT0 X0 Yy6 := by
    rw [eYy6]
    exact FR.upI hFy50 rfl
  refine x_iload_n (i := 1) C dX12_text_36 rfl rfl ?_
  refine x_iconst C dX12_text_37 ?_
  refine x_iconst C dX12_text_38 ?_
  refine x_callS (As := [.int (iI (0)), .int (iI (0)), .int (iI (2))]) C (by exact (q_in (v := 0) (a := 0) (b := 2) ⟨by omega, by omega⟩ ⟨by omega, by omega⟩ ⟨by omega, by omega⟩)) ckX12_165 sm_X12_in rfl rfl (nle rfl) (by exact ⟨nle rfl, nle rfl⟩) dX12_text_39 ?_
  rintro _ Xv7 ⟨hxv7, v7, rfl, ev7⟩
  rw [hxv7]
  refine Wx_st (st' := [.int (iI (v7))]) rfl ?_
  refine x_if_eq (tgt := 75) C dX12_text_42 (by decide) ⟨by omega, by omega⟩ (fun h8 => by exfalso; omega) (fun h8 => ?_)
  refine x_iload_n (i := 2) C dX12_text_45 rfl rfl ?_
  refine x_iconst C dX12_text_46 ?_
  refine x_icmp_ne (tgt := 66) C dX12_text_47 (by decide) ⟨by omega, by omega⟩ ⟨by omega, by omega⟩ (fun h9 => ?_) (fun h9 => ?_)
  · refine x_aload_n (i := 0) C dX12_text_66 rfl rfl ?_
    refine x_iload_n (i := 1) C dX12_text_67 rfl rfl ?_
    refine x_iload_n (i := 2) C dX12_text_68 rfl rfl ?_
    refine x_callV (As := [.int (iI (0)), .int (iI (at_))]) C (by exact (r_is0 (k := at_) ⟨by omega, by omega⟩ hHy6)) ckX12_268 im_X12_is se_X12_is (nlt rfl) rfl rfl rfl rfl (nle rfl) (by exact ⟨nle rfl, nle rfl⟩) dX12_text_69 ?_
    rintro _ Xv10 ⟨hxv10, v10, rfl, ev10⟩
    rw [hxv10]
    have myv10 : Yy6.1 5 0 = X0.1 5 0 := by rw [eYy6, upI_nc (by decide), eYy5, upI_nc (by decide), eYy4, upI_nc (by decide), eYy3, upI_nc (by decide), eYy1, upI_nc (by decide)]
    refine Wx_st (st' := [.int (iI (v10))]) rfl ?_
    refine x_if_ne (tgt := 78) C dX12_text_72 (by decide) ⟨by omega, by omega⟩ (fun h11 => ?_) (fun h11 => ?_)
    · have rm0 : roomM X0 0 at_ := ⟨by decide, by decide, by rw [show ((0 : Int)).toNat = 0 from rfl]; rw [if_neg (by decide)]; omega⟩
      refine x_aload_n (i := 0) C dX12_text_78 rfl rfl ?_
      refine x_iload_n (i := 1) C dX12_text_79 rfl rfl ?_
      refine x_callV (As := [.int (iI (0))]) C (by exact (r_readText0 ⟨by rw [eYy6, upI_nc (by decide), eYy5, upI_nc (by decide), eYy4, upI_nc (by decide), eYy3, upI_at]; exact z0N, n6, fun i hi => by rw [eYy6, upI_nc (by decide), eYy5, upI_nc (by decide), eYy4, upI_nc (by decide), eYy3, upI_nc (by decide), eYy1, upI_nc (by decide)]; exact hb i hi, hb2⟩ hHy6 FR.rf)) ckX12_271 im_X12_readText se_X12_readText (nlt rfl) rfl rfl rfl rfl (nle rfl) (by exact ⟨nle rfl, nle rfl⟩) dX12_text_80 ?_
      rintro _ Yy12 ⟨v13, rfl, hHy12, hGy12, ft, rd⟩
      have hFy12 : FR mmWB X0 Yy12 := FR.tr hFy6 hGy12 (by decide)
      have hFy120 : FR mmT0 X0 Yy12 := FR.tr hFy60 hGy12 (by decide)
      refine Wx_st (st' := [.int (iI (v13))]) rfl ?_
      refine x_if_ne (tgt := 88) C dX12_text_83 (by decide) ⟨by omega, by omega⟩ (fun h14 => ?_) (fun h14 => ?_)
      · have rd1 := rd.elim (fun g => g.2) (fun g => by exfalso; have := g.1; omega)
        have ft0 := fits_B (a := fun i => Yy12.1 9 i) (txB_wf rd1.1) (rnB_z (b := b) (N := N)) rd1.2
        refine x_iload_n (i := 2) C dX12_text_88 rfl rfl ?_
        refine x_iconst C dX12_text_89 ?_
        refine x_icmp_ne (tgt := 102) C dX12_text_90 (by decide) ⟨by omega, by omega⟩ ⟨by omega, by omega⟩ (fun h15 => ?_) (fun h15 => ?_)
        · refine x_iload_n (i := 2) C dX12_text_102 rfl rfl ?_
          refine x_istore_n (i := 3) (lv' := [(3, .int (iI (at_))), (0, .ref 0), (1, .int (iI (0))), (2, .int (iI (at_)))]) C dX12_text_103 rfl (nlt rfl) rfl ?_
          rcases (show at_ = 0 ∨ at_ = 1 by omega) with k3 | k3
          · refine Wx_lv (lv' := [(3, .int (iI (0))), (0, .ref 0), (1, .int (iI (0))), (2, .int (iI (at_)))]) (by simp only [k3]) ?_
            have ft0 := ft0 0 (by decide)
            refine x_aload_n (i := 0) C dX12_text_104 rfl rfl ?_
            refine x_getRs (r := 5) C fkM_X12_23 (nlt rfl) rfl (HG.rR hHy12 (k := 0) (i := 5) rfl rfl) dX12_text_105 ?_
            refine x_iload_n (i := 1) C dX12_text_108 rfl rfl ?_
            refine x_dup2_11 C dX12_text_109 rfl rfl ?_
            refine x_iald C (nlt rfl) rfl rfl (nle rfl) (by omega) (by omega) dX12_text_110 ?_
            refine x_gen (fun v16 ev16 => ?_)
            replace ev16 : v16 = Yy12.1 5 0 := ev16
            have qv16 : (0 : Int) ≤ v16 ∧ v16 ≤ (2 : Int) := by
              rw [ev16]
              exact hHy12.rF (k := 5) (i := 0) (p := (0, 2)) rfl rfl
            have kv16 : v16 = X0.1 5 0 := by rw [ev16, (hGy12 5 0 rfl).1, eYy6, upI_nc (by decide), eYy5, upI_nc (by decide), eYy4, upI_nc (by decide), eYy3, upI_nc (by decide), eYy1, upI_nc (by decide)]
            have mzv16 : v16 = X0.1 5 0 := by rw [ev16, (hGy12 5 0 rfl).1, eYy6, upI_nc (by decide), eYy5, upI_nc (by decide), eYy4, upI_nc (by decide), eYy3, upI_nc (by decide), eYy1, upI_nc (by decide)]
            refine x_iload_n (i := 2) C dX12_text_111 rfl rfl ?_
            refine x_iconst C dX12_text_112 ?_
            refine x_icmp_ne (tgt := 120) C dX12_text_113 (by decide) ⟨by omega, by omega⟩ ⟨by omega, by omega⟩ (fun h17 => ?_) (fun h17 => ?_)
            · refine x_iconst C dX12_text_120 ?_
              refine x_iadd C dX12_text_121 ?_
              refine x_iast C (nlt rfl) rfl rfl (nle rfl) (by omega) (by omega) dX12_text_122 ?_
              refine x_gX (fun Yy18 eYy18 => ?_)
              have hHy18 : HG vM Yy18 := by
                rw [eYy18]
                exact hg_wF hHy12 (p := (0, 2)) rfl ⟨by omega, by omega⟩
              have hFy18 : FR mmWB X0 Yy18 := by
                rw [eYy18]
                exact FR.upI hFy12 (rfl)
              replace eYy18 : Yy18 = upI Yy12 5 0 (v16 + 0) := eYy18
              have hGy18 : FR [(5, some 0)] Yy12 Yy18 := by
                rw [eYy18]
                exact FR.upI FR.rf rfl
              refine x_iload_n (i := 1) C dX12_text_123 rfl rfl ?_
              refine x_lookup (a := 0) (off := 28) (tgt := 152) C dX12_text_124 (by decide) ⟨by omega, by omega⟩ (by decide) (by decide) ?_
              refine x_aload_n (i := 0) C dX12_text_152 rfl rfl ?_
              refine x_aload_n (i := 0) C dX12_text_153 rfl rfl ?_
              refine x_getRs (r := 6) C fkM_X12_26 (nlt rfl) rfl (HG.rR hHy18 (k := 0) (i := 6) rfl rfl) dX12_text_154 ?_
              refine x_bipush C dX12_text_157 (by decide) ?_
              refine x_iload_n (i := 3) C dX12_text_159 rfl rfl ?_
              refine x_callV (As := [.ref 6, .int (iI (51)), .int (iI (0))]) C (by exact (r_store_boards (m := 0) (by decide) (ft0.cg (fun i hi => by show Yy18.1 9 i = Yy12.1 9 i; rw [eYy18, upI_nc (by decide)])) hHy18 FR.rf)) ckX12_274 im_X12_store se_X12_store (nlt rfl) rfl rfl rfl rfl (nle rfl) (by exact ⟨nle rfl, nle rfl⟩) dX12_text_160 ?_
              rintro _ Yy19 ⟨rfl, hHy19, hGy19, sa, sb⟩
              have hFy19 : FR mmWB X0 Yy19 := FR.tr hFy18 hGy19 (by decide)
              refine Wx_st (st' := []) rfl ?_
              refine x_goto (tgt := 192) C dX12_text_163 (by decide) ?_
              refine x_iload_n (i := 3) C dX12_text_192 rfl rfl ?_
              exact x_iret C hQ dX12_text_193 (⟨_, rfl, hHy19, by rw [(hGy19 2 0 rfl).1, eYy18, upI_nc (by decide), (hGy12 2 0 rfl).1, eYy6, upI_nc (by decide), eYy5, upI_nc (by decide), eYy4, upI_at], .inr ⟨rm0, ⟨by rw [(hGy19 3 0 rfl).1, eYy18, upI_nc (by decide)]; exact ft.1, by rw [(hGy19 4 0 rfl).1, eYy18, upI_nc (by decide)]; exact ft.2⟩, .inr ⟨rd1.1, 0, rfl, .inr ⟨by omega, (show ((0 : Nat) : Int) < X0.1 5 0 by omega), (show Yy19.1 5 0 = X0.1 5 0 by rw [(hGy19 5 0 rfl).1, eYy18, upI_at]; omega)⟩, .inl ⟨rfl, by decide, hFy19, fun p hp => by rw [sb p hp, eYy18, upI_nc (by decide), (hGy12 6 p rfl).1, eYy6, upI_nc (by decide), eYy5, upI_nc (by decide), eYy4, upI_nc (by decide), eYy3, upI_nc (by decide), eYy1, upI_nc (by decide)], (BRW.cg rd1.2 (fun i hi => by show Yy19.1 6 (51 * 0 + i) = Yy12.1 9 i; rw [sa i hi, eYy18, upI_nc (by decide)]))⟩⟩⟩⟩)
            · refine x_iconst C dX12_text_116 ?_
              refine x_goto (tgt := 121) C dX12_text_117 (by decide) ?_
              refine x_iadd C dX12_text_121 ?_
              refine x_iast C (nlt rfl) rfl rfl (nle rfl) (by omega) (by omega) dX12_text_122 ?_
              refine x_gX (fun Yy20 eYy20 => ?_)
              have hHy20 : HG vM Yy20 := by
                rw [eYy20]
                exact hg_wF hHy12 (p := (0, 2)) rfl ⟨by omega, by omega⟩
              have hFy20 : FR mmWB X0 Yy20 := by
                rw [eYy20]
                exact FR.upI hFy12 (rfl)
              replace eYy20 : Yy20 = upI Yy12 5 0 (v16 + 1) := eYy20
              have hGy20 : FR [(5, some 0)] Yy12 Yy20 := by
                rw [eYy20]
                exact FR.upI FR.rf rfl
              refine x_iload_n (i := 1) C dX12_text_123 rfl rfl ?_
              refine x_lookup (a := 0) (off := 28) (tgt := 152) C dX12_text_124 (by decide) ⟨by omega, by omega⟩ (by decide) (by decide) ?_
              refine x_aload_n (i := 0) C dX12_text_152 rfl rfl ?_
              refine x_aload_n (i := 0) C dX12_text_153 rfl rfl ?_
              refine x_getRs (r := 6) C fkM_X12_26 (nlt rfl) rfl (HG.rR hHy20 (k := 0) (i := 6) rfl rfl) dX12_text_154 ?_
              refine x_bipush C dX12_text_157 (by decide) ?_
              refine x_iload_n (i := 3) C dX12_text_159 rfl rfl ?_
              refine x_callV (As := [.ref 6, .int (iI (51)), .int (iI (0))]) C (by exact (r_store_boards (m := 0) (by decide) (ft0.cg (fun i hi => by show Yy20.1 9 i = Yy12.1 9 i; rw [eYy20, upI_nc (by decide)])) hHy20 FR.rf)) ckX12_274 im_X12_store se_X12_store (nlt rfl) rfl rfl rfl rfl (nle rfl) (by exact ⟨nle rfl, nle rfl⟩) dX12_text_160 ?_
              rintro _ Yy21 ⟨rfl, hHy21, hGy21, sa, sb⟩
              have hFy21 : FR mmWB X0 Yy21 := FR.tr hFy20 hGy21 (by decide)
              refine Wx_st (st' := []) rfl ?_
              refine x_goto (tgt := 192) C dX12_text_163 (by decide) ?_
              refine x_iload_n (i := 3) C dX12_text_192 rfl rfl ?_
              exact x_iret C hQ dX12_text_193 (⟨_, rfl, hHy21, by rw [(hGy21 2 0 rfl).1, eYy20, upI_nc (by decide), (hGy12 2 0 rfl).1, eYy6, upI_nc (by decide), eYy5, upI_nc (by decide), eYy4, upI_at], .inr ⟨rm0, ⟨by rw [(hGy21 3 0 rfl).1, eYy20, upI_nc (by decide)]; exact ft.1, by rw [(hGy21 4 0 rfl).1, eYy20, upI_nc (by decide)]; exact ft.2⟩, .inr ⟨rd1.1, 0, rfl, .inr ⟨by omega, (show ((0 : Nat) : Int) < X0.1 5 0 by omega), (show Yy21.1 5 0 = X0.1 5 0 by rw [(hGy21 5 0 rfl).1, eYy20, upI_at]; omega)⟩, .inl ⟨rfl, by decide, hFy21, fun p hp => by rw [sb p hp, eYy20, upI_nc (by decide), (hGy12 6 p rfl).1, eYy6, upI_nc (by decide), eYy5, upI_nc (by decide), eYy4, upI_nc (by decide), eYy3, upI_nc (by decide), eYy1, upI_nc (by decide)], (BRW.cg rd1.2 (fun i hi => by show Yy21.1 6 (51 * 0 + i) = Yy12.1 9 i; rw [sa i hi, eYy20, upI_nc (by decide)]))⟩⟩⟩⟩)
          · refine Wx_lv (lv' := [(3, .int (iI (1))), (0, .ref 0), (1, .int (iI (0))), (2, .int (iI (at_)))]) (by simp only [k3]) ?_
            have ft0 := ft0 1 (by decide)
            refine x_aload_n (i := 0) C dX12_text_104 rfl rfl ?_
            refine x_getRs (r := 5) C fkM_X12_23 (nlt rfl) rfl (HG.rR hHy12 (k := 0) (i := 5) rfl rfl) dX12_text_105 ?_
            refine x_iload_n (i := 1) C dX12_text_108 rfl rfl ?_
            refine x_dup2_11 C dX12_text_109 rfl rfl ?_
            refine x_iald C (nlt rfl) rfl rfl (nle rfl) (by omega) (by omega) dX12_text_110 ?_
            refine x_gen (fun v22 ev22 => ?_)
            replace ev22 : v22 = Yy12.1 5 0 := ev22
            have qv22 : (0 : Int) ≤ v22 ∧ v22 ≤ (2 : Int) := by
              rw [ev22]
              exact hHy12.rF (k := 5) (i := 0) (p := (0, 2)) rfl rfl
            have kv22 : v22 = X0.1 5 0 := by rw [ev22, (hGy12 5 0 rfl).1, eYy6, upI_nc (by decide), eYy5, upI_nc (by decide), eYy4, upI_nc (by decide), eYy3, upI_nc (by decide), eYy1, upI_nc (by decide)]
            have mzv22 : v22 = X0.1 5 0 := by rw [ev22, (hGy12 5 0 rfl).1, eYy6, upI_nc (by decide), eYy5, upI_nc (by decide), eYy4, upI_nc (by decide), eYy3, upI_nc (by decide), eYy1, upI_nc (by decide)]
            refine x_iload_n (i := 2) C dX12_text_111 rfl rfl ?_
            refine x_iconst C dX12_text_112 ?_
            refine x_icmp_ne (tgt := 120) C dX12_text_113 (by decide) ⟨by omega, by omega⟩ ⟨by omega, by omega⟩ (fun h23 => ?_) (fun h23 => ?_)
            · refine x_iconst C dX12_text_120 ?_
              refine x_iadd C dX12_text_121 ?_
              refine x_iast C (nlt rfl) rfl rfl (nle rfl) (by omega) (by omega) dX12_text_122 ?_
              refine x_gX (fun Yy24 eYy24 => ?_)
              have hHy24 : HG vM Yy24 := by
                rw [eYy24]
                exact hg_wF hHy12 (p := (0, 2)) rfl ⟨by omega, by omega⟩
              have hFy24 : FR mmWB X0 Yy24 := by
                rw [eYy24]
                exact FR.upI hFy12 (rfl)
              replace eYy24 : Yy24 = upI Yy12 5 0 (v22 + 0) := eYy24
              have hGy24 : FR [(5, some 0)] Yy12 Yy24 := by
                rw [eYy24]
                exact FR.upI FR.rf rfl
              refine x_iload_n (i := 1) C dX12_text_123 rfl rfl ?_
              refine x_lookup (a := 0) (off := 28) (tgt := 152) C dX12_text_124 (by decide) ⟨by omega, by omega⟩ (by decide) (by decide) ?_
              refine x_aload_n (i := 0) C dX12_text_152 rfl rfl ?_
              refine x_aload_n (i := 0) C dX12_text_153 rfl rfl ?_
              refine x_getRs (r := 6) C fkM_X12_26 (nlt rfl) rfl (HG.rR hHy24 (k := 0) (i := 6) rfl rfl) dX12_text_154 ?_
              refine x_bipush C dX12_text_157 (by decide) ?_
              refine x_iload_n (i := 3) C dX12_text_159 rfl rfl ?_
              refine x_callV (As := [.ref 6, .int (iI (51)), .int (iI (1))]) C (by exact (r_store_boards (m := 1) (by decide) (ft0.cg (fun i hi => by show Yy24.1 9 i = Yy12.1 9 i; rw [eYy24, upI_nc (by decide)])) hHy24 FR.rf)) ckX12_274 im_X12_store se_X12_store (nlt rfl) rfl rfl rfl rfl (nle rfl) (by exact ⟨nle rfl, nle rfl⟩) dX12_text_160 ?_
              rintro _ Yy25 ⟨rfl, hHy25, hGy25, sa, sb⟩
              have hFy25 : FR mmWB X0 Yy25 := FR.tr hFy24 hGy25 (by decide)
              refine Wx_st (st' := []) rfl ?_
              refine x_goto (tgt := 192) C dX12_text_163 (by decide) ?_
              refine x_iload_n (i := 3) C dX12_text_192 rfl rfl ?_
              exact x_iret C hQ dX12_text_193 (⟨_, rfl, hHy25, by rw [(hGy25 2 0 rfl).1, eYy24, upI_nc (by decide), (hGy12 2 0 rfl).1, eYy6, upI_nc (by decide), eYy5, upI_nc (by decide), eYy4, upI_at], .inr ⟨rm0, ⟨by rw [(hGy25 3 0 rfl).1, eYy24, upI_nc (by decide)]; exact ft.1, by rw [(hGy25 4 0 rfl).1, eYy24, upI_nc (by decide)]; exact ft.2⟩, .inr ⟨rd1.1, 1, rfl, .inr ⟨by omega, (show ((1 : Nat) : Int) < X0.1 5 0 by omega), (show Yy25.1 5 0 = X0.1 5 0 by rw [(hGy25 5 0 rfl).1, eYy24, upI_at]; omega)⟩, .inl ⟨rfl, by decide, hFy25, fun p hp => by rw [sb p hp, eYy24, upI_nc (by decide), (hGy12 6 p rfl).1, eYy6, upI_nc (by decide), eYy5, upI_nc (by decide), eYy4, upI_nc (by decide), eYy3, upI_nc (by decide), eYy1, upI_nc (by decide)], (BRW.cg rd1.2 (fun i hi => by show Yy25.1 6 (51 * 1 + i) = Yy12.1 9 i; rw [sa i hi, eYy24, upI_nc (by decide)]))⟩⟩⟩⟩)
            · refine x_iconst C dX12_text_116 ?_
              refine x_goto (tgt := 121) C dX12_text_117 (by decide) ?_
              refine x_iadd C dX12_text_121 ?_
              refine x_iast C (nlt rfl) rfl rfl (nle rfl) (by omega) (by omega) dX12_text_122 ?_
              refine x_gX (fun Yy26 eYy26 => ?_)
              have hHy26 : HG vM Yy26 := by
                rw [eYy26]
                exact hg_wF hHy12 (p := (0, 2)) rfl ⟨by omega, by omega⟩
              have hFy26 : FR mmWB X0 Yy26 := by
                rw [eYy26]
                exact FR.upI hFy12 (rfl)
              replace eYy26 : Yy26 = upI Yy12 5 0 (v22 + 1) := eYy26
              have hGy26 : FR [(5, some 0)] Yy12 Yy26 := by
                rw [eYy26]
                exact FR.upI FR.rf rfl
              refine x_iload_n (i := 1) C dX12_text_123 rfl rfl ?_
              refine x_lookup (a := 0) (off := 28) (tgt := 152) C dX12_text_124 (by decide) ⟨by omega, by omega⟩ (by decide) (by decide) ?_
              refine x_aload_n (i := 0) C dX12_text_152 rfl rfl ?_
              refine x_aload_n (i := 0) C dX12_text_153 rfl rfl ?_
              refine x_getRs (r := 6) C fkM_X12_26 (nlt rfl) rfl (HG.rR hHy26 (k := 0) (i := 6) rfl rfl) dX12_text_154 ?_
              refine x_bipush C dX12_text_157 (by decide) ?_
              refine x_iload_n (i := 3) C dX12_text_159 rfl rfl ?_
              refine x_callV (As := [.ref 6, .int (iI (51)), .int (iI (1))]) C (by exact (r_store_boards (m := 1) (by decide) (ft0.cg (fun i hi => by show Yy26.1 9 i = Yy12.1 9 i; rw [eYy26, upI_nc (by decide)])) hHy26 FR.rf)) ckX12_274 im_X12_store se_X12_store (nlt rfl) rfl rfl rfl rfl (nle rfl) (by exact ⟨nle rfl, nle rfl⟩) dX12_text_160 ?_
              rintro _ Yy27 ⟨rfl, hHy27, hGy27, sa, sb⟩
              have hFy27 : FR mmWB X0 Yy27 := FR.tr hFy26 hGy27 (by decide)
              refine Wx_st (st' := []) rfl ?_
              refine x_goto (tgt := 192) C dX12_text_163 (by decide) ?_
              refine x_iload_n (i := 3) C dX12_text_192 rfl rfl ?_
              exact x_iret C hQ dX12_text_193 (⟨_, rfl, hHy27, by rw [(hGy27 2 0 rfl).1, eYy26, upI_nc (by decide), (hGy12 2 0 rfl).1, eYy6, upI_nc (by decide), eYy5, upI_nc (by decide), eYy4, upI_at], .inr ⟨rm0, ⟨by rw [(hGy27 3 0 rfl).1, eYy26, upI_nc (by decide)]; exact ft.1, by rw [(hGy27 4 0 rfl).1, eYy26, upI_nc (by decide)]; exact ft.2⟩, .inr ⟨rd1.1, 1, rfl, .inr ⟨by omega, (show ((1 : Nat) : Int) < X0.1 5 0 by omega), (show Yy27.1 5 0 = X0.1 5 0 by rw [(hGy27 5 0 rfl).1, eYy26, upI_at]; omega)⟩, .inl ⟨rfl, by decide, hFy27, fun p hp => by rw [sb p hp, eYy26, upI_nc (by decide), (hGy12 6 p rfl).1, eYy6, upI_nc (by decide), eYy5, upI_nc (by decide), eYy4, upI_nc (by decide), eYy3, upI_nc (by decide), eYy1, upI_nc (by decide)], (BRW.cg rd1.2 (fun i hi => by show Yy27.1 6 (51 * 1 + i) = Yy12.1 9 i; rw [sa i hi, eYy26, upI_nc (by decide)]))⟩⟩⟩⟩)
        · have at1 : at_ = -1 := by omega
          refine x_aload_n (i := 0) C dX12_text_93 rfl rfl ?_
          refine x_getRs (r := 5) C fkM_X12_23 (nlt rfl) rfl (HG.rR hHy12 (k := 0) (i := 5) rfl rfl) dX12_text_94 ?_
          refine x_iload_n (i := 1) C dX12_text_97 rfl rfl ?_
          refine x_iald C (nlt rfl) rfl rfl (nle rfl) (by omega) (by omega) dX12_text_98 ?_
          refine x_gen (fun v28 ev28 => ?_)
          replace ev28 : v28 = Yy12.1 5 0 := ev28
          have qv28 : (0 : Int) ≤ v28 ∧ v28 ≤ (2 : Int) := by
            rw [ev28]
            exact hHy12.rF (k := 5) (i := 0) (p := (0, 2)) rfl rfl
          have kv28 : v28 = X0.1 5 0 := by rw [ev28, (hGy12 5 0 rfl).1, eYy6, upI_nc (by decide), eYy5, upI_nc (by decide), eYy4, upI_nc (by decide), eYy3, upI_nc (by decide), eYy1, upI_nc (by decide)]
          have mzv28 : v28 = X0.1 5 0 := by rw [ev28, (hGy12 5 0 rfl).1, eYy6, upI_nc (by decide), eYy5, upI_nc (by decide), eYy4, upI_nc (by decide), eYy3, upI_nc (by decide), eYy1, upI_nc (by decide)]
          refine x_goto (tgt := 103) C dX12_text_99 (by decide) ?_
          refine x_istore_n (i := 3) (lv' := [(3, .int (iI (v28))), (0, .ref 0), (1, .int (iI (0))), (2, .int (iI (at_)))]) C dX12_text_103 rfl (nlt rfl) rfl ?_
          rcases (show v28 = 0 ∨ v28 = 1 by omega) with k3 | k3
          · refine Wx_lv (lv' := [(3, .int (iI (0))), (0, .ref 0), (1, .int (iI (0))), (2, .int (iI (at_)))]) (by simp only [k3]) ?_
            have ft0 := ft0 0 (by decide)
            refine x_aload_n (i := 0) C dX12_text_104 rfl rfl ?_
            refine x_getRs (r := 5) C fkM_X12_23 (nlt rfl) rfl (HG.rR hHy12 (k := 0) (i := 5) rfl rfl) dX12_text_105 ?_
            refine x_iload_n (i := 1) C dX12_text_108 rfl rfl ?_
            refine x_dup2_11 C dX12_text_109 rfl rfl ?_
            refine x_iald C (nlt rfl) rfl rfl (nle rfl) (by omega) (by omega) dX12_text_110 ?_
            refine x_gen (fun v29 ev29 => ?_)
            replace ev29 : v29 = Yy12.1 5 0 := ev29
            have qv29 : (0 : Int) ≤ v29 ∧ v29 ≤ (2 : Int) := by
              rw [ev29]
              exact hHy12.rF (k := 5) (i := 0) (p := (0, 2)) rfl rfl
            have kv29 : v29 = X0.1 5 0 := by rw [ev29, (hGy12 5 0 rfl).1, eYy6, upI_nc (by decide), eYy5, upI_nc (by decide), eYy4, upI_nc (by decide), eYy3, upI_nc (by decide), eYy1, upI_nc (by decide)]
            have mzv29 : v29 = X0.1 5 0 := by rw [ev29, (hGy12 5 0 rfl).1, eYy6, upI_nc (by decide), eYy5, upI_nc (by decide), eYy4, upI_nc (by decide), eYy3, upI_nc (by decide), eYy1, upI_nc (by decide)]
            refine x_iload_n (i := 2) C dX12_text_111 rfl rfl ?_
            refine x_iconst C dX12_text_112 ?_
            refine x_icmp_ne (tgt := 120) C dX12_text_113 (by decide) ⟨by omega, by omega⟩ ⟨by omega, by omega⟩ (fun h30 => ?_) (fun h30 => ?_)
            · refine x_iconst C dX12_text_120 ?_
              refine x_iadd C dX12_text_121 ?_
              refine x_iast C (nlt rfl) rfl rfl (nle rfl) (by omega) (by omega) dX12_text_122 ?_
              refine x_gX (fun Yy31 eYy31 => ?_)
              have hHy31 : HG vM Yy31 := by
                rw [eYy31]
                exact hg_wF hHy12 (p := (0, 2)) rfl ⟨by omega, by omega⟩
              have hFy31 : FR mmWB X0 Yy31 := by
                rw [eYy31]
                exact FR.upI hFy12 (rfl)
              replace eYy31 : Yy31 = upI Yy12 5 0 (v29 + 0) := eYy31
              have hGy31 : FR [(5, some 0)] Yy12 Yy31 := by
                rw [eYy31]
                exact FR.upI FR.rf rfl
              refine x_iload_n (i := 1) C dX12_text_123 rfl rfl ?_
              refine x_lookup (a := 0) (off := 28) (tgt := 152) C dX12_text_124 (by decide) ⟨by omega, by omega⟩ (by decide) (by decide) ?_
              refine x_aload_n (i := 0) C dX12_text_152 rfl rfl ?_
              refine x_aload_n (i := 0) C dX12_text_153 rfl rfl ?_
              refine x_getRs (r := 6) C fkM_X12_26 (nlt rfl) rfl (HG.rR hHy31 (k := 0) (i := 6) rfl rfl) dX12_text_154 ?_
              refine x_bipush C dX12_text_157 (by decide) ?_
              refine x_iload_n (i := 3) C dX12_text_159 rfl rfl ?_
              refine x_callV (As := [.ref 6, .int (iI (51)), .int (iI (0))]) C (by exact (r_store_boards (m := 0) (by decide) (ft0.cg (fun i hi => by show Yy31.1 9 i = Yy12.1 9 i; rw [eYy31, upI_nc (by decide)])) hHy31 FR.rf)) ckX12_274 im_X12_store se_X12_store (nlt rfl) rfl rfl rfl rfl (nle rfl) (by exact ⟨nle rfl, nle rfl⟩) dX12_text_160 ?_
              rintro _ Yy32 ⟨rfl, hHy32, hGy32, sa, sb⟩
              have hFy32 : FR mmWB X0 Yy32 := FR.tr hFy31 hGy32 (by decide)
              refine Wx_st (st' := []) rfl ?_
              refine x_goto (tgt := 192) C dX12_text_163 (by decide) ?_
              refine x_iload_n (i := 3) C dX12_text_192 rfl rfl ?_
              exact x_iret C hQ dX12_text_193 (⟨_, rfl, hHy32, by rw [(hGy32 2 0 rfl).1, eYy31, upI_nc (by decide), (hGy12 2 0 rfl).1, eYy6, upI_nc (by decide), eYy5, upI_nc (by decide), eYy4, upI_at], .inr ⟨rm0, ⟨by rw [(hGy32 3 0 rfl).1, eYy31, upI_nc (by decide)]; exact ft.1, by rw [(hGy32 4 0 rfl).1, eYy31, upI_nc (by decide)]; exact ft.2⟩, .inr ⟨rd1.1, 0, rfl, .inl ⟨at1, (show X0.1 5 0 = ((0 : Nat) : Int) by omega), (show Yy32.1 5 0 = ((0 : Nat) : Int) + 1 by rw [(hGy32 5 0 rfl).1, eYy31, upI_at]; omega)⟩, .inl ⟨rfl, by decide, hFy32, fun p hp => by rw [sb p hp, eYy31, upI_nc (by decide), (hGy12 6 p rfl).1, eYy6, upI_nc (by decide), eYy5, upI_nc (by decide), eYy4, upI_nc (by decide), eYy3, upI_nc (by decide), eYy1, upI_nc (by decide)], (BRW.cg rd1.2 (fun i hi => by show Yy32.1 6 (51 * 0 + i) = Yy12.1 9 i; rw [sa i hi, eYy31, upI_nc (by decide)]))⟩⟩⟩⟩)
            · refine x_iconst C dX12_text_116 ?_
              refine x_goto (tgt := 121) C dX12_text_117 (by decide) ?_
              refine x_iadd C dX12_text_121 ?_
              refine x_iast C (nlt rfl) rfl rfl (nle rfl) (by omega) (by omega) dX12_text_122 ?_
              refine x_gX (fun Yy33 eYy33 => ?_)
              have hHy33 : HG vM Yy33 := by
                rw [eYy33]
                exact hg_wF hHy12 (p := (0, 2)) rfl ⟨by omega, by omega⟩
              have hFy33 : FR mmWB X0 Yy33 := by
                rw [eYy33]
                exact FR.upI hFy12 (rfl)
              replace eYy33 : Yy33 = upI Yy12 5 0 (v29 + 1) := eYy33
              have hGy33 : FR [(5, some 0)] Yy12 Yy33 := by
                rw [eYy33]
                exact FR.upI FR.rf rfl
              refine x_iload_n (i := 1) C dX12_text_123 rfl rfl ?_
              refine x_lookup (a := 0) (off := 28) (tgt := 152) C dX12_text_124 (by decide) ⟨by omega, by omega⟩ (by decide) (by decide) ?_
              refine x_aload_n (i := 0) C dX12_text_152 rfl rfl ?_
              refine x_aload_n (i := 0) C dX12_text_153 rfl rfl ?_
              refine x_getRs (r := 6) C fkM_X12_26 (nlt rfl) rfl (HG.rR hHy33 (k := 0) (i := 6) rfl rfl) dX12_text_154 ?_
              refine x_bipush C dX12_text_157 (by decide) ?_
              refine x_iload_n (i := 3) C dX12_text_159 rfl rfl ?_
              refine x_callV (As := [.ref 6, .int (iI (51)), .int (iI (0))]) C (by exact (r_store_boards (m := 0) (by decide) (ft0.cg (fun i hi => by show Yy33.1 9 i = Yy12.1 9 i; rw [eYy33, upI_nc (by decide)])) hHy33 FR.rf)) ckX12_274 im_X12_store se_X12_store (nlt rfl) rfl rfl rfl rfl (nle rfl) (by exact ⟨nle rfl, nle rfl⟩) dX12_text_160 ?_
              rintro _ Yy34 ⟨rfl, hHy34, hGy34, sa, sb⟩
              have hFy34 : FR mmWB X0 Yy34 := FR.tr hFy33 hGy34 (by decide)
              refine Wx_st (st' := []) rfl ?_
              refine x_goto (tgt := 192) C dX12_text_163 (by decide) ?_
              refine x_iload_n (i := 3) C dX12_text_192 rfl rfl ?_
              exact x_iret C hQ dX12_text_193 (⟨_, rfl, hHy34, by rw [(hGy34 2 0 rfl).1, eYy33, upI_nc (by decide), (hGy12 2 0 rfl).1, eYy6, upI_nc (by decide), eYy5, upI_nc (by decide), eYy4, upI_at], .inr ⟨rm0, ⟨by rw [(hGy34 3 0 rfl).1, eYy33, upI_nc (by decide)]; exact ft.1, by rw [(hGy34 4 0 rfl).1, eYy33, upI_nc (by decide)]; exact ft.2⟩, .inr ⟨rd1.1, 0, rfl, .inl ⟨at1, (show X0.1 5 0 = ((0 : Nat) : Int) by omega), (show Yy34.1 5 0 = ((0 : Nat) : Int) + 1 by rw [(hGy34 5 0 rfl).1, eYy33, upI_at]; omega)⟩, .inl ⟨rfl, by decide, hFy34, fun p hp => by rw [sb p hp, eYy33, upI_nc (by decide), (hGy12 6 p rfl).1, eYy6, upI_nc (by decide), eYy5, upI_nc (by decide), eYy4, upI_nc (by decide), eYy3, upI_nc (by decide), eYy1, upI_nc (by decide)], (BRW.cg rd1.2 (fun i hi => by show Yy34.1 6 (51 * 0 + i) = Yy12.1 9 i; rw [sa i hi, eYy33, upI_nc (by decide)]))⟩⟩⟩⟩)
          · refine Wx_lv (lv' := [(3, .int (iI (1))), (0, .ref 0), (1, .int (iI (0))), (2, .int (iI (at_)))]) (by simp only [k3]) ?_
            have ft0 := ft0 1 (by decide)
            refine x_aload_n (i := 0) C dX12_text_104 rfl rfl ?_
            refine x_getRs (r := 5) C fkM_X12_23 (nlt rfl) rfl (HG.rR hHy12 (k := 0) (i := 5) rfl rfl) dX12_text_105 ?_
            refine x_iload_n (i := 1) C dX12_text_108 rfl rfl ?_
            refine x_dup2_11 C dX12_text_109 rfl rfl ?_
            refine x_iald C (nlt rfl) rfl rfl (nle rfl) (by omega) (by omega) dX12_text_110 ?_
            refine x_gen (fun v35 ev35 => ?_)
            replace ev35 : v35 = Yy12.1 5 0 := ev35
            have qv35 : (0 : Int) ≤ v35 ∧ v35 ≤ (2 : Int) := by
              rw [ev35]
              exact hHy12.rF (k := 5) (i := 0) (p := (0, 2)) rfl rfl
            have kv35 : v35 = X0.1 5 0 := by rw [ev35, (hGy12 5 0 rfl).1, eYy6, upI_nc (by decide), eYy5, upI_nc (by decide), eYy4, upI_nc (by decide), eYy3, upI_nc (by decide), eYy1, upI_nc (by decide)]
            have mzv35 : v35 = X0.1 5 0 := by rw [ev35, (hGy12 5 0 rfl).1, eYy6, upI_nc (by decide), eYy5, upI_nc (by decide), eYy4, upI_nc (by decide), eYy3, upI_nc (by decide), eYy1, upI_nc (by decide)]
            refine x_iload_n (i := 2) C dX12_text_111 rfl rfl ?_
            refine x_iconst C dX12_text_112 ?_
            refine x_icmp_ne (tgt := 120) C dX12_text_113 (by decide) ⟨by omega, by omega⟩ ⟨by omega, by omega⟩ (fun h36 => ?_) (fun h36 => ?_)
            · refine x_iconst C dX12_text_120 ?_
              refine x_iadd C dX12_text_121 ?_
              refine x_iast C (nlt rfl) rfl rfl (nle rfl) (by omega) (by omega) dX12_text_122 ?_
              refine x_gX (fun Yy37 eYy37 => ?_)
              have hHy37 : HG vM Yy37 := by
                rw [eYy37]
                exact hg_wF hHy12 (p := (0, 2)) rfl ⟨by omega, by omega⟩
              have hFy37 : FR mmWB X0 Yy37 := by
                rw [eYy37]
                exact FR.upI hFy12 (rfl)
              replace eYy37 : Yy37 = upI Yy12 5 0 (v35 + 0) := eYy37
              have hGy37 : FR [(5, some 0)] Yy12 Yy37 := by
                rw [eYy37]
                exact FR.upI FR.rf rfl
              refine x_iload_n (i := 1) C dX12_text_123 rfl rfl ?_
              refine x_lookup (a := 0) (off := 28) (tgt := 152) C dX12_text_124 (by decide) ⟨by omega, by omega⟩ (by decide) (by decide) ?_
              refine x_aload_n (i := 0) C dX12_text_152 rfl rfl ?_
              refine x_aload_n (i := 0) C dX12_text_153 rfl rfl ?_
              refine x_getRs (r := 6) C fkM_X12_26 (nlt rfl) rfl (HG.rR hHy37 (k := 0) (i := 6) rfl rfl) dX12_text_154 ?_
              refine x_bipush C dX12_text_157 (by decide) ?_
              refine x_iload_n (i := 3) C dX12_text_159 rfl rfl ?_
              refine x_callV (As := [.ref 6, .int (iI (51)), .int (iI (1))]) C (by exact (r_store_boards (m := 1) (by decide) (ft0.cg (fun i hi => by show Yy37.1 9 i = Yy12.1 9 i; rw [eYy37, upI_nc (by decide)])) hHy37 FR.rf)) ckX12_274 im_X12_store se_X12_store (nlt rfl) rfl rfl rfl rfl (nle rfl) (by exact ⟨nle rfl, nle rfl⟩) dX12_text_160 ?_
              rintro _ Yy38 ⟨rfl, hHy38, hGy38, sa, sb⟩
              have hFy38 : FR mmWB X0 Yy38 := FR.tr hFy37 hGy38 (by decide)
              refine Wx_st (st' := []) rfl ?_
              refine x_goto (tgt := 192) C dX12_text_163 (by decide) ?_
              refine x_iload_n (i := 3) C dX12_text_192 rfl rfl ?_
              exact x_iret C hQ dX12_text_193 (⟨_, rfl, hHy38, by rw [(hGy38 2 0 rfl).1, eYy37, upI_nc (by decide), (hGy12 2 0 rfl).1, eYy6, upI_nc (by decide), eYy5, upI_nc (by decide), eYy4, upI_at], .inr ⟨rm0, ⟨by rw [(hGy38 3 0 rfl).1, eYy37, upI_nc (by decide)]; exact ft.1, by rw [(hGy38 4 0 rfl).1, eYy37, upI_nc (by decide)]; exact ft.2⟩, .inr ⟨rd1.1, 1, rfl, .inl ⟨at1, (show X0.1 5 0 = ((1 : Nat) : Int) by omega), (show Yy38.1 5 0 = ((1 : Nat) : Int) + 1 by rw [(hGy38 5 0 rfl).1, eYy37, upI_at]; omega)⟩, .inl ⟨rfl, by decide, hFy38, fun p hp => by rw [sb p hp, eYy37, upI_nc (by decide), (hGy12 6 p rfl).1, eYy6, upI_nc (by decide), eYy5, upI_nc (by decide), eYy4, upI_nc (by decide), eYy3, upI_nc (by decide), eYy1, upI_nc (by decide)], (BRW.cg rd1.2 (fun i hi => by show Yy38.1 6 (51 * 1 + i) = Yy12.1 9 i; rw [sa i hi, eYy37, upI_nc (by decide)]))⟩⟩⟩⟩)
            · refine x_iconst C dX12_text_116 ?_
              refine x_goto (tgt := 121) C dX12_text_117 (by decide) ?_
              refine x_iadd C dX12_text_121 ?_
              refine x_iast C (nlt rfl) rfl rfl (nle rfl) (by omega) (by omega) dX12_text_122 ?_
              refine x_gX (fun Yy39 eYy39 => ?_)
              have hHy39 : HG vM Yy39 := by
                rw [eYy39]
                exact hg_wF hHy12 (p := (0, 2)) rfl ⟨by omega, by omega⟩
              have hFy39 : FR mmWB X0 Yy39 := by
                rw [eYy39]
                exact FR.upI hFy12 (rfl)
              replace eYy39 : Yy39 = upI Yy12 5 0 (v35 + 1) := eYy39
              have hGy39 : FR [(5, some 0)] Yy12 Yy39 := by
                rw [eYy39]
                exact FR.upI FR.rf rfl
              refine x_iload_n (i := 1) C dX12_text_123 rfl rfl ?_
              refine x_lookup (a := 0) (off := 28) (tgt := 152) C dX12_text_124 (by decide) ⟨by omega, by omega⟩ (by decide) (by decide) ?_
              refine x_aload_n (i := 0) C dX12_text_152 rfl rfl ?_
              refine x_aload_n (i := 0) C dX12_text_153 rfl rfl ?_
              refine x_getRs (r := 6) C fkM_X12_26 (nlt rfl) rfl (HG.rR hHy39 (k := 0) (i := 6) rfl rfl) dX12_text_154 ?_
              refine x_bipush C dX12_text_157 (by decide) ?_
              refine x_iload_n (i := 3) C dX12_text_159 rfl rfl ?_
              refine x_callV (As := [.ref 6, .int (iI (51)), .int (iI (1))]) C (by exact (r_store_boards (m := 1) (by decide) (ft0.cg (fun i hi => by show Yy39.1 9 i = Yy12.1 9 i; rw [eYy39, upI_nc (by decide)])) hHy39 FR.rf)) ckX12_274 im_X12_store se_X12_store (nlt rfl) rfl rfl rfl rfl (nle rfl) (by exact ⟨nle rfl, nle rfl⟩) dX12_text_160 ?_
              rintro _ Yy40 ⟨rfl, hHy40, hGy40, sa, sb⟩
              have hFy40 : FR mmWB X0 Yy40 := FR.tr hFy39 hGy40 (by decide)
              refine Wx_st (st' := []) rfl ?_
              refine x_goto (tgt := 192) C dX12_text_163 (by decide) ?_
              refine x_iload_n (i := 3) C dX12_text_192 rfl rfl ?_
              exact x_iret C hQ dX12_text_193 (⟨_, rfl, hHy40, by rw [(hGy40 2 0 rfl).1, eYy39, upI_nc (by decide), (hGy12 2 0 rfl).1, eYy6, upI_nc (by decide), eYy5, upI_nc (by decide), eYy4, upI_at], .inr ⟨rm0, ⟨by rw [(hGy40 3 0 rfl).1, eYy39, upI_nc (by decide)]; exact ft.1, by rw [(hGy40 4 0 rfl).1, eYy39, upI_nc (by decide)]; exact ft.2⟩, .inr ⟨rd1.1, 1, rfl, .inl ⟨at1, (show X0.1 5 0 = ((1 : Nat) : Int) by omega), (show Yy40.1 5 0 = ((1 : Nat) : Int) + 1 by rw [(hGy40 5 0 rfl).1, eYy39, upI_at]; omega)⟩, .inl ⟨rfl, by decide, hFy40, fun p hp => by rw [sb p hp, eYy39, upI_nc (by decide), (hGy12 6 p rfl).1, eYy6, upI_nc (by decide), eYy5, upI_nc (by decide), eYy4, upI_nc (by decide), eYy3, upI_nc (by decide), eYy1, upI_nc (by decide)], (BRW.cg rd1.2 (fun i hi => by show Yy40.1 6 (51 * 1 + i) = Yy12.1 9 i; rw [sa i hi, eYy39, upI_nc (by decide)]))⟩⟩⟩⟩)
      · refine x_iconst C dX12_text_86 ?_
        exact x_iret C hQ dX12_text_87 (⟨_, rfl, hHy12, by rw [(hGy12 2 0 rfl).1, eYy6, upI_nc (by decide), eYy5, upI_nc (by decide), eYy4, upI_at], .inr ⟨rm0, ft, .inl ⟨rfl, rd.elim (fun g => by exfalso; have := g.1; omega) (fun g => g.2), hFy120⟩⟩⟩)
    · refine x_bipush C dX12_text_75 (by decide) ?_
      exact x_iret C hQ dX12_text_77 (⟨_, rfl, hHy6, by rw [eYy6, upI_nc (by decide), eYy5, upI_nc (by decide), eYy4, upI_at], .inl ⟨rfl, fun g => by have g2 := g.2.2; rw [show ((0 : Int)).toNat = 0 from rfl, if_neg (by decide)] at g2; omega, hFy60, ⟨by rw [eYy6, upI_nc (by decide), eYy5, upI_at], by rw [eYy6, upI_at]⟩⟩⟩)
  · refine x_aload_n (i := 0) C dX12_text_50 rfl rfl ?_
    refine x_getRs (r := 5) C fkM_X12_23 (nlt rfl) rfl (HG.rR hHy6 (k := 0) (i := 5) rfl rfl) dX12_text_51 ?_
    refine x_iload_n (i := 1) C dX12_text_54 rfl rfl ?_
    refine x_iald C (nlt rfl) rfl rfl (nle rfl) (by omega) (by omega) dX12_text_55 ?_
    refine x_gen (fun v41 ev41 => ?_)
    replace ev41 : v41 = Yy6.1 5 0 := ev41
    have qv41 : (0 : Int) ≤ v41 ∧ v41 ≤ (2 : Int) := by
      rw [ev41]
      exact hHy6.rF (k := 5) (i := 0) (p := (0, 2)) rfl rfl
    have kv41 : v41 = X0.1 5 0 := by rw [ev41, eYy6, upI_nc (by decide), eYy5, upI_nc (by decide), eYy4, upI_nc (by decide), eYy3, upI_nc (by decide), eYy1, upI_nc (by decide)]
    have mzv41 : v41 = X0.1 5 0 := by rw [ev41, eYy6, upI_nc (by decide), eYy5, upI_nc (by decide), eYy4, upI_nc (by decide), eYy3, upI_nc (by decide), eYy1, upI_nc (by decide)]
    refine x_iload_n (i := 1) C dX12_text_56 rfl rfl ?_
    refine x_callS (As := [.int (iI (0))]) C (by exact r_mostOf0) ckX12_265 sm_X12_mostOf rfl rfl (nle rfl) (by exact ⟨nle rfl, nle rfl⟩) dX12_text_57 ?_
    rintro _ Xv42 ⟨hxv42, v42, rfl, ev42⟩
    rw [hxv42]
    refine Wx_st (st' := [.int (iI (v42)), .int (iI (v41))]) rfl ?_
    refine x_icmp_ne (tgt := 78) C dX12_text_60 (by decide) ⟨by omega, by omega⟩ ⟨by omega, by omega⟩ (fun h43 => ?_) (fun h43 => ?_)
    · have rm0 : roomM X0 0 at_ := ⟨by decide, by decide, by rw [show ((0 : Int)).toNat = 0 from rfl]; rw [if_neg (by decide)]; omega⟩
      refine x_aload_n (i := 0) C dX12_text_78 rfl rfl ?_
      refine x_iload_n (i := 1) C dX12_text_79 rfl rfl ?_
      refine x_callV (As := [.int (iI (0))]) C (by exact (r_readText0 ⟨by rw [eYy6, upI_nc (by decide), eYy5, upI_nc (by decide), eYy4, upI_nc (by decide), eYy3, upI_at]; exact z0N, n6, fun i hi => by rw [eYy6, upI_nc (by decide), eYy5, upI_nc (by decide), eYy4, upI_nc (by decide), eYy3, upI_nc (by decide), eYy1, upI_nc (by decide)]; exact hb i hi, hb2⟩ hHy6 FR.rf)) ckX12_271 im_X12_readText se_X12_readText (nlt rfl) rfl rfl rfl rfl (nle rfl) (by exact ⟨nle rfl, nle rfl⟩) dX12_text_80 ?_
      rintro _ Yy44 ⟨v45, rfl, hHy44, hGy44, ft, rd⟩
      have hFy44 : FR mmWB X0 Yy44 := FR.tr hFy6 hGy44 (by decide)
      have hFy440 : FR mmT0 X0 Yy44 := FR.tr hFy60 hGy44 (by decide)
      refine Wx_st (st' := [.int (iI (v45))]) rfl ?_
      refine x_if_ne (tgt := 88) C dX12_text_83 (by decide) ⟨by omega, by omega⟩ (fun h46 => ?_) (fun h46 => ?_)
      · have rd1 := rd.elim (fun g => g.2) (fun g => by exfalso; have := g.1; omega)
        have ft0 := fits_B (a := fun i => Yy44.1 9 i) (txB_wf rd1.1) (rnB_z (b := b) (N := N)) rd1.2
        refine x_iload_n (i := 2) C dX12_text_88 rfl rfl ?_
        refine x_iconst C dX12_text_89 ?_
        refine x_icmp_ne (tgt := 102) C dX12_text_90 (by decide) ⟨by omega, by omega⟩ ⟨by omega, by omega⟩ (fun h47 => ?_) (fun h47 => ?_)
        · refine x_iload_n (i := 2) C dX12_text_102 rfl rfl ?_
          refine x_istore_n (i := 3) (lv' := [(3, .int (iI (at_))), (0, .ref 0), (1, .int (iI (0))), (2, .int (iI (at_)))]) C dX12_text_103 rfl (nlt rfl) rfl ?_
          rcases (show at_ = 0 ∨ at_ = 1 by omega) with k3 | k3
          · refine Wx_lv (lv' := [(3, .int (iI (0))), (0, .ref 0), (1, .int (iI (0))), (2, .int (iI (at_)))]) (by simp only [k3]) ?_
            have ft0 := ft0 0 (by decide)
            refine x_aload_n (i := 0) C dX12_text_104 rfl rfl ?_
            refine x_getRs (r := 5) C fkM_X12_23 (nlt rfl) rfl (HG.rR hHy44 (k := 0) (i := 5) rfl rfl) dX12_text_105 ?_
            refine x_iload_n (i := 1) C dX12_text_108 rfl rfl ?_
            refine x_dup2_11 C dX12_text_109 rfl rfl ?_
            refine x_iald C (nlt rfl) rfl rfl (nle rfl) (by omega) (by omega) dX12_text_110 ?_
            refine x_gen (fun v48 ev48 => ?_)
            replace ev48 : v48 = Yy44.1 5 0 := ev48
            have qv48 : (0 : Int) ≤ v48 ∧ v48 ≤ (2 : Int) := by
              rw [ev48]
              exact hHy44.rF (k := 5) (i := 0) (p := (0, 2)) rfl rfl
            have kv48 : v48 = X0.1 5 0 := by rw [ev48, (hGy44 5 0 rfl).1, eYy6, upI_nc (by decide), eYy5, upI_nc (by decide), eYy4, upI_nc (by decide), eYy3, upI_nc (by decide), eYy1, upI_nc (by decide)]
            have mzv48 : v48 = X0.1 5 0 := by rw [ev48, (hGy44 5 0 rfl).1, eYy6, upI_nc (by decide), eYy5, upI_nc (by decide), eYy4, upI_nc (by decide), eYy3, upI_nc (by decide), eYy1, upI_nc (by decide)]
            refine x_iload_n (i := 2) C dX12_text_111 rfl rfl ?_
            refine x_iconst C dX12_text_112 ?_
            refine x_icmp_ne (tgt := 120) C dX12_text_113 (by decide) ⟨by omega, by omega⟩ ⟨by omega, by omega⟩ (fun h49 => ?_) (fun h49 => ?_)
            · refine x_iconst C dX12_text_120 ?_
              refine x_iadd C dX12_text_121 ?_
              refine x_iast C (nlt rfl) rfl rfl (nle rfl) (by omega) (by omega) dX12_text_122 ?_
              refine x_gX (fun Yy50 eYy50 => ?_)
              have hHy50 : HG vM Yy50 := by
                rw [eYy50]
                exact hg_wF hHy44 (p := (0, 2)) rfl ⟨by omega, by omega⟩
              have hFy50 : FR mmWB X0 Yy50 := by
                rw [eYy50]
                exact FR.upI hFy44 (rfl)
              replace eYy50 : Yy50 = upI Yy44 5 0 (v48 + 0) := eYy50
              have hGy50 : FR [(5, some 0)] Yy44 Yy50 := by
                rw [eYy50]
                exact FR.upI FR.rf rfl
              refine x_iload_n (i := 1) C dX12_text_123 rfl rfl ?_
              refine x_lookup (a := 0) (off := 28) (tgt := 152) C dX12_text_124 (by decide) ⟨by omega, by omega⟩ (by decide) (by decide) ?_
              refine x_aload_n (i := 0) C dX12_text_152 rfl rfl ?_
              refine x_aload_n (i := 0) C dX12_text_153 rfl rfl ?_
              refine x_getRs (r := 6) C fkM_X12_26 (nlt rfl) rfl (HG.rR hHy50 (k := 0) (i := 6) rfl rfl) dX12_text_154 ?_
              refine x_bipush C dX12_text_157 (by decide) ?_
              refine x_iload_n (i := 3) C dX12_text_159 rfl rfl ?_
              refine x_callV (As := [.ref 6, .int (iI (51)), .int (iI (0))]) C (by exact (r_store_boards (m := 0) (by decide) (ft0.cg (fun i hi => by show Yy50.1 9 i = Yy44.1 9 i; rw [eYy50, upI_nc (by decide)])) hHy50 FR.rf)) ckX12_274 im_X12_store se_X12_store (nlt rfl) rfl rfl rfl rfl (nle rfl) (by exact ⟨nle rfl, nle rfl⟩) dX12_text_160 ?_
              rintro _ Yy51 ⟨rfl, hHy51, hGy51, sa, sb⟩
              have hFy51 : FR mmWB X0 Yy51 := FR.tr hFy50 hGy51 (by decide)
              refine Wx_st (st' := []) rfl ?_
              refine x_goto (tgt := 192) C dX12_text_163 (by decide) ?_
              refine x_iload_n (i := 3) C dX12_text_192 rfl rfl ?_
              exact x_iret C hQ dX12_text_193 (⟨_, rfl, hHy51, by rw [(hGy51 2 0 rfl).1, eYy50, upI_nc (by decide), (hGy44 2 0 rfl).1, eYy6, upI_nc (by decide), eYy5, upI_nc (by decide), eYy4, upI_at], .inr ⟨rm0, ⟨by rw [(hGy51 3 0 rfl).1, eYy50, upI_nc (by decide)]; exact ft.1, by rw [(hGy51 4 0 rfl).1, eYy50, upI_nc (by decide)]; exact ft.2⟩, .inr ⟨rd1.1, 0, rfl, .inr ⟨by omega, (show ((0 : Nat) : Int) < X0.1 5 0 by omega), (show Yy51.1 5 0 = X0.1 5 0 by rw [(hGy51 5 0 rfl).1, eYy50, upI_at]; omega)⟩, .inl ⟨rfl, by decide, hFy51, fun p hp => by rw [sb p hp, eYy50, upI_nc (by decide), (hGy44 6 p rfl).1, eYy6, upI_nc (by decide), eYy5, upI_nc (by decide), eYy4, upI_nc (by decide), eYy3, upI_nc (by decide), eYy1, upI_nc (by decide)], (BRW.cg rd1.2 (fun i hi => by show Yy51.1 6 (51 * 0 + i) = Yy44.1 9 i; rw [sa i hi, eYy50, upI_nc (by decide)]))⟩⟩⟩⟩)
            · refine x_iconst C dX12_text_116 ?_
              refine x_goto (tgt := 121) C dX12_text_117 (by decide) ?_
              refine x_iadd C dX12_text_121 ?_
              refine x_iast C (nlt rfl) rfl rfl (nle rfl) (by omega) (by omega) dX12_text_122 ?_
              refine x_gX (fun Yy52 eYy52 => ?_)
              have hHy52 : HG vM Yy52 := by
                rw [eYy52]
                exact hg_wF hHy44 (p := (0, 2)) rfl ⟨by omega, by omega⟩
              have hFy52 : FR mmWB X0 Yy52 := by
                rw [eYy52]
                exact FR.upI hFy44 (rfl)
              replace eYy52 : Yy52 = upI Yy44 5 0 (v48 + 1) := eYy52
              have hGy52 : FR [(5, some 0)] Yy44 Yy52 := by
                rw [eYy52]
                exact FR.upI FR.rf rfl
              refine x_iload_n (i := 1) C dX12_text_123 rfl rfl ?_
              refine x_lookup (a := 0) (off := 28) (tgt := 152) C dX12_text_124 (by decide) ⟨by omega, by omega⟩ (by decide) (by decide) ?_
              refine x_aload_n (i := 0) C dX12_text_152 rfl rfl ?_
              refine x_aload_n (i := 0) C dX12_text_153 rfl rfl ?_
              refine x_getRs (r := 6) C fkM_X12_26 (nlt rfl) rfl (HG.rR hHy52 (k := 0) (i := 6) rfl rfl) dX12_text_154 ?_
              refine x_bipush C dX12_text_157 (by decide) ?_
              refine x_iload_n (i := 3) C dX12_text_159 rfl rfl ?_
              refine x_callV (As := [.ref 6, .int (iI (51)), .int (iI (0))]) C (by exact (r_store_boards (m := 0) (by decide) (ft0.cg (fun i hi => by show Yy52.1 9 i = Yy44.1 9 i; rw [eYy52, upI_nc (by decide)])) hHy52 FR.rf)) ckX12_274 im_X12_store se_X12_store (nlt rfl) rfl rfl rfl rfl (nle rfl) (by exact ⟨nle rfl, nle rfl⟩) dX12_text_160 ?_
              rintro _ Yy53 ⟨rfl, hHy53, hGy53, sa, sb⟩
              have hFy53 : FR mmWB X0 Yy53 := FR.tr hFy52 hGy53 (by decide)
              refine Wx_st (st' := []) rfl ?_
              refine x_goto (tgt := 192) C dX12_text_163 (by decide) ?_
              refine x_iload_n (i := 3) C dX12_text_192 rfl rfl ?_
              exact x_iret C hQ dX12_text_193 (⟨_, rfl, hHy53, by rw [(hGy53 2 0 rfl).1, eYy52, upI_nc (by decide), (hGy44 2 0 rfl).1, eYy6, upI_nc (by decide), eYy5, upI_nc (by decide), eYy4, upI_at], .inr ⟨rm0, ⟨by rw [(hGy53 3 0 rfl).1, eYy52, upI_nc (by decide)]; exact ft.1, by rw [(hGy53 4 0 rfl).1, eYy52, upI_nc (by decide)]; exact ft.2⟩, .inr ⟨rd1.1, 0, rfl, .inr ⟨by omega, (show ((0 : Nat) : Int) < X0.1 5 0 by omega), (show Yy53.1 5 0 = X0.1 5 0 by rw [(hGy53 5 0 rfl).1, eYy52, upI_at]; omega)⟩, .inl ⟨rfl, by decide, hFy53, fun p hp => by rw [sb p hp, eYy52, upI_nc (by decide), (hGy44 6 p rfl).1, eYy6, upI_nc (by decide), eYy5, upI_nc (by decide), eYy4, upI_nc (by decide), eYy3, upI_nc (by decide), eYy1, upI_nc (by decide)], (BRW.cg rd1.2 (fun i hi => by show Yy53.1 6 (51 * 0 + i) = Yy44.1 9 i; rw [sa i hi, eYy52, upI_nc (by decide)]))⟩⟩⟩⟩)
          · refine Wx_lv (lv' := [(3, .int (iI (1))), (0, .ref 0), (1, .int (iI (0))), (2, .int (iI (at_)))]) (by simp only [k3]) ?_
            have ft0 := ft0 1 (by decide)
            refine x_aload_n (i := 0) C dX12_text_104 rfl rfl ?_
            refine x_getRs (r := 5) C fkM_X12_23 (nlt rfl) rfl (HG.rR hHy44 (k := 0) (i := 5) rfl rfl) dX12_text_105 ?_
            refine x_iload_n (i := 1) C dX12_text_108 rfl rfl ?_
            refine x_dup2_11 C dX12_text_109 rfl rfl ?_
            refine x_iald C (nlt rfl) rfl rfl (nle rfl) (by omega) (by omega) dX12_text_110 ?_
            refine x_gen (fun v54 ev54 => ?_)
            replace ev54 : v54 = Yy44.1 5 0 := ev54
            have qv54 : (0 : Int) ≤ v54 ∧ v54 ≤ (2 : Int) := by
              rw [ev54]
              exact hHy44.rF (k := 5) (i := 0) (p := (0, 2)) rfl rfl
            have kv54 : v54 = X0.1 5 0 := by rw [ev54, (hGy44 5 0 rfl).1, eYy6, upI_nc (by decide), eYy5, upI_nc (by decide), eYy4, upI_nc (by decide), eYy3, upI_nc (by decide), eYy1, upI_nc (by decide)]
            have mzv54 : v54 = X0.1 5 0 := by rw [ev54, (hGy44 5 0 rfl).1, eYy6, upI_nc (by decide), eYy5, upI_nc (by decide), eYy4, upI_nc (by decide), eYy3, upI_nc (by decide), eYy1, upI_nc (by decide)]
            refine x_iload_n (i := 2) C dX12_text_111 rfl rfl ?_
            refine x_iconst C dX12_text_112 ?_
            refine x_icmp_ne (tgt := 120) C dX12_text_113 (by decide) ⟨by omega, by omega⟩ ⟨by omega, by omega⟩ (fun h55 => ?_) (fun h55 => ?_)
            · refine x_iconst C dX12_text_120 ?_
              refine x_iadd C dX12_text_121 ?_
              refine x_iast C (nlt rfl) rfl rfl (nle rfl) (by omega) (by omega) dX12_text_122 ?_
              refine x_gX (fun Yy56 eYy56 => ?_)
              have hHy56 : HG vM Yy56 := by
                rw [eYy56]
                exact hg_wF hHy44 (p := (0, 2)) rfl ⟨by omega, by omega⟩
              have hFy56 : FR mmWB X0 Yy56 := by
                rw [eYy56]
                exact FR.upI hFy44 (rfl)
              replace eYy56 : Yy56 = upI Yy44 5 0 (v54 + 0) := eYy56
              have hGy56 : FR [(5, some 0)] Yy44 Yy56 := by
                rw [eYy56]
                exact FR.upI FR.rf rfl
              refine x_iload_n (i := 1) C dX12_text_123 rfl rfl ?_
              refine x_lookup (a := 0) (off := 28) (tgt := 152) C dX12_text_124 (by decide) ⟨by omega, by omega⟩ (by decide) (by decide) ?_
              refine x_aload_n (i := 0) C dX12_text_152 rfl rfl ?_
              refine x_aload_n (i := 0) C dX12_text_153 rfl rfl ?_
              refine x_getRs (r := 6) C fkM_X12_26 (nlt rfl) rfl (HG.rR hHy56 (k := 0) (i := 6) rfl rfl) dX12_text_154 ?_
              refine x_bipush C dX12_text_157 (by decide) ?_
              refine x_iload_n (i := 3) C dX12_text_159 rfl rfl ?_
              refine x_callV (As := [.ref 6, .int (iI (51)), .int (iI (1))]) C (by exact (r_store_boards (m := 1) (by decide) (ft0.cg (fun i hi => by show Yy56.1 9 i = Yy44.1 9 i; rw [eYy56, upI_nc (by decide)])) hHy56 FR.rf)) ckX12_274 im_X12_store se_X12_store (nlt rfl) rfl rfl rfl rfl (nle rfl) (by exact ⟨nle rfl, nle rfl⟩) dX12_text_160 ?_
              rintro _ Yy57 ⟨rfl, hHy57, hGy57, sa, sb⟩
              have hFy57 : FR mmWB X0 Yy57 := FR.tr hFy56 hGy57 (by decide)
              refine Wx_st (st' := []) rfl ?_
              refine x_goto (tgt := 192) C dX12_text_163 (by decide) ?_
              refine x_iload_n (i := 3) C dX12_text_192 rfl rfl ?_
              exact x_iret C hQ dX12_text_193 (⟨_, rfl, hHy57, by rw [(hGy57 2 0 rfl).1, eYy56, upI_nc (by decide), (hGy44 2 0 rfl).1, eYy6, upI_nc (by decide), eYy5, upI_nc (by decide), eYy4, upI_at], .inr ⟨rm0, ⟨by rw [(hGy57 3 0 rfl).1, eYy56, upI_nc (by decide)]; exact ft.1, by rw [(hGy57 4 0 rfl).1, eYy56, upI_nc (by decide)]; exact ft.2⟩, .inr ⟨rd1.1, 1, rfl, .inr ⟨by omega, (show ((1 : Nat) : Int) < X0.1 5 0 by omega), (show Yy57.1 5 0 = X0.1 5 0 by rw [(hGy57 5 0 rfl).1, eYy56, upI_at]; omega)⟩, .inl ⟨rfl, by decide, hFy57, fun p hp => by rw [sb p hp, eYy56, upI_nc (by decide), (hGy44 6 p rfl).1, eYy6, upI_nc (by decide), eYy5, upI_nc (by decide), eYy4, upI_nc (by decide), eYy3, upI_nc (by decide), eYy1, upI_nc (by decide)], (BRW.cg rd1.2 (fun i hi => by show Yy57.1 6 (51 * 1 + i) = Yy44.1 9 i; rw [sa i hi, eYy56, upI_nc (by decide)]))⟩⟩⟩⟩)
            · refine x_iconst C dX12_text_116 ?_
              refine x_goto (tgt := 121) C dX12_text_117 (by decide) ?_
              refine x_iadd C dX12_text_121 ?_
              refine x_iast C (nlt rfl) rfl rfl (nle rfl) (by omega) (by omega) dX12_text_122 ?_
              refine x_gX (fun Yy58 eYy58 => ?_)
              have hHy58 : HG vM Yy58 := by
                rw [eYy58]
                exact hg_wF hHy44 (p := (0, 2)) rfl ⟨by omega, by omega⟩
              have hFy58 : FR mmWB X0 Yy58 := by
                rw [eYy58]
                exact FR.upI hFy44 (rfl)
              replace eYy58 : Yy58 = upI Yy44 5 0 (v54 + 1) := eYy58
              have hGy58 : FR [(5, some 0)] Yy44 Yy58 := by
                rw [eYy58]
                exact FR.upI FR.rf rfl
              refine x_iload_n (i := 1) C dX12_text_123 rfl rfl ?_
              refine x_lookup (a := 0) (off := 28) (tgt := 152) C dX12_text_124 (by decide) ⟨by omega, by omega⟩ (by decide) (by decide) ?_
              refine x_aload_n (i := 0) C dX12_text_152 rfl rfl ?_
              refine x_aload_n (i := 0) C dX12_text_153 rfl rfl ?_
              refine x_getRs (r := 6) C fkM_X12_26 (nlt rfl) rfl (HG.rR hHy58 (k := 0) (i := 6) rfl rfl) dX12_text_154 ?_
              refine x_bipush C dX12_text_157 (by decide) ?_
              refine x_iload_n (i := 3) C dX12_text_159 rfl rfl ?_
              refine x_callV (As := [.ref 6, .int (iI (51)), .int (iI (1))]) C (by exact (r_store_boards (m := 1) (by decide) (ft0.cg (fun i hi => by show Yy58.1 9 i = Yy44.1 9 i; rw [eYy58, upI_nc (by decide)])) hHy58 FR.rf)) ckX12_274 im_X12_store se_X12_store (nlt rfl) rfl rfl rfl rfl (nle rfl) (by exact ⟨nle rfl, nle rfl⟩) dX12_text_160 ?_
              rintro _ Yy59 ⟨rfl, hHy59, hGy59, sa, sb⟩
              have hFy59 : FR mmWB X0 Yy59 := FR.tr hFy58 hGy59 (by decide)
              refine Wx_st (st' := []) rfl ?_
              refine x_goto (tgt := 192) C dX12_text_163 (by decide) ?_
              refine x_iload_n (i := 3) C dX12_text_192 rfl rfl ?_
              exact x_iret C hQ dX12_text_193 (⟨_, rfl, hHy59, by rw [(hGy59 2 0 rfl).1, eYy58, upI_nc (by decide), (hGy44 2 0 rfl).1, eYy6, upI_nc (by decide), eYy5, upI_nc (by decide), eYy4, upI_at], .inr ⟨rm0, ⟨by rw [(hGy59 3 0 rfl).1, eYy58, upI_nc (by decide)]; exact ft.1, by rw [(hGy59 4 0 rfl).1, eYy58, upI_nc (by decide)]; exact ft.2⟩, .inr ⟨rd1.1, 1, rfl, .inr ⟨by omega, (show ((1 : Nat) : Int) < X0.1 5 0 by omega), (show Yy59.1 5 0 = X0.1 5 0 by rw [(hGy59 5 0 rfl).1, eYy58, upI_at]; omega)⟩, .inl ⟨rfl, by decide, hFy59, fun p hp => by rw [sb p hp, eYy58, upI_nc (by decide), (hGy44 6 p rfl).1, eYy6, upI_nc (by decide), eYy5, upI_nc (by decide), eYy4, upI_nc (by decide), eYy3, upI_nc (by decide), eYy1, upI_nc (by decide)], (BRW.cg rd1.2 (fun i hi => by show Yy59.1 6 (51 * 1 + i) = Yy44.1 9 i; rw [sa i hi, eYy58, upI_nc (by decide)]))⟩⟩⟩⟩)
        · have at1 : at_ = -1 := by omega
          refine x_aload_n (i := 0) C dX12_text_93 rfl rfl ?_
          refine x_getRs (r := 5) C fkM_X12_23 (nlt rfl) rfl (HG.rR hHy44 (k := 0) (i := 5) rfl rfl) dX12_text_94 ?_
          refine x_iload_n (i := 1) C dX12_text_97 rfl rfl ?_
          refine x_iald C (nlt rfl) rfl rfl (nle rfl) (by omega) (by omega) dX12_text_98 ?_
          refine x_gen (fun v60 ev60 => ?_)
          replace ev60 : v60 = Yy44.1 5 0 := ev60
          have qv60 : (0 : Int) ≤ v60 ∧ v60 ≤ (2 : Int) := by
            rw [ev60]
            exact hHy44.rF (k := 5) (i := 0) (p := (0, 2)) rfl rfl
          have kv60 : v60 = X0.1 5 0 := by rw [ev60, (hGy44 5 0 rfl).1, eYy6, upI_nc (by decide), eYy5, upI_nc (by decide), eYy4, upI_nc (by decide), eYy3, upI_nc (by decide), eYy1, upI_nc (by decide)]
          have mzv60 : v60 = X0.1 5 0 := by rw [ev60, (hGy44 5 0 rfl).1, eYy6, upI_nc (by decide), eYy5, upI_nc (by decide), eYy4, upI_nc (by decide), eYy3, upI_nc (by decide), eYy1, upI_nc (by decide)]
          refine x_goto (tgt := 103) C dX12_text_99 (by decide) ?_
          refine x_istore_n (i := 3) (lv' := [(3, .int (iI (v60))), (0, .ref 0), (1, .int (iI (0))), (2, .int (iI (at_)))]) C dX12_text_103 rfl (nlt rfl) rfl ?_
          rcases (show v60 = 0 ∨ v60 = 1 by omega) with k3 | k3
          · refine Wx_lv (lv' := [(3, .int (iI (0))), (0, .ref 0), (1, .int (iI (0))), (2, .int (iI (at_)))]) (by simp only [k3]) ?_
            have ft0 := ft0 0 (by decide)
            refine x_aload_n (i := 0) C dX12_text_104 rfl rfl ?_
            refine x_getRs (r := 5) C fkM_X12_23 (nlt rfl) rfl (HG.rR hHy44 (k := 0) (i := 5) rfl rfl) dX12_text_105 ?_
            refine x_iload_n (i := 1) C dX12_text_108 rfl rfl ?_
            refine x_dup2_11 C dX12_text_109 rfl rfl ?_
            refine x_iald C (nlt rfl) rfl rfl (nle rfl) (by omega) (by omega) dX12_text_110 ?_
            refine x_gen (fun v61 ev61 => ?_)
            replace ev61 : v61 = Yy44.1 5 0 := ev61
            have qv61 : (0 : Int) ≤ v61 ∧ v61 ≤ (2 : Int) := by
              rw [ev61]
              exact hHy44.rF (k := 5) (i := 0) (p := (0, 2)) rfl rfl
            have kv61 : v61 = X0.1 5 0 := by rw [ev61, (hGy44 5 0 rfl).1, eYy6, upI_nc (by decide), eYy5, upI_nc (by decide), eYy4, upI_nc (by decide), eYy3, upI_nc (by decide), eYy1, upI_nc (by decide)]
            have mzv61 : v61 = X0.1 5 0 := by rw [ev61, (hGy44 5 0 rfl).1, eYy6, upI_nc (by decide), eYy5, upI_nc (by decide), eYy4, upI_nc (by decide), eYy3, upI_nc (by decide), eYy1, upI_nc (by decide)]
            refine x_iload_n (i := 2) C dX12_text_111 rfl rfl ?_
            refine x_iconst C dX12_text_112 ?_
            refine x_icmp_ne (tgt := 120) C dX12_text_113 (by decide) ⟨by omega, by omega⟩ ⟨by omega, by omega⟩ (fun h62 => ?_) (fun h62 => ?_)
            · refine x_iconst C dX12_text_120 ?_
              refine x_iadd C dX12_text_121 ?_
              refine x_iast C (nlt rfl) rfl rfl (nle rfl) (by omega) (by omega) dX12_text_122 ?_
              refine x_gX (fun Yy63 eYy63 => ?_)
              have hHy63 : HG vM Yy63 := by
                rw [eYy63]
                exact hg_wF hHy44 (p := (0, 2)) rfl ⟨by omega, by omega⟩
              have hFy63 : FR mmWB X0 Yy63 := by
                rw [eYy63]
                exact FR.upI hFy44 (rfl)
              replace eYy63 : Yy63 = upI Yy44 5 0 (v61 + 0) := eYy63
              have hGy63 : FR [(5, some 0)] Yy44 Yy63 := by
                rw [eYy63]
                exact FR.upI FR.rf rfl
              refine x_iload_n (i := 1) C dX12_text_123 rfl rfl ?_
              refine x_lookup (a := 0) (off := 28) (tgt := 152) C dX12_text_124 (by decide) ⟨by omega, by omega⟩ (by decide) (by decide) ?_
              refine x_aload_n (i := 0) C dX12_text_152 rfl rfl ?_
              refine x_aload_n (i := 0) C dX12_text_153 rfl rfl ?_
              refine x_getRs (r := 6) C fkM_X12_26 (nlt rfl) rfl (HG.rR hHy63 (k := 0) (i := 6) rfl rfl) dX12_text_154 ?_
              refine x_bipush C dX12_text_157 (by decide) ?_
              refine x_iload_n (i := 3) C dX12_text_159 rfl rfl ?_
              refine x_callV (As := [.ref 6, .int (iI (51)), .int (iI (0))]) C (by exact (r_store_boards (m := 0) (by decide) (ft0.cg (fun i hi => by show Yy63.1 9 i = Yy44.1 9 i; rw [eYy63, upI_nc (by decide)])) hHy63 FR.rf)) ckX12_274 im_X12_store se_X12_store (nlt rfl) rfl rfl rfl rfl (nle rfl) (by exact ⟨nle rfl, nle rfl⟩) dX12_text_160 ?_
              rintro _ Yy64 ⟨rfl, hHy64, hGy64, sa, sb⟩
              have hFy64 : FR mmWB X0 Yy64 := FR.tr hFy63 hGy64 (by decide)
              refine Wx_st (st' := []) rfl ?_
              refine x_goto (tgt := 192) C dX12_text_163 (by decide) ?_
              refine x_iload_n (i := 3) C dX12_text_192 rfl rfl ?_
              exact x_iret C hQ dX12_text_193 (⟨_, rfl, hHy64, by rw [(hGy64 2 0 rfl).1, eYy63, upI_nc (by decide), (hGy44 2 0 rfl).1, eYy6, upI_nc (by decide), eYy5, upI_nc (by decide), eYy4, upI_at], .inr ⟨rm0, ⟨by rw [(hGy64 3 0 rfl).1, eYy63, upI_nc (by decide)]; exact ft.1, by rw [(hGy64 4 0 rfl).1, eYy63, upI_nc (by decide)]; exact ft.2⟩, .inr ⟨rd1.1, 0, rfl, .inl ⟨at1, (show X0.1 5 0 = ((0 : Nat) : Int) by omega), (show Yy64.1 5 0 = ((0 : Nat) : Int) + 1 by rw [(hGy64 5 0 rfl).1, eYy63, upI_at]; omega)⟩, .inl ⟨rfl, by decide, hFy64, fun p hp => by rw [sb p hp, eYy63, upI_nc (by decide), (hGy44 6 p rfl).1, eYy6, upI_nc (by decide), eYy5, upI_nc (by decide), eYy4, upI_nc (by decide), eYy3, upI_nc (by decide), eYy1, upI_nc (by decide)], (BRW.cg rd1.2 (fun i hi => by show Yy64.1 6 (51 * 0 + i) = Yy44.1 9 i; rw [sa i hi, eYy63, upI_nc (by decide)]))⟩⟩⟩⟩)
            · refine x_iconst C dX12_text_116 ?_
              refine x_goto (tgt := 121) C dX12_text_117 (by decide) ?_
              refine x_iadd C dX12_text_121 ?_
              refine x_iast C (nlt rfl) rfl rfl (nle rfl) (by omega) (by omega) dX12_text_122 ?_
              refine x_gX (fun Yy65 eYy65 => ?_)
              have hHy65 : HG vM Yy65 := by
                rw [eYy65]
                exact hg_wF hHy44 (p := (0, 2)) rfl ⟨by omega, by omega⟩
              have hFy65 : FR mmWB X0 Yy65 := by
                rw [eYy65]
                exact FR.upI hFy44 (rfl)
              replace eYy65 : Yy65 = upI Yy44 5 0 (v61 + 1) := eYy65
              have hGy65 : FR [(5, some 0)] Yy44 Yy65 := by
                rw [eYy65]
                exact FR.upI FR.rf rfl
              refine x_iload_n (i := 1) C dX12_text_123 rfl rfl ?_
              refine x_lookup (a := 0) (off := 28) (tgt := 152) C dX12_text_124 (by decide) ⟨by omega, by omega⟩ (by decide) (by decide) ?_
              refine x_aload_n (i := 0) C dX12_text_152 rfl rfl ?_
              refine x_aload_n (i := 0) C dX12_text_153 rfl rfl ?_
              refine x_getRs (r := 6) C fkM_X12_26 (nlt rfl) rfl (HG.rR hHy65 (k := 0) (i := 6) rfl rfl) dX12_text_154 ?_
              refine x_bipush C dX12_text_157 (by decide) ?_
              refine x_iload_n (i := 3) C dX12_text_159 rfl rfl ?_
              refine x_callV (As := [.ref 6, .int (iI (51)), .int (iI (0))]) C (by exact (r_store_boards (m := 0) (by decide) (ft0.cg (fun i hi => by show Yy65.1 9 i = Yy44.1 9 i; rw [eYy65, upI_nc (by decide)])) hHy65 FR.rf)) ckX12_274 im_X12_store se_X12_store (nlt rfl) rfl rfl rfl rfl (nle rfl) (by exact ⟨nle rfl, nle rfl⟩) dX12_text_160 ?_
              rintro _ Yy66 ⟨rfl, hHy66, hGy66, sa, sb⟩
              have hFy66 : FR mmWB X0 Yy66 := FR.tr hFy65 hGy66 (by decide)
              refine Wx_st (st' := []) rfl ?_
              refine x_goto (tgt := 192) C dX12_text_163 (by decide) ?_
              refine x_iload_n (i := 3) C dX12_text_192 rfl rfl ?_
              exact x_iret C hQ dX12_text_193 (⟨_, rfl, hHy66, by rw [(hGy66 2 0 rfl).1, eYy65, upI_nc (by decide), (hGy44 2 0 rfl).1, eYy6, upI_nc (by decide), eYy5, upI_nc (by decide), eYy4, upI_at], .inr ⟨rm0, ⟨by rw [(hGy66 3 0 rfl).1, eYy65, upI_nc (by decide)]; exact ft.1, by rw [(hGy66 4 0 rfl).1, eYy65, upI_nc (by decide)]; exact ft.2⟩, .inr ⟨rd1.1, 0, rfl, .inl ⟨at1, (show X0.1 5 0 = ((0 : Nat) : Int) by omega), (show Yy66.1 5 0 = ((0 : Nat) : Int) + 1 by rw [(hGy66 5 0 rfl).1, eYy65, upI_at]; omega)⟩, .inl ⟨rfl, by decide, hFy66, fun p hp => by rw [sb p hp, eYy65, upI_nc (by decide), (hGy44 6 p rfl).1, eYy6, upI_nc (by decide), eYy5, upI_nc (by decide), eYy4, upI_nc (by decide), eYy3, upI_nc (by decide), eYy1, upI_nc (by decide)], (BRW.cg rd1.2 (fun i hi => by show Yy66.1 6 (51 * 0 + i) = Yy44.1 9 i; rw [sa i hi, eYy65, upI_nc (by decide)]))⟩⟩⟩⟩)
          · refine Wx_lv (lv' := [(3, .int (iI (1))), (0, .ref 0), (1, .int (iI (0))), (2, .int (iI (at_)))]) (by simp only [k3]) ?_
            have ft0 := ft0 1 (by decide)
            refine x_aload_n (i := 0) C dX12_text_104 rfl rfl ?_
            refine x_getRs (r := 5) C fkM_X12_23 (nlt rfl) rfl (HG.rR hHy44 (k := 0) (i := 5) rfl rfl) dX12_text_105 ?_
            refine x_iload_n (i := 1) C dX12_text_108 rfl rfl ?_
            refine x_dup2_11 C dX12_text_109 rfl rfl ?_
            refine x_iald C (nlt rfl) rfl rfl (nle rfl) (by omega) (by omega) dX12_text_110 ?_
            refine x_gen (fun v67 ev67 => ?_)
            replace ev67 : v67 = Yy44.1 5 0 := ev67
            have qv67 : (0 : Int) ≤ v67 ∧ v67 ≤ (2 : Int) := by
              rw [ev67]
              exact hHy44.rF (k := 5) (i := 0) (p := (0, 2)) rfl rfl
            have kv67 : v67 = X0.1 5 0 := by rw [ev67, (hGy44 5 0 rfl).1, eYy6, upI_nc (by decide), eYy5, upI_nc (by decide), eYy4, upI_nc (by decide), eYy3, upI_nc (by decide), eYy1, upI_nc (by decide)]
            have mzv67 : v67 = X0.1 5 0 := by rw [ev67, (hGy44 5 0 rfl).1, eYy6, upI_nc (by decide), eYy5, upI_nc (by decide), eYy4, upI_nc (by decide), eYy3, upI_nc (by decide), eYy1, upI_nc (by decide)]
            refine x_iload_n (i := 2) C dX12_text_111 rfl rfl ?_
            refine x_iconst C dX12_text_112 ?_
            refine x_icmp_ne (tgt := 120) C dX12_text_113 (by decide) ⟨by omega, by omega⟩ ⟨by omega, by omega⟩ (fun h68 => ?_) (fun h68 => ?_)
            · refine x_iconst C dX12_text_120 ?_
              refine x_iadd C dX12_text_121 ?_
              refine x_iast C (nlt rfl) rfl rfl (nle rfl) (by omega) (by omega) dX12_text_122 ?_
              refine x_gX (fun Yy69 eYy69 => ?_)
              have hHy69 : HG vM Yy69 := by
                rw [eYy69]
                exact hg_wF hHy44 (p := (0, 2)) rfl ⟨by omega, by omega⟩
              have hFy69 : FR mmWB X0 Yy69 := by
                rw [eYy69]
                exact FR.upI hFy44 (rfl)
              replace eYy69 : Yy69 = upI Yy44 5 0 (v67 + 0) := eYy69
              have hGy69 : FR [(5, some 0)] Yy44 Yy69 := by
                rw [eYy69]
                exact FR.upI FR.rf rfl
              refine x_iload_n (i := 1) C dX12_text_123 rfl rfl ?_
              refine x_lookup (a := 0) (off := 28) (tgt := 152) C dX12_text_124 (by decide) ⟨by omega, by omega⟩ (by decide) (by decide) ?_
              refine x_aload_n (i := 0) C dX12_text_152 rfl rfl ?_
              refine x_aload_n (i := 0) C dX12_text_153 rfl rfl ?_
              refine x_getRs (r := 6) C fkM_X12_26 (nlt rfl) rfl (HG.rR hHy69 (k := 0) (i := 6) rfl rfl) dX12_text_154 ?_
              refine x_bipush C dX12_text_157 (by decide) ?_
              refine x_iload_n (i := 3) C dX12_text_159 rfl rfl ?_
              refine x_callV (As := [.ref 6, .int (iI (51)), .int (iI (1))]) C (by exact (r_store_boards (m := 1) (by decide) (ft0.cg (fun i hi => by show Yy69.1 9 i = Yy44.1 9 i; rw [eYy69, upI_nc (by decide)])) hHy69 FR.rf)) ckX12_274 im_X12_store se_X12_store (nlt rfl) rfl rfl rfl rfl (nle rfl) (by exact ⟨nle rfl, nle rfl⟩) dX12_text_160 ?_
              rintro _ Yy70 ⟨rfl, hHy70, hGy70, sa, sb⟩
              have hFy70 : FR mmWB X0 Yy70 := FR.tr hFy69 hGy70 (by decide)
              refine Wx_st (st' := []) rfl ?_
              refine x_goto (tgt := 192) C dX12_text_163 (by decide) ?_
              refine x_iload_n (i := 3) C dX12_text_192 rfl rfl ?_
              exact x_iret C hQ dX12_text_193 (⟨_, rfl, hHy70, by rw [(hGy70 2 0 rfl).1, eYy69, upI_nc (by decide), (hGy44 2 0 rfl).1, eYy6, upI_nc (by decide), eYy5, upI_nc (by decide), eYy4, upI_at], .inr ⟨rm0, ⟨by rw [(hGy70 3 0 rfl).1, eYy69, upI_nc (by decide)]; exact ft.1, by rw [(hGy70 4 0 rfl).1, eYy69, upI_nc (by decide)]; exact ft.2⟩, .inr ⟨rd1.1, 1, rfl, .inl ⟨at1, (show X0.1 5 0 = ((1 : Nat) : Int) by omega), (show Yy70.1 5 0 = ((1 : Nat) : Int) + 1 by rw [(hGy70 5 0 rfl).1, eYy69, upI_at]; omega)⟩, .inl ⟨rfl, by decide, hFy70, fun p hp => by rw [sb p hp, eYy69, upI_nc (by decide), (hGy44 6 p rfl).1, eYy6, upI_nc (by decide), eYy5, upI_nc (by decide), eYy4, upI_nc (by decide), eYy3, upI_nc (by decide), eYy1, upI_nc (by decide)], (BRW.cg rd1.2 (fun i hi => by show Yy70.1 6 (51 * 1 + i) = Yy44.1 9 i; rw [sa i hi, eYy69, upI_nc (by decide)]))⟩⟩⟩⟩)
            · refine x_iconst C dX12_text_116 ?_
              refine x_goto (tgt := 121) C dX12_text_117 (by decide) ?_
              refine x_iadd C dX12_text_121 ?_
              refine x_iast C (nlt rfl) rfl rfl (nle rfl) (by omega) (by omega) dX12_text_122 ?_
              refine x_gX (fun Yy71 eYy71 => ?_)
              have hHy71 : HG vM Yy71 := by
                rw [eYy71]
                exact hg_wF hHy44 (p := (0, 2)) rfl ⟨by omega, by omega⟩
              have hFy71 : FR mmWB X0 Yy71 := by
                rw [eYy71]
                exact FR.upI hFy44 (rfl)
              replace eYy71 : Yy71 = upI Yy44 5 0 (v67 + 1) := eYy71
              have hGy71 : FR [(5, some 0)] Yy44 Yy71 := by
                rw [eYy71]
                exact FR.upI FR.rf rfl
              refine x_iload_n (i := 1) C dX12_text_123 rfl rfl ?_
              refine x_lookup (a := 0) (off := 28) (tgt := 152) C dX12_text_124 (by decide) ⟨by omega, by omega⟩ (by decide) (by decide) ?_
              refine x_aload_n (i := 0) C dX12_text_152 rfl rfl ?_
              refine x_aload_n (i := 0) C dX12_text_153 rfl rfl ?_
              refine x_getRs (r := 6) C fkM_X12_26 (nlt rfl) rfl (HG.rR hHy71 (k := 0) (i := 6) rfl rfl) dX12_text_154 ?_
              refine x_bipush C dX12_text_157 (by decide) ?_
              refine x_iload_n (i := 3) C dX12_text_159 rfl rfl ?_
              refine x_callV (As := [.ref 6, .int (iI (51)), .int (iI (1))]) C (by exact (r_store_boards (m := 1) (by decide) (ft0.cg (fun i hi => by show Yy71.1 9 i = Yy44.1 9 i; rw [eYy71, upI_nc (by decide)])) hHy71 FR.rf)) ckX12_274 im_X12_store se_X12_store (nlt rfl) rfl rfl rfl rfl (nle rfl) (by exact ⟨nle rfl, nle rfl⟩) dX12_text_160 ?_
              rintro _ Yy72 ⟨rfl, hHy72, hGy72, sa, sb⟩
              have hFy72 : FR mmWB X0 Yy72 := FR.tr hFy71 hGy72 (by decide)
              refine Wx_st (st' := []) rfl ?_
              refine x_goto (tgt := 192) C dX12_text_163 (by decide) ?_
              refine x_iload_n (i := 3) C dX12_text_192 rfl rfl ?_
              exact x_iret C hQ dX12_text_193 (⟨_, rfl, hHy72, by rw [(hGy72 2 0 rfl).1, eYy71, upI_nc (by decide), (hGy44 2 0 rfl).1, eYy6, upI_nc (by decide), eYy5, upI_nc (by decide), eYy4, upI_at], .inr ⟨rm0, ⟨by rw [(hGy72 3 0 rfl).1, eYy71, upI_nc (by decide)]; exact ft.1, by rw [(hGy72 4 0 rfl).1, eYy71, upI_nc (by decide)]; exact ft.2⟩, .inr ⟨rd1.1, 1, rfl, .inl ⟨at1, (show X0.1 5 0 = ((1 : Nat) : Int) by omega), (show Yy72.1 5 0 = ((1 : Nat) : Int) + 1 by rw [(hGy72 5 0 rfl).1, eYy71, upI_at]; omega)⟩, .inl ⟨rfl, by decide, hFy72, fun p hp => by rw [sb p hp, eYy71, upI_nc (by decide), (hGy44 6 p rfl).1, eYy6, upI_nc (by decide), eYy5, upI_nc (by decide), eYy4, upI_nc (by decide), eYy3, upI_nc (by decide), eYy1, upI_nc (by decide)], (BRW.cg rd1.2 (fun i hi => by show Yy72.1 6 (51 * 1 + i) = Yy44.1 9 i; rw [sa i hi, eYy71, upI_nc (by decide)]))⟩⟩⟩⟩)
      · refine x_iconst C dX12_text_86 ?_
        exact x_iret C hQ dX12_text_87 (⟨_, rfl, hHy44, by rw [(hGy44 2 0 rfl).1, eYy6, upI_nc (by decide), eYy5, upI_nc (by decide), eYy4, upI_at], .inr ⟨rm0, ft, .inl ⟨rfl, rd.elim (fun g => by exfalso; have := g.1; omega) (fun g => g.2), hFy440⟩⟩⟩)
    · refine x_goto (tgt := 75) C dX12_text_63 (by decide) ?_
      refine x_bipush C dX12_text_75 (by decide) ?_
      exact x_iret C hQ dX12_text_77 (⟨_, rfl, hHy6, by rw [eYy6, upI_nc (by decide), eYy5, upI_nc (by decide), eYy4, upI_at], .inl ⟨rfl, fun g => by have g2 := g.2.2; rw [show ((0 : Int)).toNat = 0 from rfl, if_neg (by decide)] at g2; omega, hFy60, ⟨by rw [eYy6, upI_nc (by decide), eYy5, upI_at], by rw [eYy6, upI_at]⟩⟩⟩)
set_option maxHeartbeats 4000000 in
set_option maxRecDepth 100000 in
theorem r_text1 {D : va_G} {ad : Nat → Nat} {cA : Nat → ClassId} {X0 : XT} {b : Nat → Int} {N : Nat} {at_ : Int} (aa : inR at_) (hN : X0.1 2 0 = (N : Int)) (hb : ∀ i, i < N → X0.1 1 i % 256 = b i) (hH : HG vM X0) (hF : FR mmWU X0 X0) (hF0 : FR mmT0 X0 X0) : MetX (wM D ad cA) yX12_text cX12_text 4 (some .int) 7 158 [.ref 0, .int (iI (1)), .int (iI (at_))] X0 (fun r X1 => ∃ u : Int, r = some (.int (iI u)) ∧ HG vM X1 ∧ TXM b N X0 X1 1 at_ u) := by
  unfold inR at aa
  have n6 : N ≤ 600 := by have q : (0 : Int) ≤ X0.1 2 0 ∧ X0.1 2 0 ≤ 600 := hH.rF (k := 2) (i := 0) (p := (0, 600)) rfl rfl; omega
  have mb : (0 : Int) ≤ X0.1 5 1 ∧ X0.1 5 1 ≤ 3 := hH.rF (k := 5) (i := 1) (p := (0, 3)) rfl rfl
  have hb2 : ∀ i, i < N → 0 ≤ b i ∧ b i ≤ 255 := fun i hi => by have := hb i hi; omega
  refine MetX.mk (own := RX12) (by decide +kernel) rfl (nle rfl) (fun E C hQ => ?_)
  refine Wx_lv (lv' := [(0, .ref 0), (1, .int (iI (1))), (2, .int (iI (at_)))]) rfl ?_
  refine x_aload_n (i := 0) C dX12_text_0 rfl rfl ?_
  refine x_iconst C dX12_text_1 ?_
  refine x_putI C pkM_X12_157 (nlt rfl) rfl dX12_text_2 ?_
  refine x_gX (fun Yy1 eYy1 => ?_)
  have hHy1 : HG vM Yy1 := by
    rw [eYy1]
    exact hg_wF hH (p := ((-2147483648), 2147483647)) rfl ⟨by omega, by omega⟩
  have hFy1 : FR mmWU X0 Yy1 := by
    rw [eYy1]
    exact FR.upI hF (rfl)
  have hFy10 : FR mmT0 X0 Yy1 := by
    rw [eYy1]
    exact FR.upI hF0 rfl
  refine x_aload_n (i := 0) C dX12_text_5 rfl rfl ?_
  refine x_aload_n (i := 0) C dX12_text_6 rfl rfl ?_
  refine x_getRs (r := 2) C fkM_X12_13 (nlt rfl) rfl (HG.rR hHy1 (k := 0) (i := 2) rfl rfl) dX12_text_7 ?_
  refine x_iconst C dX12_text_10 ?_
  refine x_iald C (nlt rfl) rfl rfl (nle rfl) (by omega) (by omega) dX12_text_11 ?_
  refine x_gen (fun v2 ev2 => ?_)
  replace ev2 : v2 = Yy1.1 2 0 := ev2
  have qv2 : (0 : Int) ≤ v2 ∧ v2 ≤ (600 : Int) := by
    rw [ev2]
    exact hHy1.rF (k := 2) (i := 0) (p := (0, 600)) rfl rfl
  have kv2 : v2 = X0.1 2 0 := by rw [ev2, eYy1, upI_nc (by decide)]
  have z0N : v2 = (N : Int) := by rw [kv2]; exact hN
  refine x_putI C pkM_X12_176 (nlt rfl) rfl dX12_text_12 ?_
  refine x_gX (fun Yy3 eYy3 => ?_)
  have hHy3 : HG vM Yy3 := by
    rw [eYy3]
    exact hg_wF hHy1 (p := ((-2147483648), 2147483647)) rfl ⟨by omega, by omega⟩
  have hFy3 : FR mmWU X0 Yy3 := by
    rw [eYy3]
    exact FR.upI hFy1 (rfl)
  have hFy30 : FR mmT0 X0 Yy3 := by
    rw [eYy3]
    exact FR.upI hFy10 rfl
  refine x_aload_n (i := 0) C dX12_text_15 rfl rfl ?_
  refine x_getRs (r := 2) C fkM_X12_13 (nlt rfl) rfl (HG.rR hHy3 (k := 0) (i := 2) rfl rfl) dX12_text_16 ?_
  refine x_iconst C dX12_text_19 ?_
  refine x_iconst C dX12_text_20 ?_
  refine x_iast C (nlt rfl) rfl rfl (nle rfl) (by omega) (by omega) dX12_text_21 ?_
  refine x_gX (fun Yy4 eYy4 => ?_)
  have hHy4 : HG vM Yy4 := by
    rw [eYy4]
    exact hg_wF hHy3 (p := (0, 600)) rfl ⟨by omega, by omega⟩
  have hFy4 : FR mmWU X0 Yy4 := by
    rw [eYy4]
    exact FR.upI hFy3 (rfl)
  replace eYy4 : Yy4 = upI Yy3 2 0 (0) := eYy4
  have hFy40 : FR mmT0 X0 Yy4 := by
    rw [eYy4]
    exact FR.upI hFy30 rfl
  refine x_aload_n (i := 0) C dX12_text_22 rfl rfl ?_
  refine x_getRs (r := 3) C fkM_X12_17 (nlt rfl) rfl (HG.rR hHy4 (k := 0) (i := 3) rfl rfl) dX12_text_23 ?_
  refine x_iconst C dX12_text_26 ?_
  refine x_iconst C dX12_text_27 ?_
  refine x_iast C (nlt rfl) rfl rfl (nle rfl) (by omega) (by omega) dX12_text_28 ?_
  refine x_gX (fun Yy5 eYy5 => ?_)
  have hHy5 : HG vM Yy5 := by
    rw [eYy5]
    exact hg_wF hHy4 (p := ((-2147483648), 2147483647)) rfl ⟨by omega, by omega⟩
  have hFy5 : FR mmWU X0 Yy5 := by
    rw [eYy5]
    exact FR.upI hFy4 (rfl)
  replace eYy5 : Yy5 = upI Yy4 3 0 (0) := eYy5
  have hFy50 : FR mmT0 X0 Yy5 := by
    rw [eYy5]
    exact FR.upI hFy40 rfl
  refine x_aload_n (i := 0) C dX12_text_29 rfl rfl ?_
  refine x_getRs (r := 4) C fkM_X12_20 (nlt rfl) rfl (HG.rR hHy5 (k := 0) (i := 4) rfl rfl) dX12_text_30 ?_
  refine x_iconst C dX12_text_33 ?_
  refine x_iconst C dX12_text_34 ?_
  refine x_iast C (nlt rfl) rfl rfl (nle rfl) (by omega) (by omega) dX12_text_35 ?_
  refine x_gX (fun Yy6 eYy6 => ?_)
  have hHy6 : HG vM Yy6 := by
    rw [eYy6]
    exact hg_wF hHy5 (p := ((-2147483648), 2147483647)) rfl ⟨by omega, by omega⟩
  have hFy6 : FR mmWU X0 Yy6 := by
    rw [eYy6]
    exact FR.upI hFy5 (rfl)
  replace eYy6 : Yy6 = upI Yy5 4 0 ((-1)) := eYy6
  have hFy60 : FR mmT0 X0 Yy6 := by
    rw [eYy6]
    exact FR.upI hFy50 rfl
  refine x_iload_n (i := 1) C dX12_text_36 rfl rfl ?_
  refine x_iconst C dX12_text_37 ?_
  refine x_iconst C dX12_text_38 ?_
  refine x_callS (As := [.int (iI (1)), .int (iI (0)), .int (iI (2))]) C (by exact (q_in (v := 1) (a := 0) (b := 2) ⟨by omega, by omega⟩ ⟨by omega, by omega⟩ ⟨by omega, by omega⟩)) ckX12_165 sm_X12_in rfl rfl (nle rfl) (by exact ⟨nle rfl, nle rfl⟩) dX12_text_39 ?_
  rintro _ Xv7 ⟨hxv7, v7, rfl, ev7⟩
  rw [hxv7]
  refine Wx_st (st' := [.int (iI (v7))]) rfl ?_
  refine x_if_eq (tgt := 75) C dX12_text_42 (by decide) ⟨by omega, by omega⟩ (fun h8 => by exfalso; omega) (fun h8 => ?_)
  refine x_iload_n (i := 2) C dX12_text_45 rfl rfl ?_
  refine x_iconst C dX12_text_46 ?_
  refine x_icmp_ne (tgt := 66) C dX12_text_47 (by decide) ⟨by omega, by omega⟩ ⟨by omega, by omega⟩ (fun h9 => ?_) (fun h9 => ?_)
  · refine x_aload_n (i := 0) C dX12_text_66 rfl rfl ?_
    refine x_iload_n (i := 1) C dX12_text_67 rfl rfl ?_
    refine x_iload_n (i := 2) C dX12_text_68 rfl rfl ?_
    refine x_callV (As := [.int (iI (1)), .int (iI (at_))]) C (by exact (r_is1 (k := at_) ⟨by omega, by omega⟩ hHy6)) ckX12_268 im_X12_is se_X12_is (nlt rfl) rfl rfl rfl rfl (nle rfl) (by exact ⟨nle rfl, nle rfl⟩) dX12_text_69 ?_
    rintro _ Xv10 ⟨hxv10, v10, rfl, ev10⟩
    rw [hxv10]
    have myv10 : Yy6.1 5 1 = X0.1 5 1 := by rw [eYy6, upI_nc (by decide), eYy5, upI_nc (by decide), eYy4, upI_nc (by decide), eYy3, upI_nc (by decide), eYy1, upI_nc (by decide)]
    refine Wx_st (st' := [.int (iI (v10))]) rfl ?_
    refine x_if_ne (tgt := 78) C dX12_text_72 (by decide) ⟨by omega, by omega⟩ (fun h11 => ?_) (fun h11 => ?_)
    · have rm0 : roomM X0 1 at_ := ⟨by decide, by decide, by rw [show ((1 : Int)).toNat = 1 from rfl]; rw [if_pos rfl]; omega⟩
      refine x_aload_n (i := 0) C dX12_text_78 rfl rfl ?_
      refine x_iload_n (i := 1) C dX12_text_79 rfl rfl ?_
      refine x_callV (As := [.int (iI (1))]) C (by exact (r_readText1 ⟨by rw [eYy6, upI_nc (by decide), eYy5, upI_nc (by decide), eYy4, upI_nc (by decide), eYy3, upI_at]; exact z0N, n6, fun i hi => by rw [eYy6, upI_nc (by decide), eYy5, upI_nc (by decide), eYy4, upI_nc (by decide), eYy3, upI_nc (by decide), eYy1, upI_nc (by decide)]; exact hb i hi, hb2⟩ hHy6 FR.rf)) ckX12_271 im_X12_readText se_X12_readText (nlt rfl) rfl rfl rfl rfl (nle rfl) (by exact ⟨nle rfl, nle rfl⟩) dX12_text_80 ?_
      rintro _ Yy12 ⟨v13, rfl, hHy12, hGy12, ft, rd⟩
      have hFy12 : FR mmWU X0 Yy12 := FR.tr hFy6 hGy12 (by decide)
      have hFy120 : FR mmT0 X0 Yy12 := FR.tr hFy60 hGy12 (by decide)
      refine Wx_st (st' := [.int (iI (v13))]) rfl ?_
      refine x_if_ne (tgt := 88) C dX12_text_83 (by decide) ⟨by omega, by omega⟩ (fun h14 => ?_) (fun h14 => ?_)
      · have rd1 := rd.elim (fun g => g.2) (fun g => by exfalso; have := g.1; omega)
        have ft0 := fits_R (a := fun i => Yy12.1 9 i) hHy12 rd1.2.2.1
        refine x_iload_n (i := 2) C dX12_text_88 rfl rfl ?_
        refine x_iconst C dX12_text_89 ?_
        refine x_icmp_ne (tgt := 102) C dX12_text_90 (by decide) ⟨by omega, by omega⟩ ⟨by omega, by omega⟩ (fun h15 => ?_) (fun h15 => ?_)
        · refine x_iload_n (i := 2) C dX12_text_102 rfl rfl ?_
          refine x_istore_n (i := 3) (lv' := [(3, .int (iI (at_))), (0, .ref 0), (1, .int (iI (1))), (2, .int (iI (at_)))]) C dX12_text_103 rfl (nlt rfl) rfl ?_
          rcases (show at_ = 0 ∨ at_ = 1 ∨ at_ = 2 by omega) with k3 | k3 | k3
          · refine Wx_lv (lv' := [(3, .int (iI (0))), (0, .ref 0), (1, .int (iI (1))), (2, .int (iI (at_)))]) (by simp only [k3]) ?_
            have ft0 := ft0 0 (by decide)
            refine x_aload_n (i := 0) C dX12_text_104 rfl rfl ?_
            refine x_getRs (r := 5) C fkM_X12_23 (nlt rfl) rfl (HG.rR hHy12 (k := 0) (i := 5) rfl rfl) dX12_text_105 ?_
            refine x_iload_n (i := 1) C dX12_text_108 rfl rfl ?_
            refine x_dup2_11 C dX12_text_109 rfl rfl ?_
            refine x_iald C (nlt rfl) rfl rfl (nle rfl) (by omega) (by omega) dX12_text_110 ?_
            refine x_gen (fun v16 ev16 => ?_)
            replace ev16 : v16 = Yy12.1 5 1 := ev16
            have qv16 : (0 : Int) ≤ v16 ∧ v16 ≤ (3 : Int) := by
              rw [ev16]
              exact hHy12.rF (k := 5) (i := 1) (p := (0, 3)) rfl rfl
            have kv16 : v16 = X0.1 5 1 := by rw [ev16, (hGy12 5 1 rfl).1, eYy6, upI_nc (by decide), eYy5, upI_nc (by decide), eYy4, upI_nc (by decide), eYy3, upI_nc (by decide), eYy1, upI_nc (by decide)]
            have mzv16 : v16 = X0.1 5 1 := by rw [ev16, (hGy12 5 1 rfl).1, eYy6, upI_nc (by decide), eYy5, upI_nc (by decide), eYy4, upI_nc (by decide), eYy3, upI_nc (by decide), eYy1, upI_nc (by decide)]
            refine x_iload_n (i := 2) C dX12_text_111 rfl rfl ?_
            refine x_iconst C dX12_text_112 ?_
            refine x_icmp_ne (tgt := 120) C dX12_text_113 (by decide) ⟨by omega, by omega⟩ ⟨by omega, by omega⟩ (fun h17 => ?_) (fun h17 => ?_)
            · refine x_iconst C dX12_text_120 ?_
              refine x_iadd C dX12_text_121 ?_
              refine x_iast C (nlt rfl) rfl rfl (nle rfl) (by omega) (by omega) dX12_text_122 ?_
              refine x_gX (fun Yy18 eYy18 => ?_)
              have hHy18 : HG vM Yy18 := by
                rw [eYy18]
                exact hg_wF hHy12 (p := (0, 3)) rfl ⟨by omega, by omega⟩
              have hFy18 : FR mmWU X0 Yy18 := by
                rw [eYy18]
                exact FR.upI hFy12 (rfl)
              replace eYy18 : Yy18 = upI Yy12 5 1 (v16 + 0) := eYy18
              have hGy18 : FR [(5, some 1)] Yy12 Yy18 := by
                rw [eYy18]
                exact FR.upI FR.rf rfl
              refine x_iload_n (i := 1) C dX12_text_123 rfl rfl ?_
              refine x_lookup (a := 1) (off := 42) (tgt := 166) C dX12_text_124 (by decide) ⟨by omega, by omega⟩ (by decide) (by decide) ?_
              refine x_aload_n (i := 0) C dX12_text_166 rfl rfl ?_
              refine x_aload_n (i := 0) C dX12_text_167 rfl rfl ?_
              refine x_getRs (r := 7) C fkM_X12_29 (nlt rfl) rfl (HG.rR hHy18 (k := 0) (i := 7) rfl rfl) dX12_text_168 ?_
              refine x_bipush C dX12_text_171 (by decide) ?_
              refine x_iload_n (i := 3) C dX12_text_173 rfl rfl ?_
              refine x_callV (As := [.ref 7, .int (iI (10)), .int (iI (0))]) C (by exact (r_store_rules (m := 0) (by decide) (ft0.cg (fun i hi => by show Yy18.1 9 i = Yy12.1 9 i; rw [eYy18, upI_nc (by decide)])) hHy18 FR.rf)) ckX12_274 im_X12_store se_X12_store (nlt rfl) rfl rfl rfl rfl (nle rfl) (by exact ⟨nle rfl, nle rfl⟩) dX12_text_174 ?_
              rintro _ Yy19 ⟨rfl, hHy19, hGy19, sa, sb⟩
              have hFy19 : FR mmWU X0 Yy19 := FR.tr hFy18 hGy19 (by decide)
              refine Wx_st (st' := []) rfl ?_
              refine x_goto (tgt := 192) C dX12_text_177 (by decide) ?_
              refine x_iload_n (i := 3) C dX12_text_192 rfl rfl ?_
              exact x_iret C hQ dX12_text_193 (⟨_, rfl, hHy19, by rw [(hGy19 2 0 rfl).1, eYy18, upI_nc (by decide), (hGy12 2 0 rfl).1, eYy6, upI_nc (by decide), eYy5, upI_nc (by decide), eYy4, upI_at], .inr ⟨rm0, ⟨by rw [(hGy19 3 0 rfl).1, eYy18, upI_nc (by decide)]; exact ft.1, by rw [(hGy19 4 0 rfl).1, eYy18, upI_nc (by decide)]; exact ft.2⟩, .inr ⟨rd1.1, 0, rfl, .inr ⟨by omega, (show ((0 : Nat) : Int) < X0.1 5 1 by omega), (show Yy19.1 5 1 = X0.1 5 1 by rw [(hGy19 5 1 rfl).1, eYy18, upI_at]; omega)⟩, .inr (.inl ⟨rfl, by decide, hFy19, fun p hp => by rw [sb p hp, eYy18, upI_nc (by decide), (hGy12 7 p rfl).1, eYy6, upI_nc (by decide), eYy5, upI_nc (by decide), eYy4, upI_nc (by decide), eYy3, upI_nc (by decide), eYy1, upI_nc (by decide)], ((RLM_of rd1.2.1 rd1.2.2.2).cg (fun i hi => by show Yy19.1 7 (10 * 0 + i) = Yy12.1 10 i; rw [sa i hi, eYy18, upI_nc (by decide)]; exact rd1.2.2.1 i hi))⟩)⟩⟩⟩)
            · refine x_iconst C dX12_text_116 ?_
              refine x_goto (tgt := 121) C dX12_text_117 (by decide) ?_
              refine x_iadd C dX12_text_121 ?_
              refine x_iast C (nlt rfl) rfl rfl (nle rfl) (by omega) (by omega) dX12_text_122 ?_
              refine x_gX (fun Yy20 eYy20 => ?_)
              have hHy20 : HG vM Yy20 := by
                rw [eYy20]
                exact hg_wF hHy12 (p := (0, 3)) rfl ⟨by omega, by omega⟩
              have hFy20 : FR mmWU X0 Yy20 := by
                rw [eYy20]
                exact FR.upI hFy12 (rfl)
              replace eYy20 : Yy20 = upI Yy12 5 1 (v16 + 1) := eYy20
              have hGy20 : FR [(5, some 1)] Yy12 Yy20 := by
                rw [eYy20]
                exact FR.upI FR.rf rfl
              refine x_iload_n (i := 1) C dX12_text_123 rfl rfl ?_
              refine x_lookup (a := 1) (off := 42) (tgt := 166) C dX12_text_124 (by decide) ⟨by omega, by omega⟩ (by decide) (by decide) ?_
              refine x_aload_n (i := 0) C dX12_text_166 rfl rfl ?_
              refine x_aload_n (i := 0) C dX12_text_167 rfl rfl ?_
              refine x_getRs (r := 7) C fkM_X12_29 (nlt rfl) rfl (HG.rR hHy20 (k := 0) (i := 7) rfl rfl) dX12_text_168 ?_
              refine x_bipush C dX12_text_171 (by decide) ?_
              refine x_iload_n (i := 3) C dX12_text_173 rfl rfl ?_
              refine x_callV (As := [.ref 7, .int (iI (10)), .int (iI (0))]) C (by exact (r_store_rules (m := 0) (by decide) (ft0.cg (fun i hi => by show Yy20.1 9 i = Yy12.1 9 i; rw [eYy20, upI_nc (by decide)])) hHy20 FR.rf)) ckX12_274 im_X12_store se_X12_store (nlt rfl) rfl rfl rfl rfl (nle rfl) (by exact ⟨nle rfl, nle rfl⟩) dX12_text_174 ?_
              rintro _ Yy21 ⟨rfl, hHy21, hGy21, sa, sb⟩
              have hFy21 : FR mmWU X0 Yy21 := FR.tr hFy20 hGy21 (by decide)
              refine Wx_st (st' := []) rfl ?_
              refine x_goto (tgt := 192) C dX12_text_177 (by decide) ?_
              refine x_iload_n (i := 3) C dX12_text_192 rfl rfl ?_
              exact x_iret C hQ dX12_text_193 (⟨_, rfl, hHy21, by rw [(hGy21 2 0 rfl).1, eYy20, upI_nc (by decide), (hGy12 2 0 rfl).1, eYy6, upI_nc (by decide), eYy5, upI_nc (by decide), eYy4, upI_at], .inr ⟨rm0, ⟨by rw [(hGy21 3 0 rfl).1, eYy20, upI_nc (by decide)]; exact ft.1, by rw [(hGy21 4 0 rfl).1, eYy20, upI_nc (by decide)]; exact ft.2⟩, .inr ⟨rd1.1, 0, rfl, .inr ⟨by omega, (show ((0 : Nat) : Int) < X0.1 5 1 by omega), (show Yy21.1 5 1 = X0.1 5 1 by rw [(hGy21 5 1 rfl).1, eYy20, upI_at]; omega)⟩, .inr (.inl ⟨rfl, by decide, hFy21, fun p hp => by rw [sb p hp, eYy20, upI_nc (by decide), (hGy12 7 p rfl).1, eYy6, upI_nc (by decide), eYy5, upI_nc (by decide), eYy4, upI_nc (by decide), eYy3, upI_nc (by decide), eYy1, upI_nc (by decide)], ((RLM_of rd1.2.1 rd1.2.2.2).cg (fun i hi => by show Yy21.1 7 (10 * 0 + i) = Yy12.1 10 i; rw [sa i hi, eYy20, upI_nc (by decide)]; exact rd1.2.2.1 i hi))⟩)⟩⟩⟩)
          · refine Wx_lv (lv' := [(3, .int (iI (1))), (0, .ref 0), (1, .int (iI (1))), (2, .int (iI (at_)))]) (by simp only [k3]) ?_
            have ft0 := ft0 1 (by decide)
            refine x_aload_n (i := 0) C dX12_text_104 rfl rfl ?_
            refine x_getRs (r := 5) C fkM_X12_23 (nlt rfl) rfl (HG.rR hHy12 (k := 0) (i := 5) rfl rfl) dX12_text_105 ?_
            refine x_iload_n (i := 1) C dX12_text_108 rfl rfl ?_
            refine x_dup2_11 C dX12_text_109 rfl rfl ?_
            refine x_iald C (nlt rfl) rfl rfl (nle rfl) (by omega) (by omega) dX12_text_110 ?_
            refine x_gen (fun v22 ev22 => ?_)
            replace ev22 : v22 = Yy12.1 5 1 := ev22
            have qv22 : (0 : Int) ≤ v22 ∧ v22 ≤ (3 : Int) := by
              rw [ev22]
              exact hHy12.rF (k := 5) (i := 1) (p := (0, 3)) rfl rfl
            have kv22 : v22 = X0.1 5 1 := by rw [ev22, (hGy12 5 1 rfl).1, eYy6, upI_nc (by decide), eYy5, upI_nc (by decide), eYy4, upI_nc (by decide), eYy3, upI_nc (by decide), eYy1, upI_nc (by decide)]
            have mzv22 : v22 = X0.1 5 1 := by rw [ev22, (hGy12 5 1 rfl).1, eYy6, upI_nc (by decide), eYy5, upI_nc (by decide), eYy4, upI_nc (by decide), eYy3, upI_nc (by decide), eYy1, upI_nc (by decide)]
            refine x_iload_n (i := 2) C dX12_text_111 rfl rfl ?_
            refine x_iconst C dX12_text_112 ?_
            refine x_icmp_ne (tgt := 120) C dX12_text_113 (by decide) ⟨by omega, by omega⟩ ⟨by omega, by omega⟩ (fun h23 => ?_) (fun h23 => ?_)
            · refine x_iconst C dX12_text_120 ?_
              refine x_iadd C dX12_text_121 ?_
              refine x_iast C (nlt rfl) rfl rfl (nle rfl) (by omega) (by omega) dX12_text_122 ?_
              refine x_gX (fun Yy24 eYy24 => ?_)
              have hHy24 : HG vM Yy24 := by
                rw [eYy24]
                exact hg_wF hHy12 (p := (0, 3)) rfl ⟨by omega, by omega⟩
              have hFy24 : FR mmWU X0 Yy24 := by
                rw [eYy24]
                exact FR.upI hFy12 (rfl)
              replace eYy24 : Yy24 = upI Yy12 5 1 (v22 + 0) := eYy24
              have hGy24 : FR [(5, some 1)] Yy12 Yy24 := by
                rw [eYy24]
                exact FR.upI FR.rf rfl
              refine x_iload_n (i := 1) C dX12_text_123 rfl rfl ?_
              refine x_lookup (a := 1) (off := 42) (tgt := 166) C dX12_text_124 (by decide) ⟨by omega, by omega⟩ (by decide) (by decide) ?_
              refine x_aload_n (i := 0) C dX12_text_166 rfl rfl ?_
              refine x_aload_n (i := 0) C dX12_text_167 rfl rfl ?_
              refine x_getRs (r := 7) C fkM_X12_29 (nlt rfl) rfl (HG.rR hHy24 (k := 0) (i := 7) rfl rfl) dX12_text_168 ?_
              refine x_bipush C dX12_text_171 (by decide) ?_
              refine x_iload_n (i := 3) C dX12_text_173 rfl rfl ?_
              refine x_callV (As := [.ref 7, .int (iI (10)), .int (iI (1))]) C (by exact (r_store_rules (m := 1) (by decide) (ft0.cg (fun i hi => by show Yy24.1 9 i = Yy12.1 9 i; rw [eYy24, upI_nc (by decide)])) hHy24 FR.rf)) ckX12_274 im_X12_store se_X12_store (nlt rfl) rfl rfl rfl rfl (nle rfl) (by exact ⟨nle rfl, nle rfl⟩) dX12_text_174 ?_
              rintro _ Yy25 ⟨rfl, hHy25, hGy25, sa, sb⟩
              have hFy25 : FR mmWU X0 Yy25 := FR.tr hFy24 hGy25 (by decide)
              refine Wx_st (st' := []) rfl ?_
              refine x_goto (tgt := 192) C dX12_text_177 (by decide) ?_
              refine x_iload_n (i := 3) C dX12_text_192 rfl rfl ?_
              exact x_iret C hQ dX12_text_193 (⟨_, rfl, hHy25, by rw [(hGy25 2 0 rfl).1, eYy24, upI_nc (by decide), (hGy12 2 0 rfl).1, eYy6, upI_nc (by decide), eYy5, upI_nc (by decide), eYy4, upI_at], .inr ⟨rm0, ⟨by rw [(hGy25 3 0 rfl).1, eYy24, upI_nc (by decide)]; exact ft.1, by rw [(hGy25 4 0 rfl).1, eYy24, upI_nc (by decide)]; exact ft.2⟩, .inr ⟨rd1.1, 1, rfl, .inr ⟨by omega, (show ((1 : Nat) : Int) < X0.1 5 1 by omega), (show Yy25.1 5 1 = X0.1 5 1 by rw [(hGy25 5 1 rfl).1, eYy24, upI_at]; omega)⟩, .inr (.inl ⟨rfl, by decide, hFy25, fun p hp => by rw [sb p hp, eYy24, upI_nc (by decide), (hGy12 7 p rfl).1, eYy6, upI_nc (by decide), eYy5, upI_nc (by decide), eYy4, upI_nc (by decide), eYy3, upI_nc (by decide), eYy1, upI_nc (by decide)], ((RLM_of rd1.2.1 rd1.2.2.2).cg (fun i hi => by show Yy25.1 7 (10 * 1 + i) = Yy12.1 10 i; rw [sa i hi, eYy24, upI_nc (by decide)]; exact rd1.2.2.1 i hi))⟩)⟩⟩⟩)
            · refine x_iconst C dX12_text_116 ?_
              refine x_goto (tgt := 121) C dX12_text_117 (by decide) ?_
              refine x_iadd C dX12_text_121 ?_
              refine x_iast C (nlt rfl) rfl rfl (nle rfl) (by omega) (by omega) dX12_text_122 ?_
              refine x_gX (fun Yy26 eYy26 => ?_)
              have hHy26 : HG vM Yy26 := by
                rw [eYy26]
                exact hg_wF hHy12 (p := (0, 3)) rfl ⟨by omega, by omega⟩
              have hFy26 : FR mmWU X0 Yy26 := by
                rw [eYy26]
                exact FR.upI hFy12 (rfl)
              replace eYy26 : Yy26 = upI Yy12 5 1 (v22 + 1) := eYy26
              have hGy26 : FR [(5, some 1)] Yy12 Yy26 := by
                rw [eYy26]
                exact FR.upI FR.rf rfl
              refine x_iload_n (i := 1) C dX12_text_123 rfl rfl ?_
              refine x_lookup (a := 1) (off := 42) (tgt := 166) C dX12_text_124 (by decide) ⟨by omega, by omega⟩ (by decide) (by decide) ?_
              refine x_aload_n (i := 0) C dX12_text_166 rfl rfl ?_
              refine x_aload_n (i := 0) C dX12_text_167 rfl rfl ?_
              refine x_getRs (r := 7) C fkM_X12_29 (nlt rfl) rfl (HG.rR hHy26 (k := 0) (i := 7) rfl rfl) dX12_text_168 ?_
              refine x_bipush C dX12_text_171 (by decide) ?_
              refine x_iload_n (i := 3) C dX12_text_173 rfl rfl ?_
              refine x_callV (As := [.ref 7, .int (iI (10)), .int (iI (1))]) C (by exact (r_store_rules (m := 1) (by decide) (ft0.cg (fun i hi => by show Yy26.1 9 i = Yy12.1 9 i; rw [eYy26, upI_nc (by decide)])) hHy26 FR.rf)) ckX12_274 im_X12_store se_X12_store (nlt rfl) rfl rfl rfl rfl (nle rfl) (by exact ⟨nle rfl, nle rfl⟩) dX12_text_174 ?_
              rintro _ Yy27 ⟨rfl, hHy27, hGy27, sa, sb⟩
              have hFy27 : FR mmWU X0 Yy27 := FR.tr hFy26 hGy27 (by decide)
              refine Wx_st (st' := []) rfl ?_
              refine x_goto (tgt := 192) C dX12_text_177 (by decide) ?_
              refine x_iload_n (i := 3) C dX12_text_192 rfl rfl ?_
              exact x_iret C hQ dX12_text_193 (⟨_, rfl, hHy27, by rw [(hGy27 2 0 rfl).1, eYy26, upI_nc (by decide), (hGy12 2 0 rfl).1, eYy6, upI_nc (by decide), eYy5, upI_nc (by decide), eYy4, upI_at], .inr ⟨rm0, ⟨by rw [(hGy27 3 0 rfl).1, eYy26, upI_nc (by decide)]; exact ft.1, by rw [(hGy27 4 0 rfl).1, eYy26, upI_nc (by decide)]; exact ft.2⟩, .inr ⟨rd1.1, 1, rfl, .inr ⟨by omega, (show ((1 : Nat) : Int) < X0.1 5 1 by omega), (show Yy27.1 5 1 = X0.1 5 1 by rw [(hGy27 5 1 rfl).1, eYy26, upI_at]; omega)⟩, .inr (.inl ⟨rfl, by decide, hFy27, fun p hp => by rw [sb p hp, eYy26, upI_nc (by decide), (hGy12 7 p rfl).1, eYy6, upI_nc (by decide), eYy5, upI_nc (by decide), eYy4, upI_nc (by decide), eYy3, upI_nc (by decide), eYy1, upI_nc (by decide)], ((RLM_of rd1.2.1 rd1.2.2.2).cg (fun i hi => by show Yy27.1 7 (10 * 1 + i) = Yy12.1 10 i; rw [sa i hi, eYy26, upI_nc (by decide)]; exact rd1.2.2.1 i hi))⟩)⟩⟩⟩)
          · refine Wx_lv (lv' := [(3, .int (iI (2))), (0, .ref 0), (1, .int (iI (1))), (2, .int (iI (at_)))]) (by simp only [k3]) ?_
            have ft0 := ft0 2 (by decide)
            refine x_aload_n (i := 0) C dX12_text_104 rfl rfl ?_
            refine x_getRs (r := 5) C fkM_X12_23 (nlt rfl) rfl (HG.rR hHy12 (k := 0) (i := 5) rfl rfl) dX12_text_105 ?_
            refine x_iload_n (i := 1) C dX12_text_108 rfl rfl ?_
            refine x_dup2_11 C dX12_text_109 rfl rfl ?_
            refine x_iald C (nlt rfl) rfl rfl (nle rfl) (by omega) (by omega) dX12_text_110 ?_
            refine x_gen (fun v28 ev28 => ?_)
            replace ev28 : v28 = Yy12.1 5 1 := ev28
            have qv28 : (0 : Int) ≤ v28 ∧ v28 ≤ (3 : Int) := by
              rw [ev28]
              exact hHy12.rF (k := 5) (i := 1) (p := (0, 3)) rfl rfl
            have kv28 : v28 = X0.1 5 1 := by rw [ev28, (hGy12 5 1 rfl).1, eYy6, upI_nc (by decide), eYy5, upI_nc (by decide), eYy4, upI_nc (by decide), eYy3, upI_nc (by decide), eYy1, upI_nc (by decide)]
            have mzv28 : v28 = X0.1 5 1 := by rw [ev28, (hGy12 5 1 rfl).1, eYy6, upI_nc (by decide), eYy5, upI_nc (by decide), eYy4, upI_nc (by decide), eYy3, upI_nc (by decide), eYy1, upI_nc (by decide)]
            refine x_iload_n (i := 2) C dX12_text_111 rfl rfl ?_
            refine x_iconst C dX12_text_112 ?_
            refine x_icmp_ne (tgt := 120) C dX12_text_113 (by decide) ⟨by omega, by omega⟩ ⟨by omega, by omega⟩ (fun h29 => ?_) (fun h29 => ?_)
            · refine x_iconst C dX12_text_120 ?_
              refine x_iadd C dX12_text_121 ?_
              refine x_iast C (nlt rfl) rfl rfl (nle rfl) (by omega) (by omega) dX12_text_122 ?_
              refine x_gX (fun Yy30 eYy30 => ?_)
              have hHy30 : HG vM Yy30 := by
                rw [eYy30]
                exact hg_wF hHy12 (p := (0, 3)) rfl ⟨by omega, by omega⟩
              have hFy30 : FR mmWU X0 Yy30 := by
                rw [eYy30]
                exact FR.upI hFy12 (rfl)
              replace eYy30 : Yy30 = upI Yy12 5 1 (v28 + 0) := eYy30
              have hGy30 : FR [(5, some 1)] Yy12 Yy30 := by
                rw [eYy30]
                exact FR.upI FR.rf rfl
              refine x_iload_n (i := 1) C dX12_text_123 rfl rfl ?_
              refine x_lookup (a := 1) (off := 42) (tgt := 166) C dX12_text_124 (by decide) ⟨by omega, by omega⟩ (by decide) (by decide) ?_
              refine x_aload_n (i := 0) C dX12_text_166 rfl rfl ?_
              refine x_aload_n (i := 0) C dX12_text_167 rfl rfl ?_
              refine x_getRs (r := 7) C fkM_X12_29 (nlt rfl) rfl (HG.rR hHy30 (k := 0) (i := 7) rfl rfl) dX12_text_168 ?_
              refine x_bipush C dX12_text_171 (by decide) ?_
              refine x_iload_n (i := 3) C dX12_text_173 rfl rfl ?_
              refine x_callV (As := [.ref 7, .int (iI (10)), .int (iI (2))]) C (by exact (r_store_rules (m := 2) (by decide) (ft0.cg (fun i hi => by show Yy30.1 9 i = Yy12.1 9 i; rw [eYy30, upI_nc (by decide)])) hHy30 FR.rf)) ckX12_274 im_X12_store se_X12_store (nlt rfl) rfl rfl rfl rfl (nle rfl) (by exact ⟨nle rfl, nle rfl⟩) dX12_text_174 ?_
              rintro _ Yy31 ⟨rfl, hHy31, hGy31, sa, sb⟩
              have hFy31 : FR mmWU X0 Yy31 := FR.tr hFy30 hGy31 (by decide)
              refine Wx_st (st' := []) rfl ?_
              refine x_goto (tgt := 192) C dX12_text_177 (by decide) ?_
              refine x_iload_n (i := 3) C dX12_text_192 rfl rfl ?_
              exact x_iret C hQ dX12_text_193 (⟨_, rfl, hHy31, by rw [(hGy31 2 0 rfl).1, eYy30, upI_nc (by decide), (hGy12 2 0 rfl).1, eYy6, upI_nc (by decide), eYy5, upI_nc (by decide), eYy4, upI_at], .inr ⟨rm0, ⟨by rw [(hGy31 3 0 rfl).1, eYy30, upI_nc (by decide)]; exact ft.1, by rw [(hGy31 4 0 rfl).1, eYy30, upI_nc (by decide)]; exact ft.2⟩, .inr ⟨rd1.1, 2, rfl, .inr ⟨by omega, (show ((2 : Nat) : Int) < X0.1 5 1 by omega), (show Yy31.1 5 1 = X0.1 5 1 by rw [(hGy31 5 1 rfl).1, eYy30, upI_at]; omega)⟩, .inr (.inl ⟨rfl, by decide, hFy31, fun p hp => by rw [sb p hp, eYy30, upI_nc (by decide), (hGy12 7 p rfl).1, eYy6, upI_nc (by decide), eYy5, upI_nc (by decide), eYy4, upI_nc (by decide), eYy3, upI_nc (by decide), eYy1, upI_nc (by decide)], ((RLM_of rd1.2.1 rd1.2.2.2).cg (fun i hi => by show Yy31.1 7 (10 * 2 + i) = Yy12.1 10 i; rw [sa i hi, eYy30, upI_nc (by decide)]; exact rd1.2.2.1 i hi))⟩)⟩⟩⟩)
            · refine x_iconst C dX12_text_116 ?_
              refine x_goto (tgt := 121) C dX12_text_117 (by decide) ?_
              refine x_iadd C dX12_text_121 ?_
              refine x_iast C (nlt rfl) rfl rfl (nle rfl) (by omega) (by omega) dX12_text_122 ?_
              refine x_gX (fun Yy32 eYy32 => ?_)
              have hHy32 : HG vM Yy32 := by
                rw [eYy32]
                exact hg_wF hHy12 (p := (0, 3)) rfl ⟨by omega, by omega⟩
              have hFy32 : FR mmWU X0 Yy32 := by
                rw [eYy32]
                exact FR.upI hFy12 (rfl)
              replace eYy32 : Yy32 = upI Yy12 5 1 (v28 + 1) := eYy32
              have hGy32 : FR [(5, some 1)] Yy12 Yy32 := by
                rw [eYy32]
                exact FR.upI FR.rf rfl
              refine x_iload_n (i := 1) C dX12_text_123 rfl rfl ?_
              refine x_lookup (a := 1) (off := 42) (tgt := 166) C dX12_text_124 (by decide) ⟨by omega, by omega⟩ (by decide) (by decide) ?_
              refine x_aload_n (i := 0) C dX12_text_166 rfl rfl ?_
              refine x_aload_n (i := 0) C dX12_text_167 rfl rfl ?_
              refine x_getRs (r := 7) C fkM_X12_29 (nlt rfl) rfl (HG.rR hHy32 (k := 0) (i := 7) rfl rfl) dX12_text_168 ?_
              refine x_bipush C dX12_text_171 (by decide) ?_
              refine x_iload_n (i := 3) C dX12_text_173 rfl rfl ?_
              refine x_callV (As := [.ref 7, .int (iI (10)), .int (iI (2))]) C (by exact (r_store_rules (m := 2) (by decide) (ft0.cg (fun i hi => by show Yy32.1 9 i = Yy12.1 9 i; rw [eYy32, upI_nc (by decide)])) hHy32 FR.rf)) ckX12_274 im_X12_store se_X12_store (nlt rfl) rfl rfl rfl rfl (nle rfl) (by exact ⟨nle rfl, nle rfl⟩) dX12_text_174 ?_
              rintro _ Yy33 ⟨rfl, hHy33, hGy33, sa, sb⟩
              have hFy33 : FR mmWU X0 Yy33 := FR.tr hFy32 hGy33 (by decide)
              refine Wx_st (st' := []) rfl ?_
              refine x_goto (tgt := 192) C dX12_text_177 (by decide) ?_
              refine x_iload_n (i := 3) C dX12_text_192 rfl rfl ?_
              exact x_iret C hQ dX12_text_193 (⟨_, rfl, hHy33, by rw [(hGy33 2 0 rfl).1, eYy32, upI_nc (by decide), (hGy12 2 0 rfl).1, eYy6, upI_nc (by decide), eYy5, upI_nc (by decide), eYy4, upI_at], .inr ⟨rm0, ⟨by rw [(hGy33 3 0 rfl).1, eYy32, upI_nc (by decide)]; exact ft.1, by rw [(hGy33 4 0 rfl).1, eYy32, upI_nc (by decide)]; exact ft.2⟩, .inr ⟨rd1.1, 2, rfl, .inr ⟨by omega, (show ((2 : Nat) : Int) < X0.1 5 1 by omega), (show Yy33.1 5 1 = X0.1 5 1 by rw [(hGy33 5 1 rfl).1, eYy32, upI_at]; omega)⟩, .inr (.inl ⟨rfl, by decide, hFy33, fun p hp => by rw [sb p hp, eYy32, upI_nc (by decide), (hGy12 7 p rfl).1, eYy6, upI_nc (by decide), eYy5, upI_nc (by decide), eYy4, upI_nc (by decide), eYy3, upI_nc (by decide), eYy1, upI_nc (by decide)], ((RLM_of rd1.2.1 rd1.2.2.2).cg (fun i hi => by show Yy33.1 7 (10 * 2 + i) = Yy12.1 10 i; rw [sa i hi, eYy32, upI_nc (by decide)]; exact rd1.2.2.1 i hi))⟩)⟩⟩⟩)
        · have at1 : at_ = -1 := by omega
          refine x_aload_n (i := 0) C dX12_text_93 rfl rfl ?_
          refine x_getRs (r := 5) C fkM_X12_23 (nlt rfl) rfl (HG.rR hHy12 (k := 0) (i := 5) rfl rfl) dX12_text_94 ?_
          refine x_iload_n (i := 1) C dX12_text_97 rfl rfl ?_
          refine x_iald C (nlt rfl) rfl rfl (nle rfl) (by omega) (by omega) dX12_text_98 ?_
          refine x_gen (fun v34 ev34 => ?_)
          replace ev34 : v34 = Yy12.1 5 1 := ev34
          have qv34 : (0 : Int) ≤ v34 ∧ v34 ≤ (3 : Int) := by
            rw [ev34]
            exact hHy12.rF (k := 5) (i := 1) (p := (0, 3)) rfl rfl
          have kv34 : v34 = X0.1 5 1 := by rw [ev34, (hGy12 5 1 rfl).1, eYy6, upI_nc (by decide), eYy5, upI_nc (by decide), eYy4, upI_nc (by decide), eYy3, upI_nc (by decide), eYy1, upI_nc (by decide)]
          have mzv34 : v34 = X0.1 5 1 := by rw [ev34, (hGy12 5 1 rfl).1, eYy6, upI_nc (by decide), eYy5, upI_nc (by decide), eYy4, upI_nc (by decide), eYy3, upI_nc (by decide), eYy1, upI_nc (by decide)]
          refine x_goto (tgt := 103) C dX12_text_99 (by decide) ?_
          refine x_istore_n (i := 3) (lv' := [(3, .int (iI (v34))), (0, .ref 0), (1, .int (iI (1))), (2, .int (iI (at_)))]) C dX12_text_103 rfl (nlt rfl) rfl ?_
          rcases (show v34 = 0 ∨ v34 = 1 ∨ v34 = 2 by omega) with k3 | k3 | k3
          · refine Wx_lv (lv' := [(3, .int (iI (0))), (0, .ref 0), (1, .int (iI (1))), (2, .int (iI (at_)))]) (by simp only [k3]) ?_
            have ft0 := ft0 0 (by decide)
            refine x_aload_n (i := 0) C dX12_text_104 rfl rfl ?_
            refine x_getRs (r := 5) C fkM_X12_23 (nlt rfl) rfl (HG.rR hHy12 (k := 0) (i := 5) rfl rfl) dX12_text_105 ?_
            refine x_iload_n (i := 1) C dX12_text_108 rfl rfl ?_
            refine x_dup2_11 C dX12_text_109 rfl rfl ?_
            refine x_iald C (nlt rfl) rfl rfl (nle rfl) (by omega) (by omega) dX12_text_110 ?_
            refine x_gen (fun v35 ev35 => ?_)
            replace ev35 : v35 = Yy12.1 5 1 := ev35
            have qv35 : (0 : Int) ≤ v35 ∧ v35 ≤ (3 : Int) := by
              rw [ev35]
              exact hHy12.rF (k := 5) (i := 1) (p := (0, 3)) rfl rfl
            have kv35 : v35 = X0.1 5 1 := by rw [ev35, (hGy12 5 1 rfl).1, eYy6, upI_nc (by decide), eYy5, upI_nc (by decide), eYy4, upI_nc (by decide), eYy3, upI_nc (by decide), eYy1, upI_nc (by decide)]
            have mzv35 : v35 = X0.1 5 1 := by rw [ev35, (hGy12 5 1 rfl).1, eYy6, upI_nc (by decide), eYy5, upI_nc (by decide), eYy4, upI_nc (by decide), eYy3, upI_nc (by decide), eYy1, upI_nc (by decide)]
            refine x_iload_n (i := 2) C dX12_text_111 rfl rfl ?_
            refine x_iconst C dX12_text_112 ?_
            refine x_icmp_ne (tgt := 120) C dX12_text_113 (by decide) ⟨by omega, by omega⟩ ⟨by omega, by omega⟩ (fun h36 => ?_) (fun h36 => ?_)
            · refine x_iconst C dX12_text_120 ?_
              refine x_iadd C dX12_text_121 ?_
              refine x_iast C (nlt rfl) rfl rfl (nle rfl) (by omega) (by omega) dX12_text_122 ?_
              refine x_gX (fun Yy37 eYy37 => ?_)
              have hHy37 : HG vM Yy37 := by
                rw [eYy37]
                exact hg_wF hHy12 (p := (0, 3)) rfl ⟨by omega, by omega⟩
              have hFy37 : FR mmWU X0 Yy37 := by
                rw [eYy37]
                exact FR.upI hFy12 (rfl)
              replace eYy37 : Yy37 = upI Yy12 5 1 (v35 + 0) := eYy37
              have hGy37 : FR [(5, some 1)] Yy12 Yy37 := by
                rw [eYy37]
                exact FR.upI FR.rf rfl
              refine x_iload_n (i := 1) C dX12_text_123 rfl rfl ?_
              refine x_lookup (a := 1) (off := 42) (tgt := 166) C dX12_text_124 (by decide) ⟨by omega, by omega⟩ (by decide) (by decide) ?_
              refine x_aload_n (i := 0) C dX12_text_166 rfl rfl ?_
              refine x_aload_n (i := 0) C dX12_text_167 rfl rfl ?_
              refine x_getRs (r := 7) C fkM_X12_29 (nlt rfl) rfl (HG.rR hHy37 (k := 0) (i := 7) rfl rfl) dX12_text_168 ?_
              refine x_bipush C dX12_text_171 (by decide) ?_
              refine x_iload_n (i := 3) C dX12_text_173 rfl rfl ?_
              refine x_callV (As := [.ref 7, .int (iI (10)), .int (iI (0))]) C (by exact (r_store_rules (m := 0) (by decide) (ft0.cg (fun i hi => by show Yy37.1 9 i = Yy12.1 9 i; rw [eYy37, upI_nc (by decide)])) hHy37 FR.rf)) ckX12_274 im_X12_store se_X12_store (nlt rfl) rfl rfl rfl rfl (nle rfl) (by exact ⟨nle rfl, nle rfl⟩) dX12_text_174 ?_
              rintro _ Yy38 ⟨rfl, hHy38, hGy38, sa, sb⟩
              have hFy38 : FR mmWU X0 Yy38 := FR.tr hFy37 hGy38 (by decide)
              refine Wx_st (st' := []) rfl ?_
              refine x_goto (tgt := 192) C dX12_text_177 (by decide) ?_
              refine x_iload_n (i := 3) C dX12_text_192 rfl rfl ?_
              exact x_iret C hQ dX12_text_193 (⟨_, rfl, hHy38, by rw [(hGy38 2 0 rfl).1, eYy37, upI_nc (by decide), (hGy12 2 0 rfl).1, eYy6, upI_nc (by decide), eYy5, upI_nc (by decide), eYy4, upI_at], .inr ⟨rm0, ⟨by rw [(hGy38 3 0 rfl).1, eYy37, upI_nc (by decide)]; exact ft.1, by rw [(hGy38 4 0 rfl).1, eYy37, upI_nc (by decide)]; exact ft.2⟩, .inr ⟨rd1.1, 0, rfl, .inl ⟨at1, (show X0.1 5 1 = ((0 : Nat) : Int) by omega), (show Yy38.1 5 1 = ((0 : Nat) : Int) + 1 by rw [(hGy38 5 1 rfl).1, eYy37, upI_at]; omega)⟩, .inr (.inl ⟨rfl, by decide, hFy38, fun p hp => by rw [sb p hp, eYy37, upI_nc (by decide), (hGy12 7 p rfl).1, eYy6, upI_nc (by decide), eYy5, upI_nc (by decide), eYy4, upI_nc (by decide), eYy3, upI_nc (by decide), eYy1, upI_nc (by decide)], ((RLM_of rd1.2.1 rd1.2.2.2).cg (fun i hi => by show Yy38.1 7 (10 * 0 + i) = Yy12.1 10 i; rw [sa i hi, eYy37, upI_nc (by decide)]; exact rd1.2.2.1 i hi))⟩)⟩⟩⟩)
            · refine x_iconst C dX12_text_116 ?_
              refine x_goto (tgt := 121) C dX12_text_117 (by decide) ?_
              refine x_iadd C dX12_text_121 ?_
              refine x_iast C (nlt rfl) rfl rfl (nle rfl) (by omega) (by omega) dX12_text_122 ?_
              refine x_gX (fun Yy39 eYy39 => ?_)
              have hHy39 : HG vM Yy39 := by
                rw [eYy39]
                exact hg_wF hHy12 (p := (0, 3)) rfl ⟨by omega, by omega⟩
              have hFy39 : FR mmWU X0 Yy39 := by
                rw [eYy39]
                exact FR.upI hFy12 (rfl)
              replace eYy39 : Yy39 = upI Yy12 5 1 (v35 + 1) := eYy39
              have hGy39 : FR [(5, some 1)] Yy12 Yy39 := by
                rw [eYy39]
                exact FR.upI FR.rf rfl
              refine x_iload_n (i := 1) C dX12_text_123 rfl rfl ?_
              refine x_lookup (a := 1) (off := 42) (tgt := 166) C dX12_text_124 (by decide) ⟨by omega, by omega⟩ (by decide) (by decide) ?_
              refine x_aload_n (i := 0) C dX12_text_166 rfl rfl ?_
              refine x_aload_n (i := 0) C dX12_text_167 rfl rfl ?_
              refine x_getRs (r := 7) C fkM_X12_29 (nlt rfl) rfl (HG.rR hHy39 (k := 0) (i := 7) rfl rfl) dX12_text_168 ?_
              refine x_bipush C dX12_text_171 (by decide) ?_
              refine x_iload_n (i := 3) C dX12_text_173 rfl rfl ?_
              refine x_callV (As := [.ref 7, .int (iI (10)), .int (iI (0))]) C (by exact (r_store_rules (m := 0) (by decide) (ft0.cg (fun i hi => by show Yy39.1 9 i = Yy12.1 9 i; rw [eYy39, upI_nc (by decide)])) hHy39 FR.rf)) ckX12_274 im_X12_store se_X12_store (nlt rfl) rfl rfl rfl rfl (nle rfl) (by exact ⟨nle rfl, nle rfl⟩) dX12_text_174 ?_
              rintro _ Yy40 ⟨rfl, hHy40, hGy40, sa, sb⟩
              have hFy40 : FR mmWU X0 Yy40 := FR.tr hFy39 hGy40 (by decide)
              refine Wx_st (st' := []) rfl ?_
              refine x_goto (tgt := 192) C dX12_text_177 (by decide) ?_
              refine x_iload_n (i := 3) C dX12_text_192 rfl rfl ?_
              exact x_iret C hQ dX12_text_193 (⟨_, rfl, hHy40, by rw [(hGy40 2 0 rfl).1, eYy39, upI_nc (by decide), (hGy12 2 0 rfl).1, eYy6, upI_nc (by decide), eYy5, upI_nc (by decide), eYy4, upI_at], .inr ⟨rm0, ⟨by rw [(hGy40 3 0 rfl).1, eYy39, upI_nc (by decide)]; exact ft.1, by rw [(hGy40 4 0 rfl).1, eYy39, upI_nc (by decide)]; exact ft.2⟩, .inr ⟨rd1.1, 0, rfl, .inl ⟨at1, (show X0.1 5 1 = ((0 : Nat) : Int) by omega), (show Yy40.1 5 1 = ((0 : Nat) : Int) + 1 by rw [(hGy40 5 1 rfl).1, eYy39, upI_at]; omega)⟩, .inr (.inl ⟨rfl, by decide, hFy40, fun p hp => by rw [sb p hp, eYy39, upI_nc (by decide), (hGy12 7 p rfl).1, eYy6, upI_nc (by decide), eYy5, upI_nc (by decide), eYy4, upI_nc (by decide), eYy3, upI_nc (by decide), eYy1, upI_nc (by decide)], ((RLM_of rd1.2.1 rd1.2.2.2).cg (fun i hi => by show Yy40.1 7 (10 * 0 + i) = Yy12.1 10 i; rw [sa i hi, eYy39, upI_nc (by decide)]; exact rd1.2.2.1 i hi))⟩)⟩⟩⟩)
          · refine Wx_lv (lv' := [(3, .int (iI (1))), (0, .ref 0), (1, .int (iI (1))), (2, .int (iI (at_)))]) (by simp only [k3]) ?_
            have ft0 := ft0 1 (by decide)
            refine x_aload_n (i := 0) C dX12_text_104 rfl rfl ?_
            refine x_getRs (r := 5) C fkM_X12_23 (nlt rfl) rfl (HG.rR hHy12 (k := 0) (i := 5) rfl rfl) dX12_text_105 ?_
            refine x_iload_n (i := 1) C dX12_text_108 rfl rfl ?_
            refine x_dup2_11 C dX12_text_109 rfl rfl ?_
            refine x_iald C (nlt rfl) rfl rfl (nle rfl) (by omega) (by omega) dX12_text_110 ?_
            refine x_gen (fun v41 ev41 => ?_)
            replace ev41 : v41 = Yy12.1 5 1 := ev41
            have qv41 : (0 : Int) ≤ v41 ∧ v41 ≤ (3 : Int) := by
              rw [ev41]
              exact hHy12.rF (k := 5) (i := 1) (p := (0, 3)) rfl rfl
            have kv41 : v41 = X0.1 5 1 := by rw [ev41, (hGy12 5 1 rfl).1, eYy6, upI_nc (by decide), eYy5, upI_nc (by decide), eYy4, upI_nc (by decide), eYy3, upI_nc (by decide), eYy1, upI_nc (by decide)]
            have mzv41 : v41 = X0.1 5 1 := by rw [ev41, (hGy12 5 1 rfl).1, eYy6, upI_nc (by decide), eYy5, upI_nc (by decide), eYy4, upI_nc (by decide), eYy3, upI_nc (by decide), eYy1, upI_nc (by decide)]
            refine x_iload_n (i := 2) C dX12_text_111 rfl rfl ?_
            refine x_iconst C dX12_text_112 ?_
            refine x_icmp_ne (tgt := 120) C dX12_text_113 (by decide) ⟨by omega, by omega⟩ ⟨by omega, by omega⟩ (fun h42 => ?_) (fun h42 => ?_)
            · refine x_iconst C dX12_text_120 ?_
              refine x_iadd C dX12_text_121 ?_
              refine x_iast C (nlt rfl) rfl rfl (nle rfl) (by omega) (by omega) dX12_text_122 ?_
              refine x_gX (fun Yy43 eYy43 => ?_)
              have hHy43 : HG vM Yy43 := by
                rw [eYy43]
                exact hg_wF hHy12 (p := (0, 3)) rfl ⟨by omega, by omega⟩
              have hFy43 : FR mmWU X0 Yy43 := by
                rw [eYy43]
                exact FR.upI hFy12 (rfl)
              replace eYy43 : Yy43 = upI Yy12 5 1 (v41 + 0) := eYy43
              have hGy43 : FR [(5, some 1)] Yy12 Yy43 := by
                rw [eYy43]
                exact FR.upI FR.rf rfl
              refine x_iload_n (i := 1) C dX12_text_123 rfl rfl ?_
              refine x_lookup (a := 1) (off := 42) (tgt := 166) C dX12_text_124 (by decide) ⟨by omega, by omega⟩ (by decide) (by decide) ?_
              refine x_aload_n (i := 0) C dX12_text_166 rfl rfl ?_
              refine x_aload_n (i := 0) C dX12_text_167 rfl rfl ?_
              refine x_getRs (r := 7) C fkM_X12_29 (nlt rfl) rfl (HG.rR hHy43 (k := 0) (i := 7) rfl rfl) dX12_text_168 ?_
              refine x_bipush C dX12_text_171 (by decide) ?_
              refine x_iload_n (i := 3) C dX12_text_173 rfl rfl ?_
              refine x_callV (As := [.ref 7, .int (iI (10)), .int (iI (1))]) C (by exact (r_store_rules (m := 1) (by decide) (ft0.cg (fun i hi => by show Yy43.1 9 i = Yy12.1 9 i; rw [eYy43, upI_nc (by decide)])) hHy43 FR.rf)) ckX12_274 im_X12_store se_X12_store (nlt rfl) rfl rfl rfl rfl (nle rfl) (by exact ⟨nle rfl, nle rfl⟩) dX12_text_174 ?_
              rintro _ Yy44 ⟨rfl, hHy44, hGy44, sa, sb⟩
              have hFy44 : FR mmWU X0 Yy44 := FR.tr hFy43 hGy44 (by decide)
              refine Wx_st (st' := []) rfl ?_
              refine x_goto (tgt := 192) C dX12_text_177 (by decide) ?_
              refine x_iload_n (i := 3) C dX12_text_192 rfl rfl ?_
              exact x_iret C hQ dX12_text_193 (⟨_, rfl, hHy44, by rw [(hGy44 2 0 rfl).1, eYy43, upI_nc (by decide), (hGy12 2 0 rfl).1, eYy6, upI_nc (by decide), eYy5, upI_nc (by decide), eYy4, upI_at], .inr ⟨rm0, ⟨by rw [(hGy44 3 0 rfl).1, eYy43, upI_nc (by decide)]; exact ft.1, by rw [(hGy44 4 0 rfl).1, eYy43, upI_nc (by decide)]; exact ft.2⟩, .inr ⟨rd1.1, 1, rfl, .inl ⟨at1, (show X0.1 5 1 = ((1 : Nat) : Int) by omega), (show Yy44.1 5 1 = ((1 : Nat) : Int) + 1 by rw [(hGy44 5 1 rfl).1, eYy43, upI_at]; omega)⟩, .inr (.inl ⟨rfl, by decide, hFy44, fun p hp => by rw [sb p hp, eYy43, upI_nc (by decide), (hGy12 7 p rfl).1, eYy6, upI_nc (by decide), eYy5, upI_nc (by decide), eYy4, upI_nc (by decide), eYy3, upI_nc (by decide), eYy1, upI_nc (by decide)], ((RLM_of rd1.2.1 rd1.2.2.2).cg (fun i hi => by show Yy44.1 7 (10 * 1 + i) = Yy12.1 10 i; rw [sa i hi, eYy43, upI_nc (by decide)]; exact rd1.2.2.1 i hi))⟩)⟩⟩⟩)
            · refine x_iconst C dX12_text_116 ?_
              refine x_goto (tgt := 121) C dX12_text_117 (by decide) ?_
              refine x_iadd C dX12_text_121 ?_
              refine x_iast C (nlt rfl) rfl rfl (nle rfl) (by omega) (by omega) dX12_text_122 ?_
              refine x_gX (fun Yy45 eYy45 => ?_)
              have hHy45 : HG vM Yy45 := by
                rw [eYy45]
                exact hg_wF hHy12 (p := (0, 3)) rfl ⟨by omega, by omega⟩
              have hFy45 : FR mmWU X0 Yy45 := by
                rw [eYy45]
                exact FR.upI hFy12 (rfl)
              replace eYy45 : Yy45 = upI Yy12 5 1 (v41 + 1) := eYy45
              have hGy45 : FR [(5, some 1)] Yy12 Yy45 := by
                rw [eYy45]
                exact FR.upI FR.rf rfl
              refine x_iload_n (i := 1) C dX12_text_123 rfl rfl ?_
              refine x_lookup (a := 1) (off := 42) (tgt := 166) C dX12_text_124 (by decide) ⟨by omega, by omega⟩ (by decide) (by decide) ?_
              refine x_aload_n (i := 0) C dX12_text_166 rfl rfl ?_
              refine x_aload_n (i := 0) C dX12_text_167 rfl rfl ?_
              refine x_getRs (r := 7) C fkM_X12_29 (nlt rfl) rfl (HG.rR hHy45 (k := 0) (i := 7) rfl rfl) dX12_text_168 ?_
              refine x_bipush C dX12_text_171 (by decide) ?_
              refine x_iload_n (i := 3) C dX12_text_173 rfl rfl ?_
              refine x_callV (As := [.ref 7, .int (iI (10)), .int (iI (1))]) C (by exact (r_store_rules (m := 1) (by decide) (ft0.cg (fun i hi => by show Yy45.1 9 i = Yy12.1 9 i; rw [eYy45, upI_nc (by decide)])) hHy45 FR.rf)) ckX12_274 im_X12_store se_X12_store (nlt rfl) rfl rfl rfl rfl (nle rfl) (by exact ⟨nle rfl, nle rfl⟩) dX12_text_174 ?_
              rintro _ Yy46 ⟨rfl, hHy46, hGy46, sa, sb⟩
              have hFy46 : FR mmWU X0 Yy46 := FR.tr hFy45 hGy46 (by decide)
              refine Wx_st (st' := []) rfl ?_
              refine x_goto (tgt := 192) C dX12_text_177 (by decide) ?_
              refine x_iload_n (i := 3) C dX12_text_192 rfl rfl ?_
              exact x_iret C hQ dX12_text_193 (⟨_, rfl, hHy46, by rw [(hGy46 2 0 rfl).1, eYy45, upI_nc (by decide), (hGy12 2 0 rfl).1, eYy6, upI_nc (by decide), eYy5, upI_nc (by decide), eYy4, upI_at], .inr ⟨rm0, ⟨by rw [(hGy46 3 0 rfl).1, eYy45, upI_nc (by decide)]; exact ft.1, by rw [(hGy46 4 0 rfl).1, eYy45, upI_nc (by decide)]; exact ft.2⟩, .inr ⟨rd1.1, 1, rfl, .inl ⟨at1, (show X0.1 5 1 = ((1 : Nat) : Int) by omega), (show Yy46.1 5 1 = ((1 : Nat) : Int) + 1 by rw [(hGy46 5 1 rfl).1, eYy45, upI_at]; omega)⟩, .inr (.inl ⟨rfl, by decide, hFy46, fun p hp => by rw [sb p hp, eYy45, upI_nc (by decide), (hGy12 7 p rfl).1, eYy6, upI_nc (by decide), eYy5, upI_nc (by decide), eYy4, upI_nc (by decide), eYy3, upI_nc (by decide), eYy1, upI_nc (by decide)], ((RLM_of rd1.2.1 rd1.2.2.2).cg (fun i hi => by show Yy46.1 7 (10 * 1 + i) = Yy12.1 10 i; rw [sa i hi, eYy45, upI_nc (by decide)]; exact rd1.2.2.1 i hi))⟩)⟩⟩⟩)
          · refine Wx_lv (lv' := [(3, .int (iI (2))), (0, .ref 0), (1, .int (iI (1))), (2, .int (iI (at_)))]) (by simp only [k3]) ?_
            have ft0 := ft0 2 (by decide)
            refine x_aload_n (i := 0) C dX12_text_104 rfl rfl ?_
            refine x_getRs (r := 5) C fkM_X12_23 (nlt rfl) rfl (HG.rR hHy12 (k := 0) (i := 5) rfl rfl) dX12_text_105 ?_
            refine x_iload_n (i := 1) C dX12_text_108 rfl rfl ?_
            refine x_dup2_11 C dX12_text_109 rfl rfl ?_
            refine x_iald C (nlt rfl) rfl rfl (nle rfl) (by omega) (by omega) dX12_text_110 ?_
            refine x_gen (fun v47 ev47 => ?_)
            replace ev47 : v47 = Yy12.1 5 1 := ev47
            have qv47 : (0 : Int) ≤ v47 ∧ v47 ≤ (3 : Int) := by
              rw [ev47]
              exact hHy12.rF (k := 5) (i := 1) (p := (0, 3)) rfl rfl
            have kv47 : v47 = X0.1 5 1 := by rw [ev47, (hGy12 5 1 rfl).1, eYy6, upI_nc (by decide), eYy5, upI_nc (by decide), eYy4, upI_nc (by decide), eYy3, upI_nc (by decide), eYy1, upI_nc (by decide)]
            have mzv47 : v47 = X0.1 5 1 := by rw [ev47, (hGy12 5 1 rfl).1, eYy6, upI_nc (by decide), eYy5, upI_nc (by decide), eYy4, upI_nc (by decide), eYy3, upI_nc (by decide), eYy1, upI_nc (by decide)]
            refine x_iload_n (i := 2) C dX12_text_111 rfl rfl ?_
            refine x_iconst C dX12_text_112 ?_
            refine x_icmp_ne (tgt := 120) C dX12_text_113 (by decide) ⟨by omega, by omega⟩ ⟨by omega, by omega⟩ (fun h48 => ?_) (fun h48 => ?_)
            · refine x_iconst C dX12_text_120 ?_
              refine x_iadd C dX12_text_121 ?_
              refine x_iast C (nlt rfl) rfl rfl (nle rfl) (by omega) (by omega) dX12_text_122 ?_
              refine x_gX (fun Yy49 eYy49 => ?_)
              have hHy49 : HG vM Yy49 := by
                rw [eYy49]
                exact hg_wF hHy12 (p := (0, 3)) rfl ⟨by omega, by omega⟩
              have hFy49 : FR mmWU X0 Yy49 := by
                rw [eYy49]
                exact FR.upI hFy12 (rfl)
              replace eYy49 : Yy49 = upI Yy12 5 1 (v47 + 0) := eYy49
              have hGy49 : FR [(5, some 1)] Yy12 Yy49 := by
                rw [eYy49]
                exact FR.upI FR.rf rfl
              refine x_iload_n (i := 1) C dX12_text_123 rfl rfl ?_
              refine x_lookup (a := 1) (off := 42) (tgt := 166) C dX12_text_124 (by decide) ⟨by omega, by omega⟩ (by decide) (by decide) ?_
              refine x_aload_n (i := 0) C dX12_text_166 rfl rfl ?_
              refine x_aload_n (i := 0) C dX12_text_167 rfl rfl ?_
              refine x_getRs (r := 7) C fkM_X12_29 (nlt rfl) rfl (HG.rR hHy49 (k := 0) (i := 7) rfl rfl) dX12_text_168 ?_
              refine x_bipush C dX12_text_171 (by decide) ?_
              refine x_iload_n (i := 3) C dX12_text_173 rfl rfl ?_
              refine x_callV (As := [.ref 7, .int (iI (10)), .int (iI (2))]) C (by exact (r_store_rules (m := 2) (by decide) (ft0.cg (fun i hi => by show Yy49.1 9 i = Yy12.1 9 i; rw [eYy49, upI_nc (by decide)])) hHy49 FR.rf)) ckX12_274 im_X12_store se_X12_store (nlt rfl) rfl rfl rfl rfl (nle rfl) (by exact ⟨nle rfl, nle rfl⟩) dX12_text_174 ?_
              rintro _ Yy50 ⟨rfl, hHy50, hGy50, sa, sb⟩
              have hFy50 : FR mmWU X0 Yy50 := FR.tr hFy49 hGy50 (by decide)
              refine Wx_st (st' := []) rfl ?_
              refine x_goto (tgt := 192) C dX12_text_177 (by decide) ?_
              refine x_iload_n (i := 3) C dX12_text_192 rfl rfl ?_
              exact x_iret C hQ dX12_text_193 (⟨_, rfl, hHy50, by rw [(hGy50 2 0 rfl).1, eYy49, upI_nc (by decide), (hGy12 2 0 rfl).1, eYy6, upI_nc (by decide), eYy5, upI_nc (by decide), eYy4, upI_at], .inr ⟨rm0, ⟨by rw [(hGy50 3 0 rfl).1, eYy49, upI_nc (by decide)]; exact ft.1, by rw [(hGy50 4 0 rfl).1, eYy49, upI_nc (by decide)]; exact ft.2⟩, .inr ⟨rd1.1, 2, rfl, .inl ⟨at1, (show X0.1 5 1 = ((2 : Nat) : Int) by omega), (show Yy50.1 5 1 = ((2 : Nat) : Int) + 1 by rw [(hGy50 5 1 rfl).1, eYy49, upI_at]; omega)⟩, .inr (.inl ⟨rfl, by decide, hFy50, fun p hp => by rw [sb p hp, eYy49, upI_nc (by decide), (hGy12 7 p rfl).1, eYy6, upI_nc (by decide), eYy5, upI_nc (by decide), eYy4, upI_nc (by decide), eYy3, upI_nc (by decide), eYy1, upI_nc (by decide)], ((RLM_of rd1.2.1 rd1.2.2.2).cg (fun i hi => by show Yy50.1 7 (10 * 2 + i) = Yy12.1 10 i; rw [sa i hi, eYy49, upI_nc (by decide)]; exact rd1.2.2.1 i hi))⟩)⟩⟩⟩)
            · refine x_iconst C dX12_text_116 ?_
              refine x_goto (tgt := 121) C dX12_text_117 (by decide) ?_
              refine x_iadd C dX12_text_121 ?_
              refine x_iast C (nlt rfl) rfl rfl (nle rfl) (by omega) (by omega) dX12_text_122 ?_
              refine x_gX (fun Yy51 eYy51 => ?_)
              have hHy51 : HG vM Yy51 := by
                rw [eYy51]
                exact hg_wF hHy12 (p := (0, 3)) rfl ⟨by omega, by omega⟩
              have hFy51 : FR mmWU X0 Yy51 := by
                rw [eYy51]
                exact FR.upI hFy12 (rfl)
              replace eYy51 : Yy51 = upI Yy12 5 1 (v47 + 1) := eYy51
              have hGy51 : FR [(5, some 1)] Yy12 Yy51 := by
                rw [eYy51]
                exact FR.upI FR.rf rfl
              refine x_iload_n (i := 1) C dX12_text_123 rfl rfl ?_
              refine x_lookup (a := 1) (off := 42) (tgt := 166) C dX12_text_124 (by decide) ⟨by omega, by omega⟩ (by decide) (by decide) ?_
              refine x_aload_n (i := 0) C dX12_text_166 rfl rfl ?_
              refine x_aload_n (i := 0) C dX12_text_167 rfl rfl ?_
              refine x_getRs (r := 7) C fkM_X12_29 (nlt rfl) rfl (HG.rR hHy51 (k := 0) (i := 7) rfl rfl) dX12_text_168 ?_
              refine x_bipush C dX12_text_171 (by decide) ?_
              refine x_iload_n (i := 3) C dX12_text_173 rfl rfl ?_
              refine x_callV (As := [.ref 7, .int (iI (10)), .int (iI (2))]) C (by exact (r_store_rules (m := 2) (by decide) (ft0.cg (fun i hi => by show Yy51.1 9 i = Yy12.1 9 i; rw [eYy51, upI_nc (by decide)])) hHy51 FR.rf)) ckX12_274 im_X12_store se_X12_store (nlt rfl) rfl rfl rfl rfl (nle rfl) (by exact ⟨nle rfl, nle rfl⟩) dX12_text_174 ?_
              rintro _ Yy52 ⟨rfl, hHy52, hGy52, sa, sb⟩
              have hFy52 : FR mmWU X0 Yy52 := FR.tr hFy51 hGy52 (by decide)
              refine Wx_st (st' := []) rfl ?_
              refine x_goto (tgt := 192) C dX12_text_177 (by decide) ?_
              refine x_iload_n (i := 3) C dX12_text_192 rfl rfl ?_
              exact x_iret C hQ dX12_text_193 (⟨_, rfl, hHy52, by rw [(hGy52 2 0 rfl).1, eYy51, upI_nc (by decide), (hGy12 2 0 rfl).1, eYy6, upI_nc (by decide), eYy5, upI_nc (by decide), eYy4, upI_at], .inr ⟨rm0, ⟨by rw [(hGy52 3 0 rfl).1, eYy51, upI_nc (by decide)]; exact ft.1, by rw [(hGy52 4 0 rfl).1, eYy51, upI_nc (by decide)]; exact ft.2⟩, .inr ⟨rd1.1, 2, rfl, .inl ⟨at1, (show X0.1 5 1 = ((2 : Nat) : Int) by omega), (show Yy52.1 5 1 = ((2 : Nat) : Int) + 1 by rw [(hGy52 5 1 rfl).1, eYy51, upI_at]; omega)⟩, .inr (.inl ⟨rfl, by decide, hFy52, fun p hp => by rw [sb p hp, eYy51, upI_nc (by decide), (hGy12 7 p rfl).1, eYy6, upI_nc (by decide), eYy5, upI_nc (by decide), eYy4, upI_nc (by decide), eYy3, upI_nc (by decide), eYy1, upI_nc (by decide)], ((RLM_of rd1.2.1 rd1.2.2.2).cg (fun i hi => by show Yy52.1 7 (10 * 2 + i) = Yy12.1 10 i; rw [sa i hi, eYy51, upI_nc (by decide)]; exact rd1.2.2.1 i hi))⟩)⟩⟩⟩)
      · refine x_iconst C dX12_text_86 ?_
        exact x_iret C hQ dX12_text_87 (⟨_, rfl, hHy12, by rw [(hGy12 2 0 rfl).1, eYy6, upI_nc (by decide), eYy5, upI_nc (by decide), eYy4, upI_at], .inr ⟨rm0, ft, .inl ⟨rfl, rd.elim (fun g => by exfalso; have := g.1; omega) (fun g => g.2), hFy120⟩⟩⟩)
    · refine x_bipush C dX12_text_75 (by decide) ?_
      exact x_iret C hQ dX12_text_77 (⟨_, rfl, hHy6, by rw [eYy6, upI_nc (by decide), eYy5, upI_nc (by decide), eYy4, upI_at], .inl ⟨rfl, fun g => by have g2 := g.2.2; rw [show ((1 : Int)).toNat = 1 from rfl, if_pos rfl] at g2; omega, hFy60, ⟨by rw [eYy6, upI_nc (by decide), eYy5, upI_at], by rw [eYy6, upI_at]⟩⟩⟩)
  · refine x_aload_n (i := 0) C dX12_text_50 rfl rfl ?_
    refine x_getRs (r := 5) C fkM_X12_23 (nlt rfl) rfl (HG.rR hHy6 (k := 0) (i := 5) rfl rfl) dX12_text_51 ?_
    refine x_iload_n (i := 1) C dX12_text_54 rfl rfl ?_
    refine x_iald C (nlt rfl) rfl rfl (nle rfl) (by omega) (by omega) dX12_text_55 ?_
    refine x_gen (fun v53 ev53 => ?_)
    replace ev53 : v53 = Yy6.1 5 1 := ev53
    have qv53 : (0 : Int) ≤ v53 ∧ v53 ≤ (3 : Int) := by
      rw [ev53]
      exact hHy6.rF (k := 5) (i := 1) (p := (0, 3)) rfl rfl
    have kv53 : v53 = X0.1 5 1 := by rw [ev53, eYy6, upI_nc (by decide), eYy5, upI_nc (by decide), eYy4, upI_nc (by decide), eYy3, upI_nc (by decide), eYy1, upI_nc (by decide)]
    have mzv53 : v53 = X0.1 5 1 := by rw [ev53, eYy6, upI_nc (by decide), eYy5, upI_nc (by decide), eYy4, upI_nc (by decide), eYy3, upI_nc (by decide), eYy1, upI_nc (by decide)]
    refine x_iload_n (i := 1) C dX12_text_56 rfl rfl ?_
    refine x_callS (As := [.int (iI (1))]) C (by exact r_mostOf1) ckX12_265 sm_X12_mostOf rfl rfl (nle rfl) (by exact ⟨nle rfl, nle rfl⟩) dX12_text_57 ?_
    rintro _ Xv54 ⟨hxv54, v54, rfl, ev54⟩
    rw [hxv54]
    refine Wx_st (st' := [.int (iI (v54)), .int (iI (v53))]) rfl ?_
    refine x_icmp_ne (tgt := 78) C dX12_text_60 (by decide) ⟨by omega, by omega⟩ ⟨by omega, by omega⟩ (fun h55 => ?_) (fun h55 => ?_)
    · have rm0 : roomM X0 1 at_ := ⟨by decide, by decide, by rw [show ((1 : Int)).toNat = 1 from rfl]; rw [if_pos rfl]; omega⟩
      refine x_aload_n (i := 0) C dX12_text_78 rfl rfl ?_
      refine x_iload_n (i := 1) C dX12_text_79 rfl rfl ?_
      refine x_callV (As := [.int (iI (1))]) C (by exact (r_readText1 ⟨by rw [eYy6, upI_nc (by decide), eYy5, upI_nc (by decide), eYy4, upI_nc (by decide), eYy3, upI_at]; exact z0N, n6, fun i hi => by rw [eYy6, upI_nc (by decide), eYy5, upI_nc (by decide), eYy4, upI_nc (by decide), eYy3, upI_nc (by decide), eYy1, upI_nc (by decide)]; exact hb i hi, hb2⟩ hHy6 FR.rf)) ckX12_271 im_X12_readText se_X12_readText (nlt rfl) rfl rfl rfl rfl (nle rfl) (by exact ⟨nle rfl, nle rfl⟩) dX12_text_80 ?_
      rintro _ Yy56 ⟨v57, rfl, hHy56, hGy56, ft, rd⟩
      have hFy56 : FR mmWU X0 Yy56 := FR.tr hFy6 hGy56 (by decide)
      have hFy560 : FR mmT0 X0 Yy56 := FR.tr hFy60 hGy56 (by decide)
      refine Wx_st (st' := [.int (iI (v57))]) rfl ?_
      refine x_if_ne (tgt := 88) C dX12_text_83 (by decide) ⟨by omega, by omega⟩ (fun h58 => ?_) (fun h58 => ?_)
      · have rd1 := rd.elim (fun g => g.2) (fun g => by exfalso; have := g.1; omega)
        have ft0 := fits_R (a := fun i => Yy56.1 9 i) hHy56 rd1.2.2.1
        refine x_iload_n (i := 2) C dX12_text_88 rfl rfl ?_
        refine x_iconst C dX12_text_89 ?_
        refine x_icmp_ne (tgt := 102) C dX12_text_90 (by decide) ⟨by omega, by omega⟩ ⟨by omega, by omega⟩ (fun h59 => ?_) (fun h59 => ?_)
        · refine x_iload_n (i := 2) C dX12_text_102 rfl rfl ?_
          refine x_istore_n (i := 3) (lv' := [(3, .int (iI (at_))), (0, .ref 0), (1, .int (iI (1))), (2, .int (iI (at_)))]) C dX12_text_103 rfl (nlt rfl) rfl ?_
          rcases (show at_ = 0 ∨ at_ = 1 ∨ at_ = 2 by omega) with k3 | k3 | k3
          · refine Wx_lv (lv' := [(3, .int (iI (0))), (0, .ref 0), (1, .int (iI (1))), (2, .int (iI (at_)))]) (by simp only [k3]) ?_
            have ft0 := ft0 0 (by decide)
            refine x_aload_n (i := 0) C dX12_text_104 rfl rfl ?_
            refine x_getRs (r := 5) C fkM_X12_23 (nlt rfl) rfl (HG.rR hHy56 (k := 0) (i := 5) rfl rfl) dX12_text_105 ?_
            refine x_iload_n (i := 1) C dX12_text_108 rfl rfl ?_
            refine x_dup2_11 C dX12_text_109 rfl rfl ?_
            refine x_iald C (nlt rfl) rfl rfl (nle rfl) (by omega) (by omega) dX12_text_110 ?_
            refine x_gen (fun v60 ev60 => ?_)
            replace ev60 : v60 = Yy56.1 5 1 := ev60
            have qv60 : (0 : Int) ≤ v60 ∧ v60 ≤ (3 : Int) := by
              rw [ev60]
              exact hHy56.rF (k := 5) (i := 1) (p := (0, 3)) rfl rfl
            have kv60 : v60 = X0.1 5 1 := by rw [ev60, (hGy56 5 1 rfl).1, eYy6, upI_nc (by decide), eYy5, upI_nc (by decide), eYy4, upI_nc (by decide), eYy3, upI_nc (by decide), eYy1, upI_nc (by decide)]
            have mzv60 : v60 = X0.1 5 1 := by rw [ev60, (hGy56 5 1 rfl).1, eYy6, upI_nc (by decide), eYy5, upI_nc (by decide), eYy4, upI_nc (by decide), eYy3, upI_nc (by decide), eYy1, upI_nc (by decide)]
            refine x_iload_n (i := 2) C dX12_text_111 rfl rfl ?_
            refine x_iconst C dX12_text_112 ?_
            refine x_icmp_ne (tgt := 120) C dX12_text_113 (by decide) ⟨by omega, by omega⟩ ⟨by omega, by omega⟩ (fun h61 => ?_) (fun h61 => ?_)
            · refine x_iconst C dX12_text_120 ?_
              refine x_iadd C dX12_text_121 ?_
              refine x_iast C (nlt rfl) rfl rfl (nle rfl) (by omega) (by omega) dX12_text_122 ?_
              refine x_gX (fun Yy62 eYy62 => ?_)
              have hHy62 : HG vM Yy62 := by
                rw [eYy62]
                exact hg_wF hHy56 (p := (0, 3)) rfl ⟨by omega, by omega⟩
              have hFy62 : FR mmWU X0 Yy62 := by
                rw [eYy62]
                exact FR.upI hFy56 (rfl)
              replace eYy62 : Yy62 = upI Yy56 5 1 (v60 + 0) := eYy62
              have hGy62 : FR [(5, some 1)] Yy56 Yy62 := by
                rw [eYy62]
                exact FR.upI FR.rf rfl
              refine x_iload_n (i := 1) C dX12_text_123 rfl rfl ?_
              refine x_lookup (a := 1) (off := 42) (tgt := 166) C dX12_text_124 (by decide) ⟨by omega, by omega⟩ (by decide) (by decide) ?_
              refine x_aload_n (i := 0) C dX12_text_166 rfl rfl ?_
              refine x_aload_n (i := 0) C dX12_text_167 rfl rfl ?_
              refine x_getRs (r := 7) C fkM_X12_29 (nlt rfl) rfl (HG.rR hHy62 (k := 0) (i := 7) rfl rfl) dX12_text_168 ?_
              refine x_bipush C dX12_text_171 (by decide) ?_
              refine x_iload_n (i := 3) C dX12_text_173 rfl rfl ?_
              refine x_callV (As := [.ref 7, .int (iI (10)), .int (iI (0))]) C (by exact (r_store_rules (m := 0) (by decide) (ft0.cg (fun i hi => by show Yy62.1 9 i = Yy56.1 9 i; rw [eYy62, upI_nc (by decide)])) hHy62 FR.rf)) ckX12_274 im_X12_store se_X12_store (nlt rfl) rfl rfl rfl rfl (nle rfl) (by exact ⟨nle rfl, nle rfl⟩) dX12_text_174 ?_
              rintro _ Yy63 ⟨rfl, hHy63, hGy63, sa, sb⟩
              have hFy63 : FR mmWU X0 Yy63 := FR.tr hFy62 hGy63 (by decide)
              refine Wx_st (st' := []) rfl ?_
              refine x_goto (tgt := 192) C dX12_text_177 (by decide) ?_
              refine x_iload_n (i := 3) C dX12_text_192 rfl rfl ?_
              exact x_iret C hQ dX12_text_193 (⟨_, rfl, hHy63, by rw [(hGy63 2 0 rfl).1, eYy62, upI_nc (by decide), (hGy56 2 0 rfl).1, eYy6, upI_nc (by decide), eYy5, upI_nc (by decide), eYy4, upI_at], .inr ⟨rm0, ⟨by rw [(hGy63 3 0 rfl).1, eYy62, upI_nc (by decide)]; exact ft.1, by rw [(hGy63 4 0 rfl).1, eYy62, upI_nc (by decide)]; exact ft.2⟩, .inr ⟨rd1.1, 0, rfl, .inr ⟨by omega, (show ((0 : Nat) : Int) < X0.1 5 1 by omega), (show Yy63.1 5 1 = X0.1 5 1 by rw [(hGy63 5 1 rfl).1, eYy62, upI_at]; omega)⟩, .inr (.inl ⟨rfl, by decide, hFy63, fun p hp => by rw [sb p hp, eYy62, upI_nc (by decide), (hGy56 7 p rfl).1, eYy6, upI_nc (by decide), eYy5, upI_nc (by decide), eYy4, upI_nc (by decide), eYy3, upI_nc (by decide), eYy1, upI_nc (by decide)], ((RLM_of rd1.2.1 rd1.2.2.2).cg (fun i hi => by show Yy63.1 7 (10 * 0 + i) = Yy56.1 10 i; rw [sa i hi, eYy62, upI_nc (by decide)]; exact rd1.2.2.1 i hi))⟩)⟩⟩⟩)
            · refine x_iconst C dX12_text_116 ?_
              refine x_goto (tgt := 121) C dX12_text_117 (by decide) ?_
              refine x_iadd C dX12_text_121 ?_
              refine x_iast C (nlt rfl) rfl rfl (nle rfl) (by omega) (by omega) dX12_text_122 ?_
              refine x_gX (fun Yy64 eYy64 => ?_)
              have hHy64 : HG vM Yy64 := by
                rw [eYy64]
                exact hg_wF hHy56 (p := (0, 3)) rfl ⟨by omega, by omega⟩
              have hFy64 : FR mmWU X0 Yy64 := by
                rw [eYy64]
                exact FR.upI hFy56 (rfl)
              replace eYy64 : Yy64 = upI Yy56 5 1 (v60 + 1) := eYy64
              have hGy64 : FR [(5, some 1)] Yy56 Yy64 := by
                rw [eYy64]
                exact FR.upI FR.rf rfl
              refine x_iload_n (i := 1) C dX12_text_123 rfl rfl ?_
              refine x_lookup (a := 1) (off := 42) (tgt := 166) C dX12_text_124 (by decide) ⟨by omega, by omega⟩ (by decide) (by decide) ?_
              refine x_aload_n (i := 0) C dX12_text_166 rfl rfl ?_
              refine x_aload_n (i := 0) C dX12_text_167 rfl rfl ?_
              refine x_getRs (r := 7) C fkM_X12_29 (nlt rfl) rfl (HG.rR hHy64 (k := 0) (i := 7) rfl rfl) dX12_text_168 ?_
              refine x_bipush C dX12_text_171 (by decide) ?_
              refine x_iload_n (i := 3) C dX12_text_173 rfl rfl ?_
              refine x_callV (As := [.ref 7, .int (iI (10)), .int (iI (0))]) C (by exact (r_store_rules (m := 0) (by decide) (ft0.cg (fun i hi => by show Yy64.1 9 i = Yy56.1 9 i; rw [eYy64, upI_nc (by decide)])) hHy64 FR.rf)) ckX12_274 im_X12_store se_X12_store (nlt rfl) rfl rfl rfl rfl (nle rfl) (by exact ⟨nle rfl, nle rfl⟩) dX12_text_174 ?_
              rintro _ Yy65 ⟨rfl, hHy65, hGy65, sa, sb⟩
              have hFy65 : FR mmWU X0 Yy65 := FR.tr hFy64 hGy65 (by decide)
              refine Wx_st (st' := []) rfl ?_
              refine x_goto (tgt := 192) C dX12_text_177 (by decide) ?_
              refine x_iload_n (i := 3) C dX12_text_192 rfl rfl ?_
              exact x_iret C hQ dX12_text_193 (⟨_, rfl, hHy65, by rw [(hGy65 2 0 rfl).1, eYy64, upI_nc (by decide), (hGy56 2 0 rfl).1, eYy6, upI_nc (by decide), eYy5, upI_nc (by decide), eYy4, upI_at], .inr ⟨rm0, ⟨by rw [(hGy65 3 0 rfl).1, eYy64, upI_nc (by decide)]; exact ft.1, by rw [(hGy65 4 0 rfl).1, eYy64, upI_nc (by decide)]; exact ft.2⟩, .inr ⟨rd1.1, 0, rfl, .inr ⟨by omega, (show ((0 : Nat) : Int) < X0.1 5 1 by omega), (show Yy65.1 5 1 = X0.1 5 1 by rw [(hGy65 5 1 rfl).1, eYy64, upI_at]; omega)⟩, .inr (.inl ⟨rfl, by decide, hFy65, fun p hp => by rw [sb p hp, eYy64, upI_nc (by decide), (hGy56 7 p rfl).1, eYy6, upI_nc (by decide), eYy5, upI_nc (by decide), eYy4, upI_nc (by decide), eYy3, upI_nc (by decide), eYy1, upI_nc (by decide)], ((RLM_of rd1.2.1 rd1.2.2.2).cg (fun i hi => by show Yy65.1 7 (10 * 0 + i) = Yy56.1 10 i; rw [sa i hi, eYy64, upI_nc (by decide)]; exact rd1.2.2.1 i hi))⟩)⟩⟩⟩)
          · refine Wx_lv (lv' := [(3, .int (iI (1))), (0, .ref 0), (1, .int (iI (1))), (2, .int (iI (at_)))]) (by simp only [k3]) ?_
            have ft0 := ft0 1 (by decide)
            refine x_aload_n (i := 0) C dX12_text_104 rfl rfl ?_
            refine x_getRs (r := 5) C fkM_X12_23 (nlt rfl) rfl (HG.rR hHy56 (k := 0) (i := 5) rfl rfl) dX12_text_105 ?_
            refine x_iload_n (i := 1) C dX12_text_108 rfl rfl ?_
            refine x_dup2_11 C dX12_text_109 rfl rfl ?_
            refine x_iald C (nlt rfl) rfl rfl (nle rfl) (by omega) (by omega) dX12_text_110 ?_
            refine x_gen (fun v66 ev66 => ?_)
            replace ev66 : v66 = Yy56.1 5 1 := ev66
            have qv66 : (0 : Int) ≤ v66 ∧ v66 ≤ (3 : Int) := by
              rw [ev66]
              exact hHy56.rF (k := 5) (i := 1) (p := (0, 3)) rfl rfl
            have kv66 : v66 = X0.1 5 1 := by rw [ev66, (hGy56 5 1 rfl).1, eYy6, upI_nc (by decide), eYy5, upI_nc (by decide), eYy4, upI_nc (by decide), eYy3, upI_nc (by decide), eYy1, upI_nc (by decide)]
            have mzv66 : v66 = X0.1 5 1 := by rw [ev66, (hGy56 5 1 rfl).1, eYy6, upI_nc (by decide), eYy5, upI_nc (by decide), eYy4, upI_nc (by decide), eYy3, upI_nc (by decide), eYy1, upI_nc (by decide)]
            refine x_iload_n (i := 2) C dX12_text_111 rfl rfl ?_
            refine x_iconst C dX12_text_112 ?_
            refine x_icmp_ne (tgt := 120) C dX12_text_113 (by decide) ⟨by omega, by omega⟩ ⟨by omega, by omega⟩ (fun h67 => ?_) (fun h67 => ?_)
            · refine x_iconst C dX12_text_120 ?_
              refine x_iadd C dX12_text_121 ?_
              refine x_iast C (nlt rfl) rfl rfl (nle rfl) (by omega) (by omega) dX12_text_122 ?_
              refine x_gX (fun Yy68 eYy68 => ?_)
              have hHy68 : HG vM Yy68 := by
                rw [eYy68]
                exact hg_wF hHy56 (p := (0, 3)) rfl ⟨by omega, by omega⟩
              have hFy68 : FR mmWU X0 Yy68 := by
                rw [eYy68]
                exact FR.upI hFy56 (rfl)
              replace eYy68 : Yy68 = upI Yy56 5 1 (v66 + 0) := eYy68
              have hGy68 : FR [(5, some 1)] Yy56 Yy68 := by
                rw [eYy68]
                exact FR.upI FR.rf rfl
              refine x_iload_n (i := 1) C dX12_text_123 rfl rfl ?_
              refine x_lookup (a := 1) (off := 42) (tgt := 166) C dX12_text_124 (by decide) ⟨by omega, by omega⟩ (by decide) (by decide) ?_
              refine x_aload_n (i := 0) C dX12_text_166 rfl rfl ?_
              refine x_aload_n (i := 0) C dX12_text_167 rfl rfl ?_
              refine x_getRs (r := 7) C fkM_X12_29 (nlt rfl) rfl (HG.rR hHy68 (k := 0) (i := 7) rfl rfl) dX12_text_168 ?_
              refine x_bipush C dX12_text_171 (by decide) ?_
              refine x_iload_n (i := 3) C dX12_text_173 rfl rfl ?_
              refine x_callV (As := [.ref 7, .int (iI (10)), .int (iI (1))]) C (by exact (r_store_rules (m := 1) (by decide) (ft0.cg (fun i hi => by show Yy68.1 9 i = Yy56.1 9 i; rw [eYy68, upI_nc (by decide)])) hHy68 FR.rf)) ckX12_274 im_X12_store se_X12_store (nlt rfl) rfl rfl rfl rfl (nle rfl) (by exact ⟨nle rfl, nle rfl⟩) dX12_text_174 ?_
              rintro _ Yy69 ⟨rfl, hHy69, hGy69, sa, sb⟩
              have hFy69 : FR mmWU X0 Yy69 := FR.tr hFy68 hGy69 (by decide)
              refine Wx_st (st' := []) rfl ?_
              refine x_goto (tgt := 192) C dX12_text_177 (by decide) ?_
              refine x_iload_n (i := 3) C dX12_text_192 rfl rfl ?_
              exact x_iret C hQ dX12_text_193 (⟨_, rfl, hHy69, by rw [(hGy69 2 0 rfl).1, eYy68, upI_nc (by decide), (hGy56 2 0 rfl).1, eYy6, upI_nc (by decide), eYy5, upI_nc (by decide), eYy4, upI_at], .inr ⟨rm0, ⟨by rw [(hGy69 3 0 rfl).1, eYy68, upI_nc (by decide)]; exact ft.1, by rw [(hGy69 4 0 rfl).1, eYy68, upI_nc (by decide)]; exact ft.2⟩, .inr ⟨rd1.1, 1, rfl, .inr ⟨by omega, (show ((1 : Nat) : Int) < X0.1 5 1 by omega), (show Yy69.1 5 1 = X0.1 5 1 by rw [(hGy69 5 1 rfl).1, eYy68, upI_at]; omega)⟩, .inr (.inl ⟨rfl, by decide, hFy69, fun p hp => by rw [sb p hp, eYy68, upI_nc (by decide), (hGy56 7 p rfl).1, eYy6, upI_nc (by decide), eYy5, upI_nc (by decide), eYy4, upI_nc (by decide), eYy3, upI_nc (by decide), eYy1, upI_nc (by decide)], ((RLM_of rd1.2.1 rd1.2.2.2).cg (fun i hi => by show Yy69.1 7 (10 * 1 + i) = Yy56.1 10 i; rw [sa i hi, eYy68, upI_nc (by decide)]; exact rd1.2.2.1 i hi))⟩)⟩⟩⟩)
            · refine x_iconst C dX12_text_116 ?_
              refine x_goto (tgt := 121) C dX12_text_117 (by decide) ?_
              refine x_iadd C dX12_text_121 ?_
              refine x_iast C (nlt rfl) rfl rfl (nle rfl) (by omega) (by omega) dX12_text_122 ?_
              refine x_gX (fun Yy70 eYy70 => ?_)
              have hHy70 : HG vM Yy70 := by
                rw [eYy70]
                exact hg_wF hHy56 (p := (0, 3)) rfl ⟨by omega, by omega⟩
              have hFy70 : FR mmWU X0 Yy70 := by
                rw [eYy70]
                exact FR.upI hFy56 (rfl)
              replace eYy70 : Yy70 = upI Yy56 5 1 (v66 + 1) := eYy70
              have hGy70 : FR [(5, some 1)] Yy56 Yy70 := by
                rw [eYy70]
                exact FR.upI FR.rf rfl
              refine x_iload_n (i := 1) C dX12_text_123 rfl rfl ?_
              refine x_lookup (a := 1) (off := 42) (tgt := 166) C dX12_text_124 (by decide) ⟨by omega, by omega⟩ (by decide) (by decide) ?_
              refine x_aload_n (i := 0) C dX12_text_166 rfl rfl ?_
              refine x_aload_n (i := 0) C dX12_text_167 rfl rfl ?_
              refine x_getRs (r := 7) C fkM_X12_29 (nlt rfl) rfl (HG.rR hHy70 (k := 0) (i := 7) rfl rfl) dX12_text_168 ?_
              refine x_bipush C dX12_text_171 (by decide) ?_
              refine x_iload_n (i := 3) C dX12_text_173 rfl rfl ?_
              refine x_callV (As := [.ref 7, .int (iI (10)), .int (iI (1))]) C (by exact (r_store_rules (m := 1) (by decide) (ft0.cg (fun i hi => by show Yy70.1 9 i = Yy56.1 9 i; rw [eYy70, upI_nc (by decide)])) hHy70 FR.rf)) ckX12_274 im_X12_store se_X12_store (nlt rfl) rfl rfl rfl rfl (nle rfl) (by exact ⟨nle rfl, nle rfl⟩) dX12_text_174 ?_
              rintro _ Yy71 ⟨rfl, hHy71, hGy71, sa, sb⟩
              have hFy71 : FR mmWU X0 Yy71 := FR.tr hFy70 hGy71 (by decide)
              refine Wx_st (st' := []) rfl ?_
              refine x_goto (tgt := 192) C dX12_text_177 (by decide) ?_
              refine x_iload_n (i := 3) C dX12_text_192 rfl rfl ?_
              exact x_iret C hQ dX12_text_193 (⟨_, rfl, hHy71, by rw [(hGy71 2 0 rfl).1, eYy70, upI_nc (by decide), (hGy56 2 0 rfl).1, eYy6, upI_nc (by decide), eYy5, upI_nc (by decide), eYy4, upI_at], .inr ⟨rm0, ⟨by rw [(hGy71 3 0 rfl).1, eYy70, upI_nc (by decide)]; exact ft.1, by rw [(hGy71 4 0 rfl).1, eYy70, upI_nc (by decide)]; exact ft.2⟩, .inr ⟨rd1.1, 1, rfl, .inr ⟨by omega, (show ((1 : Nat) : Int) < X0.1 5 1 by omega), (show Yy71.1 5 1 = X0.1 5 1 by rw [(hGy71 5 1 rfl).1, eYy70, upI_at]; omega)⟩, .inr (.inl ⟨rfl, by decide, hFy71, fun p hp => by rw [sb p hp, eYy70, upI_nc (by decide), (hGy56 7 p rfl).1, eYy6, upI_nc (by decide), eYy5, upI_nc (by decide), eYy4, upI_nc (by decide), eYy3, upI_nc (by decide), eYy1, upI_nc (by decide)], ((RLM_of rd1.2.1 rd1.2.2.2).cg (fun i hi => by show Yy71.1 7 (10 * 1 + i) = Yy56.1 10 i; rw [sa i hi, eYy70, upI_nc (by decide)]; exact rd1.2.2.1 i hi))⟩)⟩⟩⟩)
          · refine Wx_lv (lv' := [(3, .int (iI (2))), (0, .ref 0), (1, .int (iI (1))), (2, .int (iI (at_)))]) (by simp only [k3]) ?_
            have ft0 := ft0 2 (by decide)
            refine x_aload_n (i := 0) C dX12_text_104 rfl rfl ?_
            refine x_getRs (r := 5) C fkM_X12_23 (nlt rfl) rfl (HG.rR hHy56 (k := 0) (i := 5) rfl rfl) dX12_text_105 ?_
            refine x_iload_n (i := 1) C dX12_text_108 rfl rfl ?_
            refine x_dup2_11 C dX12_text_109 rfl rfl ?_
            refine x_iald C (nlt rfl) rfl rfl (nle rfl) (by omega) (by omega) dX12_text_110 ?_
            refine x_gen (fun v72 ev72 => ?_)
            replace ev72 : v72 = Yy56.1 5 1 := ev72
            have qv72 : (0 : Int) ≤ v72 ∧ v72 ≤ (3 : Int) := by
              rw [ev72]
              exact hHy56.rF (k := 5) (i := 1) (p := (0, 3)) rfl rfl
            have kv72 : v72 = X0.1 5 1 := by rw [ev72, (hGy56 5 1 rfl).1, eYy6, upI_nc (by decide), eYy5, upI_nc (by decide), eYy4, upI_nc (by decide), eYy3, upI_nc (by decide), eYy1, upI_nc (by decide)]
            have mzv72 : v72 = X0.1 5 1 := by rw [ev72, (hGy56 5 1 rfl).1, eYy6, upI_nc (by decide), eYy5, upI_nc (by decide), eYy4, upI_nc (by decide), eYy3, upI_nc (by decide), eYy1, upI_nc (by decide)]
            refine x_iload_n (i := 2) C dX12_text_111 rfl rfl ?_
            refine x_iconst C dX12_text_112 ?_
            refine x_icmp_ne (tgt := 120) C dX12_text_113 (by decide) ⟨by omega, by omega⟩ ⟨by omega, by omega⟩ (fun h73 => ?_) (fun h73 => ?_)
            · refine x_iconst C dX12_text_120 ?_
              refine x_iadd C dX12_text_121 ?_
              refine x_iast C (nlt rfl) rfl rfl (nle rfl) (by omega) (by omega) dX12_text_122 ?_
              refine x_gX (fun Yy74 eYy74 => ?_)
              have hHy74 : HG vM Yy74 := by
                rw [eYy74]
                exact hg_wF hHy56 (p := (0, 3)) rfl ⟨by omega, by omega⟩
              have hFy74 : FR mmWU X0 Yy74 := by
                rw [eYy74]
                exact FR.upI hFy56 (rfl)
              replace eYy74 : Yy74 = upI Yy56 5 1 (v72 + 0) := eYy74
              have hGy74 : FR [(5, some 1)] Yy56 Yy74 := by
                rw [eYy74]
                exact FR.upI FR.rf rfl
              refine x_iload_n (i := 1) C dX12_text_123 rfl rfl ?_
              refine x_lookup (a := 1) (off := 42) (tgt := 166) C dX12_text_124 (by decide) ⟨by omega, by omega⟩ (by decide) (by decide) ?_
              refine x_aload_n (i := 0) C dX12_text_166 rfl rfl ?_
              refine x_aload_n (i := 0) C dX12_text_167 rfl rfl ?_
              refine x_getRs (r := 7) C fkM_X12_29 (nlt rfl) rfl (HG.rR hHy74 (k := 0) (i := 7) rfl rfl) dX12_text_168 ?_
              refine x_bipush C dX12_text_171 (by decide) ?_
              refine x_iload_n (i := 3) C dX12_text_173 rfl rfl ?_
              refine x_callV (As := [.ref 7, .int (iI (10)), .int (iI (2))]) C (by exact (r_store_rules (m := 2) (by decide) (ft0.cg (fun i hi => by show Yy74.1 9 i = Yy56.1 9 i; rw [eYy74, upI_nc (by decide)])) hHy74 FR.rf)) ckX12_274 im_X12_store se_X12_store (nlt rfl) rfl rfl rfl rfl (nle rfl) (by exact ⟨nle rfl, nle rfl⟩) dX12_text_174 ?_
              rintro _ Yy75 ⟨rfl, hHy75, hGy75, sa, sb⟩
              have hFy75 : FR mmWU X0 Yy75 := FR.tr hFy74 hGy75 (by decide)
              refine Wx_st (st' := []) rfl ?_
              refine x_goto (tgt := 192) C dX12_text_177 (by decide) ?_
              refine x_iload_n (i := 3) C dX12_text_192 rfl rfl ?_
              exact x_iret C hQ dX12_text_193 (⟨_, rfl, hHy75, by rw [(hGy75 2 0 rfl).1, eYy74, upI_nc (by decide), (hGy56 2 0 rfl).1, eYy6, upI_nc (by decide), eYy5, upI_nc (by decide), eYy4, upI_at], .inr ⟨rm0, ⟨by rw [(hGy75 3 0 rfl).1, eYy74, upI_nc (by decide)]; exact ft.1, by rw [(hGy75 4 0 rfl).1, eYy74, upI_nc (by decide)]; exact ft.2⟩, .inr ⟨rd1.1, 2, rfl, .inr ⟨by omega, (show ((2 : Nat) : Int) < X0.1 5 1 by omega), (show Yy75.1 5 1 = X0.1 5 1 by rw [(hGy75 5 1 rfl).1, eYy74, upI_at]; omega)⟩, .inr (.inl ⟨rfl, by decide, hFy75, fun p hp => by rw [sb p hp, eYy74, upI_nc (by decide), (hGy56 7 p rfl).1, eYy6, upI_nc (by decide), eYy5, upI_nc (by decide), eYy4, upI_nc (by decide), eYy3, upI_nc (by decide), eYy1, upI_nc (by decide)], ((RLM_of rd1.2.1 rd1.2.2.2).cg (fun i hi => by show Yy75.1 7 (10 * 2 + i) = Yy56.1 10 i; rw [sa i hi, eYy74, upI_nc (by decide)]; exact rd1.2.2.1 i hi))⟩)⟩⟩⟩)
            · refine x_iconst C dX12_text_116 ?_
              refine x_goto (tgt := 121) C dX12_text_117 (by decide) ?_
              refine x_iadd C dX12_text_121 ?_
              refine x_iast C (nlt rfl) rfl rfl (nle rfl) (by omega) (by omega) dX12_text_122 ?_
              refine x_gX (fun Yy76 eYy76 => ?_)
              have hHy76 : HG vM Yy76 := by
                rw [eYy76]
                exact hg_wF hHy56 (p := (0, 3)) rfl ⟨by omega, by omega⟩
              have hFy76 : FR mmWU X0 Yy76 := by
                rw [eYy76]
                exact FR.upI hFy56 (rfl)
              replace eYy76 : Yy76 = upI Yy56 5 1 (v72 + 1) := eYy76
              have hGy76 : FR [(5, some 1)] Yy56 Yy76 := by
                rw [eYy76]
                exact FR.upI FR.rf rfl
              refine x_iload_n (i := 1) C dX12_text_123 rfl rfl ?_
              refine x_lookup (a := 1) (off := 42) (tgt := 166) C dX12_text_124 (by decide) ⟨by omega, by omega⟩ (by decide) (by decide) ?_
              refine x_aload_n (i := 0) C dX12_text_166 rfl rfl ?_
              refine x_aload_n (i := 0) C dX12_text_167 rfl rfl ?_
              refine x_getRs (r := 7) C fkM_X12_29 (nlt rfl) rfl (HG.rR hHy76 (k := 0) (i := 7) rfl rfl) dX12_text_168 ?_
              refine x_bipush C dX12_text_171 (by decide) ?_
              refine x_iload_n (i := 3) C dX12_text_173 rfl rfl ?_
              refine x_callV (As := [.ref 7, .int (iI (10)), .int (iI (2))]) C (by exact (r_store_rules (m := 2) (by decide) (ft0.cg (fun i hi => by show Yy76.1 9 i = Yy56.1 9 i; rw [eYy76, upI_nc (by decide)])) hHy76 FR.rf)) ckX12_274 im_X12_store se_X12_store (nlt rfl) rfl rfl rfl rfl (nle rfl) (by exact ⟨nle rfl, nle rfl⟩) dX12_text_174 ?_
              rintro _ Yy77 ⟨rfl, hHy77, hGy77, sa, sb⟩
              have hFy77 : FR mmWU X0 Yy77 := FR.tr hFy76 hGy77 (by decide)
              refine Wx_st (st' := []) rfl ?_
              refine x_goto (tgt := 192) C dX12_text_177 (by decide) ?_
              refine x_iload_n (i := 3) C dX12_text_192 rfl rfl ?_
              exact x_iret C hQ dX12_text_193 (⟨_, rfl, hHy77, by rw [(hGy77 2 0 rfl).1, eYy76, upI_nc (by decide), (hGy56 2 0 rfl).1, eYy6, upI_nc (by decide), eYy5, upI_nc (by decide), eYy4, upI_at], .inr ⟨rm0, ⟨by rw [(hGy77 3 0 rfl).1, eYy76, upI_nc (by decide)]; exact ft.1, by rw [(hGy77 4 0 rfl).1, eYy76, upI_nc (by decide)]; exact ft.2⟩, .inr ⟨rd1.1, 2, rfl, .inr ⟨by omega, (show ((2 : Nat) : Int) < X0.1 5 1 by omega), (show Yy77.1 5 1 = X0.1 5 1 by rw [(hGy77 5 1 rfl).1, eYy76, upI_at]; omega)⟩, .inr (.inl ⟨rfl, by decide, hFy77, fun p hp => by rw [sb p hp, eYy76, upI_nc (by decide), (hGy56 7 p rfl).1, eYy6, upI_nc (by decide), eYy5, upI_nc (by decide), eYy4, upI_nc (by decide), eYy3, upI_nc (by decide), eYy1, upI_nc (by decide)], ((RLM_of rd1.2.1 rd1.2.2.2).cg (fun i hi => by show Yy77.1 7 (10 * 2 + i) = Yy56.1 10 i; rw [sa i hi, eYy76, upI_nc (by decide)]; exact rd1.2.2.1 i hi))⟩)⟩⟩⟩)
        · have at1 : at_ = -1 := by omega
          refine x_aload_n (i := 0) C dX12_text_93 rfl rfl ?_
          refine x_getRs (r := 5) C fkM_X12_23 (nlt rfl) rfl (HG.rR hHy56 (k := 0) (i := 5) rfl rfl) dX12_text_94 ?_
          refine x_iload_n (i := 1) C dX12_text_97 rfl rfl ?_
          refine x_iald C (nlt rfl) rfl rfl (nle rfl) (by omega) (by omega) dX12_text_98 ?_
          refine x_gen (fun v78 ev78 => ?_)
          replace ev78 : v78 = Yy56.1 5 1 := ev78
          have qv78 : (0 : Int) ≤ v78 ∧ v78 ≤ (3 : Int) := by
            rw [ev78]
            exact hHy56.rF (k := 5) (i := 1) (p := (0, 3)) rfl rfl
          have kv78 : v78 = X0.1 5 1 := by rw [ev78, (hGy56 5 1 rfl).1, eYy6, upI_nc (by decide), eYy5, upI_nc (by decide), eYy4, upI_nc (by decide), eYy3, upI_nc (by decide), eYy1, upI_nc (by decide)]
          have mzv78 : v78 = X0.1 5 1 := by rw [ev78, (hGy56 5 1 rfl).1, eYy6, upI_nc (by decide), eYy5, upI_nc (by decide), eYy4, upI_nc (by decide), eYy3, upI_nc (by decide), eYy1, upI_nc (by decide)]
          refine x_goto (tgt := 103) C dX12_text_99 (by decide) ?_
          refine x_istore_n (i := 3) (lv' := [(3, .int (iI (v78))), (0, .ref 0), (1, .int (iI (1))), (2, .int (iI (at_)))]) C dX12_text_103 rfl (nlt rfl) rfl ?_
          rcases (show v78 = 0 ∨ v78 = 1 ∨ v78 = 2 by omega) with k3 | k3 | k3
          · refine Wx_lv (lv' := [(3, .int (iI (0))), (0, .ref 0), (1, .int (iI (1))), (2, .int (iI (at_)))]) (by simp only [k3]) ?_
            have ft0 := ft0 0 (by decide)
            refine x_aload_n (i := 0) C dX12_text_104 rfl rfl ?_
            refine x_getRs (r := 5) C fkM_X12_23 (nlt rfl) rfl (HG.rR hHy56 (k := 0) (i := 5) rfl rfl) dX12_text_105 ?_
            refine x_iload_n (i := 1) C dX12_text_108 rfl rfl ?_
            refine x_dup2_11 C dX12_text_109 rfl rfl ?_
            refine x_iald C (nlt rfl) rfl rfl (nle rfl) (by omega) (by omega) dX12_text_110 ?_
            refine x_gen (fun v79 ev79 => ?_)
            replace ev79 : v79 = Yy56.1 5 1 := ev79
            have qv79 : (0 : Int) ≤ v79 ∧ v79 ≤ (3 : Int) := by
              rw [ev79]
              exact hHy56.rF (k := 5) (i := 1) (p := (0, 3)) rfl rfl
            have kv79 : v79 = X0.1 5 1 := by rw [ev79, (hGy56 5 1 rfl).1, eYy6, upI_nc (by decide), eYy5, upI_nc (by decide), eYy4, upI_nc (by decide), eYy3, upI_nc (by decide), eYy1, upI_nc (by decide)]
            have mzv79 : v79 = X0.1 5 1 := by rw [ev79, (hGy56 5 1 rfl).1, eYy6, upI_nc (by decide), eYy5, upI_nc (by decide), eYy4, upI_nc (by decide), eYy3, upI_nc (by decide), eYy1, upI_nc (by decide)]
            refine x_iload_n (i := 2) C dX12_text_111 rfl rfl ?_
            refine x_iconst C dX12_text_112 ?_
            refine x_icmp_ne (tgt := 120) C dX12_text_113 (by decide) ⟨by omega, by omega⟩ ⟨by omega, by omega⟩ (fun h80 => ?_) (fun h80 => ?_)
            · refine x_iconst C dX12_text_120 ?_
              refine x_iadd C dX12_text_121 ?_
              refine x_iast C (nlt rfl) rfl rfl (nle rfl) (by omega) (by omega) dX12_text_122 ?_
              refine x_gX (fun Yy81 eYy81 => ?_)
              have hHy81 : HG vM Yy81 := by
                rw [eYy81]
                exact hg_wF hHy56 (p := (0, 3)) rfl ⟨by omega, by omega⟩
              have hFy81 : FR mmWU X0 Yy81 := by
                rw [eYy81]
                exact FR.upI hFy56 (rfl)
              replace eYy81 : Yy81 = upI Yy56 5 1 (v79 + 0) := eYy81
              have hGy81 : FR [(5, some 1)] Yy56 Yy81 := by
                rw [eYy81]
                exact FR.upI FR.rf rfl
              refine x_iload_n (i := 1) C dX12_text_123 rfl rfl ?_
              refine x_lookup (a := 1) (off := 42) (tgt := 166) C dX12_text_124 (by decide) ⟨by omega, by omega⟩ (by decide) (by decide) ?_
              refine x_aload_n (i := 0) C dX12_text_166 rfl rfl ?_
              refine x_aload_n (i := 0) C dX12_text_167 rfl rfl ?_
              refine x_getRs (r := 7) C fkM_X12_29 (nlt rfl) rfl (HG.rR hHy81 (k := 0) (i := 7) rfl rfl) dX12_text_168 ?_
              refine x_bipush C dX12_text_171 (by decide) ?_
              refine x_iload_n (i := 3) C dX12_text_173 rfl rfl ?_
              refine x_callV (As := [.ref 7, .int (iI (10)), .int (iI (0))]) C (by exact (r_store_rules (m := 0) (by decide) (ft0.cg (fun i hi => by show Yy81.1 9 i = Yy56.1 9 i; rw [eYy81, upI_nc (by decide)])) hHy81 FR.rf)) ckX12_274 im_X12_store se_X12_store (nlt rfl) rfl rfl rfl rfl (nle rfl) (by exact ⟨nle rfl, nle rfl⟩) dX12_text_174 ?_
              rintro _ Yy82 ⟨rfl, hHy82, hGy82, sa, sb⟩
              have hFy82 : FR mmWU X0 Yy82 := FR.tr hFy81 hGy82 (by decide)
              refine Wx_st (st' := []) rfl ?_
              refine x_goto (tgt := 192) C dX12_text_177 (by decide) ?_
              refine x_iload_n (i := 3) C dX12_text_192 rfl rfl ?_
              exact x_iret C hQ dX12_text_193 (⟨_, rfl, hHy82, by rw [(hGy82 2 0 rfl).1, eYy81, upI_nc (by decide), (hGy56 2 0 rfl).1, eYy6, upI_nc (by decide), eYy5, upI_nc (by decide), eYy4, upI_at], .inr ⟨rm0, ⟨by rw [(hGy82 3 0 rfl).1, eYy81, upI_nc (by decide)]; exact ft.1, by rw [(hGy82 4 0 rfl).1, eYy81, upI_nc (by decide)]; exact ft.2⟩, .inr ⟨rd1.1, 0, rfl, .inl ⟨at1, (show X0.1 5 1 = ((0 : Nat) : Int) by omega), (show Yy82.1 5 1 = ((0 : Nat) : Int) + 1 by rw [(hGy82 5 1 rfl).1, eYy81, upI_at]; omega)⟩, .inr (.inl ⟨rfl, by decide, hFy82, fun p hp => by rw [sb p hp, eYy81, upI_nc (by decide), (hGy56 7 p rfl).1, eYy6, upI_nc (by decide), eYy5, upI_nc (by decide), eYy4, upI_nc (by decide), eYy3, upI_nc (by decide), eYy1, upI_nc (by decide)], ((RLM_of rd1.2.1 rd1.2.2.2).cg (fun i hi => by show Yy82.1 7 (10 * 0 + i) = Yy56.1 10 i; rw [sa i hi, eYy81, upI_nc (by decide)]; exact rd1.2.2.1 i hi))⟩)⟩⟩⟩)
            · refine x_iconst C dX12_text_116 ?_
              refine x_goto (tgt := 121) C dX12_text_117 (by decide) ?_
              refine x_iadd C dX12_text_121 ?_
              refine x_iast C (nlt rfl) rfl rfl (nle rfl) (by omega) (by omega) dX12_text_122 ?_
              refine x_gX (fun Yy83 eYy83 => ?_)
              have hHy83 : HG vM Yy83 := by
                rw [eYy83]
                exact hg_wF hHy56 (p := (0, 3)) rfl ⟨by omega, by omega⟩
              have hFy83 : FR mmWU X0 Yy83 := by
                rw [eYy83]
                exact FR.upI hFy56 (rfl)
              replace eYy83 : Yy83 = upI Yy56 5 1 (v79 + 1) := eYy83
              have hGy83 : FR [(5, some 1)] Yy56 Yy83 := by
                rw [eYy83]
                exact FR.upI FR.rf rfl
              refine x_iload_n (i := 1) C dX12_text_123 rfl rfl ?_
              refine x_lookup (a := 1) (off := 42) (tgt := 166) C dX12_text_124 (by decide) ⟨by omega, by omega⟩ (by decide) (by decide) ?_
              refine x_aload_n (i := 0) C dX12_text_166 rfl rfl ?_
              refine x_aload_n (i := 0) C dX12_text_167 rfl rfl ?_
              refine x_getRs (r := 7) C fkM_X12_29 (nlt rfl) rfl (HG.rR hHy83 (k := 0) (i := 7) rfl rfl) dX12_text_168 ?_
              refine x_bipush C dX12_text_171 (by decide) ?_
              refine x_iload_n (i := 3) C dX12_text_173 rfl rfl ?_
              refine x_callV (As := [.ref 7, .int (iI (10)), .int (iI (0))]) C (by exact (r_store_rules (m := 0) (by decide) (ft0.cg (fun i hi => by show Yy83.1 9 i = Yy56.1 9 i; rw [eYy83, upI_nc (by decide)])) hHy83 FR.rf)) ckX12_274 im_X12_store se_X12_store (nlt rfl) rfl rfl rfl rfl (nle rfl) (by exact ⟨nle rfl, nle rfl⟩) dX12_text_174 ?_
              rintro _ Yy84 ⟨rfl, hHy84, hGy84, sa, sb⟩
              have hFy84 : FR mmWU X0 Yy84 := FR.tr hFy83 hGy84 (by decide)
              refine Wx_st (st' := []) rfl ?_
              refine x_goto (tgt := 192) C dX12_text_177 (by decide) ?_
              refine x_iload_n (i := 3) C dX12_text_192 rfl rfl ?_
              exact x_iret C hQ dX12_text_193 (⟨_, rfl, hHy84, by rw [(hGy84 2 0 rfl).1, eYy83, upI_nc (by decide), (hGy56 2 0 rfl).1, eYy6, upI_nc (by decide), eYy5, upI_nc (by decide), eYy4, upI_at], .inr ⟨rm0, ⟨by rw [(hGy84 3 0 rfl).1, eYy83, upI_nc (by decide)]; exact ft.1, by rw [(hGy84 4 0 rfl).1, eYy83, upI_nc (by decide)]; exact ft.2⟩, .inr ⟨rd1.1, 0, rfl, .inl ⟨at1, (show X0.1 5 1 = ((0 : Nat) : Int) by omega), (show Yy84.1 5 1 = ((0 : Nat) : Int) + 1 by rw [(hGy84 5 1 rfl).1, eYy83, upI_at]; omega)⟩, .inr (.inl ⟨rfl, by decide, hFy84, fun p hp => by rw [sb p hp, eYy83, upI_nc (by decide), (hGy56 7 p rfl).1, eYy6, upI_nc (by decide), eYy5, upI_nc (by decide), eYy4, upI_nc (by decide), eYy3, upI_nc (by decide), eYy1, upI_nc (by decide)], ((RLM_of rd1.2.1 rd1.2.2.2).cg (fun i hi => by show Yy84.1 7 (10 * 0 + i) = Yy56.1 10 i; rw [sa i hi, eYy83, upI_nc (by decide)]; exact rd1.2.2.1 i hi))⟩)⟩⟩⟩)
          · refine Wx_lv (lv' := [(3, .int (iI (1))), (0, .ref 0), (1, .int (iI (1))), (2, .int (iI (at_)))]) (by simp only [k3]) ?_
            have ft0 := ft0 1 (by decide)
            refine x_aload_n (i := 0) C dX12_text_104 rfl rfl ?_
            refine x_getRs (r := 5) C fkM_X12_23 (nlt rfl) rfl (HG.rR hHy56 (k := 0) (i := 5) rfl rfl) dX12_text_105 ?_
            refine x_iload_n (i := 1) C dX12_text_108 rfl rfl ?_
            refine x_dup2_11 C dX12_text_109 rfl rfl ?_
            refine x_iald C (nlt rfl) rfl rfl (nle rfl) (by omega) (by omega) dX12_text_110 ?_
            refine x_gen (fun v85 ev85 => ?_)
            replace ev85 : v85 = Yy56.1 5 1 := ev85
            have qv85 : (0 : Int) ≤ v85 ∧ v85 ≤ (3 : Int) := by
              rw [ev85]
              exact hHy56.rF (k := 5) (i := 1) (p := (0, 3)) rfl rfl
            have kv85 : v85 = X0.1 5 1 := by rw [ev85, (hGy56 5 1 rfl).1, eYy6, upI_nc (by decide), eYy5, upI_nc (by decide), eYy4, upI_nc (by decide), eYy3, upI_nc (by decide), eYy1, upI_nc (by decide)]
            have mzv85 : v85 = X0.1 5 1 := by rw [ev85, (hGy56 5 1 rfl).1, eYy6, upI_nc (by decide), eYy5, upI_nc (by decide), eYy4, upI_nc (by decide), eYy3, upI_nc (by decide), eYy1, upI_nc (by decide)]
            refine x_iload_n (i := 2) C dX12_text_111 rfl rfl ?_
            refine x_iconst C dX12_text_112 ?_
            refine x_icmp_ne (tgt := 120) C dX12_text_113 (by decide) ⟨by omega, by omega⟩ ⟨by omega, by omega⟩ (fun h86 => ?_) (fun h86 => ?_)
            · refine x_iconst C dX12_text_120 ?_
              refine x_iadd C dX12_text_121 ?_
              refine x_iast C (nlt rfl) rfl rfl (nle rfl) (by omega) (by omega) dX12_text_122 ?_
              refine x_gX (fun Yy87 eYy87 => ?_)
              have hHy87 : HG vM Yy87 := by
                rw [eYy87]
                exact hg_wF hHy56 (p := (0, 3)) rfl ⟨by omega, by omega⟩
              have hFy87 : FR mmWU X0 Yy87 := by
                rw [eYy87]
                exact FR.upI hFy56 (rfl)
              replace eYy87 : Yy87 = upI Yy56 5 1 (v85 + 0) := eYy87
              have hGy87 : FR [(5, some 1)] Yy56 Yy87 := by
                rw [eYy87]
                exact FR.upI FR.rf rfl
              refine x_iload_n (i := 1) C dX12_text_123 rfl rfl ?_
              refine x_lookup (a := 1) (off := 42) (tgt := 166) C dX12_text_124 (by decide) ⟨by omega, by omega⟩ (by decide) (by decide) ?_
              refine x_aload_n (i := 0) C dX12_text_166 rfl rfl ?_
              refine x_aload_n (i := 0) C dX12_text_167 rfl rfl ?_
              refine x_getRs (r := 7) C fkM_X12_29 (nlt rfl) rfl (HG.rR hHy87 (k := 0) (i := 7) rfl rfl) dX12_text_168 ?_
              refine x_bipush C dX12_text_171 (by decide) ?_
              refine x_iload_n (i := 3) C dX12_text_173 rfl rfl ?_
              refine x_callV (As := [.ref 7, .int (iI (10)), .int (iI (1))]) C (by exact (r_store_rules (m := 1) (by decide) (ft0.cg (fun i hi => by show Yy87.1 9 i = Yy56.1 9 i; rw [eYy87, upI_nc (by decide)])) hHy87 FR.rf)) ckX12_274 im_X12_store se_X12_store (nlt rfl) rfl rfl rfl rfl (nle rfl) (by exact ⟨nle rfl, nle rfl⟩) dX12_text_174 ?_
              rintro _ Yy88 ⟨rfl, hHy88, hGy88, sa, sb⟩
              have hFy88 : FR mmWU X0 Yy88 := FR.tr hFy87 hGy88 (by decide)
              refine Wx_st (st' := []) rfl ?_
              refine x_goto (tgt := 192) C dX12_text_177 (by decide) ?_
              refine x_iload_n (i := 3) C dX12_text_192 rfl rfl ?_
              exact x_iret C hQ dX12_text_193 (⟨_, rfl, hHy88, by rw [(hGy88 2 0 rfl).1, eYy87, upI_nc (by decide), (hGy56 2 0 rfl).1, eYy6, upI_nc (by decide), eYy5, upI_nc (by decide), eYy4, upI_at], .inr ⟨rm0, ⟨by rw [(hGy88 3 0 rfl).1, eYy87, upI_nc (by decide)]; exact ft.1, by rw [(hGy88 4 0 rfl).1, eYy87, upI_nc (by decide)]; exact ft.2⟩, .inr ⟨rd1.1, 1, rfl, .inl ⟨at1, (show X0.1 5 1 = ((1 : Nat) : Int) by omega), (show Yy88.1 5 1 = ((1 : Nat) : Int) + 1 by rw [(hGy88 5 1 rfl).1, eYy87, upI_at]; omega)⟩, .inr (.inl ⟨rfl, by decide, hFy88, fun p hp => by rw [sb p hp, eYy87, upI_nc (by decide), (hGy56 7 p rfl).1, eYy6, upI_nc (by decide), eYy5, upI_nc (by decide), eYy4, upI_nc (by decide), eYy3, upI_nc (by decide), eYy1, upI_nc (by decide)], ((RLM_of rd1.2.1 rd1.2.2.2).cg (fun i hi => by show Yy88.1 7 (10 * 1 + i) = Yy56.1 10 i; rw [sa i hi, eYy87, upI_nc (by decide)]; exact rd1.2.2.1 i hi))⟩)⟩⟩⟩)
            · refine x_iconst C dX12_text_116 ?_
              refine x_goto (tgt := 121) C dX12_text_117 (by decide) ?_
              refine x_iadd C dX12_text_121 ?_
              refine x_iast C (nlt rfl) rfl rfl (nle rfl) (by omega) (by omega) dX12_text_122 ?_
              refine x_gX (fun Yy89 eYy89 => ?_)
              have hHy89 : HG vM Yy89 := by
                rw [eYy89]
                exact hg_wF hHy56 (p := (0, 3)) rfl ⟨by omega, by omega⟩
              have hFy89 : FR mmWU X0 Yy89 := by
                rw [eYy89]
                exact FR.upI hFy56 (rfl)
              replace eYy89 : Yy89 = upI Yy56 5 1 (v85 + 1) := eYy89
              have hGy89 : FR [(5, some 1)] Yy56 Yy89 := by
                rw [eYy89]
                exact FR.upI FR.rf rfl
              refine x_iload_n (i := 1) C dX12_text_123 rfl rfl ?_
              refine x_lookup (a := 1) (off := 42) (tgt := 166) C dX12_text_124 (by decide) ⟨by omega, by omega⟩ (by decide) (by decide) ?_
              refine x_aload_n (i := 0) C dX12_text_166 rfl rfl ?_
              refine x_aload_n (i := 0) C dX12_text_167 rfl rfl ?_
              refine x_getRs (r := 7) C fkM_X12_29 (nlt rfl) rfl (HG.rR hHy89 (k := 0) (i := 7) rfl rfl) dX12_text_168 ?_
              refine x_bipush C dX12_text_171 (by decide) ?_
              refine x_iload_n (i := 3) C dX12_text_173 rfl rfl ?_
              refine x_callV (As := [.ref 7, .int (iI (10)), .int (iI (1))]) C (by exact (r_store_rules (m := 1) (by decide) (ft0.cg (fun i hi => by show Yy89.1 9 i = Yy56.1 9 i; rw [eYy89, upI_nc (by decide)])) hHy89 FR.rf)) ckX12_274 im_X12_store se_X12_store (nlt rfl) rfl rfl rfl rfl (nle rfl) (by exact ⟨nle rfl, nle rfl⟩) dX12_text_174 ?_
              rintro _ Yy90 ⟨rfl, hHy90, hGy90, sa, sb⟩
              have hFy90 : FR mmWU X0 Yy90 := FR.tr hFy89 hGy90 (by decide)
              refine Wx_st (st' := []) rfl ?_
              refine x_goto (tgt := 192) C dX12_text_177 (by decide) ?_
              refine x_iload_n (i := 3) C dX12_text_192 rfl rfl ?_
              exact x_iret C hQ dX12_text_193 (⟨_, rfl, hHy90, by rw [(hGy90 2 0 rfl).1, eYy89, upI_nc (by decide), (hGy56 2 0 rfl).1, eYy6, upI_nc (by decide), eYy5, upI_nc (by decide), eYy4, upI_at], .inr ⟨rm0, ⟨by rw [(hGy90 3 0 rfl).1, eYy89, upI_nc (by decide)]; exact ft.1, by rw [(hGy90 4 0 rfl).1, eYy89, upI_nc (by decide)]; exact ft.2⟩, .inr ⟨rd1.1, 1, rfl, .inl ⟨at1, (show X0.1 5 1 = ((1 : Nat) : Int) by omega), (show Yy90.1 5 1 = ((1 : Nat) : Int) + 1 by rw [(hGy90 5 1 rfl).1, eYy89, upI_at]; omega)⟩, .inr (.inl ⟨rfl, by decide, hFy90, fun p hp => by rw [sb p hp, eYy89, upI_nc (by decide), (hGy56 7 p rfl).1, eYy6, upI_nc (by decide), eYy5, upI_nc (by decide), eYy4, upI_nc (by decide), eYy3, upI_nc (by decide), eYy1, upI_nc (by decide)], ((RLM_of rd1.2.1 rd1.2.2.2).cg (fun i hi => by show Yy90.1 7 (10 * 1 + i) = Yy56.1 10 i; rw [sa i hi, eYy89, upI_nc (by decide)]; exact rd1.2.2.1 i hi))⟩)⟩⟩⟩)
          · refine Wx_lv (lv' := [(3, .int (iI (2))), (0, .ref 0), (1, .int (iI (1))), (2, .int (iI (at_)))]) (by simp only [k3]) ?_
            have ft0 := ft0 2 (by decide)
            refine x_aload_n (i := 0) C dX12_text_104 rfl rfl ?_
            refine x_getRs (r := 5) C fkM_X12_23 (nlt rfl) rfl (HG.rR hHy56 (k := 0) (i := 5) rfl rfl) dX12_text_105 ?_
            refine x_iload_n (i := 1) C dX12_text_108 rfl rfl ?_
            refine x_dup2_11 C dX12_text_109 rfl rfl ?_
            refine x_iald C (nlt rfl) rfl rfl (nle rfl) (by omega) (by omega) dX12_text_110 ?_
            refine x_gen (fun v91 ev91 => ?_)
            replace ev91 : v91 = Yy56.1 5 1 := ev91
            have qv91 : (0 : Int) ≤ v91 ∧ v91 ≤ (3 : Int) := by
              rw [ev91]
              exact hHy56.rF (k := 5) (i := 1) (p := (0, 3)) rfl rfl
            have kv91 : v91 = X0.1 5 1 := by rw [ev91, (hGy56 5 1 rfl).1, eYy6, upI_nc (by decide), eYy5, upI_nc (by decide), eYy4, upI_nc (by decide), eYy3, upI_nc (by decide), eYy1, upI_nc (by decide)]
            have mzv91 : v91 = X0.1 5 1 := by rw [ev91, (hGy56 5 1 rfl).1, eYy6, upI_nc (by decide), eYy5, upI_nc (by decide), eYy4, upI_nc (by decide), eYy3, upI_nc (by decide), eYy1, upI_nc (by decide)]
            refine x_iload_n (i := 2) C dX12_text_111 rfl rfl ?_
            refine x_iconst C dX12_text_112 ?_
            refine x_icmp_ne (tgt := 120) C dX12_text_113 (by decide) ⟨by omega, by omega⟩ ⟨by omega, by omega⟩ (fun h92 => ?_) (fun h92 => ?_)
            · refine x_iconst C dX12_text_120 ?_
              refine x_iadd C dX12_text_121 ?_
              refine x_iast C (nlt rfl) rfl rfl (nle rfl) (by omega) (by omega) dX12_text_122 ?_
              refine x_gX (fun Yy93 eYy93 => ?_)
              have hHy93 : HG vM Yy93 := by
                rw [eYy93]
                exact hg_wF hHy56 (p := (0, 3)) rfl ⟨by omega, by omega⟩
              have hFy93 : FR mmWU X0 Yy93 := by
                rw [eYy93]
                exact FR.upI hFy56 (rfl)
              replace eYy93 : Yy93 = upI Yy56 5 1 (v91 + 0) := eYy93
              have hGy93 : FR [(5, some 1)] Yy56 Yy93 := by
                rw [eYy93]
                exact FR.upI FR.rf rfl
              refine x_iload_n (i := 1) C dX12_text_123 rfl rfl ?_
              refine x_lookup (a := 1) (off := 42) (tgt := 166) C dX12_text_124 (by decide) ⟨by omega, by omega⟩ (by decide) (by decide) ?_
              refine x_aload_n (i := 0) C dX12_text_166 rfl rfl ?_
              refine x_aload_n (i := 0) C dX12_text_167 rfl rfl ?_
              refine x_getRs (r := 7) C fkM_X12_29 (nlt rfl) rfl (HG.rR hHy93 (k := 0) (i := 7) rfl rfl) dX12_text_168 ?_
              refine x_bipush C dX12_text_171 (by decide) ?_
              refine x_iload_n (i := 3) C dX12_text_173 rfl rfl ?_
              refine x_callV (As := [.ref 7, .int (iI (10)), .int (iI (2))]) C (by exact (r_store_rules (m := 2) (by decide) (ft0.cg (fun i hi => by show Yy93.1 9 i = Yy56.1 9 i; rw [eYy93, upI_nc (by decide)])) hHy93 FR.rf)) ckX12_274 im_X12_store se_X12_store (nlt rfl) rfl rfl rfl rfl (nle rfl) (by exact ⟨nle rfl, nle rfl⟩) dX12_text_174 ?_
              rintro _ Yy94 ⟨rfl, hHy94, hGy94, sa, sb⟩
              have hFy94 : FR mmWU X0 Yy94 := FR.tr hFy93 hGy94 (by decide)
              refine Wx_st (st' := []) rfl ?_
              refine x_goto (tgt := 192) C dX12_text_177 (by decide) ?_
              refine x_iload_n (i := 3) C dX12_text_192 rfl rfl ?_
              exact x_iret C hQ dX12_text_193 (⟨_, rfl, hHy94, by rw [(hGy94 2 0 rfl).1, eYy93, upI_nc (by decide), (hGy56 2 0 rfl).1, eYy6, upI_nc (by decide), eYy5, upI_nc (by decide), eYy4, upI_at], .inr ⟨rm0, ⟨by rw [(hGy94 3 0 rfl).1, eYy93, upI_nc (by decide)]; exact ft.1, by rw [(hGy94 4 0 rfl).1, eYy93, upI_nc (by decide)]; exact ft.2⟩, .inr ⟨rd1.1, 2, rfl, .inl ⟨at1, (show X0.1 5 1 = ((2 : Nat) : Int) by omega), (show Yy94.1 5 1 = ((2 : Nat) : Int) + 1 by rw [(hGy94 5 1 rfl).1, eYy93, upI_at]; omega)⟩, .inr (.inl ⟨rfl, by decide, hFy94, fun p hp => by rw [sb p hp, eYy93, upI_nc (by decide), (hGy56 7 p rfl).1, eYy6, upI_nc (by decide), eYy5, upI_nc (by decide), eYy4, upI_nc (by decide), eYy3, upI_nc (by decide), eYy1, upI_nc (by decide)], ((RLM_of rd1.2.1 rd1.2.2.2).cg (fun i hi => by show Yy94.1 7 (10 * 2 + i) = Yy56.1 10 i; rw [sa i hi, eYy93, upI_nc (by decide)]; exact rd1.2.2.1 i hi))⟩)⟩⟩⟩)
            · refine x_iconst C dX12_text_116 ?_
              refine x_goto (tgt := 121) C dX12_text_117 (by decide) ?_
              refine x_iadd C dX12_text_121 ?_
              refine x_iast C (nlt rfl) rfl rfl (nle rfl) (by omega) (by omega) dX12_text_122 ?_
              refine x_gX (fun Yy95 eYy95 => ?_)
              have hHy95 : HG vM Yy95 := by
                rw [eYy95]
                exact hg_wF hHy56 (p := (0, 3)) rfl ⟨by omega, by omega⟩
              have hFy95 : FR mmWU X0 Yy95 := by
                rw [eYy95]
                exact FR.upI hFy56 (rfl)
              replace eYy95 : Yy95 = upI Yy56 5 1 (v91 + 1) := eYy95
              have hGy95 : FR [(5, some 1)] Yy56 Yy95 := by
                rw [eYy95]
                exact FR.upI FR.rf rfl
              refine x_iload_n (i := 1) C dX12_text_123 rfl rfl ?_
              refine x_lookup (a := 1) (off := 42) (tgt := 166) C dX12_text_124 (by decide) ⟨by omega, by omega⟩ (by decide) (by decide) ?_
              refine x_aload_n (i := 0) C dX12_text_166 rfl rfl ?_
              refine x_aload_n (i := 0) C dX12_text_167 rfl rfl ?_
              refine x_getRs (r := 7) C fkM_X12_29 (nlt rfl) rfl (HG.rR hHy95 (k := 0) (i := 7) rfl rfl) dX12_text_168 ?_
              refine x_bipush C dX12_text_171 (by decide) ?_
              refine x_iload_n (i := 3) C dX12_text_173 rfl rfl ?_
              refine x_callV (As := [.ref 7, .int (iI (10)), .int (iI (2))]) C (by exact (r_store_rules (m := 2) (by decide) (ft0.cg (fun i hi => by show Yy95.1 9 i = Yy56.1 9 i; rw [eYy95, upI_nc (by decide)])) hHy95 FR.rf)) ckX12_274 im_X12_store se_X12_store (nlt rfl) rfl rfl rfl rfl (nle rfl) (by exact ⟨nle rfl, nle rfl⟩) dX12_text_174 ?_
              rintro _ Yy96 ⟨rfl, hHy96, hGy96, sa, sb⟩
              have hFy96 : FR mmWU X0 Yy96 := FR.tr hFy95 hGy96 (by decide)
              refine Wx_st (st' := []) rfl ?_
              refine x_goto (tgt := 192) C dX12_text_177 (by decide) ?_
              refine x_iload_n (i := 3) C dX12_text_192 rfl rfl ?_
              exact x_iret C hQ dX12_text_193 (⟨_, rfl, hHy96, by rw [(hGy96 2 0 rfl).1, eYy95, upI_nc (by decide), (hGy56 2 0 rfl).1, eYy6, upI_nc (by decide), eYy5, upI_nc (by decide), eYy4, upI_at], .inr ⟨rm0, ⟨by rw [(hGy96 3 0 rfl).1, eYy95, upI_nc (by decide)]; exact ft.1, by rw [(hGy96 4 0 rfl).1, eYy95, upI_nc (by decide)]; exact ft.2⟩, .inr ⟨rd1.1, 2, rfl, .inl ⟨at1, (show X0.1 5 1 = ((2 : Nat) : Int) by omega), (show Yy96.1 5 1 = ((2 : Nat) : Int) + 1 by rw [(hGy96 5 1 rfl).1, eYy95, upI_at]; omega)⟩, .inr (.inl ⟨rfl, by decide, hFy96, fun p hp => by rw [sb p hp, eYy95, upI_nc (by decide), (hGy56 7 p rfl).1, eYy6, upI_nc (by decide), eYy5, upI_nc (by decide), eYy4, upI_nc (by decide), eYy3, upI_nc (by decide), eYy1, upI_nc (by decide)], ((RLM_of rd1.2.1 rd1.2.2.2).cg (fun i hi => by show Yy96.1 7 (10 * 2 + i) = Yy56.1 10 i; rw [sa i hi, eYy95, upI_nc (by decide)]; exact rd1.2.2.1 i hi))⟩)⟩⟩⟩)
      · refine x_iconst C dX12_text_86 ?_
        exact x_iret C hQ dX12_text_87 (⟨_, rfl, hHy56, by rw [(hGy56 2 0 rfl).1, eYy6, upI_nc (by decide), eYy5, upI_nc (by decide), eYy4, upI_at], .inr ⟨rm0, ft, .inl ⟨rfl, rd.elim (fun g => by exfalso; have := g.1; omega) (fun g => g.2), hFy560⟩⟩⟩)
    · refine x_goto (tgt := 75) C dX12_text_63 (by decide) ?_
      refine x_bipush C dX12_text_75 (by decide) ?_
      exact x_iret C hQ dX12_text_77 (⟨_, rfl, hHy6, by rw [eYy6, upI_nc (by decide), eYy5, upI_nc (by decide), eYy4, upI_at], .inl ⟨rfl, fun g => by have g2 := g.2.2; rw [show ((1 : Int)).toNat = 1 from rfl, if_pos rfl] at g2; omega, hFy60, ⟨by rw [eYy6, upI_nc (by decide), eYy5, upI_at], by rw [eYy6, upI_at]⟩⟩⟩)
set_option maxHeartbeats 4000000 in
set_option maxRecDepth 100000 in
theorem r_text2 {D : va_G} {ad : Nat → Nat} {cA : Nat → ClassId} {X0 : XT} {b : Nat → Int} {N : Nat} {at_ : Int} (aa : inR at_) (hN : X0.1 2 0 = (N : Int)) (hb : ∀ i, i < N → X0.1 1 i % 256 = b i) (hH : HG vM X0) (hF : FR mmWG X0 X0) (hF0 : FR mmT0 X0 X0) : MetX (wM D ad cA) yX12_text cX12_text 4 (some .int) 7 158 [.ref 0, .int (iI (2)), .int (iI (at_))] X0 (fun r X1 => ∃ u : Int, r = some (.int (iI u)) ∧ HG vM X1 ∧ TXM b N X0 X1 2 at_ u) := by
  unfold inR at aa
  have n6 : N ≤ 600 := by have q : (0 : Int) ≤ X0.1 2 0 ∧ X0.1 2 0 ≤ 600 := hH.rF (k := 2) (i := 0) (p := (0, 600)) rfl rfl; omega
  have mb : (0 : Int) ≤ X0.1 5 2 ∧ X0.1 5 2 ≤ 2 := hH.rF (k := 5) (i := 2) (p := (0, 2)) rfl rfl
  have hb2 : ∀ i, i < N → 0 ≤ b i ∧ b i ≤ 255 := fun i hi => by have := hb i hi; omega
  refine MetX.mk (own := RX12) (by decide +kernel) rfl (nle rfl) (fun E C hQ => ?_)
  refine Wx_lv (lv' := [(0, .ref 0), (1, .int (iI (2))), (2, .int (iI (at_)))]) rfl ?_
  refine x_aload_n (i := 0) C dX12_text_0 rfl rfl ?_
  refine x_iconst C dX12_text_1 ?_
  refine x_putI C pkM_X12_157 (nlt rfl) rfl dX12_text_2 ?_
  refine x_gX (fun Yy1 eYy1 => ?_)
  have hHy1 : HG vM Yy1 := by
    rw [eYy1]
    exact hg_wF hH (p := ((-2147483648), 2147483647)) rfl ⟨by omega, by omega⟩
  have hFy1 : FR mmWG X0 Yy1 := by
    rw [eYy1]
    exact FR.upI hF (rfl)
  have hFy10 : FR mmT0 X0 Yy1 := by
    rw [eYy1]
    exact FR.upI hF0 rfl
  refine x_aload_n (i := 0) C dX12_text_5 rfl rfl ?_
  refine x_aload_n (i := 0) C dX12_text_6 rfl rfl ?_
  refine x_getRs (r := 2) C fkM_X12_13 (nlt rfl) rfl (HG.rR hHy1 (k := 0) (i := 2) rfl rfl) dX12_text_7 ?_
  refine x_iconst C dX12_text_10 ?_
  refine x_iald C (nlt rfl) rfl rfl (nle rfl) (by omega) (by omega) dX12_text_11 ?_
  refine x_gen (fun v2 ev2 => ?_)
  replace ev2 : v2 = Yy1.1 2 0 := ev2
  have qv2 : (0 : Int) ≤ v2 ∧ v2 ≤ (600 : Int) := by
    rw [ev2]
    exact hHy1.rF (k := 2) (i := 0) (p := (0, 600)) rfl rfl
  have kv2 : v2 = X0.1 2 0 := by rw [ev2, eYy1, upI_nc (by decide)]
  have z0N : v2 = (N : Int) := by rw [kv2]; exact hN
  refine x_putI C pkM_X12_176 (nlt rfl) rfl dX12_text_12 ?_
  refine x_gX (fun Yy3 eYy3 => ?_)
  have hHy3 : HG vM Yy3 := by
    rw [eYy3]
    exact hg_wF hHy1 (p := ((-2147483648), 2147483647)) rfl ⟨by omega, by omega⟩
  have hFy3 : FR mmWG X0 Yy3 := by
    rw [eYy3]
    exact FR.upI hFy1 (rfl)
  have hFy30 : FR mmT0 X0 Yy3 := by
    rw [eYy3]
    exact FR.upI hFy10 rfl
  refine x_aload_n (i := 0) C dX12_text_15 rfl rfl ?_
  refine x_getRs (r := 2) C fkM_X12_13 (nlt rfl) rfl (HG.rR hHy3 (k := 0) (i := 2) rfl rfl) dX12_text_16 ?_
  refine x_iconst C dX12_text_19 ?_
  refine x_iconst C dX12_text_20 ?_
  refine x_iast C (nlt rfl) rfl rfl (nle rfl) (by omega) (by omega) dX12_text_21 ?_
  refine x_gX (fun Yy4 eYy4 => ?_)
  have hHy4 : HG vM Yy4 := by
    rw [eYy4]
    exact hg_wF hHy3 (p := (0, 600)) rfl ⟨by omega, by omega⟩
  have hFy4 : FR mmWG X0 Yy4 := by
    rw [eYy4]
    exact FR.upI hFy3 (rfl)
  replace eYy4 : Yy4 = upI Yy3 2 0 (0) := eYy4
  have hFy40 : FR mmT0 X0 Yy4 := by
    rw [eYy4]
    exact FR.upI hFy30 rfl
  refine x_aload_n (i := 0) C dX12_text_22 rfl rfl ?_
  refine x_getRs (r := 3) C fkM_X12_17 (nlt rfl) rfl (HG.rR hHy4 (k := 0) (i := 3) rfl rfl) dX12_text_23 ?_
  refine x_iconst C dX12_text_26 ?_
  refine x_iconst C dX12_text_27 ?_
  refine x_iast C (nlt rfl) rfl rfl (nle rfl) (by omega) (by omega) dX12_text_28 ?_
  refine x_gX (fun Yy5 eYy5 => ?_)
  have hHy5 : HG vM Yy5 := by
    rw [eYy5]
    exact hg_wF hHy4 (p := ((-2147483648), 2147483647)) rfl ⟨by omega, by omega⟩
  have hFy5 : FR mmWG X0 Yy5 := by
    rw [eYy5]
    exact FR.upI hFy4 (rfl)
  replace eYy5 : Yy5 = upI Yy4 3 0 (0) := eYy5
  have hFy50 : FR mmT0 X0 Yy5 := by
    rw [eYy5]
    exact FR.upI hFy40 rfl
  refine x_aload_n (i := 0) C dX12_text_29 rfl rfl ?_
  refine x_getRs (r := 4) C fkM_X12_20 (nlt rfl) rfl (HG.rR hHy5 (k := 0) (i := 4) rfl rfl) dX12_text_30 ?_
  refine x_iconst C dX12_text_33 ?_
  refine x_iconst C dX12_text_34 ?_
  refine x_iast C (nlt rfl) rfl rfl (nle rfl) (by omega) (by omega) dX12_text_35 ?_
  refine x_gX (fun Yy6 eYy6 => ?_)
  have hHy6 : HG vM Yy6 := by
    rw [eYy6]
    exact hg_wF hHy5 (p := ((-2147483648), 2147483647)) rfl ⟨by omega, by omega⟩
  have hFy6 : FR mmWG X0 Yy6 := by
    rw [eYy6]
    exact FR.upI hFy5 (rfl)
  replace eYy6 : Yy6 = upI Yy5 4 0 ((-1)) := eYy6
  have hFy60 : FR mmT0 X0 Yy6 := by
    rw [eYy6]
    exact FR.upI hFy50 rfl
  refine x_iload_n (i := 1) C dX12_text_36 rfl rfl ?_
  refine x_iconst C dX12_text_37 ?_
  refine x_iconst C dX12_text_38 ?_
  refine x_callS (As := [.int (iI (2)), .int (iI (0)), .int (iI (2))]) C (by exact (q_in (v := 2) (a := 0) (b := 2) ⟨by omega, by omega⟩ ⟨by omega, by omega⟩ ⟨by omega, by omega⟩)) ckX12_165 sm_X12_in rfl rfl (nle rfl) (by exact ⟨nle rfl, nle rfl⟩) dX12_text_39 ?_
  rintro _ Xv7 ⟨hxv7, v7, rfl, ev7⟩
  rw [hxv7]
  refine Wx_st (st' := [.int (iI (v7))]) rfl ?_
  refine x_if_eq (tgt := 75) C dX12_text_42 (by decide) ⟨by omega, by omega⟩ (fun h8 => by exfalso; omega) (fun h8 => ?_)
  refine x_iload_n (i := 2) C dX12_text_45 rfl rfl ?_
  refine x_iconst C dX12_text_46 ?_
  refine x_icmp_ne (tgt := 66) C dX12_text_47 (by decide) ⟨by omega, by omega⟩ ⟨by omega, by omega⟩ (fun h9 => ?_) (fun h9 => ?_)
  · refine x_aload_n (i := 0) C dX12_text_66 rfl rfl ?_
    refine x_iload_n (i := 1) C dX12_text_67 rfl rfl ?_
    refine x_iload_n (i := 2) C dX12_text_68 rfl rfl ?_
    refine x_callV (As := [.int (iI (2)), .int (iI (at_))]) C (by exact (r_is2 (k := at_) ⟨by omega, by omega⟩ hHy6)) ckX12_268 im_X12_is se_X12_is (nlt rfl) rfl rfl rfl rfl (nle rfl) (by exact ⟨nle rfl, nle rfl⟩) dX12_text_69 ?_
    rintro _ Xv10 ⟨hxv10, v10, rfl, ev10⟩
    rw [hxv10]
    have myv10 : Yy6.1 5 2 = X0.1 5 2 := by rw [eYy6, upI_nc (by decide), eYy5, upI_nc (by decide), eYy4, upI_nc (by decide), eYy3, upI_nc (by decide), eYy1, upI_nc (by decide)]
    refine Wx_st (st' := [.int (iI (v10))]) rfl ?_
    refine x_if_ne (tgt := 78) C dX12_text_72 (by decide) ⟨by omega, by omega⟩ (fun h11 => ?_) (fun h11 => ?_)
    · have rm0 : roomM X0 2 at_ := ⟨by decide, by decide, by rw [show ((2 : Int)).toNat = 2 from rfl]; rw [if_neg (by decide)]; omega⟩
      refine x_aload_n (i := 0) C dX12_text_78 rfl rfl ?_
      refine x_iload_n (i := 1) C dX12_text_79 rfl rfl ?_
      refine x_callV (As := [.int (iI (2))]) C (by exact (r_readText2 ⟨by rw [eYy6, upI_nc (by decide), eYy5, upI_nc (by decide), eYy4, upI_nc (by decide), eYy3, upI_at]; exact z0N, n6, fun i hi => by rw [eYy6, upI_nc (by decide), eYy5, upI_nc (by decide), eYy4, upI_nc (by decide), eYy3, upI_nc (by decide), eYy1, upI_nc (by decide)]; exact hb i hi, hb2⟩ hHy6 FR.rf)) ckX12_271 im_X12_readText se_X12_readText (nlt rfl) rfl rfl rfl rfl (nle rfl) (by exact ⟨nle rfl, nle rfl⟩) dX12_text_80 ?_
      rintro _ Yy12 ⟨v13, rfl, hHy12, hGy12, ft, rd⟩
      have hFy12 : FR mmWG X0 Yy12 := FR.tr hFy6 hGy12 (by decide)
      have hFy120 : FR mmT0 X0 Yy12 := FR.tr hFy60 hGy12 (by decide)
      refine Wx_st (st' := [.int (iI (v13))]) rfl ?_
      refine x_if_ne (tgt := 88) C dX12_text_83 (by decide) ⟨by omega, by omega⟩ (fun h14 => ?_) (fun h14 => ?_)
      · have rd1 := rd.elim (fun g => g.2) (fun g => by exfalso; have := g.1; omega)
        have ft0 := fits_G (a := fun i => Yy12.1 9 i) (txG_wf rd1.1) rd1.2
        refine x_iload_n (i := 2) C dX12_text_88 rfl rfl ?_
        refine x_iconst C dX12_text_89 ?_
        refine x_icmp_ne (tgt := 102) C dX12_text_90 (by decide) ⟨by omega, by omega⟩ ⟨by omega, by omega⟩ (fun h15 => ?_) (fun h15 => ?_)
        · refine x_iload_n (i := 2) C dX12_text_102 rfl rfl ?_
          refine x_istore_n (i := 3) (lv' := [(3, .int (iI (at_))), (0, .ref 0), (1, .int (iI (2))), (2, .int (iI (at_)))]) C dX12_text_103 rfl (nlt rfl) rfl ?_
          rcases (show at_ = 0 ∨ at_ = 1 by omega) with k3 | k3
          · refine Wx_lv (lv' := [(3, .int (iI (0))), (0, .ref 0), (1, .int (iI (2))), (2, .int (iI (at_)))]) (by simp only [k3]) ?_
            have ft0 := ft0 0 (by decide)
            refine x_aload_n (i := 0) C dX12_text_104 rfl rfl ?_
            refine x_getRs (r := 5) C fkM_X12_23 (nlt rfl) rfl (HG.rR hHy12 (k := 0) (i := 5) rfl rfl) dX12_text_105 ?_
            refine x_iload_n (i := 1) C dX12_text_108 rfl rfl ?_
            refine x_dup2_11 C dX12_text_109 rfl rfl ?_
            refine x_iald C (nlt rfl) rfl rfl (nle rfl) (by omega) (by omega) dX12_text_110 ?_
            refine x_gen (fun v16 ev16 => ?_)
            replace ev16 : v16 = Yy12.1 5 2 := ev16
            have qv16 : (0 : Int) ≤ v16 ∧ v16 ≤ (2 : Int) := by
              rw [ev16]
              exact hHy12.rF (k := 5) (i := 2) (p := (0, 2)) rfl rfl
            have kv16 : v16 = X0.1 5 2 := by rw [ev16, (hGy12 5 2 rfl).1, eYy6, upI_nc (by decide), eYy5, upI_nc (by decide), eYy4, upI_nc (by decide), eYy3, upI_nc (by decide), eYy1, upI_nc (by decide)]
            have mzv16 : v16 = X0.1 5 2 := by rw [ev16, (hGy12 5 2 rfl).1, eYy6, upI_nc (by decide), eYy5, upI_nc (by decide), eYy4, upI_nc (by decide), eYy3, upI_nc (by decide), eYy1, upI_nc (by decide)]
            refine x_iload_n (i := 2) C dX12_text_111 rfl rfl ?_
            refine x_iconst C dX12_text_112 ?_
            refine x_icmp_ne (tgt := 120) C dX12_text_113 (by decide) ⟨by omega, by omega⟩ ⟨by omega, by omega⟩ (fun h17 => ?_) (fun h17 => ?_)
            · refine x_iconst C dX12_text_120 ?_
              refine x_iadd C dX12_text_121 ?_
              refine x_iast C (nlt rfl) rfl rfl (nle rfl) (by omega) (by omega) dX12_text_122 ?_
              refine x_gX (fun Yy18 eYy18 => ?_)
              have hHy18 : HG vM Yy18 := by
                rw [eYy18]
                exact hg_wF hHy12 (p := (0, 2)) rfl ⟨by omega, by omega⟩
              have hFy18 : FR mmWG X0 Yy18 := by
                rw [eYy18]
                exact FR.upI hFy12 (rfl)
              replace eYy18 : Yy18 = upI Yy12 5 2 (v16 + 0) := eYy18
              have hGy18 : FR [(5, some 2)] Yy12 Yy18 := by
                rw [eYy18]
                exact FR.upI FR.rf rfl
              refine x_iload_n (i := 1) C dX12_text_123 rfl rfl ?_
              refine x_lookup (a := 2) (off := 56) (tgt := 180) C dX12_text_124 (by decide) ⟨by omega, by omega⟩ (by decide) (by decide) ?_
              refine x_aload_n (i := 0) C dX12_text_180 rfl rfl ?_
              refine x_aload_n (i := 0) C dX12_text_181 rfl rfl ?_
              refine x_getRs (r := 8) C fkM_X12_32 (nlt rfl) rfl (HG.rR hHy18 (k := 0) (i := 8) rfl rfl) dX12_text_182 ?_
              refine x_sipush C dX12_text_185 (by decide) ?_
              refine x_iload_n (i := 3) C dX12_text_188 rfl rfl ?_
              refine x_callV (As := [.ref 8, .int (iI (331)), .int (iI (0))]) C (by exact (r_store_games (m := 0) (by decide) (ft0.cg (fun i hi => by show Yy18.1 9 i = Yy12.1 9 i; rw [eYy18, upI_nc (by decide)])) hHy18 FR.rf)) ckX12_274 im_X12_store se_X12_store (nlt rfl) rfl rfl rfl rfl (nle rfl) (by exact ⟨nle rfl, nle rfl⟩) dX12_text_189 ?_
              rintro _ Yy19 ⟨rfl, hHy19, hGy19, sa, sb⟩
              have hFy19 : FR mmWG X0 Yy19 := FR.tr hFy18 hGy19 (by decide)
              refine Wx_st (st' := []) rfl ?_
              refine x_iload_n (i := 3) C dX12_text_192 rfl rfl ?_
              exact x_iret C hQ dX12_text_193 (⟨_, rfl, hHy19, by rw [(hGy19 2 0 rfl).1, eYy18, upI_nc (by decide), (hGy12 2 0 rfl).1, eYy6, upI_nc (by decide), eYy5, upI_nc (by decide), eYy4, upI_at], .inr ⟨rm0, ⟨by rw [(hGy19 3 0 rfl).1, eYy18, upI_nc (by decide)]; exact ft.1, by rw [(hGy19 4 0 rfl).1, eYy18, upI_nc (by decide)]; exact ft.2⟩, .inr ⟨rd1.1, 0, rfl, .inr ⟨by omega, (show ((0 : Nat) : Int) < X0.1 5 2 by omega), (show Yy19.1 5 2 = X0.1 5 2 by rw [(hGy19 5 2 rfl).1, eYy18, upI_at]; omega)⟩, .inr (.inr ⟨rfl, by decide, hFy19, fun p hp => by rw [sb p hp, eYy18, upI_nc (by decide), (hGy12 8 p rfl).1, eYy6, upI_nc (by decide), eYy5, upI_nc (by decide), eYy4, upI_nc (by decide), eYy3, upI_nc (by decide), eYy1, upI_nc (by decide)], (GRW.cg rd1.2 (fun i hi => by show Yy19.1 8 (331 * 0 + i) = Yy12.1 9 i; rw [sa i hi, eYy18, upI_nc (by decide)]))⟩)⟩⟩⟩)
            · refine x_iconst C dX12_text_116 ?_
              refine x_goto (tgt := 121) C dX12_text_117 (by decide) ?_
              refine x_iadd C dX12_text_121 ?_
              refine x_iast C (nlt rfl) rfl rfl (nle rfl) (by omega) (by omega) dX12_text_122 ?_
              refine x_gX (fun Yy20 eYy20 => ?_)
              have hHy20 : HG vM Yy20 := by
                rw [eYy20]
                exact hg_wF hHy12 (p := (0, 2)) rfl ⟨by omega, by omega⟩
              have hFy20 : FR mmWG X0 Yy20 := by
                rw [eYy20]
                exact FR.upI hFy12 (rfl)
              replace eYy20 : Yy20 = upI Yy12 5 2 (v16 + 1) := eYy20
              have hGy20 : FR [(5, some 2)] Yy12 Yy20 := by
                rw [eYy20]
                exact FR.upI FR.rf rfl
              refine x_iload_n (i := 1) C dX12_text_123 rfl rfl ?_
              refine x_lookup (a := 2) (off := 56) (tgt := 180) C dX12_text_124 (by decide) ⟨by omega, by omega⟩ (by decide) (by decide) ?_
              refine x_aload_n (i := 0) C dX12_text_180 rfl rfl ?_
              refine x_aload_n (i := 0) C dX12_text_181 rfl rfl ?_
              refine x_getRs (r := 8) C fkM_X12_32 (nlt rfl) rfl (HG.rR hHy20 (k := 0) (i := 8) rfl rfl) dX12_text_182 ?_
              refine x_sipush C dX12_text_185 (by decide) ?_
              refine x_iload_n (i := 3) C dX12_text_188 rfl rfl ?_
              refine x_callV (As := [.ref 8, .int (iI (331)), .int (iI (0))]) C (by exact (r_store_games (m := 0) (by decide) (ft0.cg (fun i hi => by show Yy20.1 9 i = Yy12.1 9 i; rw [eYy20, upI_nc (by decide)])) hHy20 FR.rf)) ckX12_274 im_X12_store se_X12_store (nlt rfl) rfl rfl rfl rfl (nle rfl) (by exact ⟨nle rfl, nle rfl⟩) dX12_text_189 ?_
              rintro _ Yy21 ⟨rfl, hHy21, hGy21, sa, sb⟩
              have hFy21 : FR mmWG X0 Yy21 := FR.tr hFy20 hGy21 (by decide)
              refine Wx_st (st' := []) rfl ?_
              refine x_iload_n (i := 3) C dX12_text_192 rfl rfl ?_
              exact x_iret C hQ dX12_text_193 (⟨_, rfl, hHy21, by rw [(hGy21 2 0 rfl).1, eYy20, upI_nc (by decide), (hGy12 2 0 rfl).1, eYy6, upI_nc (by decide), eYy5, upI_nc (by decide), eYy4, upI_at], .inr ⟨rm0, ⟨by rw [(hGy21 3 0 rfl).1, eYy20, upI_nc (by decide)]; exact ft.1, by rw [(hGy21 4 0 rfl).1, eYy20, upI_nc (by decide)]; exact ft.2⟩, .inr ⟨rd1.1, 0, rfl, .inr ⟨by omega, (show ((0 : Nat) : Int) < X0.1 5 2 by omega), (show Yy21.1 5 2 = X0.1 5 2 by rw [(hGy21 5 2 rfl).1, eYy20, upI_at]; omega)⟩, .inr (.inr ⟨rfl, by decide, hFy21, fun p hp => by rw [sb p hp, eYy20, upI_nc (by decide), (hGy12 8 p rfl).1, eYy6, upI_nc (by decide), eYy5, upI_nc (by decide), eYy4, upI_nc (by decide), eYy3, upI_nc (by decide), eYy1, upI_nc (by decide)], (GRW.cg rd1.2 (fun i hi => by show Yy21.1 8 (331 * 0 + i) = Yy12.1 9 i; rw [sa i hi, eYy20, upI_nc (by decide)]))⟩)⟩⟩⟩)
          · refine Wx_lv (lv' := [(3, .int (iI (1))), (0, .ref 0), (1, .int (iI (2))), (2, .int (iI (at_)))]) (by simp only [k3]) ?_
            have ft0 := ft0 1 (by decide)
            refine x_aload_n (i := 0) C dX12_text_104 rfl rfl ?_
            refine x_getRs (r := 5) C fkM_X12_23 (nlt rfl) rfl (HG.rR hHy12 (k := 0) (i := 5) rfl rfl) dX12_text_105 ?_
            refine x_iload_n (i := 1) C dX12_text_108 rfl rfl ?_
            refine x_dup2_11 C dX12_text_109 rfl rfl ?_
            refine x_iald C (nlt rfl) rfl rfl (nle rfl) (by omega) (by omega) dX12_text_110 ?_
            refine x_gen (fun v22 ev22 => ?_)
            replace ev22 : v22 = Yy12.1 5 2 := ev22
            have qv22 : (0 : Int) ≤ v22 ∧ v22 ≤ (2 : Int) := by
              rw [ev22]
              exact hHy12.rF (k := 5) (i := 2) (p := (0, 2)) rfl rfl
            have kv22 : v22 = X0.1 5 2 := by rw [ev22, (hGy12 5 2 rfl).1, eYy6, upI_nc (by decide), eYy5, upI_nc (by decide), eYy4, upI_nc (by decide), eYy3, upI_nc (by decide), eYy1, upI_nc (by decide)]
            have mzv22 : v22 = X0.1 5 2 := by rw [ev22, (hGy12 5 2 rfl).1, eYy6, upI_nc (by decide), eYy5, upI_nc (by decide), eYy4, upI_nc (by decide), eYy3, upI_nc (by decide), eYy1, upI_nc (by decide)]
            refine x_iload_n (i := 2) C dX12_text_111 rfl rfl ?_
            refine x_iconst C dX12_text_112 ?_
            refine x_icmp_ne (tgt := 120) C dX12_text_113 (by decide) ⟨by omega, by omega⟩ ⟨by omega, by omega⟩ (fun h23 => ?_) (fun h23 => ?_)
            · refine x_iconst C dX12_text_120 ?_
              refine x_iadd C dX12_text_121 ?_
              refine x_iast C (nlt rfl) rfl rfl (nle rfl) (by omega) (by omega) dX12_text_122 ?_
              refine x_gX (fun Yy24 eYy24 => ?_)
              have hHy24 : HG vM Yy24 := by
                rw [eYy24]
                exact hg_wF hHy12 (p := (0, 2)) rfl ⟨by omega, by omega⟩
              have hFy24 : FR mmWG X0 Yy24 := by
                rw [eYy24]
                exact FR.upI hFy12 (rfl)
              replace eYy24 : Yy24 = upI Yy12 5 2 (v22 + 0) := eYy24
              have hGy24 : FR [(5, some 2)] Yy12 Yy24 := by
                rw [eYy24]
                exact FR.upI FR.rf rfl
              refine x_iload_n (i := 1) C dX12_text_123 rfl rfl ?_
              refine x_lookup (a := 2) (off := 56) (tgt := 180) C dX12_text_124 (by decide) ⟨by omega, by omega⟩ (by decide) (by decide) ?_
              refine x_aload_n (i := 0) C dX12_text_180 rfl rfl ?_
              refine x_aload_n (i := 0) C dX12_text_181 rfl rfl ?_
              refine x_getRs (r := 8) C fkM_X12_32 (nlt rfl) rfl (HG.rR hHy24 (k := 0) (i := 8) rfl rfl) dX12_text_182 ?_
              refine x_sipush C dX12_text_185 (by decide) ?_
              refine x_iload_n (i := 3) C dX12_text_188 rfl rfl ?_
              refine x_callV (As := [.ref 8, .int (iI (331)), .int (iI (1))]) C (by exact (r_store_games (m := 1) (by decide) (ft0.cg (fun i hi => by show Yy24.1 9 i = Yy12.1 9 i; rw [eYy24, upI_nc (by decide)])) hHy24 FR.rf)) ckX12_274 im_X12_store se_X12_store (nlt rfl) rfl rfl rfl rfl (nle rfl) (by exact ⟨nle rfl, nle rfl⟩) dX12_text_189 ?_
              rintro _ Yy25 ⟨rfl, hHy25, hGy25, sa, sb⟩
              have hFy25 : FR mmWG X0 Yy25 := FR.tr hFy24 hGy25 (by decide)
              refine Wx_st (st' := []) rfl ?_
              refine x_iload_n (i := 3) C dX12_text_192 rfl rfl ?_
              exact x_iret C hQ dX12_text_193 (⟨_, rfl, hHy25, by rw [(hGy25 2 0 rfl).1, eYy24, upI_nc (by decide), (hGy12 2 0 rfl).1, eYy6, upI_nc (by decide), eYy5, upI_nc (by decide), eYy4, upI_at], .inr ⟨rm0, ⟨by rw [(hGy25 3 0 rfl).1, eYy24, upI_nc (by decide)]; exact ft.1, by rw [(hGy25 4 0 rfl).1, eYy24, upI_nc (by decide)]; exact ft.2⟩, .inr ⟨rd1.1, 1, rfl, .inr ⟨by omega, (show ((1 : Nat) : Int) < X0.1 5 2 by omega), (show Yy25.1 5 2 = X0.1 5 2 by rw [(hGy25 5 2 rfl).1, eYy24, upI_at]; omega)⟩, .inr (.inr ⟨rfl, by decide, hFy25, fun p hp => by rw [sb p hp, eYy24, upI_nc (by decide), (hGy12 8 p rfl).1, eYy6, upI_nc (by decide), eYy5, upI_nc (by decide), eYy4, upI_nc (by decide), eYy3, upI_nc (by decide), eYy1, upI_nc (by decide)], (GRW.cg rd1.2 (fun i hi => by show Yy25.1 8 (331 * 1 + i) = Yy12.1 9 i; rw [sa i hi, eYy24, upI_nc (by decide)]))⟩)⟩⟩⟩)
            · refine x_iconst C dX12_text_116 ?_
              refine x_goto (tgt := 121) C dX12_text_117 (by decide) ?_
              refine x_iadd C dX12_text_121 ?_
              refine x_iast C (nlt rfl) rfl rfl (nle rfl) (by omega) (by omega) dX12_text_122 ?_
              refine x_gX (fun Yy26 eYy26 => ?_)
              have hHy26 : HG vM Yy26 := by
                rw [eYy26]
                exact hg_wF hHy12 (p := (0, 2)) rfl ⟨by omega, by omega⟩
              have hFy26 : FR mmWG X0 Yy26 := by
                rw [eYy26]
                exact FR.upI hFy12 (rfl)
              replace eYy26 : Yy26 = upI Yy12 5 2 (v22 + 1) := eYy26
              have hGy26 : FR [(5, some 2)] Yy12 Yy26 := by
                rw [eYy26]
                exact FR.upI FR.rf rfl
              refine x_iload_n (i := 1) C dX12_text_123 rfl rfl ?_
              refine x_lookup (a := 2) (off := 56) (tgt := 180) C dX12_text_124 (by decide) ⟨by omega, by omega⟩ (by decide) (by decide) ?_
              refine x_aload_n (i := 0) C dX12_text_180 rfl rfl ?_
              refine x_aload_n (i := 0) C dX12_text_181 rfl rfl ?_
              refine x_getRs (r := 8) C fkM_X12_32 (nlt rfl) rfl (HG.rR hHy26 (k := 0) (i := 8) rfl rfl) dX12_text_182 ?_
              refine x_sipush C dX12_text_185 (by decide) ?_
              refine x_iload_n (i := 3) C dX12_text_188 rfl rfl ?_
              refine x_callV (As := [.ref 8, .int (iI (331)), .int (iI (1))]) C (by exact (r_store_games (m := 1) (by decide) (ft0.cg (fun i hi => by show Yy26.1 9 i = Yy12.1 9 i; rw [eYy26, upI_nc (by decide)])) hHy26 FR.rf)) ckX12_274 im_X12_store se_X12_store (nlt rfl) rfl rfl rfl rfl (nle rfl) (by exact ⟨nle rfl, nle rfl⟩) dX12_text_189 ?_
              rintro _ Yy27 ⟨rfl, hHy27, hGy27, sa, sb⟩
              have hFy27 : FR mmWG X0 Yy27 := FR.tr hFy26 hGy27 (by decide)
              refine Wx_st (st' := []) rfl ?_
              refine x_iload_n (i := 3) C dX12_text_192 rfl rfl ?_
              exact x_iret C hQ dX12_text_193 (⟨_, rfl, hHy27, by rw [(hGy27 2 0 rfl).1, eYy26, upI_nc (by decide), (hGy12 2 0 rfl).1, eYy6, upI_nc (by decide), eYy5, upI_nc (by decide), eYy4, upI_at], .inr ⟨rm0, ⟨by rw [(hGy27 3 0 rfl).1, eYy26, upI_nc (by decide)]; exact ft.1, by rw [(hGy27 4 0 rfl).1, eYy26, upI_nc (by decide)]; exact ft.2⟩, .inr ⟨rd1.1, 1, rfl, .inr ⟨by omega, (show ((1 : Nat) : Int) < X0.1 5 2 by omega), (show Yy27.1 5 2 = X0.1 5 2 by rw [(hGy27 5 2 rfl).1, eYy26, upI_at]; omega)⟩, .inr (.inr ⟨rfl, by decide, hFy27, fun p hp => by rw [sb p hp, eYy26, upI_nc (by decide), (hGy12 8 p rfl).1, eYy6, upI_nc (by decide), eYy5, upI_nc (by decide), eYy4, upI_nc (by decide), eYy3, upI_nc (by decide), eYy1, upI_nc (by decide)], (GRW.cg rd1.2 (fun i hi => by show Yy27.1 8 (331 * 1 + i) = Yy12.1 9 i; rw [sa i hi, eYy26, upI_nc (by decide)]))⟩)⟩⟩⟩)
        · have at1 : at_ = -1 := by omega
          refine x_aload_n (i := 0) C dX12_text_93 rfl rfl ?_
          refine x_getRs (r := 5) C fkM_X12_23 (nlt rfl) rfl (HG.rR hHy12 (k := 0) (i := 5) rfl rfl) dX12_text_94 ?_
          refine x_iload_n (i := 1) C dX12_text_97 rfl rfl ?_
          refine x_iald C (nlt rfl) rfl rfl (nle rfl) (by omega) (by omega) dX12_text_98 ?_
          refine x_gen (fun v28 ev28 => ?_)
          replace ev28 : v28 = Yy12.1 5 2 := ev28
          have qv28 : (0 : Int) ≤ v28 ∧ v28 ≤ (2 : Int) := by
            rw [ev28]
            exact hHy12.rF (k := 5) (i := 2) (p := (0, 2)) rfl rfl
          have kv28 : v28 = X0.1 5 2 := by rw [ev28, (hGy12 5 2 rfl).1, eYy6, upI_nc (by decide), eYy5, upI_nc (by decide), eYy4, upI_nc (by decide), eYy3, upI_nc (by decide), eYy1, upI_nc (by decide)]
          have mzv28 : v28 = X0.1 5 2 := by rw [ev28, (hGy12 5 2 rfl).1, eYy6, upI_nc (by decide), eYy5, upI_nc (by decide), eYy4, upI_nc (by decide), eYy3, upI_nc (by decide), eYy1, upI_nc (by decide)]
          refine x_goto (tgt := 103) C dX12_text_99 (by decide) ?_
          refine x_istore_n (i := 3) (lv' := [(3, .int (iI (v28))), (0, .ref 0), (1, .int (iI (2))), (2, .int (iI (at_)))]) C dX12_text_103 rfl (nlt rfl) rfl ?_
          rcases (show v28 = 0 ∨ v28 = 1 by omega) with k3 | k3
          · refine Wx_lv (lv' := [(3, .int (iI (0))), (0, .ref 0), (1, .int (iI (2))), (2, .int (iI (at_)))]) (by simp only [k3]) ?_
            have ft0 := ft0 0 (by decide)
            refine x_aload_n (i := 0) C dX12_text_104 rfl rfl ?_
            refine x_getRs (r := 5) C fkM_X12_23 (nlt rfl) rfl (HG.rR hHy12 (k := 0) (i := 5) rfl rfl) dX12_text_105 ?_
            refine x_iload_n (i := 1) C dX12_text_108 rfl rfl ?_
            refine x_dup2_11 C dX12_text_109 rfl rfl ?_
            refine x_iald C (nlt rfl) rfl rfl (nle rfl) (by omega) (by omega) dX12_text_110 ?_
            refine x_gen (fun v29 ev29 => ?_)
            replace ev29 : v29 = Yy12.1 5 2 := ev29
            have qv29 : (0 : Int) ≤ v29 ∧ v29 ≤ (2 : Int) := by
              rw [ev29]
              exact hHy12.rF (k := 5) (i := 2) (p := (0, 2)) rfl rfl
            have kv29 : v29 = X0.1 5 2 := by rw [ev29, (hGy12 5 2 rfl).1, eYy6, upI_nc (by decide), eYy5, upI_nc (by decide), eYy4, upI_nc (by decide), eYy3, upI_nc (by decide), eYy1, upI_nc (by decide)]
            have mzv29 : v29 = X0.1 5 2 := by rw [ev29, (hGy12 5 2 rfl).1, eYy6, upI_nc (by decide), eYy5, upI_nc (by decide), eYy4, upI_nc (by decide), eYy3, upI_nc (by decide), eYy1, upI_nc (by decide)]
            refine x_iload_n (i := 2) C dX12_text_111 rfl rfl ?_
            refine x_iconst C dX12_text_112 ?_
            refine x_icmp_ne (tgt := 120) C dX12_text_113 (by decide) ⟨by omega, by omega⟩ ⟨by omega, by omega⟩ (fun h30 => ?_) (fun h30 => ?_)
            · refine x_iconst C dX12_text_120 ?_
              refine x_iadd C dX12_text_121 ?_
              refine x_iast C (nlt rfl) rfl rfl (nle rfl) (by omega) (by omega) dX12_text_122 ?_
              refine x_gX (fun Yy31 eYy31 => ?_)
              have hHy31 : HG vM Yy31 := by
                rw [eYy31]
                exact hg_wF hHy12 (p := (0, 2)) rfl ⟨by omega, by omega⟩
              have hFy31 : FR mmWG X0 Yy31 := by
                rw [eYy31]
                exact FR.upI hFy12 (rfl)
              replace eYy31 : Yy31 = upI Yy12 5 2 (v29 + 0) := eYy31
              have hGy31 : FR [(5, some 2)] Yy12 Yy31 := by
                rw [eYy31]
                exact FR.upI FR.rf rfl
              refine x_iload_n (i := 1) C dX12_text_123 rfl rfl ?_
              refine x_lookup (a := 2) (off := 56) (tgt := 180) C dX12_text_124 (by decide) ⟨by omega, by omega⟩ (by decide) (by decide) ?_
              refine x_aload_n (i := 0) C dX12_text_180 rfl rfl ?_
              refine x_aload_n (i := 0) C dX12_text_181 rfl rfl ?_
              refine x_getRs (r := 8) C fkM_X12_32 (nlt rfl) rfl (HG.rR hHy31 (k := 0) (i := 8) rfl rfl) dX12_text_182 ?_
              refine x_sipush C dX12_text_185 (by decide) ?_
              refine x_iload_n (i := 3) C dX12_text_188 rfl rfl ?_
              refine x_callV (As := [.ref 8, .int (iI (331)), .int (iI (0))]) C (by exact (r_store_games (m := 0) (by decide) (ft0.cg (fun i hi => by show Yy31.1 9 i = Yy12.1 9 i; rw [eYy31, upI_nc (by decide)])) hHy31 FR.rf)) ckX12_274 im_X12_store se_X12_store (nlt rfl) rfl rfl rfl rfl (nle rfl) (by exact ⟨nle rfl, nle rfl⟩) dX12_text_189 ?_
              rintro _ Yy32 ⟨rfl, hHy32, hGy32, sa, sb⟩
              have hFy32 : FR mmWG X0 Yy32 := FR.tr hFy31 hGy32 (by decide)
              refine Wx_st (st' := []) rfl ?_
              refine x_iload_n (i := 3) C dX12_text_192 rfl rfl ?_
              exact x_iret C hQ dX12_text_193 (⟨_, rfl, hHy32, by rw [(hGy32 2 0 rfl).1, eYy31, upI_nc (by decide), (hGy12 2 0 rfl).1, eYy6, upI_nc (by decide), eYy5, upI_nc (by decide), eYy4, upI_at], .inr ⟨rm0, ⟨by rw [(hGy32 3 0 rfl).1, eYy31, upI_nc (by decide)]; exact ft.1, by rw [(hGy32 4 0 rfl).1, eYy31, upI_nc (by decide)]; exact ft.2⟩, .inr ⟨rd1.1, 0, rfl, .inl ⟨at1, (show X0.1 5 2 = ((0 : Nat) : Int) by omega), (show Yy32.1 5 2 = ((0 : Nat) : Int) + 1 by rw [(hGy32 5 2 rfl).1, eYy31, upI_at]; omega)⟩, .inr (.inr ⟨rfl, by decide, hFy32, fun p hp => by rw [sb p hp, eYy31, upI_nc (by decide), (hGy12 8 p rfl).1, eYy6, upI_nc (by decide), eYy5, upI_nc (by decide), eYy4, upI_nc (by decide), eYy3, upI_nc (by decide), eYy1, upI_nc (by decide)], (GRW.cg rd1.2 (fun i hi => by show Yy32.1 8 (331 * 0 + i) = Yy12.1 9 i; rw [sa i hi, eYy31, upI_nc (by decide)]))⟩)⟩⟩⟩)
            · refine x_iconst C dX12_text_116 ?_
              refine x_goto (tgt := 121) C dX12_text_117 (by decide) ?_
              refine x_iadd C dX12_text_121 ?_
              refine x_iast C (nlt rfl) rfl rfl (nle rfl) (by omega) (by omega) dX12_text_122 ?_
              refine x_gX (fun Yy33 eYy33 => ?_)
              have hHy33 : HG vM Yy33 := by
                rw [eYy33]
                exact hg_wF hHy12 (p := (0, 2)) rfl ⟨by omega, by omega⟩
              have hFy33 : FR mmWG X0 Yy33 := by
                rw [eYy33]
                exact FR.upI hFy12 (rfl)
              replace eYy33 : Yy33 = upI Yy12 5 2 (v29 + 1) := eYy33
              have hGy33 : FR [(5, some 2)] Yy12 Yy33 := by
                rw [eYy33]
                exact FR.upI FR.rf rfl
              refine x_iload_n (i := 1) C dX12_text_123 rfl rfl ?_
              refine x_lookup (a := 2) (off := 56) (tgt := 180) C dX12_text_124 (by decide) ⟨by omega, by omega⟩ (by decide) (by decide) ?_
              refine x_aload_n (i := 0) C dX12_text_180 rfl rfl ?_
              refine x_aload_n (i := 0) C dX12_text_181 rfl rfl ?_
              refine x_getRs (r := 8) C fkM_X12_32 (nlt rfl) rfl (HG.rR hHy33 (k := 0) (i := 8) rfl rfl) dX12_text_182 ?_
              refine x_sipush C dX12_text_185 (by decide) ?_
              refine x_iload_n (i := 3) C dX12_text_188 rfl rfl ?_
              refine x_callV (As := [.ref 8, .int (iI (331)), .int (iI (0))]) C (by exact (r_store_games (m := 0) (by decide) (ft0.cg (fun i hi => by show Yy33.1 9 i = Yy12.1 9 i; rw [eYy33, upI_nc (by decide)])) hHy33 FR.rf)) ckX12_274 im_X12_store se_X12_store (nlt rfl) rfl rfl rfl rfl (nle rfl) (by exact ⟨nle rfl, nle rfl⟩) dX12_text_189 ?_
              rintro _ Yy34 ⟨rfl, hHy34, hGy34, sa, sb⟩
              have hFy34 : FR mmWG X0 Yy34 := FR.tr hFy33 hGy34 (by decide)
              refine Wx_st (st' := []) rfl ?_
              refine x_iload_n (i := 3) C dX12_text_192 rfl rfl ?_
              exact x_iret C hQ dX12_text_193 (⟨_, rfl, hHy34, by rw [(hGy34 2 0 rfl).1, eYy33, upI_nc (by decide), (hGy12 2 0 rfl).1, eYy6, upI_nc (by decide), eYy5, upI_nc (by decide), eYy4, upI_at], .inr ⟨rm0, ⟨by rw [(hGy34 3 0 rfl).1, eYy33, upI_nc (by decide)]; exact ft.1, by rw [(hGy34 4 0 rfl).1, eYy33, upI_nc (by decide)]; exact ft.2⟩, .inr ⟨rd1.1, 0, rfl, .inl ⟨at1, (show X0.1 5 2 = ((0 : Nat) : Int) by omega), (show Yy34.1 5 2 = ((0 : Nat) : Int) + 1 by rw [(hGy34 5 2 rfl).1, eYy33, upI_at]; omega)⟩, .inr (.inr ⟨rfl, by decide, hFy34, fun p hp => by rw [sb p hp, eYy33, upI_nc (by decide), (hGy12 8 p rfl).1, eYy6, upI_nc (by decide), eYy5, upI_nc (by decide), eYy4, upI_nc (by decide), eYy3, upI_nc (by decide), eYy1, upI_nc (by decide)], (GRW.cg rd1.2 (fun i hi => by show Yy34.1 8 (331 * 0 + i) = Yy12.1 9 i; rw [sa i hi, eYy33, upI_nc (by decide)]))⟩)⟩⟩⟩)
          · refine Wx_lv (lv' := [(3, .int (iI (1))), (0, .ref 0), (1, .int (iI (2))), (2, .int (iI (at_)))]) (by simp only [k3]) ?_
            have ft0 := ft0 1 (by decide)
            refine x_aload_n (i := 0) C dX12_text_104 rfl rfl ?_
            refine x_getRs (r := 5) C fkM_X12_23 (nlt rfl) rfl (HG.rR hHy12 (k := 0) (i := 5) rfl rfl) dX12_text_105 ?_
            refine x_iload_n (i := 1) C dX12_text_108 rfl rfl ?_
            refine x_dup2_11 C dX12_text_109 rfl rfl ?_
            refine x_iald C (nlt rfl) rfl rfl (nle rfl) (by omega) (by omega) dX12_text_110 ?_
            refine x_gen (fun v35 ev35 => ?_)
            replace ev35 : v35 = Yy12.1 5 2 := ev35
            have qv35 : (0 : Int) ≤ v35 ∧ v35 ≤ (2 : Int) := by
              rw [ev35]
              exact hHy12.rF (k := 5) (i := 2) (p := (0, 2)) rfl rfl
            have kv35 : v35 = X0.1 5 2 := by rw [ev35, (hGy12 5 2 rfl).1, eYy6, upI_nc (by decide), eYy5, upI_nc (by decide), eYy4, upI_nc (by decide), eYy3, upI_nc (by decide), eYy1, upI_nc (by decide)]
            have mzv35 : v35 = X0.1 5 2 := by rw [ev35, (hGy12 5 2 rfl).1, eYy6, upI_nc (by decide), eYy5, upI_nc (by decide), eYy4, upI_nc (by decide), eYy3, upI_nc (by decide), eYy1, upI_nc (by decide)]
            refine x_iload_n (i := 2) C dX12_text_111 rfl rfl ?_
            refine x_iconst C dX12_text_112 ?_
            refine x_icmp_ne (tgt := 120) C dX12_text_113 (by decide) ⟨by omega, by omega⟩ ⟨by omega, by omega⟩ (fun h36 => ?_) (fun h36 => ?_)
            · refine x_iconst C dX12_text_120 ?_
              refine x_iadd C dX12_text_121 ?_
              refine x_iast C (nlt rfl) rfl rfl (nle rfl) (by omega) (by omega) dX12_text_122 ?_
              refine x_gX (fun Yy37 eYy37 => ?_)
              have hHy37 : HG vM Yy37 := by
                rw [eYy37]
                exact hg_wF hHy12 (p := (0, 2)) rfl ⟨by omega, by omega⟩
              have hFy37 : FR mmWG X0 Yy37 := by
                rw [eYy37]
                exact FR.upI hFy12 (rfl)
              replace eYy37 : Yy37 = upI Yy12 5 2 (v35 + 0) := eYy37
              have hGy37 : FR [(5, some 2)] Yy12 Yy37 := by
                rw [eYy37]
                exact FR.upI FR.rf rfl
              refine x_iload_n (i := 1) C dX12_text_123 rfl rfl ?_
              refine x_lookup (a := 2) (off := 56) (tgt := 180) C dX12_text_124 (by decide) ⟨by omega, by omega⟩ (by decide) (by decide) ?_
              refine x_aload_n (i := 0) C dX12_text_180 rfl rfl ?_
              refine x_aload_n (i := 0) C dX12_text_181 rfl rfl ?_
              refine x_getRs (r := 8) C fkM_X12_32 (nlt rfl) rfl (HG.rR hHy37 (k := 0) (i := 8) rfl rfl) dX12_text_182 ?_
              refine x_sipush C dX12_text_185 (by decide) ?_
              refine x_iload_n (i := 3) C dX12_text_188 rfl rfl ?_
              refine x_callV (As := [.ref 8, .int (iI (331)), .int (iI (1))]) C (by exact (r_store_games (m := 1) (by decide) (ft0.cg (fun i hi => by show Yy37.1 9 i = Yy12.1 9 i; rw [eYy37, upI_nc (by decide)])) hHy37 FR.rf)) ckX12_274 im_X12_store se_X12_store (nlt rfl) rfl rfl rfl rfl (nle rfl) (by exact ⟨nle rfl, nle rfl⟩) dX12_text_189 ?_
              rintro _ Yy38 ⟨rfl, hHy38, hGy38, sa, sb⟩
              have hFy38 : FR mmWG X0 Yy38 := FR.tr hFy37 hGy38 (by decide)
              refine Wx_st (st' := []) rfl ?_
              refine x_iload_n (i := 3) C dX12_text_192 rfl rfl ?_
              exact x_iret C hQ dX12_text_193 (⟨_, rfl, hHy38, by rw [(hGy38 2 0 rfl).1, eYy37, upI_nc (by decide), (hGy12 2 0 rfl).1, eYy6, upI_nc (by decide), eYy5, upI_nc (by decide), eYy4, upI_at], .inr ⟨rm0, ⟨by rw [(hGy38 3 0 rfl).1, eYy37, upI_nc (by decide)]; exact ft.1, by rw [(hGy38 4 0 rfl).1, eYy37, upI_nc (by decide)]; exact ft.2⟩, .inr ⟨rd1.1, 1, rfl, .inl ⟨at1, (show X0.1 5 2 = ((1 : Nat) : Int) by omega), (show Yy38.1 5 2 = ((1 : Nat) : Int) + 1 by rw [(hGy38 5 2 rfl).1, eYy37, upI_at]; omega)⟩, .inr (.inr ⟨rfl, by decide, hFy38, fun p hp => by rw [sb p hp, eYy37, upI_nc (by decide), (hGy12 8 p rfl).1, eYy6, upI_nc (by decide), eYy5, upI_nc (by decide), eYy4, upI_nc (by decide), eYy3, upI_nc (by decide), eYy1, upI_nc (by decide)], (GRW.cg rd1.2 (fun i hi => by show Yy38.1 8 (331 * 1 + i) = Yy12.1 9 i; rw [sa i hi, eYy37, upI_nc (by decide)]))⟩)⟩⟩⟩)
            · refine x_iconst C dX12_text_116 ?_
              refine x_goto (tgt := 121) C dX12_text_117 (by decide) ?_
              refine x_iadd C dX12_text_121 ?_
              refine x_iast C (nlt rfl) rfl rfl (nle rfl) (by omega) (by omega) dX12_text_122 ?_
              refine x_gX (fun Yy39 eYy39 => ?_)
              have hHy39 : HG vM Yy39 := by
                rw [eYy39]
                exact hg_wF hHy12 (p := (0, 2)) rfl ⟨by omega, by omega⟩
              have hFy39 : FR mmWG X0 Yy39 := by
                rw [eYy39]
                exact FR.upI hFy12 (rfl)
              replace eYy39 : Yy39 = upI Yy12 5 2 (v35 + 1) := eYy39
              have hGy39 : FR [(5, some 2)] Yy12 Yy39 := by
                rw [eYy39]
                exact FR.upI FR.rf rfl
              refine x_iload_n (i := 1) C dX12_text_123 rfl rfl ?_
              refine x_lookup (a := 2) (off := 56) (tgt := 180) C dX12_text_124 (by decide) ⟨by omega, by omega⟩ (by decide) (by decide) ?_
              refine x_aload_n (i := 0) C dX12_text_180 rfl rfl ?_
              refine x_aload_n (i := 0) C dX12_text_181 rfl rfl ?_
              refine x_getRs (r := 8) C fkM_X12_32 (nlt rfl) rfl (HG.rR hHy39 (k := 0) (i := 8) rfl rfl) dX12_text_182 ?_
              refine x_sipush C dX12_text_185 (by decide) ?_
              refine x_iload_n (i := 3) C dX12_text_188 rfl rfl ?_
              refine x_callV (As := [.ref 8, .int (iI (331)), .int (iI (1))]) C (by exact (r_store_games (m := 1) (by decide) (ft0.cg (fun i hi => by show Yy39.1 9 i = Yy12.1 9 i; rw [eYy39, upI_nc (by decide)])) hHy39 FR.rf)) ckX12_274 im_X12_store se_X12_store (nlt rfl) rfl rfl rfl rfl (nle rfl) (by exact ⟨nle rfl, nle rfl⟩) dX12_text_189 ?_
              rintro _ Yy40 ⟨rfl, hHy40, hGy40, sa, sb⟩
              have hFy40 : FR mmWG X0 Yy40 := FR.tr hFy39 hGy40 (by decide)
              refine Wx_st (st' := []) rfl ?_
              refine x_iload_n (i := 3) C dX12_text_192 rfl rfl ?_
              exact x_iret C hQ dX12_text_193 (⟨_, rfl, hHy40, by rw [(hGy40 2 0 rfl).1, eYy39, upI_nc (by decide), (hGy12 2 0 rfl).1, eYy6, upI_nc (by decide), eYy5, upI_nc (by decide), eYy4, upI_at], .inr ⟨rm0, ⟨by rw [(hGy40 3 0 rfl).1, eYy39, upI_nc (by decide)]; exact ft.1, by rw [(hGy40 4 0 rfl).1, eYy39, upI_nc (by decide)]; exact ft.2⟩, .inr ⟨rd1.1, 1, rfl, .inl ⟨at1, (show X0.1 5 2 = ((1 : Nat) : Int) by omega), (show Yy40.1 5 2 = ((1 : Nat) : Int) + 1 by rw [(hGy40 5 2 rfl).1, eYy39, upI_at]; omega)⟩, .inr (.inr ⟨rfl, by decide, hFy40, fun p hp => by rw [sb p hp, eYy39, upI_nc (by decide), (hGy12 8 p rfl).1, eYy6, upI_nc (by decide), eYy5, upI_nc (by decide), eYy4, upI_nc (by decide), eYy3, upI_nc (by decide), eYy1, upI_nc (by decide)], (GRW.cg rd1.2 (fun i hi => by show Yy40.1 8 (331 * 1 + i) = Yy12.1 9 i; rw [sa i hi, eYy39, upI_nc (by decide)]))⟩)⟩⟩⟩)
      · refine x_iconst C dX12_text_86 ?_
        exact x_iret C hQ dX12_text_87 (⟨_, rfl, hHy12, by rw [(hGy12 2 0 rfl).1, eYy6, upI_nc (by decide), eYy5, upI_nc (by decide), eYy4, upI_at], .inr ⟨rm0, ft, .inl ⟨rfl, rd.elim (fun g => by exfalso; have := g.1; omega) (fun g => g.2), hFy120⟩⟩⟩)
    · refine x_bipush C dX12_text_75 (by decide) ?_
      exact x_iret C hQ dX12_text_77 (⟨_, rfl, hHy6, by rw [eYy6, upI_nc (by decide), eYy5, upI_nc (by decide), eYy4, upI_at], .inl ⟨rfl, fun g => by have g2 := g.2.2; rw [show ((2 : Int)).toNat = 2 from rfl, if_neg (by decide)] at g2; omega, hFy60, ⟨by rw [eYy6, upI_nc (by decide), eYy5, upI_at], by rw [eYy6, upI_at]⟩⟩⟩)
  · refine x_aload_n (i := 0) C dX12_text_50 rfl rfl ?_
    refine x_getRs (r := 5) C fkM_X12_23 (nlt rfl) rfl (HG.rR hHy6 (k := 0) (i := 5) rfl rfl) dX12_text_51 ?_
    refine x_iload_n (i := 1) C dX12_text_54 rfl rfl ?_
    refine x_iald C (nlt rfl) rfl rfl (nle rfl) (by omega) (by omega) dX12_text_55 ?_
    refine x_gen (fun v41 ev41 => ?_)
    replace ev41 : v41 = Yy6.1 5 2 := ev41
    have qv41 : (0 : Int) ≤ v41 ∧ v41 ≤ (2 : Int) := by
      rw [ev41]
      exact hHy6.rF (k := 5) (i := 2) (p := (0, 2)) rfl rfl
    have kv41 : v41 = X0.1 5 2 := by rw [ev41, eYy6, upI_nc (by decide), eYy5, upI_nc (by decide), eYy4, upI_nc (by decide), eYy3, upI_nc (by decide), eYy1, upI_nc (by decide)]
    have mzv41 : v41 = X0.1 5 2 := by rw [ev41, eYy6, upI_nc (by decide), eYy5, upI_nc (by decide), eYy4, upI_nc (by decide), eYy3, upI_nc (by decide), eYy1, upI_nc (by decide)]
    refine x_iload_n (i := 1) C dX12_text_56 rfl rfl ?_
    refine x_callS (As := [.int (iI (2))]) C (by exact r_mostOf2) ckX12_265 sm_X12_mostOf rfl rfl (nle rfl) (by exact ⟨nle rfl, nle rfl⟩) dX12_text_57 ?_
    rintro _ Xv42 ⟨hxv42, v42, rfl, ev42⟩
    rw [hxv42]
    refine Wx_st (st' := [.int (iI (v42)), .int (iI (v41))]) rfl ?_
    refine x_icmp_ne (tgt := 78) C dX12_text_60 (by decide) ⟨by omega, by omega⟩ ⟨by omega, by omega⟩ (fun h43 => ?_) (fun h43 => ?_)
    · have rm0 : roomM X0 2 at_ := ⟨by decide, by decide, by rw [show ((2 : Int)).toNat = 2 from rfl]; rw [if_neg (by decide)]; omega⟩
      refine x_aload_n (i := 0) C dX12_text_78 rfl rfl ?_
      refine x_iload_n (i := 1) C dX12_text_79 rfl rfl ?_
      refine x_callV (As := [.int (iI (2))]) C (by exact (r_readText2 ⟨by rw [eYy6, upI_nc (by decide), eYy5, upI_nc (by decide), eYy4, upI_nc (by decide), eYy3, upI_at]; exact z0N, n6, fun i hi => by rw [eYy6, upI_nc (by decide), eYy5, upI_nc (by decide), eYy4, upI_nc (by decide), eYy3, upI_nc (by decide), eYy1, upI_nc (by decide)]; exact hb i hi, hb2⟩ hHy6 FR.rf)) ckX12_271 im_X12_readText se_X12_readText (nlt rfl) rfl rfl rfl rfl (nle rfl) (by exact ⟨nle rfl, nle rfl⟩) dX12_text_80 ?_
      rintro _ Yy44 ⟨v45, rfl, hHy44, hGy44, ft, rd⟩
      have hFy44 : FR mmWG X0 Yy44 := FR.tr hFy6 hGy44 (by decide)
      have hFy440 : FR mmT0 X0 Yy44 := FR.tr hFy60 hGy44 (by decide)
      refine Wx_st (st' := [.int (iI (v45))]) rfl ?_
      refine x_if_ne (tgt := 88) C dX12_text_83 (by decide) ⟨by omega, by omega⟩ (fun h46 => ?_) (fun h46 => ?_)
      · have rd1 := rd.elim (fun g => g.2) (fun g => by exfalso; have := g.1; omega)
        have ft0 := fits_G (a := fun i => Yy44.1 9 i) (txG_wf rd1.1) rd1.2
        refine x_iload_n (i := 2) C dX12_text_88 rfl rfl ?_
        refine x_iconst C dX12_text_89 ?_
        refine x_icmp_ne (tgt := 102) C dX12_text_90 (by decide) ⟨by omega, by omega⟩ ⟨by omega, by omega⟩ (fun h47 => ?_) (fun h47 => ?_)
        · refine x_iload_n (i := 2) C dX12_text_102 rfl rfl ?_
          refine x_istore_n (i := 3) (lv' := [(3, .int (iI (at_))), (0, .ref 0), (1, .int (iI (2))), (2, .int (iI (at_)))]) C dX12_text_103 rfl (nlt rfl) rfl ?_
          rcases (show at_ = 0 ∨ at_ = 1 by omega) with k3 | k3
          · refine Wx_lv (lv' := [(3, .int (iI (0))), (0, .ref 0), (1, .int (iI (2))), (2, .int (iI (at_)))]) (by simp only [k3]) ?_
            have ft0 := ft0 0 (by decide)
            refine x_aload_n (i := 0) C dX12_text_104 rfl rfl ?_
            refine x_getRs (r := 5) C fkM_X12_23 (nlt rfl) rfl (HG.rR hHy44 (k := 0) (i := 5) rfl rfl) dX12_text_105 ?_
            refine x_iload_n (i := 1) C dX12_text_108 rfl rfl ?_
            refine x_dup2_11 C dX12_text_109 rfl rfl ?_
            refine x_iald C (nlt rfl) rfl rfl (nle rfl) (by omega) (by omega) dX12_text_110 ?_
            refine x_gen (fun v48 ev48 => ?_)
            replace ev48 : v48 = Yy44.1 5 2 := ev48
            have qv48 : (0 : Int) ≤ v48 ∧ v48 ≤ (2 : Int) := by
              rw [ev48]
              exact hHy44.rF (k := 5) (i := 2) (p := (0, 2)) rfl rfl
            have kv48 : v48 = X0.1 5 2 := by rw [ev48, (hGy44 5 2 rfl).1, eYy6, upI_nc (by decide), eYy5, upI_nc (by decide), eYy4, upI_nc (by decide), eYy3, upI_nc (by decide), eYy1, upI_nc (by decide)]
            have mzv48 : v48 = X0.1 5 2 := by rw [ev48, (hGy44 5 2 rfl).1, eYy6, upI_nc (by decide), eYy5, upI_nc (by decide), eYy4, upI_nc (by decide), eYy3, upI_nc (by decide), eYy1, upI_nc (by decide)]
            refine x_iload_n (i := 2) C dX12_text_111 rfl rfl ?_
            refine x_iconst C dX12_text_112 ?_
            refine x_icmp_ne (tgt := 120) C dX12_text_113 (by decide) ⟨by omega, by omega⟩ ⟨by omega, by omega⟩ (fun h49 => ?_) (fun h49 => ?_)
            · refine x_iconst C dX12_text_120 ?_
              refine x_iadd C dX12_text_121 ?_
              refine x_iast C (nlt rfl) rfl rfl (nle rfl) (by omega) (by omega) dX12_text_122 ?_
              refine x_gX (fun Yy50 eYy50 => ?_)
              have hHy50 : HG vM Yy50 := by
                rw [eYy50]
                exact hg_wF hHy44 (p := (0, 2)) rfl ⟨by omega, by omega⟩
              have hFy50 : FR mmWG X0 Yy50 := by
                rw [eYy50]
                exact FR.upI hFy44 (rfl)
              replace eYy50 : Yy50 = upI Yy44 5 2 (v48 + 0) := eYy50
              have hGy50 : FR [(5, some 2)] Yy44 Yy50 := by
                rw [eYy50]
                exact FR.upI FR.rf rfl
              refine x_iload_n (i := 1) C dX12_text_123 rfl rfl ?_
              refine x_lookup (a := 2) (off := 56) (tgt := 180) C dX12_text_124 (by decide) ⟨by omega, by omega⟩ (by decide) (by decide) ?_
              refine x_aload_n (i := 0) C dX12_text_180 rfl rfl ?_
              refine x_aload_n (i := 0) C dX12_text_181 rfl rfl ?_
              refine x_getRs (r := 8) C fkM_X12_32 (nlt rfl) rfl (HG.rR hHy50 (k := 0) (i := 8) rfl rfl) dX12_text_182 ?_
              refine x_sipush C dX12_text_185 (by decide) ?_
              refine x_iload_n (i := 3) C dX12_text_188 rfl rfl ?_
              refine x_callV (As := [.ref 8, .int (iI (331)), .int (iI (0))]) C (by exact (r_store_games (m := 0) (by decide) (ft0.cg (fun i hi => by show Yy50.1 9 i = Yy44.1 9 i; rw [eYy50, upI_nc (by decide)])) hHy50 FR.rf)) ckX12_274 im_X12_store se_X12_store (nlt rfl) rfl rfl rfl rfl (nle rfl) (by exact ⟨nle rfl, nle rfl⟩) dX12_text_189 ?_
              rintro _ Yy51 ⟨rfl, hHy51, hGy51, sa, sb⟩
              have hFy51 : FR mmWG X0 Yy51 := FR.tr hFy50 hGy51 (by decide)
              refine Wx_st (st' := []) rfl ?_
              refine x_iload_n (i := 3) C dX12_text_192 rfl rfl ?_
              exact x_iret C hQ dX12_text_193 (⟨_, rfl, hHy51, by rw [(hGy51 2 0 rfl).1, eYy50, upI_nc (by decide), (hGy44 2 0 rfl).1, eYy6, upI_nc (by decide), eYy5, upI_nc (by decide), eYy4, upI_at], .inr ⟨rm0, ⟨by rw [(hGy51 3 0 rfl).1, eYy50, upI_nc (by decide)]; exact ft.1, by rw [(hGy51 4 0 rfl).1, eYy50, upI_nc (by decide)]; exact ft.2⟩, .inr ⟨rd1.1, 0, rfl, .inr ⟨by omega, (show ((0 : Nat) : Int) < X0.1 5 2 by omega), (show Yy51.1 5 2 = X0.1 5 2 by rw [(hGy51 5 2 rfl).1, eYy50, upI_at]; omega)⟩, .inr (.inr ⟨rfl, by decide, hFy51, fun p hp => by rw [sb p hp, eYy50, upI_nc (by decide), (hGy44 8 p rfl).1, eYy6, upI_nc (by decide), eYy5, upI_nc (by decide), eYy4, upI_nc (by decide), eYy3, upI_nc (by decide), eYy1, upI_nc (by decide)], (GRW.cg rd1.2 (fun i hi => by show Yy51.1 8 (331 * 0 + i) = Yy44.1 9 i; rw [sa i hi, eYy50, upI_nc (by decide)]))⟩)⟩⟩⟩)
            · refine x_iconst C dX12_text_116 ?_
              refine x_goto (tgt := 121) C dX12_text_117 (by decide) ?_
              refine x_iadd C dX12_text_121 ?_
              refine x_iast C (nlt rfl) rfl rfl (nle rfl) (by omega) (by omega) dX12_text_122 ?_
              refine x_gX (fun Yy52 eYy52 => ?_)
              have hHy52 : HG vM Yy52 := by
                rw [eYy52]
                exact hg_wF hHy44 (p := (0, 2)) rfl ⟨by omega, by omega⟩
              have hFy52 : FR mmWG X0 Yy52 := by
                rw [eYy52]
                exact FR.upI hFy44 (rfl)
              replace eYy52 : Yy52 = upI Yy44 5 2 (v48 + 1) := eYy52
              have hGy52 : FR [(5, some 2)] Yy44 Yy52 := by
                rw [eYy52]
                exact FR.upI FR.rf rfl
              refine x_iload_n (i := 1) C dX12_text_123 rfl rfl ?_
              refine x_lookup (a := 2) (off := 56) (tgt := 180) C dX12_text_124 (by decide) ⟨by omega, by omega⟩ (by decide) (by decide) ?_
              refine x_aload_n (i := 0) C dX12_text_180 rfl rfl ?_
              refine x_aload_n (i := 0) C dX12_text_181 rfl rfl ?_
              refine x_getRs (r := 8) C fkM_X12_32 (nlt rfl) rfl (HG.rR hHy52 (k := 0) (i := 8) rfl rfl) dX12_text_182 ?_
              refine x_sipush C dX12_text_185 (by decide) ?_
              refine x_iload_n (i := 3) C dX12_text_188 rfl rfl ?_
              refine x_callV (As := [.ref 8, .int (iI (331)), .int (iI (0))]) C (by exact (r_store_games (m := 0) (by decide) (ft0.cg (fun i hi => by show Yy52.1 9 i = Yy44.1 9 i; rw [eYy52, upI_nc (by decide)])) hHy52 FR.rf)) ckX12_274 im_X12_store se_X12_store (nlt rfl) rfl rfl rfl rfl (nle rfl) (by exact ⟨nle rfl, nle rfl⟩) dX12_text_189 ?_
              rintro _ Yy53 ⟨rfl, hHy53, hGy53, sa, sb⟩
              have hFy53 : FR mmWG X0 Yy53 := FR.tr hFy52 hGy53 (by decide)
              refine Wx_st (st' := []) rfl ?_
              refine x_iload_n (i := 3) C dX12_text_192 rfl rfl ?_
              exact x_iret C hQ dX12_text_193 (⟨_, rfl, hHy53, by rw [(hGy53 2 0 rfl).1, eYy52, upI_nc (by decide), (hGy44 2 0 rfl).1, eYy6, upI_nc (by decide), eYy5, upI_nc (by decide), eYy4, upI_at], .inr ⟨rm0, ⟨by rw [(hGy53 3 0 rfl).1, eYy52, upI_nc (by decide)]; exact ft.1, by rw [(hGy53 4 0 rfl).1, eYy52, upI_nc (by decide)]; exact ft.2⟩, .inr ⟨rd1.1, 0, rfl, .inr ⟨by omega, (show ((0 : Nat) : Int) < X0.1 5 2 by omega), (show Yy53.1 5 2 = X0.1 5 2 by rw [(hGy53 5 2 rfl).1, eYy52, upI_at]; omega)⟩, .inr (.inr ⟨rfl, by decide, hFy53, fun p hp => by rw [sb p hp, eYy52, upI_nc (by decide), (hGy44 8 p rfl).1, eYy6, upI_nc (by decide), eYy5, upI_nc (by decide), eYy4, upI_nc (by decide), eYy3, upI_nc (by decide), eYy1, upI_nc (by decide)], (GRW.cg rd1.2 (fun i hi => by show Yy53.1 8 (331 * 0 + i) = Yy44.1 9 i; rw [sa i hi, eYy52, upI_nc (by decide)]))⟩)⟩⟩⟩)
          · refine Wx_lv (lv' := [(3, .int (iI (1))), (0, .ref 0), (1, .int (iI (2))), (2, .int (iI (at_)))]) (by simp only [k3]) ?_
            have ft0 := ft0 1 (by decide)
            refine x_aload_n (i := 0) C dX12_text_104 rfl rfl ?_
            refine x_getRs (r := 5) C fkM_X12_23 (nlt rfl) rfl (HG.rR hHy44 (k := 0) (i := 5) rfl rfl) dX12_text_105 ?_
            refine x_iload_n (i := 1) C dX12_text_108 rfl rfl ?_
            refine x_dup2_11 C dX12_text_109 rfl rfl ?_
            refine x_iald C (nlt rfl) rfl rfl (nle rfl) (by omega) (by omega) dX12_text_110 ?_
            refine x_gen (fun v54 ev54 => ?_)
            replace ev54 : v54 = Yy44.1 5 2 := ev54
            have qv54 : (0 : Int) ≤ v54 ∧ v54 ≤ (2 : Int) := by
              rw [ev54]
              exact hHy44.rF (k := 5) (i := 2) (p := (0, 2)) rfl rfl
            have kv54 : v54 = X0.1 5 2 := by rw [ev54, (hGy44 5 2 rfl).1, eYy6, upI_nc (by decide), eYy5, upI_nc (by decide), eYy4, upI_nc (by decide), eYy3, upI_nc (by decide), eYy1, upI_nc (by decide)]
            have mzv54 : v54 = X0.1 5 2 := by rw [ev54, (hGy44 5 2 rfl).1, eYy6, upI_nc (by decide), eYy5, upI_nc (by decide), eYy4, upI_nc (by decide), eYy3, upI_nc (by decide), eYy1, upI_nc (by decide)]
            refine x_iload_n (i := 2) C dX12_text_111 rfl rfl ?_
            refine x_iconst C dX12_text_112 ?_
            refine x_icmp_ne (tgt := 120) C dX12_text_113 (by decide) ⟨by omega, by omega⟩ ⟨by omega, by omega⟩ (fun h55 => ?_) (fun h55 => ?_)
            · refine x_iconst C dX12_text_120 ?_
              refine x_iadd C dX12_text_121 ?_
              refine x_iast C (nlt rfl) rfl rfl (nle rfl) (by omega) (by omega) dX12_text_122 ?_
              refine x_gX (fun Yy56 eYy56 => ?_)
              have hHy56 : HG vM Yy56 := by
                rw [eYy56]
                exact hg_wF hHy44 (p := (0, 2)) rfl ⟨by omega, by omega⟩
              have hFy56 : FR mmWG X0 Yy56 := by
                rw [eYy56]
                exact FR.upI hFy44 (rfl)
              replace eYy56 : Yy56 = upI Yy44 5 2 (v54 + 0) := eYy56
              have hGy56 : FR [(5, some 2)] Yy44 Yy56 := by
                rw [eYy56]
                exact FR.upI FR.rf rfl
              refine x_iload_n (i := 1) C dX12_text_123 rfl rfl ?_
              refine x_lookup (a := 2) (off := 56) (tgt := 180) C dX12_text_124 (by decide) ⟨by omega, by omega⟩ (by decide) (by decide) ?_
              refine x_aload_n (i := 0) C dX12_text_180 rfl rfl ?_
              refine x_aload_n (i := 0) C dX12_text_181 rfl rfl ?_
              refine x_getRs (r := 8) C fkM_X12_32 (nlt rfl) rfl (HG.rR hHy56 (k := 0) (i := 8) rfl rfl) dX12_text_182 ?_
              refine x_sipush C dX12_text_185 (by decide) ?_
              refine x_iload_n (i := 3) C dX12_text_188 rfl rfl ?_
              refine x_callV (As := [.ref 8, .int (iI (331)), .int (iI (1))]) C (by exact (r_store_games (m := 1) (by decide) (ft0.cg (fun i hi => by show Yy56.1 9 i = Yy44.1 9 i; rw [eYy56, upI_nc (by decide)])) hHy56 FR.rf)) ckX12_274 im_X12_store se_X12_store (nlt rfl) rfl rfl rfl rfl (nle rfl) (by exact ⟨nle rfl, nle rfl⟩) dX12_text_189 ?_
              rintro _ Yy57 ⟨rfl, hHy57, hGy57, sa, sb⟩
              have hFy57 : FR mmWG X0 Yy57 := FR.tr hFy56 hGy57 (by decide)
              refine Wx_st (st' := []) rfl ?_
              refine x_iload_n (i := 3) C dX12_text_192 rfl rfl ?_
              exact x_iret C hQ dX12_text_193 (⟨_, rfl, hHy57, by rw [(hGy57 2 0 rfl).1, eYy56, upI_nc (by decide), (hGy44 2 0 rfl).1, eYy6, upI_nc (by decide), eYy5, upI_nc (by decide), eYy4, upI_at], .inr ⟨rm0, ⟨by rw [(hGy57 3 0 rfl).1, eYy56, upI_nc (by decide)]; exact ft.1, by rw [(hGy57 4 0 rfl).1, eYy56, upI_nc (by decide)]; exact ft.2⟩, .inr ⟨rd1.1, 1, rfl, .inr ⟨by omega, (show ((1 : Nat) : Int) < X0.1 5 2 by omega), (show Yy57.1 5 2 = X0.1 5 2 by rw [(hGy57 5 2 rfl).1, eYy56, upI_at]; omega)⟩, .inr (.inr ⟨rfl, by decide, hFy57, fun p hp => by rw [sb p hp, eYy56, upI_nc (by decide), (hGy44 8 p rfl).1, eYy6, upI_nc (by decide), eYy5, upI_nc (by decide), eYy4, upI_nc (by decide), eYy3, upI_nc (by decide), eYy1, upI_nc (by decide)], (GRW.cg rd1.2 (fun i hi => by show Yy57.1 8 (331 * 1 + i) = Yy44.1 9 i; rw [sa i hi, eYy56, upI_nc (by decide)]))⟩)⟩⟩⟩)
            · refine x_iconst C dX12_text_116 ?_
              refine x_goto (tgt := 121) C dX12_text_117 (by decide) ?_
              refine x_iadd C dX12_text_121 ?_
              refine x_iast C (nlt rfl) rfl rfl (nle rfl) (by omega) (by omega) dX12_text_122 ?_
              refine x_gX (fun Yy58 eYy58 => ?_)
              have hHy58 : HG vM Yy58 := by
                rw [eYy58]
                exact hg_wF hHy44 (p := (0, 2)) rfl ⟨by omega, by omega⟩
              have hFy58 : FR mmWG X0 Yy58 := by
                rw [eYy58]
                exact FR.upI hFy44 (rfl)
              replace eYy58 : Yy58 = upI Yy44 5 2 (v54 + 1) := eYy58
              have hGy58 : FR [(5, some 2)] Yy44 Yy58 := by
                rw [eYy58]
                exact FR.upI FR.rf rfl
              refine x_iload_n (i := 1) C dX12_text_123 rfl rfl ?_
              refine x_lookup (a := 2) (off := 56) (tgt := 180) C dX12_text_124 (by decide) ⟨by omega, by omega⟩ (by decide) (by decide) ?_
              refine x_aload_n (i := 0) C dX12_text_180 rfl rfl ?_
              refine x_aload_n (i := 0) C dX12_text_181 rfl rfl ?_
              refine x_getRs (r := 8) C fkM_X12_32 (nlt rfl) rfl (HG.rR hHy58 (k := 0) (i := 8) rfl rfl) dX12_text_182 ?_
              refine x_sipush C dX12_text_185 (by decide) ?_
              refine x_iload_n (i := 3) C dX12_text_188 rfl rfl ?_
              refine x_callV (As := [.ref 8, .int (iI (331)), .int (iI (1))]) C (by exact (r_store_games (m := 1) (by decide) (ft0.cg (fun i hi => by show Yy58.1 9 i = Yy44.1 9 i; rw [eYy58, upI_nc (by decide)])) hHy58 FR.rf)) ckX12_274 im_X12_store se_X12_store (nlt rfl) rfl rfl rfl rfl (nle rfl) (by exact ⟨nle rfl, nle rfl⟩) dX12_text_189 ?_
              rintro _ Yy59 ⟨rfl, hHy59, hGy59, sa, sb⟩
              have hFy59 : FR mmWG X0 Yy59 := FR.tr hFy58 hGy59 (by decide)
              refine Wx_st (st' := []) rfl ?_
              refine x_iload_n (i := 3) C dX12_text_192 rfl rfl ?_
              exact x_iret C hQ dX12_text_193 (⟨_, rfl, hHy59, by rw [(hGy59 2 0 rfl).1, eYy58, upI_nc (by decide), (hGy44 2 0 rfl).1, eYy6, upI_nc (by decide), eYy5, upI_nc (by decide), eYy4, upI_at], .inr ⟨rm0, ⟨by rw [(hGy59 3 0 rfl).1, eYy58, upI_nc (by decide)]; exact ft.1, by rw [(hGy59 4 0 rfl).1, eYy58, upI_nc (by decide)]; exact ft.2⟩, .inr ⟨rd1.1, 1, rfl, .inr ⟨by omega, (show ((1 : Nat) : Int) < X0.1 5 2 by omega), (show Yy59.1 5 2 = X0.1 5 2 by rw [(hGy59 5 2 rfl).1, eYy58, upI_at]; omega)⟩, .inr (.inr ⟨rfl, by decide, hFy59, fun p hp => by rw [sb p hp, eYy58, upI_nc (by decide), (hGy44 8 p rfl).1, eYy6, upI_nc (by decide), eYy5, upI_nc (by decide), eYy4, upI_nc (by decide), eYy3, upI_nc (by decide), eYy1, upI_nc (by decide)], (GRW.cg rd1.2 (fun i hi => by show Yy59.1 8 (331 * 1 + i) = Yy44.1 9 i; rw [sa i hi, eYy58, upI_nc (by decide)]))⟩)⟩⟩⟩)
        · have at1 : at_ = -1 := by omega
          refine x_aload_n (i := 0) C dX12_text_93 rfl rfl ?_
          refine x_getRs (r := 5) C fkM_X12_23 (nlt rfl) rfl (HG.rR hHy44 (k := 0) (i := 5) rfl rfl) dX12_text_94 ?_
          refine x_iload_n (i := 1) C dX12_text_97 rfl rfl ?_
          refine x_iald C (nlt rfl) rfl rfl (nle rfl) (by omega) (by omega) dX12_text_98 ?_
          refine x_gen (fun v60 ev60 => ?_)
          replace ev60 : v60 = Yy44.1 5 2 := ev60
          have qv60 : (0 : Int) ≤ v60 ∧ v60 ≤ (2 : Int) := by
            rw [ev60]
            exact hHy44.rF (k := 5) (i := 2) (p := (0, 2)) rfl rfl
          have kv60 : v60 = X0.1 5 2 := by rw [ev60, (hGy44 5 2 rfl).1, eYy6, upI_nc (by decide), eYy5, upI_nc (by decide), eYy4, upI_nc (by decide), eYy3, upI_nc (by decide), eYy1, upI_nc (by decide)]
          have mzv60 : v60 = X0.1 5 2 := by rw [ev60, (hGy44 5 2 rfl).1, eYy6, upI_nc (by decide), eYy5, upI_nc (by decide), eYy4, upI_nc (by decide), eYy3, upI_nc (by decide), eYy1, upI_nc (by decide)]
          refine x_goto (tgt := 103) C dX12_text_99 (by decide) ?_
          refine x_istore_n (i := 3) (lv' := [(3, .int (iI (v60))), (0, .ref 0), (1, .int (iI (2))), (2, .int (iI (at_)))]) C dX12_text_103 rfl (nlt rfl) rfl ?_
          rcases (show v60 = 0 ∨ v60 = 1 by omega) with k3 | k3
          · refine Wx_lv (lv' := [(3, .int (iI (0))), (0, .ref 0), (1, .int (iI (2))), (2, .int (iI (at_)))]) (by simp only [k3]) ?_
            have ft0 := ft0 0 (by decide)
            refine x_aload_n (i := 0) C dX12_text_104 rfl rfl ?_
            refine x_getRs (r := 5) C fkM_X12_23 (nlt rfl) rfl (HG.rR hHy44 (k := 0) (i := 5) rfl rfl) dX12_text_105 ?_
            refine x_iload_n (i := 1) C dX12_text_108 rfl rfl ?_
            refine x_dup2_11 C dX12_text_109 rfl rfl ?_
            refine x_iald C (nlt rfl) rfl rfl (nle rfl) (by omega) (by omega) dX12_text_110 ?_
            refine x_gen (fun v61 ev61 => ?_)
            replace ev61 : v61 = Yy44.1 5 2 := ev61
            have qv61 : (0 : Int) ≤ v61 ∧ v61 ≤ (2 : Int) := by
              rw [ev61]
              exact hHy44.rF (k := 5) (i := 2) (p := (0, 2)) rfl rfl
            have kv61 : v61 = X0.1 5 2 := by rw [ev61, (hGy44 5 2 rfl).1, eYy6, upI_nc (by decide), eYy5, upI_nc (by decide), eYy4, upI_nc (by decide), eYy3, upI_nc (by decide), eYy1, upI_nc (by decide)]
            have mzv61 : v61 = X0.1 5 2 := by rw [ev61, (hGy44 5 2 rfl).1, eYy6, upI_nc (by decide), eYy5, upI_nc (by decide), eYy4, upI_nc (by decide), eYy3, upI_nc (by decide), eYy1, upI_nc (by decide)]
            refine x_iload_n (i := 2) C dX12_text_111 rfl rfl ?_
            refine x_iconst C dX12_text_112 ?_
            refine x_icmp_ne (tgt := 120) C dX12_text_113 (by decide) ⟨by omega, by omega⟩ ⟨by omega, by omega⟩ (fun h62 => ?_) (fun h62 => ?_)
            · refine x_iconst C dX12_text_120 ?_
              refine x_iadd C dX12_text_121 ?_
              refine x_iast C (nlt rfl) rfl rfl (nle rfl) (by omega) (by omega) dX12_text_122 ?_
              refine x_gX (fun Yy63 eYy63 => ?_)
              have hHy63 : HG vM Yy63 := by
                rw [eYy63]
                exact hg_wF hHy44 (p := (0, 2)) rfl ⟨by omega, by omega⟩
              have hFy63 : FR mmWG X0 Yy63 := by
                rw [eYy63]
                exact FR.upI hFy44 (rfl)
              replace eYy63 : Yy63 = upI Yy44 5 2 (v61 + 0) := eYy63
              have hGy63 : FR [(5, some 2)] Yy44 Yy63 := by
                rw [eYy63]
                exact FR.upI FR.rf rfl
              refine x_iload_n (i := 1) C dX12_text_123 rfl rfl ?_
              refine x_lookup (a := 2) (off := 56) (tgt := 180) C dX12_text_124 (by decide) ⟨by omega, by omega⟩ (by decide) (by decide) ?_
              refine x_aload_n (i := 0) C dX12_text_180 rfl rfl ?_
              refine x_aload_n (i := 0) C dX12_text_181 rfl rfl ?_
              refine x_getRs (r := 8) C fkM_X12_32 (nlt rfl) rfl (HG.rR hHy63 (k := 0) (i := 8) rfl rfl) dX12_text_182 ?_
              refine x_sipush C dX12_text_185 (by decide) ?_
              refine x_iload_n (i := 3) C dX12_text_188 rfl rfl ?_
              refine x_callV (As := [.ref 8, .int (iI (331)), .int (iI (0))]) C (by exact (r_store_games (m := 0) (by decide) (ft0.cg (fun i hi => by show Yy63.1 9 i = Yy44.1 9 i; rw [eYy63, upI_nc (by decide)])) hHy63 FR.rf)) ckX12_274 im_X12_store se_X12_store (nlt rfl) rfl rfl rfl rfl (nle rfl) (by exact ⟨nle rfl, nle rfl⟩) dX12_text_189 ?_
              rintro _ Yy64 ⟨rfl, hHy64, hGy64, sa, sb⟩
              have hFy64 : FR mmWG X0 Yy64 := FR.tr hFy63 hGy64 (by decide)
              refine Wx_st (st' := []) rfl ?_
              refine x_iload_n (i := 3) C dX12_text_192 rfl rfl ?_
              exact x_iret C hQ dX12_text_193 (⟨_, rfl, hHy64, by rw [(hGy64 2 0 rfl).1, eYy63, upI_nc (by decide), (hGy44 2 0 rfl).1, eYy6, upI_nc (by decide), eYy5, upI_nc (by decide), eYy4, upI_at], .inr ⟨rm0, ⟨by rw [(hGy64 3 0 rfl).1, eYy63, upI_nc (by decide)]; exact ft.1, by rw [(hGy64 4 0 rfl).1, eYy63, upI_nc (by decide)]; exact ft.2⟩, .inr ⟨rd1.1, 0, rfl, .inl ⟨at1, (show X0.1 5 2 = ((0 : Nat) : Int) by omega), (show Yy64.1 5 2 = ((0 : Nat) : Int) + 1 by rw [(hGy64 5 2 rfl).1, eYy63, upI_at]; omega)⟩, .inr (.inr ⟨rfl, by decide, hFy64, fun p hp => by rw [sb p hp, eYy63, upI_nc (by decide), (hGy44 8 p rfl).1, eYy6, upI_nc (by decide), eYy5, upI_nc (by decide), eYy4, upI_nc (by decide), eYy3, upI_nc (by decide), eYy1, upI_nc (by decide)], (GRW.cg rd1.2 (fun i hi => by show Yy64.1 8 (331 * 0 + i) = Yy44.1 9 i; rw [sa i hi, eYy63, upI_nc (by decide)]))⟩)⟩⟩⟩)
            · refine x_iconst C dX12_text_116 ?_
              refine x_goto (tgt := 121) C dX12_text_117 (by decide) ?_
              refine x_iadd C dX12_text_121 ?_
              refine x_iast C (nlt rfl) rfl rfl (nle rfl) (by omega) (by omega) dX12_text_122 ?_
              refine x_gX (fun Yy65 eYy65 => ?_)
              have hHy65 : HG vM Yy65 := by
                rw [eYy65]
                exact hg_wF hHy44 (p := (0, 2)) rfl ⟨by omega, by omega⟩
              have hFy65 : FR mmWG X0 Yy65 := by
                rw [eYy65]
                exact FR.upI hFy44 (rfl)
              replace eYy65 : Yy65 = upI Yy44 5 2 (v61 + 1) := eYy65
              have hGy65 : FR [(5, some 2)] Yy44 Yy65 := by
                rw [eYy65]
                exact FR.upI FR.rf rfl
              refine x_iload_n (i := 1) C dX12_text_123 rfl rfl ?_
              refine x_lookup (a := 2) (off := 56) (tgt := 180) C dX12_text_124 (by decide) ⟨by omega, by omega⟩ (by decide) (by decide) ?_
              refine x_aload_n (i := 0) C dX12_text_180 rfl rfl ?_
              refine x_aload_n (i := 0) C dX12_text_181 rfl rfl ?_
              refine x_getRs (r := 8) C fkM_X12_32 (nlt rfl) rfl (HG.rR hHy65 (k := 0) (i := 8) rfl rfl) dX12_text_182 ?_
              refine x_sipush C dX12_text_185 (by decide) ?_
              refine x_iload_n (i := 3) C dX12_text_188 rfl rfl ?_
              refine x_callV (As := [.ref 8, .int (iI (331)), .int (iI (0))]) C (by exact (r_store_games (m := 0) (by decide) (ft0.cg (fun i hi => by show Yy65.1 9 i = Yy44.1 9 i; rw [eYy65, upI_nc (by decide)])) hHy65 FR.rf)) ckX12_274 im_X12_store se_X12_store (nlt rfl) rfl rfl rfl rfl (nle rfl) (by exact ⟨nle rfl, nle rfl⟩) dX12_text_189 ?_
              rintro _ Yy66 ⟨rfl, hHy66, hGy66, sa, sb⟩
              have hFy66 : FR mmWG X0 Yy66 := FR.tr hFy65 hGy66 (by decide)
              refine Wx_st (st' := []) rfl ?_
              refine x_iload_n (i := 3) C dX12_text_192 rfl rfl ?_
              exact x_iret C hQ dX12_text_193 (⟨_, rfl, hHy66, by rw [(hGy66 2 0 rfl).1, eYy65, upI_nc (by decide), (hGy44 2 0 rfl).1, eYy6, upI_nc (by decide), eYy5, upI_nc (by decide), eYy4, upI_at], .inr ⟨rm0, ⟨by rw [(hGy66 3 0 rfl).1, eYy65, upI_nc (by decide)]; exact ft.1, by rw [(hGy66 4 0 rfl).1, eYy65, upI_nc (by decide)]; exact ft.2⟩, .inr ⟨rd1.1, 0, rfl, .inl ⟨at1, (show X0.1 5 2 = ((0 : Nat) : Int) by omega), (show Yy66.1 5 2 = ((0 : Nat) : Int) + 1 by rw [(hGy66 5 2 rfl).1, eYy65, upI_at]; omega)⟩, .inr (.inr ⟨rfl, by decide, hFy66, fun p hp => by rw [sb p hp, eYy65, upI_nc (by decide), (hGy44 8 p rfl).1, eYy6, upI_nc (by decide), eYy5, upI_nc (by decide), eYy4, upI_nc (by decide), eYy3, upI_nc (by decide), eYy1, upI_nc (by decide)], (GRW.cg rd1.2 (fun i hi => by show Yy66.1 8 (331 * 0 + i) = Yy44.1 9 i; rw [sa i hi, eYy65, upI_nc (by decide)]))⟩)⟩⟩⟩)
          · refine Wx_lv (lv' := [(3, .int (iI (1))), (0, .ref 0), (1, .int (iI (2))), (2, .int (iI (at_)))]) (by simp only [k3]) ?_
            have ft0 := ft0 1 (by decide)
            refine x_aload_n (i := 0) C dX12_text_104 rfl rfl ?_
            refine x_getRs (r := 5) C fkM_X12_23 (nlt rfl) rfl (HG.rR hHy44 (k := 0) (i := 5) rfl rfl) dX12_text_105 ?_
            refine x_iload_n (i := 1) C dX12_text_108 rfl rfl ?_
            refine x_dup2_11 C dX12_text_109 rfl rfl ?_
            refine x_iald C (nlt rfl) rfl rfl (nle rfl) (by omega) (by omega) dX12_text_110 ?_
            refine x_gen (fun v67 ev67 => ?_)
            replace ev67 : v67 = Yy44.1 5 2 := ev67
            have qv67 : (0 : Int) ≤ v67 ∧ v67 ≤ (2 : Int) := by
              rw [ev67]
              exact hHy44.rF (k := 5) (i := 2) (p := (0, 2)) rfl rfl
            have kv67 : v67 = X0.1 5 2 := by rw [ev67, (hGy44 5 2 rfl).1, eYy6, upI_nc (by decide), eYy5, upI_nc (by decide), eYy4, upI_nc (by decide), eYy3, upI_nc (by decide), eYy1, upI_nc (by decide)]
            have mzv67 : v67 = X0.1 5 2 := by rw [ev67, (hGy44 5 2 rfl).1, eYy6, upI_nc (by decide), eYy5, upI_nc (by decide), eYy4, upI_nc (by decide), eYy3, upI_nc (by decide), eYy1, upI_nc (by decide)]
            refine x_iload_n (i := 2) C dX12_text_111 rfl rfl ?_
            refine x_iconst C dX12_text_112 ?_
            refine x_icmp_ne (tgt := 120) C dX12_text_113 (by decide) ⟨by omega, by omega⟩ ⟨by omega, by omega⟩ (fun h68 => ?_) (fun h68 => ?_)
            · refine x_iconst C dX12_text_120 ?_
              refine x_iadd C dX12_text_121 ?_
              refine x_iast C (nlt rfl) rfl rfl (nle rfl) (by omega) (by omega) dX12_text_122 ?_
              refine x_gX (fun Yy69 eYy69 => ?_)
              have hHy69 : HG vM Yy69 := by
                rw [eYy69]
                exact hg_wF hHy44 (p := (0, 2)) rfl ⟨by omega, by omega⟩
              have hFy69 : FR mmWG X0 Yy69 := by
                rw [eYy69]
                exact FR.upI hFy44 (rfl)
              replace eYy69 : Yy69 = upI Yy44 5 2 (v67 + 0) := eYy69
              have hGy69 : FR [(5, some 2)] Yy44 Yy69 := by
                rw [eYy69]
                exact FR.upI FR.rf rfl
              refine x_iload_n (i := 1) C dX12_text_123 rfl rfl ?_
              refine x_lookup (a := 2) (off := 56) (tgt := 180) C dX12_text_124 (by decide) ⟨by omega, by omega⟩ (by decide) (by decide) ?_
              refine x_aload_n (i := 0) C dX12_text_180 rfl rfl ?_
              refine x_aload_n (i := 0) C dX12_text_181 rfl rfl ?_
              refine x_getRs (r := 8) C fkM_X12_32 (nlt rfl) rfl (HG.rR hHy69 (k := 0) (i := 8) rfl rfl) dX12_text_182 ?_
              refine x_sipush C dX12_text_185 (by decide) ?_
              refine x_iload_n (i := 3) C dX12_text_188 rfl rfl ?_
              refine x_callV (As := [.ref 8, .int (iI (331)), .int (iI (1))]) C (by exact (r_store_games (m := 1) (by decide) (ft0.cg (fun i hi => by show Yy69.1 9 i = Yy44.1 9 i; rw [eYy69, upI_nc (by decide)])) hHy69 FR.rf)) ckX12_274 im_X12_store se_X12_store (nlt rfl) rfl rfl rfl rfl (nle rfl) (by exact ⟨nle rfl, nle rfl⟩) dX12_text_189 ?_
              rintro _ Yy70 ⟨rfl, hHy70, hGy70, sa, sb⟩
              have hFy70 : FR mmWG X0 Yy70 := FR.tr hFy69 hGy70 (by decide)
              refine Wx_st (st' := []) rfl ?_
              refine x_iload_n (i := 3) C dX12_text_192 rfl rfl ?_
              exact x_iret C hQ dX12_text_193 (⟨_, rfl, hHy70, by rw [(hGy70 2 0 rfl).1, eYy69, upI_nc (by decide), (hGy44 2 0 rfl).1, eYy6, upI_nc (by decide), eYy5, upI_nc (by decide), eYy4, upI_at], .inr ⟨rm0, ⟨by rw [(hGy70 3 0 rfl).1, eYy69, upI_nc (by decide)]; exact ft.1, by rw [(hGy70 4 0 rfl).1, eYy69, upI_nc (by decide)]; exact ft.2⟩, .inr ⟨rd1.1, 1, rfl, .inl ⟨at1, (show X0.1 5 2 = ((1 : Nat) : Int) by omega), (show Yy70.1 5 2 = ((1 : Nat) : Int) + 1 by rw [(hGy70 5 2 rfl).1, eYy69, upI_at]; omega)⟩, .inr (.inr ⟨rfl, by decide, hFy70, fun p hp => by rw [sb p hp, eYy69, upI_nc (by decide), (hGy44 8 p rfl).1, eYy6, upI_nc (by decide), eYy5, upI_nc (by decide), eYy4, upI_nc (by decide), eYy3, upI_nc (by decide), eYy1, upI_nc (by decide)], (GRW.cg rd1.2 (fun i hi => by show Yy70.1 8 (331 * 1 + i) = Yy44.1 9 i; rw [sa i hi, eYy69, upI_nc (by decide)]))⟩)⟩⟩⟩)
            · refine x_iconst C dX12_text_116 ?_
              refine x_goto (tgt := 121) C dX12_text_117 (by decide) ?_
              refine x_iadd C dX12_text_121 ?_
              refine x_iast C (nlt rfl) rfl rfl (nle rfl) (by omega) (by omega) dX12_text_122 ?_
              refine x_gX (fun Yy71 eYy71 => ?_)
              have hHy71 : HG vM Yy71 := by
                rw [eYy71]
                exact hg_wF hHy44 (p := (0, 2)) rfl ⟨by omega, by omega⟩
              have hFy71 : FR mmWG X0 Yy71 := by
                rw [eYy71]
                exact FR.upI hFy44 (rfl)
              replace eYy71 : Yy71 = upI Yy44 5 2 (v67 + 1) := eYy71
              have hGy71 : FR [(5, some 2)] Yy44 Yy71 := by
                rw [eYy71]
                exact FR.upI FR.rf rfl
              refine x_iload_n (i := 1) C dX12_text_123 rfl rfl ?_
              refine x_lookup (a := 2) (off := 56) (tgt := 180) C dX12_text_124 (by decide) ⟨by omega, by omega⟩ (by decide) (by decide) ?_
              refine x_aload_n (i := 0) C dX12_text_180 rfl rfl ?_
              refine x_aload_n (i := 0) C dX12_text_181 rfl rfl ?_
              refine x_getRs (r := 8) C fkM_X12_32 (nlt rfl) rfl (HG.rR hHy71 (k := 0) (i := 8) rfl rfl) dX12_text_182 ?_
              refine x_sipush C dX12_text_185 (by decide) ?_
              refine x_iload_n (i := 3) C dX12_text_188 rfl rfl ?_
              refine x_callV (As := [.ref 8, .int (iI (331)), .int (iI (1))]) C (by exact (r_store_games (m := 1) (by decide) (ft0.cg (fun i hi => by show Yy71.1 9 i = Yy44.1 9 i; rw [eYy71, upI_nc (by decide)])) hHy71 FR.rf)) ckX12_274 im_X12_store se_X12_store (nlt rfl) rfl rfl rfl rfl (nle rfl) (by exact ⟨nle rfl, nle rfl⟩) dX12_text_189 ?_
              rintro _ Yy72 ⟨rfl, hHy72, hGy72, sa, sb⟩
              have hFy72 : FR mmWG X0 Yy72 := FR.tr hFy71 hGy72 (by decide)
              refine Wx_st (st' := []) rfl ?_
              refine x_iload_n (i := 3) C dX12_text_192 rfl rfl ?_
              exact x_iret C hQ dX12_text_193 (⟨_, rfl, hHy72, by rw [(hGy72 2 0 rfl).1, eYy71, upI_nc (by decide), (hGy44 2 0 rfl).1, eYy6, upI_nc (by decide), eYy5, upI_nc (by decide), eYy4, upI_at], .inr ⟨rm0, ⟨by rw [(hGy72 3 0 rfl).1, eYy71, upI_nc (by decide)]; exact ft.1, by rw [(hGy72 4 0 rfl).1, eYy71, upI_nc (by decide)]; exact ft.2⟩, .inr ⟨rd1.1, 1, rfl, .inl ⟨at1, (show X0.1 5 2 = ((1 : Nat) : Int) by omega), (show Yy72.1 5 2 = ((1 : Nat) : Int) + 1 by rw [(hGy72 5 2 rfl).1, eYy71, upI_at]; omega)⟩, .inr (.inr ⟨rfl, by decide, hFy72, fun p hp => by rw [sb p hp, eYy71, upI_nc (by decide), (hGy44 8 p rfl).1, eYy6, upI_nc (by decide), eYy5, upI_nc (by decide), eYy4, upI_nc (by decide), eYy3, upI_nc (by decide), eYy1, upI_nc (by decide)], (GRW.cg rd1.2 (fun i hi => by show Yy72.1 8 (331 * 1 + i) = Yy44.1 9 i; rw [sa i hi, eYy71, upI_nc (by decide)]))⟩)⟩⟩⟩)
      · refine x_iconst C dX12_text_86 ?_
        exact x_iret C hQ dX12_text_87 (⟨_, rfl, hHy44, by rw [(hGy44 2 0 rfl).1, eYy6, upI_nc (by decide), eYy5, upI_nc (by decide), eYy4, upI_at], .inr ⟨rm0, ft, .inl ⟨rfl, rd.elim (fun g => by exfalso; have := g.1; omega) (fun g => g.2), hFy440⟩⟩⟩)
    · refine x_goto (tgt := 75) C dX12_text_63 (by decide) ?_
      refine x_bipush C dX12_text_75 (by decide) ?_
      exact x_iret C hQ dX12_text_77 (⟨_, rfl, hHy6, by rw [eYy6, upI_nc (by decide), eYy5, upI_nc (by decide), eYy4, upI_at], .inl ⟨rfl, fun g => by have g2 := g.2.2; rw [show ((2 : Int)).toNat = 2 from rfl, if_neg (by decide)] at g2; omega, hFy60, ⟨by rw [eYy6, upI_nc (by decide), eYy5, upI_at], by rw [eYy6, upI_at]⟩⟩⟩)
set_option maxHeartbeats 4000000 in
set_option maxRecDepth 100000 in
theorem r_textN {D : va_G} {ad : Nat → Nat} {cA : Nat → ClassId} {X0 : XT} {b : Nat → Int} {N : Nat} {st at_ : Int} (ss : inR st) (hs : ¬ (0 ≤ st ∧ st ≤ 2)) (aa : inR at_) (hN : X0.1 2 0 = (N : Int)) (hb : ∀ i, i < N → X0.1 1 i % 256 = b i) (hH : HG vM X0) (hF : FR mmT0 X0 X0) (hF0 : FR mmT0 X0 X0) : MetX (wM D ad cA) yX12_text cX12_text 4 (some .int) 7 158 [.ref 0, .int (iI (st)), .int (iI (at_))] X0 (fun r X1 => ∃ u : Int, r = some (.int (iI u)) ∧ HG vM X1 ∧ TXM b N X0 X1 st at_ u) := by
  unfold inR at ss
  unfold inR at aa
  have n6 : N ≤ 600 := by have q : (0 : Int) ≤ X0.1 2 0 ∧ X0.1 2 0 ≤ 600 := hH.rF (k := 2) (i := 0) (p := (0, 600)) rfl rfl; omega
  have hb2 : ∀ i, i < N → 0 ≤ b i ∧ b i ≤ 255 := fun i hi => by have := hb i hi; omega
  refine MetX.mk (own := RX12) (by decide +kernel) rfl (nle rfl) (fun E C hQ => ?_)
  refine Wx_lv (lv' := [(0, .ref 0), (1, .int (iI (st))), (2, .int (iI (at_)))]) rfl ?_
  refine x_aload_n (i := 0) C dX12_text_0 rfl rfl ?_
  refine x_iconst C dX12_text_1 ?_
  refine x_putI C pkM_X12_157 (nlt rfl) rfl dX12_text_2 ?_
  refine x_gX (fun Yy1 eYy1 => ?_)
  have hHy1 : HG vM Yy1 := by
    rw [eYy1]
    exact hg_wF hH (p := ((-2147483648), 2147483647)) rfl ⟨by omega, by omega⟩
  have hFy1 : FR mmT0 X0 Yy1 := by
    rw [eYy1]
    exact FR.upI hF (rfl)
  have hFy10 : FR mmT0 X0 Yy1 := by
    rw [eYy1]
    exact FR.upI hF0 rfl
  refine x_aload_n (i := 0) C dX12_text_5 rfl rfl ?_
  refine x_aload_n (i := 0) C dX12_text_6 rfl rfl ?_
  refine x_getRs (r := 2) C fkM_X12_13 (nlt rfl) rfl (HG.rR hHy1 (k := 0) (i := 2) rfl rfl) dX12_text_7 ?_
  refine x_iconst C dX12_text_10 ?_
  refine x_iald C (nlt rfl) rfl rfl (nle rfl) (by omega) (by omega) dX12_text_11 ?_
  refine x_gen (fun v2 ev2 => ?_)
  replace ev2 : v2 = Yy1.1 2 0 := ev2
  have qv2 : (0 : Int) ≤ v2 ∧ v2 ≤ (600 : Int) := by
    rw [ev2]
    exact hHy1.rF (k := 2) (i := 0) (p := (0, 600)) rfl rfl
  have kv2 : v2 = X0.1 2 0 := by rw [ev2, eYy1, upI_nc (by decide)]
  have z0N : v2 = (N : Int) := by rw [kv2]; exact hN
  refine x_putI C pkM_X12_176 (nlt rfl) rfl dX12_text_12 ?_
  refine x_gX (fun Yy3 eYy3 => ?_)
  have hHy3 : HG vM Yy3 := by
    rw [eYy3]
    exact hg_wF hHy1 (p := ((-2147483648), 2147483647)) rfl ⟨by omega, by omega⟩
  have hFy3 : FR mmT0 X0 Yy3 := by
    rw [eYy3]
    exact FR.upI hFy1 (rfl)
  have hFy30 : FR mmT0 X0 Yy3 := by
    rw [eYy3]
    exact FR.upI hFy10 rfl
  refine x_aload_n (i := 0) C dX12_text_15 rfl rfl ?_
  refine x_getRs (r := 2) C fkM_X12_13 (nlt rfl) rfl (HG.rR hHy3 (k := 0) (i := 2) rfl rfl) dX12_text_16 ?_
  refine x_iconst C dX12_text_19 ?_
  refine x_iconst C dX12_text_20 ?_
  refine x_iast C (nlt rfl) rfl rfl (nle rfl) (by omega) (by omega) dX12_text_21 ?_
  refine x_gX (fun Yy4 eYy4 => ?_)
  have hHy4 : HG vM Yy4 := by
    rw [eYy4]
    exact hg_wF hHy3 (p := (0, 600)) rfl ⟨by omega, by omega⟩
  have hFy4 : FR mmT0 X0 Yy4 := by
    rw [eYy4]
    exact FR.upI hFy3 (rfl)
  replace eYy4 : Yy4 = upI Yy3 2 0 (0) := eYy4
  have hFy40 : FR mmT0 X0 Yy4 := by
    rw [eYy4]
    exact FR.upI hFy30 rfl
  refine x_aload_n (i := 0) C dX12_text_22 rfl rfl ?_
  refine x_getRs (r := 3) C fkM_X12_17 (nlt rfl) rfl (HG.rR hHy4 (k := 0) (i := 3) rfl rfl) dX12_text_23 ?_
  refine x_iconst C dX12_text_26 ?_
  refine x_iconst C dX12_text_27 ?_
  refine x_iast C (nlt rfl) rfl rfl (nle rfl) (by omega) (by omega) dX12_text_28 ?_
  refine x_gX (fun Yy5 eYy5 => ?_)
  have hHy5 : HG vM Yy5 := by
    rw [eYy5]
    exact hg_wF hHy4 (p := ((-2147483648), 2147483647)) rfl ⟨by omega, by omega⟩
  have hFy5 : FR mmT0 X0 Yy5 := by
    rw [eYy5]
    exact FR.upI hFy4 (rfl)
  replace eYy5 : Yy5 = upI Yy4 3 0 (0) := eYy5
  have hFy50 : FR mmT0 X0 Yy5 := by
    rw [eYy5]
    exact FR.upI hFy40 rfl
  refine x_aload_n (i := 0) C dX12_text_29 rfl rfl ?_
  refine x_getRs (r := 4) C fkM_X12_20 (nlt rfl) rfl (HG.rR hHy5 (k := 0) (i := 4) rfl rfl) dX12_text_30 ?_
  refine x_iconst C dX12_text_33 ?_
  refine x_iconst C dX12_text_34 ?_
  refine x_iast C (nlt rfl) rfl rfl (nle rfl) (by omega) (by omega) dX12_text_35 ?_
  refine x_gX (fun Yy6 eYy6 => ?_)
  have hHy6 : HG vM Yy6 := by
    rw [eYy6]
    exact hg_wF hHy5 (p := ((-2147483648), 2147483647)) rfl ⟨by omega, by omega⟩
  have hFy6 : FR mmT0 X0 Yy6 := by
    rw [eYy6]
    exact FR.upI hFy5 (rfl)
  replace eYy6 : Yy6 = upI Yy5 4 0 ((-1)) := eYy6
  have hFy60 : FR mmT0 X0 Yy6 := by
    rw [eYy6]
    exact FR.upI hFy50 rfl
  refine x_iload_n (i := 1) C dX12_text_36 rfl rfl ?_
  refine x_iconst C dX12_text_37 ?_
  refine x_iconst C dX12_text_38 ?_
  refine x_callS (As := [.int (iI (st)), .int (iI (0)), .int (iI (2))]) C (by exact (q_in (v := st) (a := 0) (b := 2) ⟨by omega, by omega⟩ ⟨by omega, by omega⟩ ⟨by omega, by omega⟩)) ckX12_165 sm_X12_in rfl rfl (nle rfl) (by exact ⟨nle rfl, nle rfl⟩) dX12_text_39 ?_
  rintro _ Xv7 ⟨hxv7, v7, rfl, ev7⟩
  rw [hxv7]
  refine Wx_st (st' := [.int (iI (v7))]) rfl ?_
  refine x_if_eq (tgt := 75) C dX12_text_42 (by decide) ⟨by omega, by omega⟩ (fun h8 => ?_) (fun h8 => by exfalso; omega)
  refine x_bipush C dX12_text_75 (by decide) ?_
  exact x_iret C hQ dX12_text_77 (⟨_, rfl, hHy6, by rw [eYy6, upI_nc (by decide), eYy5, upI_nc (by decide), eYy4, upI_at], .inl ⟨rfl, fun g => hs ⟨g.1, g.2.1⟩, hFy60, ⟨by rw [eYy6, upI_nc (by decide), eYy5, upI_at], by rw [eYy6, upI_at]⟩⟩⟩)
theorem r_text {D : va_G} {ad : Nat → Nat} {cA : Nat → ClassId} {X0 : XT} {b : Nat → Int} {N : Nat} {st at_ : Int} (ss : inR st) (aa : inR at_) (hN : X0.1 2 0 = (N : Int)) (hb : ∀ i, i < N → X0.1 1 i % 256 = b i) (hH : HG vM X0) : MetX (wM D ad cA) yX12_text cX12_text 4 (some .int) 7 158 [.ref 0, .int (iI (st)), .int (iI (at_))] X0 (fun r X1 => ∃ u : Int, r = some (.int (iI u)) ∧ HG vM X1 ∧ TXM b N X0 X1 st at_ u) := by
  rcases (show st = 0 ∨ st = 1 ∨ st = 2 ∨ ¬ (0 ≤ st ∧ st ≤ 2) by omega) with rfl | rfl | rfl | hs
  · exact r_text0 aa hN hb hH FR.rf FR.rf
  · exact r_text1 aa hN hb hH FR.rf FR.rf
  · exact r_text2 aa hN hb hH FR.rf FR.rf
  · exact r_textN ss hs aa hN hb hH FR.rf FR.rf
