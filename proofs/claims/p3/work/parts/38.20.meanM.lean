/-! ===== the reference: meanings ===== -/
theorem dX12_rulesOf_0 : decode cX12_rulesOf 0 = .ok (.iconst 1, 1) := by decide +kernel
theorem dX12_rulesOf_1 : decode cX12_rulesOf 1 = .ok (.istore_n 1, 1) := by decide +kernel
theorem dX12_rulesOf_2 : decode cX12_rulesOf 2 = .ok (.iconst 0, 1) := by decide +kernel
theorem dX12_rulesOf_3 : decode cX12_rulesOf 3 = .ok (.istore_n 2, 1) := by decide +kernel
theorem dX12_rulesOf_4 : decode cX12_rulesOf 4 = .ok (.iload_n 2, 1) := by decide +kernel
theorem dX12_rulesOf_5 : decode cX12_rulesOf 5 = .ok (.iload_n 0, 1) := by decide +kernel
theorem dX12_rulesOf_6 : decode cX12_rulesOf 6 = .ok (.if_icmp .ge 14, 3) := by decide +kernel
theorem dX12_rulesOf_9 : decode cX12_rulesOf 9 = .ok (.iload_n 1, 1) := by decide +kernel
theorem dX12_rulesOf_10 : decode cX12_rulesOf 10 = .ok (.bipush 10, 2) := by decide +kernel
theorem dX12_rulesOf_12 : decode cX12_rulesOf 12 = .ok (.imul, 1) := by decide +kernel
theorem dX12_rulesOf_13 : decode cX12_rulesOf 13 = .ok (.istore_n 1, 1) := by decide +kernel
theorem dX12_rulesOf_14 : decode cX12_rulesOf 14 = .ok (.iinc 2 1, 3) := by decide +kernel
theorem dX12_rulesOf_17 : decode cX12_rulesOf 17 = .ok (.goto (-13), 3) := by decide +kernel
theorem dX12_rulesOf_20 : decode cX12_rulesOf 20 = .ok (.iload_n 1, 1) := by decide +kernel
theorem dX12_rulesOf_21 : decode cX12_rulesOf 21 = .ok (.ireturn, 1) := by decide +kernel
theorem dX12_layNumber_0 : decode cX12_layNumber 0 = .ok (.aload_n 0, 1) := by decide +kernel
theorem dX12_layNumber_1 : decode cX12_layNumber 1 = .ok (.getfield 75, 3) := by decide +kernel
theorem dX12_layNumber_4 : decode cX12_layNumber 4 = .ok (.iconst 0, 1) := by decide +kernel
theorem dX12_layNumber_5 : decode cX12_layNumber 5 = .ok (.iload_n 1, 1) := by decide +kernel
theorem dX12_layNumber_6 : decode cX12_layNumber 6 = .ok (.iastore, 1) := by decide +kernel
theorem dX12_layNumber_7 : decode cX12_layNumber 7 = .ok (.iload_n 2, 1) := by decide +kernel
theorem dX12_layNumber_8 : decode cX12_layNumber 8 = .ok (.istore_n 3, 1) := by decide +kernel
theorem dX12_layNumber_9 : decode cX12_layNumber 9 = .ok (.iload_n 1, 1) := by decide +kernel
theorem dX12_layNumber_10 : decode cX12_layNumber 10 = .ok (.istore 4, 2) := by decide +kernel
theorem dX12_layNumber_12 : decode cX12_layNumber 12 = .ok (.iload 4, 2) := by decide +kernel
theorem dX12_layNumber_14 : decode cX12_layNumber 14 = .ok (.ifCond .le 25, 3) := by decide +kernel
theorem dX12_layNumber_17 : decode cX12_layNumber 17 = .ok (.aload_n 0, 1) := by decide +kernel
theorem dX12_layNumber_18 : decode cX12_layNumber 18 = .ok (.getfield 75, 3) := by decide +kernel
theorem dX12_layNumber_21 : decode cX12_layNumber 21 = .ok (.iload 4, 2) := by decide +kernel
theorem dX12_layNumber_23 : decode cX12_layNumber 23 = .ok (.iload_n 3, 1) := by decide +kernel
theorem dX12_layNumber_24 : decode cX12_layNumber 24 = .ok (.bipush 10, 2) := by decide +kernel
theorem dX12_layNumber_26 : decode cX12_layNumber 26 = .ok (.irem, 1) := by decide +kernel
theorem dX12_layNumber_27 : decode cX12_layNumber 27 = .ok (.iastore, 1) := by decide +kernel
theorem dX12_layNumber_28 : decode cX12_layNumber 28 = .ok (.iload_n 3, 1) := by decide +kernel
theorem dX12_layNumber_29 : decode cX12_layNumber 29 = .ok (.bipush 10, 2) := by decide +kernel
theorem dX12_layNumber_31 : decode cX12_layNumber 31 = .ok (.idiv, 1) := by decide +kernel
theorem dX12_layNumber_32 : decode cX12_layNumber 32 = .ok (.istore_n 3, 1) := by decide +kernel
theorem dX12_layNumber_33 : decode cX12_layNumber 33 = .ok (.iinc 4 (-1), 3) := by decide +kernel
theorem dX12_layNumber_36 : decode cX12_layNumber 36 = .ok (.goto (-24), 3) := by decide +kernel
theorem dX12_layNumber_39 : decode cX12_layNumber 39 = .ok (.aload_n 0, 1) := by decide +kernel
theorem dX12_layNumber_40 : decode cX12_layNumber 40 = .ok (.getfield 60, 3) := by decide +kernel
theorem dX12_layNumber_43 : decode cX12_layNumber 43 = .ok (.iconst 0, 1) := by decide +kernel
theorem dX12_layNumber_44 : decode cX12_layNumber 44 = .ok (.iconst 0, 1) := by decide +kernel
theorem dX12_layNumber_45 : decode cX12_layNumber 45 = .ok (.iastore, 1) := by decide +kernel
theorem dX12_layNumber_46 : decode cX12_layNumber 46 = .ok (.return_, 1) := by decide +kernel
theorem dX12_meanings_0 : decode cX12_meanings 0 = .ok (.aload_n 0, 1) := by decide +kernel
theorem dX12_meanings_1 : decode cX12_meanings 1 = .ok (.iconst 0, 1) := by decide +kernel
theorem dX12_meanings_2 : decode cX12_meanings 2 = .ok (.putfield 157, 3) := by decide +kernel
theorem dX12_meanings_5 : decode cX12_meanings 5 = .ok (.iload_n 3, 1) := by decide +kernel
theorem dX12_meanings_6 : decode cX12_meanings 6 = .ok (.iconst 1, 1) := by decide +kernel
theorem dX12_meanings_7 : decode cX12_meanings 7 = .ok (.iconst 4, 1) := by decide +kernel
theorem dX12_meanings_8 : decode cX12_meanings 8 = .ok (.invokestatic 165, 3) := by decide +kernel
theorem dX12_meanings_11 : decode cX12_meanings 11 = .ok (.ifCond .eq 12, 3) := by decide +kernel
theorem dX12_meanings_14 : decode cX12_meanings 14 = .ok (.aload_n 0, 1) := by decide +kernel
theorem dX12_meanings_15 : decode cX12_meanings 15 = .ok (.iload_n 1, 1) := by decide +kernel
theorem dX12_meanings_16 : decode cX12_meanings 16 = .ok (.iload_n 2, 1) := by decide +kernel
theorem dX12_meanings_17 : decode cX12_meanings 17 = .ok (.invokevirtual 489, 3) := by decide +kernel
theorem dX12_meanings_20 : decode cX12_meanings 20 = .ok (.ifCond .ne 5, 3) := by decide +kernel
theorem dX12_meanings_23 : decode cX12_meanings 23 = .ok (.iconst (-1), 1) := by decide +kernel
theorem dX12_meanings_24 : decode cX12_meanings 24 = .ok (.ireturn, 1) := by decide +kernel
theorem dX12_meanings_25 : decode cX12_meanings 25 = .ok (.iconst 0, 1) := by decide +kernel
theorem dX12_meanings_26 : decode cX12_meanings 26 = .ok (.istore 5, 2) := by decide +kernel
theorem dX12_meanings_28 : decode cX12_meanings 28 = .ok (.iload 5, 2) := by decide +kernel
theorem dX12_meanings_30 : decode cX12_meanings 30 = .ok (.sipush 16384, 3) := by decide +kernel
theorem dX12_meanings_33 : decode cX12_meanings 33 = .ok (.if_icmp .ge 17, 3) := by decide +kernel
theorem dX12_meanings_36 : decode cX12_meanings 36 = .ok (.aload_n 0, 1) := by decide +kernel
theorem dX12_meanings_37 : decode cX12_meanings 37 = .ok (.getfield 133, 3) := by decide +kernel
theorem dX12_meanings_40 : decode cX12_meanings 40 = .ok (.iload 5, 2) := by decide +kernel
theorem dX12_meanings_42 : decode cX12_meanings 42 = .ok (.iconst 0, 1) := by decide +kernel
theorem dX12_meanings_43 : decode cX12_meanings 43 = .ok (.bastore, 1) := by decide +kernel
theorem dX12_meanings_44 : decode cX12_meanings 44 = .ok (.iinc 5 1, 3) := by decide +kernel
theorem dX12_meanings_47 : decode cX12_meanings 47 = .ok (.goto (-19), 3) := by decide +kernel
theorem dX12_meanings_50 : decode cX12_meanings 50 = .ok (.lconst 0, 1) := by decide +kernel
theorem dX12_meanings_51 : decode cX12_meanings 51 = .ok (.lstore 5, 2) := by decide +kernel
theorem dX12_meanings_53 : decode cX12_meanings 53 = .ok (.iconst 0, 1) := by decide +kernel
theorem dX12_meanings_54 : decode cX12_meanings 54 = .ok (.istore 7, 2) := by decide +kernel
theorem dX12_meanings_56 : decode cX12_meanings 56 = .ok (.iconst 1, 1) := by decide +kernel
theorem dX12_meanings_57 : decode cX12_meanings 57 = .ok (.istore 8, 2) := by decide +kernel
theorem dX12_meanings_59 : decode cX12_meanings 59 = .ok (.iload 8, 2) := by decide +kernel
theorem dX12_meanings_61 : decode cX12_meanings 61 = .ok (.iload_n 3, 1) := by decide +kernel
theorem dX12_meanings_62 : decode cX12_meanings 62 = .ok (.if_icmp .gt 69, 3) := by decide +kernel
theorem dX12_meanings_65 : decode cX12_meanings 65 = .ok (.iconst 0, 1) := by decide +kernel
theorem dX12_meanings_66 : decode cX12_meanings 66 = .ok (.istore 9, 2) := by decide +kernel
theorem dX12_meanings_68 : decode cX12_meanings 68 = .ok (.iload 9, 2) := by decide +kernel
theorem dX12_meanings_70 : decode cX12_meanings 70 = .ok (.iload 8, 2) := by decide +kernel
theorem dX12_meanings_72 : decode cX12_meanings 72 = .ok (.invokestatic 483, 3) := by decide +kernel
theorem dX12_meanings_75 : decode cX12_meanings 75 = .ok (.if_icmp .ge 50, 3) := by decide +kernel
theorem dX12_meanings_78 : decode cX12_meanings 78 = .ok (.aload_n 0, 1) := by decide +kernel
theorem dX12_meanings_79 : decode cX12_meanings 79 = .ok (.iload 8, 2) := by decide +kernel
theorem dX12_meanings_81 : decode cX12_meanings 81 = .ok (.iload 9, 2) := by decide +kernel
theorem dX12_meanings_83 : decode cX12_meanings 83 = .ok (.invokevirtual 486, 3) := by decide +kernel
theorem dX12_meanings_86 : decode cX12_meanings 86 = .ok (.aload_n 0, 1) := by decide +kernel
theorem dX12_meanings_87 : decode cX12_meanings 87 = .ok (.iload_n 2, 1) := by decide +kernel
theorem dX12_meanings_88 : decode cX12_meanings 88 = .ok (.invokevirtual 392, 3) := by decide +kernel
theorem dX12_meanings_91 : decode cX12_meanings 91 = .ok (.lstore 10, 2) := by decide +kernel
theorem dX12_meanings_93 : decode cX12_meanings 93 = .ok (.lload 5, 2) := by decide +kernel
theorem dX12_meanings_95 : decode cX12_meanings 95 = .ok (.lload 10, 2) := by decide +kernel
theorem dX12_meanings_97 : decode cX12_meanings 97 = .ok (.lor, 1) := by decide +kernel
theorem dX12_meanings_98 : decode cX12_meanings 98 = .ok (.lstore 5, 2) := by decide +kernel
theorem dX12_meanings_100 : decode cX12_meanings 100 = .ok (.iload 7, 2) := by decide +kernel
theorem dX12_meanings_102 : decode cX12_meanings 102 = .ok (.aload_n 0, 1) := by decide +kernel
theorem dX12_meanings_103 : decode cX12_meanings 103 = .ok (.lload 10, 2) := by decide +kernel
theorem dX12_meanings_105 : decode cX12_meanings 105 = .ok (.invokevirtual 505, 3) := by decide +kernel
theorem dX12_meanings_108 : decode cX12_meanings 108 = .ok (.ifCond .eq 7, 3) := by decide +kernel
theorem dX12_meanings_111 : decode cX12_meanings 111 = .ok (.iconst 1, 1) := by decide +kernel
theorem dX12_meanings_112 : decode cX12_meanings 112 = .ok (.goto 4, 3) := by decide +kernel
theorem dX12_meanings_115 : decode cX12_meanings 115 = .ok (.iconst 0, 1) := by decide +kernel
theorem dX12_meanings_116 : decode cX12_meanings 116 = .ok (.iadd, 1) := by decide +kernel
theorem dX12_meanings_117 : decode cX12_meanings 117 = .ok (.istore 7, 2) := by decide +kernel
theorem dX12_meanings_119 : decode cX12_meanings 119 = .ok (.iinc 9 1, 3) := by decide +kernel
theorem dX12_meanings_122 : decode cX12_meanings 122 = .ok (.goto (-54), 3) := by decide +kernel
theorem dX12_meanings_125 : decode cX12_meanings 125 = .ok (.iinc 8 1, 3) := by decide +kernel
theorem dX12_meanings_128 : decode cX12_meanings 128 = .ok (.goto (-69), 3) := by decide +kernel
theorem dX12_meanings_131 : decode cX12_meanings 131 = .ok (.iload 4, 2) := by decide +kernel
theorem dX12_meanings_133 : decode cX12_meanings 133 = .ok (.ifCond .eq 11, 3) := by decide +kernel
theorem dX12_meanings_136 : decode cX12_meanings 136 = .ok (.lload 5, 2) := by decide +kernel
theorem dX12_meanings_138 : decode cX12_meanings 138 = .ok (.invokestatic 305, 3) := by decide +kernel
theorem dX12_meanings_141 : decode cX12_meanings 141 = .ok (.goto 5, 3) := by decide +kernel
theorem dX12_meanings_144 : decode cX12_meanings 144 = .ok (.iload 7, 2) := by decide +kernel
theorem dX12_meanings_146 : decode cX12_meanings 146 = .ok (.ireturn, 1) := by decide +kernel

def tnI (n : Int) : Int := if n ≤ 1 then 10 else if n ≤ 2 then 100 else if n ≤ 3 then 1000 else 10000
def bsI (n : Int) : Int := if n ≤ 1 then 0 else if n ≤ 2 then 10 else if n ≤ 3 then 110 else if n ≤ 4 then 1110 else 11110
theorem tn_bs {n : Int} (h : 1 ≤ n) (h1 : n ≤ 4) : 10 ≤ tnI n ∧ tnI n ≤ 10000 ∧ 0 ≤ bsI n ∧ bsI n + tnI n ≤ 11110 ∧ bsI (n + 1) = bsI n + tnI n := by
  rcases (show n = 1 ∨ n = 2 ∨ n = 3 ∨ n = 4 by omega) with rfl | rfl | rfl | rfl <;> decide
set_option maxHeartbeats 4000000 in
set_option maxRecDepth 100000 in
theorem q_rulesOf1 {D : va_G} {ad : Nat → Nat} {cA : Nat → ClassId} {X : XT} : MetX (wM D ad cA) yX12_rulesOf cX12_rulesOf 3 (some .int) 0 0 [.int (iI (1))] X (fun r X' => X' = X ∧ ∃ u : Int, r = some (.int (iI u)) ∧ u = tnI 1) := by
  refine MetX.mk (own := RX12) (by decide +kernel) rfl (nle rfl) (fun E C hQ => ?_)
  refine Wx_lv (lv' := [(0, .int (iI (1)))]) rfl ?_
  refine x_iconst C dX12_rulesOf_0 ?_
  refine x_istore_n (i := 1) (lv' := [(1, .int (iI (1))), (0, .int (iI (1)))]) C dX12_rulesOf_1 rfl (nlt rfl) rfl ?_
  refine x_iconst C dX12_rulesOf_2 ?_
  refine x_istore_n (i := 2) (lv' := [(2, .int (iI (0))), (1, .int (iI (1))), (0, .int (iI (1)))]) C dX12_rulesOf_3 rfl (nlt rfl) rfl ?_
  refine x_iload_n (i := 2) C dX12_rulesOf_4 rfl rfl ?_
  refine x_iload_n (i := 0) C dX12_rulesOf_5 rfl rfl ?_
  refine x_icmp_ge (tgt := 20) C dX12_rulesOf_6 (by decide) ⟨by omega, by omega⟩ ⟨by omega, by omega⟩ (fun h1 => by exfalso; omega) (fun h1 => ?_)
  refine x_iload_n (i := 1) C dX12_rulesOf_9 rfl rfl ?_
  refine x_bipush C dX12_rulesOf_10 (by decide) ?_
  refine x_imul C dX12_rulesOf_12 ?_
  refine x_eq (b := 10) rfl ?_
  refine x_istore_n (i := 1) (lv' := [(1, .int (iI (10))), (2, .int (iI (0))), (0, .int (iI (1)))]) C dX12_rulesOf_13 rfl (nlt rfl) rfl ?_
  refine x_iinc (lv' := [(2, .int (iI (0 + 1))), (1, .int (iI (10))), (0, .int (iI (1)))]) C dX12_rulesOf_14 rfl (nlt rfl) rfl ?_
  refine Wx_lv (lv' := [(2, .int (iI (1))), (1, .int (iI (10))), (0, .int (iI (1)))]) rfl ?_
  refine x_goto (tgt := 4) C dX12_rulesOf_17 (by decide) ?_
  refine x_iload_n (i := 2) C dX12_rulesOf_4 rfl rfl ?_
  refine x_iload_n (i := 0) C dX12_rulesOf_5 rfl rfl ?_
  refine x_icmp_ge (tgt := 20) C dX12_rulesOf_6 (by decide) ⟨by omega, by omega⟩ ⟨by omega, by omega⟩ (fun h2 => ?_) (fun h2 => by exfalso; omega)
  refine x_iload_n (i := 1) C dX12_rulesOf_20 rfl rfl ?_
  exact x_iret C hQ dX12_rulesOf_21 (⟨rfl, _, rfl, by decide⟩)
set_option maxHeartbeats 4000000 in
set_option maxRecDepth 100000 in
theorem q_rulesOf2 {D : va_G} {ad : Nat → Nat} {cA : Nat → ClassId} {X : XT} : MetX (wM D ad cA) yX12_rulesOf cX12_rulesOf 3 (some .int) 0 0 [.int (iI (2))] X (fun r X' => X' = X ∧ ∃ u : Int, r = some (.int (iI u)) ∧ u = tnI 2) := by
  refine MetX.mk (own := RX12) (by decide +kernel) rfl (nle rfl) (fun E C hQ => ?_)
  refine Wx_lv (lv' := [(0, .int (iI (2)))]) rfl ?_
  refine x_iconst C dX12_rulesOf_0 ?_
  refine x_istore_n (i := 1) (lv' := [(1, .int (iI (1))), (0, .int (iI (2)))]) C dX12_rulesOf_1 rfl (nlt rfl) rfl ?_
  refine x_iconst C dX12_rulesOf_2 ?_
  refine x_istore_n (i := 2) (lv' := [(2, .int (iI (0))), (1, .int (iI (1))), (0, .int (iI (2)))]) C dX12_rulesOf_3 rfl (nlt rfl) rfl ?_
  refine x_iload_n (i := 2) C dX12_rulesOf_4 rfl rfl ?_
  refine x_iload_n (i := 0) C dX12_rulesOf_5 rfl rfl ?_
  refine x_icmp_ge (tgt := 20) C dX12_rulesOf_6 (by decide) ⟨by omega, by omega⟩ ⟨by omega, by omega⟩ (fun h1 => by exfalso; omega) (fun h1 => ?_)
  refine x_iload_n (i := 1) C dX12_rulesOf_9 rfl rfl ?_
  refine x_bipush C dX12_rulesOf_10 (by decide) ?_
  refine x_imul C dX12_rulesOf_12 ?_
  refine x_eq (b := 10) rfl ?_
  refine x_istore_n (i := 1) (lv' := [(1, .int (iI (10))), (2, .int (iI (0))), (0, .int (iI (2)))]) C dX12_rulesOf_13 rfl (nlt rfl) rfl ?_
  refine x_iinc (lv' := [(2, .int (iI (0 + 1))), (1, .int (iI (10))), (0, .int (iI (2)))]) C dX12_rulesOf_14 rfl (nlt rfl) rfl ?_
  refine Wx_lv (lv' := [(2, .int (iI (1))), (1, .int (iI (10))), (0, .int (iI (2)))]) rfl ?_
  refine x_goto (tgt := 4) C dX12_rulesOf_17 (by decide) ?_
  refine x_iload_n (i := 2) C dX12_rulesOf_4 rfl rfl ?_
  refine x_iload_n (i := 0) C dX12_rulesOf_5 rfl rfl ?_
  refine x_icmp_ge (tgt := 20) C dX12_rulesOf_6 (by decide) ⟨by omega, by omega⟩ ⟨by omega, by omega⟩ (fun h2 => by exfalso; omega) (fun h2 => ?_)
  refine x_iload_n (i := 1) C dX12_rulesOf_9 rfl rfl ?_
  refine x_bipush C dX12_rulesOf_10 (by decide) ?_
  refine x_imul C dX12_rulesOf_12 ?_
  refine x_eq (b := 100) rfl ?_
  refine x_istore_n (i := 1) (lv' := [(1, .int (iI (100))), (2, .int (iI (1))), (0, .int (iI (2)))]) C dX12_rulesOf_13 rfl (nlt rfl) rfl ?_
  refine x_iinc (lv' := [(2, .int (iI (1 + 1))), (1, .int (iI (100))), (0, .int (iI (2)))]) C dX12_rulesOf_14 rfl (nlt rfl) rfl ?_
  refine Wx_lv (lv' := [(2, .int (iI (2))), (1, .int (iI (100))), (0, .int (iI (2)))]) rfl ?_
  refine x_goto (tgt := 4) C dX12_rulesOf_17 (by decide) ?_
  refine x_iload_n (i := 2) C dX12_rulesOf_4 rfl rfl ?_
  refine x_iload_n (i := 0) C dX12_rulesOf_5 rfl rfl ?_
  refine x_icmp_ge (tgt := 20) C dX12_rulesOf_6 (by decide) ⟨by omega, by omega⟩ ⟨by omega, by omega⟩ (fun h3 => ?_) (fun h3 => by exfalso; omega)
  refine x_iload_n (i := 1) C dX12_rulesOf_20 rfl rfl ?_
  exact x_iret C hQ dX12_rulesOf_21 (⟨rfl, _, rfl, by decide⟩)
set_option maxHeartbeats 4000000 in
set_option maxRecDepth 100000 in
theorem q_rulesOf3 {D : va_G} {ad : Nat → Nat} {cA : Nat → ClassId} {X : XT} : MetX (wM D ad cA) yX12_rulesOf cX12_rulesOf 3 (some .int) 0 0 [.int (iI (3))] X (fun r X' => X' = X ∧ ∃ u : Int, r = some (.int (iI u)) ∧ u = tnI 3) := by
  refine MetX.mk (own := RX12) (by decide +kernel) rfl (nle rfl) (fun E C hQ => ?_)
  refine Wx_lv (lv' := [(0, .int (iI (3)))]) rfl ?_
  refine x_iconst C dX12_rulesOf_0 ?_
  refine x_istore_n (i := 1) (lv' := [(1, .int (iI (1))), (0, .int (iI (3)))]) C dX12_rulesOf_1 rfl (nlt rfl) rfl ?_
  refine x_iconst C dX12_rulesOf_2 ?_
  refine x_istore_n (i := 2) (lv' := [(2, .int (iI (0))), (1, .int (iI (1))), (0, .int (iI (3)))]) C dX12_rulesOf_3 rfl (nlt rfl) rfl ?_
  refine x_iload_n (i := 2) C dX12_rulesOf_4 rfl rfl ?_
  refine x_iload_n (i := 0) C dX12_rulesOf_5 rfl rfl ?_
  refine x_icmp_ge (tgt := 20) C dX12_rulesOf_6 (by decide) ⟨by omega, by omega⟩ ⟨by omega, by omega⟩ (fun h1 => by exfalso; omega) (fun h1 => ?_)
  refine x_iload_n (i := 1) C dX12_rulesOf_9 rfl rfl ?_
  refine x_bipush C dX12_rulesOf_10 (by decide) ?_
  refine x_imul C dX12_rulesOf_12 ?_
  refine x_eq (b := 10) rfl ?_
  refine x_istore_n (i := 1) (lv' := [(1, .int (iI (10))), (2, .int (iI (0))), (0, .int (iI (3)))]) C dX12_rulesOf_13 rfl (nlt rfl) rfl ?_
  refine x_iinc (lv' := [(2, .int (iI (0 + 1))), (1, .int (iI (10))), (0, .int (iI (3)))]) C dX12_rulesOf_14 rfl (nlt rfl) rfl ?_
  refine Wx_lv (lv' := [(2, .int (iI (1))), (1, .int (iI (10))), (0, .int (iI (3)))]) rfl ?_
  refine x_goto (tgt := 4) C dX12_rulesOf_17 (by decide) ?_
  refine x_iload_n (i := 2) C dX12_rulesOf_4 rfl rfl ?_
  refine x_iload_n (i := 0) C dX12_rulesOf_5 rfl rfl ?_
  refine x_icmp_ge (tgt := 20) C dX12_rulesOf_6 (by decide) ⟨by omega, by omega⟩ ⟨by omega, by omega⟩ (fun h2 => by exfalso; omega) (fun h2 => ?_)
  refine x_iload_n (i := 1) C dX12_rulesOf_9 rfl rfl ?_
  refine x_bipush C dX12_rulesOf_10 (by decide) ?_
  refine x_imul C dX12_rulesOf_12 ?_
  refine x_eq (b := 100) rfl ?_
  refine x_istore_n (i := 1) (lv' := [(1, .int (iI (100))), (2, .int (iI (1))), (0, .int (iI (3)))]) C dX12_rulesOf_13 rfl (nlt rfl) rfl ?_
  refine x_iinc (lv' := [(2, .int (iI (1 + 1))), (1, .int (iI (100))), (0, .int (iI (3)))]) C dX12_rulesOf_14 rfl (nlt rfl) rfl ?_
  refine Wx_lv (lv' := [(2, .int (iI (2))), (1, .int (iI (100))), (0, .int (iI (3)))]) rfl ?_
  refine x_goto (tgt := 4) C dX12_rulesOf_17 (by decide) ?_
  refine x_iload_n (i := 2) C dX12_rulesOf_4 rfl rfl ?_
  refine x_iload_n (i := 0) C dX12_rulesOf_5 rfl rfl ?_
  refine x_icmp_ge (tgt := 20) C dX12_rulesOf_6 (by decide) ⟨by omega, by omega⟩ ⟨by omega, by omega⟩ (fun h3 => by exfalso; omega) (fun h3 => ?_)
  refine x_iload_n (i := 1) C dX12_rulesOf_9 rfl rfl ?_
  refine x_bipush C dX12_rulesOf_10 (by decide) ?_
  refine x_imul C dX12_rulesOf_12 ?_
  refine x_eq (b := 1000) rfl ?_
  refine x_istore_n (i := 1) (lv' := [(1, .int (iI (1000))), (2, .int (iI (2))), (0, .int (iI (3)))]) C dX12_rulesOf_13 rfl (nlt rfl) rfl ?_
  refine x_iinc (lv' := [(2, .int (iI (2 + 1))), (1, .int (iI (1000))), (0, .int (iI (3)))]) C dX12_rulesOf_14 rfl (nlt rfl) rfl ?_
  refine Wx_lv (lv' := [(2, .int (iI (3))), (1, .int (iI (1000))), (0, .int (iI (3)))]) rfl ?_
  refine x_goto (tgt := 4) C dX12_rulesOf_17 (by decide) ?_
  refine x_iload_n (i := 2) C dX12_rulesOf_4 rfl rfl ?_
  refine x_iload_n (i := 0) C dX12_rulesOf_5 rfl rfl ?_
  refine x_icmp_ge (tgt := 20) C dX12_rulesOf_6 (by decide) ⟨by omega, by omega⟩ ⟨by omega, by omega⟩ (fun h4 => ?_) (fun h4 => by exfalso; omega)
  refine x_iload_n (i := 1) C dX12_rulesOf_20 rfl rfl ?_
  exact x_iret C hQ dX12_rulesOf_21 (⟨rfl, _, rfl, by decide⟩)
set_option maxHeartbeats 4000000 in
set_option maxRecDepth 100000 in
theorem q_rulesOf4 {D : va_G} {ad : Nat → Nat} {cA : Nat → ClassId} {X : XT} : MetX (wM D ad cA) yX12_rulesOf cX12_rulesOf 3 (some .int) 0 0 [.int (iI (4))] X (fun r X' => X' = X ∧ ∃ u : Int, r = some (.int (iI u)) ∧ u = tnI 4) := by
  refine MetX.mk (own := RX12) (by decide +kernel) rfl (nle rfl) (fun E C hQ => ?_)
  refine Wx_lv (lv' := [(0, .int (iI (4)))]) rfl ?_
  refine x_iconst C dX12_rulesOf_0 ?_
  refine x_istore_n (i := 1) (lv' := [(1, .int (iI (1))), (0, .int (iI (4)))]) C dX12_rulesOf_1 rfl (nlt rfl) rfl ?_
  refine x_iconst C dX12_rulesOf_2 ?_
  refine x_istore_n (i := 2) (lv' := [(2, .int (iI (0))), (1, .int (iI (1))), (0, .int (iI (4)))]) C dX12_rulesOf_3 rfl (nlt rfl) rfl ?_
  refine x_iload_n (i := 2) C dX12_rulesOf_4 rfl rfl ?_
  refine x_iload_n (i := 0) C dX12_rulesOf_5 rfl rfl ?_
  refine x_icmp_ge (tgt := 20) C dX12_rulesOf_6 (by decide) ⟨by omega, by omega⟩ ⟨by omega, by omega⟩ (fun h1 => by exfalso; omega) (fun h1 => ?_)
  refine x_iload_n (i := 1) C dX12_rulesOf_9 rfl rfl ?_
  refine x_bipush C dX12_rulesOf_10 (by decide) ?_
  refine x_imul C dX12_rulesOf_12 ?_
  refine x_eq (b := 10) rfl ?_
  refine x_istore_n (i := 1) (lv' := [(1, .int (iI (10))), (2, .int (iI (0))), (0, .int (iI (4)))]) C dX12_rulesOf_13 rfl (nlt rfl) rfl ?_
  refine x_iinc (lv' := [(2, .int (iI (0 + 1))), (1, .int (iI (10))), (0, .int (iI (4)))]) C dX12_rulesOf_14 rfl (nlt rfl) rfl ?_
  refine Wx_lv (lv' := [(2, .int (iI (1))), (1, .int (iI (10))), (0, .int (iI (4)))]) rfl ?_
  refine x_goto (tgt := 4) C dX12_rulesOf_17 (by decide) ?_
  refine x_iload_n (i := 2) C dX12_rulesOf_4 rfl rfl ?_
  refine x_iload_n (i := 0) C dX12_rulesOf_5 rfl rfl ?_
  refine x_icmp_ge (tgt := 20) C dX12_rulesOf_6 (by decide) ⟨by omega, by omega⟩ ⟨by omega, by omega⟩ (fun h2 => by exfalso; omega) (fun h2 => ?_)
  refine x_iload_n (i := 1) C dX12_rulesOf_9 rfl rfl ?_
  refine x_bipush C dX12_rulesOf_10 (by decide) ?_
  refine x_imul C dX12_rulesOf_12 ?_
  refine x_eq (b := 100) rfl ?_
  refine x_istore_n (i := 1) (lv' := [(1, .int (iI (100))), (2, .int (iI (1))), (0, .int (iI (4)))]) C dX12_rulesOf_13 rfl (nlt rfl) rfl ?_
  refine x_iinc (lv' := [(2, .int (iI (1 + 1))), (1, .int (iI (100))), (0, .int (iI (4)))]) C dX12_rulesOf_14 rfl (nlt rfl) rfl ?_
  refine Wx_lv (lv' := [(2, .int (iI (2))), (1, .int (iI (100))), (0, .int (iI (4)))]) rfl ?_
  refine x_goto (tgt := 4) C dX12_rulesOf_17 (by decide) ?_
  refine x_iload_n (i := 2) C dX12_rulesOf_4 rfl rfl ?_
  refine x_iload_n (i := 0) C dX12_rulesOf_5 rfl rfl ?_
  refine x_icmp_ge (tgt := 20) C dX12_rulesOf_6 (by decide) ⟨by omega, by omega⟩ ⟨by omega, by omega⟩ (fun h3 => by exfalso; omega) (fun h3 => ?_)
  refine x_iload_n (i := 1) C dX12_rulesOf_9 rfl rfl ?_
  refine x_bipush C dX12_rulesOf_10 (by decide) ?_
  refine x_imul C dX12_rulesOf_12 ?_
  refine x_eq (b := 1000) rfl ?_
  refine x_istore_n (i := 1) (lv' := [(1, .int (iI (1000))), (2, .int (iI (2))), (0, .int (iI (4)))]) C dX12_rulesOf_13 rfl (nlt rfl) rfl ?_
  refine x_iinc (lv' := [(2, .int (iI (2 + 1))), (1, .int (iI (1000))), (0, .int (iI (4)))]) C dX12_rulesOf_14 rfl (nlt rfl) rfl ?_
  refine Wx_lv (lv' := [(2, .int (iI (3))), (1, .int (iI (1000))), (0, .int (iI (4)))]) rfl ?_
  refine x_goto (tgt := 4) C dX12_rulesOf_17 (by decide) ?_
  refine x_iload_n (i := 2) C dX12_rulesOf_4 rfl rfl ?_
  refine x_iload_n (i := 0) C dX12_rulesOf_5 rfl rfl ?_
  refine x_icmp_ge (tgt := 20) C dX12_rulesOf_6 (by decide) ⟨by omega, by omega⟩ ⟨by omega, by omega⟩ (fun h4 => by exfalso; omega) (fun h4 => ?_)
  refine x_iload_n (i := 1) C dX12_rulesOf_9 rfl rfl ?_
  refine x_bipush C dX12_rulesOf_10 (by decide) ?_
  refine x_imul C dX12_rulesOf_12 ?_
  refine x_eq (b := 10000) rfl ?_
  refine x_istore_n (i := 1) (lv' := [(1, .int (iI (10000))), (2, .int (iI (3))), (0, .int (iI (4)))]) C dX12_rulesOf_13 rfl (nlt rfl) rfl ?_
  refine x_iinc (lv' := [(2, .int (iI (3 + 1))), (1, .int (iI (10000))), (0, .int (iI (4)))]) C dX12_rulesOf_14 rfl (nlt rfl) rfl ?_
  refine Wx_lv (lv' := [(2, .int (iI (4))), (1, .int (iI (10000))), (0, .int (iI (4)))]) rfl ?_
  refine x_goto (tgt := 4) C dX12_rulesOf_17 (by decide) ?_
  refine x_iload_n (i := 2) C dX12_rulesOf_4 rfl rfl ?_
  refine x_iload_n (i := 0) C dX12_rulesOf_5 rfl rfl ?_
  refine x_icmp_ge (tgt := 20) C dX12_rulesOf_6 (by decide) ⟨by omega, by omega⟩ ⟨by omega, by omega⟩ (fun h5 => ?_) (fun h5 => by exfalso; omega)
  refine x_iload_n (i := 1) C dX12_rulesOf_20 rfl rfl ?_
  exact x_iret C hQ dX12_rulesOf_21 (⟨rfl, _, rfl, by decide⟩)
theorem q_rulesOf {D : va_G} {ad : Nat → Nat} {cA : Nat → ClassId} {X : XT} {n : Int} (h : 1 ≤ n) (h1 : n ≤ 4) : MetX (wM D ad cA) yX12_rulesOf cX12_rulesOf 3 (some .int) 0 0 [.int (iI (n))] X (fun r X' => X' = X ∧ ∃ u : Int, r = some (.int (iI u)) ∧ u = tnI n) := by
  rcases (show n = 1 ∨ n = 2 ∨ n = 3 ∨ n = 4 by omega) with rfl | rfl | rfl | rfl
  · exact q_rulesOf1
  · exact q_rulesOf2
  · exact q_rulesOf3
  · exact q_rulesOf4
abbrev mdLY : List (Nat × Option Nat) := [(22, none), (17, some 0)]
set_option maxHeartbeats 4000000 in
set_option maxRecDepth 100000 in
theorem lq_layNumber {D : va_G} {ad : Nat → Nat} {cA : Nat → ClassId} {X0 : XT} {E : ET} {rm : Room} (C : CX E (wM D ad cA) cX12_layNumber 5 RX12 none rm) (hQ : EQ E (wM D ad cA) (fun r X1 => r = none ∧ HG vM X1 ∧ FR mdLY X0 X1)) : ∀ (n : Nat) (i : Int) (l : Int) (X : XT), i < n → 0 ≤ i → i ≤ 4 → 0 ≤ l → l ≤ 9999 → HG vM X → FR mdLY X0 X → Wx E (wM D ad cA) 5 (PX (wM D ad cA) X) 12 [(4, .int (iI (i))), (3, .int (iI (l))), (0, .ref 0)] [] := by
  intro n
  induction n with
  | zero => intro i l X hn i0 i1 l0 l1 hH hF; exfalso; omega
  | succ n ih =>
    intro i l X hn i0 i1 l0 l1 hH hF
    refine x_iload C dX12_layNumber_12 rfl ?_
    refine x_if_le (tgt := 39) C dX12_layNumber_14 (by decide) ⟨by omega, by omega⟩ (fun h1 => ?_) (fun h1 => ?_)
    · refine x_aload_n (i := 0) C dX12_layNumber_39 rfl rfl ?_
      refine x_getRs (r := 17) C fkM_X12_60 (nlt rfl) rfl (HG.rR hH (k := 0) (i := 38) rfl rfl) dX12_layNumber_40 ?_
      refine x_iconst C dX12_layNumber_43 ?_
      refine x_iconst C dX12_layNumber_44 ?_
      refine x_iast C (nlt rfl) rfl rfl (nle rfl) (by omega) (by omega) dX12_layNumber_45 ?_
      refine x_gX (fun Yy2 eYy2 => ?_)
      have hHy2 : HG vM Yy2 := by
        rw [eYy2]
        exact hg_wA hH (n := 10) (p := (0, 9)) (by decide +kernel) (by omega) ⟨by omega, by omega⟩
      have hFy2 : FR mdLY X0 Yy2 := by
        rw [eYy2]
        exact FR.upI hF (rfl)
      exact x_vret C hQ dX12_layNumber_46 (⟨rfl, hHy2, hFy2⟩)
    · refine x_aload_n (i := 0) C dX12_layNumber_17 rfl rfl ?_
      refine x_getRs (r := 22) C fkM_X12_75 (nlt rfl) rfl (HG.rR hH (k := 0) (i := 43) rfl rfl) dX12_layNumber_18 ?_
      refine x_iload C dX12_layNumber_21 rfl ?_
      refine x_iload_n (i := 3) C dX12_layNumber_23 rfl rfl ?_
      refine x_bipush C dX12_layNumber_24 (by decide) ?_
      refine x_irem C dX12_layNumber_26 (by omega) (by omega) ⟨by omega, by omega⟩ ⟨by omega, by omega⟩ ?_
      refine x_iast C (nlt rfl) rfl rfl (nle rfl) (by omega) (by omega) dX12_layNumber_27 ?_
      refine x_gX (fun Yy3 eYy3 => ?_)
      have hHy3 : HG vM Yy3 := by
        rw [eYy3]
        exact hg_wA hH (n := 10) (p := (0, 9)) (by decide +kernel) (by omega) ⟨by omega, by omega⟩
      have hFy3 : FR mdLY X0 Yy3 := by
        rw [eYy3]
        exact FR.upI hF (rfl)
      refine x_iload_n (i := 3) C dX12_layNumber_28 rfl rfl ?_
      refine x_bipush C dX12_layNumber_29 (by decide) ?_
      refine x_idiv C dX12_layNumber_31 (by omega) (by omega) ⟨by omega, by omega⟩ ⟨by omega, by omega⟩ ?_
      refine x_gen (fun v4 ev4 => ?_)
      refine x_istore_n (i := 3) (lv' := [(3, .int (iI (v4))), (4, .int (iI (i))), (0, .ref 0)]) C dX12_layNumber_32 rfl (nlt rfl) rfl ?_
      refine x_iinc (lv' := [(4, .int (iI (i + (-1)))), (3, .int (iI (v4))), (0, .ref 0)]) C dX12_layNumber_33 rfl (nlt rfl) rfl ?_
      refine x_goto (tgt := 12) C dX12_layNumber_36 (by decide) ?_
      refine Wx_pick [4, 3, 0] ?_
      refine Wx_lv (lv' := [(4, .int (iI (i + (-1)))), (3, .int (iI (v4))), (0, .ref 0)]) rfl ?_
      exact ih _ _ _ (by omega) (by omega) (by omega) (by omega) (by omega) hHy3 hFy3
set_option maxHeartbeats 4000000 in
set_option maxRecDepth 100000 in
theorem q_layNumber {D : va_G} {ad : Nat → Nat} {cA : Nat → ClassId} {X0 : XT} {j k : Int} (j0 : 1 ≤ j) (j1 : j ≤ 4) (k0 : 0 ≤ k) (k1 : k ≤ 9999) (hH : HG vM X0) (hF : FR mdLY X0 X0) : MetX (wM D ad cA) yX12_layNumber cX12_layNumber 5 none 0 0 [.ref 0, .int (iI (j)), .int (iI (k))] X0 (fun r X1 => r = none ∧ HG vM X1 ∧ FR mdLY X0 X1) := by
  refine MetX.mk (own := RX12) (by decide +kernel) rfl (nle rfl) (fun E C hQ => ?_)
  refine Wx_lv (lv' := [(0, .ref 0), (1, .int (iI (j))), (2, .int (iI (k)))]) rfl ?_
  refine x_aload_n (i := 0) C dX12_layNumber_0 rfl rfl ?_
  refine x_getRs (r := 22) C fkM_X12_75 (nlt rfl) rfl (HG.rR hH (k := 0) (i := 43) rfl rfl) dX12_layNumber_1 ?_
  refine x_iconst C dX12_layNumber_4 ?_
  refine x_iload_n (i := 1) C dX12_layNumber_5 rfl rfl ?_
  refine x_iast C (nlt rfl) rfl rfl (nle rfl) (by omega) (by omega) dX12_layNumber_6 ?_
  refine x_gX (fun Yy1 eYy1 => ?_)
  have hHy1 : HG vM Yy1 := by
    rw [eYy1]
    exact hg_wA hH (n := 10) (p := (0, 9)) (by decide +kernel) (by omega) ⟨by omega, by omega⟩
  have hFy1 : FR mdLY X0 Yy1 := by
    rw [eYy1]
    exact FR.upI hF (rfl)
  refine x_iload_n (i := 2) C dX12_layNumber_7 rfl rfl ?_
  refine x_istore_n (i := 3) (lv' := [(3, .int (iI (k))), (0, .ref 0), (1, .int (iI (j))), (2, .int (iI (k)))]) C dX12_layNumber_8 rfl (nlt rfl) rfl ?_
  refine x_iload_n (i := 1) C dX12_layNumber_9 rfl rfl ?_
  refine x_istore (lv' := [(4, .int (iI (j))), (3, .int (iI (k))), (0, .ref 0), (1, .int (iI (j))), (2, .int (iI (k)))]) C dX12_layNumber_10 (nlt rfl) rfl ?_
  refine Wx_pick [4, 3, 0] ?_
  refine Wx_lv (lv' := [(4, .int (iI (j))), (3, .int (iI (k))), (0, .ref 0)]) rfl ?_
  exact lq_layNumber C hQ 5 _ _ _ (by omega) (by omega) (by omega) (by omega) (by omega) hHy1 hFy1
abbrev mdEO : List (Nat × Option Nat) := cMd k_M_98
set_option maxRecDepth 10000 in
theorem em_endsOf {D : va_G} {ad : Nat → Nat} {cA : Nat → ClassId} {X : XT} {j : Int} (j0 : 0 ≤ j) (j1 : j ≤ 5) (hH : HG vM X) (hw : 2 ≤ X.1 0 22 ∧ X.1 0 22 ≤ 6) (hh : 2 ≤ X.1 0 23 ∧ X.1 0 23 ≤ 6) (hs : 0 ≤ X.1 12 j.toNat ∧ X.1 12 j.toNat ≤ 35) (bk : BOK X) : MetX (wM D ad cA) yX12_endsOf cX12_endsOf 2 (some .long) 10 247 [.ref 0, .int (iI (j))] X (fun r X1 => ∃ l : Int64, r = some (.long l) ∧ HG vM X1 ∧ FR mdEO X X1) := by
  rcases (show j = 0 ∨ j = 1 ∨ j = 2 ∨ j = 3 ∨ j = 4 ∨ j = 5 by omega) with rfl | rfl | rfl | rfl | rfl | rfl
  · have hs : (0 : Int) ≤ X.1 12 0 ∧ X.1 12 0 ≤ 35 := hs
    refine MetX.imp (fun r X1 hp => ?_) (t_M_98 (fun b => match b with | 0 => 0 | 1 => 0 | 2 => X.1 0 22 | 3 => X.1 0 23 | _ => X.1 12 0, fun _ => 0) X ⟨rfl, ei_cons (by show (0 : Int) ≤ 0 ∧ (0 : Int) ≤ 0; omega) (ei_cons (by show (0 : Int) ≤ 0 ∧ (0 : Int) ≤ 0; omega) (ei_cons hw (ei_cons hh (ei_cons hs ei_nil)))), el_nil, dl_cons (by show X.1 0 22 = X.1 0 22 + 0; omega) (dl_cons (by show X.1 0 23 = X.1 0 23 + 0; omega) (dl_cons (by show X.1 12 0 = X.1 12 0 + 0; omega) dl_nil)), hH, bk⟩)
    obtain ⟨a, ha, g1, hx, hei, hel, rfl, hdl, hgd, hH1, hE1, hF1⟩ := hp
    rcases List.mem_singleton.mp ha with rfl
    exact ⟨_, rfl, hH1, hF1⟩
  · have hs : (0 : Int) ≤ X.1 12 1 ∧ X.1 12 1 ≤ 35 := hs
    refine MetX.imp (fun r X1 hp => ?_) (t_M_96 (fun b => match b with | 0 => 0 | 1 => 1 | 2 => X.1 0 22 | 3 => X.1 0 23 | _ => X.1 12 1, fun _ => 0) X ⟨rfl, ei_cons (by show (0 : Int) ≤ 0 ∧ (0 : Int) ≤ 0; omega) (ei_cons (by show (1 : Int) ≤ 1 ∧ (1 : Int) ≤ 1; omega) (ei_cons hw (ei_cons hh (ei_cons hs ei_nil)))), el_nil, dl_cons (by show X.1 0 22 = X.1 0 22 + 0; omega) (dl_cons (by show X.1 0 23 = X.1 0 23 + 0; omega) (dl_cons (by show X.1 12 1 = X.1 12 1 + 0; omega) dl_nil)), hH, bk⟩)
    obtain ⟨a, ha, g1, hx, hei, hel, rfl, hdl, hgd, hH1, hE1, hF1⟩ := hp
    rcases List.mem_singleton.mp ha with rfl
    exact ⟨_, rfl, hH1, hF1⟩
  · have hs : (0 : Int) ≤ X.1 12 2 ∧ X.1 12 2 ≤ 35 := hs
    refine MetX.imp (fun r X1 hp => ?_) (t_M_94 (fun b => match b with | 0 => 0 | 1 => 2 | 2 => X.1 0 22 | 3 => X.1 0 23 | _ => X.1 12 2, fun _ => 0) X ⟨rfl, ei_cons (by show (0 : Int) ≤ 0 ∧ (0 : Int) ≤ 0; omega) (ei_cons (by show (2 : Int) ≤ 2 ∧ (2 : Int) ≤ 2; omega) (ei_cons hw (ei_cons hh (ei_cons hs ei_nil)))), el_nil, dl_cons (by show X.1 0 22 = X.1 0 22 + 0; omega) (dl_cons (by show X.1 0 23 = X.1 0 23 + 0; omega) (dl_cons (by show X.1 12 2 = X.1 12 2 + 0; omega) dl_nil)), hH, bk⟩)
    obtain ⟨a, ha, g1, hx, hei, hel, rfl, hdl, hgd, hH1, hE1, hF1⟩ := hp
    rcases List.mem_singleton.mp ha with rfl
    exact ⟨_, rfl, hH1, hF1⟩
  · have hs : (0 : Int) ≤ X.1 12 3 ∧ X.1 12 3 ≤ 35 := hs
    refine MetX.imp (fun r X1 hp => ?_) (t_M_92 (fun b => match b with | 0 => 0 | 1 => 3 | 2 => X.1 0 22 | 3 => X.1 0 23 | _ => X.1 12 3, fun _ => 0) X ⟨rfl, ei_cons (by show (0 : Int) ≤ 0 ∧ (0 : Int) ≤ 0; omega) (ei_cons (by show (3 : Int) ≤ 3 ∧ (3 : Int) ≤ 3; omega) (ei_cons hw (ei_cons hh (ei_cons hs ei_nil)))), el_nil, dl_cons (by show X.1 0 22 = X.1 0 22 + 0; omega) (dl_cons (by show X.1 0 23 = X.1 0 23 + 0; omega) (dl_cons (by show X.1 12 3 = X.1 12 3 + 0; omega) dl_nil)), hH, bk⟩)
    obtain ⟨a, ha, g1, hx, hei, hel, rfl, hdl, hgd, hH1, hE1, hF1⟩ := hp
    rcases List.mem_singleton.mp ha with rfl
    exact ⟨_, rfl, hH1, hF1⟩
  · have hs : (0 : Int) ≤ X.1 12 4 ∧ X.1 12 4 ≤ 35 := hs
    refine MetX.imp (fun r X1 hp => ?_) (t_M_90 (fun b => match b with | 0 => 0 | 1 => 4 | 2 => X.1 0 22 | 3 => X.1 0 23 | _ => X.1 12 4, fun _ => 0) X ⟨rfl, ei_cons (by show (0 : Int) ≤ 0 ∧ (0 : Int) ≤ 0; omega) (ei_cons (by show (4 : Int) ≤ 4 ∧ (4 : Int) ≤ 4; omega) (ei_cons hw (ei_cons hh (ei_cons hs ei_nil)))), el_nil, dl_cons (by show X.1 0 22 = X.1 0 22 + 0; omega) (dl_cons (by show X.1 0 23 = X.1 0 23 + 0; omega) (dl_cons (by show X.1 12 4 = X.1 12 4 + 0; omega) dl_nil)), hH, bk⟩)
    obtain ⟨a, ha, g1, hx, hei, hel, rfl, hdl, hgd, hH1, hE1, hF1⟩ := hp
    rcases List.mem_singleton.mp ha with rfl
    exact ⟨_, rfl, hH1, hF1⟩
  · have hs : (0 : Int) ≤ X.1 12 5 ∧ X.1 12 5 ≤ 35 := hs
    refine MetX.imp (fun r X1 hp => ?_) (t_M_88 (fun b => match b with | 0 => 0 | 1 => 5 | 2 => X.1 0 22 | 3 => X.1 0 23 | _ => X.1 12 5, fun _ => 0) X ⟨rfl, ei_cons (by show (0 : Int) ≤ 0 ∧ (0 : Int) ≤ 0; omega) (ei_cons (by show (5 : Int) ≤ 5 ∧ (5 : Int) ≤ 5; omega) (ei_cons hw (ei_cons hh (ei_cons hs ei_nil)))), el_nil, dl_cons (by show X.1 0 22 = X.1 0 22 + 0; omega) (dl_cons (by show X.1 0 23 = X.1 0 23 + 0; omega) (dl_cons (by show X.1 12 5 = X.1 12 5 + 0; omega) dl_nil)), hH, bk⟩)
    obtain ⟨a, ha, g1, hx, hei, hel, rfl, hdl, hgd, hH1, hE1, hF1⟩ := hp
    rcases List.mem_singleton.mp ha with rfl
    exact ⟨_, rfl, hH1, hF1⟩
abbrev mdIM : List (Nat × Option Nat) := cMd k_M_139
set_option maxRecDepth 10000 in
set_option maxHeartbeats 2000000 in
theorem em_isMan {D : va_G} {ad : Nat → Nat} {cA : Nat → ClassId} {X : XT} {b j : Int} (hb : inR b) (hj : inR j) (hH : HG vM X) (bk : BOK X) : MetX (wM D ad cA) yX12_isMan cX12_isMan 3 (some .boolean) 3 67 [.ref 0, .int (iI (b)), .int (iI (j))] X (fun r X1 => ∃ u : Int, r = some (.int (iI u)) ∧ (u = 0 ∨ (u = 1 ∧ 0 ≤ j ∧ j ≤ 5 ∧ (2 ≤ X1.1 0 22 ∧ X1.1 0 22 ≤ 6) ∧ (2 ≤ X1.1 0 23 ∧ X1.1 0 23 ≤ 6) ∧ 0 ≤ X1.1 12 j.toNat ∧ X1.1 12 j.toNat ≤ 35)) ∧ HG vM X1 ∧ FR mdIM X X1) := by
  have ea : (cAr k_M_139).map (dn (fun b1 => match b1 with | 0 => 0 | 1 => b | _ => j, fun _ => 0)) = [.ref 0, .int (iI (b)), .int (iI (j))] := by
    show [_, Value.int (iI (b + 0)), Value.int (iI (j + 0))] = _
    rw [Int.add_zero, Int.add_zero]
    rfl
  rw [← ea]
  refine MetX.imp (fun r X1 hp => ?_) (t_M_139 (fun b1 => match b1 with | 0 => 0 | 1 => b | _ => j, fun _ => 0) X ⟨rfl, ei_cons (by show (0 : Int) ≤ 0 ∧ (0 : Int) ≤ 0; omega) (ei_cons hb (ei_cons hj ei_nil)), el_nil, dl_nil, hH, bk⟩)
  obtain ⟨a, ha, g1, hx, hei, hel, rfl, hdl, hgd, hH1, hE1, hF1⟩ := hp
  have g0 : g1.1 0 = 0 := hx.1 0 (by decide)
  have g2 : g1.1 2 = j := hx.1 2 (by decide)
  simp only [cAl, k_M_139, List.mem_cons, List.not_mem_nil, or_false] at ha
  rcases ha with rfl | rfl | rfl | rfl | rfl | rfl | rfl | rfl | rfl | rfl | rfl | rfl | rfl | rfl
  · exact ⟨g1.1 0 + 0, rfl, .inl (by omega), hH1, hF1⟩
  · have jj : (0 : Int) ≤ g1.1 2 ∧ g1.1 2 ≤ 0 := hei 2 _ rfl
    have dw : X1.1 0 22 = g1.1 3 + 0 := hdl ((0, 22), (0, 3, 0)) (.head _)
    have rw : (2 : Int) ≤ g1.1 3 ∧ g1.1 3 ≤ 6 := hei 3 _ rfl
    have dh : X1.1 0 23 = g1.1 4 + 0 := hdl ((0, 23), (0, 4, 0)) (.tail _ (.head _))
    have rh : (2 : Int) ≤ g1.1 4 ∧ g1.1 4 ≤ 6 := hei 4 _ rfl
    have ds0 : X1.1 12 0 = g1.1 7 + 0 := hdl ((12, 0), (0, 7, 0)) (.tail _ (.tail _ (.tail _ (.tail _ (.head _)))))
    have rs0 : (0 : Int) ≤ g1.1 7 ∧ g1.1 7 ≤ 35 := hei 7 _ rfl
    have hs : 0 ≤ X1.1 12 j.toNat ∧ X1.1 12 j.toNat ≤ 35 := by
      have hj0 : j = 0 := by omega
      · rw [show j.toNat = 0 by omega]
        omega
    exact ⟨g1.1 0 + 1, rfl, .inr ⟨by omega, by omega, by omega, by omega, by omega, hs⟩, hH1, hF1⟩
  · exact ⟨g1.1 0 + 0, rfl, .inl (by omega), hH1, hF1⟩
  · have jj : (0 : Int) ≤ g1.1 2 ∧ g1.1 2 ≤ 1 := hei 2 _ rfl
    have dw : X1.1 0 22 = g1.1 3 + 0 := hdl ((0, 22), (0, 3, 0)) (.head _)
    have rw : (2 : Int) ≤ g1.1 3 ∧ g1.1 3 ≤ 6 := hei 3 _ rfl
    have dh : X1.1 0 23 = g1.1 4 + 0 := hdl ((0, 23), (0, 4, 0)) (.tail _ (.head _))
    have rh : (2 : Int) ≤ g1.1 4 ∧ g1.1 4 ≤ 6 := hei 4 _ rfl
    have ds0 : X1.1 12 0 = g1.1 7 + 0 := hdl ((12, 0), (0, 7, 0)) (.tail _ (.tail _ (.tail _ (.tail _ (.head _)))))
    have rs0 : (0 : Int) ≤ g1.1 7 ∧ g1.1 7 ≤ 35 := hei 7 _ rfl
    have ds1 : X1.1 12 1 = g1.1 8 + 0 := hdl ((12, 1), (0, 8, 0)) (.tail _ (.tail _ (.tail _ (.tail _ (.tail _ (.head _))))))
    have rs1 : (0 : Int) ≤ g1.1 8 ∧ g1.1 8 ≤ 35 := hei 8 _ rfl
    have hs : 0 ≤ X1.1 12 j.toNat ∧ X1.1 12 j.toNat ≤ 35 := by
      rcases (show j = 0 ∨ j = 1 by omega) with hj0 | hj1
      · rw [show j.toNat = 0 by omega]
        omega
      · rw [show j.toNat = 1 by omega]
        omega
    exact ⟨g1.1 0 + 1, rfl, .inr ⟨by omega, by omega, by omega, by omega, by omega, hs⟩, hH1, hF1⟩
  · exact ⟨g1.1 0 + 0, rfl, .inl (by omega), hH1, hF1⟩
  · have jj : (0 : Int) ≤ g1.1 2 ∧ g1.1 2 ≤ 2 := hei 2 _ rfl
    have dw : X1.1 0 22 = g1.1 3 + 0 := hdl ((0, 22), (0, 3, 0)) (.head _)
    have rw : (2 : Int) ≤ g1.1 3 ∧ g1.1 3 ≤ 6 := hei 3 _ rfl
    have dh : X1.1 0 23 = g1.1 4 + 0 := hdl ((0, 23), (0, 4, 0)) (.tail _ (.head _))
    have rh : (2 : Int) ≤ g1.1 4 ∧ g1.1 4 ≤ 6 := hei 4 _ rfl
    have ds0 : X1.1 12 0 = g1.1 7 + 0 := hdl ((12, 0), (0, 7, 0)) (.tail _ (.tail _ (.tail _ (.tail _ (.head _)))))
    have rs0 : (0 : Int) ≤ g1.1 7 ∧ g1.1 7 ≤ 35 := hei 7 _ rfl
    have ds1 : X1.1 12 1 = g1.1 8 + 0 := hdl ((12, 1), (0, 8, 0)) (.tail _ (.tail _ (.tail _ (.tail _ (.tail _ (.head _))))))
    have rs1 : (0 : Int) ≤ g1.1 8 ∧ g1.1 8 ≤ 35 := hei 8 _ rfl
    have ds2 : X1.1 12 2 = g1.1 9 + 0 := hdl ((12, 2), (0, 9, 0)) (.tail _ (.tail _ (.tail _ (.tail _ (.tail _ (.tail _ (.head _)))))))
    have rs2 : (0 : Int) ≤ g1.1 9 ∧ g1.1 9 ≤ 35 := hei 9 _ rfl
    have hs : 0 ≤ X1.1 12 j.toNat ∧ X1.1 12 j.toNat ≤ 35 := by
      rcases (show j = 0 ∨ j = 1 ∨ j = 2 by omega) with hj0 | hj1 | hj2
      · rw [show j.toNat = 0 by omega]
        omega
      · rw [show j.toNat = 1 by omega]
        omega
      · rw [show j.toNat = 2 by omega]
        omega
    exact ⟨g1.1 0 + 1, rfl, .inr ⟨by omega, by omega, by omega, by omega, by omega, hs⟩, hH1, hF1⟩
  · exact ⟨g1.1 0 + 0, rfl, .inl (by omega), hH1, hF1⟩
  · have jj : (0 : Int) ≤ g1.1 2 ∧ g1.1 2 ≤ 3 := hei 2 _ rfl
    have dw : X1.1 0 22 = g1.1 3 + 0 := hdl ((0, 22), (0, 3, 0)) (.head _)
    have rw : (2 : Int) ≤ g1.1 3 ∧ g1.1 3 ≤ 6 := hei 3 _ rfl
    have dh : X1.1 0 23 = g1.1 4 + 0 := hdl ((0, 23), (0, 4, 0)) (.tail _ (.head _))
    have rh : (2 : Int) ≤ g1.1 4 ∧ g1.1 4 ≤ 6 := hei 4 _ rfl
    have ds0 : X1.1 12 0 = g1.1 7 + 0 := hdl ((12, 0), (0, 7, 0)) (.tail _ (.tail _ (.tail _ (.tail _ (.head _)))))
    have rs0 : (0 : Int) ≤ g1.1 7 ∧ g1.1 7 ≤ 35 := hei 7 _ rfl
    have ds1 : X1.1 12 1 = g1.1 8 + 0 := hdl ((12, 1), (0, 8, 0)) (.tail _ (.tail _ (.tail _ (.tail _ (.tail _ (.head _))))))
    have rs1 : (0 : Int) ≤ g1.1 8 ∧ g1.1 8 ≤ 35 := hei 8 _ rfl
    have ds2 : X1.1 12 2 = g1.1 9 + 0 := hdl ((12, 2), (0, 9, 0)) (.tail _ (.tail _ (.tail _ (.tail _ (.tail _ (.tail _ (.head _)))))))
    have rs2 : (0 : Int) ≤ g1.1 9 ∧ g1.1 9 ≤ 35 := hei 9 _ rfl
    have ds3 : X1.1 12 3 = g1.1 10 + 0 := hdl ((12, 3), (0, 10, 0)) (.tail _ (.tail _ (.tail _ (.tail _ (.tail _ (.tail _ (.tail _ (.head _))))))))
    have rs3 : (0 : Int) ≤ g1.1 10 ∧ g1.1 10 ≤ 35 := hei 10 _ rfl
    have hs : 0 ≤ X1.1 12 j.toNat ∧ X1.1 12 j.toNat ≤ 35 := by
      rcases (show j = 0 ∨ j = 1 ∨ j = 2 ∨ j = 3 by omega) with hj0 | hj1 | hj2 | hj3
      · rw [show j.toNat = 0 by omega]
        omega
      · rw [show j.toNat = 1 by omega]
        omega
      · rw [show j.toNat = 2 by omega]
        omega
      · rw [show j.toNat = 3 by omega]
        omega
    exact ⟨g1.1 0 + 1, rfl, .inr ⟨by omega, by omega, by omega, by omega, by omega, hs⟩, hH1, hF1⟩
  · exact ⟨g1.1 0 + 0, rfl, .inl (by omega), hH1, hF1⟩
  · have jj : (0 : Int) ≤ g1.1 2 ∧ g1.1 2 ≤ 4 := hei 2 _ rfl
    have dw : X1.1 0 22 = g1.1 3 + 0 := hdl ((0, 22), (0, 3, 0)) (.head _)
    have rw : (2 : Int) ≤ g1.1 3 ∧ g1.1 3 ≤ 6 := hei 3 _ rfl
    have dh : X1.1 0 23 = g1.1 4 + 0 := hdl ((0, 23), (0, 4, 0)) (.tail _ (.head _))
    have rh : (2 : Int) ≤ g1.1 4 ∧ g1.1 4 ≤ 6 := hei 4 _ rfl
    have ds0 : X1.1 12 0 = g1.1 7 + 0 := hdl ((12, 0), (0, 7, 0)) (.tail _ (.tail _ (.tail _ (.tail _ (.head _)))))
    have rs0 : (0 : Int) ≤ g1.1 7 ∧ g1.1 7 ≤ 35 := hei 7 _ rfl
    have ds1 : X1.1 12 1 = g1.1 8 + 0 := hdl ((12, 1), (0, 8, 0)) (.tail _ (.tail _ (.tail _ (.tail _ (.tail _ (.head _))))))
    have rs1 : (0 : Int) ≤ g1.1 8 ∧ g1.1 8 ≤ 35 := hei 8 _ rfl
    have ds2 : X1.1 12 2 = g1.1 9 + 0 := hdl ((12, 2), (0, 9, 0)) (.tail _ (.tail _ (.tail _ (.tail _ (.tail _ (.tail _ (.head _)))))))
    have rs2 : (0 : Int) ≤ g1.1 9 ∧ g1.1 9 ≤ 35 := hei 9 _ rfl
    have ds3 : X1.1 12 3 = g1.1 10 + 0 := hdl ((12, 3), (0, 10, 0)) (.tail _ (.tail _ (.tail _ (.tail _ (.tail _ (.tail _ (.tail _ (.head _))))))))
    have rs3 : (0 : Int) ≤ g1.1 10 ∧ g1.1 10 ≤ 35 := hei 10 _ rfl
    have ds4 : X1.1 12 4 = g1.1 11 + 0 := hdl ((12, 4), (0, 11, 0)) (.tail _ (.tail _ (.tail _ (.tail _ (.tail _ (.tail _ (.tail _ (.tail _ (.head _)))))))))
    have rs4 : (0 : Int) ≤ g1.1 11 ∧ g1.1 11 ≤ 35 := hei 11 _ rfl
    have hs : 0 ≤ X1.1 12 j.toNat ∧ X1.1 12 j.toNat ≤ 35 := by
      rcases (show j = 0 ∨ j = 1 ∨ j = 2 ∨ j = 3 ∨ j = 4 by omega) with hj0 | hj1 | hj2 | hj3 | hj4
      · rw [show j.toNat = 0 by omega]
        omega
      · rw [show j.toNat = 1 by omega]
        omega
      · rw [show j.toNat = 2 by omega]
        omega
      · rw [show j.toNat = 3 by omega]
        omega
      · rw [show j.toNat = 4 by omega]
        omega
    exact ⟨g1.1 0 + 1, rfl, .inr ⟨by omega, by omega, by omega, by omega, by omega, hs⟩, hH1, hF1⟩
  · exact ⟨g1.1 0 + 0, rfl, .inl (by omega), hH1, hF1⟩
  · have jj : (0 : Int) ≤ g1.1 2 ∧ g1.1 2 ≤ 5 := hei 2 _ rfl
    have dw : X1.1 0 22 = g1.1 3 + 0 := hdl ((0, 22), (0, 3, 0)) (.head _)
    have rw : (2 : Int) ≤ g1.1 3 ∧ g1.1 3 ≤ 6 := hei 3 _ rfl
    have dh : X1.1 0 23 = g1.1 4 + 0 := hdl ((0, 23), (0, 4, 0)) (.tail _ (.head _))
    have rh : (2 : Int) ≤ g1.1 4 ∧ g1.1 4 ≤ 6 := hei 4 _ rfl
    have ds0 : X1.1 12 0 = g1.1 7 + 0 := hdl ((12, 0), (0, 7, 0)) (.tail _ (.tail _ (.tail _ (.tail _ (.head _)))))
    have rs0 : (0 : Int) ≤ g1.1 7 ∧ g1.1 7 ≤ 35 := hei 7 _ rfl
    have ds1 : X1.1 12 1 = g1.1 8 + 0 := hdl ((12, 1), (0, 8, 0)) (.tail _ (.tail _ (.tail _ (.tail _ (.tail _ (.head _))))))
    have rs1 : (0 : Int) ≤ g1.1 8 ∧ g1.1 8 ≤ 35 := hei 8 _ rfl
    have ds2 : X1.1 12 2 = g1.1 9 + 0 := hdl ((12, 2), (0, 9, 0)) (.tail _ (.tail _ (.tail _ (.tail _ (.tail _ (.tail _ (.head _)))))))
    have rs2 : (0 : Int) ≤ g1.1 9 ∧ g1.1 9 ≤ 35 := hei 9 _ rfl
    have ds3 : X1.1 12 3 = g1.1 10 + 0 := hdl ((12, 3), (0, 10, 0)) (.tail _ (.tail _ (.tail _ (.tail _ (.tail _ (.tail _ (.tail _ (.head _))))))))
    have rs3 : (0 : Int) ≤ g1.1 10 ∧ g1.1 10 ≤ 35 := hei 10 _ rfl
    have ds4 : X1.1 12 4 = g1.1 11 + 0 := hdl ((12, 4), (0, 11, 0)) (.tail _ (.tail _ (.tail _ (.tail _ (.tail _ (.tail _ (.tail _ (.tail _ (.head _)))))))))
    have rs4 : (0 : Int) ≤ g1.1 11 ∧ g1.1 11 ≤ 35 := hei 11 _ rfl
    have ds5 : X1.1 12 5 = g1.1 12 + 0 := hdl ((12, 5), (0, 12, 0)) (.tail _ (.tail _ (.tail _ (.tail _ (.tail _ (.tail _ (.tail _ (.tail _ (.tail _ (.head _))))))))))
    have rs5 : (0 : Int) ≤ g1.1 12 ∧ g1.1 12 ≤ 35 := hei 12 _ rfl
    have hs : 0 ≤ X1.1 12 j.toNat ∧ X1.1 12 j.toNat ≤ 35 := by
      rcases (show j = 0 ∨ j = 1 ∨ j = 2 ∨ j = 3 ∨ j = 4 ∨ j = 5 by omega) with hj0 | hj1 | hj2 | hj3 | hj4 | hj5
      · rw [show j.toNat = 0 by omega]
        omega
      · rw [show j.toNat = 1 by omega]
        omega
      · rw [show j.toNat = 2 by omega]
        omega
      · rw [show j.toNat = 3 by omega]
        omega
      · rw [show j.toNat = 4 by omega]
        omega
      · rw [show j.toNat = 5 by omega]
        omega
    exact ⟨g1.1 0 + 1, rfl, .inr ⟨by omega, by omega, by omega, by omega, by omega, hs⟩, hH1, hF1⟩
  · exact ⟨g1.1 0 + 0, rfl, .inl (by omega), hH1, hF1⟩
  · exact ⟨g1.1 0 + 0, rfl, .inl (by omega), hH1, hF1⟩
abbrev mdME : List (Nat × Option Nat) := (0, some 0) :: (40, none) :: (41, none) :: (mdLY ++ mdEO ++ mdIM)
set_option maxHeartbeats 4000000 in
set_option maxRecDepth 100000 in
theorem lq_me3 {D : va_G} {ad : Nat → Nat} {cA : Nat → ClassId} {Xi : XT} {b j q rc : Int} (j0 : 0 ≤ j) (j1 : j ≤ 5) (q0 : 1 ≤ q) (q1 : q ≤ 4) (r0 : 0 ≤ rc) (r1 : rc ≤ 1) (bk : BOK Xi) {p : Int} (p0 : 1 ≤ p) (p1 : p ≤ 4) {E : ET} (C : CX E (wM D ad cA) cX12_meanings 12 RX12 (some .int) { frames := 11, cells := 0, slots := 0, locals := 268 }) (hQ : EQ E (wM D ad cA) (fun r X1 => (∃ u : Int, r = some (.int (iI u)) ∧ inR u) ∧ HG vM X1 ∧ FR mdME Xi X1)) (kk : ∀ (u : Int) (z : Int64) (X : XT), 0 ≤ u → u ≤ 11110 → u ≤ bsI p + tnI p → (HG vM X) → (FR mdME Xi X) → (2 ≤ X.1 0 22 ∧ X.1 0 22 ≤ 6) → (2 ≤ X.1 0 23 ∧ X.1 0 23 ≤ 6) → (0 ≤ X.1 12 j.toNat ∧ X.1 12 j.toNat ≤ 35) → knA X ≤ bsI p + tnI p → Wx E (wM D ad cA) 12 (PX (wM D ad cA) X) 59 [(8, .int (iI (p + 1))), (7, .int (iI (u))), (5, .long (z)), (0, .ref 0), (1, .int (iI (b))), (2, .int (iI (j))), (3, .int (iI (q))), (4, .int (iI (rc)))] []) : ∀ (n : Nat) (k : Int) (u : Int) (z : Int64) (X : XT), tnI p - k < n → 0 ≤ k → k ≤ tnI p → 0 ≤ u → u ≤ 11110 → u ≤ bsI p + k → (HG vM X) → (FR mdME Xi X) → (2 ≤ X.1 0 22 ∧ X.1 0 22 ≤ 6) → (2 ≤ X.1 0 23 ∧ X.1 0 23 ≤ 6) → (0 ≤ X.1 12 j.toNat ∧ X.1 12 j.toNat ≤ 35) → knA X ≤ bsI p + k → Wx E (wM D ad cA) 12 (PX (wM D ad cA) X) 68 [(9, .int (iI (k))), (8, .int (iI (p))), (7, .int (iI (u))), (5, .long (z)), (0, .ref 0), (1, .int (iI (b))), (2, .int (iI (j))), (3, .int (iI (q))), (4, .int (iI (rc)))] [] := by
  intro n
  induction n with
  | zero => intro k u z X hn k0 k1 u0 u1 u2 hH hF hw hh hs hk; exfalso; omega
  | succ n ih =>
    intro k u z X hn k0 k1 u0 u1 u2 hH hF hw hh hs hk
    have tb := tn_bs p0 p1
    refine x_iload C dX12_meanings_68 rfl ?_
    refine x_iload C dX12_meanings_70 rfl ?_
    refine x_callS (As := [.int (iI (p))]) C (by exact (q_rulesOf (n := p) (by omega) (by omega))) ckX12_483 sm_X12_rulesOf rfl rfl (nle rfl) (by exact ⟨nle rfl, nle rfl⟩) dX12_meanings_72 ?_
    rintro _ Xv1 ⟨hxv1, v1, rfl, ev1⟩
    rw [hxv1]
    refine Wx_st (st' := [.int (iI (v1)), .int (iI (k))]) rfl ?_
    refine x_icmp_ge (tgt := 125) C dX12_meanings_75 (by decide) ⟨by omega, by omega⟩ ⟨by omega, by omega⟩ (fun h2 => ?_) (fun h2 => ?_)
    · refine x_iinc (lv' := [(8, .int (iI (p + 1))), (9, .int (iI (k))), (7, .int (iI (u))), (5, .long (z)), (0, .ref 0), (1, .int (iI (b))), (2, .int (iI (j))), (3, .int (iI (q))), (4, .int (iI (rc)))]) C dX12_meanings_125 rfl (nlt rfl) rfl ?_
      refine x_goto (tgt := 59) C dX12_meanings_128 (by decide) ?_
      refine Wx_pick [8, 7, 5, 0, 1, 2, 3, 4] ?_
      refine Wx_lv (lv' := [(8, .int (iI (p + 1))), (7, .int (iI (u))), (5, .long (z)), (0, .ref 0), (1, .int (iI (b))), (2, .int (iI (j))), (3, .int (iI (q))), (4, .int (iI (rc)))]) rfl ?_
      exact kk _ _ _ (by omega) (by omega) (by omega) hH hF hw hh hs (by omega)
    · refine x_aload_n (i := 0) C dX12_meanings_78 rfl rfl ?_
      refine x_iload C dX12_meanings_79 rfl ?_
      refine x_iload C dX12_meanings_81 rfl ?_
      refine x_callV (As := [.int (iI (p)), .int (iI (k))]) C (by exact (q_layNumber (j := p) (k := k) (by omega) (by omega) (by omega) (by omega) hH FR.rf)) ckX12_486 im_X12_layNumber se_X12_layNumber (nlt rfl) rfl rfl rfl rfl (nle rfl) (by exact ⟨nle rfl, nle rfl⟩) dX12_meanings_83 ?_
      rintro _ Yy3 ⟨rfl, hHy3, hGy3⟩
      have hFy3 : FR mdME Xi Yy3 := FR.tr hF hGy3 (by decide)
      have hwy3 : 2 ≤ Yy3.1 0 22 ∧ Yy3.1 0 22 ≤ 6 := by rw [(hGy3 0 22 rfl).1]; exact hw
      have hhy3 : 2 ≤ Yy3.1 0 23 ∧ Yy3.1 0 23 ≤ 6 := by rw [(hGy3 0 23 rfl).1]; exact hh
      have hsy3 : 0 ≤ Yy3.1 12 j.toNat ∧ Yy3.1 12 j.toNat ≤ 35 := by rw [(hGy3 12 _ rfl).1]; exact hs
      have kny3 : knA Yy3 = knA X := knA_cg (fun i => (hGy3 41 i rfl).1)
      refine Wx_st (st' := []) rfl ?_
      refine x_aload_n (i := 0) C dX12_meanings_86 rfl rfl ?_
      refine x_iload_n (i := 2) C dX12_meanings_87 rfl rfl ?_
      refine x_callV (As := [.int (iI (j))]) C (by exact (em_endsOf (j := j) j0 j1 hHy3 hwy3 hhy3 hsy3 (bok_fr bk hFy3 rfl))) ckX12_392 im_X12_endsOf se_X12_endsOf (nlt rfl) rfl rfl rfl rfl (nle rfl) (by exact ⟨nle rfl, nle rfl⟩) dX12_meanings_88 ?_
      rintro _ Yy4 ⟨l5, rfl, hHy4, hGy4⟩
      have hFy4 : FR mdME Xi Yy4 := FR.tr hFy3 hGy4 (by decide +kernel)
      have hwy4 : 2 ≤ Yy4.1 0 22 ∧ Yy4.1 0 22 ≤ 6 := by rw [(hGy4 0 22 rfl).1]; exact hwy3
      have hhy4 : 2 ≤ Yy4.1 0 23 ∧ Yy4.1 0 23 ≤ 6 := by rw [(hGy4 0 23 rfl).1]; exact hhy3
      have hsy4 : 0 ≤ Yy4.1 12 j.toNat ∧ Yy4.1 12 j.toNat ≤ 35 := by rw [(hGy4 12 _ rfl).1]; exact hsy3
      have kny4 : knA Yy4 = knA Yy3 := knA_cg (fun i => (hGy4 41 i rfl).1)
      refine Wx_st (st' := [.long (l5)]) rfl ?_
      refine x_lstore (lv' := [(10, .long (l5)), (9, .int (iI (k))), (8, .int (iI (p))), (7, .int (iI (u))), (5, .long (z)), (0, .ref 0), (1, .int (iI (b))), (2, .int (iI (j))), (3, .int (iI (q))), (4, .int (iI (rc)))]) C dX12_meanings_91 (nlt rfl) rfl ?_
      refine x_lload C dX12_meanings_93 rfl ?_
      refine x_lload C dX12_meanings_95 rfl ?_
      refine x_lor C dX12_meanings_97 ?_
      refine x_genL (fun l6 el6 => ?_)
      refine x_lstore (lv' := [(5, .long (l6)), (10, .long (l5)), (9, .int (iI (k))), (8, .int (iI (p))), (7, .int (iI (u))), (0, .ref 0), (1, .int (iI (b))), (2, .int (iI (j))), (3, .int (iI (q))), (4, .int (iI (rc)))]) C dX12_meanings_98 (nlt rfl) rfl ?_
      refine x_iload C dX12_meanings_100 rfl ?_
      refine x_aload_n (i := 0) C dX12_meanings_102 rfl rfl ?_
      refine x_lload C dX12_meanings_103 rfl ?_
      refine x_callV (As := [.long (l5)]) C (by exact (qf_isNew (l := l5) hHy4 (by omega))) ckX12_505 im_X12_isNew se_X12_isNew (nlt rfl) rfl rfl rfl rfl (nle rfl) (by exact ⟨nle rfl, nle rfl⟩) dX12_meanings_105 ?_
      rintro _ Yy7 ⟨v8, rfl, bv8, cv8, hHy7, hGy7, kny7⟩
      have hFy7 : FR mdME Xi Yy7 := FR.tr hFy4 hGy7 (by decide +kernel)
      have hwy7 : 2 ≤ Yy7.1 0 22 ∧ Yy7.1 0 22 ≤ 6 := by rw [(hGy7 0 22 rfl).1]; exact hwy4
      have hhy7 : 2 ≤ Yy7.1 0 23 ∧ Yy7.1 0 23 ≤ 6 := by rw [(hGy7 0 23 rfl).1]; exact hhy4
      have hsy7 : 0 ≤ Yy7.1 12 j.toNat ∧ Yy7.1 12 j.toNat ≤ 35 := by rw [(hGy7 12 _ rfl).1]; exact hsy4
      refine Wx_st (st' := [.int (iI (v8)), .int (iI (u))]) rfl ?_
      refine x_if_eq (tgt := 115) C dX12_meanings_108 (by decide) ⟨by omega, by omega⟩ (fun h9 => ?_) (fun h9 => ?_)
      · refine x_iconst C dX12_meanings_115 ?_
        refine x_iadd C dX12_meanings_116 ?_
        refine x_gen (fun v10 ev10 => ?_)
        refine x_istore (lv' := [(7, .int (iI (v10))), (5, .long (l6)), (10, .long (l5)), (9, .int (iI (k))), (8, .int (iI (p))), (0, .ref 0), (1, .int (iI (b))), (2, .int (iI (j))), (3, .int (iI (q))), (4, .int (iI (rc)))]) C dX12_meanings_117 (nlt rfl) rfl ?_
        refine x_iinc (lv' := [(9, .int (iI (k + 1))), (7, .int (iI (v10))), (5, .long (l6)), (10, .long (l5)), (8, .int (iI (p))), (0, .ref 0), (1, .int (iI (b))), (2, .int (iI (j))), (3, .int (iI (q))), (4, .int (iI (rc)))]) C dX12_meanings_119 rfl (nlt rfl) rfl ?_
        refine x_goto (tgt := 68) C dX12_meanings_122 (by decide) ?_
        refine Wx_pick [9, 8, 7, 5, 0, 1, 2, 3, 4] ?_
        refine Wx_lv (lv' := [(9, .int (iI (k + 1))), (8, .int (iI (p))), (7, .int (iI (v10))), (5, .long (l6)), (0, .ref 0), (1, .int (iI (b))), (2, .int (iI (j))), (3, .int (iI (q))), (4, .int (iI (rc)))]) rfl ?_
        exact ih _ _ _ _ (by omega) (by omega) (by omega) (by omega) (by omega) (by omega) hHy7 hFy7 hwy7 hhy7 hsy7 (by omega)
      · refine x_iconst C dX12_meanings_111 ?_
        refine x_goto (tgt := 116) C dX12_meanings_112 (by decide) ?_
        refine x_iadd C dX12_meanings_116 ?_
        refine x_gen (fun v11 ev11 => ?_)
        refine x_istore (lv' := [(7, .int (iI (v11))), (5, .long (l6)), (10, .long (l5)), (9, .int (iI (k))), (8, .int (iI (p))), (0, .ref 0), (1, .int (iI (b))), (2, .int (iI (j))), (3, .int (iI (q))), (4, .int (iI (rc)))]) C dX12_meanings_117 (nlt rfl) rfl ?_
        refine x_iinc (lv' := [(9, .int (iI (k + 1))), (7, .int (iI (v11))), (5, .long (l6)), (10, .long (l5)), (8, .int (iI (p))), (0, .ref 0), (1, .int (iI (b))), (2, .int (iI (j))), (3, .int (iI (q))), (4, .int (iI (rc)))]) C dX12_meanings_119 rfl (nlt rfl) rfl ?_
        refine x_goto (tgt := 68) C dX12_meanings_122 (by decide) ?_
        refine Wx_pick [9, 8, 7, 5, 0, 1, 2, 3, 4] ?_
        refine Wx_lv (lv' := [(9, .int (iI (k + 1))), (8, .int (iI (p))), (7, .int (iI (v11))), (5, .long (l6)), (0, .ref 0), (1, .int (iI (b))), (2, .int (iI (j))), (3, .int (iI (q))), (4, .int (iI (rc)))]) rfl ?_
        exact ih _ _ _ _ (by omega) (by omega) (by omega) (by omega) (by omega) (by omega) hHy7 hFy7 hwy7 hhy7 hsy7 (by omega)
set_option maxHeartbeats 4000000 in
set_option maxRecDepth 100000 in
theorem lq_me2 {D : va_G} {ad : Nat → Nat} {cA : Nat → ClassId} {Xi : XT} {b j q rc : Int} (j0 : 0 ≤ j) (j1 : j ≤ 5) (q0 : 1 ≤ q) (q1 : q ≤ 4) (r0 : 0 ≤ rc) (r1 : rc ≤ 1) (bk : BOK Xi) {E : ET} (C : CX E (wM D ad cA) cX12_meanings 12 RX12 (some .int) { frames := 11, cells := 0, slots := 0, locals := 268 }) (hQ : EQ E (wM D ad cA) (fun r X1 => (∃ u : Int, r = some (.int (iI u)) ∧ inR u) ∧ HG vM X1 ∧ FR mdME Xi X1)) : ∀ (n : Nat) (p : Int) (u : Int) (z : Int64) (X : XT), q + 1 - p < n → 1 ≤ p → p ≤ q + 1 → 0 ≤ u → u ≤ 11110 → u ≤ bsI p → (HG vM X) → (FR mdME Xi X) → (2 ≤ X.1 0 22 ∧ X.1 0 22 ≤ 6) → (2 ≤ X.1 0 23 ∧ X.1 0 23 ≤ 6) → (0 ≤ X.1 12 j.toNat ∧ X.1 12 j.toNat ≤ 35) → knA X ≤ bsI p → Wx E (wM D ad cA) 12 (PX (wM D ad cA) X) 59 [(8, .int (iI (p))), (7, .int (iI (u))), (5, .long (z)), (0, .ref 0), (1, .int (iI (b))), (2, .int (iI (j))), (3, .int (iI (q))), (4, .int (iI (rc)))] [] := by
  intro n
  induction n with
  | zero => intro p u z X hn p0 p1 u0 u1 u2 hH hF hw hh hs hk; exfalso; omega
  | succ n ih =>
    intro p u z X hn p0 p1 u0 u1 u2 hH hF hw hh hs hk
    refine x_iload C dX12_meanings_59 rfl ?_
    refine x_iload_n (i := 3) C dX12_meanings_61 rfl rfl ?_
    refine x_icmp_gt (tgt := 131) C dX12_meanings_62 (by decide) ⟨by omega, by omega⟩ ⟨by omega, by omega⟩ (fun h1 => ?_) (fun h1 => ?_)
    · refine x_iload C dX12_meanings_131 rfl ?_
      refine x_if_eq (tgt := 144) C dX12_meanings_133 (by decide) ⟨by omega, by omega⟩ (fun h2 => ?_) (fun h2 => ?_)
      · refine x_iload C dX12_meanings_144 rfl ?_
        exact x_iret C hQ dX12_meanings_146 (⟨⟨_, rfl, by omega, by omega⟩, hH, hF⟩)
      · refine x_lload C dX12_meanings_136 rfl ?_
        refine x_callS (As := [.long (z)]) C (by exact (qf_ones (z := z))) ckX12_305 sm_X12_ones rfl rfl (nle rfl) (by exact ⟨nle rfl, nle rfl⟩) dX12_meanings_138 ?_
        rintro _ Xv3 ⟨hxv3, v3, rfl, ev3⟩
        rw [hxv3]
        have bv3 := pcN_bd z 36
        refine Wx_st (st' := [.int (iI (v3))]) rfl ?_
        refine x_goto (tgt := 146) C dX12_meanings_141 (by decide) ?_
        exact x_iret C hQ dX12_meanings_146 (⟨⟨_, rfl, by omega, by omega⟩, hH, hF⟩)
    · refine x_iconst C dX12_meanings_65 ?_
      refine x_istore (lv' := [(9, .int (iI (0))), (8, .int (iI (p))), (7, .int (iI (u))), (5, .long (z)), (0, .ref 0), (1, .int (iI (b))), (2, .int (iI (j))), (3, .int (iI (q))), (4, .int (iI (rc)))]) C dX12_meanings_66 (nlt rfl) rfl ?_
      have tb := tn_bs p0 (by omega)
      refine Wx_pick [9, 8, 7, 5, 0, 1, 2, 3, 4] ?_
      refine Wx_lv (lv' := [(9, .int (iI (0))), (8, .int (iI (p))), (7, .int (iI (u))), (5, .long (z)), (0, .ref 0), (1, .int (iI (b))), (2, .int (iI (j))), (3, .int (iI (q))), (4, .int (iI (rc)))]) rfl ?_
      refine lq_me3 j0 j1 q0 q1 r0 r1 bk p0 (by omega) C hQ (fun u1 z1 X1 a0 a1 a2 a3 a4 a5 a6 a7 a8 => ?_) 10001 0 _ _ _ (by omega) (by omega) (by omega) (by omega) (by omega) (by omega) hH hF hw hh hs (by omega)
      exact ih _ _ _ _ (by omega) (by omega) (by omega) a0 a1 (by omega) a3 a4 a5 a6 a7 (by omega)
set_option maxHeartbeats 4000000 in
set_option maxRecDepth 100000 in
theorem lq_me1 {D : va_G} {ad : Nat → Nat} {cA : Nat → ClassId} {Xi : XT} {b j q rc : Int} (j0 : 0 ≤ j) (j1 : j ≤ 5) (q0 : 1 ≤ q) (q1 : q ≤ 4) (r0 : 0 ≤ rc) (r1 : rc ≤ 1) (bk : BOK Xi) {E : ET} (C : CX E (wM D ad cA) cX12_meanings 12 RX12 (some .int) { frames := 11, cells := 0, slots := 0, locals := 268 }) (hQ : EQ E (wM D ad cA) (fun r X1 => (∃ u : Int, r = some (.int (iI u)) ∧ inR u) ∧ HG vM X1 ∧ FR mdME Xi X1)) : ∀ (n : Nat) (i : Int) (X : XT), 16384 - i < n → 0 ≤ i → i ≤ 16384 → (HG vM X) → (FR mdME Xi X) → (2 ≤ X.1 0 22 ∧ X.1 0 22 ≤ 6) → (2 ≤ X.1 0 23 ∧ X.1 0 23 ≤ 6) → (0 ≤ X.1 12 j.toNat ∧ X.1 12 j.toNat ≤ 35) → (∀ t : Nat, (t : Int) < i → X.1 41 t = 0) → Wx E (wM D ad cA) 12 (PX (wM D ad cA) X) 28 [(5, .int (iI (i))), (0, .ref 0), (1, .int (iI (b))), (2, .int (iI (j))), (3, .int (iI (q))), (4, .int (iI (rc)))] [] := by
  intro n
  induction n with
  | zero => intro i X hn i0 i1 hH hF hw hh hs hz; exfalso; omega
  | succ n ih =>
    intro i X hn i0 i1 hH hF hw hh hs hz
    refine x_iload C dX12_meanings_28 rfl ?_
    refine x_sipush C dX12_meanings_30 (by decide) ?_
    refine x_icmp_ge (tgt := 50) C dX12_meanings_33 (by decide) ⟨by omega, by omega⟩ ⟨by omega, by omega⟩ (fun h1 => ?_) (fun h1 => ?_)
    · refine x_lconst C dX12_meanings_50 ?_
      refine x_eqL (b := 0) rfl ?_
      refine x_lstore (lv' := [(5, .long (0)), (0, .ref 0), (1, .int (iI (b))), (2, .int (iI (j))), (3, .int (iI (q))), (4, .int (iI (rc)))]) C dX12_meanings_51 (nlt rfl) rfl ?_
      refine x_iconst C dX12_meanings_53 ?_
      refine x_istore (lv' := [(7, .int (iI (0))), (5, .long (0)), (0, .ref 0), (1, .int (iI (b))), (2, .int (iI (j))), (3, .int (iI (q))), (4, .int (iI (rc)))]) C dX12_meanings_54 (nlt rfl) rfl ?_
      refine x_iconst C dX12_meanings_56 ?_
      refine x_istore (lv' := [(8, .int (iI (1))), (7, .int (iI (0))), (5, .long (0)), (0, .ref 0), (1, .int (iI (b))), (2, .int (iI (j))), (3, .int (iI (q))), (4, .int (iI (rc)))]) C dX12_meanings_57 (nlt rfl) rfl ?_
      have kz : knA X = 0 := by rw [knA_eq]; exact knM_z 16384 (fun t ht => hz t (by omega))
      refine Wx_pick [8, 7, 5, 0, 1, 2, 3, 4] ?_
      refine Wx_lv (lv' := [(8, .int (iI (1))), (7, .int (iI (0))), (5, .long (0)), (0, .ref 0), (1, .int (iI (b))), (2, .int (iI (j))), (3, .int (iI (q))), (4, .int (iI (rc)))]) rfl ?_
      exact lq_me2 j0 j1 q0 q1 r0 r1 bk C hQ 6 1 0 _ X (by omega) (by omega) (by omega) (by omega) (by omega) (by decide) hH hF hw hh hs (by rw [kz]; decide)
    · refine x_aload_n (i := 0) C dX12_meanings_36 rfl rfl ?_
      refine x_getRs (r := 41) C fkM_X12_133 (nlt rfl) rfl (HG.rR hH (k := 0) (i := 64) rfl rfl) dX12_meanings_37 ?_
      refine x_iload C dX12_meanings_40 rfl ?_
      refine x_iconst C dX12_meanings_42 ?_
      refine x_zast C (nlt rfl) rfl rfl (nle rfl) (by omega) (by omega) (by omega) dX12_meanings_43 ?_
      refine x_gX (fun Yy2 eYy2 => ?_)
      have hHy2 : HG vM Yy2 := by
        rw [eYy2]
        exact hg_wA hH (n := 16384) (p := (0, 1)) (by decide +kernel) (by omega) ⟨by omega, by omega⟩
      have hFy2 : FR mdME Xi Yy2 := by
        rw [eYy2]
        exact FR.upI hF (rfl)
      have hGy2 : FR [(41, none)] X Yy2 := by
        rw [eYy2]
        exact FR.upI FR.rf rfl
      have hwy2 : 2 ≤ Yy2.1 0 22 ∧ Yy2.1 0 22 ≤ 6 := by rw [(hGy2 0 22 rfl).1]; exact hw
      have hhy2 : 2 ≤ Yy2.1 0 23 ∧ Yy2.1 0 23 ≤ 6 := by rw [(hGy2 0 23 rfl).1]; exact hh
      have hsy2 : 0 ≤ Yy2.1 12 j.toNat ∧ Yy2.1 12 j.toNat ≤ 35 := by rw [(hGy2 12 _ rfl).1]; exact hs
      refine x_iinc (lv' := [(5, .int (iI (i + 1))), (0, .ref 0), (1, .int (iI (b))), (2, .int (iI (j))), (3, .int (iI (q))), (4, .int (iI (rc)))]) C dX12_meanings_44 rfl (nlt rfl) rfl ?_
      refine x_goto (tgt := 28) C dX12_meanings_47 (by decide) ?_
      refine Wx_pick [5, 0, 1, 2, 3, 4] ?_
      refine Wx_lv (lv' := [(5, .int (iI (i + 1))), (0, .ref 0), (1, .int (iI (b))), (2, .int (iI (j))), (3, .int (iI (q))), (4, .int (iI (rc)))]) rfl ?_
      refine ih _ _ (by omega) (by omega) (by omega) hHy2 hFy2 hwy2 hhy2 hsy2 (fun t ht => ?_)
      rw [eYy2]
      by_cases ej : t = i.toNat
      · subst ej
        rw [upI_at]
      · rw [upI_ne ej]
        exact hz t (by omega)
set_option maxHeartbeats 4000000 in
set_option maxRecDepth 100000 in
theorem q_meanings {D : va_G} {ad : Nat → Nat} {cA : Nat → ClassId} {Xi : XT} {b j q rc : Int} (bb : inR b) (jj : inR j) (qq : inR q) (r0 : 0 ≤ rc) (r1 : rc ≤ 1) (bk : BOK Xi) (hH : HG vM Xi) (hF : FR mdME Xi Xi) : MetX (wM D ad cA) yX12_meanings cX12_meanings 12 (some .int) 11 268 [.ref 0, .int (iI (b)), .int (iI (j)), .int (iI (q)), .int (iI (rc))] Xi (fun r X1 => (∃ u : Int, r = some (.int (iI u)) ∧ inR u) ∧ HG vM X1 ∧ FR mdME Xi X1) := by
  have qq1 := qq
  unfold inR at qq1
  refine MetX.mk (own := RX12) (by decide +kernel) rfl (nle rfl) (fun E C hQ => ?_)
  refine Wx_lv (lv' := [(0, .ref 0), (1, .int (iI (b))), (2, .int (iI (j))), (3, .int (iI (q))), (4, .int (iI (rc)))]) rfl ?_
  refine x_aload_n (i := 0) C dX12_meanings_0 rfl rfl ?_
  refine x_iconst C dX12_meanings_1 ?_
  refine x_putI C pkM_X12_157 (nlt rfl) rfl dX12_meanings_2 ?_
  refine x_gX (fun Yy1 eYy1 => ?_)
  have hHy1 : HG vM Yy1 := by
    rw [eYy1]
    exact hg_wF hH (p := ((-2147483648), 2147483647)) rfl ⟨by omega, by omega⟩
  have hFy1 : FR mdME Xi Yy1 := by
    rw [eYy1]
    exact FR.upI hF (rfl)
  refine x_iload_n (i := 3) C dX12_meanings_5 rfl rfl ?_
  refine x_iconst C dX12_meanings_6 ?_
  refine x_iconst C dX12_meanings_7 ?_
  refine x_callS (As := [.int (iI (q)), .int (iI (1)), .int (iI (4))]) C (by exact (q_in (v := q) (a := 1) (b := 4) ⟨by omega, by omega⟩ ⟨by omega, by omega⟩ ⟨by omega, by omega⟩)) ckX12_165 sm_X12_in rfl rfl (nle rfl) (by exact ⟨nle rfl, nle rfl⟩) dX12_meanings_8 ?_
  rintro _ Xv2 ⟨hxv2, v2, rfl, ev2⟩
  rw [hxv2]
  refine Wx_st (st' := [.int (iI (v2))]) rfl ?_
  refine x_if_eq (tgt := 23) C dX12_meanings_11 (by decide) ⟨by omega, by omega⟩ (fun h3 => ?_) (fun h3 => ?_)
  · refine x_iconst C dX12_meanings_23 ?_
    exact x_iret C hQ dX12_meanings_24 (⟨⟨_, rfl, by decide, by decide⟩, hHy1, hFy1⟩)
  · refine x_aload_n (i := 0) C dX12_meanings_14 rfl rfl ?_
    refine x_iload_n (i := 1) C dX12_meanings_15 rfl rfl ?_
    refine x_iload_n (i := 2) C dX12_meanings_16 rfl rfl ?_
    refine x_callV (As := [.int (iI (b)), .int (iI (j))]) C (by exact (em_isMan (b := b) (j := j) bb jj hHy1 (bok_fr bk hFy1 rfl))) ckX12_489 im_X12_isMan se_X12_isMan (nlt rfl) rfl rfl rfl rfl (nle rfl) (by exact ⟨nle rfl, nle rfl⟩) dX12_meanings_17 ?_
    rintro _ Yy4 ⟨v5, rfl, cm, hHy4, hGy4⟩
    have hFy4 : FR mdME Xi Yy4 := FR.tr hFy1 hGy4 (by decide +kernel)
    refine Wx_st (st' := [.int (iI (v5))]) rfl ?_
    refine x_if_ne (tgt := 25) C dX12_meanings_20 (by decide) ⟨by omega, by omega⟩ (fun h6 => ?_) (fun h6 => ?_)
    · refine x_iconst C dX12_meanings_25 ?_
      refine x_istore (lv' := [(5, .int (iI (0))), (0, .ref 0), (1, .int (iI (b))), (2, .int (iI (j))), (3, .int (iI (q))), (4, .int (iI (rc)))]) C dX12_meanings_26 (nlt rfl) rfl ?_
      have cm2 : 0 ≤ j ∧ j ≤ 5 ∧ (2 ≤ Yy4.1 0 22 ∧ Yy4.1 0 22 ≤ 6) ∧ (2 ≤ Yy4.1 0 23 ∧ Yy4.1 0 23 ≤ 6) ∧ 0 ≤ Yy4.1 12 j.toNat ∧ Yy4.1 12 j.toNat ≤ 35 := by omega
      refine Wx_pick [5, 0, 1, 2, 3, 4] ?_
      refine Wx_lv (lv' := [(5, .int (iI (0))), (0, .ref 0), (1, .int (iI (b))), (2, .int (iI (j))), (3, .int (iI (q))), (4, .int (iI (rc)))]) rfl ?_
      exact lq_me1 cm2.1 cm2.2.1 (by omega) (by omega) r0 r1 bk C hQ 16385 0 _ (by omega) (by omega) (by omega) hHy4 hFy4 cm2.2.2.1 cm2.2.2.2.1 cm2.2.2.2.2 (fun t ht => by omega)
    · refine x_iconst C dX12_meanings_23 ?_
      exact x_iret C hQ dX12_meanings_24 (⟨⟨_, rfl, by decide, by decide⟩, hHy4, hFy4⟩)
