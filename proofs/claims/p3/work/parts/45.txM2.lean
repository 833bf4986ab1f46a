/-! ===== the reference reads: NUMBERS, RULES ===== -/
theorem dX12_take_0 : decode cX12_take 0 = .ok (.aload_n 0, 1) := by decide +kernel
theorem dX12_take_1 : decode cX12_take 1 = .ok (.getfield 190, 3) := by decide +kernel
theorem dX12_take_4 : decode cX12_take 4 = .ok (.iconst 3, 1) := by decide +kernel
theorem dX12_take_5 : decode cX12_take 5 = .ok (.if_icmp .eq 8, 3) := by decide +kernel
theorem dX12_take_8 : decode cX12_take 8 = .ok (.aload_n 0, 1) := by decide +kernel
theorem dX12_take_9 : decode cX12_take 9 = .ok (.invokevirtual 205, 3) := by decide +kernel
theorem dX12_take_12 : decode cX12_take 12 = .ok (.ireturn, 1) := by decide +kernel
theorem dX12_take_13 : decode cX12_take 13 = .ok (.aload_n 0, 1) := by decide +kernel
theorem dX12_take_14 : decode cX12_take 14 = .ok (.aload_n 0, 1) := by decide +kernel
theorem dX12_take_15 : decode cX12_take 15 = .ok (.getfield 193, 3) := by decide +kernel
theorem dX12_take_18 : decode cX12_take 18 = .ok (.putfield 209, 3) := by decide +kernel
theorem dX12_take_21 : decode cX12_take 21 = .ok (.aload_n 0, 1) := by decide +kernel
theorem dX12_take_22 : decode cX12_take 22 = .ok (.getfield 193, 3) := by decide +kernel
theorem dX12_take_25 : decode cX12_take 25 = .ok (.iload_n 1, 1) := by decide +kernel
theorem dX12_take_26 : decode cX12_take 26 = .ok (.iload_n 2, 1) := by decide +kernel
theorem dX12_take_27 : decode cX12_take 27 = .ok (.invokestatic 165, 3) := by decide +kernel
theorem dX12_take_30 : decode cX12_take 30 = .ok (.ifCond .ne 12, 3) := by decide +kernel
theorem dX12_take_33 : decode cX12_take 33 = .ok (.aload_n 0, 1) := by decide +kernel
theorem dX12_take_34 : decode cX12_take 34 = .ok (.iconst 2, 1) := by decide +kernel
theorem dX12_take_35 : decode cX12_take 35 = .ok (.aload_n 0, 1) := by decide +kernel
theorem dX12_take_36 : decode cX12_take 36 = .ok (.getfield 183, 3) := by decide +kernel
theorem dX12_take_39 : decode cX12_take 39 = .ok (.invokevirtual 212, 3) := by decide +kernel
theorem dX12_take_42 : decode cX12_take 42 = .ok (.aload_n 0, 1) := by decide +kernel
theorem dX12_take_43 : decode cX12_take 43 = .ok (.invokevirtual 216, 3) := by decide +kernel
theorem dX12_take_46 : decode cX12_take 46 = .ok (.iconst 1, 1) := by decide +kernel
theorem dX12_take_47 : decode cX12_take 47 = .ok (.ireturn, 1) := by decide +kernel
theorem dX12_takeField_0 : decode cX12_takeField 0 = .ok (.aload_n 0, 1) := by decide +kernel
theorem dX12_takeField_1 : decode cX12_takeField 1 = .ok (.iconst 0, 1) := by decide +kernel
theorem dX12_takeField_2 : decode cX12_takeField 2 = .ok (.bipush 35, 2) := by decide +kernel
theorem dX12_takeField_4 : decode cX12_takeField 4 = .ok (.invokevirtual 219, 3) := by decide +kernel
theorem dX12_takeField_7 : decode cX12_takeField 7 = .ok (.istore_n 1, 1) := by decide +kernel
theorem dX12_takeField_8 : decode cX12_takeField 8 = .ok (.aload_n 0, 1) := by decide +kernel
theorem dX12_takeField_9 : decode cX12_takeField 9 = .ok (.iload_n 1, 1) := by decide +kernel
theorem dX12_takeField_10 : decode cX12_takeField 10 = .ok (.ifCond .eq 21, 3) := by decide +kernel
theorem dX12_takeField_13 : decode cX12_takeField 13 = .ok (.aload_n 0, 1) := by decide +kernel
theorem dX12_takeField_14 : decode cX12_takeField 14 = .ok (.getfield 209, 3) := by decide +kernel
theorem dX12_takeField_17 : decode cX12_takeField 17 = .ok (.aload_n 0, 1) := by decide +kernel
theorem dX12_takeField_18 : decode cX12_takeField 18 = .ok (.getfield 223, 3) := by decide +kernel
theorem dX12_takeField_21 : decode cX12_takeField 21 = .ok (.if_icmp .le 10, 3) := by decide +kernel
theorem dX12_takeField_24 : decode cX12_takeField 24 = .ok (.aload_n 0, 1) := by decide +kernel
theorem dX12_takeField_25 : decode cX12_takeField 25 = .ok (.getfield 209, 3) := by decide +kernel
theorem dX12_takeField_28 : decode cX12_takeField 28 = .ok (.goto 7, 3) := by decide +kernel
theorem dX12_takeField_31 : decode cX12_takeField 31 = .ok (.aload_n 0, 1) := by decide +kernel
theorem dX12_takeField_32 : decode cX12_takeField 32 = .ok (.getfield 223, 3) := by decide +kernel
theorem dX12_takeField_35 : decode cX12_takeField 35 = .ok (.putfield 223, 3) := by decide +kernel
theorem dX12_takeField_38 : decode cX12_takeField 38 = .ok (.iload_n 1, 1) := by decide +kernel
theorem dX12_takeField_39 : decode cX12_takeField 39 = .ok (.ireturn, 1) := by decide +kernel
theorem dX12_signOf_0 : decode cX12_signOf 0 = .ok (.iload_n 0, 1) := by decide +kernel
theorem dX12_signOf_1 : decode cX12_signOf 1 = .ok (.bipush 110, 2) := by decide +kernel
theorem dX12_signOf_3 : decode cX12_signOf 3 = .ok (.if_icmp .ne 7, 3) := by decide +kernel
theorem dX12_signOf_6 : decode cX12_signOf 6 = .ok (.iconst 0, 1) := by decide +kernel
theorem dX12_signOf_7 : decode cX12_signOf 7 = .ok (.goto 109, 3) := by decide +kernel
theorem dX12_signOf_10 : decode cX12_signOf 10 = .ok (.iload_n 0, 1) := by decide +kernel
theorem dX12_signOf_11 : decode cX12_signOf 11 = .ok (.bipush 101, 2) := by decide +kernel
theorem dX12_signOf_13 : decode cX12_signOf 13 = .ok (.if_icmp .ne 7, 3) := by decide +kernel
theorem dX12_signOf_16 : decode cX12_signOf 16 = .ok (.iconst 1, 1) := by decide +kernel
theorem dX12_signOf_17 : decode cX12_signOf 17 = .ok (.goto 99, 3) := by decide +kernel
theorem dX12_signOf_20 : decode cX12_signOf 20 = .ok (.iload_n 0, 1) := by decide +kernel
theorem dX12_signOf_21 : decode cX12_signOf 21 = .ok (.bipush 115, 2) := by decide +kernel
theorem dX12_signOf_23 : decode cX12_signOf 23 = .ok (.if_icmp .ne 7, 3) := by decide +kernel
theorem dX12_signOf_26 : decode cX12_signOf 26 = .ok (.iconst 2, 1) := by decide +kernel
theorem dX12_signOf_27 : decode cX12_signOf 27 = .ok (.goto 89, 3) := by decide +kernel
theorem dX12_signOf_30 : decode cX12_signOf 30 = .ok (.iload_n 0, 1) := by decide +kernel
theorem dX12_signOf_31 : decode cX12_signOf 31 = .ok (.bipush 119, 2) := by decide +kernel
theorem dX12_signOf_33 : decode cX12_signOf 33 = .ok (.if_icmp .ne 7, 3) := by decide +kernel
theorem dX12_signOf_36 : decode cX12_signOf 36 = .ok (.iconst 3, 1) := by decide +kernel
theorem dX12_signOf_37 : decode cX12_signOf 37 = .ok (.goto 79, 3) := by decide +kernel
theorem dX12_signOf_40 : decode cX12_signOf 40 = .ok (.iload_n 0, 1) := by decide +kernel
theorem dX12_signOf_41 : decode cX12_signOf 41 = .ok (.bipush 97, 2) := by decide +kernel
theorem dX12_signOf_43 : decode cX12_signOf 43 = .ok (.if_icmp .ne 7, 3) := by decide +kernel
theorem dX12_signOf_46 : decode cX12_signOf 46 = .ok (.iconst 4, 1) := by decide +kernel
theorem dX12_signOf_47 : decode cX12_signOf 47 = .ok (.goto 69, 3) := by decide +kernel
theorem dX12_signOf_50 : decode cX12_signOf 50 = .ok (.iload_n 0, 1) := by decide +kernel
theorem dX12_signOf_51 : decode cX12_signOf 51 = .ok (.bipush 116, 2) := by decide +kernel
theorem dX12_signOf_53 : decode cX12_signOf 53 = .ok (.if_icmp .ne 7, 3) := by decide +kernel
theorem dX12_signOf_56 : decode cX12_signOf 56 = .ok (.iconst 5, 1) := by decide +kernel
theorem dX12_signOf_57 : decode cX12_signOf 57 = .ok (.goto 59, 3) := by decide +kernel
theorem dX12_signOf_60 : decode cX12_signOf 60 = .ok (.iload_n 0, 1) := by decide +kernel
theorem dX12_signOf_61 : decode cX12_signOf 61 = .ok (.bipush 120, 2) := by decide +kernel
theorem dX12_signOf_63 : decode cX12_signOf 63 = .ok (.if_icmp .ne 8, 3) := by decide +kernel
theorem dX12_signOf_66 : decode cX12_signOf 66 = .ok (.bipush 6, 2) := by decide +kernel
theorem dX12_signOf_68 : decode cX12_signOf 68 = .ok (.goto 48, 3) := by decide +kernel
theorem dX12_signOf_71 : decode cX12_signOf 71 = .ok (.iload_n 0, 1) := by decide +kernel
theorem dX12_signOf_72 : decode cX12_signOf 72 = .ok (.bipush 117, 2) := by decide +kernel
theorem dX12_signOf_74 : decode cX12_signOf 74 = .ok (.if_icmp .ne 8, 3) := by decide +kernel
theorem dX12_signOf_77 : decode cX12_signOf 77 = .ok (.bipush 7, 2) := by decide +kernel
theorem dX12_signOf_79 : decode cX12_signOf 79 = .ok (.goto 37, 3) := by decide +kernel
theorem dX12_signOf_82 : decode cX12_signOf 82 = .ok (.iload_n 0, 1) := by decide +kernel
theorem dX12_signOf_83 : decode cX12_signOf 83 = .ok (.bipush 98, 2) := by decide +kernel
theorem dX12_signOf_85 : decode cX12_signOf 85 = .ok (.if_icmp .ne 8, 3) := by decide +kernel
theorem dX12_signOf_88 : decode cX12_signOf 88 = .ok (.bipush 8, 2) := by decide +kernel
theorem dX12_signOf_90 : decode cX12_signOf 90 = .ok (.goto 26, 3) := by decide +kernel
theorem dX12_signOf_93 : decode cX12_signOf 93 = .ok (.iload_n 0, 1) := by decide +kernel
theorem dX12_signOf_94 : decode cX12_signOf 94 = .ok (.bipush 103, 2) := by decide +kernel
theorem dX12_signOf_96 : decode cX12_signOf 96 = .ok (.if_icmp .ne 8, 3) := by decide +kernel
theorem dX12_signOf_99 : decode cX12_signOf 99 = .ok (.bipush 9, 2) := by decide +kernel
theorem dX12_signOf_101 : decode cX12_signOf 101 = .ok (.goto 15, 3) := by decide +kernel
theorem dX12_signOf_104 : decode cX12_signOf 104 = .ok (.iload_n 0, 1) := by decide +kernel
theorem dX12_signOf_105 : decode cX12_signOf 105 = .ok (.bipush 113, 2) := by decide +kernel
theorem dX12_signOf_107 : decode cX12_signOf 107 = .ok (.if_icmp .ne 8, 3) := by decide +kernel
theorem dX12_signOf_110 : decode cX12_signOf 110 = .ok (.bipush 10, 2) := by decide +kernel
theorem dX12_signOf_112 : decode cX12_signOf 112 = .ok (.goto 4, 3) := by decide +kernel
theorem dX12_signOf_115 : decode cX12_signOf 115 = .ok (.iconst (-1), 1) := by decide +kernel
theorem dX12_signOf_116 : decode cX12_signOf 116 = .ok (.ireturn, 1) := by decide +kernel
theorem dX12_takeRule_0 : decode cX12_takeRule 0 = .ok (.aload_n 0, 1) := by decide +kernel
theorem dX12_takeRule_1 : decode cX12_takeRule 1 = .ok (.getfield 173, 3) := by decide +kernel
theorem dX12_takeRule_4 : decode cX12_takeRule 4 = .ok (.aload_n 0, 1) := by decide +kernel
theorem dX12_takeRule_5 : decode cX12_takeRule 5 = .ok (.getfield 183, 3) := by decide +kernel
theorem dX12_takeRule_8 : decode cX12_takeRule 8 = .ok (.isub, 1) := by decide +kernel
theorem dX12_takeRule_9 : decode cX12_takeRule 9 = .ok (.istore_n 1, 1) := by decide +kernel
theorem dX12_takeRule_10 : decode cX12_takeRule 10 = .ok (.aload_n 0, 1) := by decide +kernel
theorem dX12_takeRule_11 : decode cX12_takeRule 11 = .ok (.getfield 190, 3) := by decide +kernel
theorem dX12_takeRule_14 : decode cX12_takeRule 14 = .ok (.iconst 2, 1) := by decide +kernel
theorem dX12_takeRule_15 : decode cX12_takeRule 15 = .ok (.if_icmp .ne 9, 3) := by decide +kernel
theorem dX12_takeRule_18 : decode cX12_takeRule 18 = .ok (.iload_n 1, 1) := by decide +kernel
theorem dX12_takeRule_19 : decode cX12_takeRule 19 = .ok (.bipush 9, 2) := by decide +kernel
theorem dX12_takeRule_21 : decode cX12_takeRule 21 = .ok (.if_icmp .le 8, 3) := by decide +kernel
theorem dX12_takeRule_24 : decode cX12_takeRule 24 = .ok (.aload_n 0, 1) := by decide +kernel
theorem dX12_takeRule_25 : decode cX12_takeRule 25 = .ok (.invokevirtual 205, 3) := by decide +kernel
theorem dX12_takeRule_28 : decode cX12_takeRule 28 = .ok (.ireturn, 1) := by decide +kernel
theorem dX12_takeRule_29 : decode cX12_takeRule 29 = .ok (.iconst 0, 1) := by decide +kernel
theorem dX12_takeRule_30 : decode cX12_takeRule 30 = .ok (.istore_n 2, 1) := by decide +kernel
theorem dX12_takeRule_31 : decode cX12_takeRule 31 = .ok (.aload_n 0, 1) := by decide +kernel
theorem dX12_takeRule_32 : decode cX12_takeRule 32 = .ok (.getfield 38, 3) := by decide +kernel
theorem dX12_takeRule_35 : decode cX12_takeRule 35 = .ok (.iconst 0, 1) := by decide +kernel
theorem dX12_takeRule_36 : decode cX12_takeRule 36 = .ok (.iload_n 1, 1) := by decide +kernel
theorem dX12_takeRule_37 : decode cX12_takeRule 37 = .ok (.iastore, 1) := by decide +kernel
theorem dX12_takeRule_38 : decode cX12_takeRule 38 = .ok (.iconst 0, 1) := by decide +kernel
theorem dX12_takeRule_39 : decode cX12_takeRule 39 = .ok (.istore_n 3, 1) := by decide +kernel
theorem dX12_takeRule_40 : decode cX12_takeRule 40 = .ok (.iload_n 3, 1) := by decide +kernel
theorem dX12_takeRule_41 : decode cX12_takeRule 41 = .ok (.iload_n 1, 1) := by decide +kernel
theorem dX12_takeRule_42 : decode cX12_takeRule 42 = .ok (.if_icmp .ge 66, 3) := by decide +kernel
theorem dX12_takeRule_45 : decode cX12_takeRule 45 = .ok (.aload_n 0, 1) := by decide +kernel
theorem dX12_takeRule_46 : decode cX12_takeRule 46 = .ok (.getfield 7, 3) := by decide +kernel
theorem dX12_takeRule_49 : decode cX12_takeRule 49 = .ok (.aload_n 0, 1) := by decide +kernel
theorem dX12_takeRule_50 : decode cX12_takeRule 50 = .ok (.getfield 183, 3) := by decide +kernel
theorem dX12_takeRule_53 : decode cX12_takeRule 53 = .ok (.iload_n 3, 1) := by decide +kernel
theorem dX12_takeRule_54 : decode cX12_takeRule 54 = .ok (.iadd, 1) := by decide +kernel
theorem dX12_takeRule_55 : decode cX12_takeRule 55 = .ok (.baload, 1) := by decide +kernel
theorem dX12_takeRule_56 : decode cX12_takeRule 56 = .ok (.invokestatic 226, 3) := by decide +kernel
theorem dX12_takeRule_59 : decode cX12_takeRule 59 = .ok (.istore 4, 2) := by decide +kernel
theorem dX12_takeRule_61 : decode cX12_takeRule 61 = .ok (.iload_n 2, 1) := by decide +kernel
theorem dX12_takeRule_62 : decode cX12_takeRule 62 = .ok (.iload 4, 2) := by decide +kernel
theorem dX12_takeRule_64 : decode cX12_takeRule 64 = .ok (.bipush 10, 2) := by decide +kernel
theorem dX12_takeRule_66 : decode cX12_takeRule 66 = .ok (.if_icmp .ne 7, 3) := by decide +kernel
theorem dX12_takeRule_69 : decode cX12_takeRule 69 = .ok (.iconst 1, 1) := by decide +kernel
theorem dX12_takeRule_70 : decode cX12_takeRule 70 = .ok (.goto 4, 3) := by decide +kernel
theorem dX12_takeRule_73 : decode cX12_takeRule 73 = .ok (.iconst 0, 1) := by decide +kernel
theorem dX12_takeRule_74 : decode cX12_takeRule 74 = .ok (.iadd, 1) := by decide +kernel
theorem dX12_takeRule_75 : decode cX12_takeRule 75 = .ok (.istore_n 2, 1) := by decide +kernel
theorem dX12_takeRule_76 : decode cX12_takeRule 76 = .ok (.iload 4, 2) := by decide +kernel
theorem dX12_takeRule_78 : decode cX12_takeRule 78 = .ok (.iconst (-1), 1) := by decide +kernel
theorem dX12_takeRule_79 : decode cX12_takeRule 79 = .ok (.if_icmp .eq 8, 3) := by decide +kernel
theorem dX12_takeRule_82 : decode cX12_takeRule 82 = .ok (.iload_n 2, 1) := by decide +kernel
theorem dX12_takeRule_83 : decode cX12_takeRule 83 = .ok (.iconst 1, 1) := by decide +kernel
theorem dX12_takeRule_84 : decode cX12_takeRule 84 = .ok (.if_icmp .le 8, 3) := by decide +kernel
theorem dX12_takeRule_87 : decode cX12_takeRule 87 = .ok (.aload_n 0, 1) := by decide +kernel
theorem dX12_takeRule_88 : decode cX12_takeRule 88 = .ok (.invokevirtual 205, 3) := by decide +kernel
theorem dX12_takeRule_91 : decode cX12_takeRule 91 = .ok (.ireturn, 1) := by decide +kernel
theorem dX12_takeRule_92 : decode cX12_takeRule 92 = .ok (.aload_n 0, 1) := by decide +kernel
theorem dX12_takeRule_93 : decode cX12_takeRule 93 = .ok (.getfield 38, 3) := by decide +kernel
theorem dX12_takeRule_96 : decode cX12_takeRule 96 = .ok (.iconst 1, 1) := by decide +kernel
theorem dX12_takeRule_97 : decode cX12_takeRule 97 = .ok (.iload_n 3, 1) := by decide +kernel
theorem dX12_takeRule_98 : decode cX12_takeRule 98 = .ok (.iadd, 1) := by decide +kernel
theorem dX12_takeRule_99 : decode cX12_takeRule 99 = .ok (.iload 4, 2) := by decide +kernel
theorem dX12_takeRule_101 : decode cX12_takeRule 101 = .ok (.iastore, 1) := by decide +kernel
theorem dX12_takeRule_102 : decode cX12_takeRule 102 = .ok (.iinc 3 1, 3) := by decide +kernel
theorem dX12_takeRule_105 : decode cX12_takeRule 105 = .ok (.goto (-65), 3) := by decide +kernel
theorem dX12_takeRule_108 : decode cX12_takeRule 108 = .ok (.aload_n 0, 1) := by decide +kernel
theorem dX12_takeRule_109 : decode cX12_takeRule 109 = .ok (.invokevirtual 216, 3) := by decide +kernel
theorem dX12_takeRule_112 : decode cX12_takeRule 112 = .ok (.iconst 1, 1) := by decide +kernel
theorem dX12_takeRule_113 : decode cX12_takeRule 113 = .ok (.ireturn, 1) := by decide +kernel

set_option maxHeartbeats 4000000 in
set_option maxRecDepth 100000 in
theorem r_take {D : va_G} {ad : Nat → Nat} {cA : Nat → ClassId} {X0 : XT} {b : Nat → Int} {N : Nat} (hT0 : TPM b N X0) (hH : HG vM X0) {s : Nat} {F : Int × Int} {lo hi : Int} (l0 : 0 ≤ lo) (l1 : lo ≤ 2) (i0 : 0 ≤ hi) (i1 : hi ≤ 35) (hF : FR mmTK X0 X0) (hK : TKM b N s X0) (hL : FLM F X0) (hO : FO F s) : MetX (wM D ad cA) yX12_take cX12_take 3 (some .boolean) 2 44 [.ref 0, .int (iI (lo)), .int (iI (hi))] X0 (fun r X1 => ∃ u : Int, r = some (.int (iI u)) ∧ HG vM X1 ∧ FR mmTK X0 X1 ∧ TKM b N (tnS b N s) X1 ∧ FLM (tnF b N lo hi s F) X1 ∧ ((u = 1 ∧ tK b N s = 2 ∧ X1.1 0 20 = tnV b N s) ∨ (u = 0 ∧ tK b N s ≠ 2 ∧ X1.1 0 15 = (s : Int)))) := by
  have kb := hK.1
  have ks := hK.2.1
  have kr := hK.2.2.1
  have sN := hK.2.2.2.2.2.1
  have k1 := hK.2.2.2.2.2.2
  have k5 := (tK_bd b N s).2
  have n6 := hT0.2.1
  have k3 := sK_3 k1 k5
  refine MetX.mk (own := RX12) (by decide +kernel) rfl (nle rfl) (fun E C hQ => ?_)
  refine Wx_lv (lv' := [(0, .ref 0), (1, .int (iI (lo))), (2, .int (iI (hi)))]) rfl ?_
  refine x_aload_n (i := 0) C dX12_take_0 rfl rfl ?_
  refine x_getI C fkM_X12_190 (nlt rfl) rfl dX12_take_1 ?_
  refine x_gen (fun v1 ev1 => ?_)
  have qv1 : ((-2147483648) : Int) ≤ v1 ∧ v1 ≤ (2147483647 : Int) := by
    rw [ev1]
    exact hH.rF (k := 0) (i := 12) rfl rfl
  refine x_iconst C dX12_take_4 ?_
  refine x_icmp_eq (tgt := 13) C dX12_take_5 (by decide) ⟨by omega, by omega⟩ ⟨by omega, by omega⟩ (fun h2 => ?_) (fun h2 => ?_)
  · have k2 : tK b N s = 2 := k3.mp (by omega)
    have tv := tV_bd k2 sN
    refine x_aload_n (i := 0) C dX12_take_13 rfl rfl ?_
    refine x_aload_n (i := 0) C dX12_take_14 rfl rfl ?_
    refine x_getI C fkM_X12_193 (nlt rfl) rfl dX12_take_15 ?_
    refine x_gen (fun v3 ev3 => ?_)
    have qv3 : ((-2147483648) : Int) ≤ v3 ∧ v3 ≤ (2147483647 : Int) := by
      rw [ev3]
      exact hH.rF (k := 0) (i := 13) rfl rfl
    have zvv3 : v3 = tV b N s := by rw [ev3]; exact hK.2.2.2.1 k2
    refine x_putI C pkM_X12_209 (nlt rfl) rfl dX12_take_18 ?_
    refine x_gX (fun Yy4 eYy4 => ?_)
    have hHy4 : HG vM Yy4 := by
      rw [eYy4]
      exact hg_wF hH (p := ((-2147483648), 2147483647)) rfl ⟨by omega, by omega⟩
    have hFy4 : FR mmTK X0 Yy4 := by
      rw [eYy4]
      exact FR.upI hF (rfl)
    have hGy4 : FR [(0, some 20)] X0 Yy4 := by
      rw [eYy4]
      exact FR.upI FR.rf rfl
    have hKy4 := hK.fr hGy4 rfl
    have hLy4 := hL.fr hGy4 rfl
    refine x_aload_n (i := 0) C dX12_take_21 rfl rfl ?_
    refine x_getI C fkM_X12_193 (nlt rfl) rfl dX12_take_22 ?_
    refine x_gen (fun v5 ev5 => ?_)
    have qv5 : ((-2147483648) : Int) ≤ v5 ∧ v5 ≤ (2147483647 : Int) := by
      rw [ev5]
      exact hHy4.rF (k := 0) (i := 13) rfl rfl
    have kv5 : v5 = X0.1 0 13 := by rw [ev5, eYy4, upI_ne (by decide)]
    have zvv5 : v5 = tV b N s := by rw [ev5, eYy4, upI_ne (by decide)]; exact hK.2.2.2.1 k2
    refine x_iload_n (i := 1) C dX12_take_25 rfl rfl ?_
    refine x_iload_n (i := 2) C dX12_take_26 rfl rfl ?_
    refine x_callS (As := [.int (iI (v5)), .int (iI (lo)), .int (iI (hi))]) C (by exact (q_in (v := v5) (a := lo) (b := hi) ⟨by omega, by omega⟩ ⟨by omega, by omega⟩ ⟨by omega, by omega⟩)) ckX12_165 sm_X12_in rfl rfl (nle rfl) (by exact ⟨nle rfl, nle rfl⟩) dX12_take_27 ?_
    rintro _ Xv6 ⟨hxv6, v6, rfl, ev6⟩
    rw [hxv6]
    refine Wx_st (st' := [.int (iI (v6))]) rfl ?_
    refine x_if_ne (tgt := 42) C dX12_take_30 (by decide) ⟨by omega, by omega⟩ (fun h7 => ?_) (fun h7 => ?_)
    · refine x_aload_n (i := 0) C dX12_take_42 rfl rfl ?_
      refine x_callV (As := []) C (by exact (r_tok (s := s) (hT0.fr hFy4 rfl) hHy4 hKy4 FR.rf)) ckX12_216 im_X12_token se_X12_token (nlt rfl) rfl rfl rfl rfl (nle rfl) (by exact ⟨nle rfl, nle rfl⟩) dX12_take_43 ?_
      rintro _ Yy8 ⟨rfl, hHy8, hGy8, hKy8⟩
      have hFy8 : FR mmTK X0 Yy8 := FR.tr hFy4 hGy8 (by decide)
      have hLy8 := hLy4.fr hGy8 rfl
      have sny8 := nx_bd b N s hKy4.2.2.2.2.2.1
      refine Wx_st (st' := []) rfl ?_
      refine x_iconst C dX12_take_46 ?_
      exact x_zret C hQ (by omega) dX12_take_47 (⟨_, rfl, hHy8, hFy8, by unfold tnS; rw [if_pos k2]; exact hKy8, by unfold tnF; rw [if_pos k2, if_neg (by omega)]; exact hLy8, .inl ⟨rfl, k2, by rw [(hGy8 0 20 rfl).1, eYy4, upI_at]; unfold tnV; rw [if_pos k2]; omega⟩⟩)
    · refine x_aload_n (i := 0) C dX12_take_33 rfl rfl ?_
      refine x_iconst C dX12_take_34 ?_
      refine x_aload_n (i := 0) C dX12_take_35 rfl rfl ?_
      refine x_getI C fkM_X12_183 (nlt rfl) rfl dX12_take_36 ?_
      refine x_gen (fun v9 ev9 => ?_)
      have qv9 : ((-2147483648) : Int) ≤ v9 ∧ v9 ≤ (2147483647 : Int) := by
        rw [ev9]
        exact hHy4.rF (k := 0) (i := 11) rfl rfl
      have kv9 : v9 = X0.1 0 11 := by rw [ev9, eYy4, upI_ne (by decide)]
      refine x_callV (As := [.int (iI (2)), .int (iI (v9))]) C (by exact (r_later (F := F) (f := 2) (p := v9) (by omega) (by omega) ⟨by omega, by omega⟩ (fun g => by have := hO g; omega) hHy4 FR.rf hLy4)) ckX12_212 im_X12_later se_X12_later (nlt rfl) rfl rfl rfl rfl (nle rfl) (by exact ⟨nle rfl, nle rfl⟩) dX12_take_39 ?_
      rintro _ Yy10 ⟨rfl, hHy10, hGy10, hLy10⟩
      have hFy10 : FR mmTK X0 Yy10 := FR.tr hFy4 hGy10 (by decide)
      have hKy10 := hKy4.fr hGy10 rfl
      rw [show v9 = ((s : Nat) : Int) by omega] at hLy10
      refine Wx_st (st' := []) rfl ?_
      refine x_aload_n (i := 0) C dX12_take_42 rfl rfl ?_
      refine x_callV (As := []) C (by exact (r_tok (s := s) (hT0.fr hFy10 rfl) hHy10 hKy10 FR.rf)) ckX12_216 im_X12_token se_X12_token (nlt rfl) rfl rfl rfl rfl (nle rfl) (by exact ⟨nle rfl, nle rfl⟩) dX12_take_43 ?_
      rintro _ Yy11 ⟨rfl, hHy11, hGy11, hKy11⟩
      have hFy11 : FR mmTK X0 Yy11 := FR.tr hFy10 hGy11 (by decide)
      have hLy11 := hLy10.fr hGy11 rfl
      have sny11 := nx_bd b N s hKy10.2.2.2.2.2.1
      refine Wx_st (st' := []) rfl ?_
      refine x_iconst C dX12_take_46 ?_
      exact x_zret C hQ (by omega) dX12_take_47 (⟨_, rfl, hHy11, hFy11, by unfold tnS; rw [if_pos k2]; exact hKy11, by unfold tnF; rw [if_pos k2, if_pos (by omega)]; exact hLy11, .inl ⟨rfl, k2, by rw [(hGy11 0 20 rfl).1, (hGy10 0 20 rfl).1, eYy4, upI_at]; unfold tnV; rw [if_pos k2]; omega⟩⟩)
  · have k2 : ¬ tK b N s = 2 := fun g => by have := k3.mpr g; omega
    refine x_aload_n (i := 0) C dX12_take_8 rfl rfl ?_
    refine x_callV (As := []) C (by exact (r_stops (s := s) hH FR.rf hK)) ckX12_205 im_X12_stops se_X12_stops (nlt rfl) rfl rfl rfl rfl (nle rfl) (by exact ⟨nle rfl, nle rfl⟩) dX12_take_9 ?_
    rintro _ Yy12 ⟨v13, rfl, zv13, hHy12, hGy12, wa, hKy12⟩
    have hFy12 : FR mmTK X0 Yy12 := FR.tr hF hGy12 (by decide)
    have hLy12 := hL.fr hGy12 rfl
    refine Wx_st (st' := [.int (iI (v13))]) rfl ?_
    exact x_zret C hQ (by omega) dX12_take_12 (⟨_, rfl, hHy12, hFy12, by unfold tnS; rw [if_neg k2]; exact hKy12, by unfold tnF; rw [if_neg k2]; exact hLy12, .inr ⟨zv13, k2, wa⟩⟩)
set_option maxHeartbeats 4000000 in
set_option maxRecDepth 100000 in
theorem r_takeField {D : va_G} {ad : Nat → Nat} {cA : Nat → ClassId} {X0 : XT} {b : Nat → Int} {N : Nat} (hT0 : TPM b N X0) (hH : HG vM X0) {s : Nat} {F : Int × Int} (hF : FR mmTF X0 X0) (hK : TKM b N s X0) (hL : FLM F X0) (hO : FO F s) (g0 : -1 ≤ X0.1 0 21) : MetX (wM D ad cA) yX12_takeField cX12_takeField 2 (some .boolean) 3 66 [.ref 0] X0 (fun r X1 => ∃ u : Int, r = some (.int (iI u)) ∧ HG vM X1 ∧ FR mmTF X0 X1 ∧ TKM b N (tnS b N s) X1 ∧ FLM (tnF b N 0 35 s F) X1 ∧ X1.1 0 21 = gtm (X0.1 0 21) (tnV b N s) ∧ ((u = 1 ∧ tK b N s = 2 ∧ X1.1 0 20 = tnV b N s) ∨ (u = 0 ∧ tK b N s ≠ 2 ∧ X1.1 0 15 = (s : Int)))) := by
  have kb := hK.1
  have ks := hK.2.1
  have kr := hK.2.2.1
  have sN := hK.2.2.2.2.2.1
  have k1 := hK.2.2.2.2.2.2
  have k5 := (tK_bd b N s).2
  have n6 := hT0.2.1
  refine MetX.mk (own := RX12) (by decide +kernel) rfl (nle rfl) (fun E C hQ => ?_)
  refine Wx_lv (lv' := [(0, .ref 0)]) rfl ?_
  refine x_aload_n (i := 0) C dX12_takeField_0 rfl rfl ?_
  refine x_iconst C dX12_takeField_1 ?_
  refine x_bipush C dX12_takeField_2 (by decide) ?_
  refine x_callV (As := [.int (iI (0)), .int (iI (35))]) C (by exact (r_take (s := s) (F := F) (lo := 0) (hi := 35) (hT0.fr hF rfl) hH (by omega) (by omega) (by omega) (by omega) FR.rf hK hL hO)) ckX12_219 im_X12_take se_X12_take (nlt rfl) rfl rfl rfl rfl (nle rfl) (by exact ⟨nle rfl, nle rfl⟩) dX12_takeField_4 ?_
  rintro _ Yy1 ⟨v2, rfl, hHy1, hGy1, hKy1, hLy1, tkv2⟩
  have hFy1 : FR mmTF X0 Yy1 := FR.tr hF hGy1 (by decide)
  have hOy1 := hO.tn (b := b) (lo := 0) (hi := 35) hK.2.2.2.2.2.1
  have sby1 := tnS_bd b N s hK.2.2.2.2.2.1
  refine Wx_st (st' := [.int (iI (v2))]) rfl ?_
  refine x_istore_n (i := 1) (lv' := [(1, .int (iI (v2))), (0, .ref 0)]) C dX12_takeField_7 rfl (nlt rfl) rfl ?_
  refine x_aload_n (i := 0) C dX12_takeField_8 rfl rfl ?_
  refine x_iload_n (i := 1) C dX12_takeField_9 rfl rfl ?_
  refine x_if_eq (tgt := 31) C dX12_takeField_10 (by decide) ⟨by omega, by omega⟩ (fun h3 => ?_) (fun h3 => ?_)
  · have tn : tnV b N s = -1 := by unfold tnV; rw [if_neg (tkv2.elim (fun g => by exfalso; have := g.1; omega) (fun g => g.2.1))]
    refine x_aload_n (i := 0) C dX12_takeField_31 rfl rfl ?_
    refine x_getI C fkM_X12_223 (nlt rfl) rfl dX12_takeField_32 ?_
    refine x_gen (fun v4 ev4 => ?_)
    have qv4 : ((-2147483648) : Int) ≤ v4 ∧ v4 ≤ (2147483647 : Int) := by
      rw [ev4]
      exact hHy1.rF (k := 0) (i := 21) rfl rfl
    have kv4 : v4 = X0.1 0 21 := by rw [ev4, (hGy1 0 21 rfl).1]
    refine x_putI C pkM_X12_223 (nlt rfl) rfl dX12_takeField_35 ?_
    refine x_gX (fun Yy5 eYy5 => ?_)
    have hHy5 : HG vM Yy5 := by
      rw [eYy5]
      exact hg_wF hHy1 (p := ((-2147483648), 2147483647)) rfl ⟨by omega, by omega⟩
    have hFy5 : FR mmTF X0 Yy5 := by
      rw [eYy5]
      exact FR.upI hFy1 (rfl)
    have hGy5 : FR [(0, some 21)] Yy1 Yy5 := by
      rw [eYy5]
      exact FR.upI FR.rf rfl
    have hKy5 := hKy1.fr hGy5 rfl
    have hLy5 := hLy1.fr hGy5 rfl
    refine x_iload_n (i := 1) C dX12_takeField_38 rfl rfl ?_
    exact x_zret C hQ (by omega) dX12_takeField_39 (⟨_, rfl, hHy5, hFy5, hKy5, hLy5, by rw [eYy5, upI_at]; unfold gtm; split <;> omega, tkv2.elim (fun g => .inl ⟨g.1, g.2.1, by rw [eYy5, upI_ne (by decide)]; exact g.2.2⟩) (fun g => .inr ⟨g.1, g.2.1, by rw [eYy5, upI_ne (by decide)]; exact g.2.2⟩)⟩)
  · have tr2 : Yy1.1 0 20 = tnV b N s := tkv2.elim (fun g => g.2.2) (fun g => by exfalso; have := g.1; omega)
    have tb2 : -1 ≤ tnV b N s := by
      unfold tnV
      split
      · rename_i k2
        have := tV_bd k2 sN
        omega
      · omega
    refine x_aload_n (i := 0) C dX12_takeField_13 rfl rfl ?_
    refine x_getI C fkM_X12_209 (nlt rfl) rfl dX12_takeField_14 ?_
    refine x_gen (fun v6 ev6 => ?_)
    have qv6 : ((-2147483648) : Int) ≤ v6 ∧ v6 ≤ (2147483647 : Int) := by
      rw [ev6]
      exact hHy1.rF (k := 0) (i := 20) rfl rfl
    refine x_aload_n (i := 0) C dX12_takeField_17 rfl rfl ?_
    refine x_getI C fkM_X12_223 (nlt rfl) rfl dX12_takeField_18 ?_
    refine x_gen (fun v7 ev7 => ?_)
    have qv7 : ((-2147483648) : Int) ≤ v7 ∧ v7 ≤ (2147483647 : Int) := by
      rw [ev7]
      exact hHy1.rF (k := 0) (i := 21) rfl rfl
    have kv7 : v7 = X0.1 0 21 := by rw [ev7, (hGy1 0 21 rfl).1]
    refine x_icmp_le (tgt := 31) C dX12_takeField_21 (by decide) ⟨by omega, by omega⟩ ⟨by omega, by omega⟩ (fun h8 => ?_) (fun h8 => ?_)
    · refine x_aload_n (i := 0) C dX12_takeField_31 rfl rfl ?_
      refine x_getI C fkM_X12_223 (nlt rfl) rfl dX12_takeField_32 ?_
      refine x_gen (fun v9 ev9 => ?_)
      have qv9 : ((-2147483648) : Int) ≤ v9 ∧ v9 ≤ (2147483647 : Int) := by
        rw [ev9]
        exact hHy1.rF (k := 0) (i := 21) rfl rfl
      have kv9 : v9 = X0.1 0 21 := by rw [ev9, (hGy1 0 21 rfl).1]
      refine x_putI C pkM_X12_223 (nlt rfl) rfl dX12_takeField_35 ?_
      refine x_gX (fun Yy10 eYy10 => ?_)
      have hHy10 : HG vM Yy10 := by
        rw [eYy10]
        exact hg_wF hHy1 (p := ((-2147483648), 2147483647)) rfl ⟨by omega, by omega⟩
      have hFy10 : FR mmTF X0 Yy10 := by
        rw [eYy10]
        exact FR.upI hFy1 (rfl)
      have hGy10 : FR [(0, some 21)] Yy1 Yy10 := by
        rw [eYy10]
        exact FR.upI FR.rf rfl
      have hKy10 := hKy1.fr hGy10 rfl
      have hLy10 := hLy1.fr hGy10 rfl
      refine x_iload_n (i := 1) C dX12_takeField_38 rfl rfl ?_
      exact x_zret C hQ (by omega) dX12_takeField_39 (⟨_, rfl, hHy10, hFy10, hKy10, hLy10, by rw [eYy10, upI_at]; unfold gtm; split <;> omega, tkv2.elim (fun g => .inl ⟨g.1, g.2.1, by rw [eYy10, upI_ne (by decide)]; exact g.2.2⟩) (fun g => .inr ⟨g.1, g.2.1, by rw [eYy10, upI_ne (by decide)]; exact g.2.2⟩)⟩)
    · refine x_aload_n (i := 0) C dX12_takeField_24 rfl rfl ?_
      refine x_getI C fkM_X12_209 (nlt rfl) rfl dX12_takeField_25 ?_
      refine x_gen (fun v11 ev11 => ?_)
      have qv11 : ((-2147483648) : Int) ≤ v11 ∧ v11 ≤ (2147483647 : Int) := by
        rw [ev11]
        exact hHy1.rF (k := 0) (i := 20) rfl rfl
      refine x_goto (tgt := 35) C dX12_takeField_28 (by decide) ?_
      refine x_putI C pkM_X12_223 (nlt rfl) rfl dX12_takeField_35 ?_
      refine x_gX (fun Yy12 eYy12 => ?_)
      have hHy12 : HG vM Yy12 := by
        rw [eYy12]
        exact hg_wF hHy1 (p := ((-2147483648), 2147483647)) rfl ⟨by omega, by omega⟩
      have hFy12 : FR mmTF X0 Yy12 := by
        rw [eYy12]
        exact FR.upI hFy1 (rfl)
      have hGy12 : FR [(0, some 21)] Yy1 Yy12 := by
        rw [eYy12]
        exact FR.upI FR.rf rfl
      have hKy12 := hKy1.fr hGy12 rfl
      have hLy12 := hLy1.fr hGy12 rfl
      refine x_iload_n (i := 1) C dX12_takeField_38 rfl rfl ?_
      exact x_zret C hQ (by omega) dX12_takeField_39 (⟨_, rfl, hHy12, hFy12, hKy12, hLy12, by rw [eYy12, upI_at]; unfold gtm; split <;> omega, tkv2.elim (fun g => .inl ⟨g.1, g.2.1, by rw [eYy12, upI_ne (by decide)]; exact g.2.2⟩) (fun g => .inr ⟨g.1, g.2.1, by rw [eYy12, upI_ne (by decide)]; exact g.2.2⟩)⟩)
set_option maxHeartbeats 4000000 in
set_option maxRecDepth 100000 in
theorem r_signOf {D : va_G} {ad : Nat → Nat} {cA : Nat → ClassId} {X : XT} {c : Int} (cc : inR c) : MetX (wM D ad cA) yX12_signOf cX12_signOf 1 (some .int) 0 0 [.int (iI (c))] X (fun r X' => X' = X ∧ ∃ u : Int, r = some (.int (iI u)) ∧ u = sgF c) := by
  unfold inR at cc
  refine MetX.mk (own := RX12) (by decide +kernel) rfl (nle rfl) (fun E C hQ => ?_)
  refine Wx_lv (lv' := [(0, .int (iI (c)))]) rfl ?_
  refine x_iload_n (i := 0) C dX12_signOf_0 rfl rfl ?_
  refine x_bipush C dX12_signOf_1 (by decide) ?_
  refine x_icmp_ne (tgt := 10) C dX12_signOf_3 (by decide) ⟨by omega, by omega⟩ ⟨by omega, by omega⟩ (fun h1 => ?_) (fun h1 => ?_)
  · refine x_iload_n (i := 0) C dX12_signOf_10 rfl rfl ?_
    refine x_bipush C dX12_signOf_11 (by decide) ?_
    refine x_icmp_ne (tgt := 20) C dX12_signOf_13 (by decide) ⟨by omega, by omega⟩ ⟨by omega, by omega⟩ (fun h2 => ?_) (fun h2 => ?_)
    · refine x_iload_n (i := 0) C dX12_signOf_20 rfl rfl ?_
      refine x_bipush C dX12_signOf_21 (by decide) ?_
      refine x_icmp_ne (tgt := 30) C dX12_signOf_23 (by decide) ⟨by omega, by omega⟩ ⟨by omega, by omega⟩ (fun h3 => ?_) (fun h3 => ?_)
      · refine x_iload_n (i := 0) C dX12_signOf_30 rfl rfl ?_
        refine x_bipush C dX12_signOf_31 (by decide) ?_
        refine x_icmp_ne (tgt := 40) C dX12_signOf_33 (by decide) ⟨by omega, by omega⟩ ⟨by omega, by omega⟩ (fun h4 => ?_) (fun h4 => ?_)
        · refine x_iload_n (i := 0) C dX12_signOf_40 rfl rfl ?_
          refine x_bipush C dX12_signOf_41 (by decide) ?_
          refine x_icmp_ne (tgt := 50) C dX12_signOf_43 (by decide) ⟨by omega, by omega⟩ ⟨by omega, by omega⟩ (fun h5 => ?_) (fun h5 => ?_)
          · refine x_iload_n (i := 0) C dX12_signOf_50 rfl rfl ?_
            refine x_bipush C dX12_signOf_51 (by decide) ?_
            refine x_icmp_ne (tgt := 60) C dX12_signOf_53 (by decide) ⟨by omega, by omega⟩ ⟨by omega, by omega⟩ (fun h6 => ?_) (fun h6 => ?_)
            · refine x_iload_n (i := 0) C dX12_signOf_60 rfl rfl ?_
              refine x_bipush C dX12_signOf_61 (by decide) ?_
              refine x_icmp_ne (tgt := 71) C dX12_signOf_63 (by decide) ⟨by omega, by omega⟩ ⟨by omega, by omega⟩ (fun h7 => ?_) (fun h7 => ?_)
              · refine x_iload_n (i := 0) C dX12_signOf_71 rfl rfl ?_
                refine x_bipush C dX12_signOf_72 (by decide) ?_
                refine x_icmp_ne (tgt := 82) C dX12_signOf_74 (by decide) ⟨by omega, by omega⟩ ⟨by omega, by omega⟩ (fun h8 => ?_) (fun h8 => ?_)
                · refine x_iload_n (i := 0) C dX12_signOf_82 rfl rfl ?_
                  refine x_bipush C dX12_signOf_83 (by decide) ?_
                  refine x_icmp_ne (tgt := 93) C dX12_signOf_85 (by decide) ⟨by omega, by omega⟩ ⟨by omega, by omega⟩ (fun h9 => ?_) (fun h9 => ?_)
                  · refine x_iload_n (i := 0) C dX12_signOf_93 rfl rfl ?_
                    refine x_bipush C dX12_signOf_94 (by decide) ?_
                    refine x_icmp_ne (tgt := 104) C dX12_signOf_96 (by decide) ⟨by omega, by omega⟩ ⟨by omega, by omega⟩ (fun h10 => ?_) (fun h10 => ?_)
                    · refine x_iload_n (i := 0) C dX12_signOf_104 rfl rfl ?_
                      refine x_bipush C dX12_signOf_105 (by decide) ?_
                      refine x_icmp_ne (tgt := 115) C dX12_signOf_107 (by decide) ⟨by omega, by omega⟩ ⟨by omega, by omega⟩ (fun h11 => ?_) (fun h11 => ?_)
                      · refine x_iconst C dX12_signOf_115 ?_
                        exact x_iret C hQ dX12_signOf_116 (⟨rfl, _, rfl, by unfold sgF; (repeat' split) <;> omega⟩)
                      · refine x_bipush C dX12_signOf_110 (by decide) ?_
                        refine x_goto (tgt := 116) C dX12_signOf_112 (by decide) ?_
                        exact x_iret C hQ dX12_signOf_116 (⟨rfl, _, rfl, by unfold sgF; (repeat' split) <;> omega⟩)
                    · refine x_bipush C dX12_signOf_99 (by decide) ?_
                      refine x_goto (tgt := 116) C dX12_signOf_101 (by decide) ?_
                      exact x_iret C hQ dX12_signOf_116 (⟨rfl, _, rfl, by unfold sgF; (repeat' split) <;> omega⟩)
                  · refine x_bipush C dX12_signOf_88 (by decide) ?_
                    refine x_goto (tgt := 116) C dX12_signOf_90 (by decide) ?_
                    exact x_iret C hQ dX12_signOf_116 (⟨rfl, _, rfl, by unfold sgF; (repeat' split) <;> omega⟩)
                · refine x_bipush C dX12_signOf_77 (by decide) ?_
                  refine x_goto (tgt := 116) C dX12_signOf_79 (by decide) ?_
                  exact x_iret C hQ dX12_signOf_116 (⟨rfl, _, rfl, by unfold sgF; (repeat' split) <;> omega⟩)
              · refine x_bipush C dX12_signOf_66 (by decide) ?_
                refine x_goto (tgt := 116) C dX12_signOf_68 (by decide) ?_
                exact x_iret C hQ dX12_signOf_116 (⟨rfl, _, rfl, by unfold sgF; (repeat' split) <;> omega⟩)
            · refine x_iconst C dX12_signOf_56 ?_
              refine x_goto (tgt := 116) C dX12_signOf_57 (by decide) ?_
              exact x_iret C hQ dX12_signOf_116 (⟨rfl, _, rfl, by unfold sgF; (repeat' split) <;> omega⟩)
          · refine x_iconst C dX12_signOf_46 ?_
            refine x_goto (tgt := 116) C dX12_signOf_47 (by decide) ?_
            exact x_iret C hQ dX12_signOf_116 (⟨rfl, _, rfl, by unfold sgF; (repeat' split) <;> omega⟩)
        · refine x_iconst C dX12_signOf_36 ?_
          refine x_goto (tgt := 116) C dX12_signOf_37 (by decide) ?_
          exact x_iret C hQ dX12_signOf_116 (⟨rfl, _, rfl, by unfold sgF; (repeat' split) <;> omega⟩)
      · refine x_iconst C dX12_signOf_26 ?_
        refine x_goto (tgt := 116) C dX12_signOf_27 (by decide) ?_
        exact x_iret C hQ dX12_signOf_116 (⟨rfl, _, rfl, by unfold sgF; (repeat' split) <;> omega⟩)
    · refine x_iconst C dX12_signOf_16 ?_
      refine x_goto (tgt := 116) C dX12_signOf_17 (by decide) ?_
      exact x_iret C hQ dX12_signOf_116 (⟨rfl, _, rfl, by unfold sgF; (repeat' split) <;> omega⟩)
  · refine x_iconst C dX12_signOf_6 ?_
    refine x_goto (tgt := 116) C dX12_signOf_7 (by decide) ?_
    exact x_iret C hQ dX12_signOf_116 (⟨rfl, _, rfl, by unfold sgF; (repeat' split) <;> omega⟩)
set_option maxHeartbeats 4000000 in
set_option maxRecDepth 100000 in
theorem r_takeRuleL {D : va_G} {ad : Nat → Nat} {cA : Nat → ClassId} {X0 : XT} {b : Nat → Int} {N : Nat} (hT0 : TPM b N X0) {s : Nat} (t1 : tK b N s = 1) (n9 : tE b N s - s ≤ 9) (se : s ≤ tE b N s) {E : ET} (C : CX E (wM D ad cA) cX12_takeRule 5 RX12 (some .boolean) { frames := 2, cells := 0, slots := 0, locals := 44 }) (hQ : EQ E (wM D ad cA) (fun r X1 => ∃ u : Int, r = some (.int (iI u)) ∧ HG vM X1 ∧ FR mmTR X0 X1 ∧ ((u = 1 ∧ tr b N s ∧ TKM b N (nx b N s) X1 ∧ RSM b N s X1) ∨ (u = 0 ∧ ¬ tr b N s ∧ X1.1 0 15 = (s : Int) ∧ TKM b N s X1)))) : ∀ (n : Nat) (i : Nat) (X : XT), ((10 - i : Nat) : Int) < n → HG vM X → FR mmTR X0 X → TKM b N s X → X.1 10 0 = ((tE b N s - s : Nat) : Int) → (∀ j, j < i → X.1 10 (j + 1) = sgF (b (s + j))) → rOK b s i → i ≤ tE b N s - s → Wx E (wM D ad cA) 5 (PX (wM D ad cA) X) 40 [(0, .ref 0), (1, .int (iI (((tE b N s - s : Nat) : Int)))), (2, .int (iI (zB (rP b s i).2))), (3, .int (iI ((i : Int))))] [] := by
  intro n
  induction n with
  | zero => intro i X hn hH hF hK r0 rj ok il; exfalso; omega
  | succ n ih =>
    intro i X hn hH hF hK r0 rj ok il
    have kb := hK.1
    have sN := hK.2.2.2.2.2.1
    have n6 := hT0.2.1
    have eN := (tE_bd b N s sN).2.1
    refine x_iload_n (i := 3) C dX12_takeRule_40 rfl rfl ?_
    refine x_iload_n (i := 1) C dX12_takeRule_41 rfl rfl ?_
    refine x_icmp_ge (tgt := 108) C dX12_takeRule_42 (by decide) ⟨by omega, by omega⟩ ⟨by omega, by omega⟩ (fun h1 => ?_) (fun h1 => ?_)
    · have ei : i = tE b N s - s := by omega
      subst ei
      refine x_aload_n (i := 0) C dX12_takeRule_108 rfl rfl ?_
      refine x_callV (As := []) C (by exact (r_tok (s := s) (hT0.fr hF rfl) hH hK FR.rf)) ckX12_216 im_X12_token se_X12_token (nlt rfl) rfl rfl rfl rfl (nle rfl) (by exact ⟨nle rfl, nle rfl⟩) dX12_takeRule_109 ?_
      rintro _ Yy2 ⟨rfl, hHy2, hGy2, hKy2⟩
      have hFy2 : FR mmTR X0 Yy2 := FR.tr hF hGy2 (by decide)
      have sny2 := nx_bd b N s hK.2.2.2.2.2.1
      refine Wx_st (st' := []) rfl ?_
      refine x_iconst C dX12_takeRule_112 ?_
      exact x_zret C hQ (by omega) dX12_takeRule_113 (⟨_, rfl, hHy2, hFy2, .inl ⟨rfl, ⟨t1, by omega, ok⟩, hKy2, ⟨by rw [(hGy2 10 0 rfl).1]; exact r0, fun j hj => by rw [(hGy2 10 (j + 1) rfl).1]; exact rj j hj⟩⟩⟩)
    · refine x_aload_n (i := 0) C dX12_takeRule_45 rfl rfl ?_
      refine x_getRs (r := 1) C fkM_X12_7 (nlt rfl) rfl (HG.rR hH (k := 0) (i := 1) rfl rfl) dX12_takeRule_46 ?_
      refine x_aload_n (i := 0) C dX12_takeRule_49 rfl rfl ?_
      refine x_getI C fkM_X12_183 (nlt rfl) rfl dX12_takeRule_50 ?_
      refine x_gen (fun v3 ev3 => ?_)
      have qv3 : ((-2147483648) : Int) ≤ v3 ∧ v3 ≤ (2147483647 : Int) := by
        rw [ev3]
        exact hH.rF (k := 0) (i := 11) rfl rfl
      refine x_iload_n (i := 3) C dX12_takeRule_53 rfl rfl ?_
      refine x_iadd C dX12_takeRule_54 ?_
      refine x_bald C (nlt rfl) rfl rfl (nle rfl) (by omega) (by omega) dX12_takeRule_55 ?_
      refine x_gen (fun v4 ev4 => ?_)
      have qv4 : ((-128) : Int) ≤ v4 ∧ v4 ≤ (127 : Int) := by
        rw [ev4]
        exact hH.rA (k := 1) (n := 2400) (p := ((-128), 127)) (nlt rfl) rfl (by decide +kernel) (by omega)
      have tv4 : v4 % 256 = b (v3 + ((i : Int))).toNat := by rw [ev4]; exact (hT0.fr hF rfl).2.2.1 _ (by omega)
      refine x_callS (As := [.int (iI (v4))]) C (by exact (r_signOf (c := v4) ⟨by omega, by omega⟩)) ckX12_226 sm_X12_signOf rfl rfl (nle rfl) (by exact ⟨nle rfl, nle rfl⟩) dX12_takeRule_56 ?_
      rintro _ Xv5 ⟨hxv5, v5, rfl, ev5⟩
      rw [hxv5]
      have bv5 := sgF_bd (v4)
      rw [← ev5] at bv5
      refine Wx_st (st' := [.int (iI (v5))]) rfl ?_
      have sv : v5 = sgF (b (s + i)) := by
        rw [ev5, let_b (v := v4) (c := b (s + i)) (by omega) (by omega) (by rw [tv4]; congr 1; omega) (sgl_bd t1 (by omega) (by omega))]
      have zb := zB_01 (rP b s i).2
      refine x_istore (lv' := [(4, .int (iI (v5))), (0, .ref 0), (1, .int (iI (((tE b N s - s : Nat) : Int)))), (2, .int (iI (zB (rP b s i).2))), (3, .int (iI ((i : Int))))]) C dX12_takeRule_59 (nlt rfl) rfl ?_
      refine x_iload_n (i := 2) C dX12_takeRule_61 rfl rfl ?_
      refine x_iload C dX12_takeRule_62 rfl ?_
      refine x_bipush C dX12_takeRule_64 (by decide) ?_
      refine x_icmp_ne (tgt := 73) C dX12_takeRule_66 (by decide) ⟨by omega, by omega⟩ ⟨by omega, by omega⟩ (fun h6 => ?_) (fun h6 => ?_)
      · refine x_iconst C dX12_takeRule_73 ?_
        refine x_iadd C dX12_takeRule_74 ?_
        refine x_gen (fun v7 ev7 => ?_)
        refine x_istore_n (i := 2) (lv' := [(2, .int (iI (v7))), (4, .int (iI (v5))), (0, .ref 0), (1, .int (iI (((tE b N s - s : Nat) : Int)))), (3, .int (iI ((i : Int))))]) C dX12_takeRule_75 rfl (nlt rfl) rfl ?_
        refine x_iload C dX12_takeRule_76 rfl ?_
        refine x_iconst C dX12_takeRule_78 ?_
        refine x_icmp_eq (tgt := 87) C dX12_takeRule_79 (by decide) ⟨by omega, by omega⟩ ⟨by omega, by omega⟩ (fun h8 => ?_) (fun h8 => ?_)
        · have nt : ¬ tr b N s := fun g => by
            have g1 := g.2.2 i (by omega)
            have g2 := fun q => congrArg zB (g1.2 q)
            have g3 : zB false = 0 := rfl
            rw [← sv] at g1 g2
            by_cases q10 : v5 = 10
            · have := g2 q10
              omega
            · omega
          refine x_aload_n (i := 0) C dX12_takeRule_87 rfl rfl ?_
          refine x_callV (As := []) C (by exact (r_stops (s := s) hH FR.rf hK)) ckX12_205 im_X12_stops se_X12_stops (nlt rfl) rfl rfl rfl rfl (nle rfl) (by exact ⟨nle rfl, nle rfl⟩) dX12_takeRule_88 ?_
          rintro _ Yy9 ⟨v10, rfl, zv10, hHy9, hGy9, wa, hKy9⟩
          have hFy9 : FR mmTR X0 Yy9 := FR.tr hF hGy9 (by decide)
          refine Wx_st (st' := [.int (iI (v10))]) rfl ?_
          exact x_zret C hQ (by omega) dX12_takeRule_91 (⟨_, rfl, hHy9, hFy9, .inr ⟨zv10, nt, wa, hKy9⟩⟩)
        · refine x_iload_n (i := 2) C dX12_takeRule_82 rfl rfl ?_
          refine x_iconst C dX12_takeRule_83 ?_
          refine x_icmp_le (tgt := 92) C dX12_takeRule_84 (by decide) ⟨by omega, by omega⟩ ⟨by omega, by omega⟩ (fun h11 => ?_) (fun h11 => ?_)
          · refine x_aload_n (i := 0) C dX12_takeRule_92 rfl rfl ?_
            refine x_getRs (r := 10) C fkM_X12_38 (nlt rfl) rfl (HG.rR hH (k := 0) (i := 19) rfl rfl) dX12_takeRule_93 ?_
            refine x_iconst C dX12_takeRule_96 ?_
            refine x_iload_n (i := 3) C dX12_takeRule_97 rfl rfl ?_
            refine x_iadd C dX12_takeRule_98 ?_
            refine x_iload C dX12_takeRule_99 rfl ?_
            refine x_iast C (nlt rfl) rfl rfl (nle rfl) (by omega) (by omega) dX12_takeRule_101 ?_
            refine x_gX (fun Yy12 eYy12 => ?_)
            have hHy12 : HG vM Yy12 := by
              rw [eYy12]
              exact hg_wB hH (a := 1) (n := 8) (p := (0, 10)) (by decide +kernel) (by omega) (by omega) ⟨by omega, by omega⟩
            have hFy12 : FR mmTR X0 Yy12 := by
              rw [eYy12]
              exact FR.upI hF rfl
            rw [show (1 + ((i : Int))).toNat = i + 1 by omega] at eYy12
            have hGy12 : FR [(10, none)] X Yy12 := by
              rw [eYy12]
              exact FR.upI FR.rf rfl
            have hKy12 := hK.fr hGy12 rfl
            refine x_iinc (lv' := [(3, .int (iI ((i : Int) + 1))), (2, .int (iI (v7))), (4, .int (iI (v5))), (0, .ref 0), (1, .int (iI (((tE b N s - s : Nat) : Int))))]) C dX12_takeRule_102 rfl (nlt rfl) rfl ?_
            refine x_goto (tgt := 40) C dX12_takeRule_105 (by decide) ?_
            rw [show iI v7 = iI (zB (rP b s (i + 1)).2) by
              show iI v7 = iI (zB ((rP b s i).2 || decide (sgF (b (s + i)) = 10)))
              rw [zB_or, ← sv]
              congr 1
              split <;> omega]
            rw [show iI ((i : Int) + 1) = iI (((i + 1 : Nat) : Int)) by congr 1]
            refine Wx_pick [0, 1, 2, 3] ?_
            refine Wx_lv (lv' := [(0, .ref 0), (1, .int (iI (((tE b N s - s : Nat) : Int)))), (2, .int (iI (zB (rP b s (i + 1)).2))), (3, .int (iI (((i + 1 : Nat) : Int))))]) rfl ?_
            refine ih (i + 1) _ (by omega) hHy12 hFy12 hKy12 (by rw [eYy12, upI_ne (by omega)]; exact r0) (fun j hj => ?_) (fun j hj => ?_) (by omega)
            · by_cases ej : j = i
              · subst ej
                rw [eYy12, upI_at]
                exact sv
              · rw [eYy12, upI_ne (by omega)]
                exact rj j (by omega)
            · by_cases ej : j = i
              · subst ej
                rw [← sv]
                refine ⟨by omega, fun q10 => ?_⟩
                cases er : (rP b s j).2 with
                | false => rfl
                | true =>
                  exfalso
                  have e1 : zB (rP b s j).2 = 1 := by rw [er]; rfl
                  omega
              · exact ok j (by omega)
          · have nt : ¬ tr b N s := fun g => by
              have g1 := g.2.2 i (by omega)
              have g2 := fun q => congrArg zB (g1.2 q)
              have g3 : zB false = 0 := rfl
              rw [← sv] at g1 g2
              by_cases q10 : v5 = 10
              · have := g2 q10
                omega
              · omega
            refine x_aload_n (i := 0) C dX12_takeRule_87 rfl rfl ?_
            refine x_callV (As := []) C (by exact (r_stops (s := s) hH FR.rf hK)) ckX12_205 im_X12_stops se_X12_stops (nlt rfl) rfl rfl rfl rfl (nle rfl) (by exact ⟨nle rfl, nle rfl⟩) dX12_takeRule_88 ?_
            rintro _ Yy13 ⟨v14, rfl, zv14, hHy13, hGy13, wa, hKy13⟩
            have hFy13 : FR mmTR X0 Yy13 := FR.tr hF hGy13 (by decide)
            refine Wx_st (st' := [.int (iI (v14))]) rfl ?_
            exact x_zret C hQ (by omega) dX12_takeRule_91 (⟨_, rfl, hHy13, hFy13, .inr ⟨zv14, nt, wa, hKy13⟩⟩)
      · refine x_iconst C dX12_takeRule_69 ?_
        refine x_goto (tgt := 74) C dX12_takeRule_70 (by decide) ?_
        refine x_iadd C dX12_takeRule_74 ?_
        refine x_gen (fun v15 ev15 => ?_)
        refine x_istore_n (i := 2) (lv' := [(2, .int (iI (v15))), (4, .int (iI (v5))), (0, .ref 0), (1, .int (iI (((tE b N s - s : Nat) : Int)))), (3, .int (iI ((i : Int))))]) C dX12_takeRule_75 rfl (nlt rfl) rfl ?_
        refine x_iload C dX12_takeRule_76 rfl ?_
        refine x_iconst C dX12_takeRule_78 ?_
        refine x_icmp_eq (tgt := 87) C dX12_takeRule_79 (by decide) ⟨by omega, by omega⟩ ⟨by omega, by omega⟩ (fun h16 => ?_) (fun h16 => ?_)
        · have nt : ¬ tr b N s := fun g => by
            have g1 := g.2.2 i (by omega)
            have g2 := fun q => congrArg zB (g1.2 q)
            have g3 : zB false = 0 := rfl
            rw [← sv] at g1 g2
            by_cases q10 : v5 = 10
            · have := g2 q10
              omega
            · omega
          refine x_aload_n (i := 0) C dX12_takeRule_87 rfl rfl ?_
          refine x_callV (As := []) C (by exact (r_stops (s := s) hH FR.rf hK)) ckX12_205 im_X12_stops se_X12_stops (nlt rfl) rfl rfl rfl rfl (nle rfl) (by exact ⟨nle rfl, nle rfl⟩) dX12_takeRule_88 ?_
          rintro _ Yy17 ⟨v18, rfl, zv18, hHy17, hGy17, wa, hKy17⟩
          have hFy17 : FR mmTR X0 Yy17 := FR.tr hF hGy17 (by decide)
          refine Wx_st (st' := [.int (iI (v18))]) rfl ?_
          exact x_zret C hQ (by omega) dX12_takeRule_91 (⟨_, rfl, hHy17, hFy17, .inr ⟨zv18, nt, wa, hKy17⟩⟩)
        · refine x_iload_n (i := 2) C dX12_takeRule_82 rfl rfl ?_
          refine x_iconst C dX12_takeRule_83 ?_
          refine x_icmp_le (tgt := 92) C dX12_takeRule_84 (by decide) ⟨by omega, by omega⟩ ⟨by omega, by omega⟩ (fun h19 => ?_) (fun h19 => ?_)
          · refine x_aload_n (i := 0) C dX12_takeRule_92 rfl rfl ?_
            refine x_getRs (r := 10) C fkM_X12_38 (nlt rfl) rfl (HG.rR hH (k := 0) (i := 19) rfl rfl) dX12_takeRule_93 ?_
            refine x_iconst C dX12_takeRule_96 ?_
            refine x_iload_n (i := 3) C dX12_takeRule_97 rfl rfl ?_
            refine x_iadd C dX12_takeRule_98 ?_
            refine x_iload C dX12_takeRule_99 rfl ?_
            refine x_iast C (nlt rfl) rfl rfl (nle rfl) (by omega) (by omega) dX12_takeRule_101 ?_
            refine x_gX (fun Yy20 eYy20 => ?_)
            have hHy20 : HG vM Yy20 := by
              rw [eYy20]
              exact hg_wB hH (a := 1) (n := 8) (p := (0, 10)) (by decide +kernel) (by omega) (by omega) ⟨by omega, by omega⟩
            have hFy20 : FR mmTR X0 Yy20 := by
              rw [eYy20]
              exact FR.upI hF rfl
            rw [show (1 + ((i : Int))).toNat = i + 1 by omega] at eYy20
            have hGy20 : FR [(10, none)] X Yy20 := by
              rw [eYy20]
              exact FR.upI FR.rf rfl
            have hKy20 := hK.fr hGy20 rfl
            refine x_iinc (lv' := [(3, .int (iI ((i : Int) + 1))), (2, .int (iI (v15))), (4, .int (iI (v5))), (0, .ref 0), (1, .int (iI (((tE b N s - s : Nat) : Int))))]) C dX12_takeRule_102 rfl (nlt rfl) rfl ?_
            refine x_goto (tgt := 40) C dX12_takeRule_105 (by decide) ?_
            rw [show iI v15 = iI (zB (rP b s (i + 1)).2) by
              show iI v15 = iI (zB ((rP b s i).2 || decide (sgF (b (s + i)) = 10)))
              rw [zB_or, ← sv]
              congr 1
              split <;> omega]
            rw [show iI ((i : Int) + 1) = iI (((i + 1 : Nat) : Int)) by congr 1]
            refine Wx_pick [0, 1, 2, 3] ?_
            refine Wx_lv (lv' := [(0, .ref 0), (1, .int (iI (((tE b N s - s : Nat) : Int)))), (2, .int (iI (zB (rP b s (i + 1)).2))), (3, .int (iI (((i + 1 : Nat) : Int))))]) rfl ?_
            refine ih (i + 1) _ (by omega) hHy20 hFy20 hKy20 (by rw [eYy20, upI_ne (by omega)]; exact r0) (fun j hj => ?_) (fun j hj => ?_) (by omega)
            · by_cases ej : j = i
              · subst ej
                rw [eYy20, upI_at]
                exact sv
              · rw [eYy20, upI_ne (by omega)]
                exact rj j (by omega)
            · by_cases ej : j = i
              · subst ej
                rw [← sv]
                refine ⟨by omega, fun q10 => ?_⟩
                cases er : (rP b s j).2 with
                | false => rfl
                | true =>
                  exfalso
                  have e1 : zB (rP b s j).2 = 1 := by rw [er]; rfl
                  omega
              · exact ok j (by omega)
          · have nt : ¬ tr b N s := fun g => by
              have g1 := g.2.2 i (by omega)
              have g2 := fun q => congrArg zB (g1.2 q)
              have g3 : zB false = 0 := rfl
              rw [← sv] at g1 g2
              by_cases q10 : v5 = 10
              · have := g2 q10
                omega
              · omega
            refine x_aload_n (i := 0) C dX12_takeRule_87 rfl rfl ?_
            refine x_callV (As := []) C (by exact (r_stops (s := s) hH FR.rf hK)) ckX12_205 im_X12_stops se_X12_stops (nlt rfl) rfl rfl rfl rfl (nle rfl) (by exact ⟨nle rfl, nle rfl⟩) dX12_takeRule_88 ?_
            rintro _ Yy21 ⟨v22, rfl, zv22, hHy21, hGy21, wa, hKy21⟩
            have hFy21 : FR mmTR X0 Yy21 := FR.tr hF hGy21 (by decide)
            refine Wx_st (st' := [.int (iI (v22))]) rfl ?_
            exact x_zret C hQ (by omega) dX12_takeRule_91 (⟨_, rfl, hHy21, hFy21, .inr ⟨zv22, nt, wa, hKy21⟩⟩)
set_option maxHeartbeats 4000000 in
set_option maxRecDepth 100000 in
theorem r_takeRule {D : va_G} {ad : Nat → Nat} {cA : Nat → ClassId} {X0 : XT} {b : Nat → Int} {N : Nat} (hT0 : TPM b N X0) (hH : HG vM X0) {s : Nat} (hF : FR mmTR X0 X0) (hK : TKM b N s X0) : MetX (wM D ad cA) yX12_takeRule cX12_takeRule 5 (some .boolean) 2 44 [.ref 0] X0 (fun r X1 => ∃ u : Int, r = some (.int (iI u)) ∧ HG vM X1 ∧ FR mmTR X0 X1 ∧ ((u = 1 ∧ tr b N s ∧ TKM b N (nx b N s) X1 ∧ RSM b N s X1) ∨ (u = 0 ∧ ¬ tr b N s ∧ X1.1 0 15 = (s : Int) ∧ TKM b N s X1))) := by
  have kb := hK.1
  have ks := hK.2.1
  have kr := hK.2.2.1
  have sN := hK.2.2.2.2.2.1
  have k1 := hK.2.2.2.2.2.2
  have k5 := (tK_bd b N s).2
  have n6 := hT0.2.1
  have k2i := sK_2 k1 k5
  have te := tE_bd b N s sN
  refine MetX.mk (own := RX12) (by decide +kernel) rfl (nle rfl) (fun E C hQ => ?_)
  refine Wx_lv (lv' := [(0, .ref 0)]) rfl ?_
  refine x_aload_n (i := 0) C dX12_takeRule_0 rfl rfl ?_
  refine x_getI C fkM_X12_173 (nlt rfl) rfl dX12_takeRule_1 ?_
  refine x_gen (fun v1 ev1 => ?_)
  have qv1 : ((-2147483648) : Int) ≤ v1 ∧ v1 ≤ (2147483647 : Int) := by
    rw [ev1]
    exact hH.rF (k := 0) (i := 9) rfl rfl
  refine x_aload_n (i := 0) C dX12_takeRule_4 rfl rfl ?_
  refine x_getI C fkM_X12_183 (nlt rfl) rfl dX12_takeRule_5 ?_
  refine x_gen (fun v2 ev2 => ?_)
  have qv2 : ((-2147483648) : Int) ≤ v2 ∧ v2 ≤ (2147483647 : Int) := by
    rw [ev2]
    exact hH.rF (k := 0) (i := 11) rfl rfl
  refine x_isub C dX12_takeRule_8 ?_
  refine x_gen (fun v3 ev3 => ?_)
  refine x_istore_n (i := 1) (lv' := [(1, .int (iI (v3))), (0, .ref 0)]) C dX12_takeRule_9 rfl (nlt rfl) rfl ?_
  refine x_aload_n (i := 0) C dX12_takeRule_10 rfl rfl ?_
  refine x_getI C fkM_X12_190 (nlt rfl) rfl dX12_takeRule_11 ?_
  refine x_gen (fun v4 ev4 => ?_)
  have qv4 : ((-2147483648) : Int) ≤ v4 ∧ v4 ≤ (2147483647 : Int) := by
    rw [ev4]
    exact hH.rF (k := 0) (i := 12) rfl rfl
  refine x_iconst C dX12_takeRule_14 ?_
  refine x_icmp_ne (tgt := 24) C dX12_takeRule_15 (by decide) ⟨by omega, by omega⟩ ⟨by omega, by omega⟩ (fun h5 => ?_) (fun h5 => ?_)
  · have nt : ¬ tr b N s := fun g => by
      have g1 := k2i.mpr g.1
      have g2 := g.2.1
      omega
    refine x_aload_n (i := 0) C dX12_takeRule_24 rfl rfl ?_
    refine x_callV (As := []) C (by exact (r_stops (s := s) hH FR.rf hK)) ckX12_205 im_X12_stops se_X12_stops (nlt rfl) rfl rfl rfl rfl (nle rfl) (by exact ⟨nle rfl, nle rfl⟩) dX12_takeRule_25 ?_
    rintro _ Yy6 ⟨v7, rfl, zv7, hHy6, hGy6, wa, hKy6⟩
    have hFy6 : FR mmTR X0 Yy6 := FR.tr hF hGy6 (by decide)
    refine Wx_st (st' := [.int (iI (v7))]) rfl ?_
    exact x_zret C hQ (by omega) dX12_takeRule_28 (⟨_, rfl, hHy6, hFy6, .inr ⟨zv7, nt, wa, hKy6⟩⟩)
  · refine x_iload_n (i := 1) C dX12_takeRule_18 rfl rfl ?_
    refine x_bipush C dX12_takeRule_19 (by decide) ?_
    refine x_icmp_le (tgt := 29) C dX12_takeRule_21 (by decide) ⟨by omega, by omega⟩ ⟨by omega, by omega⟩ (fun h8 => ?_) (fun h8 => ?_)
    · have t1 : tK b N s = 1 := k2i.mp (by omega)
      refine x_iconst C dX12_takeRule_29 ?_
      refine x_istore_n (i := 2) (lv' := [(2, .int (iI (0))), (1, .int (iI (v3))), (0, .ref 0)]) C dX12_takeRule_30 rfl (nlt rfl) rfl ?_
      refine x_aload_n (i := 0) C dX12_takeRule_31 rfl rfl ?_
      refine x_getRs (r := 10) C fkM_X12_38 (nlt rfl) rfl (HG.rR hH (k := 0) (i := 19) rfl rfl) dX12_takeRule_32 ?_
      refine x_iconst C dX12_takeRule_35 ?_
      refine x_iload_n (i := 1) C dX12_takeRule_36 rfl rfl ?_
      refine x_iast C (nlt rfl) rfl rfl (nle rfl) (by omega) (by omega) dX12_takeRule_37 ?_
      refine x_gX (fun Yy9 eYy9 => ?_)
      have hHy9 : HG vM Yy9 := by
        rw [eYy9]
        exact hg_wF hH (p := (0, 9)) rfl ⟨by omega, by omega⟩
      have hFy9 : FR mmTR X0 Yy9 := by
        rw [eYy9]
        exact FR.upI hF (rfl)
      replace eYy9 : Yy9 = upI X0 10 0 (v3) := eYy9
      have hGy9 : FR [(10, some 0)] X0 Yy9 := by
        rw [eYy9]
        exact FR.upI FR.rf rfl
      have hKy9 := hK.fr hGy9 rfl
      refine x_iconst C dX12_takeRule_38 ?_
      refine x_istore_n (i := 3) (lv' := [(3, .int (iI (0))), (2, .int (iI (0))), (1, .int (iI (v3))), (0, .ref 0)]) C dX12_takeRule_39 rfl (nlt rfl) rfl ?_
      rw [show iI v3 = iI (((tE b N s - s : Nat) : Int)) by congr 1; omega]
      refine Wx_pick [0, 1, 2, 3] ?_
      refine Wx_lv (lv' := [(0, .ref 0), (1, .int (iI (((tE b N s - s : Nat) : Int)))), (2, .int (iI (0))), (3, .int (iI (0)))]) rfl ?_
      exact r_takeRuleL hT0 t1 (by omega) te.1 C hQ 11 0 _ (by omega) hHy9 hFy9 hKy9 (by rw [eYy9, upI_at]; omega) (fun j hj => absurd hj (by omega)) (fun j hj => absurd hj (by omega)) (Nat.zero_le _)
    · have nt : ¬ tr b N s := fun g => by
        have g1 := k2i.mpr g.1
        have g2 := g.2.1
        omega
      refine x_aload_n (i := 0) C dX12_takeRule_24 rfl rfl ?_
      refine x_callV (As := []) C (by exact (r_stops (s := s) hH FR.rf hK)) ckX12_205 im_X12_stops se_X12_stops (nlt rfl) rfl rfl rfl rfl (nle rfl) (by exact ⟨nle rfl, nle rfl⟩) dX12_takeRule_25 ?_
      rintro _ Yy10 ⟨v11, rfl, zv11, hHy10, hGy10, wa, hKy10⟩
      have hFy10 : FR mmTR X0 Yy10 := FR.tr hF hGy10 (by decide)
      refine Wx_st (st' := [.int (iI (v11))]) rfl ?_
      exact x_zret C hQ (by omega) dX12_takeRule_28 (⟨_, rfl, hHy10, hFy10, .inr ⟨zv11, nt, wa, hKy10⟩⟩)
