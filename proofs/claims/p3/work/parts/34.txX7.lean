/-! ===== the class takes what was read ===== -/
theorem dX8_hasRoom_0 : decode cX8_hasRoom 0 = .ok (.iload_n 1, 1) := by decide +kernel
theorem dX8_hasRoom_1 : decode cX8_hasRoom 1 = .ok (.ifCond .lt 8, 3) := by decide +kernel
theorem dX8_hasRoom_4 : decode cX8_hasRoom 4 = .ok (.iload_n 1, 1) := by decide +kernel
theorem dX8_hasRoom_5 : decode cX8_hasRoom 5 = .ok (.iconst 3, 1) := by decide +kernel
theorem dX8_hasRoom_6 : decode cX8_hasRoom 6 = .ok (.if_icmp .lt 5, 3) := by decide +kernel
theorem dX8_hasRoom_9 : decode cX8_hasRoom 9 = .ok (.iconst 0, 1) := by decide +kernel
theorem dX8_hasRoom_10 : decode cX8_hasRoom 10 = .ok (.ireturn, 1) := by decide +kernel
theorem dX8_hasRoom_11 : decode cX8_hasRoom 11 = .ok (.iload_n 1, 1) := by decide +kernel
theorem dX8_hasRoom_12 : decode cX8_hasRoom 12 = .ok (.ifCond .ne 7, 3) := by decide +kernel
theorem dX8_hasRoom_15 : decode cX8_hasRoom 15 = .ok (.iconst 2, 1) := by decide +kernel
theorem dX8_hasRoom_16 : decode cX8_hasRoom 16 = .ok (.goto 13, 3) := by decide +kernel
theorem dX8_hasRoom_19 : decode cX8_hasRoom 19 = .ok (.iload_n 1, 1) := by decide +kernel
theorem dX8_hasRoom_20 : decode cX8_hasRoom 20 = .ok (.iconst 1, 1) := by decide +kernel
theorem dX8_hasRoom_21 : decode cX8_hasRoom 21 = .ok (.if_icmp .ne 7, 3) := by decide +kernel
theorem dX8_hasRoom_24 : decode cX8_hasRoom 24 = .ok (.iconst 3, 1) := by decide +kernel
theorem dX8_hasRoom_25 : decode cX8_hasRoom 25 = .ok (.goto 4, 3) := by decide +kernel
theorem dX8_hasRoom_28 : decode cX8_hasRoom 28 = .ok (.iconst 2, 1) := by decide +kernel
theorem dX8_hasRoom_29 : decode cX8_hasRoom 29 = .ok (.istore_n 3, 1) := by decide +kernel
theorem dX8_hasRoom_30 : decode cX8_hasRoom 30 = .ok (.iload_n 2, 1) := by decide +kernel
theorem dX8_hasRoom_31 : decode cX8_hasRoom 31 = .ok (.iconst (-1), 1) := by decide +kernel
theorem dX8_hasRoom_32 : decode cX8_hasRoom 32 = .ok (.if_icmp .ne 21, 3) := by decide +kernel
theorem dX8_hasRoom_35 : decode cX8_hasRoom 35 = .ok (.aload_n 0, 1) := by decide +kernel
theorem dX8_hasRoom_36 : decode cX8_hasRoom 36 = .ok (.getfield 19, 3) := by decide +kernel
theorem dX8_hasRoom_39 : decode cX8_hasRoom 39 = .ok (.iload_n 1, 1) := by decide +kernel
theorem dX8_hasRoom_40 : decode cX8_hasRoom 40 = .ok (.iaload, 1) := by decide +kernel
theorem dX8_hasRoom_41 : decode cX8_hasRoom 41 = .ok (.iload_n 3, 1) := by decide +kernel
theorem dX8_hasRoom_42 : decode cX8_hasRoom 42 = .ok (.if_icmp .ge 7, 3) := by decide +kernel
theorem dX8_hasRoom_45 : decode cX8_hasRoom 45 = .ok (.iconst 1, 1) := by decide +kernel
theorem dX8_hasRoom_46 : decode cX8_hasRoom 46 = .ok (.goto 26, 3) := by decide +kernel
theorem dX8_hasRoom_49 : decode cX8_hasRoom 49 = .ok (.iconst 0, 1) := by decide +kernel
theorem dX8_hasRoom_50 : decode cX8_hasRoom 50 = .ok (.goto 22, 3) := by decide +kernel
theorem dX8_hasRoom_53 : decode cX8_hasRoom 53 = .ok (.iload_n 2, 1) := by decide +kernel
theorem dX8_hasRoom_54 : decode cX8_hasRoom 54 = .ok (.ifCond .lt 17, 3) := by decide +kernel
theorem dX8_hasRoom_57 : decode cX8_hasRoom 57 = .ok (.iload_n 2, 1) := by decide +kernel
theorem dX8_hasRoom_58 : decode cX8_hasRoom 58 = .ok (.aload_n 0, 1) := by decide +kernel
theorem dX8_hasRoom_59 : decode cX8_hasRoom 59 = .ok (.getfield 19, 3) := by decide +kernel
theorem dX8_hasRoom_62 : decode cX8_hasRoom 62 = .ok (.iload_n 1, 1) := by decide +kernel
theorem dX8_hasRoom_63 : decode cX8_hasRoom 63 = .ok (.iaload, 1) := by decide +kernel
theorem dX8_hasRoom_64 : decode cX8_hasRoom 64 = .ok (.if_icmp .ge 7, 3) := by decide +kernel
theorem dX8_hasRoom_67 : decode cX8_hasRoom 67 = .ok (.iconst 1, 1) := by decide +kernel
theorem dX8_hasRoom_68 : decode cX8_hasRoom 68 = .ok (.goto 4, 3) := by decide +kernel
theorem dX8_hasRoom_71 : decode cX8_hasRoom 71 = .ok (.iconst 0, 1) := by decide +kernel
theorem dX8_hasRoom_72 : decode cX8_hasRoom 72 = .ok (.ireturn, 1) := by decide +kernel
theorem dX2_copy_0 : decode cX2_copy 0 = .ok (.aload_n 0, 1) := by decide +kernel
theorem dX2_copy_1 : decode cX2_copy 1 = .ok (.aload_n 1, 1) := by decide +kernel
theorem dX2_copy_2 : decode cX2_copy 2 = .ok (.getfield 19, 3) := by decide +kernel
theorem dX2_copy_5 : decode cX2_copy 5 = .ok (.putfield 19, 3) := by decide +kernel
theorem dX2_copy_8 : decode cX2_copy 8 = .ok (.aload_n 1, 1) := by decide +kernel
theorem dX2_copy_9 : decode cX2_copy 9 = .ok (.getfield 9, 3) := by decide +kernel
theorem dX2_copy_12 : decode cX2_copy 12 = .ok (.iconst 0, 1) := by decide +kernel
theorem dX2_copy_13 : decode cX2_copy 13 = .ok (.aload_n 0, 1) := by decide +kernel
theorem dX2_copy_14 : decode cX2_copy 14 = .ok (.getfield 9, 3) := by decide +kernel
theorem dX2_copy_17 : decode cX2_copy 17 = .ok (.iconst 0, 1) := by decide +kernel
theorem dX2_copy_18 : decode cX2_copy 18 = .ok (.bipush 30, 2) := by decide +kernel
theorem dX2_copy_20 : decode cX2_copy 20 = .ok (.invokestatic 23, 3) := by decide +kernel
theorem dX2_copy_23 : decode cX2_copy 23 = .ok (.aload_n 1, 1) := by decide +kernel
theorem dX2_copy_24 : decode cX2_copy 24 = .ok (.getfield 15, 3) := by decide +kernel
theorem dX2_copy_27 : decode cX2_copy 27 = .ok (.iconst 0, 1) := by decide +kernel
theorem dX2_copy_28 : decode cX2_copy 28 = .ok (.aload_n 0, 1) := by decide +kernel
theorem dX2_copy_29 : decode cX2_copy 29 = .ok (.getfield 15, 3) := by decide +kernel
theorem dX2_copy_32 : decode cX2_copy 32 = .ok (.iconst 0, 1) := by decide +kernel
theorem dX2_copy_33 : decode cX2_copy 33 = .ok (.bipush 30, 2) := by decide +kernel
theorem dX2_copy_35 : decode cX2_copy 35 = .ok (.invokestatic 23, 3) := by decide +kernel
theorem dX2_copy_38 : decode cX2_copy 38 = .ok (.return_, 1) := by decide +kernel
theorem dX8_take_0 : decode cX8_take 0 = .ok (.iload_n 3, 1) := by decide +kernel
theorem dX8_take_1 : decode cX8_take 1 = .ok (.iconst (-1), 1) := by decide +kernel
theorem dX8_take_2 : decode cX8_take 2 = .ok (.if_icmp .ne 12, 3) := by decide +kernel
theorem dX8_take_5 : decode cX8_take 5 = .ok (.aload_n 0, 1) := by decide +kernel
theorem dX8_take_6 : decode cX8_take 6 = .ok (.getfield 19, 3) := by decide +kernel
theorem dX8_take_9 : decode cX8_take 9 = .ok (.iload_n 2, 1) := by decide +kernel
theorem dX8_take_10 : decode cX8_take 10 = .ok (.iaload, 1) := by decide +kernel
theorem dX8_take_11 : decode cX8_take 11 = .ok (.goto 4, 3) := by decide +kernel
theorem dX8_take_14 : decode cX8_take 14 = .ok (.iload_n 3, 1) := by decide +kernel
theorem dX8_take_15 : decode cX8_take 15 = .ok (.istore 4, 2) := by decide +kernel
theorem dX8_take_17 : decode cX8_take 17 = .ok (.iload_n 2, 1) := by decide +kernel
theorem dX8_take_18 : decode cX8_take 18 = .ok (.ifCond .ne 20, 3) := by decide +kernel
theorem dX8_take_21 : decode cX8_take 21 = .ok (.aload_n 0, 1) := by decide +kernel
theorem dX8_take_22 : decode cX8_take 22 = .ok (.getfield 24, 3) := by decide +kernel
theorem dX8_take_25 : decode cX8_take 25 = .ok (.iload 4, 2) := by decide +kernel
theorem dX8_take_27 : decode cX8_take 27 = .ok (.aaload, 1) := by decide +kernel
theorem dX8_take_28 : decode cX8_take 28 = .ok (.aload_n 1, 1) := by decide +kernel
theorem dX8_take_29 : decode cX8_take 29 = .ok (.getfield 59, 3) := by decide +kernel
theorem dX8_take_32 : decode cX8_take 32 = .ok (.invokevirtual 52, 3) := by decide +kernel
theorem dX8_take_35 : decode cX8_take 35 = .ok (.goto 36, 3) := by decide +kernel
theorem dX8_take_38 : decode cX8_take 38 = .ok (.iload_n 2, 1) := by decide +kernel
theorem dX8_take_39 : decode cX8_take 39 = .ok (.iconst 1, 1) := by decide +kernel
theorem dX8_take_40 : decode cX8_take 40 = .ok (.if_icmp .ne 17, 3) := by decide +kernel
theorem dX8_take_43 : decode cX8_take 43 = .ok (.aload_n 0, 1) := by decide +kernel
theorem dX8_take_44 : decode cX8_take 44 = .ok (.getfield 28, 3) := by decide +kernel
theorem dX8_take_47 : decode cX8_take 47 = .ok (.iload 4, 2) := by decide +kernel
theorem dX8_take_49 : decode cX8_take 49 = .ok (.aload_n 1, 1) := by decide +kernel
theorem dX8_take_50 : decode cX8_take 50 = .ok (.getfield 65, 3) := by decide +kernel
theorem dX8_take_53 : decode cX8_take 53 = .ok (.lastore, 1) := by decide +kernel
theorem dX8_take_54 : decode cX8_take 54 = .ok (.goto 17, 3) := by decide +kernel
theorem dX8_take_57 : decode cX8_take 57 = .ok (.aload_n 0, 1) := by decide +kernel
theorem dX8_take_58 : decode cX8_take 58 = .ok (.getfield 34, 3) := by decide +kernel
theorem dX8_take_61 : decode cX8_take 61 = .ok (.iload 4, 2) := by decide +kernel
theorem dX8_take_63 : decode cX8_take 63 = .ok (.aaload, 1) := by decide +kernel
theorem dX8_take_64 : decode cX8_take 64 = .ok (.aload_n 1, 1) := by decide +kernel
theorem dX8_take_65 : decode cX8_take 65 = .ok (.getfield 69, 3) := by decide +kernel
theorem dX8_take_68 : decode cX8_take 68 = .ok (.invokevirtual 56, 3) := by decide +kernel
theorem dX8_take_71 : decode cX8_take 71 = .ok (.aload_n 0, 1) := by decide +kernel
theorem dX8_take_72 : decode cX8_take 72 = .ok (.getfield 19, 3) := by decide +kernel
theorem dX8_take_75 : decode cX8_take 75 = .ok (.iload_n 2, 1) := by decide +kernel
theorem dX8_take_76 : decode cX8_take 76 = .ok (.aload_n 0, 1) := by decide +kernel
theorem dX8_take_77 : decode cX8_take 77 = .ok (.getfield 19, 3) := by decide +kernel
theorem dX8_take_80 : decode cX8_take 80 = .ok (.iload_n 2, 1) := by decide +kernel
theorem dX8_take_81 : decode cX8_take 81 = .ok (.iaload, 1) := by decide +kernel
theorem dX8_take_82 : decode cX8_take 82 = .ok (.iload 4, 2) := by decide +kernel
theorem dX8_take_84 : decode cX8_take 84 = .ok (.iconst 1, 1) := by decide +kernel
theorem dX8_take_85 : decode cX8_take 85 = .ok (.iadd, 1) := by decide +kernel
theorem dX8_take_86 : decode cX8_take 86 = .ok (.invokestatic 73, 3) := by decide +kernel
theorem dX8_take_89 : decode cX8_take 89 = .ok (.iastore, 1) := by decide +kernel
theorem dX8_take_90 : decode cX8_take 90 = .ok (.iload 4, 2) := by decide +kernel
theorem dX8_take_92 : decode cX8_take 92 = .ok (.ireturn, 1) := by decide +kernel
theorem cpX2_23 : CPw RX2 23 := ⟨(lw_gi 784 (by decide +kernel) rfl : Cond.methodLink RX2 23 arraycopyName ∈ lw_g), (lw_gi 779 (by decide +kernel) rfl : Cond.native arraycopyName ∈ lw_g), (lw_gi 778 (by decide +kernel) rfl : Cond.static arraycopyName ∈ lw_g), (lw_gi 135 (by decide +kernel) rfl : Cond.initialized "java/lang/System" ∈ lw_g)⟩
def room (X : XT) (st at_ : Int) : Prop := 0 ≤ st ∧ st ≤ 2 ∧ ((at_ = -1 ∧ X.1 3 st.toNat < (if st = 1 then 3 else 2)) ∨ (at_ ≠ -1 ∧ 0 ≤ at_ ∧ at_ < X.1 3 st.toNat))
set_option maxHeartbeats 4000000 in
set_option maxRecDepth 100000 in
theorem c_hasRoom {D : va_G} {ad : Nat → Nat} {cA : Nat → ClassId} {X0 : XT} {st at_ : Int} (ss : inR st) (aa : inR at_) (hH : HG vX X0) : MetX (wX D ad cA) yX8_hasRoom cX8_hasRoom 4 (some .boolean) 0 0 [.ref 1, .int (iI (st)), .int (iI (at_))] X0 (fun r X1 => X1 = X0 ∧ ∃ u : Int, r = some (.int (iI u)) ∧ ((u = 1 ∧ room X0 st at_) ∨ (u = 0 ∧ ¬ room X0 st at_))) := by
  unfold inR at ss aa
  refine MetX.mk (own := RX8) (by decide +kernel) rfl (nle rfl) (fun E C hQ => ?_)
  refine Wx_lv (lv' := [(0, .ref 1), (1, .int (iI (st))), (2, .int (iI (at_)))]) rfl ?_
  refine x_iload_n (i := 1) C dX8_hasRoom_0 rfl rfl ?_
  refine x_if_lt (tgt := 9) C dX8_hasRoom_1 (by decide) ⟨by omega, by omega⟩ (fun h1 => ?_) (fun h1 => ?_)
  · refine x_iconst C dX8_hasRoom_9 ?_
    exact x_zret C hQ (by omega) dX8_hasRoom_10 (⟨rfl, _, rfl, .inr ⟨rfl, by unfold room; split <;> omega⟩⟩)
  · refine x_iload_n (i := 1) C dX8_hasRoom_4 rfl rfl ?_
    refine x_iconst C dX8_hasRoom_5 ?_
    refine x_icmp_lt (tgt := 11) C dX8_hasRoom_6 (by decide) ⟨by omega, by omega⟩ ⟨by omega, by omega⟩ (fun h2 => ?_) (fun h2 => ?_)
    · refine x_iload_n (i := 1) C dX8_hasRoom_11 rfl rfl ?_
      refine x_if_ne (tgt := 19) C dX8_hasRoom_12 (by decide) ⟨by omega, by omega⟩ (fun h3 => ?_) (fun h3 => ?_)
      · refine x_iload_n (i := 1) C dX8_hasRoom_19 rfl rfl ?_
        refine x_iconst C dX8_hasRoom_20 ?_
        refine x_icmp_ne (tgt := 28) C dX8_hasRoom_21 (by decide) ⟨by omega, by omega⟩ ⟨by omega, by omega⟩ (fun h4 => ?_) (fun h4 => ?_)
        · refine x_iconst C dX8_hasRoom_28 ?_
          refine x_istore_n (i := 3) (lv' := [(3, .int (iI (2))), (0, .ref 1), (1, .int (iI (st))), (2, .int (iI (at_)))]) C dX8_hasRoom_29 rfl (nlt rfl) rfl ?_
          refine x_iload_n (i := 2) C dX8_hasRoom_30 rfl rfl ?_
          refine x_iconst C dX8_hasRoom_31 ?_
          refine x_icmp_ne (tgt := 53) C dX8_hasRoom_32 (by decide) ⟨by omega, by omega⟩ ⟨by omega, by omega⟩ (fun h5 => ?_) (fun h5 => ?_)
          · refine x_iload_n (i := 2) C dX8_hasRoom_53 rfl rfl ?_
            refine x_if_lt (tgt := 71) C dX8_hasRoom_54 (by decide) ⟨by omega, by omega⟩ (fun h6 => ?_) (fun h6 => ?_)
            · refine x_iconst C dX8_hasRoom_71 ?_
              exact x_zret C hQ (by omega) dX8_hasRoom_72 (⟨rfl, _, rfl, .inr ⟨rfl, by unfold room; split <;> omega⟩⟩)
            · refine x_iload_n (i := 2) C dX8_hasRoom_57 rfl rfl ?_
              refine x_aload_n (i := 0) C dX8_hasRoom_58 rfl rfl ?_
              refine x_getRs (r := 3) C fkX_X8_19 (nlt rfl) rfl (HG.rR hH (k := 1) (i := 4) rfl rfl) dX8_hasRoom_59 ?_
              refine x_iload_n (i := 1) C dX8_hasRoom_62 rfl rfl ?_
              refine x_iald C (nlt rfl) rfl rfl (nle rfl) (by omega) (by omega) dX8_hasRoom_63 ?_
              refine x_gen (fun v7 ev7 => ?_)
              have qv7 : (0 : Int) ≤ v7 ∧ v7 ≤ (3 : Int) := by
                rw [ev7]
                exact hH.rA (k := 3) (n := 3) (p := (0, 3)) (nlt rfl) rfl (by decide +kernel) (by omega)
              refine x_icmp_ge (tgt := 71) C dX8_hasRoom_64 (by decide) ⟨by omega, by omega⟩ ⟨by omega, by omega⟩ (fun h8 => ?_) (fun h8 => ?_)
              · refine x_iconst C dX8_hasRoom_71 ?_
                exact x_zret C hQ (by omega) dX8_hasRoom_72 (⟨rfl, _, rfl, .inr ⟨rfl, by unfold room; split <;> omega⟩⟩)
              · refine x_iconst C dX8_hasRoom_67 ?_
                refine x_goto (tgt := 72) C dX8_hasRoom_68 (by decide) ?_
                exact x_zret C hQ (by omega) dX8_hasRoom_72 (⟨rfl, _, rfl, .inl ⟨rfl, by unfold room; split <;> omega⟩⟩)
          · refine x_aload_n (i := 0) C dX8_hasRoom_35 rfl rfl ?_
            refine x_getRs (r := 3) C fkX_X8_19 (nlt rfl) rfl (HG.rR hH (k := 1) (i := 4) rfl rfl) dX8_hasRoom_36 ?_
            refine x_iload_n (i := 1) C dX8_hasRoom_39 rfl rfl ?_
            refine x_iald C (nlt rfl) rfl rfl (nle rfl) (by omega) (by omega) dX8_hasRoom_40 ?_
            refine x_gen (fun v9 ev9 => ?_)
            have qv9 : (0 : Int) ≤ v9 ∧ v9 ≤ (3 : Int) := by
              rw [ev9]
              exact hH.rA (k := 3) (n := 3) (p := (0, 3)) (nlt rfl) rfl (by decide +kernel) (by omega)
            refine x_iload_n (i := 3) C dX8_hasRoom_41 rfl rfl ?_
            refine x_icmp_ge (tgt := 49) C dX8_hasRoom_42 (by decide) ⟨by omega, by omega⟩ ⟨by omega, by omega⟩ (fun h10 => ?_) (fun h10 => ?_)
            · refine x_iconst C dX8_hasRoom_49 ?_
              refine x_goto (tgt := 72) C dX8_hasRoom_50 (by decide) ?_
              exact x_zret C hQ (by omega) dX8_hasRoom_72 (⟨rfl, _, rfl, .inr ⟨rfl, by unfold room; split <;> omega⟩⟩)
            · refine x_iconst C dX8_hasRoom_45 ?_
              refine x_goto (tgt := 72) C dX8_hasRoom_46 (by decide) ?_
              exact x_zret C hQ (by omega) dX8_hasRoom_72 (⟨rfl, _, rfl, .inl ⟨rfl, by unfold room; split <;> omega⟩⟩)
        · refine x_iconst C dX8_hasRoom_24 ?_
          refine x_goto (tgt := 29) C dX8_hasRoom_25 (by decide) ?_
          refine x_istore_n (i := 3) (lv' := [(3, .int (iI (3))), (0, .ref 1), (1, .int (iI (st))), (2, .int (iI (at_)))]) C dX8_hasRoom_29 rfl (nlt rfl) rfl ?_
          refine x_iload_n (i := 2) C dX8_hasRoom_30 rfl rfl ?_
          refine x_iconst C dX8_hasRoom_31 ?_
          refine x_icmp_ne (tgt := 53) C dX8_hasRoom_32 (by decide) ⟨by omega, by omega⟩ ⟨by omega, by omega⟩ (fun h11 => ?_) (fun h11 => ?_)
          · refine x_iload_n (i := 2) C dX8_hasRoom_53 rfl rfl ?_
            refine x_if_lt (tgt := 71) C dX8_hasRoom_54 (by decide) ⟨by omega, by omega⟩ (fun h12 => ?_) (fun h12 => ?_)
            · refine x_iconst C dX8_hasRoom_71 ?_
              exact x_zret C hQ (by omega) dX8_hasRoom_72 (⟨rfl, _, rfl, .inr ⟨rfl, by unfold room; split <;> omega⟩⟩)
            · refine x_iload_n (i := 2) C dX8_hasRoom_57 rfl rfl ?_
              refine x_aload_n (i := 0) C dX8_hasRoom_58 rfl rfl ?_
              refine x_getRs (r := 3) C fkX_X8_19 (nlt rfl) rfl (HG.rR hH (k := 1) (i := 4) rfl rfl) dX8_hasRoom_59 ?_
              refine x_iload_n (i := 1) C dX8_hasRoom_62 rfl rfl ?_
              refine x_iald C (nlt rfl) rfl rfl (nle rfl) (by omega) (by omega) dX8_hasRoom_63 ?_
              refine x_gen (fun v13 ev13 => ?_)
              have qv13 : (0 : Int) ≤ v13 ∧ v13 ≤ (3 : Int) := by
                rw [ev13]
                exact hH.rA (k := 3) (n := 3) (p := (0, 3)) (nlt rfl) rfl (by decide +kernel) (by omega)
              refine x_icmp_ge (tgt := 71) C dX8_hasRoom_64 (by decide) ⟨by omega, by omega⟩ ⟨by omega, by omega⟩ (fun h14 => ?_) (fun h14 => ?_)
              · refine x_iconst C dX8_hasRoom_71 ?_
                exact x_zret C hQ (by omega) dX8_hasRoom_72 (⟨rfl, _, rfl, .inr ⟨rfl, by unfold room; split <;> omega⟩⟩)
              · refine x_iconst C dX8_hasRoom_67 ?_
                refine x_goto (tgt := 72) C dX8_hasRoom_68 (by decide) ?_
                exact x_zret C hQ (by omega) dX8_hasRoom_72 (⟨rfl, _, rfl, .inl ⟨rfl, by unfold room; split <;> omega⟩⟩)
          · refine x_aload_n (i := 0) C dX8_hasRoom_35 rfl rfl ?_
            refine x_getRs (r := 3) C fkX_X8_19 (nlt rfl) rfl (HG.rR hH (k := 1) (i := 4) rfl rfl) dX8_hasRoom_36 ?_
            refine x_iload_n (i := 1) C dX8_hasRoom_39 rfl rfl ?_
            refine x_iald C (nlt rfl) rfl rfl (nle rfl) (by omega) (by omega) dX8_hasRoom_40 ?_
            refine x_gen (fun v15 ev15 => ?_)
            have qv15 : (0 : Int) ≤ v15 ∧ v15 ≤ (3 : Int) := by
              rw [ev15]
              exact hH.rA (k := 3) (n := 3) (p := (0, 3)) (nlt rfl) rfl (by decide +kernel) (by omega)
            refine x_iload_n (i := 3) C dX8_hasRoom_41 rfl rfl ?_
            refine x_icmp_ge (tgt := 49) C dX8_hasRoom_42 (by decide) ⟨by omega, by omega⟩ ⟨by omega, by omega⟩ (fun h16 => ?_) (fun h16 => ?_)
            · refine x_iconst C dX8_hasRoom_49 ?_
              refine x_goto (tgt := 72) C dX8_hasRoom_50 (by decide) ?_
              exact x_zret C hQ (by omega) dX8_hasRoom_72 (⟨rfl, _, rfl, .inr ⟨rfl, by unfold room; split <;> omega⟩⟩)
            · refine x_iconst C dX8_hasRoom_45 ?_
              refine x_goto (tgt := 72) C dX8_hasRoom_46 (by decide) ?_
              exact x_zret C hQ (by omega) dX8_hasRoom_72 (⟨rfl, _, rfl, .inl ⟨rfl, by unfold room; split <;> omega⟩⟩)
      · refine x_iconst C dX8_hasRoom_15 ?_
        refine x_goto (tgt := 29) C dX8_hasRoom_16 (by decide) ?_
        refine x_istore_n (i := 3) (lv' := [(3, .int (iI (2))), (0, .ref 1), (1, .int (iI (st))), (2, .int (iI (at_)))]) C dX8_hasRoom_29 rfl (nlt rfl) rfl ?_
        refine x_iload_n (i := 2) C dX8_hasRoom_30 rfl rfl ?_
        refine x_iconst C dX8_hasRoom_31 ?_
        refine x_icmp_ne (tgt := 53) C dX8_hasRoom_32 (by decide) ⟨by omega, by omega⟩ ⟨by omega, by omega⟩ (fun h17 => ?_) (fun h17 => ?_)
        · refine x_iload_n (i := 2) C dX8_hasRoom_53 rfl rfl ?_
          refine x_if_lt (tgt := 71) C dX8_hasRoom_54 (by decide) ⟨by omega, by omega⟩ (fun h18 => ?_) (fun h18 => ?_)
          · refine x_iconst C dX8_hasRoom_71 ?_
            exact x_zret C hQ (by omega) dX8_hasRoom_72 (⟨rfl, _, rfl, .inr ⟨rfl, by unfold room; split <;> omega⟩⟩)
          · refine x_iload_n (i := 2) C dX8_hasRoom_57 rfl rfl ?_
            refine x_aload_n (i := 0) C dX8_hasRoom_58 rfl rfl ?_
            refine x_getRs (r := 3) C fkX_X8_19 (nlt rfl) rfl (HG.rR hH (k := 1) (i := 4) rfl rfl) dX8_hasRoom_59 ?_
            refine x_iload_n (i := 1) C dX8_hasRoom_62 rfl rfl ?_
            refine x_iald C (nlt rfl) rfl rfl (nle rfl) (by omega) (by omega) dX8_hasRoom_63 ?_
            refine x_gen (fun v19 ev19 => ?_)
            have qv19 : (0 : Int) ≤ v19 ∧ v19 ≤ (3 : Int) := by
              rw [ev19]
              exact hH.rA (k := 3) (n := 3) (p := (0, 3)) (nlt rfl) rfl (by decide +kernel) (by omega)
            refine x_icmp_ge (tgt := 71) C dX8_hasRoom_64 (by decide) ⟨by omega, by omega⟩ ⟨by omega, by omega⟩ (fun h20 => ?_) (fun h20 => ?_)
            · refine x_iconst C dX8_hasRoom_71 ?_
              exact x_zret C hQ (by omega) dX8_hasRoom_72 (⟨rfl, _, rfl, .inr ⟨rfl, by unfold room; split <;> omega⟩⟩)
            · refine x_iconst C dX8_hasRoom_67 ?_
              refine x_goto (tgt := 72) C dX8_hasRoom_68 (by decide) ?_
              exact x_zret C hQ (by omega) dX8_hasRoom_72 (⟨rfl, _, rfl, .inl ⟨rfl, by unfold room; split <;> omega⟩⟩)
        · refine x_aload_n (i := 0) C dX8_hasRoom_35 rfl rfl ?_
          refine x_getRs (r := 3) C fkX_X8_19 (nlt rfl) rfl (HG.rR hH (k := 1) (i := 4) rfl rfl) dX8_hasRoom_36 ?_
          refine x_iload_n (i := 1) C dX8_hasRoom_39 rfl rfl ?_
          refine x_iald C (nlt rfl) rfl rfl (nle rfl) (by omega) (by omega) dX8_hasRoom_40 ?_
          refine x_gen (fun v21 ev21 => ?_)
          have qv21 : (0 : Int) ≤ v21 ∧ v21 ≤ (3 : Int) := by
            rw [ev21]
            exact hH.rA (k := 3) (n := 3) (p := (0, 3)) (nlt rfl) rfl (by decide +kernel) (by omega)
          refine x_iload_n (i := 3) C dX8_hasRoom_41 rfl rfl ?_
          refine x_icmp_ge (tgt := 49) C dX8_hasRoom_42 (by decide) ⟨by omega, by omega⟩ ⟨by omega, by omega⟩ (fun h22 => ?_) (fun h22 => ?_)
          · refine x_iconst C dX8_hasRoom_49 ?_
            refine x_goto (tgt := 72) C dX8_hasRoom_50 (by decide) ?_
            exact x_zret C hQ (by omega) dX8_hasRoom_72 (⟨rfl, _, rfl, .inr ⟨rfl, by unfold room; split <;> omega⟩⟩)
          · refine x_iconst C dX8_hasRoom_45 ?_
            refine x_goto (tgt := 72) C dX8_hasRoom_46 (by decide) ?_
            exact x_zret C hQ (by omega) dX8_hasRoom_72 (⟨rfl, _, rfl, .inl ⟨rfl, by unfold room; split <;> omega⟩⟩)
    · refine x_iconst C dX8_hasRoom_9 ?_
      exact x_zret C hQ (by omega) dX8_hasRoom_10 (⟨rfl, _, rfl, .inr ⟨rfl, by unfold room; split <;> omega⟩⟩)
def BDk (k s f : Nat) (B : BC) (X : XT) : Prop := X.1 k 0 = B.1 ∧ X.1 k 1 = B.2.1 ∧ X.2.1 k 2 = B.2.2.1 ∧ X.2.1 k 3 = B.2.2.2.1 ∧ X.1 k 4 = B.2.2.2.2.1 ∧ ∀ j, j < 6 → X.1 s j = B.2.2.2.2.2.1 j ∧ X.1 f j = B.2.2.2.2.2.2 j
def GMk (k r f : Nat) (G : GC) (X : XT) : Prop := X.1 k 0 = G.1 ∧ ∀ j, j < 30 → X.2.1 r j = G.2.1 j ∧ X.1 f j = G.2.2 j
abbrev mdCB7 : List (Nat × Option Nat) := [(7, some 0), (7, some 1), (7, some 2), (7, some 3), (7, some 4), (8, none), (9, none)]
set_option maxHeartbeats 4000000 in
set_option maxRecDepth 100000 in
theorem c_cpB7 {D : va_G} {ad : Nat → Nat} {cA : Nat → ClassId} {X0 : XT} {B : BC} (w0 : 0 ≤ B.1 ∧ B.1 ≤ 6) (w1 : 0 ≤ B.2.1 ∧ B.2.1 ≤ 6) (mb : 0 ≤ B.2.2.2.2.1 ∧ B.2.2.2.2.1 ≤ 6) (hH : HG vX X0) (hF : FR mdCB7 X0 X0) (hB : BDX B X0) : MetX (wX D ad cA) yX0_copy cX0_copy 2 none 1 60 [.ref 7, .ref 22] X0 (fun r X1 => r = none ∧ HG vX X1 ∧ FR mdCB7 X0 X1 ∧ BDk 7 8 9 B X1) := by
  have b1 := hB.1
  have b2 := hB.2.1
  have b3 := hB.2.2.2.2.1
  refine MetX.mk (own := RX0) (by decide +kernel) rfl (nle rfl) (fun E C hQ => ?_)
  refine Wx_lv (lv' := [(0, .ref 7), (1, .ref 22)]) rfl ?_
  refine x_aload_n (i := 0) C dX0_copy_0 rfl rfl ?_
  refine x_aload_n (i := 1) C dX0_copy_1 rfl rfl ?_
  refine x_getI C fkX_X0_18 (nlt rfl) rfl dX0_copy_2 ?_
  refine x_gen (fun v1 ev1 => ?_)
  have qv1 : ((-2147483648) : Int) ≤ v1 ∧ v1 ≤ (2147483647 : Int) := by
    rw [ev1]
    exact hH.rF (k := 22) (i := 0) rfl rfl
  refine x_putI C pkX_X0_18 (nlt rfl) rfl dX0_copy_5 ?_
  refine x_gX (fun Yy2 eYy2 => ?_)
  have hHy2 : HG vX Yy2 := by
    rw [eYy2]
    exact hg_wF hH (p := (0, 6)) rfl ⟨by omega, by omega⟩
  have hFy2 : FR mdCB7 X0 Yy2 := by
    rw [eYy2]
    exact FR.upI hF (rfl)
  replace eYy2 : Yy2 = upI X0 7 0 (v1) := eYy2
  have hGy2 : FR [(7, some 0)] X0 Yy2 := by
    rw [eYy2]
    exact FR.upI FR.rf rfl
  refine x_aload_n (i := 0) C dX0_copy_8 rfl rfl ?_
  refine x_aload_n (i := 1) C dX0_copy_9 rfl rfl ?_
  refine x_getI C fkX_X0_22 (nlt rfl) rfl dX0_copy_10 ?_
  refine x_gen (fun v3 ev3 => ?_)
  have qv3 : ((-2147483648) : Int) ≤ v3 ∧ v3 ≤ (2147483647 : Int) := by
    rw [ev3]
    exact hHy2.rF (k := 22) (i := 1) rfl rfl
  have kv3 : v3 = X0.1 22 1 := by rw [ev3, eYy2, upI_nc (by decide)]
  refine x_putI C pkX_X0_22 (nlt rfl) rfl dX0_copy_13 ?_
  refine x_gX (fun Yy4 eYy4 => ?_)
  have hHy4 : HG vX Yy4 := by
    rw [eYy4]
    exact hg_wF hHy2 (p := (0, 6)) rfl ⟨by omega, by omega⟩
  have hFy4 : FR mdCB7 X0 Yy4 := by
    rw [eYy4]
    exact FR.upI hFy2 (rfl)
  replace eYy4 : Yy4 = upI Yy2 7 1 (v3) := eYy4
  have hGy4 : FR [(7, some 1)] Yy2 Yy4 := by
    rw [eYy4]
    exact FR.upI FR.rf rfl
  refine x_aload_n (i := 0) C dX0_copy_16 rfl rfl ?_
  refine x_aload_n (i := 1) C dX0_copy_17 rfl rfl ?_
  refine x_getL C fkX_X0_25 (nlt rfl) rfl dX0_copy_18 ?_
  refine x_genL (fun l5 el5 => ?_)
  refine x_putL C pkX_X0_25 (nlt rfl) rfl dX0_copy_21 ?_
  refine x_gX (fun Yy6 eYy6 => ?_)
  have hHy6 : HG vX Yy6 := by
    rw [eYy6]
    exact hg_wLF hHy4 (p := ((-9223372036854775808), 9223372036854775807)) rfl (l64 _)
  have hFy6 : FR mdCB7 X0 Yy6 := by
    rw [eYy6]
    exact FR.upL hFy4 (rfl)
  replace eYy6 : Yy6 = upL Yy4 7 2 (l5) := eYy6
  have hGy6 : FR [(7, some 2)] Yy4 Yy6 := by
    rw [eYy6]
    exact FR.upL FR.rf rfl
  refine x_aload_n (i := 0) C dX0_copy_24 rfl rfl ?_
  refine x_aload_n (i := 1) C dX0_copy_25 rfl rfl ?_
  refine x_getL C fkX_X0_29 (nlt rfl) rfl dX0_copy_26 ?_
  refine x_genL (fun l7 el7 => ?_)
  refine x_putL C pkX_X0_29 (nlt rfl) rfl dX0_copy_29 ?_
  refine x_gX (fun Yy8 eYy8 => ?_)
  have hHy8 : HG vX Yy8 := by
    rw [eYy8]
    exact hg_wLF hHy6 (p := ((-9223372036854775808), 9223372036854775807)) rfl (l64 _)
  have hFy8 : FR mdCB7 X0 Yy8 := by
    rw [eYy8]
    exact FR.upL hFy6 (rfl)
  replace eYy8 : Yy8 = upL Yy6 7 3 (l7) := eYy8
  have hGy8 : FR [(7, some 3)] Yy6 Yy8 := by
    rw [eYy8]
    exact FR.upL FR.rf rfl
  refine x_aload_n (i := 0) C dX0_copy_32 rfl rfl ?_
  refine x_aload_n (i := 1) C dX0_copy_33 rfl rfl ?_
  refine x_getI C fkX_X0_32 (nlt rfl) rfl dX0_copy_34 ?_
  refine x_gen (fun v9 ev9 => ?_)
  have qv9 : ((-2147483648) : Int) ≤ v9 ∧ v9 ≤ (2147483647 : Int) := by
    rw [ev9]
    exact hHy8.rF (k := 22) (i := 4) rfl rfl
  have kv9 : v9 = X0.1 22 4 := by rw [ev9, eYy8, upL_1, eYy6, upL_1, eYy4, upI_nc (by decide), eYy2, upI_nc (by decide)]
  refine x_putI C pkX_X0_32 (nlt rfl) rfl dX0_copy_37 ?_
  refine x_gX (fun Yy10 eYy10 => ?_)
  have hHy10 : HG vX Yy10 := by
    rw [eYy10]
    exact hg_wF hHy8 (p := (0, 6)) rfl ⟨by omega, by omega⟩
  have hFy10 : FR mdCB7 X0 Yy10 := by
    rw [eYy10]
    exact FR.upI hFy8 (rfl)
  replace eYy10 : Yy10 = upI Yy8 7 4 (v9) := eYy10
  have hGy10 : FR [(7, some 4)] Yy8 Yy10 := by
    rw [eYy10]
    exact FR.upI FR.rf rfl
  refine x_aload_n (i := 1) C dX0_copy_40 rfl rfl ?_
  refine x_getRs (r := 23) C fkX_X0_9 (nlt rfl) rfl (HG.rR hHy10 (k := 22) (i := 5) rfl rfl) dX0_copy_41 ?_
  refine x_iconst C dX0_copy_44 ?_
  refine x_aload_n (i := 0) C dX0_copy_45 rfl rfl ?_
  refine x_getRs (r := 8) C fkX_X0_9 (nlt rfl) rfl (HG.rR hHy10 (k := 7) (i := 5) rfl rfl) dX0_copy_46 ?_
  refine x_iconst C dX0_copy_49 ?_
  refine x_bipush C dX0_copy_50 (by decide) ?_
  refine x_cpyI C cpX0_35 (nlt rfl) rfl rfl (nlt rfl) rfl rfl rfl (by omega) (by omega) (by omega) (by omega) (by omega) (nle rfl) (nle rfl) (nle rfl) (nle rfl) dX0_copy_52 ?_
  refine x_gX (fun Yy11 eYy11 => ?_)
  have hHy11 : HG vX Yy11 := by
    rw [eYy11]
    exact HG.cpI hHy10 (nlt rfl) rfl (nle rfl) (by decide +kernel)
  have hFy11 : FR mdCB7 X0 Yy11 := by
    rw [eYy11]
    exact FR.cpI hFy10 (fun _ => rfl)
  refine x_aload_n (i := 1) C dX0_copy_55 rfl rfl ?_
  refine x_getRs (r := 24) C fkX_X0_15 (nlt rfl) rfl (HG.rR hHy11 (k := 22) (i := 6) rfl rfl) dX0_copy_56 ?_
  refine x_iconst C dX0_copy_59 ?_
  refine x_aload_n (i := 0) C dX0_copy_60 rfl rfl ?_
  refine x_getRs (r := 9) C fkX_X0_15 (nlt rfl) rfl (HG.rR hHy11 (k := 7) (i := 6) rfl rfl) dX0_copy_61 ?_
  refine x_iconst C dX0_copy_64 ?_
  refine x_bipush C dX0_copy_65 (by decide) ?_
  refine x_cpyI C cpX0_35 (nlt rfl) rfl rfl (nlt rfl) rfl rfl rfl (by omega) (by omega) (by omega) (by omega) (by omega) (nle rfl) (nle rfl) (nle rfl) (nle rfl) dX0_copy_67 ?_
  refine x_gX (fun Yy12 eYy12 => ?_)
  have hHy12 : HG vX Yy12 := by
    rw [eYy12]
    exact HG.cpI hHy11 (nlt rfl) rfl (nle rfl) (by decide +kernel)
  have hFy12 : FR mdCB7 X0 Yy12 := by
    rw [eYy12]
    exact FR.cpI hFy11 (fun _ => rfl)
  exact x_vret C hQ dX0_copy_70 (⟨rfl, hHy12, hFy12, ⟨by rw [eYy12, cpI_o1 (by decide), eYy11, cpI_o1 (by decide), eYy10, upI_ne (by decide), eYy8, upL_1, eYy6, upL_1, eYy4, upI_ne (by decide), eYy2, upI_at]; omega, by rw [eYy12, cpI_o1 (by decide), eYy11, cpI_o1 (by decide), eYy10, upI_ne (by decide), eYy8, upL_1, eYy6, upL_1, eYy4, upI_at]; omega, by rw [eYy12, cpI_2, eYy11, cpI_2, eYy10, upI_2, eYy8, upL_ne (by decide), eYy6, upL_at]; rw [el5, eYy4, upI_2, eYy2, upI_2]; exact hB.2.2.1, by rw [eYy12, cpI_2, eYy11, cpI_2, eYy10, upI_2, eYy8, upL_at]; rw [el7, eYy6, upL_nc (by decide), eYy4, upI_2, eYy2, upI_2]; exact hB.2.2.2.1, by rw [eYy12, cpI_o1 (by decide), eYy11, cpI_o1 (by decide), eYy10, upI_at]; omega, fun j hj => ⟨by rw [eYy12, cpI_o1 (by decide), eYy11, cpI_r hj, eYy10, upI_nc (by decide), eYy8, upL_1, eYy6, upL_1, eYy4, upI_nc (by decide), eYy2, upI_nc (by decide)]; exact (hB.2.2.2.2.2 j hj).1, by rw [eYy12, cpI_r hj, eYy11, cpI_o1 (by decide), eYy10, upI_nc (by decide), eYy8, upL_1, eYy6, upL_1, eYy4, upI_nc (by decide), eYy2, upI_nc (by decide)]; exact (hB.2.2.2.2.2 j hj).2⟩⟩⟩)
abbrev mdCB10 : List (Nat × Option Nat) := [(10, some 0), (10, some 1), (10, some 2), (10, some 3), (10, some 4), (11, none), (12, none)]
set_option maxHeartbeats 4000000 in
set_option maxRecDepth 100000 in
theorem c_cpB10 {D : va_G} {ad : Nat → Nat} {cA : Nat → ClassId} {X0 : XT} {B : BC} (w0 : 0 ≤ B.1 ∧ B.1 ≤ 6) (w1 : 0 ≤ B.2.1 ∧ B.2.1 ≤ 6) (mb : 0 ≤ B.2.2.2.2.1 ∧ B.2.2.2.2.1 ≤ 6) (hH : HG vX X0) (hF : FR mdCB10 X0 X0) (hB : BDX B X0) : MetX (wX D ad cA) yX0_copy cX0_copy 2 none 1 60 [.ref 10, .ref 22] X0 (fun r X1 => r = none ∧ HG vX X1 ∧ FR mdCB10 X0 X1 ∧ BDk 10 11 12 B X1) := by
  have b1 := hB.1
  have b2 := hB.2.1
  have b3 := hB.2.2.2.2.1
  refine MetX.mk (own := RX0) (by decide +kernel) rfl (nle rfl) (fun E C hQ => ?_)
  refine Wx_lv (lv' := [(0, .ref 10), (1, .ref 22)]) rfl ?_
  refine x_aload_n (i := 0) C dX0_copy_0 rfl rfl ?_
  refine x_aload_n (i := 1) C dX0_copy_1 rfl rfl ?_
  refine x_getI C fkX_X0_18 (nlt rfl) rfl dX0_copy_2 ?_
  refine x_gen (fun v1 ev1 => ?_)
  have qv1 : ((-2147483648) : Int) ≤ v1 ∧ v1 ≤ (2147483647 : Int) := by
    rw [ev1]
    exact hH.rF (k := 22) (i := 0) rfl rfl
  refine x_putI C pkX_X0_18 (nlt rfl) rfl dX0_copy_5 ?_
  refine x_gX (fun Yy2 eYy2 => ?_)
  have hHy2 : HG vX Yy2 := by
    rw [eYy2]
    exact hg_wF hH (p := (0, 6)) rfl ⟨by omega, by omega⟩
  have hFy2 : FR mdCB10 X0 Yy2 := by
    rw [eYy2]
    exact FR.upI hF (rfl)
  replace eYy2 : Yy2 = upI X0 10 0 (v1) := eYy2
  have hGy2 : FR [(10, some 0)] X0 Yy2 := by
    rw [eYy2]
    exact FR.upI FR.rf rfl
  refine x_aload_n (i := 0) C dX0_copy_8 rfl rfl ?_
  refine x_aload_n (i := 1) C dX0_copy_9 rfl rfl ?_
  refine x_getI C fkX_X0_22 (nlt rfl) rfl dX0_copy_10 ?_
  refine x_gen (fun v3 ev3 => ?_)
  have qv3 : ((-2147483648) : Int) ≤ v3 ∧ v3 ≤ (2147483647 : Int) := by
    rw [ev3]
    exact hHy2.rF (k := 22) (i := 1) rfl rfl
  have kv3 : v3 = X0.1 22 1 := by rw [ev3, eYy2, upI_nc (by decide)]
  refine x_putI C pkX_X0_22 (nlt rfl) rfl dX0_copy_13 ?_
  refine x_gX (fun Yy4 eYy4 => ?_)
  have hHy4 : HG vX Yy4 := by
    rw [eYy4]
    exact hg_wF hHy2 (p := (0, 6)) rfl ⟨by omega, by omega⟩
  have hFy4 : FR mdCB10 X0 Yy4 := by
    rw [eYy4]
    exact FR.upI hFy2 (rfl)
  replace eYy4 : Yy4 = upI Yy2 10 1 (v3) := eYy4
  have hGy4 : FR [(10, some 1)] Yy2 Yy4 := by
    rw [eYy4]
    exact FR.upI FR.rf rfl
  refine x_aload_n (i := 0) C dX0_copy_16 rfl rfl ?_
  refine x_aload_n (i := 1) C dX0_copy_17 rfl rfl ?_
  refine x_getL C fkX_X0_25 (nlt rfl) rfl dX0_copy_18 ?_
  refine x_genL (fun l5 el5 => ?_)
  refine x_putL C pkX_X0_25 (nlt rfl) rfl dX0_copy_21 ?_
  refine x_gX (fun Yy6 eYy6 => ?_)
  have hHy6 : HG vX Yy6 := by
    rw [eYy6]
    exact hg_wLF hHy4 (p := ((-9223372036854775808), 9223372036854775807)) rfl (l64 _)
  have hFy6 : FR mdCB10 X0 Yy6 := by
    rw [eYy6]
    exact FR.upL hFy4 (rfl)
  replace eYy6 : Yy6 = upL Yy4 10 2 (l5) := eYy6
  have hGy6 : FR [(10, some 2)] Yy4 Yy6 := by
    rw [eYy6]
    exact FR.upL FR.rf rfl
  refine x_aload_n (i := 0) C dX0_copy_24 rfl rfl ?_
  refine x_aload_n (i := 1) C dX0_copy_25 rfl rfl ?_
  refine x_getL C fkX_X0_29 (nlt rfl) rfl dX0_copy_26 ?_
  refine x_genL (fun l7 el7 => ?_)
  refine x_putL C pkX_X0_29 (nlt rfl) rfl dX0_copy_29 ?_
  refine x_gX (fun Yy8 eYy8 => ?_)
  have hHy8 : HG vX Yy8 := by
    rw [eYy8]
    exact hg_wLF hHy6 (p := ((-9223372036854775808), 9223372036854775807)) rfl (l64 _)
  have hFy8 : FR mdCB10 X0 Yy8 := by
    rw [eYy8]
    exact FR.upL hFy6 (rfl)
  replace eYy8 : Yy8 = upL Yy6 10 3 (l7) := eYy8
  have hGy8 : FR [(10, some 3)] Yy6 Yy8 := by
    rw [eYy8]
    exact FR.upL FR.rf rfl
  refine x_aload_n (i := 0) C dX0_copy_32 rfl rfl ?_
  refine x_aload_n (i := 1) C dX0_copy_33 rfl rfl ?_
  refine x_getI C fkX_X0_32 (nlt rfl) rfl dX0_copy_34 ?_
  refine x_gen (fun v9 ev9 => ?_)
  have qv9 : ((-2147483648) : Int) ≤ v9 ∧ v9 ≤ (2147483647 : Int) := by
    rw [ev9]
    exact hHy8.rF (k := 22) (i := 4) rfl rfl
  have kv9 : v9 = X0.1 22 4 := by rw [ev9, eYy8, upL_1, eYy6, upL_1, eYy4, upI_nc (by decide), eYy2, upI_nc (by decide)]
  refine x_putI C pkX_X0_32 (nlt rfl) rfl dX0_copy_37 ?_
  refine x_gX (fun Yy10 eYy10 => ?_)
  have hHy10 : HG vX Yy10 := by
    rw [eYy10]
    exact hg_wF hHy8 (p := (0, 6)) rfl ⟨by omega, by omega⟩
  have hFy10 : FR mdCB10 X0 Yy10 := by
    rw [eYy10]
    exact FR.upI hFy8 (rfl)
  replace eYy10 : Yy10 = upI Yy8 10 4 (v9) := eYy10
  have hGy10 : FR [(10, some 4)] Yy8 Yy10 := by
    rw [eYy10]
    exact FR.upI FR.rf rfl
  refine x_aload_n (i := 1) C dX0_copy_40 rfl rfl ?_
  refine x_getRs (r := 23) C fkX_X0_9 (nlt rfl) rfl (HG.rR hHy10 (k := 22) (i := 5) rfl rfl) dX0_copy_41 ?_
  refine x_iconst C dX0_copy_44 ?_
  refine x_aload_n (i := 0) C dX0_copy_45 rfl rfl ?_
  refine x_getRs (r := 11) C fkX_X0_9 (nlt rfl) rfl (HG.rR hHy10 (k := 10) (i := 5) rfl rfl) dX0_copy_46 ?_
  refine x_iconst C dX0_copy_49 ?_
  refine x_bipush C dX0_copy_50 (by decide) ?_
  refine x_cpyI C cpX0_35 (nlt rfl) rfl rfl (nlt rfl) rfl rfl rfl (by omega) (by omega) (by omega) (by omega) (by omega) (nle rfl) (nle rfl) (nle rfl) (nle rfl) dX0_copy_52 ?_
  refine x_gX (fun Yy11 eYy11 => ?_)
  have hHy11 : HG vX Yy11 := by
    rw [eYy11]
    exact HG.cpI hHy10 (nlt rfl) rfl (nle rfl) (by decide +kernel)
  have hFy11 : FR mdCB10 X0 Yy11 := by
    rw [eYy11]
    exact FR.cpI hFy10 (fun _ => rfl)
  refine x_aload_n (i := 1) C dX0_copy_55 rfl rfl ?_
  refine x_getRs (r := 24) C fkX_X0_15 (nlt rfl) rfl (HG.rR hHy11 (k := 22) (i := 6) rfl rfl) dX0_copy_56 ?_
  refine x_iconst C dX0_copy_59 ?_
  refine x_aload_n (i := 0) C dX0_copy_60 rfl rfl ?_
  refine x_getRs (r := 12) C fkX_X0_15 (nlt rfl) rfl (HG.rR hHy11 (k := 10) (i := 6) rfl rfl) dX0_copy_61 ?_
  refine x_iconst C dX0_copy_64 ?_
  refine x_bipush C dX0_copy_65 (by decide) ?_
  refine x_cpyI C cpX0_35 (nlt rfl) rfl rfl (nlt rfl) rfl rfl rfl (by omega) (by omega) (by omega) (by omega) (by omega) (nle rfl) (nle rfl) (nle rfl) (nle rfl) dX0_copy_67 ?_
  refine x_gX (fun Yy12 eYy12 => ?_)
  have hHy12 : HG vX Yy12 := by
    rw [eYy12]
    exact HG.cpI hHy11 (nlt rfl) rfl (nle rfl) (by decide +kernel)
  have hFy12 : FR mdCB10 X0 Yy12 := by
    rw [eYy12]
    exact FR.cpI hFy11 (fun _ => rfl)
  exact x_vret C hQ dX0_copy_70 (⟨rfl, hHy12, hFy12, ⟨by rw [eYy12, cpI_o1 (by decide), eYy11, cpI_o1 (by decide), eYy10, upI_ne (by decide), eYy8, upL_1, eYy6, upL_1, eYy4, upI_ne (by decide), eYy2, upI_at]; omega, by rw [eYy12, cpI_o1 (by decide), eYy11, cpI_o1 (by decide), eYy10, upI_ne (by decide), eYy8, upL_1, eYy6, upL_1, eYy4, upI_at]; omega, by rw [eYy12, cpI_2, eYy11, cpI_2, eYy10, upI_2, eYy8, upL_ne (by decide), eYy6, upL_at]; rw [el5, eYy4, upI_2, eYy2, upI_2]; exact hB.2.2.1, by rw [eYy12, cpI_2, eYy11, cpI_2, eYy10, upI_2, eYy8, upL_at]; rw [el7, eYy6, upL_nc (by decide), eYy4, upI_2, eYy2, upI_2]; exact hB.2.2.2.1, by rw [eYy12, cpI_o1 (by decide), eYy11, cpI_o1 (by decide), eYy10, upI_at]; omega, fun j hj => ⟨by rw [eYy12, cpI_o1 (by decide), eYy11, cpI_r hj, eYy10, upI_nc (by decide), eYy8, upL_1, eYy6, upL_1, eYy4, upI_nc (by decide), eYy2, upI_nc (by decide)]; exact (hB.2.2.2.2.2 j hj).1, by rw [eYy12, cpI_r hj, eYy11, cpI_o1 (by decide), eYy10, upI_nc (by decide), eYy8, upL_1, eYy6, upL_1, eYy4, upI_nc (by decide), eYy2, upI_nc (by decide)]; exact (hB.2.2.2.2.2 j hj).2⟩⟩⟩)
abbrev mdCG13 : List (Nat × Option Nat) := [(13, some 0), (14, none), (15, none)]
set_option maxHeartbeats 4000000 in
set_option maxRecDepth 100000 in
theorem c_cpG13 {D : va_G} {ad : Nat → Nat} {cA : Nat → ClassId} {X0 : XT} {G : GC} (mb : 0 ≤ G.1 ∧ G.1 ≤ 30) (hH : HG vX X0) (hF : FR mdCG13 X0 X0) (hM : GMX G X0) : MetX (wX D ad cA) yX2_copy cX2_copy 2 none 1 60 [.ref 13, .ref 25] X0 (fun r X1 => r = none ∧ HG vX X1 ∧ FR mdCG13 X0 X1 ∧ GMk 13 14 15 G X1) := by
  have b1 := hM.1
  refine MetX.mk (own := RX2) (by decide +kernel) rfl (nle rfl) (fun E C hQ => ?_)
  refine Wx_lv (lv' := [(0, .ref 13), (1, .ref 25)]) rfl ?_
  refine x_aload_n (i := 0) C dX2_copy_0 rfl rfl ?_
  refine x_aload_n (i := 1) C dX2_copy_1 rfl rfl ?_
  refine x_getI C fkX_X2_19 (nlt rfl) rfl dX2_copy_2 ?_
  refine x_gen (fun v1 ev1 => ?_)
  have qv1 : ((-2147483648) : Int) ≤ v1 ∧ v1 ≤ (2147483647 : Int) := by
    rw [ev1]
    exact hH.rF (k := 25) (i := 0) rfl rfl
  refine x_putI C pkX_X2_19 (nlt rfl) rfl dX2_copy_5 ?_
  refine x_gX (fun Yy2 eYy2 => ?_)
  have hHy2 : HG vX Yy2 := by
    rw [eYy2]
    exact hg_wF hH (p := (0, 30)) rfl ⟨by omega, by omega⟩
  have hFy2 : FR mdCG13 X0 Yy2 := by
    rw [eYy2]
    exact FR.upI hF (rfl)
  replace eYy2 : Yy2 = upI X0 13 0 (v1) := eYy2
  have hGy2 : FR [(13, some 0)] X0 Yy2 := by
    rw [eYy2]
    exact FR.upI FR.rf rfl
  refine x_aload_n (i := 1) C dX2_copy_8 rfl rfl ?_
  refine x_getRs (r := 26) C fkX_X2_9 (nlt rfl) rfl (HG.rR hHy2 (k := 25) (i := 1) rfl rfl) dX2_copy_9 ?_
  refine x_iconst C dX2_copy_12 ?_
  refine x_aload_n (i := 0) C dX2_copy_13 rfl rfl ?_
  refine x_getRs (r := 14) C fkX_X2_9 (nlt rfl) rfl (HG.rR hHy2 (k := 13) (i := 1) rfl rfl) dX2_copy_14 ?_
  refine x_iconst C dX2_copy_17 ?_
  refine x_bipush C dX2_copy_18 (by decide) ?_
  refine x_cpyL C cpX2_23 (nlt rfl) rfl rfl (nlt rfl) rfl rfl (by omega) (by omega) (by omega) (by omega) (by omega) (nle rfl) (nle rfl) (nle rfl) (nle rfl) dX2_copy_20 ?_
  refine x_gX (fun Yy3 eYy3 => ?_)
  have hHy3 : HG vX Yy3 := by
    rw [eYy3]
    exact HG.cpL hHy2 (nlt rfl) rfl (nle rfl) (by decide +kernel)
  have hFy3 : FR mdCG13 X0 Yy3 := by
    rw [eYy3]
    exact FR.cpL hFy2 (fun _ => rfl)
  refine x_aload_n (i := 1) C dX2_copy_23 rfl rfl ?_
  refine x_getRs (r := 27) C fkX_X2_15 (nlt rfl) rfl (HG.rR hHy3 (k := 25) (i := 2) rfl rfl) dX2_copy_24 ?_
  refine x_iconst C dX2_copy_27 ?_
  refine x_aload_n (i := 0) C dX2_copy_28 rfl rfl ?_
  refine x_getRs (r := 15) C fkX_X2_15 (nlt rfl) rfl (HG.rR hHy3 (k := 13) (i := 2) rfl rfl) dX2_copy_29 ?_
  refine x_iconst C dX2_copy_32 ?_
  refine x_bipush C dX2_copy_33 (by decide) ?_
  refine x_cpyI C cpX2_23 (nlt rfl) rfl rfl (nlt rfl) rfl rfl rfl (by omega) (by omega) (by omega) (by omega) (by omega) (nle rfl) (nle rfl) (nle rfl) (nle rfl) dX2_copy_35 ?_
  refine x_gX (fun Yy4 eYy4 => ?_)
  have hHy4 : HG vX Yy4 := by
    rw [eYy4]
    exact HG.cpI hHy3 (nlt rfl) rfl (nle rfl) (by decide +kernel)
  have hFy4 : FR mdCG13 X0 Yy4 := by
    rw [eYy4]
    exact FR.cpI hFy3 (fun _ => rfl)
  exact x_vret C hQ dX2_copy_38 (⟨rfl, hHy4, hFy4, ⟨by rw [eYy4, cpI_o1 (by decide), eYy3, cpL_1, eYy2, upI_at]; omega, fun j hj => ⟨by rw [eYy4, cpI_2, eYy3, cpL_r hj, eYy2, upI_2]; exact (hM.2 j hj).1, by rw [eYy4, cpI_r hj, eYy3, cpL_1, eYy2, upI_nc (by decide)]; exact (hM.2 j hj).2⟩⟩⟩)
abbrev mdCG16 : List (Nat × Option Nat) := [(16, some 0), (17, none), (18, none)]
set_option maxHeartbeats 4000000 in
set_option maxRecDepth 100000 in
theorem c_cpG16 {D : va_G} {ad : Nat → Nat} {cA : Nat → ClassId} {X0 : XT} {G : GC} (mb : 0 ≤ G.1 ∧ G.1 ≤ 30) (hH : HG vX X0) (hF : FR mdCG16 X0 X0) (hM : GMX G X0) : MetX (wX D ad cA) yX2_copy cX2_copy 2 none 1 60 [.ref 16, .ref 25] X0 (fun r X1 => r = none ∧ HG vX X1 ∧ FR mdCG16 X0 X1 ∧ GMk 16 17 18 G X1) := by
  have b1 := hM.1
  refine MetX.mk (own := RX2) (by decide +kernel) rfl (nle rfl) (fun E C hQ => ?_)
  refine Wx_lv (lv' := [(0, .ref 16), (1, .ref 25)]) rfl ?_
  refine x_aload_n (i := 0) C dX2_copy_0 rfl rfl ?_
  refine x_aload_n (i := 1) C dX2_copy_1 rfl rfl ?_
  refine x_getI C fkX_X2_19 (nlt rfl) rfl dX2_copy_2 ?_
  refine x_gen (fun v1 ev1 => ?_)
  have qv1 : ((-2147483648) : Int) ≤ v1 ∧ v1 ≤ (2147483647 : Int) := by
    rw [ev1]
    exact hH.rF (k := 25) (i := 0) rfl rfl
  refine x_putI C pkX_X2_19 (nlt rfl) rfl dX2_copy_5 ?_
  refine x_gX (fun Yy2 eYy2 => ?_)
  have hHy2 : HG vX Yy2 := by
    rw [eYy2]
    exact hg_wF hH (p := (0, 30)) rfl ⟨by omega, by omega⟩
  have hFy2 : FR mdCG16 X0 Yy2 := by
    rw [eYy2]
    exact FR.upI hF (rfl)
  replace eYy2 : Yy2 = upI X0 16 0 (v1) := eYy2
  have hGy2 : FR [(16, some 0)] X0 Yy2 := by
    rw [eYy2]
    exact FR.upI FR.rf rfl
  refine x_aload_n (i := 1) C dX2_copy_8 rfl rfl ?_
  refine x_getRs (r := 26) C fkX_X2_9 (nlt rfl) rfl (HG.rR hHy2 (k := 25) (i := 1) rfl rfl) dX2_copy_9 ?_
  refine x_iconst C dX2_copy_12 ?_
  refine x_aload_n (i := 0) C dX2_copy_13 rfl rfl ?_
  refine x_getRs (r := 17) C fkX_X2_9 (nlt rfl) rfl (HG.rR hHy2 (k := 16) (i := 1) rfl rfl) dX2_copy_14 ?_
  refine x_iconst C dX2_copy_17 ?_
  refine x_bipush C dX2_copy_18 (by decide) ?_
  refine x_cpyL C cpX2_23 (nlt rfl) rfl rfl (nlt rfl) rfl rfl (by omega) (by omega) (by omega) (by omega) (by omega) (nle rfl) (nle rfl) (nle rfl) (nle rfl) dX2_copy_20 ?_
  refine x_gX (fun Yy3 eYy3 => ?_)
  have hHy3 : HG vX Yy3 := by
    rw [eYy3]
    exact HG.cpL hHy2 (nlt rfl) rfl (nle rfl) (by decide +kernel)
  have hFy3 : FR mdCG16 X0 Yy3 := by
    rw [eYy3]
    exact FR.cpL hFy2 (fun _ => rfl)
  refine x_aload_n (i := 1) C dX2_copy_23 rfl rfl ?_
  refine x_getRs (r := 27) C fkX_X2_15 (nlt rfl) rfl (HG.rR hHy3 (k := 25) (i := 2) rfl rfl) dX2_copy_24 ?_
  refine x_iconst C dX2_copy_27 ?_
  refine x_aload_n (i := 0) C dX2_copy_28 rfl rfl ?_
  refine x_getRs (r := 18) C fkX_X2_15 (nlt rfl) rfl (HG.rR hHy3 (k := 16) (i := 2) rfl rfl) dX2_copy_29 ?_
  refine x_iconst C dX2_copy_32 ?_
  refine x_bipush C dX2_copy_33 (by decide) ?_
  refine x_cpyI C cpX2_23 (nlt rfl) rfl rfl (nlt rfl) rfl rfl rfl (by omega) (by omega) (by omega) (by omega) (by omega) (nle rfl) (nle rfl) (nle rfl) (nle rfl) dX2_copy_35 ?_
  refine x_gX (fun Yy4 eYy4 => ?_)
  have hHy4 : HG vX Yy4 := by
    rw [eYy4]
    exact HG.cpI hHy3 (nlt rfl) rfl (nle rfl) (by decide +kernel)
  have hFy4 : FR mdCG16 X0 Yy4 := by
    rw [eYy4]
    exact FR.cpI hFy3 (fun _ => rfl)
  exact x_vret C hQ dX2_copy_38 (⟨rfl, hHy4, hFy4, ⟨by rw [eYy4, cpI_o1 (by decide), eYy3, cpL_1, eYy2, upI_at]; omega, fun j hj => ⟨by rw [eYy4, cpI_2, eYy3, cpL_r hj, eYy2, upI_2]; exact (hM.2 j hj).1, by rw [eYy4, cpI_r hj, eYy3, cpL_1, eYy2, upI_nc (by decide)]; exact (hM.2 j hj).2⟩⟩⟩)
abbrev mdTk00 : List (Nat × Option Nat) := [(3, some 0), (7, some 0), (7, some 1), (7, some 2), (7, some 3), (7, some 4), (8, none), (9, none)]
set_option maxHeartbeats 4000000 in
set_option maxRecDepth 100000 in
theorem c_take00n {D : va_G} {ad : Nat → Nat} {cA : Nat → ClassId} {X0 : XT} {B : BC} (w0 : 0 ≤ B.1 ∧ B.1 ≤ 6) (w1 : 0 ≤ B.2.1 ∧ B.2.1 ≤ 6) (mb : 0 ≤ B.2.2.2.2.1 ∧ B.2.2.2.2.1 ≤ 6) (hB : BDX B X0) (hk : X0.1 3 0 = 0) (hH : HG vX X0) (hF : FR mdTk00 X0 X0) : MetX (wX D ad cA) yX8_take cX8_take 5 (some .int) 2 81 [.ref 1, .ref 21, .int (iI (0)), .int (iI ((-1)))] X0 (fun r X1 => ∃ u : Int, r = some (.int (iI u)) ∧ u = 0 ∧ HG vX X1 ∧ FR mdTk00 X0 X1 ∧ X1.1 3 0 = (1 : Int) ∧ BDk 7 8 9 B X1) := by
  have cb : (0 : Int) ≤ X0.1 3 0 ∧ X0.1 3 0 ≤ 2 := hH.rF (k := 3) (i := 0) (p := (0, 2)) rfl rfl
  refine MetX.mk (own := RX8) (by decide +kernel) rfl (nle rfl) (fun E C hQ => ?_)
  refine Wx_lv (lv' := [(0, .ref 1), (1, .ref 21), (2, .int (iI (0))), (3, .int (iI ((-1))))]) rfl ?_
  refine x_iload_n (i := 3) C dX8_take_0 rfl rfl ?_
  refine x_iconst C dX8_take_1 ?_
  refine x_icmp_ne (tgt := 14) C dX8_take_2 (by decide) ⟨by omega, by omega⟩ ⟨by omega, by omega⟩ (fun h1 => by exfalso; omega) (fun h1 => ?_)
  refine x_aload_n (i := 0) C dX8_take_5 rfl rfl ?_
  refine x_getRs (r := 3) C fkX_X8_19 (nlt rfl) rfl (HG.rR hH (k := 1) (i := 4) rfl rfl) dX8_take_6 ?_
  refine x_iload_n (i := 2) C dX8_take_9 rfl rfl ?_
  refine x_iald C (nlt rfl) rfl rfl (nle rfl) (by omega) (by omega) dX8_take_10 ?_
  refine x_gen (fun v2 ev2 => ?_)
  replace ev2 : v2 = X0.1 3 0 := ev2
  have qv2 : (0 : Int) ≤ v2 ∧ v2 ≤ (2 : Int) := by
    rw [ev2]
    exact hH.rF (k := 3) (i := 0) (p := (0, 2)) rfl rfl
  refine x_goto (tgt := 15) C dX8_take_11 (by decide) ?_
  obtain rfl : v2 = 0 := by omega
  refine x_istore (lv' := [(4, .int (iI (0))), (0, .ref 1), (1, .ref 21), (2, .int (iI (0))), (3, .int (iI ((-1))))]) C dX8_take_15 (nlt rfl) rfl ?_
  refine x_iload_n (i := 2) C dX8_take_17 rfl rfl ?_
  refine x_if_ne (tgt := 38) C dX8_take_18 (by decide) ⟨by omega, by omega⟩ (fun h3 => by exfalso; omega) (fun h3 => ?_)
  refine x_aload_n (i := 0) C dX8_take_21 rfl rfl ?_
  refine x_getRs (r := 4) C fkX_X8_24 (nlt rfl) rfl (HG.rR hH (k := 1) (i := 5) rfl rfl) dX8_take_22 ?_
  refine x_iload C dX8_take_25 rfl ?_
  refine x_aald (r := some 7) C (nlt rfl) rfl rfl (nle rfl) (by omega) (by omega) (HG.rR hH (k := 4) (i := 0) rfl rfl) dX8_take_27 ?_
  refine x_aload_n (i := 1) C dX8_take_28 rfl rfl ?_
  refine x_getRs (r := 22) C fkX_X8_59 (nlt rfl) rfl (HG.rR hH (k := 21) (i := 0) rfl rfl) dX8_take_29 ?_
  refine x_callV (As := [.ref 22]) C (by exact (c_cpB7 (B := B) w0 w1 mb hH FR.rf hB)) ckX8_52 im_X0_copy se_X0_copy (nlt rfl) rfl rfl rfl rfl (nle rfl) (by exact ⟨nle rfl, nle rfl⟩) dX8_take_32 ?_
  rintro _ Yy4 ⟨rfl, hHy4, hGy4, hC⟩
  have hFy4 : FR mdTk00 X0 Yy4 := FR.tr hF hGy4 (by decide)
  refine Wx_st (st' := []) rfl ?_
  refine x_goto (tgt := 71) C dX8_take_35 (by decide) ?_
  refine x_aload_n (i := 0) C dX8_take_71 rfl rfl ?_
  refine x_getRs (r := 3) C fkX_X8_19 (nlt rfl) rfl (HG.rR hHy4 (k := 1) (i := 4) rfl rfl) dX8_take_72 ?_
  refine x_iload_n (i := 2) C dX8_take_75 rfl rfl ?_
  refine x_aload_n (i := 0) C dX8_take_76 rfl rfl ?_
  refine x_getRs (r := 3) C fkX_X8_19 (nlt rfl) rfl (HG.rR hHy4 (k := 1) (i := 4) rfl rfl) dX8_take_77 ?_
  refine x_iload_n (i := 2) C dX8_take_80 rfl rfl ?_
  refine x_iald C (nlt rfl) rfl rfl (nle rfl) (by omega) (by omega) dX8_take_81 ?_
  refine x_gen (fun v5 ev5 => ?_)
  replace ev5 : v5 = Yy4.1 3 0 := ev5
  have qv5 : (0 : Int) ≤ v5 ∧ v5 ≤ (2 : Int) := by
    rw [ev5]
    exact hHy4.rF (k := 3) (i := 0) (p := (0, 2)) rfl rfl
  have kv5 : v5 = X0.1 3 0 := by rw [ev5, (hGy4 3 0 rfl).1]
  refine x_iload C dX8_take_82 rfl ?_
  refine x_iconst C dX8_take_84 ?_
  refine x_iadd C dX8_take_85 ?_
  refine x_eq (b := 1) rfl ?_
  refine x_mmax C ⟨by omega, by omega⟩ ⟨by omega, by omega⟩ (lw_gi 785 (by decide +kernel) rfl : Cond.methodLink RX8 73 Lib.Math.max.name ∈ lw_g) (lw_gi 623 (by decide +kernel) rfl : Cond.static Lib.Math.max.name ∈ lw_g) (lw_gi 129 (by decide +kernel) rfl : Cond.initialized "java/lang/Math" ∈ lw_g) (lw_gi 624 (by decide +kernel) rfl : Cond.code Lib.Math.max.name Lib.Math.max.code 2 (some .int) ∈ lw_g) (nle rfl) (nle rfl) dX8_take_86 (fun v6 h7 => ?_)
  refine x_iast C (nlt rfl) rfl rfl (nle rfl) (by omega) (by omega) dX8_take_89 ?_
  refine x_gX (fun Yy8 eYy8 => ?_)
  have hHy8 : HG vX Yy8 := by
    rw [eYy8]
    exact hg_wF hHy4 (p := (0, 2)) rfl ⟨by omega, by omega⟩
  have hFy8 : FR mdTk00 X0 Yy8 := by
    rw [eYy8]
    exact FR.upI hFy4 (rfl)
  replace eYy8 : Yy8 = upI Yy4 3 0 (v6) := eYy8
  have hGy8 : FR [(3, some 0)] Yy4 Yy8 := by
    rw [eYy8]
    exact FR.upI FR.rf rfl
  refine x_iload C dX8_take_90 rfl ?_
  exact x_iret C hQ dX8_take_92 (⟨_, rfl, rfl, hHy8, hFy8, by rw [eYy8, upI_at]; omega, ⟨by rw [eYy8, upI_nc (by decide)]; exact hC.1, by rw [eYy8, upI_nc (by decide)]; exact hC.2.1, by rw [eYy8, upI_2]; exact hC.2.2.1, by rw [eYy8, upI_2]; exact hC.2.2.2.1, by rw [eYy8, upI_nc (by decide)]; exact hC.2.2.2.2.1, fun j hj => ⟨by rw [eYy8, upI_nc (by decide)]; exact (hC.2.2.2.2.2 j hj).1, by rw [eYy8, upI_nc (by decide)]; exact (hC.2.2.2.2.2 j hj).2⟩⟩⟩)
set_option maxHeartbeats 4000000 in
set_option maxRecDepth 100000 in
theorem c_take00o {D : va_G} {ad : Nat → Nat} {cA : Nat → ClassId} {X0 : XT} {B : BC} (w0 : 0 ≤ B.1 ∧ B.1 ≤ 6) (w1 : 0 ≤ B.2.1 ∧ B.2.1 ≤ 6) (mb : 0 ≤ B.2.2.2.2.1 ∧ B.2.2.2.2.1 ≤ 6) (hB : BDX B X0) (hk : 0 < X0.1 3 0) (hH : HG vX X0) (hF : FR mdTk00 X0 X0) : MetX (wX D ad cA) yX8_take cX8_take 5 (some .int) 2 81 [.ref 1, .ref 21, .int (iI (0)), .int (iI (0))] X0 (fun r X1 => ∃ u : Int, r = some (.int (iI u)) ∧ u = 0 ∧ HG vX X1 ∧ FR mdTk00 X0 X1 ∧ X1.1 3 0 = X0.1 3 0 ∧ BDk 7 8 9 B X1) := by
  have cb : (0 : Int) ≤ X0.1 3 0 ∧ X0.1 3 0 ≤ 2 := hH.rF (k := 3) (i := 0) (p := (0, 2)) rfl rfl
  refine MetX.mk (own := RX8) (by decide +kernel) rfl (nle rfl) (fun E C hQ => ?_)
  refine Wx_lv (lv' := [(0, .ref 1), (1, .ref 21), (2, .int (iI (0))), (3, .int (iI (0)))]) rfl ?_
  refine x_iload_n (i := 3) C dX8_take_0 rfl rfl ?_
  refine x_iconst C dX8_take_1 ?_
  refine x_icmp_ne (tgt := 14) C dX8_take_2 (by decide) ⟨by omega, by omega⟩ ⟨by omega, by omega⟩ (fun h1 => ?_) (fun h1 => by exfalso; omega)
  refine x_iload_n (i := 3) C dX8_take_14 rfl rfl ?_
  refine x_istore (lv' := [(4, .int (iI (0))), (0, .ref 1), (1, .ref 21), (2, .int (iI (0))), (3, .int (iI (0)))]) C dX8_take_15 (nlt rfl) rfl ?_
  refine x_iload_n (i := 2) C dX8_take_17 rfl rfl ?_
  refine x_if_ne (tgt := 38) C dX8_take_18 (by decide) ⟨by omega, by omega⟩ (fun h2 => by exfalso; omega) (fun h2 => ?_)
  refine x_aload_n (i := 0) C dX8_take_21 rfl rfl ?_
  refine x_getRs (r := 4) C fkX_X8_24 (nlt rfl) rfl (HG.rR hH (k := 1) (i := 5) rfl rfl) dX8_take_22 ?_
  refine x_iload C dX8_take_25 rfl ?_
  refine x_aald (r := some 7) C (nlt rfl) rfl rfl (nle rfl) (by omega) (by omega) (HG.rR hH (k := 4) (i := 0) rfl rfl) dX8_take_27 ?_
  refine x_aload_n (i := 1) C dX8_take_28 rfl rfl ?_
  refine x_getRs (r := 22) C fkX_X8_59 (nlt rfl) rfl (HG.rR hH (k := 21) (i := 0) rfl rfl) dX8_take_29 ?_
  refine x_callV (As := [.ref 22]) C (by exact (c_cpB7 (B := B) w0 w1 mb hH FR.rf hB)) ckX8_52 im_X0_copy se_X0_copy (nlt rfl) rfl rfl rfl rfl (nle rfl) (by exact ⟨nle rfl, nle rfl⟩) dX8_take_32 ?_
  rintro _ Yy3 ⟨rfl, hHy3, hGy3, hC⟩
  have hFy3 : FR mdTk00 X0 Yy3 := FR.tr hF hGy3 (by decide)
  refine Wx_st (st' := []) rfl ?_
  refine x_goto (tgt := 71) C dX8_take_35 (by decide) ?_
  refine x_aload_n (i := 0) C dX8_take_71 rfl rfl ?_
  refine x_getRs (r := 3) C fkX_X8_19 (nlt rfl) rfl (HG.rR hHy3 (k := 1) (i := 4) rfl rfl) dX8_take_72 ?_
  refine x_iload_n (i := 2) C dX8_take_75 rfl rfl ?_
  refine x_aload_n (i := 0) C dX8_take_76 rfl rfl ?_
  refine x_getRs (r := 3) C fkX_X8_19 (nlt rfl) rfl (HG.rR hHy3 (k := 1) (i := 4) rfl rfl) dX8_take_77 ?_
  refine x_iload_n (i := 2) C dX8_take_80 rfl rfl ?_
  refine x_iald C (nlt rfl) rfl rfl (nle rfl) (by omega) (by omega) dX8_take_81 ?_
  refine x_gen (fun v4 ev4 => ?_)
  replace ev4 : v4 = Yy3.1 3 0 := ev4
  have qv4 : (0 : Int) ≤ v4 ∧ v4 ≤ (2 : Int) := by
    rw [ev4]
    exact hHy3.rF (k := 3) (i := 0) (p := (0, 2)) rfl rfl
  have kv4 : v4 = X0.1 3 0 := by rw [ev4, (hGy3 3 0 rfl).1]
  refine x_iload C dX8_take_82 rfl ?_
  refine x_iconst C dX8_take_84 ?_
  refine x_iadd C dX8_take_85 ?_
  refine x_eq (b := 1) rfl ?_
  refine x_mmax C ⟨by omega, by omega⟩ ⟨by omega, by omega⟩ (lw_gi 785 (by decide +kernel) rfl : Cond.methodLink RX8 73 Lib.Math.max.name ∈ lw_g) (lw_gi 623 (by decide +kernel) rfl : Cond.static Lib.Math.max.name ∈ lw_g) (lw_gi 129 (by decide +kernel) rfl : Cond.initialized "java/lang/Math" ∈ lw_g) (lw_gi 624 (by decide +kernel) rfl : Cond.code Lib.Math.max.name Lib.Math.max.code 2 (some .int) ∈ lw_g) (nle rfl) (nle rfl) dX8_take_86 (fun v5 h6 => ?_)
  refine x_iast C (nlt rfl) rfl rfl (nle rfl) (by omega) (by omega) dX8_take_89 ?_
  refine x_gX (fun Yy7 eYy7 => ?_)
  have hHy7 : HG vX Yy7 := by
    rw [eYy7]
    exact hg_wF hHy3 (p := (0, 2)) rfl ⟨by omega, by omega⟩
  have hFy7 : FR mdTk00 X0 Yy7 := by
    rw [eYy7]
    exact FR.upI hFy3 (rfl)
  replace eYy7 : Yy7 = upI Yy3 3 0 (v5) := eYy7
  have hGy7 : FR [(3, some 0)] Yy3 Yy7 := by
    rw [eYy7]
    exact FR.upI FR.rf rfl
  refine x_iload C dX8_take_90 rfl ?_
  exact x_iret C hQ dX8_take_92 (⟨_, rfl, rfl, hHy7, hFy7, by rw [eYy7, upI_at]; omega, ⟨by rw [eYy7, upI_nc (by decide)]; exact hC.1, by rw [eYy7, upI_nc (by decide)]; exact hC.2.1, by rw [eYy7, upI_2]; exact hC.2.2.1, by rw [eYy7, upI_2]; exact hC.2.2.2.1, by rw [eYy7, upI_nc (by decide)]; exact hC.2.2.2.2.1, fun j hj => ⟨by rw [eYy7, upI_nc (by decide)]; exact (hC.2.2.2.2.2 j hj).1, by rw [eYy7, upI_nc (by decide)]; exact (hC.2.2.2.2.2 j hj).2⟩⟩⟩)
abbrev mdTk01 : List (Nat × Option Nat) := [(3, some 0), (10, some 0), (10, some 1), (10, some 2), (10, some 3), (10, some 4), (11, none), (12, none)]
set_option maxHeartbeats 4000000 in
set_option maxRecDepth 100000 in
theorem c_take01n {D : va_G} {ad : Nat → Nat} {cA : Nat → ClassId} {X0 : XT} {B : BC} (w0 : 0 ≤ B.1 ∧ B.1 ≤ 6) (w1 : 0 ≤ B.2.1 ∧ B.2.1 ≤ 6) (mb : 0 ≤ B.2.2.2.2.1 ∧ B.2.2.2.2.1 ≤ 6) (hB : BDX B X0) (hk : X0.1 3 0 = 1) (hH : HG vX X0) (hF : FR mdTk01 X0 X0) : MetX (wX D ad cA) yX8_take cX8_take 5 (some .int) 2 81 [.ref 1, .ref 21, .int (iI (0)), .int (iI ((-1)))] X0 (fun r X1 => ∃ u : Int, r = some (.int (iI u)) ∧ u = 1 ∧ HG vX X1 ∧ FR mdTk01 X0 X1 ∧ X1.1 3 0 = (2 : Int) ∧ BDk 10 11 12 B X1) := by
  have cb : (0 : Int) ≤ X0.1 3 0 ∧ X0.1 3 0 ≤ 2 := hH.rF (k := 3) (i := 0) (p := (0, 2)) rfl rfl
  refine MetX.mk (own := RX8) (by decide +kernel) rfl (nle rfl) (fun E C hQ => ?_)
  refine Wx_lv (lv' := [(0, .ref 1), (1, .ref 21), (2, .int (iI (0))), (3, .int (iI ((-1))))]) rfl ?_
  refine x_iload_n (i := 3) C dX8_take_0 rfl rfl ?_
  refine x_iconst C dX8_take_1 ?_
  refine x_icmp_ne (tgt := 14) C dX8_take_2 (by decide) ⟨by omega, by omega⟩ ⟨by omega, by omega⟩ (fun h1 => by exfalso; omega) (fun h1 => ?_)
  refine x_aload_n (i := 0) C dX8_take_5 rfl rfl ?_
  refine x_getRs (r := 3) C fkX_X8_19 (nlt rfl) rfl (HG.rR hH (k := 1) (i := 4) rfl rfl) dX8_take_6 ?_
  refine x_iload_n (i := 2) C dX8_take_9 rfl rfl ?_
  refine x_iald C (nlt rfl) rfl rfl (nle rfl) (by omega) (by omega) dX8_take_10 ?_
  refine x_gen (fun v2 ev2 => ?_)
  replace ev2 : v2 = X0.1 3 0 := ev2
  have qv2 : (0 : Int) ≤ v2 ∧ v2 ≤ (2 : Int) := by
    rw [ev2]
    exact hH.rF (k := 3) (i := 0) (p := (0, 2)) rfl rfl
  refine x_goto (tgt := 15) C dX8_take_11 (by decide) ?_
  obtain rfl : v2 = 1 := by omega
  refine x_istore (lv' := [(4, .int (iI (1))), (0, .ref 1), (1, .ref 21), (2, .int (iI (0))), (3, .int (iI ((-1))))]) C dX8_take_15 (nlt rfl) rfl ?_
  refine x_iload_n (i := 2) C dX8_take_17 rfl rfl ?_
  refine x_if_ne (tgt := 38) C dX8_take_18 (by decide) ⟨by omega, by omega⟩ (fun h3 => by exfalso; omega) (fun h3 => ?_)
  refine x_aload_n (i := 0) C dX8_take_21 rfl rfl ?_
  refine x_getRs (r := 4) C fkX_X8_24 (nlt rfl) rfl (HG.rR hH (k := 1) (i := 5) rfl rfl) dX8_take_22 ?_
  refine x_iload C dX8_take_25 rfl ?_
  refine x_aald (r := some 10) C (nlt rfl) rfl rfl (nle rfl) (by omega) (by omega) (HG.rR hH (k := 4) (i := 1) rfl rfl) dX8_take_27 ?_
  refine x_aload_n (i := 1) C dX8_take_28 rfl rfl ?_
  refine x_getRs (r := 22) C fkX_X8_59 (nlt rfl) rfl (HG.rR hH (k := 21) (i := 0) rfl rfl) dX8_take_29 ?_
  refine x_callV (As := [.ref 22]) C (by exact (c_cpB10 (B := B) w0 w1 mb hH FR.rf hB)) ckX8_52 im_X0_copy se_X0_copy (nlt rfl) rfl rfl rfl rfl (nle rfl) (by exact ⟨nle rfl, nle rfl⟩) dX8_take_32 ?_
  rintro _ Yy4 ⟨rfl, hHy4, hGy4, hC⟩
  have hFy4 : FR mdTk01 X0 Yy4 := FR.tr hF hGy4 (by decide)
  refine Wx_st (st' := []) rfl ?_
  refine x_goto (tgt := 71) C dX8_take_35 (by decide) ?_
  refine x_aload_n (i := 0) C dX8_take_71 rfl rfl ?_
  refine x_getRs (r := 3) C fkX_X8_19 (nlt rfl) rfl (HG.rR hHy4 (k := 1) (i := 4) rfl rfl) dX8_take_72 ?_
  refine x_iload_n (i := 2) C dX8_take_75 rfl rfl ?_
  refine x_aload_n (i := 0) C dX8_take_76 rfl rfl ?_
  refine x_getRs (r := 3) C fkX_X8_19 (nlt rfl) rfl (HG.rR hHy4 (k := 1) (i := 4) rfl rfl) dX8_take_77 ?_
  refine x_iload_n (i := 2) C dX8_take_80 rfl rfl ?_
  refine x_iald C (nlt rfl) rfl rfl (nle rfl) (by omega) (by omega) dX8_take_81 ?_
  refine x_gen (fun v5 ev5 => ?_)
  replace ev5 : v5 = Yy4.1 3 0 := ev5
  have qv5 : (0 : Int) ≤ v5 ∧ v5 ≤ (2 : Int) := by
    rw [ev5]
    exact hHy4.rF (k := 3) (i := 0) (p := (0, 2)) rfl rfl
  have kv5 : v5 = X0.1 3 0 := by rw [ev5, (hGy4 3 0 rfl).1]
  refine x_iload C dX8_take_82 rfl ?_
  refine x_iconst C dX8_take_84 ?_
  refine x_iadd C dX8_take_85 ?_
  refine x_eq (b := 2) rfl ?_
  refine x_mmax C ⟨by omega, by omega⟩ ⟨by omega, by omega⟩ (lw_gi 785 (by decide +kernel) rfl : Cond.methodLink RX8 73 Lib.Math.max.name ∈ lw_g) (lw_gi 623 (by decide +kernel) rfl : Cond.static Lib.Math.max.name ∈ lw_g) (lw_gi 129 (by decide +kernel) rfl : Cond.initialized "java/lang/Math" ∈ lw_g) (lw_gi 624 (by decide +kernel) rfl : Cond.code Lib.Math.max.name Lib.Math.max.code 2 (some .int) ∈ lw_g) (nle rfl) (nle rfl) dX8_take_86 (fun v6 h7 => ?_)
  refine x_iast C (nlt rfl) rfl rfl (nle rfl) (by omega) (by omega) dX8_take_89 ?_
  refine x_gX (fun Yy8 eYy8 => ?_)
  have hHy8 : HG vX Yy8 := by
    rw [eYy8]
    exact hg_wF hHy4 (p := (0, 2)) rfl ⟨by omega, by omega⟩
  have hFy8 : FR mdTk01 X0 Yy8 := by
    rw [eYy8]
    exact FR.upI hFy4 (rfl)
  replace eYy8 : Yy8 = upI Yy4 3 0 (v6) := eYy8
  have hGy8 : FR [(3, some 0)] Yy4 Yy8 := by
    rw [eYy8]
    exact FR.upI FR.rf rfl
  refine x_iload C dX8_take_90 rfl ?_
  exact x_iret C hQ dX8_take_92 (⟨_, rfl, rfl, hHy8, hFy8, by rw [eYy8, upI_at]; omega, ⟨by rw [eYy8, upI_nc (by decide)]; exact hC.1, by rw [eYy8, upI_nc (by decide)]; exact hC.2.1, by rw [eYy8, upI_2]; exact hC.2.2.1, by rw [eYy8, upI_2]; exact hC.2.2.2.1, by rw [eYy8, upI_nc (by decide)]; exact hC.2.2.2.2.1, fun j hj => ⟨by rw [eYy8, upI_nc (by decide)]; exact (hC.2.2.2.2.2 j hj).1, by rw [eYy8, upI_nc (by decide)]; exact (hC.2.2.2.2.2 j hj).2⟩⟩⟩)
set_option maxHeartbeats 4000000 in
set_option maxRecDepth 100000 in
theorem c_take01o {D : va_G} {ad : Nat → Nat} {cA : Nat → ClassId} {X0 : XT} {B : BC} (w0 : 0 ≤ B.1 ∧ B.1 ≤ 6) (w1 : 0 ≤ B.2.1 ∧ B.2.1 ≤ 6) (mb : 0 ≤ B.2.2.2.2.1 ∧ B.2.2.2.2.1 ≤ 6) (hB : BDX B X0) (hk : 1 < X0.1 3 0) (hH : HG vX X0) (hF : FR mdTk01 X0 X0) : MetX (wX D ad cA) yX8_take cX8_take 5 (some .int) 2 81 [.ref 1, .ref 21, .int (iI (0)), .int (iI (1))] X0 (fun r X1 => ∃ u : Int, r = some (.int (iI u)) ∧ u = 1 ∧ HG vX X1 ∧ FR mdTk01 X0 X1 ∧ X1.1 3 0 = X0.1 3 0 ∧ BDk 10 11 12 B X1) := by
  have cb : (0 : Int) ≤ X0.1 3 0 ∧ X0.1 3 0 ≤ 2 := hH.rF (k := 3) (i := 0) (p := (0, 2)) rfl rfl
  refine MetX.mk (own := RX8) (by decide +kernel) rfl (nle rfl) (fun E C hQ => ?_)
  refine Wx_lv (lv' := [(0, .ref 1), (1, .ref 21), (2, .int (iI (0))), (3, .int (iI (1)))]) rfl ?_
  refine x_iload_n (i := 3) C dX8_take_0 rfl rfl ?_
  refine x_iconst C dX8_take_1 ?_
  refine x_icmp_ne (tgt := 14) C dX8_take_2 (by decide) ⟨by omega, by omega⟩ ⟨by omega, by omega⟩ (fun h1 => ?_) (fun h1 => by exfalso; omega)
  refine x_iload_n (i := 3) C dX8_take_14 rfl rfl ?_
  refine x_istore (lv' := [(4, .int (iI (1))), (0, .ref 1), (1, .ref 21), (2, .int (iI (0))), (3, .int (iI (1)))]) C dX8_take_15 (nlt rfl) rfl ?_
  refine x_iload_n (i := 2) C dX8_take_17 rfl rfl ?_
  refine x_if_ne (tgt := 38) C dX8_take_18 (by decide) ⟨by omega, by omega⟩ (fun h2 => by exfalso; omega) (fun h2 => ?_)
  refine x_aload_n (i := 0) C dX8_take_21 rfl rfl ?_
  refine x_getRs (r := 4) C fkX_X8_24 (nlt rfl) rfl (HG.rR hH (k := 1) (i := 5) rfl rfl) dX8_take_22 ?_
  refine x_iload C dX8_take_25 rfl ?_
  refine x_aald (r := some 10) C (nlt rfl) rfl rfl (nle rfl) (by omega) (by omega) (HG.rR hH (k := 4) (i := 1) rfl rfl) dX8_take_27 ?_
  refine x_aload_n (i := 1) C dX8_take_28 rfl rfl ?_
  refine x_getRs (r := 22) C fkX_X8_59 (nlt rfl) rfl (HG.rR hH (k := 21) (i := 0) rfl rfl) dX8_take_29 ?_
  refine x_callV (As := [.ref 22]) C (by exact (c_cpB10 (B := B) w0 w1 mb hH FR.rf hB)) ckX8_52 im_X0_copy se_X0_copy (nlt rfl) rfl rfl rfl rfl (nle rfl) (by exact ⟨nle rfl, nle rfl⟩) dX8_take_32 ?_
  rintro _ Yy3 ⟨rfl, hHy3, hGy3, hC⟩
  have hFy3 : FR mdTk01 X0 Yy3 := FR.tr hF hGy3 (by decide)
  refine Wx_st (st' := []) rfl ?_
  refine x_goto (tgt := 71) C dX8_take_35 (by decide) ?_
  refine x_aload_n (i := 0) C dX8_take_71 rfl rfl ?_
  refine x_getRs (r := 3) C fkX_X8_19 (nlt rfl) rfl (HG.rR hHy3 (k := 1) (i := 4) rfl rfl) dX8_take_72 ?_
  refine x_iload_n (i := 2) C dX8_take_75 rfl rfl ?_
  refine x_aload_n (i := 0) C dX8_take_76 rfl rfl ?_
  refine x_getRs (r := 3) C fkX_X8_19 (nlt rfl) rfl (HG.rR hHy3 (k := 1) (i := 4) rfl rfl) dX8_take_77 ?_
  refine x_iload_n (i := 2) C dX8_take_80 rfl rfl ?_
  refine x_iald C (nlt rfl) rfl rfl (nle rfl) (by omega) (by omega) dX8_take_81 ?_
  refine x_gen (fun v4 ev4 => ?_)
  replace ev4 : v4 = Yy3.1 3 0 := ev4
  have qv4 : (0 : Int) ≤ v4 ∧ v4 ≤ (2 : Int) := by
    rw [ev4]
    exact hHy3.rF (k := 3) (i := 0) (p := (0, 2)) rfl rfl
  have kv4 : v4 = X0.1 3 0 := by rw [ev4, (hGy3 3 0 rfl).1]
  refine x_iload C dX8_take_82 rfl ?_
  refine x_iconst C dX8_take_84 ?_
  refine x_iadd C dX8_take_85 ?_
  refine x_eq (b := 2) rfl ?_
  refine x_mmax C ⟨by omega, by omega⟩ ⟨by omega, by omega⟩ (lw_gi 785 (by decide +kernel) rfl : Cond.methodLink RX8 73 Lib.Math.max.name ∈ lw_g) (lw_gi 623 (by decide +kernel) rfl : Cond.static Lib.Math.max.name ∈ lw_g) (lw_gi 129 (by decide +kernel) rfl : Cond.initialized "java/lang/Math" ∈ lw_g) (lw_gi 624 (by decide +kernel) rfl : Cond.code Lib.Math.max.name Lib.Math.max.code 2 (some .int) ∈ lw_g) (nle rfl) (nle rfl) dX8_take_86 (fun v5 h6 => ?_)
  refine x_iast C (nlt rfl) rfl rfl (nle rfl) (by omega) (by omega) dX8_take_89 ?_
  refine x_gX (fun Yy7 eYy7 => ?_)
  have hHy7 : HG vX Yy7 := by
    rw [eYy7]
    exact hg_wF hHy3 (p := (0, 2)) rfl ⟨by omega, by omega⟩
  have hFy7 : FR mdTk01 X0 Yy7 := by
    rw [eYy7]
    exact FR.upI hFy3 (rfl)
  replace eYy7 : Yy7 = upI Yy3 3 0 (v5) := eYy7
  have hGy7 : FR [(3, some 0)] Yy3 Yy7 := by
    rw [eYy7]
    exact FR.upI FR.rf rfl
  refine x_iload C dX8_take_90 rfl ?_
  exact x_iret C hQ dX8_take_92 (⟨_, rfl, rfl, hHy7, hFy7, by rw [eYy7, upI_at]; omega, ⟨by rw [eYy7, upI_nc (by decide)]; exact hC.1, by rw [eYy7, upI_nc (by decide)]; exact hC.2.1, by rw [eYy7, upI_2]; exact hC.2.2.1, by rw [eYy7, upI_2]; exact hC.2.2.2.1, by rw [eYy7, upI_nc (by decide)]; exact hC.2.2.2.2.1, fun j hj => ⟨by rw [eYy7, upI_nc (by decide)]; exact (hC.2.2.2.2.2 j hj).1, by rw [eYy7, upI_nc (by decide)]; exact (hC.2.2.2.2.2 j hj).2⟩⟩⟩)
abbrev mdTk10 : List (Nat × Option Nat) := [(3, some 1), (5, some 0)]
set_option maxHeartbeats 4000000 in
set_option maxRecDepth 100000 in
theorem c_take10n {D : va_G} {ad : Nat → Nat} {cA : Nat → ClassId} {X0 : XT} {ru : Int64} (hR : RUX ru X0) (hk : X0.1 3 1 = 0) (hH : HG vX X0) (hF : FR mdTk10 X0 X0) : MetX (wX D ad cA) yX8_take cX8_take 5 (some .int) 2 81 [.ref 1, .ref 21, .int (iI (1)), .int (iI ((-1)))] X0 (fun r X1 => ∃ u : Int, r = some (.int (iI u)) ∧ u = 0 ∧ HG vX X1 ∧ FR mdTk10 X0 X1 ∧ X1.1 3 1 = (1 : Int) ∧ X1.2.1 5 0 = ru) := by
  have cb : (0 : Int) ≤ X0.1 3 1 ∧ X0.1 3 1 ≤ 3 := hH.rF (k := 3) (i := 1) (p := (0, 3)) rfl rfl
  refine MetX.mk (own := RX8) (by decide +kernel) rfl (nle rfl) (fun E C hQ => ?_)
  refine Wx_lv (lv' := [(0, .ref 1), (1, .ref 21), (2, .int (iI (1))), (3, .int (iI ((-1))))]) rfl ?_
  refine x_iload_n (i := 3) C dX8_take_0 rfl rfl ?_
  refine x_iconst C dX8_take_1 ?_
  refine x_icmp_ne (tgt := 14) C dX8_take_2 (by decide) ⟨by omega, by omega⟩ ⟨by omega, by omega⟩ (fun h1 => by exfalso; omega) (fun h1 => ?_)
  refine x_aload_n (i := 0) C dX8_take_5 rfl rfl ?_
  refine x_getRs (r := 3) C fkX_X8_19 (nlt rfl) rfl (HG.rR hH (k := 1) (i := 4) rfl rfl) dX8_take_6 ?_
  refine x_iload_n (i := 2) C dX8_take_9 rfl rfl ?_
  refine x_iald C (nlt rfl) rfl rfl (nle rfl) (by omega) (by omega) dX8_take_10 ?_
  refine x_gen (fun v2 ev2 => ?_)
  replace ev2 : v2 = X0.1 3 1 := ev2
  have qv2 : (0 : Int) ≤ v2 ∧ v2 ≤ (3 : Int) := by
    rw [ev2]
    exact hH.rF (k := 3) (i := 1) (p := (0, 3)) rfl rfl
  refine x_goto (tgt := 15) C dX8_take_11 (by decide) ?_
  obtain rfl : v2 = 0 := by omega
  refine x_istore (lv' := [(4, .int (iI (0))), (0, .ref 1), (1, .ref 21), (2, .int (iI (1))), (3, .int (iI ((-1))))]) C dX8_take_15 (nlt rfl) rfl ?_
  refine x_iload_n (i := 2) C dX8_take_17 rfl rfl ?_
  refine x_if_ne (tgt := 38) C dX8_take_18 (by decide) ⟨by omega, by omega⟩ (fun h3 => ?_) (fun h3 => by exfalso; omega)
  refine x_iload_n (i := 2) C dX8_take_38 rfl rfl ?_
  refine x_iconst C dX8_take_39 ?_
  refine x_icmp_ne (tgt := 57) C dX8_take_40 (by decide) ⟨by omega, by omega⟩ ⟨by omega, by omega⟩ (fun h4 => by exfalso; omega) (fun h4 => ?_)
  refine x_aload_n (i := 0) C dX8_take_43 rfl rfl ?_
  refine x_getRs (r := 5) C fkX_X8_28 (nlt rfl) rfl (HG.rR hH (k := 1) (i := 6) rfl rfl) dX8_take_44 ?_
  refine x_iload C dX8_take_47 rfl ?_
  refine x_aload_n (i := 1) C dX8_take_49 rfl rfl ?_
  refine x_getL C fkX_X8_65 (nlt rfl) rfl dX8_take_50 ?_
  refine x_genL (fun l5 el5 => ?_)
  refine x_last C (nlt rfl) rfl rfl (nle rfl) (by omega) (by omega) dX8_take_53 ?_
  refine x_gX (fun Yy6 eYy6 => ?_)
  have hHy6 : HG vX Yy6 := by
    rw [eYy6]
    exact hg_wLA hH (n := 3) (p := ((-9223372036854775808), 9223372036854775807)) (by decide +kernel) (by omega) (l64 _)
  have hFy6 : FR mdTk10 X0 Yy6 := by
    rw [eYy6]
    exact FR.upL hF (rfl)
  replace eYy6 : Yy6 = upL X0 5 0 (l5) := eYy6
  have hGy6 : FR [(5, some 0)] X0 Yy6 := by
    rw [eYy6]
    exact FR.upL FR.rf rfl
  refine x_goto (tgt := 71) C dX8_take_54 (by decide) ?_
  refine x_aload_n (i := 0) C dX8_take_71 rfl rfl ?_
  refine x_getRs (r := 3) C fkX_X8_19 (nlt rfl) rfl (HG.rR hHy6 (k := 1) (i := 4) rfl rfl) dX8_take_72 ?_
  refine x_iload_n (i := 2) C dX8_take_75 rfl rfl ?_
  refine x_aload_n (i := 0) C dX8_take_76 rfl rfl ?_
  refine x_getRs (r := 3) C fkX_X8_19 (nlt rfl) rfl (HG.rR hHy6 (k := 1) (i := 4) rfl rfl) dX8_take_77 ?_
  refine x_iload_n (i := 2) C dX8_take_80 rfl rfl ?_
  refine x_iald C (nlt rfl) rfl rfl (nle rfl) (by omega) (by omega) dX8_take_81 ?_
  refine x_gen (fun v7 ev7 => ?_)
  replace ev7 : v7 = Yy6.1 3 1 := ev7
  have qv7 : (0 : Int) ≤ v7 ∧ v7 ≤ (3 : Int) := by
    rw [ev7]
    exact hHy6.rF (k := 3) (i := 1) (p := (0, 3)) rfl rfl
  have kv7 : v7 = X0.1 3 1 := by rw [ev7, eYy6, upL_1]
  refine x_iload C dX8_take_82 rfl ?_
  refine x_iconst C dX8_take_84 ?_
  refine x_iadd C dX8_take_85 ?_
  refine x_eq (b := 1) rfl ?_
  refine x_mmax C ⟨by omega, by omega⟩ ⟨by omega, by omega⟩ (lw_gi 785 (by decide +kernel) rfl : Cond.methodLink RX8 73 Lib.Math.max.name ∈ lw_g) (lw_gi 623 (by decide +kernel) rfl : Cond.static Lib.Math.max.name ∈ lw_g) (lw_gi 129 (by decide +kernel) rfl : Cond.initialized "java/lang/Math" ∈ lw_g) (lw_gi 624 (by decide +kernel) rfl : Cond.code Lib.Math.max.name Lib.Math.max.code 2 (some .int) ∈ lw_g) (nle rfl) (nle rfl) dX8_take_86 (fun v8 h9 => ?_)
  refine x_iast C (nlt rfl) rfl rfl (nle rfl) (by omega) (by omega) dX8_take_89 ?_
  refine x_gX (fun Yy10 eYy10 => ?_)
  have hHy10 : HG vX Yy10 := by
    rw [eYy10]
    exact hg_wF hHy6 (p := (0, 3)) rfl ⟨by omega, by omega⟩
  have hFy10 : FR mdTk10 X0 Yy10 := by
    rw [eYy10]
    exact FR.upI hFy6 (rfl)
  replace eYy10 : Yy10 = upI Yy6 3 1 (v8) := eYy10
  have hGy10 : FR [(3, some 1)] Yy6 Yy10 := by
    rw [eYy10]
    exact FR.upI FR.rf rfl
  refine x_iload C dX8_take_90 rfl ?_
  exact x_iret C hQ dX8_take_92 (⟨_, rfl, rfl, hHy10, hFy10, by rw [eYy10, upI_at]; omega, by rw [eYy10, upI_2, eYy6, upL_at]; exact (by rw [el5]; exact hR)⟩)
set_option maxHeartbeats 4000000 in
set_option maxRecDepth 100000 in
theorem c_take10o {D : va_G} {ad : Nat → Nat} {cA : Nat → ClassId} {X0 : XT} {ru : Int64} (hR : RUX ru X0) (hk : 0 < X0.1 3 1) (hH : HG vX X0) (hF : FR mdTk10 X0 X0) : MetX (wX D ad cA) yX8_take cX8_take 5 (some .int) 2 81 [.ref 1, .ref 21, .int (iI (1)), .int (iI (0))] X0 (fun r X1 => ∃ u : Int, r = some (.int (iI u)) ∧ u = 0 ∧ HG vX X1 ∧ FR mdTk10 X0 X1 ∧ X1.1 3 1 = X0.1 3 1 ∧ X1.2.1 5 0 = ru) := by
  have cb : (0 : Int) ≤ X0.1 3 1 ∧ X0.1 3 1 ≤ 3 := hH.rF (k := 3) (i := 1) (p := (0, 3)) rfl rfl
  refine MetX.mk (own := RX8) (by decide +kernel) rfl (nle rfl) (fun E C hQ => ?_)
  refine Wx_lv (lv' := [(0, .ref 1), (1, .ref 21), (2, .int (iI (1))), (3, .int (iI (0)))]) rfl ?_
  refine x_iload_n (i := 3) C dX8_take_0 rfl rfl ?_
  refine x_iconst C dX8_take_1 ?_
  refine x_icmp_ne (tgt := 14) C dX8_take_2 (by decide) ⟨by omega, by omega⟩ ⟨by omega, by omega⟩ (fun h1 => ?_) (fun h1 => by exfalso; omega)
  refine x_iload_n (i := 3) C dX8_take_14 rfl rfl ?_
  refine x_istore (lv' := [(4, .int (iI (0))), (0, .ref 1), (1, .ref 21), (2, .int (iI (1))), (3, .int (iI (0)))]) C dX8_take_15 (nlt rfl) rfl ?_
  refine x_iload_n (i := 2) C dX8_take_17 rfl rfl ?_
  refine x_if_ne (tgt := 38) C dX8_take_18 (by decide) ⟨by omega, by omega⟩ (fun h2 => ?_) (fun h2 => by exfalso; omega)
  refine x_iload_n (i := 2) C dX8_take_38 rfl rfl ?_
  refine x_iconst C dX8_take_39 ?_
  refine x_icmp_ne (tgt := 57) C dX8_take_40 (by decide) ⟨by omega, by omega⟩ ⟨by omega, by omega⟩ (fun h3 => by exfalso; omega) (fun h3 => ?_)
  refine x_aload_n (i := 0) C dX8_take_43 rfl rfl ?_
  refine x_getRs (r := 5) C fkX_X8_28 (nlt rfl) rfl (HG.rR hH (k := 1) (i := 6) rfl rfl) dX8_take_44 ?_
  refine x_iload C dX8_take_47 rfl ?_
  refine x_aload_n (i := 1) C dX8_take_49 rfl rfl ?_
  refine x_getL C fkX_X8_65 (nlt rfl) rfl dX8_take_50 ?_
  refine x_genL (fun l4 el4 => ?_)
  refine x_last C (nlt rfl) rfl rfl (nle rfl) (by omega) (by omega) dX8_take_53 ?_
  refine x_gX (fun Yy5 eYy5 => ?_)
  have hHy5 : HG vX Yy5 := by
    rw [eYy5]
    exact hg_wLA hH (n := 3) (p := ((-9223372036854775808), 9223372036854775807)) (by decide +kernel) (by omega) (l64 _)
  have hFy5 : FR mdTk10 X0 Yy5 := by
    rw [eYy5]
    exact FR.upL hF (rfl)
  replace eYy5 : Yy5 = upL X0 5 0 (l4) := eYy5
  have hGy5 : FR [(5, some 0)] X0 Yy5 := by
    rw [eYy5]
    exact FR.upL FR.rf rfl
  refine x_goto (tgt := 71) C dX8_take_54 (by decide) ?_
  refine x_aload_n (i := 0) C dX8_take_71 rfl rfl ?_
  refine x_getRs (r := 3) C fkX_X8_19 (nlt rfl) rfl (HG.rR hHy5 (k := 1) (i := 4) rfl rfl) dX8_take_72 ?_
  refine x_iload_n (i := 2) C dX8_take_75 rfl rfl ?_
  refine x_aload_n (i := 0) C dX8_take_76 rfl rfl ?_
  refine x_getRs (r := 3) C fkX_X8_19 (nlt rfl) rfl (HG.rR hHy5 (k := 1) (i := 4) rfl rfl) dX8_take_77 ?_
  refine x_iload_n (i := 2) C dX8_take_80 rfl rfl ?_
  refine x_iald C (nlt rfl) rfl rfl (nle rfl) (by omega) (by omega) dX8_take_81 ?_
  refine x_gen (fun v6 ev6 => ?_)
  replace ev6 : v6 = Yy5.1 3 1 := ev6
  have qv6 : (0 : Int) ≤ v6 ∧ v6 ≤ (3 : Int) := by
    rw [ev6]
    exact hHy5.rF (k := 3) (i := 1) (p := (0, 3)) rfl rfl
  have kv6 : v6 = X0.1 3 1 := by rw [ev6, eYy5, upL_1]
  refine x_iload C dX8_take_82 rfl ?_
  refine x_iconst C dX8_take_84 ?_
  refine x_iadd C dX8_take_85 ?_
  refine x_eq (b := 1) rfl ?_
  refine x_mmax C ⟨by omega, by omega⟩ ⟨by omega, by omega⟩ (lw_gi 785 (by decide +kernel) rfl : Cond.methodLink RX8 73 Lib.Math.max.name ∈ lw_g) (lw_gi 623 (by decide +kernel) rfl : Cond.static Lib.Math.max.name ∈ lw_g) (lw_gi 129 (by decide +kernel) rfl : Cond.initialized "java/lang/Math" ∈ lw_g) (lw_gi 624 (by decide +kernel) rfl : Cond.code Lib.Math.max.name Lib.Math.max.code 2 (some .int) ∈ lw_g) (nle rfl) (nle rfl) dX8_take_86 (fun v7 h8 => ?_)
  refine x_iast C (nlt rfl) rfl rfl (nle rfl) (by omega) (by omega) dX8_take_89 ?_
  refine x_gX (fun Yy9 eYy9 => ?_)
  have hHy9 : HG vX Yy9 := by
    rw [eYy9]
    exact hg_wF hHy5 (p := (0, 3)) rfl ⟨by omega, by omega⟩
  have hFy9 : FR mdTk10 X0 Yy9 := by
    rw [eYy9]
    exact FR.upI hFy5 (rfl)
  replace eYy9 : Yy9 = upI Yy5 3 1 (v7) := eYy9
  have hGy9 : FR [(3, some 1)] Yy5 Yy9 := by
    rw [eYy9]
    exact FR.upI FR.rf rfl
  refine x_iload C dX8_take_90 rfl ?_
  exact x_iret C hQ dX8_take_92 (⟨_, rfl, rfl, hHy9, hFy9, by rw [eYy9, upI_at]; omega, by rw [eYy9, upI_2, eYy5, upL_at]; exact (by rw [el4]; exact hR)⟩)
abbrev mdTk11 : List (Nat × Option Nat) := [(3, some 1), (5, some 1)]
set_option maxHeartbeats 4000000 in
set_option maxRecDepth 100000 in
theorem c_take11n {D : va_G} {ad : Nat → Nat} {cA : Nat → ClassId} {X0 : XT} {ru : Int64} (hR : RUX ru X0) (hk : X0.1 3 1 = 1) (hH : HG vX X0) (hF : FR mdTk11 X0 X0) : MetX (wX D ad cA) yX8_take cX8_take 5 (some .int) 2 81 [.ref 1, .ref 21, .int (iI (1)), .int (iI ((-1)))] X0 (fun r X1 => ∃ u : Int, r = some (.int (iI u)) ∧ u = 1 ∧ HG vX X1 ∧ FR mdTk11 X0 X1 ∧ X1.1 3 1 = (2 : Int) ∧ X1.2.1 5 1 = ru) := by
  have cb : (0 : Int) ≤ X0.1 3 1 ∧ X0.1 3 1 ≤ 3 := hH.rF (k := 3) (i := 1) (p := (0, 3)) rfl rfl
  refine MetX.mk (own := RX8) (by decide +kernel) rfl (nle rfl) (fun E C hQ => ?_)
  refine Wx_lv (lv' := [(0, .ref 1), (1, .ref 21), (2, .int (iI (1))), (3, .int (iI ((-1))))]) rfl ?_
  refine x_iload_n (i := 3) C dX8_take_0 rfl rfl ?_
  refine x_iconst C dX8_take_1 ?_
  refine x_icmp_ne (tgt := 14) C dX8_take_2 (by decide) ⟨by omega, by omega⟩ ⟨by omega, by omega⟩ (fun h1 => by exfalso; omega) (fun h1 => ?_)
  refine x_aload_n (i := 0) C dX8_take_5 rfl rfl ?_
  refine x_getRs (r := 3) C fkX_X8_19 (nlt rfl) rfl (HG.rR hH (k := 1) (i := 4) rfl rfl) dX8_take_6 ?_
  refine x_iload_n (i := 2) C dX8_take_9 rfl rfl ?_
  refine x_iald C (nlt rfl) rfl rfl (nle rfl) (by omega) (by omega) dX8_take_10 ?_
  refine x_gen (fun v2 ev2 => ?_)
  replace ev2 : v2 = X0.1 3 1 := ev2
  have qv2 : (0 : Int) ≤ v2 ∧ v2 ≤ (3 : Int) := by
    rw [ev2]
    exact hH.rF (k := 3) (i := 1) (p := (0, 3)) rfl rfl
  refine x_goto (tgt := 15) C dX8_take_11 (by decide) ?_
  obtain rfl : v2 = 1 := by omega
  refine x_istore (lv' := [(4, .int (iI (1))), (0, .ref 1), (1, .ref 21), (2, .int (iI (1))), (3, .int (iI ((-1))))]) C dX8_take_15 (nlt rfl) rfl ?_
  refine x_iload_n (i := 2) C dX8_take_17 rfl rfl ?_
  refine x_if_ne (tgt := 38) C dX8_take_18 (by decide) ⟨by omega, by omega⟩ (fun h3 => ?_) (fun h3 => by exfalso; omega)
  refine x_iload_n (i := 2) C dX8_take_38 rfl rfl ?_
  refine x_iconst C dX8_take_39 ?_
  refine x_icmp_ne (tgt := 57) C dX8_take_40 (by decide) ⟨by omega, by omega⟩ ⟨by omega, by omega⟩ (fun h4 => by exfalso; omega) (fun h4 => ?_)
  refine x_aload_n (i := 0) C dX8_take_43 rfl rfl ?_
  refine x_getRs (r := 5) C fkX_X8_28 (nlt rfl) rfl (HG.rR hH (k := 1) (i := 6) rfl rfl) dX8_take_44 ?_
  refine x_iload C dX8_take_47 rfl ?_
  refine x_aload_n (i := 1) C dX8_take_49 rfl rfl ?_
  refine x_getL C fkX_X8_65 (nlt rfl) rfl dX8_take_50 ?_
  refine x_genL (fun l5 el5 => ?_)
  refine x_last C (nlt rfl) rfl rfl (nle rfl) (by omega) (by omega) dX8_take_53 ?_
  refine x_gX (fun Yy6 eYy6 => ?_)
  have hHy6 : HG vX Yy6 := by
    rw [eYy6]
    exact hg_wLA hH (n := 3) (p := ((-9223372036854775808), 9223372036854775807)) (by decide +kernel) (by omega) (l64 _)
  have hFy6 : FR mdTk11 X0 Yy6 := by
    rw [eYy6]
    exact FR.upL hF (rfl)
  replace eYy6 : Yy6 = upL X0 5 1 (l5) := eYy6
  have hGy6 : FR [(5, some 1)] X0 Yy6 := by
    rw [eYy6]
    exact FR.upL FR.rf rfl
  refine x_goto (tgt := 71) C dX8_take_54 (by decide) ?_
  refine x_aload_n (i := 0) C dX8_take_71 rfl rfl ?_
  refine x_getRs (r := 3) C fkX_X8_19 (nlt rfl) rfl (HG.rR hHy6 (k := 1) (i := 4) rfl rfl) dX8_take_72 ?_
  refine x_iload_n (i := 2) C dX8_take_75 rfl rfl ?_
  refine x_aload_n (i := 0) C dX8_take_76 rfl rfl ?_
  refine x_getRs (r := 3) C fkX_X8_19 (nlt rfl) rfl (HG.rR hHy6 (k := 1) (i := 4) rfl rfl) dX8_take_77 ?_
  refine x_iload_n (i := 2) C dX8_take_80 rfl rfl ?_
  refine x_iald C (nlt rfl) rfl rfl (nle rfl) (by omega) (by omega) dX8_take_81 ?_
  refine x_gen (fun v7 ev7 => ?_)
  replace ev7 : v7 = Yy6.1 3 1 := ev7
  have qv7 : (0 : Int) ≤ v7 ∧ v7 ≤ (3 : Int) := by
    rw [ev7]
    exact hHy6.rF (k := 3) (i := 1) (p := (0, 3)) rfl rfl
  have kv7 : v7 = X0.1 3 1 := by rw [ev7, eYy6, upL_1]
  refine x_iload C dX8_take_82 rfl ?_
  refine x_iconst C dX8_take_84 ?_
  refine x_iadd C dX8_take_85 ?_
  refine x_eq (b := 2) rfl ?_
  refine x_mmax C ⟨by omega, by omega⟩ ⟨by omega, by omega⟩ (lw_gi 785 (by decide +kernel) rfl : Cond.methodLink RX8 73 Lib.Math.max.name ∈ lw_g) (lw_gi 623 (by decide +kernel) rfl : Cond.static Lib.Math.max.name ∈ lw_g) (lw_gi 129 (by decide +kernel) rfl : Cond.initialized "java/lang/Math" ∈ lw_g) (lw_gi 624 (by decide +kernel) rfl : Cond.code Lib.Math.max.name Lib.Math.max.code 2 (some .int) ∈ lw_g) (nle rfl) (nle rfl) dX8_take_86 (fun v8 h9 => ?_)
  refine x_iast C (nlt rfl) rfl rfl (nle rfl) (by omega) (by omega) dX8_take_89 ?_
  refine x_gX (fun Yy10 eYy10 => ?_)
  have hHy10 : HG vX Yy10 := by
    rw [eYy10]
    exact hg_wF hHy6 (p := (0, 3)) rfl ⟨by omega, by omega⟩
  have hFy10 : FR mdTk11 X0 Yy10 := by
    rw [eYy10]
    exact FR.upI hFy6 (rfl)
  replace eYy10 : Yy10 = upI Yy6 3 1 (v8) := eYy10
  have hGy10 : FR [(3, some 1)] Yy6 Yy10 := by
    rw [eYy10]
    exact FR.upI FR.rf rfl
  refine x_iload C dX8_take_90 rfl ?_
  exact x_iret C hQ dX8_take_92 (⟨_, rfl, rfl, hHy10, hFy10, by rw [eYy10, upI_at]; omega, by rw [eYy10, upI_2, eYy6, upL_at]; exact (by rw [el5]; exact hR)⟩)
set_option maxHeartbeats 4000000 in
set_option maxRecDepth 100000 in
theorem c_take11o {D : va_G} {ad : Nat → Nat} {cA : Nat → ClassId} {X0 : XT} {ru : Int64} (hR : RUX ru X0) (hk : 1 < X0.1 3 1) (hH : HG vX X0) (hF : FR mdTk11 X0 X0) : MetX (wX D ad cA) yX8_take cX8_take 5 (some .int) 2 81 [.ref 1, .ref 21, .int (iI (1)), .int (iI (1))] X0 (fun r X1 => ∃ u : Int, r = some (.int (iI u)) ∧ u = 1 ∧ HG vX X1 ∧ FR mdTk11 X0 X1 ∧ X1.1 3 1 = X0.1 3 1 ∧ X1.2.1 5 1 = ru) := by
  have cb : (0 : Int) ≤ X0.1 3 1 ∧ X0.1 3 1 ≤ 3 := hH.rF (k := 3) (i := 1) (p := (0, 3)) rfl rfl
  refine MetX.mk (own := RX8) (by decide +kernel) rfl (nle rfl) (fun E C hQ => ?_)
  refine Wx_lv (lv' := [(0, .ref 1), (1, .ref 21), (2, .int (iI (1))), (3, .int (iI (1)))]) rfl ?_
  refine x_iload_n (i := 3) C dX8_take_0 rfl rfl ?_
  refine x_iconst C dX8_take_1 ?_
  refine x_icmp_ne (tgt := 14) C dX8_take_2 (by decide) ⟨by omega, by omega⟩ ⟨by omega, by omega⟩ (fun h1 => ?_) (fun h1 => by exfalso; omega)
  refine x_iload_n (i := 3) C dX8_take_14 rfl rfl ?_
  refine x_istore (lv' := [(4, .int (iI (1))), (0, .ref 1), (1, .ref 21), (2, .int (iI (1))), (3, .int (iI (1)))]) C dX8_take_15 (nlt rfl) rfl ?_
  refine x_iload_n (i := 2) C dX8_take_17 rfl rfl ?_
  refine x_if_ne (tgt := 38) C dX8_take_18 (by decide) ⟨by omega, by omega⟩ (fun h2 => ?_) (fun h2 => by exfalso; omega)
  refine x_iload_n (i := 2) C dX8_take_38 rfl rfl ?_
  refine x_iconst C dX8_take_39 ?_
  refine x_icmp_ne (tgt := 57) C dX8_take_40 (by decide) ⟨by omega, by omega⟩ ⟨by omega, by omega⟩ (fun h3 => by exfalso; omega) (fun h3 => ?_)
  refine x_aload_n (i := 0) C dX8_take_43 rfl rfl ?_
  refine x_getRs (r := 5) C fkX_X8_28 (nlt rfl) rfl (HG.rR hH (k := 1) (i := 6) rfl rfl) dX8_take_44 ?_
  refine x_iload C dX8_take_47 rfl ?_
  refine x_aload_n (i := 1) C dX8_take_49 rfl rfl ?_
  refine x_getL C fkX_X8_65 (nlt rfl) rfl dX8_take_50 ?_
  refine x_genL (fun l4 el4 => ?_)
  refine x_last C (nlt rfl) rfl rfl (nle rfl) (by omega) (by omega) dX8_take_53 ?_
  refine x_gX (fun Yy5 eYy5 => ?_)
  have hHy5 : HG vX Yy5 := by
    rw [eYy5]
    exact hg_wLA hH (n := 3) (p := ((-9223372036854775808), 9223372036854775807)) (by decide +kernel) (by omega) (l64 _)
  have hFy5 : FR mdTk11 X0 Yy5 := by
    rw [eYy5]
    exact FR.upL hF (rfl)
  replace eYy5 : Yy5 = upL X0 5 1 (l4) := eYy5
  have hGy5 : FR [(5, some 1)] X0 Yy5 := by
    rw [eYy5]
    exact FR.upL FR.rf rfl
  refine x_goto (tgt := 71) C dX8_take_54 (by decide) ?_
  refine x_aload_n (i := 0) C dX8_take_71 rfl rfl ?_
  refine x_getRs (r := 3) C fkX_X8_19 (nlt rfl) rfl (HG.rR hHy5 (k := 1) (i := 4) rfl rfl) dX8_take_72 ?_
  refine x_iload_n (i := 2) C dX8_take_75 rfl rfl ?_
  refine x_aload_n (i := 0) C dX8_take_76 rfl rfl ?_
  refine x_getRs (r := 3) C fkX_X8_19 (nlt rfl) rfl (HG.rR hHy5 (k := 1) (i := 4) rfl rfl) dX8_take_77 ?_
  refine x_iload_n (i := 2) C dX8_take_80 rfl rfl ?_
  refine x_iald C (nlt rfl) rfl rfl (nle rfl) (by omega) (by omega) dX8_take_81 ?_
  refine x_gen (fun v6 ev6 => ?_)
  replace ev6 : v6 = Yy5.1 3 1 := ev6
  have qv6 : (0 : Int) ≤ v6 ∧ v6 ≤ (3 : Int) := by
    rw [ev6]
    exact hHy5.rF (k := 3) (i := 1) (p := (0, 3)) rfl rfl
  have kv6 : v6 = X0.1 3 1 := by rw [ev6, eYy5, upL_1]
  refine x_iload C dX8_take_82 rfl ?_
  refine x_iconst C dX8_take_84 ?_
  refine x_iadd C dX8_take_85 ?_
  refine x_eq (b := 2) rfl ?_
  refine x_mmax C ⟨by omega, by omega⟩ ⟨by omega, by omega⟩ (lw_gi 785 (by decide +kernel) rfl : Cond.methodLink RX8 73 Lib.Math.max.name ∈ lw_g) (lw_gi 623 (by decide +kernel) rfl : Cond.static Lib.Math.max.name ∈ lw_g) (lw_gi 129 (by decide +kernel) rfl : Cond.initialized "java/lang/Math" ∈ lw_g) (lw_gi 624 (by decide +kernel) rfl : Cond.code Lib.Math.max.name Lib.Math.max.code 2 (some .int) ∈ lw_g) (nle rfl) (nle rfl) dX8_take_86 (fun v7 h8 => ?_)
  refine x_iast C (nlt rfl) rfl rfl (nle rfl) (by omega) (by omega) dX8_take_89 ?_
  refine x_gX (fun Yy9 eYy9 => ?_)
  have hHy9 : HG vX Yy9 := by
    rw [eYy9]
    exact hg_wF hHy5 (p := (0, 3)) rfl ⟨by omega, by omega⟩
  have hFy9 : FR mdTk11 X0 Yy9 := by
    rw [eYy9]
    exact FR.upI hFy5 (rfl)
  replace eYy9 : Yy9 = upI Yy5 3 1 (v7) := eYy9
  have hGy9 : FR [(3, some 1)] Yy5 Yy9 := by
    rw [eYy9]
    exact FR.upI FR.rf rfl
  refine x_iload C dX8_take_90 rfl ?_
  exact x_iret C hQ dX8_take_92 (⟨_, rfl, rfl, hHy9, hFy9, by rw [eYy9, upI_at]; omega, by rw [eYy9, upI_2, eYy5, upL_at]; exact (by rw [el4]; exact hR)⟩)
abbrev mdTk12 : List (Nat × Option Nat) := [(3, some 1), (5, some 2)]
set_option maxHeartbeats 4000000 in
set_option maxRecDepth 100000 in
theorem c_take12n {D : va_G} {ad : Nat → Nat} {cA : Nat → ClassId} {X0 : XT} {ru : Int64} (hR : RUX ru X0) (hk : X0.1 3 1 = 2) (hH : HG vX X0) (hF : FR mdTk12 X0 X0) : MetX (wX D ad cA) yX8_take cX8_take 5 (some .int) 2 81 [.ref 1, .ref 21, .int (iI (1)), .int (iI ((-1)))] X0 (fun r X1 => ∃ u : Int, r = some (.int (iI u)) ∧ u = 2 ∧ HG vX X1 ∧ FR mdTk12 X0 X1 ∧ X1.1 3 1 = (3 : Int) ∧ X1.2.1 5 2 = ru) := by
  have cb : (0 : Int) ≤ X0.1 3 1 ∧ X0.1 3 1 ≤ 3 := hH.rF (k := 3) (i := 1) (p := (0, 3)) rfl rfl
  refine MetX.mk (own := RX8) (by decide +kernel) rfl (nle rfl) (fun E C hQ => ?_)
  refine Wx_lv (lv' := [(0, .ref 1), (1, .ref 21), (2, .int (iI (1))), (3, .int (iI ((-1))))]) rfl ?_
  refine x_iload_n (i := 3) C dX8_take_0 rfl rfl ?_
  refine x_iconst C dX8_take_1 ?_
  refine x_icmp_ne (tgt := 14) C dX8_take_2 (by decide) ⟨by omega, by omega⟩ ⟨by omega, by omega⟩ (fun h1 => by exfalso; omega) (fun h1 => ?_)
  refine x_aload_n (i := 0) C dX8_take_5 rfl rfl ?_
  refine x_getRs (r := 3) C fkX_X8_19 (nlt rfl) rfl (HG.rR hH (k := 1) (i := 4) rfl rfl) dX8_take_6 ?_
  refine x_iload_n (i := 2) C dX8_take_9 rfl rfl ?_
  refine x_iald C (nlt rfl) rfl rfl (nle rfl) (by omega) (by omega) dX8_take_10 ?_
  refine x_gen (fun v2 ev2 => ?_)
  replace ev2 : v2 = X0.1 3 1 := ev2
  have qv2 : (0 : Int) ≤ v2 ∧ v2 ≤ (3 : Int) := by
    rw [ev2]
    exact hH.rF (k := 3) (i := 1) (p := (0, 3)) rfl rfl
  refine x_goto (tgt := 15) C dX8_take_11 (by decide) ?_
  obtain rfl : v2 = 2 := by omega
  refine x_istore (lv' := [(4, .int (iI (2))), (0, .ref 1), (1, .ref 21), (2, .int (iI (1))), (3, .int (iI ((-1))))]) C dX8_take_15 (nlt rfl) rfl ?_
  refine x_iload_n (i := 2) C dX8_take_17 rfl rfl ?_
  refine x_if_ne (tgt := 38) C dX8_take_18 (by decide) ⟨by omega, by omega⟩ (fun h3 => ?_) (fun h3 => by exfalso; omega)
  refine x_iload_n (i := 2) C dX8_take_38 rfl rfl ?_
  refine x_iconst C dX8_take_39 ?_
  refine x_icmp_ne (tgt := 57) C dX8_take_40 (by decide) ⟨by omega, by omega⟩ ⟨by omega, by omega⟩ (fun h4 => by exfalso; omega) (fun h4 => ?_)
  refine x_aload_n (i := 0) C dX8_take_43 rfl rfl ?_
  refine x_getRs (r := 5) C fkX_X8_28 (nlt rfl) rfl (HG.rR hH (k := 1) (i := 6) rfl rfl) dX8_take_44 ?_
  refine x_iload C dX8_take_47 rfl ?_
  refine x_aload_n (i := 1) C dX8_take_49 rfl rfl ?_
  refine x_getL C fkX_X8_65 (nlt rfl) rfl dX8_take_50 ?_
  refine x_genL (fun l5 el5 => ?_)
  refine x_last C (nlt rfl) rfl rfl (nle rfl) (by omega) (by omega) dX8_take_53 ?_
  refine x_gX (fun Yy6 eYy6 => ?_)
  have hHy6 : HG vX Yy6 := by
    rw [eYy6]
    exact hg_wLA hH (n := 3) (p := ((-9223372036854775808), 9223372036854775807)) (by decide +kernel) (by omega) (l64 _)
  have hFy6 : FR mdTk12 X0 Yy6 := by
    rw [eYy6]
    exact FR.upL hF (rfl)
  replace eYy6 : Yy6 = upL X0 5 2 (l5) := eYy6
  have hGy6 : FR [(5, some 2)] X0 Yy6 := by
    rw [eYy6]
    exact FR.upL FR.rf rfl
  refine x_goto (tgt := 71) C dX8_take_54 (by decide) ?_
  refine x_aload_n (i := 0) C dX8_take_71 rfl rfl ?_
  refine x_getRs (r := 3) C fkX_X8_19 (nlt rfl) rfl (HG.rR hHy6 (k := 1) (i := 4) rfl rfl) dX8_take_72 ?_
  refine x_iload_n (i := 2) C dX8_take_75 rfl rfl ?_
  refine x_aload_n (i := 0) C dX8_take_76 rfl rfl ?_
  refine x_getRs (r := 3) C fkX_X8_19 (nlt rfl) rfl (HG.rR hHy6 (k := 1) (i := 4) rfl rfl) dX8_take_77 ?_
  refine x_iload_n (i := 2) C dX8_take_80 rfl rfl ?_
  refine x_iald C (nlt rfl) rfl rfl (nle rfl) (by omega) (by omega) dX8_take_81 ?_
  refine x_gen (fun v7 ev7 => ?_)
  replace ev7 : v7 = Yy6.1 3 1 := ev7
  have qv7 : (0 : Int) ≤ v7 ∧ v7 ≤ (3 : Int) := by
    rw [ev7]
    exact hHy6.rF (k := 3) (i := 1) (p := (0, 3)) rfl rfl
  have kv7 : v7 = X0.1 3 1 := by rw [ev7, eYy6, upL_1]
  refine x_iload C dX8_take_82 rfl ?_
  refine x_iconst C dX8_take_84 ?_
  refine x_iadd C dX8_take_85 ?_
  refine x_eq (b := 3) rfl ?_
  refine x_mmax C ⟨by omega, by omega⟩ ⟨by omega, by omega⟩ (lw_gi 785 (by decide +kernel) rfl : Cond.methodLink RX8 73 Lib.Math.max.name ∈ lw_g) (lw_gi 623 (by decide +kernel) rfl : Cond.static Lib.Math.max.name ∈ lw_g) (lw_gi 129 (by decide +kernel) rfl : Cond.initialized "java/lang/Math" ∈ lw_g) (lw_gi 624 (by decide +kernel) rfl : Cond.code Lib.Math.max.name Lib.Math.max.code 2 (some .int) ∈ lw_g) (nle rfl) (nle rfl) dX8_take_86 (fun v8 h9 => ?_)
  refine x_iast C (nlt rfl) rfl rfl (nle rfl) (by omega) (by omega) dX8_take_89 ?_
  refine x_gX (fun Yy10 eYy10 => ?_)
  have hHy10 : HG vX Yy10 := by
    rw [eYy10]
    exact hg_wF hHy6 (p := (0, 3)) rfl ⟨by omega, by omega⟩
  have hFy10 : FR mdTk12 X0 Yy10 := by
    rw [eYy10]
    exact FR.upI hFy6 (rfl)
  replace eYy10 : Yy10 = upI Yy6 3 1 (v8) := eYy10
  have hGy10 : FR [(3, some 1)] Yy6 Yy10 := by
    rw [eYy10]
    exact FR.upI FR.rf rfl
  refine x_iload C dX8_take_90 rfl ?_
  exact x_iret C hQ dX8_take_92 (⟨_, rfl, rfl, hHy10, hFy10, by rw [eYy10, upI_at]; omega, by rw [eYy10, upI_2, eYy6, upL_at]; exact (by rw [el5]; exact hR)⟩)
set_option maxHeartbeats 4000000 in
set_option maxRecDepth 100000 in
theorem c_take12o {D : va_G} {ad : Nat → Nat} {cA : Nat → ClassId} {X0 : XT} {ru : Int64} (hR : RUX ru X0) (hk : 2 < X0.1 3 1) (hH : HG vX X0) (hF : FR mdTk12 X0 X0) : MetX (wX D ad cA) yX8_take cX8_take 5 (some .int) 2 81 [.ref 1, .ref 21, .int (iI (1)), .int (iI (2))] X0 (fun r X1 => ∃ u : Int, r = some (.int (iI u)) ∧ u = 2 ∧ HG vX X1 ∧ FR mdTk12 X0 X1 ∧ X1.1 3 1 = X0.1 3 1 ∧ X1.2.1 5 2 = ru) := by
  have cb : (0 : Int) ≤ X0.1 3 1 ∧ X0.1 3 1 ≤ 3 := hH.rF (k := 3) (i := 1) (p := (0, 3)) rfl rfl
  refine MetX.mk (own := RX8) (by decide +kernel) rfl (nle rfl) (fun E C hQ => ?_)
  refine Wx_lv (lv' := [(0, .ref 1), (1, .ref 21), (2, .int (iI (1))), (3, .int (iI (2)))]) rfl ?_
  refine x_iload_n (i := 3) C dX8_take_0 rfl rfl ?_
  refine x_iconst C dX8_take_1 ?_
  refine x_icmp_ne (tgt := 14) C dX8_take_2 (by decide) ⟨by omega, by omega⟩ ⟨by omega, by omega⟩ (fun h1 => ?_) (fun h1 => by exfalso; omega)
  refine x_iload_n (i := 3) C dX8_take_14 rfl rfl ?_
  refine x_istore (lv' := [(4, .int (iI (2))), (0, .ref 1), (1, .ref 21), (2, .int (iI (1))), (3, .int (iI (2)))]) C dX8_take_15 (nlt rfl) rfl ?_
  refine x_iload_n (i := 2) C dX8_take_17 rfl rfl ?_
  refine x_if_ne (tgt := 38) C dX8_take_18 (by decide) ⟨by omega, by omega⟩ (fun h2 => ?_) (fun h2 => by exfalso; omega)
  refine x_iload_n (i := 2) C dX8_take_38 rfl rfl ?_
  refine x_iconst C dX8_take_39 ?_
  refine x_icmp_ne (tgt := 57) C dX8_take_40 (by decide) ⟨by omega, by omega⟩ ⟨by omega, by omega⟩ (fun h3 => by exfalso; omega) (fun h3 => ?_)
  refine x_aload_n (i := 0) C dX8_take_43 rfl rfl ?_
  refine x_getRs (r := 5) C fkX_X8_28 (nlt rfl) rfl (HG.rR hH (k := 1) (i := 6) rfl rfl) dX8_take_44 ?_
  refine x_iload C dX8_take_47 rfl ?_
  refine x_aload_n (i := 1) C dX8_take_49 rfl rfl ?_
  refine x_getL C fkX_X8_65 (nlt rfl) rfl dX8_take_50 ?_
  refine x_genL (fun l4 el4 => ?_)
  refine x_last C (nlt rfl) rfl rfl (nle rfl) (by omega) (by omega) dX8_take_53 ?_
  refine x_gX (fun Yy5 eYy5 => ?_)
  have hHy5 : HG vX Yy5 := by
    rw [eYy5]
    exact hg_wLA hH (n := 3) (p := ((-9223372036854775808), 9223372036854775807)) (by decide +kernel) (by omega) (l64 _)
  have hFy5 : FR mdTk12 X0 Yy5 := by
    rw [eYy5]
    exact FR.upL hF (rfl)
  replace eYy5 : Yy5 = upL X0 5 2 (l4) := eYy5
  have hGy5 : FR [(5, some 2)] X0 Yy5 := by
    rw [eYy5]
    exact FR.upL FR.rf rfl
  refine x_goto (tgt := 71) C dX8_take_54 (by decide) ?_
  refine x_aload_n (i := 0) C dX8_take_71 rfl rfl ?_
  refine x_getRs (r := 3) C fkX_X8_19 (nlt rfl) rfl (HG.rR hHy5 (k := 1) (i := 4) rfl rfl) dX8_take_72 ?_
  refine x_iload_n (i := 2) C dX8_take_75 rfl rfl ?_
  refine x_aload_n (i := 0) C dX8_take_76 rfl rfl ?_
  refine x_getRs (r := 3) C fkX_X8_19 (nlt rfl) rfl (HG.rR hHy5 (k := 1) (i := 4) rfl rfl) dX8_take_77 ?_
  refine x_iload_n (i := 2) C dX8_take_80 rfl rfl ?_
  refine x_iald C (nlt rfl) rfl rfl (nle rfl) (by omega) (by omega) dX8_take_81 ?_
  refine x_gen (fun v6 ev6 => ?_)
  replace ev6 : v6 = Yy5.1 3 1 := ev6
  have qv6 : (0 : Int) ≤ v6 ∧ v6 ≤ (3 : Int) := by
    rw [ev6]
    exact hHy5.rF (k := 3) (i := 1) (p := (0, 3)) rfl rfl
  have kv6 : v6 = X0.1 3 1 := by rw [ev6, eYy5, upL_1]
  refine x_iload C dX8_take_82 rfl ?_
  refine x_iconst C dX8_take_84 ?_
  refine x_iadd C dX8_take_85 ?_
  refine x_eq (b := 3) rfl ?_
  refine x_mmax C ⟨by omega, by omega⟩ ⟨by omega, by omega⟩ (lw_gi 785 (by decide +kernel) rfl : Cond.methodLink RX8 73 Lib.Math.max.name ∈ lw_g) (lw_gi 623 (by decide +kernel) rfl : Cond.static Lib.Math.max.name ∈ lw_g) (lw_gi 129 (by decide +kernel) rfl : Cond.initialized "java/lang/Math" ∈ lw_g) (lw_gi 624 (by decide +kernel) rfl : Cond.code Lib.Math.max.name Lib.Math.max.code 2 (some .int) ∈ lw_g) (nle rfl) (nle rfl) dX8_take_86 (fun v7 h8 => ?_)
  refine x_iast C (nlt rfl) rfl rfl (nle rfl) (by omega) (by omega) dX8_take_89 ?_
  refine x_gX (fun Yy9 eYy9 => ?_)
  have hHy9 : HG vX Yy9 := by
    rw [eYy9]
    exact hg_wF hHy5 (p := (0, 3)) rfl ⟨by omega, by omega⟩
  have hFy9 : FR mdTk12 X0 Yy9 := by
    rw [eYy9]
    exact FR.upI hFy5 (rfl)
  replace eYy9 : Yy9 = upI Yy5 3 1 (v7) := eYy9
  have hGy9 : FR [(3, some 1)] Yy5 Yy9 := by
    rw [eYy9]
    exact FR.upI FR.rf rfl
  refine x_iload C dX8_take_90 rfl ?_
  exact x_iret C hQ dX8_take_92 (⟨_, rfl, rfl, hHy9, hFy9, by rw [eYy9, upI_at]; omega, by rw [eYy9, upI_2, eYy5, upL_at]; exact (by rw [el4]; exact hR)⟩)
abbrev mdTk20 : List (Nat × Option Nat) := [(3, some 2), (13, some 0), (14, none), (15, none)]
set_option maxHeartbeats 4000000 in
set_option maxRecDepth 100000 in
theorem c_take20n {D : va_G} {ad : Nat → Nat} {cA : Nat → ClassId} {X0 : XT} {G : GC} (mb : 0 ≤ G.1 ∧ G.1 ≤ 30) (hM : GMX G X0) (hk : X0.1 3 2 = 0) (hH : HG vX X0) (hF : FR mdTk20 X0 X0) : MetX (wX D ad cA) yX8_take cX8_take 5 (some .int) 2 81 [.ref 1, .ref 21, .int (iI (2)), .int (iI ((-1)))] X0 (fun r X1 => ∃ u : Int, r = some (.int (iI u)) ∧ u = 0 ∧ HG vX X1 ∧ FR mdTk20 X0 X1 ∧ X1.1 3 2 = (1 : Int) ∧ GMk 13 14 15 G X1) := by
  have cb : (0 : Int) ≤ X0.1 3 2 ∧ X0.1 3 2 ≤ 2 := hH.rF (k := 3) (i := 2) (p := (0, 2)) rfl rfl
  refine MetX.mk (own := RX8) (by decide +kernel) rfl (nle rfl) (fun E C hQ => ?_)
  refine Wx_lv (lv' := [(0, .ref 1), (1, .ref 21), (2, .int (iI (2))), (3, .int (iI ((-1))))]) rfl ?_
  refine x_iload_n (i := 3) C dX8_take_0 rfl rfl ?_
  refine x_iconst C dX8_take_1 ?_
  refine x_icmp_ne (tgt := 14) C dX8_take_2 (by decide) ⟨by omega, by omega⟩ ⟨by omega, by omega⟩ (fun h1 => by exfalso; omega) (fun h1 => ?_)
  refine x_aload_n (i := 0) C dX8_take_5 rfl rfl ?_
  refine x_getRs (r := 3) C fkX_X8_19 (nlt rfl) rfl (HG.rR hH (k := 1) (i := 4) rfl rfl) dX8_take_6 ?_
  refine x_iload_n (i := 2) C dX8_take_9 rfl rfl ?_
  refine x_iald C (nlt rfl) rfl rfl (nle rfl) (by omega) (by omega) dX8_take_10 ?_
  refine x_gen (fun v2 ev2 => ?_)
  replace ev2 : v2 = X0.1 3 2 := ev2
  have qv2 : (0 : Int) ≤ v2 ∧ v2 ≤ (2 : Int) := by
    rw [ev2]
    exact hH.rF (k := 3) (i := 2) (p := (0, 2)) rfl rfl
  refine x_goto (tgt := 15) C dX8_take_11 (by decide) ?_
  obtain rfl : v2 = 0 := by omega
  refine x_istore (lv' := [(4, .int (iI (0))), (0, .ref 1), (1, .ref 21), (2, .int (iI (2))), (3, .int (iI ((-1))))]) C dX8_take_15 (nlt rfl) rfl ?_
  refine x_iload_n (i := 2) C dX8_take_17 rfl rfl ?_
  refine x_if_ne (tgt := 38) C dX8_take_18 (by decide) ⟨by omega, by omega⟩ (fun h3 => ?_) (fun h3 => by exfalso; omega)
  refine x_iload_n (i := 2) C dX8_take_38 rfl rfl ?_
  refine x_iconst C dX8_take_39 ?_
  refine x_icmp_ne (tgt := 57) C dX8_take_40 (by decide) ⟨by omega, by omega⟩ ⟨by omega, by omega⟩ (fun h4 => ?_) (fun h4 => by exfalso; omega)
  refine x_aload_n (i := 0) C dX8_take_57 rfl rfl ?_
  refine x_getRs (r := 6) C fkX_X8_34 (nlt rfl) rfl (HG.rR hH (k := 1) (i := 7) rfl rfl) dX8_take_58 ?_
  refine x_iload C dX8_take_61 rfl ?_
  refine x_aald (r := some 13) C (nlt rfl) rfl rfl (nle rfl) (by omega) (by omega) (HG.rR hH (k := 6) (i := 0) rfl rfl) dX8_take_63 ?_
  refine x_aload_n (i := 1) C dX8_take_64 rfl rfl ?_
  refine x_getRs (r := 25) C fkX_X8_69 (nlt rfl) rfl (HG.rR hH (k := 21) (i := 1) rfl rfl) dX8_take_65 ?_
  refine x_callV (As := [.ref 25]) C (by exact (c_cpG13 (G := G) mb hH FR.rf hM)) ckX8_56 im_X2_copy se_X2_copy (nlt rfl) rfl rfl rfl rfl (nle rfl) (by exact ⟨nle rfl, nle rfl⟩) dX8_take_68 ?_
  rintro _ Yy5 ⟨rfl, hHy5, hGy5, hC⟩
  have hFy5 : FR mdTk20 X0 Yy5 := FR.tr hF hGy5 (by decide)
  refine Wx_st (st' := []) rfl ?_
  refine x_aload_n (i := 0) C dX8_take_71 rfl rfl ?_
  refine x_getRs (r := 3) C fkX_X8_19 (nlt rfl) rfl (HG.rR hHy5 (k := 1) (i := 4) rfl rfl) dX8_take_72 ?_
  refine x_iload_n (i := 2) C dX8_take_75 rfl rfl ?_
  refine x_aload_n (i := 0) C dX8_take_76 rfl rfl ?_
  refine x_getRs (r := 3) C fkX_X8_19 (nlt rfl) rfl (HG.rR hHy5 (k := 1) (i := 4) rfl rfl) dX8_take_77 ?_
  refine x_iload_n (i := 2) C dX8_take_80 rfl rfl ?_
  refine x_iald C (nlt rfl) rfl rfl (nle rfl) (by omega) (by omega) dX8_take_81 ?_
  refine x_gen (fun v6 ev6 => ?_)
  replace ev6 : v6 = Yy5.1 3 2 := ev6
  have qv6 : (0 : Int) ≤ v6 ∧ v6 ≤ (2 : Int) := by
    rw [ev6]
    exact hHy5.rF (k := 3) (i := 2) (p := (0, 2)) rfl rfl
  have kv6 : v6 = X0.1 3 2 := by rw [ev6, (hGy5 3 2 rfl).1]
  refine x_iload C dX8_take_82 rfl ?_
  refine x_iconst C dX8_take_84 ?_
  refine x_iadd C dX8_take_85 ?_
  refine x_eq (b := 1) rfl ?_
  refine x_mmax C ⟨by omega, by omega⟩ ⟨by omega, by omega⟩ (lw_gi 785 (by decide +kernel) rfl : Cond.methodLink RX8 73 Lib.Math.max.name ∈ lw_g) (lw_gi 623 (by decide +kernel) rfl : Cond.static Lib.Math.max.name ∈ lw_g) (lw_gi 129 (by decide +kernel) rfl : Cond.initialized "java/lang/Math" ∈ lw_g) (lw_gi 624 (by decide +kernel) rfl : Cond.code Lib.Math.max.name Lib.Math.max.code 2 (some .int) ∈ lw_g) (nle rfl) (nle rfl) dX8_take_86 (fun v7 h8 => ?_)
  refine x_iast C (nlt rfl) rfl rfl (nle rfl) (by omega) (by omega) dX8_take_89 ?_
  refine x_gX (fun Yy9 eYy9 => ?_)
  have hHy9 : HG vX Yy9 := by
    rw [eYy9]
    exact hg_wF hHy5 (p := (0, 2)) rfl ⟨by omega, by omega⟩
  have hFy9 : FR mdTk20 X0 Yy9 := by
    rw [eYy9]
    exact FR.upI hFy5 (rfl)
  replace eYy9 : Yy9 = upI Yy5 3 2 (v7) := eYy9
  have hGy9 : FR [(3, some 2)] Yy5 Yy9 := by
    rw [eYy9]
    exact FR.upI FR.rf rfl
  refine x_iload C dX8_take_90 rfl ?_
  exact x_iret C hQ dX8_take_92 (⟨_, rfl, rfl, hHy9, hFy9, by rw [eYy9, upI_at]; omega, ⟨by rw [eYy9, upI_nc (by decide)]; exact hC.1, fun j hj => ⟨by rw [eYy9, upI_2]; exact (hC.2 j hj).1, by rw [eYy9, upI_nc (by decide)]; exact (hC.2 j hj).2⟩⟩⟩)
set_option maxHeartbeats 4000000 in
set_option maxRecDepth 100000 in
theorem c_take20o {D : va_G} {ad : Nat → Nat} {cA : Nat → ClassId} {X0 : XT} {G : GC} (mb : 0 ≤ G.1 ∧ G.1 ≤ 30) (hM : GMX G X0) (hk : 0 < X0.1 3 2) (hH : HG vX X0) (hF : FR mdTk20 X0 X0) : MetX (wX D ad cA) yX8_take cX8_take 5 (some .int) 2 81 [.ref 1, .ref 21, .int (iI (2)), .int (iI (0))] X0 (fun r X1 => ∃ u : Int, r = some (.int (iI u)) ∧ u = 0 ∧ HG vX X1 ∧ FR mdTk20 X0 X1 ∧ X1.1 3 2 = X0.1 3 2 ∧ GMk 13 14 15 G X1) := by
  have cb : (0 : Int) ≤ X0.1 3 2 ∧ X0.1 3 2 ≤ 2 := hH.rF (k := 3) (i := 2) (p := (0, 2)) rfl rfl
  refine MetX.mk (own := RX8) (by decide +kernel) rfl (nle rfl) (fun E C hQ => ?_)
  refine Wx_lv (lv' := [(0, .ref 1), (1, .ref 21), (2, .int (iI (2))), (3, .int (iI (0)))]) rfl ?_
  refine x_iload_n (i := 3) C dX8_take_0 rfl rfl ?_
  refine x_iconst C dX8_take_1 ?_
  refine x_icmp_ne (tgt := 14) C dX8_take_2 (by decide) ⟨by omega, by omega⟩ ⟨by omega, by omega⟩ (fun h1 => ?_) (fun h1 => by exfalso; omega)
  refine x_iload_n (i := 3) C dX8_take_14 rfl rfl ?_
  refine x_istore (lv' := [(4, .int (iI (0))), (0, .ref 1), (1, .ref 21), (2, .int (iI (2))), (3, .int (iI (0)))]) C dX8_take_15 (nlt rfl) rfl ?_
  refine x_iload_n (i := 2) C dX8_take_17 rfl rfl ?_
  refine x_if_ne (tgt := 38) C dX8_take_18 (by decide) ⟨by omega, by omega⟩ (fun h2 => ?_) (fun h2 => by exfalso; omega)
  refine x_iload_n (i := 2) C dX8_take_38 rfl rfl ?_
  refine x_iconst C dX8_take_39 ?_
  refine x_icmp_ne (tgt := 57) C dX8_take_40 (by decide) ⟨by omega, by omega⟩ ⟨by omega, by omega⟩ (fun h3 => ?_) (fun h3 => by exfalso; omega)
  refine x_aload_n (i := 0) C dX8_take_57 rfl rfl ?_
  refine x_getRs (r := 6) C fkX_X8_34 (nlt rfl) rfl (HG.rR hH (k := 1) (i := 7) rfl rfl) dX8_take_58 ?_
  refine x_iload C dX8_take_61 rfl ?_
  refine x_aald (r := some 13) C (nlt rfl) rfl rfl (nle rfl) (by omega) (by omega) (HG.rR hH (k := 6) (i := 0) rfl rfl) dX8_take_63 ?_
  refine x_aload_n (i := 1) C dX8_take_64 rfl rfl ?_
  refine x_getRs (r := 25) C fkX_X8_69 (nlt rfl) rfl (HG.rR hH (k := 21) (i := 1) rfl rfl) dX8_take_65 ?_
  refine x_callV (As := [.ref 25]) C (by exact (c_cpG13 (G := G) mb hH FR.rf hM)) ckX8_56 im_X2_copy se_X2_copy (nlt rfl) rfl rfl rfl rfl (nle rfl) (by exact ⟨nle rfl, nle rfl⟩) dX8_take_68 ?_
  rintro _ Yy4 ⟨rfl, hHy4, hGy4, hC⟩
  have hFy4 : FR mdTk20 X0 Yy4 := FR.tr hF hGy4 (by decide)
  refine Wx_st (st' := []) rfl ?_
  refine x_aload_n (i := 0) C dX8_take_71 rfl rfl ?_
  refine x_getRs (r := 3) C fkX_X8_19 (nlt rfl) rfl (HG.rR hHy4 (k := 1) (i := 4) rfl rfl) dX8_take_72 ?_
  refine x_iload_n (i := 2) C dX8_take_75 rfl rfl ?_
  refine x_aload_n (i := 0) C dX8_take_76 rfl rfl ?_
  refine x_getRs (r := 3) C fkX_X8_19 (nlt rfl) rfl (HG.rR hHy4 (k := 1) (i := 4) rfl rfl) dX8_take_77 ?_
  refine x_iload_n (i := 2) C dX8_take_80 rfl rfl ?_
  refine x_iald C (nlt rfl) rfl rfl (nle rfl) (by omega) (by omega) dX8_take_81 ?_
  refine x_gen (fun v5 ev5 => ?_)
  replace ev5 : v5 = Yy4.1 3 2 := ev5
  have qv5 : (0 : Int) ≤ v5 ∧ v5 ≤ (2 : Int) := by
    rw [ev5]
    exact hHy4.rF (k := 3) (i := 2) (p := (0, 2)) rfl rfl
  have kv5 : v5 = X0.1 3 2 := by rw [ev5, (hGy4 3 2 rfl).1]
  refine x_iload C dX8_take_82 rfl ?_
  refine x_iconst C dX8_take_84 ?_
  refine x_iadd C dX8_take_85 ?_
  refine x_eq (b := 1) rfl ?_
  refine x_mmax C ⟨by omega, by omega⟩ ⟨by omega, by omega⟩ (lw_gi 785 (by decide +kernel) rfl : Cond.methodLink RX8 73 Lib.Math.max.name ∈ lw_g) (lw_gi 623 (by decide +kernel) rfl : Cond.static Lib.Math.max.name ∈ lw_g) (lw_gi 129 (by decide +kernel) rfl : Cond.initialized "java/lang/Math" ∈ lw_g) (lw_gi 624 (by decide +kernel) rfl : Cond.code Lib.Math.max.name Lib.Math.max.code 2 (some .int) ∈ lw_g) (nle rfl) (nle rfl) dX8_take_86 (fun v6 h7 => ?_)
  refine x_iast C (nlt rfl) rfl rfl (nle rfl) (by omega) (by omega) dX8_take_89 ?_
  refine x_gX (fun Yy8 eYy8 => ?_)
  have hHy8 : HG vX Yy8 := by
    rw [eYy8]
    exact hg_wF hHy4 (p := (0, 2)) rfl ⟨by omega, by omega⟩
  have hFy8 : FR mdTk20 X0 Yy8 := by
    rw [eYy8]
    exact FR.upI hFy4 (rfl)
  replace eYy8 : Yy8 = upI Yy4 3 2 (v6) := eYy8
  have hGy8 : FR [(3, some 2)] Yy4 Yy8 := by
    rw [eYy8]
    exact FR.upI FR.rf rfl
  refine x_iload C dX8_take_90 rfl ?_
  exact x_iret C hQ dX8_take_92 (⟨_, rfl, rfl, hHy8, hFy8, by rw [eYy8, upI_at]; omega, ⟨by rw [eYy8, upI_nc (by decide)]; exact hC.1, fun j hj => ⟨by rw [eYy8, upI_2]; exact (hC.2 j hj).1, by rw [eYy8, upI_nc (by decide)]; exact (hC.2 j hj).2⟩⟩⟩)
abbrev mdTk21 : List (Nat × Option Nat) := [(3, some 2), (16, some 0), (17, none), (18, none)]
set_option maxHeartbeats 4000000 in
set_option maxRecDepth 100000 in
theorem c_take21n {D : va_G} {ad : Nat → Nat} {cA : Nat → ClassId} {X0 : XT} {G : GC} (mb : 0 ≤ G.1 ∧ G.1 ≤ 30) (hM : GMX G X0) (hk : X0.1 3 2 = 1) (hH : HG vX X0) (hF : FR mdTk21 X0 X0) : MetX (wX D ad cA) yX8_take cX8_take 5 (some .int) 2 81 [.ref 1, .ref 21, .int (iI (2)), .int (iI ((-1)))] X0 (fun r X1 => ∃ u : Int, r = some (.int (iI u)) ∧ u = 1 ∧ HG vX X1 ∧ FR mdTk21 X0 X1 ∧ X1.1 3 2 = (2 : Int) ∧ GMk 16 17 18 G X1) := by
  have cb : (0 : Int) ≤ X0.1 3 2 ∧ X0.1 3 2 ≤ 2 := hH.rF (k := 3) (i := 2) (p := (0, 2)) rfl rfl
  refine MetX.mk (own := RX8) (by decide +kernel) rfl (nle rfl) (fun E C hQ => ?_)
  refine Wx_lv (lv' := [(0, .ref 1), (1, .ref 21), (2, .int (iI (2))), (3, .int (iI ((-1))))]) rfl ?_
  refine x_iload_n (i := 3) C dX8_take_0 rfl rfl ?_
  refine x_iconst C dX8_take_1 ?_
  refine x_icmp_ne (tgt := 14) C dX8_take_2 (by decide) ⟨by omega, by omega⟩ ⟨by omega, by omega⟩ (fun h1 => by exfalso; omega) (fun h1 => ?_)
  refine x_aload_n (i := 0) C dX8_take_5 rfl rfl ?_
  refine x_getRs (r := 3) C fkX_X8_19 (nlt rfl) rfl (HG.rR hH (k := 1) (i := 4) rfl rfl) dX8_take_6 ?_
  refine x_iload_n (i := 2) C dX8_take_9 rfl rfl ?_
  refine x_iald C (nlt rfl) rfl rfl (nle rfl) (by omega) (by omega) dX8_take_10 ?_
  refine x_gen (fun v2 ev2 => ?_)
  replace ev2 : v2 = X0.1 3 2 := ev2
  have qv2 : (0 : Int) ≤ v2 ∧ v2 ≤ (2 : Int) := by
    rw [ev2]
    exact hH.rF (k := 3) (i := 2) (p := (0, 2)) rfl rfl
  refine x_goto (tgt := 15) C dX8_take_11 (by decide) ?_
  obtain rfl : v2 = 1 := by omega
  refine x_istore (lv' := [(4, .int (iI (1))), (0, .ref 1), (1, .ref 21), (2, .int (iI (2))), (3, .int (iI ((-1))))]) C dX8_take_15 (nlt rfl) rfl ?_
  refine x_iload_n (i := 2) C dX8_take_17 rfl rfl ?_
  refine x_if_ne (tgt := 38) C dX8_take_18 (by decide) ⟨by omega, by omega⟩ (fun h3 => ?_) (fun h3 => by exfalso; omega)
  refine x_iload_n (i := 2) C dX8_take_38 rfl rfl ?_
  refine x_iconst C dX8_take_39 ?_
  refine x_icmp_ne (tgt := 57) C dX8_take_40 (by decide) ⟨by omega, by omega⟩ ⟨by omega, by omega⟩ (fun h4 => ?_) (fun h4 => by exfalso; omega)
  refine x_aload_n (i := 0) C dX8_take_57 rfl rfl ?_
  refine x_getRs (r := 6) C fkX_X8_34 (nlt rfl) rfl (HG.rR hH (k := 1) (i := 7) rfl rfl) dX8_take_58 ?_
  refine x_iload C dX8_take_61 rfl ?_
  refine x_aald (r := some 16) C (nlt rfl) rfl rfl (nle rfl) (by omega) (by omega) (HG.rR hH (k := 6) (i := 1) rfl rfl) dX8_take_63 ?_
  refine x_aload_n (i := 1) C dX8_take_64 rfl rfl ?_
  refine x_getRs (r := 25) C fkX_X8_69 (nlt rfl) rfl (HG.rR hH (k := 21) (i := 1) rfl rfl) dX8_take_65 ?_
  refine x_callV (As := [.ref 25]) C (by exact (c_cpG16 (G := G) mb hH FR.rf hM)) ckX8_56 im_X2_copy se_X2_copy (nlt rfl) rfl rfl rfl rfl (nle rfl) (by exact ⟨nle rfl, nle rfl⟩) dX8_take_68 ?_
  rintro _ Yy5 ⟨rfl, hHy5, hGy5, hC⟩
  have hFy5 : FR mdTk21 X0 Yy5 := FR.tr hF hGy5 (by decide)
  refine Wx_st (st' := []) rfl ?_
  refine x_aload_n (i := 0) C dX8_take_71 rfl rfl ?_
  refine x_getRs (r := 3) C fkX_X8_19 (nlt rfl) rfl (HG.rR hHy5 (k := 1) (i := 4) rfl rfl) dX8_take_72 ?_
  refine x_iload_n (i := 2) C dX8_take_75 rfl rfl ?_
  refine x_aload_n (i := 0) C dX8_take_76 rfl rfl ?_
  refine x_getRs (r := 3) C fkX_X8_19 (nlt rfl) rfl (HG.rR hHy5 (k := 1) (i := 4) rfl rfl) dX8_take_77 ?_
  refine x_iload_n (i := 2) C dX8_take_80 rfl rfl ?_
  refine x_iald C (nlt rfl) rfl rfl (nle rfl) (by omega) (by omega) dX8_take_81 ?_
  refine x_gen (fun v6 ev6 => ?_)
  replace ev6 : v6 = Yy5.1 3 2 := ev6
  have qv6 : (0 : Int) ≤ v6 ∧ v6 ≤ (2 : Int) := by
    rw [ev6]
    exact hHy5.rF (k := 3) (i := 2) (p := (0, 2)) rfl rfl
  have kv6 : v6 = X0.1 3 2 := by rw [ev6, (hGy5 3 2 rfl).1]
  refine x_iload C dX8_take_82 rfl ?_
  refine x_iconst C dX8_take_84 ?_
  refine x_iadd C dX8_take_85 ?_
  refine x_eq (b := 2) rfl ?_
  refine x_mmax C ⟨by omega, by omega⟩ ⟨by omega, by omega⟩ (lw_gi 785 (by decide +kernel) rfl : Cond.methodLink RX8 73 Lib.Math.max.name ∈ lw_g) (lw_gi 623 (by decide +kernel) rfl : Cond.static Lib.Math.max.name ∈ lw_g) (lw_gi 129 (by decide +kernel) rfl : Cond.initialized "java/lang/Math" ∈ lw_g) (lw_gi 624 (by decide +kernel) rfl : Cond.code Lib.Math.max.name Lib.Math.max.code 2 (some .int) ∈ lw_g) (nle rfl) (nle rfl) dX8_take_86 (fun v7 h8 => ?_)
  refine x_iast C (nlt rfl) rfl rfl (nle rfl) (by omega) (by omega) dX8_take_89 ?_
  refine x_gX (fun Yy9 eYy9 => ?_)
  have hHy9 : HG vX Yy9 := by
    rw [eYy9]
    exact hg_wF hHy5 (p := (0, 2)) rfl ⟨by omega, by omega⟩
  have hFy9 : FR mdTk21 X0 Yy9 := by
    rw [eYy9]
    exact FR.upI hFy5 (rfl)
  replace eYy9 : Yy9 = upI Yy5 3 2 (v7) := eYy9
  have hGy9 : FR [(3, some 2)] Yy5 Yy9 := by
    rw [eYy9]
    exact FR.upI FR.rf rfl
  refine x_iload C dX8_take_90 rfl ?_
  exact x_iret C hQ dX8_take_92 (⟨_, rfl, rfl, hHy9, hFy9, by rw [eYy9, upI_at]; omega, ⟨by rw [eYy9, upI_nc (by decide)]; exact hC.1, fun j hj => ⟨by rw [eYy9, upI_2]; exact (hC.2 j hj).1, by rw [eYy9, upI_nc (by decide)]; exact (hC.2 j hj).2⟩⟩⟩)
set_option maxHeartbeats 4000000 in
set_option maxRecDepth 100000 in
theorem c_take21o {D : va_G} {ad : Nat → Nat} {cA : Nat → ClassId} {X0 : XT} {G : GC} (mb : 0 ≤ G.1 ∧ G.1 ≤ 30) (hM : GMX G X0) (hk : 1 < X0.1 3 2) (hH : HG vX X0) (hF : FR mdTk21 X0 X0) : MetX (wX D ad cA) yX8_take cX8_take 5 (some .int) 2 81 [.ref 1, .ref 21, .int (iI (2)), .int (iI (1))] X0 (fun r X1 => ∃ u : Int, r = some (.int (iI u)) ∧ u = 1 ∧ HG vX X1 ∧ FR mdTk21 X0 X1 ∧ X1.1 3 2 = X0.1 3 2 ∧ GMk 16 17 18 G X1) := by
  have cb : (0 : Int) ≤ X0.1 3 2 ∧ X0.1 3 2 ≤ 2 := hH.rF (k := 3) (i := 2) (p := (0, 2)) rfl rfl
  refine MetX.mk (own := RX8) (by decide +kernel) rfl (nle rfl) (fun E C hQ => ?_)
  refine Wx_lv (lv' := [(0, .ref 1), (1, .ref 21), (2, .int (iI (2))), (3, .int (iI (1)))]) rfl ?_
  refine x_iload_n (i := 3) C dX8_take_0 rfl rfl ?_
  refine x_iconst C dX8_take_1 ?_
  refine x_icmp_ne (tgt := 14) C dX8_take_2 (by decide) ⟨by omega, by omega⟩ ⟨by omega, by omega⟩ (fun h1 => ?_) (fun h1 => by exfalso; omega)
  refine x_iload_n (i := 3) C dX8_take_14 rfl rfl ?_
  refine x_istore (lv' := [(4, .int (iI (1))), (0, .ref 1), (1, .ref 21), (2, .int (iI (2))), (3, .int (iI (1)))]) C dX8_take_15 (nlt rfl) rfl ?_
  refine x_iload_n (i := 2) C dX8_take_17 rfl rfl ?_
  refine x_if_ne (tgt := 38) C dX8_take_18 (by decide) ⟨by omega, by omega⟩ (fun h2 => ?_) (fun h2 => by exfalso; omega)
  refine x_iload_n (i := 2) C dX8_take_38 rfl rfl ?_
  refine x_iconst C dX8_take_39 ?_
  refine x_icmp_ne (tgt := 57) C dX8_take_40 (by decide) ⟨by omega, by omega⟩ ⟨by omega, by omega⟩ (fun h3 => ?_) (fun h3 => by exfalso; omega)
  refine x_aload_n (i := 0) C dX8_take_57 rfl rfl ?_
  refine x_getRs (r := 6) C fkX_X8_34 (nlt rfl) rfl (HG.rR hH (k := 1) (i := 7) rfl rfl) dX8_take_58 ?_
  refine x_iload C dX8_take_61 rfl ?_
  refine x_aald (r := some 16) C (nlt rfl) rfl rfl (nle rfl) (by omega) (by omega) (HG.rR hH (k := 6) (i := 1) rfl rfl) dX8_take_63 ?_
  refine x_aload_n (i := 1) C dX8_take_64 rfl rfl ?_
  refine x_getRs (r := 25) C fkX_X8_69 (nlt rfl) rfl (HG.rR hH (k := 21) (i := 1) rfl rfl) dX8_take_65 ?_
  refine x_callV (As := [.ref 25]) C (by exact (c_cpG16 (G := G) mb hH FR.rf hM)) ckX8_56 im_X2_copy se_X2_copy (nlt rfl) rfl rfl rfl rfl (nle rfl) (by exact ⟨nle rfl, nle rfl⟩) dX8_take_68 ?_
  rintro _ Yy4 ⟨rfl, hHy4, hGy4, hC⟩
  have hFy4 : FR mdTk21 X0 Yy4 := FR.tr hF hGy4 (by decide)
  refine Wx_st (st' := []) rfl ?_
  refine x_aload_n (i := 0) C dX8_take_71 rfl rfl ?_
  refine x_getRs (r := 3) C fkX_X8_19 (nlt rfl) rfl (HG.rR hHy4 (k := 1) (i := 4) rfl rfl) dX8_take_72 ?_
  refine x_iload_n (i := 2) C dX8_take_75 rfl rfl ?_
  refine x_aload_n (i := 0) C dX8_take_76 rfl rfl ?_
  refine x_getRs (r := 3) C fkX_X8_19 (nlt rfl) rfl (HG.rR hHy4 (k := 1) (i := 4) rfl rfl) dX8_take_77 ?_
  refine x_iload_n (i := 2) C dX8_take_80 rfl rfl ?_
  refine x_iald C (nlt rfl) rfl rfl (nle rfl) (by omega) (by omega) dX8_take_81 ?_
  refine x_gen (fun v5 ev5 => ?_)
  replace ev5 : v5 = Yy4.1 3 2 := ev5
  have qv5 : (0 : Int) ≤ v5 ∧ v5 ≤ (2 : Int) := by
    rw [ev5]
    exact hHy4.rF (k := 3) (i := 2) (p := (0, 2)) rfl rfl
  have kv5 : v5 = X0.1 3 2 := by rw [ev5, (hGy4 3 2 rfl).1]
  refine x_iload C dX8_take_82 rfl ?_
  refine x_iconst C dX8_take_84 ?_
  refine x_iadd C dX8_take_85 ?_
  refine x_eq (b := 2) rfl ?_
  refine x_mmax C ⟨by omega, by omega⟩ ⟨by omega, by omega⟩ (lw_gi 785 (by decide +kernel) rfl : Cond.methodLink RX8 73 Lib.Math.max.name ∈ lw_g) (lw_gi 623 (by decide +kernel) rfl : Cond.static Lib.Math.max.name ∈ lw_g) (lw_gi 129 (by decide +kernel) rfl : Cond.initialized "java/lang/Math" ∈ lw_g) (lw_gi 624 (by decide +kernel) rfl : Cond.code Lib.Math.max.name Lib.Math.max.code 2 (some .int) ∈ lw_g) (nle rfl) (nle rfl) dX8_take_86 (fun v6 h7 => ?_)
  refine x_iast C (nlt rfl) rfl rfl (nle rfl) (by omega) (by omega) dX8_take_89 ?_
  refine x_gX (fun Yy8 eYy8 => ?_)
  have hHy8 : HG vX Yy8 := by
    rw [eYy8]
    exact hg_wF hHy4 (p := (0, 2)) rfl ⟨by omega, by omega⟩
  have hFy8 : FR mdTk21 X0 Yy8 := by
    rw [eYy8]
    exact FR.upI hFy4 (rfl)
  replace eYy8 : Yy8 = upI Yy4 3 2 (v6) := eYy8
  have hGy8 : FR [(3, some 2)] Yy4 Yy8 := by
    rw [eYy8]
    exact FR.upI FR.rf rfl
  refine x_iload C dX8_take_90 rfl ?_
  exact x_iret C hQ dX8_take_92 (⟨_, rfl, rfl, hHy8, hFy8, by rw [eYy8, upI_at]; omega, ⟨by rw [eYy8, upI_nc (by decide)]; exact hC.1, fun j hj => ⟨by rw [eYy8, upI_2]; exact (hC.2 j hj).1, by rw [eYy8, upI_nc (by decide)]; exact (hC.2 j hj).2⟩⟩⟩)
