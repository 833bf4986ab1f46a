/-! ===== the reference reads: a line of a board ===== -/

theorem cnX12_230 : Cond.constantLong RX12 230 (1936292453) ∈ lw_g := lw_gi 1550 (by decide +kernel) rfl
theorem cnX12_236 : Cond.constantLong RX12 236 (7168366) ∈ lw_g := lw_gi 1553 (by decide +kernel) rfl
theorem cnX12_234 : Cond.constantLong RX12 234 (7367028) ∈ lw_g := lw_gi 1552 (by decide +kernel) rfl
set_option maxHeartbeats 4000000 in
set_option maxRecDepth 100000 in
theorem r_boardLine {D : va_G} {ad : Nat → Nat} {cA : Nat → ClassId} {X0 : XT} {b : Nat → Int} {N : Nat} (hT0 : TPM b N X0) (hH : HG vM X0) {s : Nat} {F : Int × Int} {B : BC} {wd : Int64} (hF : FR mmBL X0 X0) (hw : wd = wW b N s) (hK : TKM b N s X0) (hL : FLM F X0) (hO : FO F s) (hB : BDM F B X0) : MetX (wM D ad cA) yX12_boardLine cX12_boardLine 5 (some .boolean) 4 87 [.ref 0, .long (wd), .int (iI (((s : Nat) : Int)))] X0 (fun r X1 => ∃ u : Int, r = some (.int (iI u)) ∧ HG vM X1 ∧ FR mmBL X0 X1 ∧ LPB b N s F B X1 u) := by
  have kb := hK.1
  have sN := hK.2.2.2.2.2.1
  have n6 := hT0.2.1
  have k1 := hK.2.2.2.2.2.2
  have k5 := (tK_bd b N s).2
  have tx1 := fun t (ht : t ≤ N) => nx_bd b N t ht
  have mb := hB.2.2.2.2.2.2
  refine MetX.mk (own := RX12) (by decide +kernel) rfl (nle rfl) (fun E C hQ => ?_)
  refine Wx_lv (lv' := [(0, .ref 0), (1, .long (wd)), (3, .int (iI (((s : Nat) : Int))))]) rfl ?_
  have sx := nx_bd b N s sN
  rcases isW_or b N s with wk | wk | wk | wk | wk
  · have e0 : wd = 1936292453 := by rw [hw]; exact isW_0.mpr wk
    have sl : s < N := (tK_1 wk.1).2
    have e1 : wd ≠ 7168366 := by rw [e0]; decide
    have n1 : ¬ isW b N 1 s := fun g => e1 (by rw [hw]; exact isW_1.mpr g)
    have e2 : wd ≠ 2002873452 := by rw [e0]; decide
    have n2 : ¬ isW b N 2 s := fun g => e2 (by rw [hw]; exact isW_2.mpr g)
    have e3 : wd ≠ 7367028 := by rw [e0]; decide
    have n3 : ¬ isW b N 3 s := fun g => e3 (by rw [hw]; exact isW_3.mpr g)
    refine x_lload_n (i := 1) C dX12_boardLine_0 rfl rfl ?_
    refine x_ldc2 C dX12_boardLine_1 cnX12_230 ?_
    refine x_lcmp C dX12_boardLine_4 ?_
    refine x_topi (fun v1 rv1 ev1 => ?_)
    have cv1 := lcmp_iff rv1 ev1
    unfold inR at rv1
    have zzv1 : v1 = 0 := cv1.1.mpr e0
    refine x_if_eq (tgt := 37) C dX12_boardLine_5 (by decide) ⟨by omega, by omega⟩ (fun h2 => ?_) (fun h2 => by exfalso; omega)
    refine x_lload_n (i := 1) C dX12_boardLine_37 rfl rfl ?_
    refine x_ldc2 C dX12_boardLine_38 cnX12_236 ?_
    refine x_lcmp C dX12_boardLine_41 ?_
    refine x_topi (fun v3 rv3 ev3 => ?_)
    have cv3 := lcmp_iff rv3 ev3
    unfold inR at rv3
    have zzv3 : v3 ≠ 0 := fun g => e1 (cv3.1.mp g)
    refine x_if_ne (tgt := 62) C dX12_boardLine_42 (by decide) ⟨by omega, by omega⟩ (fun h4 => ?_) (fun h4 => by exfalso; omega)
    have hOn : FO F (nx b N s) := hO.mono sx.1
    refine x_aload_n (i := 0) C dX12_boardLine_62 rfl rfl ?_
    refine x_callV (As := []) C (by exact (r_tok (s := s) (hT0.fr hF rfl) hH hK FR.rf)) ckX12_216 im_X12_token se_X12_token (nlt rfl) rfl rfl rfl rfl (nle rfl) (by exact ⟨nle rfl, nle rfl⟩) dX12_boardLine_63 ?_
    rintro _ Yy5 ⟨rfl, hHy5, hGy5, hKy5⟩
    have hFy5 : FR mmBL X0 Yy5 := FR.tr hF hGy5 (by decide)
    have hLy5 := hL.fr hGy5 rfl
    have hBy5 := hB.fr hGy5 rfl
    have sny5 := nx_bd b N s hK.2.2.2.2.2.1
    refine Wx_st (st' := []) rfl ?_
    refine x_lload_n (i := 1) C dX12_boardLine_66 rfl rfl ?_
    refine x_ldc2 C dX12_boardLine_67 cnX12_230 ?_
    refine x_lcmp C dX12_boardLine_70 ?_
    refine x_topi (fun v6 rv6 ev6 => ?_)
    have cv6 := lcmp_iff rv6 ev6
    unfold inR at rv6
    have zzv6 : v6 = 0 := cv6.1.mpr e0
    refine x_if_ne (tgt := 114) C dX12_boardLine_71 (by decide) ⟨by omega, by omega⟩ (fun h7 => by exfalso; omega) (fun h7 => ?_)
    refine x_iconst C dX12_boardLine_74 ?_
    refine x_istore (lv' := [(4, .int (iI (0))), (0, .ref 0), (1, .long (wd)), (3, .int (iI (((s : Nat) : Int))))]) C dX12_boardLine_75 (nlt rfl) rfl ?_
    refine x_iload C dX12_boardLine_77 rfl ?_
    refine x_iconst C dX12_boardLine_79 ?_
    refine x_icmp_ge (tgt := 112) C dX12_boardLine_80 (by decide) ⟨by omega, by omega⟩ ⟨by omega, by omega⟩ (fun h8 => by exfalso; omega) (fun h8 => ?_)
    refine x_aload_n (i := 0) C dX12_boardLine_83 rfl rfl ?_
    refine x_iconst C dX12_boardLine_84 ?_
    refine x_bipush C dX12_boardLine_85 (by decide) ?_
    refine x_callV (As := [.int (iI (2)), .int (iI (6))]) C (by exact (r_take (s := (nx b N s)) (F := F) (lo := 2) (hi := 6) (hT0.fr hFy5 rfl) hHy5 (by omega) (by omega) (by omega) (by omega) FR.rf hKy5 hLy5 hOn)) ckX12_219 im_X12_take se_X12_take (nlt rfl) rfl rfl rfl rfl (nle rfl) (by exact ⟨nle rfl, nle rfl⟩) dX12_boardLine_87 ?_
    rintro _ Yy9 ⟨v10, rfl, hHy9, hGy9, hKy9, hLy9, tkv10⟩
    have hFy9 : FR mmBL X0 Yy9 := FR.tr hFy5 hGy9 (by decide)
    have hBy9 := hBy5.fr hGy9 rfl
    have hOy9 := hOn.tn (b := b) (lo := 2) (hi := 6) hKy5.2.2.2.2.2.1
    have sby9 := tnS_bd b N (nx b N s) hKy5.2.2.2.2.2.1
    refine Wx_st (st' := [.int (iI (v10))]) rfl ?_
    refine x_if_ne (tgt := 95) C dX12_boardLine_90 (by decide) ⟨by omega, by omega⟩ (fun h11 => ?_) (fun h11 => ?_)
    · have kk1 : tK b N (nx b N s) = 2 := tkv10.elim (fun g => g.2.1) (fun g => by exfalso; have := g.1; omega)
      have kv1 := tnV_y kk1 (by omega)
      refine x_aload_n (i := 0) C dX12_boardLine_95 rfl rfl ?_
      refine x_getRs (r := 9) C fkM_X12_35 (nlt rfl) rfl (HG.rR hHy9 (k := 0) (i := 18) rfl rfl) dX12_boardLine_96 ?_
      refine x_iload C dX12_boardLine_99 rfl ?_
      refine x_aload_n (i := 0) C dX12_boardLine_101 rfl rfl ?_
      refine x_getI C fkM_X12_209 (nlt rfl) rfl dX12_boardLine_102 ?_
      refine x_gen (fun v12 ev12 => ?_)
      have qv12 : ((-2147483648) : Int) ≤ v12 ∧ v12 ≤ (2147483647 : Int) := by
        rw [ev12]
        exact hHy9.rF (k := 0) (i := 20) rfl rfl
      have rvv12 : v12 = tnV b N (nx b N s) := by rw [ev12]; exact tkv10.elim (fun g => g.2.2) (fun g => by exfalso; have := g.1; omega)
      refine x_iast C (nlt rfl) rfl rfl (nle rfl) (by omega) (by omega) dX12_boardLine_105 ?_
      refine x_gX (fun Yy13 eYy13 => ?_)
      have hHy13 : HG vM Yy13 := by
        rw [eYy13]
        exact hg_wF hHy9 (p := ((-1), 99)) rfl ⟨by omega, by omega⟩
      have hFy13 : FR mmBL X0 Yy13 := by
        rw [eYy13]
        exact FR.upI hFy9 (rfl)
      replace eYy13 : Yy13 = upI Yy9 9 0 (v12) := eYy13
      have hGy13 : FR [(9, some 0)] Yy9 Yy13 := by
        rw [eYy13]
        exact FR.upI FR.rf rfl
      have hKy13 := hKy9.fr hGy13 rfl
      have hLy13 := hLy9.fr hGy13 rfl
      refine x_iinc (lv' := [(4, .int (iI (0 + 1))), (0, .ref 0), (1, .long (wd)), (3, .int (iI (((s : Nat) : Int))))]) C dX12_boardLine_106 rfl (nlt rfl) rfl ?_
      refine Wx_lv (lv' := [(4, .int (iI (1))), (0, .ref 0), (1, .long (wd)), (3, .int (iI (((s : Nat) : Int))))]) rfl ?_
      refine x_goto (tgt := 77) C dX12_boardLine_109 (by decide) ?_
      refine x_iload C dX12_boardLine_77 rfl ?_
      refine x_iconst C dX12_boardLine_79 ?_
      refine x_icmp_ge (tgt := 112) C dX12_boardLine_80 (by decide) ⟨by omega, by omega⟩ ⟨by omega, by omega⟩ (fun h14 => by exfalso; omega) (fun h14 => ?_)
      refine x_aload_n (i := 0) C dX12_boardLine_83 rfl rfl ?_
      refine x_iconst C dX12_boardLine_84 ?_
      refine x_bipush C dX12_boardLine_85 (by decide) ?_
      refine x_callV (As := [.int (iI (2)), .int (iI (6))]) C (by exact (r_take (s := (tnS b N (nx b N s))) (F := (tnF b N 2 6 (nx b N s) F)) (lo := 2) (hi := 6) (hT0.fr hFy13 rfl) hHy13 (by omega) (by omega) (by omega) (by omega) FR.rf hKy13 hLy13 hOy9)) ckX12_219 im_X12_take se_X12_take (nlt rfl) rfl rfl rfl rfl (nle rfl) (by exact ⟨nle rfl, nle rfl⟩) dX12_boardLine_87 ?_
      rintro _ Yy15 ⟨v16, rfl, hHy15, hGy15, hKy15, hLy15, tkv16⟩
      have hFy15 : FR mmBL X0 Yy15 := FR.tr hFy13 hGy15 (by decide)
      have hOy15 := hOy9.tn (b := b) (lo := 2) (hi := 6) hKy13.2.2.2.2.2.1
      have sby15 := tnS_bd b N (tnS b N (nx b N s)) hKy13.2.2.2.2.2.1
      refine Wx_st (st' := [.int (iI (v16))]) rfl ?_
      refine x_if_ne (tgt := 95) C dX12_boardLine_90 (by decide) ⟨by omega, by omega⟩ (fun h17 => ?_) (fun h17 => ?_)
      · have kk2 : tK b N (tnS b N (nx b N s)) = 2 := tkv16.elim (fun g => g.2.1) (fun g => by exfalso; have := g.1; omega)
        have kv2 := tnV_y kk2 (by omega)
        refine x_aload_n (i := 0) C dX12_boardLine_95 rfl rfl ?_
        refine x_getRs (r := 9) C fkM_X12_35 (nlt rfl) rfl (HG.rR hHy15 (k := 0) (i := 18) rfl rfl) dX12_boardLine_96 ?_
        refine x_iload C dX12_boardLine_99 rfl ?_
        refine x_aload_n (i := 0) C dX12_boardLine_101 rfl rfl ?_
        refine x_getI C fkM_X12_209 (nlt rfl) rfl dX12_boardLine_102 ?_
        refine x_gen (fun v18 ev18 => ?_)
        have qv18 : ((-2147483648) : Int) ≤ v18 ∧ v18 ≤ (2147483647 : Int) := by
          rw [ev18]
          exact hHy15.rF (k := 0) (i := 20) rfl rfl
        have rvv18 : v18 = tnV b N (tnS b N (nx b N s)) := by rw [ev18]; exact tkv16.elim (fun g => g.2.2) (fun g => by exfalso; have := g.1; omega)
        refine x_iast C (nlt rfl) rfl rfl (nle rfl) (by omega) (by omega) dX12_boardLine_105 ?_
        refine x_gX (fun Yy19 eYy19 => ?_)
        have hHy19 : HG vM Yy19 := by
          rw [eYy19]
          exact hg_wF hHy15 (p := ((-1), 99)) rfl ⟨by omega, by omega⟩
        have hFy19 : FR mmBL X0 Yy19 := by
          rw [eYy19]
          exact FR.upI hFy15 (rfl)
        replace eYy19 : Yy19 = upI Yy15 9 1 (v18) := eYy19
        have hGy19 : FR [(9, some 1)] Yy15 Yy19 := by
          rw [eYy19]
          exact FR.upI FR.rf rfl
        have hKy19 := hKy15.fr hGy19 rfl
        have hLy19 := hLy15.fr hGy19 rfl
        refine x_iinc (lv' := [(4, .int (iI (1 + 1))), (0, .ref 0), (1, .long (wd)), (3, .int (iI (((s : Nat) : Int))))]) C dX12_boardLine_106 rfl (nlt rfl) rfl ?_
        refine Wx_lv (lv' := [(4, .int (iI (2))), (0, .ref 0), (1, .long (wd)), (3, .int (iI (((s : Nat) : Int))))]) rfl ?_
        refine x_goto (tgt := 77) C dX12_boardLine_109 (by decide) ?_
        refine x_iload C dX12_boardLine_77 rfl ?_
        refine x_iconst C dX12_boardLine_79 ?_
        refine x_icmp_ge (tgt := 112) C dX12_boardLine_80 (by decide) ⟨by omega, by omega⟩ ⟨by omega, by omega⟩ (fun h20 => ?_) (fun h20 => by exfalso; omega)
        have hBn : BDM (tnF b N 2 6 (tnS b N (nx b N s)) (tnF b N 2 6 (nx b N s) F)) (bsz B (tnV b N (nx b N s)) (tnV b N (tnS b N (nx b N s)))) Yy19 := by
          refine ⟨by rw [eYy19, upI_ne (by omega), (hGy15 9 0 rfl).1, eYy13, upI_at]; exact rvv12, by rw [eYy19, upI_at]; exact rvv18, by rw [eYy19, upI_ne (by omega), (hGy15 9 2 rfl).1, eYy13, upI_ne (by omega), (hGy9 9 2 rfl).1, (hGy5 9 2 rfl).1]; exact hB.2.2.1, fun j hj => by exact ⟨by rw [eYy19, upI_ne (by omega), (hGy15 9 (3 + 2 * j) rfl).1, eYy13, upI_ne (by omega), (hGy9 9 (3 + 2 * j) rfl).1, (hGy5 9 (3 + 2 * j) rfl).1]; exact (hB.2.2.2.1 j hj).1, by rw [eYy19, upI_ne (by omega), (hGy15 9 (4 + 2 * j) rfl).1, eYy13, upI_ne (by omega), (hGy9 9 (4 + 2 * j) rfl).1, (hGy5 9 (4 + 2 * j) rfl).1]; exact (hB.2.2.2.1 j hj).2⟩, fun q => ?_, by rw [eYy19, upI_nc (by decide), (hGy15 0 21 rfl).1, eYy13, upI_nc (by decide), (hGy9 0 21 rfl).1, (hGy5 0 21 rfl).1]; exact hB.2.2.2.2.2.1, hB.2.2.2.2.2.2⟩
          have q4 := hB.2.2.2.2.1 (tnF_0 (tnF_0 q).1).1
          exact ⟨fun f hf => by rw [eYy19, upI_ne (by omega), (hGy15 9 (15 + f) rfl).1, eYy13, upI_ne (by omega), (hGy9 9 (15 + f) rfl).1, (hGy5 9 (15 + f) rfl).1]; exact q4.1 f hf, by rw [eYy19, upI_nc (by decide), (hGy15 0 21 rfl).1, eYy13, upI_nc (by decide), (hGy9 0 21 rfl).1, (hGy5 0 21 rfl).1]; exact q4.2⟩
        refine x_iconst C dX12_boardLine_112 ?_
        exact x_zret C hQ (by omega) dX12_boardLine_113 (⟨_, rfl, hHy19, hFy19, (tnS b N (tnS b N (nx b N s))), (tnF b N 2 6 (tnS b N (nx b N s)) (tnF b N 2 6 (nx b N s) F)), (bsz B (tnV b N (nx b N s)) (tnV b N (tnS b N (nx b N s)))), hKy19, hLy19, hOy15, .inl ⟨rfl, by omega, by rw [bL_0 wk, finB_ok ⟨by omega, by omega⟩], hBn⟩⟩)
      · have kn : tK b N (tnS b N (nx b N s)) ≠ 2 := tkv16.elim (fun g => by exfalso; have := g.1; omega) (fun g => g.2.1)
        have wa : Yy15.1 0 15 = ((((tnS b N (nx b N s)) : Nat) : Int) : Int) := tkv16.elim (fun g => by exfalso; have := g.1; omega) (fun g => g.2.2)
        refine x_iconst C dX12_boardLine_93 ?_
        exact x_zret C hQ (by omega) dX12_boardLine_94 (⟨_, rfl, hHy15, hFy15, (tnS b N (tnS b N (nx b N s))), (tnF b N 2 6 (tnS b N (nx b N s)) (tnF b N 2 6 (nx b N s) F)), (bsz B (tnV b N (nx b N s)) (tnV b N (tnS b N (nx b N s)))), hKy15, hLy15, hOy15, .inr ⟨rfl, by rw [tnS_n kn]; exact wa, by rw [bL_0 wk, finB_n (.inl (fun g => g.2 (tnV_n kn)))]⟩⟩)
    · have kn : tK b N (nx b N s) ≠ 2 := tkv10.elim (fun g => by exfalso; have := g.1; omega) (fun g => g.2.1)
      have wa : Yy9.1 0 15 = ((((nx b N s) : Nat) : Int) : Int) := tkv10.elim (fun g => by exfalso; have := g.1; omega) (fun g => g.2.2)
      refine x_iconst C dX12_boardLine_93 ?_
      exact x_zret C hQ (by omega) dX12_boardLine_94 (⟨_, rfl, hHy9, hFy9, (tnS b N (nx b N s)), (tnF b N 2 6 (nx b N s) F), (bsz B (tnV b N (nx b N s)) (tnV b N (tnS b N (nx b N s)))), hKy9, hLy9, hOy9, .inr ⟨rfl, by rw [tnS_n kn]; exact wa, by rw [bL_0 wk, finB_n (.inl (fun g => g.1 (tnV_n kn)))]; simp only [tnS_n kn, tnF_n kn]⟩⟩)
  · have e1 : wd = 7168366 := by rw [hw]; exact isW_1.mpr wk
    have sl : s < N := (tK_1 wk.1).2
    have e0 : wd ≠ 1936292453 := by rw [e1]; decide
    have n0 : ¬ isW b N 0 s := fun g => e0 (by rw [hw]; exact isW_0.mpr g)
    have e2 : wd ≠ 2002873452 := by rw [e1]; decide
    have n2 : ¬ isW b N 2 s := fun g => e2 (by rw [hw]; exact isW_2.mpr g)
    have e3 : wd ≠ 7367028 := by rw [e1]; decide
    have n3 : ¬ isW b N 3 s := fun g => e3 (by rw [hw]; exact isW_3.mpr g)
    refine x_lload_n (i := 1) C dX12_boardLine_0 rfl rfl ?_
    refine x_ldc2 C dX12_boardLine_1 cnX12_230 ?_
    refine x_lcmp C dX12_boardLine_4 ?_
    refine x_topi (fun v21 rv21 ev21 => ?_)
    have cv21 := lcmp_iff rv21 ev21
    unfold inR at rv21
    have zzv21 : v21 ≠ 0 := fun g => e0 (cv21.1.mp g)
    refine x_if_eq (tgt := 37) C dX12_boardLine_5 (by decide) ⟨by omega, by omega⟩ (fun h22 => by exfalso; omega) (fun h22 => ?_)
    refine x_lload_n (i := 1) C dX12_boardLine_8 rfl rfl ?_
    refine x_ldc2 C dX12_boardLine_9 cnX12_232 ?_
    refine x_lcmp C dX12_boardLine_12 ?_
    refine x_topi (fun v23 rv23 ev23 => ?_)
    have cv23 := lcmp_iff rv23 ev23
    unfold inR at rv23
    have zzv23 : v23 ≠ 0 := fun g => e2 (cv23.1.mp g)
    refine x_if_eq (tgt := 37) C dX12_boardLine_13 (by decide) ⟨by omega, by omega⟩ (fun h24 => by exfalso; omega) (fun h24 => ?_)
    refine x_lload_n (i := 1) C dX12_boardLine_16 rfl rfl ?_
    refine x_ldc2 C dX12_boardLine_17 cnX12_234 ?_
    refine x_lcmp C dX12_boardLine_20 ?_
    refine x_topi (fun v25 rv25 ev25 => ?_)
    have cv25 := lcmp_iff rv25 ev25
    unfold inR at rv25
    have zzv25 : v25 ≠ 0 := fun g => e3 (cv25.1.mp g)
    refine x_if_eq (tgt := 37) C dX12_boardLine_21 (by decide) ⟨by omega, by omega⟩ (fun h26 => by exfalso; omega) (fun h26 => ?_)
    refine x_lload_n (i := 1) C dX12_boardLine_24 rfl rfl ?_
    refine x_ldc2 C dX12_boardLine_25 cnX12_236 ?_
    refine x_lcmp C dX12_boardLine_28 ?_
    refine x_topi (fun v27 rv27 ev27 => ?_)
    have cv27 := lcmp_iff rv27 ev27
    unfold inR at rv27
    have zzv27 : v27 = 0 := cv27.1.mpr e1
    refine x_if_eq (tgt := 37) C dX12_boardLine_29 (by decide) ⟨by omega, by omega⟩ (fun h28 => ?_) (fun h28 => by exfalso; omega)
    refine x_lload_n (i := 1) C dX12_boardLine_37 rfl rfl ?_
    refine x_ldc2 C dX12_boardLine_38 cnX12_236 ?_
    refine x_lcmp C dX12_boardLine_41 ?_
    refine x_topi (fun v29 rv29 ev29 => ?_)
    have cv29 := lcmp_iff rv29 ev29
    unfold inR at rv29
    have zzv29 : v29 = 0 := cv29.1.mpr e1
    refine x_if_ne (tgt := 62) C dX12_boardLine_42 (by decide) ⟨by omega, by omega⟩ (fun h30 => by exfalso; omega) (fun h30 => ?_)
    refine x_aload_n (i := 0) C dX12_boardLine_45 rfl rfl ?_
    refine x_getRs (r := 9) C fkM_X12_35 (nlt rfl) rfl (HG.rR hH (k := 0) (i := 18) rfl rfl) dX12_boardLine_46 ?_
    refine x_iconst C dX12_boardLine_49 ?_
    refine x_iald C (nlt rfl) rfl rfl (nle rfl) (by omega) (by omega) dX12_boardLine_50 ?_
    refine x_gen (fun v31 ev31 => ?_)
    replace ev31 : v31 = X0.1 9 2 := ev31
    have qv31 : ((-1) : Int) ≤ v31 ∧ v31 ≤ (99 : Int) := by
      rw [ev31]
      exact hH.rF (k := 9) (i := 2) (p := ((-1), 99)) rfl rfl
    have ktv31 := ev31
    have mmv31 : v31 = B.2.2.2.2.1 := by rw [ktv31]; exact hB.2.2.1
    refine x_bipush C dX12_boardLine_51 (by decide) ?_
    refine x_icmp_ne (tgt := 62) C dX12_boardLine_53 (by decide) ⟨by omega, by omega⟩ ⟨by omega, by omega⟩ (fun h32 => ?_) (fun h32 => ?_)
    · have hOn : FO F (nx b N s) := hO.mono sx.1
      have f3 : (if B.2.2.2.2.1 = 6 then ntF F 3 s else F) = F := if_neg (by omega)
      refine x_aload_n (i := 0) C dX12_boardLine_62 rfl rfl ?_
      refine x_callV (As := []) C (by exact (r_tok (s := s) (hT0.fr hF rfl) hH hK FR.rf)) ckX12_216 im_X12_token se_X12_token (nlt rfl) rfl rfl rfl rfl (nle rfl) (by exact ⟨nle rfl, nle rfl⟩) dX12_boardLine_63 ?_
      rintro _ Yy33 ⟨rfl, hHy33, hGy33, hKy33⟩
      have hFy33 : FR mmBL X0 Yy33 := FR.tr hF hGy33 (by decide)
      have hLy33 := hL.fr hGy33 rfl
      have hBy33 := hB.fr hGy33 rfl
      have sny33 := nx_bd b N s hK.2.2.2.2.2.1
      refine Wx_st (st' := []) rfl ?_
      refine x_lload_n (i := 1) C dX12_boardLine_66 rfl rfl ?_
      refine x_ldc2 C dX12_boardLine_67 cnX12_230 ?_
      refine x_lcmp C dX12_boardLine_70 ?_
      refine x_topi (fun v34 rv34 ev34 => ?_)
      have cv34 := lcmp_iff rv34 ev34
      unfold inR at rv34
      have zzv34 : v34 ≠ 0 := fun g => e0 (cv34.1.mp g)
      refine x_if_ne (tgt := 114) C dX12_boardLine_71 (by decide) ⟨by omega, by omega⟩ (fun h35 => ?_) (fun h35 => by exfalso; omega)
      refine x_lload_n (i := 1) C dX12_boardLine_114 rfl rfl ?_
      refine x_ldc2 C dX12_boardLine_115 cnX12_236 ?_
      refine x_lcmp C dX12_boardLine_118 ?_
      refine x_topi (fun v36 rv36 ev36 => ?_)
      have cv36 := lcmp_iff rv36 ev36
      unfold inR at rv36
      have zzv36 : v36 = 0 := cv36.1.mpr e1
      refine x_if_ne (tgt := 209) C dX12_boardLine_119 (by decide) ⟨by omega, by omega⟩ (fun h37 => by exfalso; omega) (fun h37 => ?_)
      refine x_aload_n (i := 0) C dX12_boardLine_122 rfl rfl ?_
      refine x_iconst C dX12_boardLine_123 ?_
      refine x_iconst C dX12_boardLine_124 ?_
      refine x_callV (As := [.int (iI (0)), .int (iI (1))]) C (by exact (r_take (s := (nx b N s)) (F := F) (lo := 0) (hi := 1) (hT0.fr hFy33 rfl) hHy33 (by omega) (by omega) (by omega) (by omega) FR.rf hKy33 hLy33 hOn)) ckX12_219 im_X12_take se_X12_take (nlt rfl) rfl rfl rfl rfl (nle rfl) (by exact ⟨nle rfl, nle rfl⟩) dX12_boardLine_125 ?_
      rintro _ Yy38 ⟨v39, rfl, hHy38, hGy38, hKy38, hLy38, tkv39⟩
      have hFy38 : FR mmBL X0 Yy38 := FR.tr hFy33 hGy38 (by decide)
      have hBy38 := hBy33.fr hGy38 rfl
      have hOy38 := hOn.tn (b := b) (lo := 0) (hi := 1) hKy33.2.2.2.2.2.1
      have sby38 := tnS_bd b N (nx b N s) hKy33.2.2.2.2.2.1
      refine Wx_st (st' := [.int (iI (v39))]) rfl ?_
      refine x_if_ne (tgt := 133) C dX12_boardLine_128 (by decide) ⟨by omega, by omega⟩ (fun h40 => ?_) (fun h40 => ?_)
      · have kk1 : tK b N (nx b N s) = 2 := tkv39.elim (fun g => g.2.1) (fun g => by exfalso; have := g.1; omega)
        have kv1 := tnV_y kk1 (by omega)
        refine x_aload_n (i := 0) C dX12_boardLine_133 rfl rfl ?_
        refine x_getI C fkM_X12_209 (nlt rfl) rfl dX12_boardLine_134 ?_
        refine x_gen (fun v41 ev41 => ?_)
        have qv41 : ((-2147483648) : Int) ≤ v41 ∧ v41 ≤ (2147483647 : Int) := by
          rw [ev41]
          exact hHy38.rF (k := 0) (i := 20) rfl rfl
        have rvv41 : v41 = tnV b N (nx b N s) := by rw [ev41]; exact tkv39.elim (fun g => g.2.2) (fun g => by exfalso; have := g.1; omega)
        refine x_istore (lv' := [(4, .int (iI (v41))), (0, .ref 0), (1, .long (wd)), (3, .int (iI (((s : Nat) : Int))))]) C dX12_boardLine_137 (nlt rfl) rfl ?_
        refine x_aload_n (i := 0) C dX12_boardLine_139 rfl rfl ?_
        refine x_callV (As := []) C (by exact (r_takeField (s := (tnS b N (nx b N s))) (F := (tnF b N 0 1 (nx b N s) F)) (hT0.fr hFy38 rfl) hHy38 FR.rf hKy38 hLy38 hOy38 hBy38.2.2.2.2.2.1)) ckX12_238 im_X12_takeField se_X12_takeField (nlt rfl) rfl rfl rfl rfl (nle rfl) (by exact ⟨nle rfl, nle rfl⟩) dX12_boardLine_140 ?_
        rintro _ Yy42 ⟨v43, rfl, hHy42, hGy42, hKy42, hLy42, gtv43, tkv43⟩
        have hFy42 : FR mmBL X0 Yy42 := FR.tr hFy38 hGy42 (by decide)
        have hOy42 := hOy38.tn (b := b) (lo := 0) (hi := 35) hKy38.2.2.2.2.2.1
        have sby42 := tnS_bd b N (tnS b N (nx b N s)) hKy38.2.2.2.2.2.1
        refine Wx_st (st' := [.int (iI (v43))]) rfl ?_
        refine x_if_ne (tgt := 148) C dX12_boardLine_143 (by decide) ⟨by omega, by omega⟩ (fun h44 => ?_) (fun h44 => ?_)
        · have kk2 : tK b N (tnS b N (nx b N s)) = 2 := tkv43.elim (fun g => g.2.1) (fun g => by exfalso; have := g.1; omega)
          have kv2 := tnV_y kk2 (by omega)
          refine x_aload_n (i := 0) C dX12_boardLine_148 rfl rfl ?_
          refine x_getRs (r := 9) C fkM_X12_35 (nlt rfl) rfl (HG.rR hHy42 (k := 0) (i := 18) rfl rfl) dX12_boardLine_149 ?_
          refine x_iconst C dX12_boardLine_152 ?_
          refine x_iald C (nlt rfl) rfl rfl (nle rfl) (by omega) (by omega) dX12_boardLine_153 ?_
          refine x_gen (fun v45 ev45 => ?_)
          replace ev45 : v45 = Yy42.1 9 2 := ev45
          have qv45 : ((-1) : Int) ≤ v45 ∧ v45 ≤ (99 : Int) := by
            rw [ev45]
            exact hHy42.rF (k := 9) (i := 2) (p := ((-1), 99)) rfl rfl
          have kv45 : v45 = X0.1 9 2 := by rw [ev45, (hGy42 9 2 rfl).1, (hGy38 9 2 rfl).1, (hGy33 9 2 rfl).1]
          have ktv45 : v45 = X0.1 9 2 := by rw [ev45, (hGy42 9 2 rfl).1, (hGy38 9 2 rfl).1, (hGy33 9 2 rfl).1]
          have mmv45 : v45 = B.2.2.2.2.1 := by rw [ktv45]; exact hB.2.2.1
          refine x_bipush C dX12_boardLine_154 (by decide) ?_
          refine x_icmp_ge (tgt := 207) C dX12_boardLine_156 (by decide) ⟨by omega, by omega⟩ ⟨by omega, by omega⟩ (fun h46 => ?_) (fun h46 => ?_)
          · have hBn : BDM (tnF b N 0 35 (tnS b N (nx b N s)) (tnF b N 0 1 (nx b N s) F)) (bmn B (tnV b N (nx b N s)) (tnV b N (tnS b N (nx b N s)))) Yy42 := by
              have e1 : bmn B (tnV b N (nx b N s)) (tnV b N (tnS b N (nx b N s))) = B := if_neg (by omega)
              rw [e1]
              refine ⟨by rw [(hGy42 9 0 rfl).1, (hGy38 9 0 rfl).1, (hGy33 9 0 rfl).1]; exact hB.1, by rw [(hGy42 9 1 rfl).1, (hGy38 9 1 rfl).1, (hGy33 9 1 rfl).1]; exact hB.2.1, by rw [(hGy42 9 2 rfl).1, (hGy38 9 2 rfl).1, (hGy33 9 2 rfl).1]; exact hB.2.2.1, fun j hj => ⟨by rw [(hGy42 9 (3 + 2 * j) rfl).1, (hGy38 9 (3 + 2 * j) rfl).1, (hGy33 9 (3 + 2 * j) rfl).1]; exact (hB.2.2.2.1 j hj).1, by rw [(hGy42 9 (4 + 2 * j) rfl).1, (hGy38 9 (4 + 2 * j) rfl).1, (hGy33 9 (4 + 2 * j) rfl).1]; exact (hB.2.2.2.1 j hj).2⟩, fun q => ?_, by rw [gtv43]; rw [(hGy38 0 21 rfl).1, (hGy33 0 21 rfl).1]; have := gtm_ge (X0.1 0 21) (tnV b N (tnS b N (nx b N s))); have := hB.2.2.2.2.2.1; omega, hB.2.2.2.2.2.2⟩
              exfalso
              have q1 := (tnF_0 (tnF_0 q).1).1
              omega
            refine x_iconst C dX12_boardLine_207 ?_
            exact x_zret C hQ (by omega) dX12_boardLine_208 (⟨_, rfl, hHy42, hFy42, (tnS b N (tnS b N (nx b N s))), (tnF b N 0 35 (tnS b N (nx b N s)) (tnF b N 0 1 (nx b N s) F)), (bmn B (tnV b N (nx b N s)) (tnV b N (tnS b N (nx b N s)))), hKy42, hLy42, hOy42, .inl ⟨rfl, by omega, by rw [bL_1 n0 wk, f3, finB_ok ⟨by omega, by omega⟩], hBn⟩⟩)
          · refine x_aload_n (i := 0) C dX12_boardLine_159 rfl rfl ?_
            refine x_getRs (r := 9) C fkM_X12_35 (nlt rfl) rfl (HG.rR hHy42 (k := 0) (i := 18) rfl rfl) dX12_boardLine_160 ?_
            refine x_iconst C dX12_boardLine_163 ?_
            refine x_iconst C dX12_boardLine_164 ?_
            refine x_aload_n (i := 0) C dX12_boardLine_165 rfl rfl ?_
            refine x_getRs (r := 9) C fkM_X12_35 (nlt rfl) rfl (HG.rR hHy42 (k := 0) (i := 18) rfl rfl) dX12_boardLine_166 ?_
            refine x_iconst C dX12_boardLine_169 ?_
            refine x_iald C (nlt rfl) rfl rfl (nle rfl) (by omega) (by omega) dX12_boardLine_170 ?_
            refine x_gen (fun v47 ev47 => ?_)
            replace ev47 : v47 = Yy42.1 9 2 := ev47
            have qv47 : ((-1) : Int) ≤ v47 ∧ v47 ≤ (99 : Int) := by
              rw [ev47]
              exact hHy42.rF (k := 9) (i := 2) (p := ((-1), 99)) rfl rfl
            have kv47 : v47 = X0.1 9 2 := by rw [ev47, (hGy42 9 2 rfl).1, (hGy38 9 2 rfl).1, (hGy33 9 2 rfl).1]
            have ktv47 : v47 = X0.1 9 2 := by rw [ev47, (hGy42 9 2 rfl).1, (hGy38 9 2 rfl).1, (hGy33 9 2 rfl).1]
            have mmv47 : v47 = B.2.2.2.2.1 := by rw [ktv47]; exact hB.2.2.1
            refine x_imul C dX12_boardLine_171 ?_
            refine x_iadd C dX12_boardLine_172 ?_
            refine x_iload C dX12_boardLine_173 rfl ?_
            refine x_iast C (nlt rfl) rfl rfl (nle rfl) (by omega) (by omega) dX12_boardLine_175 ?_
            refine x_gX (fun Yy48 eYy48 => ?_)
            have hHy48 : HG vM Yy48 := by
              rw [eYy48]
              exact hg_wA hHy42 (n := 331) (p := ((-1), 99)) (by decide +kernel) (by omega) ⟨by omega, by omega⟩
            have hFy48 : FR mmBL X0 Yy48 := by
              rw [eYy48]
              exact FR.upI hFy42 (rfl)
            have hGy48 : FR [(9, none)] Yy42 Yy48 := by
              rw [eYy48]
              exact FR.upI FR.rf rfl
            have hKy48 := hKy42.fr hGy48 rfl
            have hLy48 := hLy42.fr hGy48 rfl
            refine x_aload_n (i := 0) C dX12_boardLine_176 rfl rfl ?_
            refine x_getRs (r := 9) C fkM_X12_35 (nlt rfl) rfl (HG.rR hHy48 (k := 0) (i := 18) rfl rfl) dX12_boardLine_177 ?_
            refine x_iconst C dX12_boardLine_180 ?_
            refine x_iconst C dX12_boardLine_181 ?_
            refine x_aload_n (i := 0) C dX12_boardLine_182 rfl rfl ?_
            refine x_getRs (r := 9) C fkM_X12_35 (nlt rfl) rfl (HG.rR hHy48 (k := 0) (i := 18) rfl rfl) dX12_boardLine_183 ?_
            refine x_iconst C dX12_boardLine_186 ?_
            refine x_iald C (nlt rfl) rfl rfl (nle rfl) (by omega) (by omega) dX12_boardLine_187 ?_
            refine x_gen (fun v49 ev49 => ?_)
            replace ev49 : v49 = Yy48.1 9 2 := ev49
            have qv49 : ((-1) : Int) ≤ v49 ∧ v49 ≤ (99 : Int) := by
              rw [ev49]
              exact hHy48.rF (k := 9) (i := 2) (p := ((-1), 99)) rfl rfl
            have kv49 : v49 = X0.1 9 2 := by rw [ev49, eYy48, upI_ne (by omega), (hGy42 9 2 rfl).1, (hGy38 9 2 rfl).1, (hGy33 9 2 rfl).1]
            have ktv49 : v49 = X0.1 9 2 := by rw [ev49, eYy48, upI_ne (by omega), (hGy42 9 2 rfl).1, (hGy38 9 2 rfl).1, (hGy33 9 2 rfl).1]
            have mmv49 : v49 = B.2.2.2.2.1 := by rw [ktv49]; exact hB.2.2.1
            refine x_imul C dX12_boardLine_188 ?_
            refine x_iadd C dX12_boardLine_189 ?_
            refine x_iconst C dX12_boardLine_190 ?_
            refine x_iadd C dX12_boardLine_191 ?_
            refine x_aload_n (i := 0) C dX12_boardLine_192 rfl rfl ?_
            refine x_getI C fkM_X12_209 (nlt rfl) rfl dX12_boardLine_193 ?_
            refine x_gen (fun v50 ev50 => ?_)
            have qv50 : ((-2147483648) : Int) ≤ v50 ∧ v50 ≤ (2147483647 : Int) := by
              rw [ev50]
              exact hHy48.rF (k := 0) (i := 20) rfl rfl
            have kv50 : v50 = Yy42.1 0 20 := by rw [ev50, eYy48, upI_nc (by decide)]
            have rvv50 : v50 = tnV b N (tnS b N (nx b N s)) := by rw [ev50, eYy48, upI_nc (by decide)]; exact tkv43.elim (fun g => g.2.2) (fun g => by exfalso; have := g.1; omega)
            refine x_iast C (nlt rfl) rfl rfl (nle rfl) (by omega) (by omega) dX12_boardLine_196 ?_
            refine x_gX (fun Yy51 eYy51 => ?_)
            have hHy51 : HG vM Yy51 := by
              rw [eYy51]
              exact hg_wA hHy48 (n := 331) (p := ((-1), 99)) (by decide +kernel) (by omega) ⟨by omega, by omega⟩
            have hFy51 : FR mmBL X0 Yy51 := by
              rw [eYy51]
              exact FR.upI hFy48 (rfl)
            have hGy51 : FR [(9, none)] Yy48 Yy51 := by
              rw [eYy51]
              exact FR.upI FR.rf rfl
            have hKy51 := hKy48.fr hGy51 rfl
            have hLy51 := hLy48.fr hGy51 rfl
            refine x_aload_n (i := 0) C dX12_boardLine_197 rfl rfl ?_
            refine x_getRs (r := 9) C fkM_X12_35 (nlt rfl) rfl (HG.rR hHy51 (k := 0) (i := 18) rfl rfl) dX12_boardLine_198 ?_
            refine x_iconst C dX12_boardLine_201 ?_
            refine x_dup2_11 C dX12_boardLine_202 rfl rfl ?_
            refine x_iald C (nlt rfl) rfl rfl (nle rfl) (by omega) (by omega) dX12_boardLine_203 ?_
            refine x_gen (fun v52 ev52 => ?_)
            replace ev52 : v52 = Yy51.1 9 2 := ev52
            have qv52 : ((-1) : Int) ≤ v52 ∧ v52 ≤ (99 : Int) := by
              rw [ev52]
              exact hHy51.rF (k := 9) (i := 2) (p := ((-1), 99)) rfl rfl
            have kv52 : v52 = X0.1 9 2 := by rw [ev52, eYy51, upI_ne (by omega), eYy48, upI_ne (by omega), (hGy42 9 2 rfl).1, (hGy38 9 2 rfl).1, (hGy33 9 2 rfl).1]
            have ktv52 : v52 = X0.1 9 2 := by rw [ev52, eYy51, upI_ne (by omega), eYy48, upI_ne (by omega), (hGy42 9 2 rfl).1, (hGy38 9 2 rfl).1, (hGy33 9 2 rfl).1]
            have mmv52 : v52 = B.2.2.2.2.1 := by rw [ktv52]; exact hB.2.2.1
            refine x_iconst C dX12_boardLine_204 ?_
            refine x_iadd C dX12_boardLine_205 ?_
            refine x_iast C (nlt rfl) rfl rfl (nle rfl) (by omega) (by omega) dX12_boardLine_206 ?_
            refine x_gX (fun Yy53 eYy53 => ?_)
            have hHy53 : HG vM Yy53 := by
              rw [eYy53]
              exact hg_wF hHy51 (p := ((-1), 99)) rfl ⟨by omega, by omega⟩
            have hFy53 : FR mmBL X0 Yy53 := by
              rw [eYy53]
              exact FR.upI hFy51 (rfl)
            replace eYy53 : Yy53 = upI Yy51 9 2 (v52 + 1) := eYy53
            have hGy53 : FR [(9, some 2)] Yy51 Yy53 := by
              rw [eYy53]
              exact FR.upI FR.rf rfl
            have hKy53 := hKy51.fr hGy53 rfl
            have hLy53 := hLy51.fr hGy53 rfl
            have hBn : BDM (tnF b N 0 35 (tnS b N (nx b N s)) (tnF b N 0 1 (nx b N s) F)) (bmn B (tnV b N (nx b N s)) (tnV b N (tnS b N (nx b N s)))) Yy53 := by
              have m6 : B.2.2.2.2.1 < 6 := by omega
              have m0 := hB.2.2.2.2.2.2.1
              have e1 : bmn B (tnV b N (nx b N s)) (tnV b N (tnS b N (nx b N s))) = (B.1, B.2.1, B.2.2.1, B.2.2.2.1, B.2.2.2.2.1 + 1, upF B.2.2.2.2.2.1 B.2.2.2.2.1 (tnV b N (nx b N s)), upF B.2.2.2.2.2.2 B.2.2.2.2.1 (tnV b N (tnS b N (nx b N s)))) := if_pos m6
              refine ⟨by rw [e1]; show _ = B.1; rw [eYy53, upI_ne (by omega), eYy51, upI_ne (by omega), eYy48, upI_ne (by omega), (hGy42 9 0 rfl).1, (hGy38 9 0 rfl).1, (hGy33 9 0 rfl).1]; exact hB.1, by rw [e1]; show _ = B.2.1; rw [eYy53, upI_ne (by omega), eYy51, upI_ne (by omega), eYy48, upI_ne (by omega), (hGy42 9 1 rfl).1, (hGy38 9 1 rfl).1, (hGy33 9 1 rfl).1]; exact hB.2.1, by rw [e1]; show _ = B.2.2.2.2.1 + 1; rw [eYy53, upI_at]; omega, fun j hj => ?_, fun q => ?_, by rw [eYy53, upI_nc (by decide), eYy51, upI_nc (by decide), eYy48, upI_nc (by decide), gtv43]; rw [(hGy38 0 21 rfl).1, (hGy33 0 21 rfl).1]; have := gtm_ge (X0.1 0 21) (tnV b N (tnS b N (nx b N s))); have := hB.2.2.2.2.2.1; omega, by rw [e1]; show 0 ≤ B.2.2.2.2.1 + 1; omega, by rw [e1]; show B.2.2.2.2.1 + 1 ≤ 6; omega⟩
              · rw [e1]
                show _ = upF B.2.2.2.2.2.1 B.2.2.2.2.1 (tnV b N (nx b N s)) j ∧ _ = upF B.2.2.2.2.2.2 B.2.2.2.2.1 (tnV b N (tnS b N (nx b N s))) j
                unfold upF
                by_cases e : (j : Int) = B.2.2.2.2.1
                · rw [if_pos e, if_pos e]
                  exact ⟨by rw [eYy53, upI_ne (by omega), eYy51, upI_ne (by omega), eYy48, show 3 + 2 * j = (3 + (2 * v47)).toNat by omega, upI_at]; exact rvv41, by rw [eYy53, upI_ne (by omega), eYy51, show 4 + 2 * j = ((3 + (2 * v49)) + 1).toNat by omega, upI_at]; exact rvv50⟩
                · rw [if_neg e, if_neg e]
                  have u := hB.2.2.2.1 j (by omega)
                  exact ⟨by rw [eYy53, upI_ne (by omega), eYy51, upI_ne (by omega), eYy48, upI_ne (by omega), (hGy42 9 (3 + 2 * j) rfl).1, (hGy38 9 (3 + 2 * j) rfl).1, (hGy33 9 (3 + 2 * j) rfl).1]; exact u.1, by rw [eYy53, upI_ne (by omega), eYy51, upI_ne (by omega), eYy48, upI_ne (by omega), (hGy42 9 (4 + 2 * j) rfl).1, (hGy38 9 (4 + 2 * j) rfl).1, (hGy33 9 (4 + 2 * j) rfl).1]; exact u.2⟩
              · have t1 := tnF_0 q
                have t2 := tnF_0 t1.1
                have q4 := hB.2.2.2.2.1 t2.1
                have t3 := t1.2 (by omega)
                refine ⟨fun f hf => ?_, by rw [eYy53, upI_nc (by decide), eYy51, upI_nc (by decide), eYy48, upI_nc (by decide), gtv43]; rw [(hGy38 0 21 rfl).1, (hGy33 0 21 rfl).1]; exact gOK_m q4.2 m0 m6 t3.2⟩
                rw [e1]
                show _ = grF B.2.2.1 B.2.2.2.1 f
                rw [eYy53, upI_ne (by omega), eYy51, upI_ne (by omega), eYy48, upI_ne (by omega), (hGy42 9 (15 + f) rfl).1, (hGy38 9 (15 + f) rfl).1, (hGy33 9 (15 + f) rfl).1]; exact q4.1 f hf
            refine x_iconst C dX12_boardLine_207 ?_
            exact x_zret C hQ (by omega) dX12_boardLine_208 (⟨_, rfl, hHy53, hFy53, (tnS b N (tnS b N (nx b N s))), (tnF b N 0 35 (tnS b N (nx b N s)) (tnF b N 0 1 (nx b N s) F)), (bmn B (tnV b N (nx b N s)) (tnV b N (tnS b N (nx b N s)))), hKy53, hLy53, hOy42, .inl ⟨rfl, by omega, by rw [bL_1 n0 wk, f3, finB_ok ⟨by omega, by omega⟩], hBn⟩⟩)
        · have kn : tK b N (tnS b N (nx b N s)) ≠ 2 := tkv43.elim (fun g => by exfalso; have := g.1; omega) (fun g => g.2.1)
          have wa : Yy42.1 0 15 = ((((tnS b N (nx b N s)) : Nat) : Int) : Int) := tkv43.elim (fun g => by exfalso; have := g.1; omega) (fun g => g.2.2)
          refine x_iconst C dX12_boardLine_146 ?_
          exact x_zret C hQ (by omega) dX12_boardLine_147 (⟨_, rfl, hHy42, hFy42, (tnS b N (tnS b N (nx b N s))), (tnF b N 0 35 (tnS b N (nx b N s)) (tnF b N 0 1 (nx b N s) F)), (bmn B (tnV b N (nx b N s)) (tnV b N (tnS b N (nx b N s)))), hKy42, hLy42, hOy42, .inr ⟨rfl, by rw [tnS_n kn]; exact wa, by rw [bL_1 n0 wk, f3, finB_n (.inl (fun g => g.2 (tnV_n kn)))]⟩⟩)
      · have kn : tK b N (nx b N s) ≠ 2 := tkv39.elim (fun g => by exfalso; have := g.1; omega) (fun g => g.2.1)
        have wa : Yy38.1 0 15 = ((((nx b N s) : Nat) : Int) : Int) := tkv39.elim (fun g => by exfalso; have := g.1; omega) (fun g => g.2.2)
        refine x_iconst C dX12_boardLine_131 ?_
        exact x_zret C hQ (by omega) dX12_boardLine_132 (⟨_, rfl, hHy38, hFy38, (tnS b N (nx b N s)), (tnF b N 0 1 (nx b N s) F), (bmn B (tnV b N (nx b N s)) (tnV b N (tnS b N (nx b N s)))), hKy38, hLy38, hOy38, .inr ⟨rfl, by rw [tnS_n kn]; exact wa, by rw [bL_1 n0 wk, f3, finB_n (.inl (fun g => g.1 (tnV_n kn)))]; simp only [tnS_n kn, tnF_n kn]⟩⟩)
    · refine x_aload_n (i := 0) C dX12_boardLine_56 rfl rfl ?_
      refine x_iconst C dX12_boardLine_57 ?_
      refine x_iload_n (i := 3) C dX12_boardLine_58 rfl rfl ?_
      refine x_callV (As := [.int (iI (3)), .int (iI (((s : Nat) : Int)))]) C (by exact (r_later (F := F) (f := 3) (p := ((s : Nat) : Int)) (by omega) (by omega) ⟨by omega, by omega⟩ (hO) hH FR.rf hL)) ckX12_212 im_X12_later se_X12_later (nlt rfl) rfl rfl rfl rfl (nle rfl) (by exact ⟨nle rfl, nle rfl⟩) dX12_boardLine_59 ?_
      rintro _ Yy54 ⟨rfl, hHy54, hGy54, hLy54⟩
      have hFy54 : FR mmBL X0 Yy54 := FR.tr hF hGy54 (by decide)
      have hKy54 := hK.fr hGy54 rfl
      have hBy54 := hB.fr hGy54 rfl
      refine Wx_st (st' := []) rfl ?_
      have hOn : FO (ntF F 3 ((s : Nat) : Int)) (nx b N s) := hO.nt (sx.2.2 sl)
      have f3 : (if B.2.2.2.2.1 = 6 then ntF F 3 s else F) = (ntF F 3 ((s : Nat) : Int)) := if_pos (by omega)
      refine x_aload_n (i := 0) C dX12_boardLine_62 rfl rfl ?_
      refine x_callV (As := []) C (by exact (r_tok (s := s) (hT0.fr hFy54 rfl) hHy54 hKy54 FR.rf)) ckX12_216 im_X12_token se_X12_token (nlt rfl) rfl rfl rfl rfl (nle rfl) (by exact ⟨nle rfl, nle rfl⟩) dX12_boardLine_63 ?_
      rintro _ Yy55 ⟨rfl, hHy55, hGy55, hKy55⟩
      have hFy55 : FR mmBL X0 Yy55 := FR.tr hFy54 hGy55 (by decide)
      have hLy55 := hLy54.fr hGy55 rfl
      have hBy55 := hBy54.fr hGy55 rfl
      have sny55 := nx_bd b N s hKy54.2.2.2.2.2.1
      refine Wx_st (st' := []) rfl ?_
      refine x_lload_n (i := 1) C dX12_boardLine_66 rfl rfl ?_
      refine x_ldc2 C dX12_boardLine_67 cnX12_230 ?_
      refine x_lcmp C dX12_boardLine_70 ?_
      refine x_topi (fun v56 rv56 ev56 => ?_)
      have cv56 := lcmp_iff rv56 ev56
      unfold inR at rv56
      have zzv56 : v56 ≠ 0 := fun g => e0 (cv56.1.mp g)
      refine x_if_ne (tgt := 114) C dX12_boardLine_71 (by decide) ⟨by omega, by omega⟩ (fun h57 => ?_) (fun h57 => by exfalso; omega)
      refine x_lload_n (i := 1) C dX12_boardLine_114 rfl rfl ?_
      refine x_ldc2 C dX12_boardLine_115 cnX12_236 ?_
      refine x_lcmp C dX12_boardLine_118 ?_
      refine x_topi (fun v58 rv58 ev58 => ?_)
      have cv58 := lcmp_iff rv58 ev58
      unfold inR at rv58
      have zzv58 : v58 = 0 := cv58.1.mpr e1
      refine x_if_ne (tgt := 209) C dX12_boardLine_119 (by decide) ⟨by omega, by omega⟩ (fun h59 => by exfalso; omega) (fun h59 => ?_)
      refine x_aload_n (i := 0) C dX12_boardLine_122 rfl rfl ?_
      refine x_iconst C dX12_boardLine_123 ?_
      refine x_iconst C dX12_boardLine_124 ?_
      refine x_callV (As := [.int (iI (0)), .int (iI (1))]) C (by exact (r_take (s := (nx b N s)) (F := (ntF F 3 ((s : Nat) : Int))) (lo := 0) (hi := 1) (hT0.fr hFy55 rfl) hHy55 (by omega) (by omega) (by omega) (by omega) FR.rf hKy55 hLy55 hOn)) ckX12_219 im_X12_take se_X12_take (nlt rfl) rfl rfl rfl rfl (nle rfl) (by exact ⟨nle rfl, nle rfl⟩) dX12_boardLine_125 ?_
      rintro _ Yy60 ⟨v61, rfl, hHy60, hGy60, hKy60, hLy60, tkv61⟩
      have hFy60 : FR mmBL X0 Yy60 := FR.tr hFy55 hGy60 (by decide)
      have hBy60 := hBy55.fr hGy60 rfl
      have hOy60 := hOn.tn (b := b) (lo := 0) (hi := 1) hKy55.2.2.2.2.2.1
      have sby60 := tnS_bd b N (nx b N s) hKy55.2.2.2.2.2.1
      refine Wx_st (st' := [.int (iI (v61))]) rfl ?_
      refine x_if_ne (tgt := 133) C dX12_boardLine_128 (by decide) ⟨by omega, by omega⟩ (fun h62 => ?_) (fun h62 => ?_)
      · have kk1 : tK b N (nx b N s) = 2 := tkv61.elim (fun g => g.2.1) (fun g => by exfalso; have := g.1; omega)
        have kv1 := tnV_y kk1 (by omega)
        refine x_aload_n (i := 0) C dX12_boardLine_133 rfl rfl ?_
        refine x_getI C fkM_X12_209 (nlt rfl) rfl dX12_boardLine_134 ?_
        refine x_gen (fun v63 ev63 => ?_)
        have qv63 : ((-2147483648) : Int) ≤ v63 ∧ v63 ≤ (2147483647 : Int) := by
          rw [ev63]
          exact hHy60.rF (k := 0) (i := 20) rfl rfl
        have rvv63 : v63 = tnV b N (nx b N s) := by rw [ev63]; exact tkv61.elim (fun g => g.2.2) (fun g => by exfalso; have := g.1; omega)
        refine x_istore (lv' := [(4, .int (iI (v63))), (0, .ref 0), (1, .long (wd)), (3, .int (iI (((s : Nat) : Int))))]) C dX12_boardLine_137 (nlt rfl) rfl ?_
        refine x_aload_n (i := 0) C dX12_boardLine_139 rfl rfl ?_
        refine x_callV (As := []) C (by exact (r_takeField (s := (tnS b N (nx b N s))) (F := (tnF b N 0 1 (nx b N s) (ntF F 3 ((s : Nat) : Int)))) (hT0.fr hFy60 rfl) hHy60 FR.rf hKy60 hLy60 hOy60 hBy60.2.2.2.2.2.1)) ckX12_238 im_X12_takeField se_X12_takeField (nlt rfl) rfl rfl rfl rfl (nle rfl) (by exact ⟨nle rfl, nle rfl⟩) dX12_boardLine_140 ?_
        rintro _ Yy64 ⟨v65, rfl, hHy64, hGy64, hKy64, hLy64, gtv65, tkv65⟩
        have hFy64 : FR mmBL X0 Yy64 := FR.tr hFy60 hGy64 (by decide)
        have hOy64 := hOy60.tn (b := b) (lo := 0) (hi := 35) hKy60.2.2.2.2.2.1
        have sby64 := tnS_bd b N (tnS b N (nx b N s)) hKy60.2.2.2.2.2.1
        refine Wx_st (st' := [.int (iI (v65))]) rfl ?_
        refine x_if_ne (tgt := 148) C dX12_boardLine_143 (by decide) ⟨by omega, by omega⟩ (fun h66 => ?_) (fun h66 => ?_)
        · have kk2 : tK b N (tnS b N (nx b N s)) = 2 := tkv65.elim (fun g => g.2.1) (fun g => by exfalso; have := g.1; omega)
          have kv2 := tnV_y kk2 (by omega)
          refine x_aload_n (i := 0) C dX12_boardLine_148 rfl rfl ?_
          refine x_getRs (r := 9) C fkM_X12_35 (nlt rfl) rfl (HG.rR hHy64 (k := 0) (i := 18) rfl rfl) dX12_boardLine_149 ?_
          refine x_iconst C dX12_boardLine_152 ?_
          refine x_iald C (nlt rfl) rfl rfl (nle rfl) (by omega) (by omega) dX12_boardLine_153 ?_
          refine x_gen (fun v67 ev67 => ?_)
          replace ev67 : v67 = Yy64.1 9 2 := ev67
          have qv67 : ((-1) : Int) ≤ v67 ∧ v67 ≤ (99 : Int) := by
            rw [ev67]
            exact hHy64.rF (k := 9) (i := 2) (p := ((-1), 99)) rfl rfl
          have kv67 : v67 = X0.1 9 2 := by rw [ev67, (hGy64 9 2 rfl).1, (hGy60 9 2 rfl).1, (hGy55 9 2 rfl).1, (hGy54 9 2 rfl).1]
          have ktv67 : v67 = X0.1 9 2 := by rw [ev67, (hGy64 9 2 rfl).1, (hGy60 9 2 rfl).1, (hGy55 9 2 rfl).1, (hGy54 9 2 rfl).1]
          have mmv67 : v67 = B.2.2.2.2.1 := by rw [ktv67]; exact hB.2.2.1
          refine x_bipush C dX12_boardLine_154 (by decide) ?_
          refine x_icmp_ge (tgt := 207) C dX12_boardLine_156 (by decide) ⟨by omega, by omega⟩ ⟨by omega, by omega⟩ (fun h68 => ?_) (fun h68 => ?_)
          · have hBn : BDM (tnF b N 0 35 (tnS b N (nx b N s)) (tnF b N 0 1 (nx b N s) (ntF F 3 ((s : Nat) : Int)))) (bmn B (tnV b N (nx b N s)) (tnV b N (tnS b N (nx b N s)))) Yy64 := by
              have e1 : bmn B (tnV b N (nx b N s)) (tnV b N (tnS b N (nx b N s))) = B := if_neg (by omega)
              rw [e1]
              refine ⟨by rw [(hGy64 9 0 rfl).1, (hGy60 9 0 rfl).1, (hGy55 9 0 rfl).1, (hGy54 9 0 rfl).1]; exact hB.1, by rw [(hGy64 9 1 rfl).1, (hGy60 9 1 rfl).1, (hGy55 9 1 rfl).1, (hGy54 9 1 rfl).1]; exact hB.2.1, by rw [(hGy64 9 2 rfl).1, (hGy60 9 2 rfl).1, (hGy55 9 2 rfl).1, (hGy54 9 2 rfl).1]; exact hB.2.2.1, fun j hj => ⟨by rw [(hGy64 9 (3 + 2 * j) rfl).1, (hGy60 9 (3 + 2 * j) rfl).1, (hGy55 9 (3 + 2 * j) rfl).1, (hGy54 9 (3 + 2 * j) rfl).1]; exact (hB.2.2.2.1 j hj).1, by rw [(hGy64 9 (4 + 2 * j) rfl).1, (hGy60 9 (4 + 2 * j) rfl).1, (hGy55 9 (4 + 2 * j) rfl).1, (hGy54 9 (4 + 2 * j) rfl).1]; exact (hB.2.2.2.1 j hj).2⟩, fun q => ?_, by rw [gtv65]; rw [(hGy60 0 21 rfl).1, (hGy55 0 21 rfl).1, (hGy54 0 21 rfl).1]; have := gtm_ge (X0.1 0 21) (tnV b N (tnS b N (nx b N s))); have := hB.2.2.2.2.2.1; omega, hB.2.2.2.2.2.2⟩
              exfalso
              have q1 := (tnF_0 (tnF_0 q).1).1
              exact ntF_0 (by omega) q1
            refine x_iconst C dX12_boardLine_207 ?_
            exact x_zret C hQ (by omega) dX12_boardLine_208 (⟨_, rfl, hHy64, hFy64, (tnS b N (tnS b N (nx b N s))), (tnF b N 0 35 (tnS b N (nx b N s)) (tnF b N 0 1 (nx b N s) (ntF F 3 ((s : Nat) : Int)))), (bmn B (tnV b N (nx b N s)) (tnV b N (tnS b N (nx b N s)))), hKy64, hLy64, hOy64, .inl ⟨rfl, by omega, by rw [bL_1 n0 wk, f3, finB_ok ⟨by omega, by omega⟩], hBn⟩⟩)
          · refine x_aload_n (i := 0) C dX12_boardLine_159 rfl rfl ?_
            refine x_getRs (r := 9) C fkM_X12_35 (nlt rfl) rfl (HG.rR hHy64 (k := 0) (i := 18) rfl rfl) dX12_boardLine_160 ?_
            refine x_iconst C dX12_boardLine_163 ?_
            refine x_iconst C dX12_boardLine_164 ?_
            refine x_aload_n (i := 0) C dX12_boardLine_165 rfl rfl ?_
            refine x_getRs (r := 9) C fkM_X12_35 (nlt rfl) rfl (HG.rR hHy64 (k := 0) (i := 18) rfl rfl) dX12_boardLine_166 ?_
            refine x_iconst C dX12_boardLine_169 ?_
            refine x_iald C (nlt rfl) rfl rfl (nle rfl) (by omega) (by omega) dX12_boardLine_170 ?_
            refine x_gen (fun v69 ev69 => ?_)
            replace ev69 : v69 = Yy64.1 9 2 := ev69
            have qv69 : ((-1) : Int) ≤ v69 ∧ v69 ≤ (99 : Int) := by
              rw [ev69]
              exact hHy64.rF (k := 9) (i := 2) (p := ((-1), 99)) rfl rfl
            have kv69 : v69 = X0.1 9 2 := by rw [ev69, (hGy64 9 2 rfl).1, (hGy60 9 2 rfl).1, (hGy55 9 2 rfl).1, (hGy54 9 2 rfl).1]
            have ktv69 : v69 = X0.1 9 2 := by rw [ev69, (hGy64 9 2 rfl).1, (hGy60 9 2 rfl).1, (hGy55 9 2 rfl).1, (hGy54 9 2 rfl).1]
            have mmv69 : v69 = B.2.2.2.2.1 := by rw [ktv69]; exact hB.2.2.1
            refine x_imul C dX12_boardLine_171 ?_
            refine x_iadd C dX12_boardLine_172 ?_
            refine x_iload C dX12_boardLine_173 rfl ?_
            refine x_iast C (nlt rfl) rfl rfl (nle rfl) (by omega) (by omega) dX12_boardLine_175 ?_
            refine x_gX (fun Yy70 eYy70 => ?_)
            have hHy70 : HG vM Yy70 := by
              rw [eYy70]
              exact hg_wA hHy64 (n := 331) (p := ((-1), 99)) (by decide +kernel) (by omega) ⟨by omega, by omega⟩
            have hFy70 : FR mmBL X0 Yy70 := by
              rw [eYy70]
              exact FR.upI hFy64 (rfl)
            have hGy70 : FR [(9, none)] Yy64 Yy70 := by
              rw [eYy70]
              exact FR.upI FR.rf rfl
            have hKy70 := hKy64.fr hGy70 rfl
            have hLy70 := hLy64.fr hGy70 rfl
            refine x_aload_n (i := 0) C dX12_boardLine_176 rfl rfl ?_
            refine x_getRs (r := 9) C fkM_X12_35 (nlt rfl) rfl (HG.rR hHy70 (k := 0) (i := 18) rfl rfl) dX12_boardLine_177 ?_
            refine x_iconst C dX12_boardLine_180 ?_
            refine x_iconst C dX12_boardLine_181 ?_
            refine x_aload_n (i := 0) C dX12_boardLine_182 rfl rfl ?_
            refine x_getRs (r := 9) C fkM_X12_35 (nlt rfl) rfl (HG.rR hHy70 (k := 0) (i := 18) rfl rfl) dX12_boardLine_183 ?_
            refine x_iconst C dX12_boardLine_186 ?_
            refine x_iald C (nlt rfl) rfl rfl (nle rfl) (by omega) (by omega) dX12_boardLine_187 ?_
            refine x_gen (fun v71 ev71 => ?_)
            replace ev71 : v71 = Yy70.1 9 2 := ev71
            have qv71 : ((-1) : Int) ≤ v71 ∧ v71 ≤ (99 : Int) := by
              rw [ev71]
              exact hHy70.rF (k := 9) (i := 2) (p := ((-1), 99)) rfl rfl
            have kv71 : v71 = X0.1 9 2 := by rw [ev71, eYy70, upI_ne (by omega), (hGy64 9 2 rfl).1, (hGy60 9 2 rfl).1, (hGy55 9 2 rfl).1, (hGy54 9 2 rfl).1]
            have ktv71 : v71 = X0.1 9 2 := by rw [ev71, eYy70, upI_ne (by omega), (hGy64 9 2 rfl).1, (hGy60 9 2 rfl).1, (hGy55 9 2 rfl).1, (hGy54 9 2 rfl).1]
            have mmv71 : v71 = B.2.2.2.2.1 := by rw [ktv71]; exact hB.2.2.1
            refine x_imul C dX12_boardLine_188 ?_
            refine x_iadd C dX12_boardLine_189 ?_
            refine x_iconst C dX12_boardLine_190 ?_
            refine x_iadd C dX12_boardLine_191 ?_
            refine x_aload_n (i := 0) C dX12_boardLine_192 rfl rfl ?_
            refine x_getI C fkM_X12_209 (nlt rfl) rfl dX12_boardLine_193 ?_
            refine x_gen (fun v72 ev72 => ?_)
            have qv72 : ((-2147483648) : Int) ≤ v72 ∧ v72 ≤ (2147483647 : Int) := by
              rw [ev72]
              exact hHy70.rF (k := 0) (i := 20) rfl rfl
            have kv72 : v72 = Yy64.1 0 20 := by rw [ev72, eYy70, upI_nc (by decide)]
            have rvv72 : v72 = tnV b N (tnS b N (nx b N s)) := by rw [ev72, eYy70, upI_nc (by decide)]; exact tkv65.elim (fun g => g.2.2) (fun g => by exfalso; have := g.1; omega)
            refine x_iast C (nlt rfl) rfl rfl (nle rfl) (by omega) (by omega) dX12_boardLine_196 ?_
            refine x_gX (fun Yy73 eYy73 => ?_)
            have hHy73 : HG vM Yy73 := by
              rw [eYy73]
              exact hg_wA hHy70 (n := 331) (p := ((-1), 99)) (by decide +kernel) (by omega) ⟨by omega, by omega⟩
            have hFy73 : FR mmBL X0 Yy73 := by
              rw [eYy73]
              exact FR.upI hFy70 (rfl)
            have hGy73 : FR [(9, none)] Yy70 Yy73 := by
              rw [eYy73]
              exact FR.upI FR.rf rfl
            have hKy73 := hKy70.fr hGy73 rfl
            have hLy73 := hLy70.fr hGy73 rfl
            refine x_aload_n (i := 0) C dX12_boardLine_197 rfl rfl ?_
            refine x_getRs (r := 9) C fkM_X12_35 (nlt rfl) rfl (HG.rR hHy73 (k := 0) (i := 18) rfl rfl) dX12_boardLine_198 ?_
            refine x_iconst C dX12_boardLine_201 ?_
            refine x_dup2_11 C dX12_boardLine_202 rfl rfl ?_
            refine x_iald C (nlt rfl) rfl rfl (nle rfl) (by omega) (by omega) dX12_boardLine_203 ?_
            refine x_gen (fun v74 ev74 => ?_)
            replace ev74 : v74 = Yy73.1 9 2 := ev74
            have qv74 : ((-1) : Int) ≤ v74 ∧ v74 ≤ (99 : Int) := by
              rw [ev74]
              exact hHy73.rF (k := 9) (i := 2) (p := ((-1), 99)) rfl rfl
            have kv74 : v74 = X0.1 9 2 := by rw [ev74, eYy73, upI_ne (by omega), eYy70, upI_ne (by omega), (hGy64 9 2 rfl).1, (hGy60 9 2 rfl).1, (hGy55 9 2 rfl).1, (hGy54 9 2 rfl).1]
            have ktv74 : v74 = X0.1 9 2 := by rw [ev74, eYy73, upI_ne (by omega), eYy70, upI_ne (by omega), (hGy64 9 2 rfl).1, (hGy60 9 2 rfl).1, (hGy55 9 2 rfl).1, (hGy54 9 2 rfl).1]
            have mmv74 : v74 = B.2.2.2.2.1 := by rw [ktv74]; exact hB.2.2.1
            refine x_iconst C dX12_boardLine_204 ?_
            refine x_iadd C dX12_boardLine_205 ?_
            refine x_iast C (nlt rfl) rfl rfl (nle rfl) (by omega) (by omega) dX12_boardLine_206 ?_
            refine x_gX (fun Yy75 eYy75 => ?_)
            have hHy75 : HG vM Yy75 := by
              rw [eYy75]
              exact hg_wF hHy73 (p := ((-1), 99)) rfl ⟨by omega, by omega⟩
            have hFy75 : FR mmBL X0 Yy75 := by
              rw [eYy75]
              exact FR.upI hFy73 (rfl)
            replace eYy75 : Yy75 = upI Yy73 9 2 (v74 + 1) := eYy75
            have hGy75 : FR [(9, some 2)] Yy73 Yy75 := by
              rw [eYy75]
              exact FR.upI FR.rf rfl
            have hKy75 := hKy73.fr hGy75 rfl
            have hLy75 := hLy73.fr hGy75 rfl
            have hBn : BDM (tnF b N 0 35 (tnS b N (nx b N s)) (tnF b N 0 1 (nx b N s) (ntF F 3 ((s : Nat) : Int)))) (bmn B (tnV b N (nx b N s)) (tnV b N (tnS b N (nx b N s)))) Yy75 := by
              exfalso
              omega
            refine x_iconst C dX12_boardLine_207 ?_
            exact x_zret C hQ (by omega) dX12_boardLine_208 (⟨_, rfl, hHy75, hFy75, (tnS b N (tnS b N (nx b N s))), (tnF b N 0 35 (tnS b N (nx b N s)) (tnF b N 0 1 (nx b N s) (ntF F 3 ((s : Nat) : Int)))), (bmn B (tnV b N (nx b N s)) (tnV b N (tnS b N (nx b N s)))), hKy75, hLy75, hOy64, .inl ⟨rfl, by omega, by rw [bL_1 n0 wk, f3, finB_ok ⟨by omega, by omega⟩], hBn⟩⟩)
        · have kn : tK b N (tnS b N (nx b N s)) ≠ 2 := tkv65.elim (fun g => by exfalso; have := g.1; omega) (fun g => g.2.1)
          have wa : Yy64.1 0 15 = ((((tnS b N (nx b N s)) : Nat) : Int) : Int) := tkv65.elim (fun g => by exfalso; have := g.1; omega) (fun g => g.2.2)
          refine x_iconst C dX12_boardLine_146 ?_
          exact x_zret C hQ (by omega) dX12_boardLine_147 (⟨_, rfl, hHy64, hFy64, (tnS b N (tnS b N (nx b N s))), (tnF b N 0 35 (tnS b N (nx b N s)) (tnF b N 0 1 (nx b N s) (ntF F 3 ((s : Nat) : Int)))), (bmn B (tnV b N (nx b N s)) (tnV b N (tnS b N (nx b N s)))), hKy64, hLy64, hOy64, .inr ⟨rfl, by rw [tnS_n kn]; exact wa, by rw [bL_1 n0 wk, f3, finB_n (.inl (fun g => g.2 (tnV_n kn)))]⟩⟩)
      · have kn : tK b N (nx b N s) ≠ 2 := tkv61.elim (fun g => by exfalso; have := g.1; omega) (fun g => g.2.1)
        have wa : Yy60.1 0 15 = ((((nx b N s) : Nat) : Int) : Int) := tkv61.elim (fun g => by exfalso; have := g.1; omega) (fun g => g.2.2)
        refine x_iconst C dX12_boardLine_131 ?_
        exact x_zret C hQ (by omega) dX12_boardLine_132 (⟨_, rfl, hHy60, hFy60, (tnS b N (nx b N s)), (tnF b N 0 1 (nx b N s) (ntF F 3 ((s : Nat) : Int))), (bmn B (tnV b N (nx b N s)) (tnV b N (tnS b N (nx b N s)))), hKy60, hLy60, hOy60, .inr ⟨rfl, by rw [tnS_n kn]; exact wa, by rw [bL_1 n0 wk, f3, finB_n (.inl (fun g => g.1 (tnV_n kn)))]; simp only [tnS_n kn, tnF_n kn]⟩⟩)
  · have e2 : wd = 2002873452 := by rw [hw]; exact isW_2.mpr wk
    have sl : s < N := (tK_1 wk.1).2
    have e0 : wd ≠ 1936292453 := by rw [e2]; decide
    have n0 : ¬ isW b N 0 s := fun g => e0 (by rw [hw]; exact isW_0.mpr g)
    have e1 : wd ≠ 7168366 := by rw [e2]; decide
    have n1 : ¬ isW b N 1 s := fun g => e1 (by rw [hw]; exact isW_1.mpr g)
    have e3 : wd ≠ 7367028 := by rw [e2]; decide
    have n3 : ¬ isW b N 3 s := fun g => e3 (by rw [hw]; exact isW_3.mpr g)
    refine x_lload_n (i := 1) C dX12_boardLine_0 rfl rfl ?_
    refine x_ldc2 C dX12_boardLine_1 cnX12_230 ?_
    refine x_lcmp C dX12_boardLine_4 ?_
    refine x_topi (fun v76 rv76 ev76 => ?_)
    have cv76 := lcmp_iff rv76 ev76
    unfold inR at rv76
    have zzv76 : v76 ≠ 0 := fun g => e0 (cv76.1.mp g)
    refine x_if_eq (tgt := 37) C dX12_boardLine_5 (by decide) ⟨by omega, by omega⟩ (fun h77 => by exfalso; omega) (fun h77 => ?_)
    refine x_lload_n (i := 1) C dX12_boardLine_8 rfl rfl ?_
    refine x_ldc2 C dX12_boardLine_9 cnX12_232 ?_
    refine x_lcmp C dX12_boardLine_12 ?_
    refine x_topi (fun v78 rv78 ev78 => ?_)
    have cv78 := lcmp_iff rv78 ev78
    unfold inR at rv78
    have zzv78 : v78 = 0 := cv78.1.mpr e2
    refine x_if_eq (tgt := 37) C dX12_boardLine_13 (by decide) ⟨by omega, by omega⟩ (fun h79 => ?_) (fun h79 => by exfalso; omega)
    refine x_lload_n (i := 1) C dX12_boardLine_37 rfl rfl ?_
    refine x_ldc2 C dX12_boardLine_38 cnX12_236 ?_
    refine x_lcmp C dX12_boardLine_41 ?_
    refine x_topi (fun v80 rv80 ev80 => ?_)
    have cv80 := lcmp_iff rv80 ev80
    unfold inR at rv80
    have zzv80 : v80 ≠ 0 := fun g => e1 (cv80.1.mp g)
    refine x_if_ne (tgt := 62) C dX12_boardLine_42 (by decide) ⟨by omega, by omega⟩ (fun h81 => ?_) (fun h81 => by exfalso; omega)
    have hOn : FO F (nx b N s) := hO.mono sx.1
    refine x_aload_n (i := 0) C dX12_boardLine_62 rfl rfl ?_
    refine x_callV (As := []) C (by exact (r_tok (s := s) (hT0.fr hF rfl) hH hK FR.rf)) ckX12_216 im_X12_token se_X12_token (nlt rfl) rfl rfl rfl rfl (nle rfl) (by exact ⟨nle rfl, nle rfl⟩) dX12_boardLine_63 ?_
    rintro _ Yy82 ⟨rfl, hHy82, hGy82, hKy82⟩
    have hFy82 : FR mmBL X0 Yy82 := FR.tr hF hGy82 (by decide)
    have hLy82 := hL.fr hGy82 rfl
    have hBy82 := hB.fr hGy82 rfl
    have sny82 := nx_bd b N s hK.2.2.2.2.2.1
    refine Wx_st (st' := []) rfl ?_
    refine x_lload_n (i := 1) C dX12_boardLine_66 rfl rfl ?_
    refine x_ldc2 C dX12_boardLine_67 cnX12_230 ?_
    refine x_lcmp C dX12_boardLine_70 ?_
    refine x_topi (fun v83 rv83 ev83 => ?_)
    have cv83 := lcmp_iff rv83 ev83
    unfold inR at rv83
    have zzv83 : v83 ≠ 0 := fun g => e0 (cv83.1.mp g)
    refine x_if_ne (tgt := 114) C dX12_boardLine_71 (by decide) ⟨by omega, by omega⟩ (fun h84 => ?_) (fun h84 => by exfalso; omega)
    refine x_lload_n (i := 1) C dX12_boardLine_114 rfl rfl ?_
    refine x_ldc2 C dX12_boardLine_115 cnX12_236 ?_
    refine x_lcmp C dX12_boardLine_118 ?_
    refine x_topi (fun v85 rv85 ev85 => ?_)
    have cv85 := lcmp_iff rv85 ev85
    unfold inR at rv85
    have zzv85 : v85 ≠ 0 := fun g => e1 (cv85.1.mp g)
    refine x_if_ne (tgt := 209) C dX12_boardLine_119 (by decide) ⟨by omega, by omega⟩ (fun h86 => ?_) (fun h86 => by exfalso; omega)
    refine Wx_pick [0, 1] ?_
    refine Wx_lv (lv' := [(0, .ref 0), (1, .long (wd))]) rfl ?_
    have hB0 : BDM F (bwl B 0) Yy82 := by
      have q := hBy82
      unfold bwl
      rw [Int64.or_zero]
      exact q
    exact r_ground2 hT0 e2 n0 n1 wk C hQ (N + 2) 600 0 (nx b N s) F _ (by omega) hHy82 hFy82 hKy82 hLy82 hOn hB0 rfl (by omega) (.inl rfl) (Nat.le_refl _)
  · have e3 : wd = 7367028 := by rw [hw]; exact isW_3.mpr wk
    have sl : s < N := (tK_1 wk.1).2
    have e0 : wd ≠ 1936292453 := by rw [e3]; decide
    have n0 : ¬ isW b N 0 s := fun g => e0 (by rw [hw]; exact isW_0.mpr g)
    have e1 : wd ≠ 7168366 := by rw [e3]; decide
    have n1 : ¬ isW b N 1 s := fun g => e1 (by rw [hw]; exact isW_1.mpr g)
    have e2 : wd ≠ 2002873452 := by rw [e3]; decide
    have n2 : ¬ isW b N 2 s := fun g => e2 (by rw [hw]; exact isW_2.mpr g)
    refine x_lload_n (i := 1) C dX12_boardLine_0 rfl rfl ?_
    refine x_ldc2 C dX12_boardLine_1 cnX12_230 ?_
    refine x_lcmp C dX12_boardLine_4 ?_
    refine x_topi (fun v87 rv87 ev87 => ?_)
    have cv87 := lcmp_iff rv87 ev87
    unfold inR at rv87
    have zzv87 : v87 ≠ 0 := fun g => e0 (cv87.1.mp g)
    refine x_if_eq (tgt := 37) C dX12_boardLine_5 (by decide) ⟨by omega, by omega⟩ (fun h88 => by exfalso; omega) (fun h88 => ?_)
    refine x_lload_n (i := 1) C dX12_boardLine_8 rfl rfl ?_
    refine x_ldc2 C dX12_boardLine_9 cnX12_232 ?_
    refine x_lcmp C dX12_boardLine_12 ?_
    refine x_topi (fun v89 rv89 ev89 => ?_)
    have cv89 := lcmp_iff rv89 ev89
    unfold inR at rv89
    have zzv89 : v89 ≠ 0 := fun g => e2 (cv89.1.mp g)
    refine x_if_eq (tgt := 37) C dX12_boardLine_13 (by decide) ⟨by omega, by omega⟩ (fun h90 => by exfalso; omega) (fun h90 => ?_)
    refine x_lload_n (i := 1) C dX12_boardLine_16 rfl rfl ?_
    refine x_ldc2 C dX12_boardLine_17 cnX12_234 ?_
    refine x_lcmp C dX12_boardLine_20 ?_
    refine x_topi (fun v91 rv91 ev91 => ?_)
    have cv91 := lcmp_iff rv91 ev91
    unfold inR at rv91
    have zzv91 : v91 = 0 := cv91.1.mpr e3
    refine x_if_eq (tgt := 37) C dX12_boardLine_21 (by decide) ⟨by omega, by omega⟩ (fun h92 => ?_) (fun h92 => by exfalso; omega)
    refine x_lload_n (i := 1) C dX12_boardLine_37 rfl rfl ?_
    refine x_ldc2 C dX12_boardLine_38 cnX12_236 ?_
    refine x_lcmp C dX12_boardLine_41 ?_
    refine x_topi (fun v93 rv93 ev93 => ?_)
    have cv93 := lcmp_iff rv93 ev93
    unfold inR at rv93
    have zzv93 : v93 ≠ 0 := fun g => e1 (cv93.1.mp g)
    refine x_if_ne (tgt := 62) C dX12_boardLine_42 (by decide) ⟨by omega, by omega⟩ (fun h94 => ?_) (fun h94 => by exfalso; omega)
    have hOn : FO F (nx b N s) := hO.mono sx.1
    refine x_aload_n (i := 0) C dX12_boardLine_62 rfl rfl ?_
    refine x_callV (As := []) C (by exact (r_tok (s := s) (hT0.fr hF rfl) hH hK FR.rf)) ckX12_216 im_X12_token se_X12_token (nlt rfl) rfl rfl rfl rfl (nle rfl) (by exact ⟨nle rfl, nle rfl⟩) dX12_boardLine_63 ?_
    rintro _ Yy95 ⟨rfl, hHy95, hGy95, hKy95⟩
    have hFy95 : FR mmBL X0 Yy95 := FR.tr hF hGy95 (by decide)
    have hLy95 := hL.fr hGy95 rfl
    have hBy95 := hB.fr hGy95 rfl
    have sny95 := nx_bd b N s hK.2.2.2.2.2.1
    refine Wx_st (st' := []) rfl ?_
    refine x_lload_n (i := 1) C dX12_boardLine_66 rfl rfl ?_
    refine x_ldc2 C dX12_boardLine_67 cnX12_230 ?_
    refine x_lcmp C dX12_boardLine_70 ?_
    refine x_topi (fun v96 rv96 ev96 => ?_)
    have cv96 := lcmp_iff rv96 ev96
    unfold inR at rv96
    have zzv96 : v96 ≠ 0 := fun g => e0 (cv96.1.mp g)
    refine x_if_ne (tgt := 114) C dX12_boardLine_71 (by decide) ⟨by omega, by omega⟩ (fun h97 => ?_) (fun h97 => by exfalso; omega)
    refine x_lload_n (i := 1) C dX12_boardLine_114 rfl rfl ?_
    refine x_ldc2 C dX12_boardLine_115 cnX12_236 ?_
    refine x_lcmp C dX12_boardLine_118 ?_
    refine x_topi (fun v98 rv98 ev98 => ?_)
    have cv98 := lcmp_iff rv98 ev98
    unfold inR at rv98
    have zzv98 : v98 ≠ 0 := fun g => e1 (cv98.1.mp g)
    refine x_if_ne (tgt := 209) C dX12_boardLine_119 (by decide) ⟨by omega, by omega⟩ (fun h99 => ?_) (fun h99 => by exfalso; omega)
    refine Wx_pick [0, 1] ?_
    refine Wx_lv (lv' := [(0, .ref 0), (1, .long (wd))]) rfl ?_
    have hB0 : BDM F (bpt B 0) Yy95 := by
      have q := hBy95
      unfold bpt
      rw [Int64.or_zero]
      exact q
    exact r_ground3 hT0 e2 n0 n1 n2 wk C hQ (N + 2) 600 0 (nx b N s) F _ (by omega) hHy95 hFy95 hKy95 hLy95 hOn hB0 rfl (by omega) (.inl rfl) (Nat.le_refl _)
  · obtain ⟨n0, n1, n2, n3⟩ := wk
    have e0 : wd ≠ 1936292453 := by rw [hw]; exact fun g => n0 (isW_0.mp g)
    have e1 : wd ≠ 7168366 := by rw [hw]; exact fun g => n1 (isW_1.mp g)
    have e2 : wd ≠ 2002873452 := by rw [hw]; exact fun g => n2 (isW_2.mp g)
    have e3 : wd ≠ 7367028 := by rw [hw]; exact fun g => n3 (isW_3.mp g)
    refine x_lload_n (i := 1) C dX12_boardLine_0 rfl rfl ?_
    refine x_ldc2 C dX12_boardLine_1 cnX12_230 ?_
    refine x_lcmp C dX12_boardLine_4 ?_
    refine x_topi (fun v100 rv100 ev100 => ?_)
    have cv100 := lcmp_iff rv100 ev100
    unfold inR at rv100
    have zzv100 : v100 ≠ 0 := fun g => e0 (cv100.1.mp g)
    refine x_if_eq (tgt := 37) C dX12_boardLine_5 (by decide) ⟨by omega, by omega⟩ (fun h101 => by exfalso; omega) (fun h101 => ?_)
    refine x_lload_n (i := 1) C dX12_boardLine_8 rfl rfl ?_
    refine x_ldc2 C dX12_boardLine_9 cnX12_232 ?_
    refine x_lcmp C dX12_boardLine_12 ?_
    refine x_topi (fun v102 rv102 ev102 => ?_)
    have cv102 := lcmp_iff rv102 ev102
    unfold inR at rv102
    have zzv102 : v102 ≠ 0 := fun g => e2 (cv102.1.mp g)
    refine x_if_eq (tgt := 37) C dX12_boardLine_13 (by decide) ⟨by omega, by omega⟩ (fun h103 => by exfalso; omega) (fun h103 => ?_)
    refine x_lload_n (i := 1) C dX12_boardLine_16 rfl rfl ?_
    refine x_ldc2 C dX12_boardLine_17 cnX12_234 ?_
    refine x_lcmp C dX12_boardLine_20 ?_
    refine x_topi (fun v104 rv104 ev104 => ?_)
    have cv104 := lcmp_iff rv104 ev104
    unfold inR at rv104
    have zzv104 : v104 ≠ 0 := fun g => e3 (cv104.1.mp g)
    refine x_if_eq (tgt := 37) C dX12_boardLine_21 (by decide) ⟨by omega, by omega⟩ (fun h105 => by exfalso; omega) (fun h105 => ?_)
    refine x_lload_n (i := 1) C dX12_boardLine_24 rfl rfl ?_
    refine x_ldc2 C dX12_boardLine_25 cnX12_236 ?_
    refine x_lcmp C dX12_boardLine_28 ?_
    refine x_topi (fun v106 rv106 ev106 => ?_)
    have cv106 := lcmp_iff rv106 ev106
    unfold inR at rv106
    have zzv106 : v106 ≠ 0 := fun g => e1 (cv106.1.mp g)
    refine x_if_eq (tgt := 37) C dX12_boardLine_29 (by decide) ⟨by omega, by omega⟩ (fun h107 => by exfalso; omega) (fun h107 => ?_)
    refine x_aload_n (i := 0) C dX12_boardLine_32 rfl rfl ?_
    refine x_callV (As := []) C (by exact (r_stops (s := s) hH FR.rf hK)) ckX12_205 im_X12_stops se_X12_stops (nlt rfl) rfl rfl rfl rfl (nle rfl) (by exact ⟨nle rfl, nle rfl⟩) dX12_boardLine_33 ?_
    rintro _ Yy108 ⟨v109, rfl, zv109, hHy108, hGy108, wa, hKy108⟩
    have hFy108 : FR mmBL X0 Yy108 := FR.tr hF hGy108 (by decide)
    have hLy108 := hL.fr hGy108 rfl
    have hBy108 := hB.fr hGy108 rfl
    refine Wx_st (st' := [.int (iI (v109))]) rfl ?_
    exact x_zret C hQ (by omega) dX12_boardLine_36 (⟨_, rfl, hHy108, hFy108, s, F, B, hKy108, hLy108, hO, .inr ⟨zv109, wa, by rw [bL_4 n0 n1 n2 n3]⟩⟩)
