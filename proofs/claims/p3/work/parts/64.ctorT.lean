/-! ===== the reference is made ===== -/
set_option maxHeartbeats 4000000 in
set_option maxRecDepth 100000 in
theorem ct_M0 {D : va_G} : MetG (bM D) yX12_init cX12_init 1 1 30 48 40931 [.ref 0] 1 49 (dz 0 x0M) x0M := by
  refine MetG.mk (own := RX12) (by decide +kernel) rfl rfl (nle rfl) (fun E ad cA C hG hI hE hk0 hn0 => ?_)
  refine Wx_lv (lv' := [(0, .ref 0)]) rfl ?_
  have had : ∀ k, k < 1 → wA (mkW (bM D) 1 ad cA) k = ad k := fun _ _ => rfl
  refine x_aload_n (i := 0) C dX12_init_0 rfl rfl ?_
  refine x_objInit C oiX12_1.1 oiX12_1.2.1 oiX12_1.2.2 (nle rfl) (nle rfl) dX12_init_1 ?_
  refine x_aload_n (i := 0) C dX12_init_4 rfl rfl ?_
  refine x_sipush C dX12_init_5 (by decide) ?_
  refine x_newarr (at0 := .byte) (ty := .byte) (q0 := 0) (nn := 2400) (a0 := (2400, .inl (fun _ => 0))) (kd := 1) (a := 1) (b := 2400) C hG rfl acM_byte (fun _ => rfl) (fun _ => rfl) rfl (by decide) rfl (nle rfl) (nle rfl) (rbX_S 1 shM rfl rfl (by decide +kernel)) rfl rfl (by rw [hk0]) (by rw [hn0]) (nle rfl) (nle rfl) dX12_init_8 (fun q c C => ?_)
  refine Wx_PH (fun H h => PX_num (k := 1) SB_dz (fun i => rfl) (fun i => rfl) (fun i => rfl) h) ?_
  show Wx _ _ _ (PX _ (dz 0 x0M)) _ _ [.ref 1, .ref 0]
  have hG := hG.k (a := 1) (b := 2400)
  have hI := hI.k (a := 1) (b := 2400)
  have hE := hE.k (a := 1) (b := 2400)
  have had := had_up (q := q) (c := c) had (nle rfl)
  refine x_putF C hI (xkfM_X12_7 rfl rfl) (by first | exact Or.inl ⟨_, rfl⟩ | exact Or.inr ⟨_, rfl⟩) (nlt rfl) rfl dX12_init_10 ?_
  refine x_aload_n (i := 0) C dX12_init_13 rfl rfl ?_
  refine x_iconst C dX12_init_14 ?_
  refine x_newarr (at0 := .int) (ty := .int) (q0 := 0) (nn := 4) (a0 := (4, .inl (fun _ => 0))) (kd := 1) (a := 2) (b := 2404) C hG rfl acM_int (fun _ => rfl) (fun _ => rfl) rfl (by decide) rfl (nle rfl) (nle rfl) (rbX_S 2 shM rfl rfl (by decide +kernel)) rfl rfl (by rw [eK.k]) (by rw [eN.k]) (nle rfl) (nle rfl) dX12_init_15 (fun q c C => ?_)
  refine Wx_PH (fun H h => PX_num (k := 2) SB_dz (fun i => rfl) (fun i => rfl) (fun i => rfl) h) ?_
  show Wx _ _ _ (PX _ (upR (dz 0 x0M) 0 1 (some 1))) _ _ [.ref 2, .ref 0]
  have hG := hG.k (a := 2) (b := 2404)
  have hI := hI.k (a := 2) (b := 2404)
  have hE := hE.k (a := 2) (b := 2404)
  have had := had_up (q := q) (c := c) had (nle rfl)
  refine x_putF C hI (xkfM_X12_13 rfl rfl) (by first | exact Or.inl ⟨_, rfl⟩ | exact Or.inr ⟨_, rfl⟩) (nlt rfl) rfl dX12_init_17 ?_
  refine x_aload_n (i := 0) C dX12_init_20 rfl rfl ?_
  refine x_iconst C dX12_init_21 ?_
  refine x_newarr (at0 := .int) (ty := .int) (q0 := 0) (nn := 4) (a0 := (4, .inl (fun _ => 0))) (kd := 1) (a := 3) (b := 2408) C hG rfl acM_int (fun _ => rfl) (fun _ => rfl) rfl (by decide) rfl (nle rfl) (nle rfl) (rbX_S 3 shM rfl rfl (by decide +kernel)) rfl rfl (by rw [eK.k]) (by rw [eN.k]) (nle rfl) (nle rfl) dX12_init_22 (fun q c C => ?_)
  refine Wx_PH (fun H h => PX_num (k := 3) SB_dz (fun i => rfl) (fun i => rfl) (fun i => rfl) h) ?_
  show Wx _ _ _ (PX _ (upR (upR (dz 0 x0M) 0 1 (some 1)) 0 2 (some 2))) _ _ [.ref 3, .ref 0]
  have hG := hG.k (a := 3) (b := 2408)
  have hI := hI.k (a := 3) (b := 2408)
  have hE := hE.k (a := 3) (b := 2408)
  have had := had_up (q := q) (c := c) had (nle rfl)
  refine x_putF C hI (xkfM_X12_17 rfl rfl) (by first | exact Or.inl ⟨_, rfl⟩ | exact Or.inr ⟨_, rfl⟩) (nlt rfl) rfl dX12_init_24 ?_
  refine x_aload_n (i := 0) C dX12_init_27 rfl rfl ?_
  refine x_iconst C dX12_init_28 ?_
  refine x_newarr (at0 := .int) (ty := .int) (q0 := 0) (nn := 4) (a0 := (4, .inl (fun _ => 0))) (kd := 1) (a := 4) (b := 2412) C hG rfl acM_int (fun _ => rfl) (fun _ => rfl) rfl (by decide) rfl (nle rfl) (nle rfl) (rbX_S 4 shM rfl rfl (by decide +kernel)) rfl rfl (by rw [eK.k]) (by rw [eN.k]) (nle rfl) (nle rfl) dX12_init_29 (fun q c C => ?_)
  show Wx _ _ _ (PX _ (dz 4 (upR (upR (upR (dz 0 x0M) 0 1 (some 1)) 0 2 (some 2)) 0 3 (some 3)))) _ _ [.ref 4, .ref 0]
  have hG := hG.k (a := 4) (b := 2412)
  have hI := hI.k (a := 4) (b := 2412)
  have hE := hE.k (a := 4) (b := 2412)
  have had := had_up (q := q) (c := c) had (nle rfl)
  refine x_putF C hI (xkfM_X12_20 rfl rfl) (by first | exact Or.inl ⟨_, rfl⟩ | exact Or.inr ⟨_, rfl⟩) (nlt rfl) rfl dX12_init_31 ?_
  refine x_aload_n (i := 0) C dX12_init_34 rfl rfl ?_
  refine x_bipush C dX12_init_35 (by decide) ?_
  refine x_newarr (at0 := .int) (ty := .int) (q0 := 0) (nn := 12) (a0 := (12, .inl (fun _ => 0))) (kd := 1) (a := 5) (b := 2424) C hG rfl acM_int (fun _ => rfl) (fun _ => rfl) rfl (by decide) rfl (nle rfl) (nle rfl) (rbX_S 5 shM rfl rfl (by decide +kernel)) rfl rfl (by rw [eK.k]) (by rw [eN.k]) (nle rfl) (nle rfl) dX12_init_37 (fun q c C => ?_)
  refine Wx_PH (fun H h => PX_num (k := 5) SB_dz (fun i => rfl) (fun i => rfl) (fun i => rfl) h) ?_
  show Wx _ _ _ (PX _ (upR (dz 4 (upR (upR (upR (dz 0 x0M) 0 1 (some 1)) 0 2 (some 2)) 0 3 (some 3))) 0 4 (some 4))) _ _ [.ref 5, .ref 0]
  have hG := hG.k (a := 5) (b := 2424)
  have hI := hI.k (a := 5) (b := 2424)
  have hE := hE.k (a := 5) (b := 2424)
  have had := had_up (q := q) (c := c) had (nle rfl)
  refine x_putF C hI (xkfM_X12_23 rfl rfl) (by first | exact Or.inl ⟨_, rfl⟩ | exact Or.inr ⟨_, rfl⟩) (nlt rfl) rfl dX12_init_39 ?_
  refine x_aload_n (i := 0) C dX12_init_42 rfl rfl ?_
  refine x_sipush C dX12_init_43 (by decide) ?_
  refine x_newarr (at0 := .int) (ty := .int) (q0 := 0) (nn := 408) (a0 := (408, .inl (fun _ => 0))) (kd := 1) (a := 6) (b := 2832) C hG rfl acM_int (fun _ => rfl) (fun _ => rfl) rfl (by decide) rfl (nle rfl) (nle rfl) (rbX_S 6 shM rfl rfl (by decide +kernel)) rfl rfl (by rw [eK.k]) (by rw [eN.k]) (nle rfl) (nle rfl) dX12_init_46 (fun q c C => ?_)
  refine Wx_PH (fun H h => PX_num (k := 6) SB_dz (fun i => rfl) (fun i => rfl) (fun i => rfl) h) ?_
  show Wx _ _ _ (PX _ (upR (upR (dz 4 (upR (upR (upR (dz 0 x0M) 0 1 (some 1)) 0 2 (some 2)) 0 3 (some 3))) 0 4 (some 4)) 0 5 (some 5))) _ _ [.ref 6, .ref 0]
  have hG := hG.k (a := 6) (b := 2832)
  have hI := hI.k (a := 6) (b := 2832)
  have hE := hE.k (a := 6) (b := 2832)
  have had := had_up (q := q) (c := c) had (nle rfl)
  refine x_putF C hI (xkfM_X12_26 rfl rfl) (by first | exact Or.inl ⟨_, rfl⟩ | exact Or.inr ⟨_, rfl⟩) (nlt rfl) rfl dX12_init_48 ?_
  refine x_aload_n (i := 0) C dX12_init_51 rfl rfl ?_
  refine x_bipush C dX12_init_52 (by decide) ?_
  refine x_newarr (at0 := .int) (ty := .int) (q0 := 0) (nn := 120) (a0 := (120, .inl (fun _ => 0))) (kd := 1) (a := 7) (b := 2952) C hG rfl acM_int (fun _ => rfl) (fun _ => rfl) rfl (by decide) rfl (nle rfl) (nle rfl) (rbX_S 7 shM rfl rfl (by decide +kernel)) rfl rfl (by rw [eK.k]) (by rw [eN.k]) (nle rfl) (nle rfl) dX12_init_54 (fun q c C => ?_)
  refine Wx_PH (fun H h => PX_num (k := 7) SB_dz (fun i => rfl) (fun i => rfl) (fun i => rfl) h) ?_
  show Wx _ _ _ (PX _ (upR (upR (upR (dz 4 (upR (upR (upR (dz 0 x0M) 0 1 (some 1)) 0 2 (some 2)) 0 3 (some 3))) 0 4 (some 4)) 0 5 (some 5)) 0 6 (some 6))) _ _ [.ref 7, .ref 0]
  have hG := hG.k (a := 7) (b := 2952)
  have hI := hI.k (a := 7) (b := 2952)
  have hE := hE.k (a := 7) (b := 2952)
  have had := had_up (q := q) (c := c) had (nle rfl)
  refine x_putF C hI (xkfM_X12_29 rfl rfl) (by first | exact Or.inl ⟨_, rfl⟩ | exact Or.inr ⟨_, rfl⟩) (nlt rfl) rfl dX12_init_56 ?_
  refine x_aload_n (i := 0) C dX12_init_59 rfl rfl ?_
  refine x_sipush C dX12_init_60 (by decide) ?_
  refine x_newarr (at0 := .int) (ty := .int) (q0 := 0) (nn := 2648) (a0 := (2648, .inl (fun _ => 0))) (kd := 1) (a := 8) (b := 5600) C hG rfl acM_int (fun _ => rfl) (fun _ => rfl) rfl (by decide) rfl (nle rfl) (nle rfl) (rbX_S 8 shM rfl rfl (by decide +kernel)) rfl rfl (by rw [eK.k]) (by rw [eN.k]) (nle rfl) (nle rfl) dX12_init_63 (fun q c C => ?_)
  refine Wx_PH (fun H h => PX_num (k := 8) SB_dz (fun i => rfl) (fun i => rfl) (fun i => rfl) h) ?_
  show Wx _ _ _ (PX _ (upR (upR (upR (upR (dz 4 (upR (upR (upR (dz 0 x0M) 0 1 (some 1)) 0 2 (some 2)) 0 3 (some 3))) 0 4 (some 4)) 0 5 (some 5)) 0 6 (some 6)) 0 7 (some 7))) _ _ [.ref 8, .ref 0]
  have hG := hG.k (a := 8) (b := 5600)
  have hI := hI.k (a := 8) (b := 5600)
  have hE := hE.k (a := 8) (b := 5600)
  have had := had_up (q := q) (c := c) had (nle rfl)
  refine x_putF C hI (xkfM_X12_32 rfl rfl) (by first | exact Or.inl ⟨_, rfl⟩ | exact Or.inr ⟨_, rfl⟩) (nlt rfl) rfl dX12_init_65 ?_
  refine x_aload_n (i := 0) C dX12_init_68 rfl rfl ?_
  refine x_sipush C dX12_init_69 (by decide) ?_
  refine x_newarr (at0 := .int) (ty := .int) (q0 := 0) (nn := 331) (a0 := (331, .inl (fun _ => 0))) (kd := 1) (a := 9) (b := 5931) C hG rfl acM_int (fun _ => rfl) (fun _ => rfl) rfl (by decide) rfl (nle rfl) (nle rfl) (rbX_S 9 shM rfl rfl (by decide +kernel)) rfl rfl (by rw [eK.k]) (by rw [eN.k]) (nle rfl) (nle rfl) dX12_init_72 (fun q c C => ?_)
  refine Wx_PH (fun H h => PX_num (k := 9) SB_dz (fun i => rfl) (fun i => rfl) (fun i => rfl) h) ?_
  show Wx _ _ _ (PX _ (upR (upR (upR (upR (upR (dz 4 (upR (upR (upR (dz 0 x0M) 0 1 (some 1)) 0 2 (some 2)) 0 3 (some 3))) 0 4 (some 4)) 0 5 (some 5)) 0 6 (some 6)) 0 7 (some 7)) 0 8 (some 8))) _ _ [.ref 9, .ref 0]
  have hG := hG.k (a := 9) (b := 5931)
  have hI := hI.k (a := 9) (b := 5931)
  have hE := hE.k (a := 9) (b := 5931)
  have had := had_up (q := q) (c := c) had (nle rfl)
  refine x_putF C hI (xkfM_X12_35 rfl rfl) (by first | exact Or.inl ⟨_, rfl⟩ | exact Or.inr ⟨_, rfl⟩) (nlt rfl) rfl dX12_init_74 ?_
  refine x_aload_n (i := 0) C dX12_init_77 rfl rfl ?_
  refine x_bipush C dX12_init_78 (by decide) ?_
  refine x_newarr (at0 := .int) (ty := .int) (q0 := 0) (nn := 10) (a0 := (10, .inl (fun _ => 0))) (kd := 1) (a := 10) (b := 5941) C hG rfl acM_int (fun _ => rfl) (fun _ => rfl) rfl (by decide) rfl (nle rfl) (nle rfl) (rbX_S 10 shM rfl rfl (by decide +kernel)) rfl rfl (by rw [eK.k]) (by rw [eN.k]) (nle rfl) (nle rfl) dX12_init_80 (fun q c C => ?_)
  refine Wx_PH (fun H h => PX_num (k := 10) SB_dz (fun i => rfl) (fun i => rfl) (fun i => rfl) h) ?_
  show Wx _ _ _ (PX _ (upR (upR (upR (upR (upR (upR (dz 4 (upR (upR (upR (dz 0 x0M) 0 1 (some 1)) 0 2 (some 2)) 0 3 (some 3))) 0 4 (some 4)) 0 5 (some 5)) 0 6 (some 6)) 0 7 (some 7)) 0 8 (some 8)) 0 18 (some 9))) _ _ [.ref 10, .ref 0]
  have hG := hG.k (a := 10) (b := 5941)
  have hI := hI.k (a := 10) (b := 5941)
  have hE := hE.k (a := 10) (b := 5941)
  have had := had_up (q := q) (c := c) had (nle rfl)
  refine x_putF C hI (xkfM_X12_38 rfl rfl) (by first | exact Or.inl ⟨_, rfl⟩ | exact Or.inr ⟨_, rfl⟩) (nlt rfl) rfl dX12_init_82 ?_
  refine x_aload_n (i := 0) C dX12_init_85 rfl rfl ?_
  refine x_bipush C dX12_init_86 (by decide) ?_
  refine x_newarr (at0 := .int) (ty := .int) (q0 := 0) (nn := 7) (a0 := (7, .inl (fun _ => 0))) (kd := 1) (a := 11) (b := 5948) C hG rfl acM_int (fun _ => rfl) (fun _ => rfl) rfl (by decide) rfl (nle rfl) (nle rfl) (rbX_S 11 shM rfl rfl (by decide +kernel)) rfl rfl (by rw [eK.k]) (by rw [eN.k]) (nle rfl) (nle rfl) dX12_init_88 (fun q c C => ?_)
  refine Wx_PH (fun H h => PX_num (k := 11) SB_dz (fun i => rfl) (fun i => rfl) (fun i => rfl) h) ?_
  show Wx _ _ _ (PX _ (upR (upR (upR (upR (upR (upR (upR (dz 4 (upR (upR (upR (dz 0 x0M) 0 1 (some 1)) 0 2 (some 2)) 0 3 (some 3))) 0 4 (some 4)) 0 5 (some 5)) 0 6 (some 6)) 0 7 (some 7)) 0 8 (some 8)) 0 18 (some 9)) 0 19 (some 10))) _ _ [.ref 11, .ref 0]
  have hG := hG.k (a := 11) (b := 5948)
  have hI := hI.k (a := 11) (b := 5948)
  have hE := hE.k (a := 11) (b := 5948)
  have had := had_up (q := q) (c := c) had (nle rfl)
  refine x_putF C hI (xkfM_X12_41 rfl rfl) (by first | exact Or.inl ⟨_, rfl⟩ | exact Or.inr ⟨_, rfl⟩) (nlt rfl) rfl dX12_init_90 ?_
  refine x_aload_n (i := 0) C dX12_init_93 rfl rfl ?_
  refine x_bipush C dX12_init_94 (by decide) ?_
  refine x_newarr (at0 := .int) (ty := .int) (q0 := 0) (nn := 7) (a0 := (7, .inl (fun _ => 0))) (kd := 1) (a := 12) (b := 5955) C hG rfl acM_int (fun _ => rfl) (fun _ => rfl) rfl (by decide) rfl (nle rfl) (nle rfl) (rbX_S 12 shM rfl rfl (by decide +kernel)) rfl rfl (by rw [eK.k]) (by rw [eN.k]) (nle rfl) (nle rfl) dX12_init_96 (fun q c C => ?_)
  refine Wx_PH (fun H h => PX_num (k := 12) SB_dz (fun i => rfl) (fun i => rfl) (fun i => rfl) h) ?_
  show Wx _ _ _ (PX _ (upR (upR (upR (upR (upR (upR (upR (upR (dz 4 (upR (upR (upR (dz 0 x0M) 0 1 (some 1)) 0 2 (some 2)) 0 3 (some 3))) 0 4 (some 4)) 0 5 (some 5)) 0 6 (some 6)) 0 7 (some 7)) 0 8 (some 8)) 0 18 (some 9)) 0 19 (some 10)) 0 28 (some 11))) _ _ [.ref 12, .ref 0]
  have hG := hG.k (a := 12) (b := 5955)
  have hI := hI.k (a := 12) (b := 5955)
  have hE := hE.k (a := 12) (b := 5955)
  have had := had_up (q := q) (c := c) had (nle rfl)
  refine x_putF C hI (xkfM_X12_44 rfl rfl) (by first | exact Or.inl ⟨_, rfl⟩ | exact Or.inr ⟨_, rfl⟩) (nlt rfl) rfl dX12_init_98 ?_
  refine x_aload_n (i := 0) C dX12_init_101 rfl rfl ?_
  refine x_iconst C dX12_init_102 ?_
  refine x_newarr (at0 := .int) (ty := .int) (q0 := 0) (nn := 2) (a0 := (2, .inl (fun _ => 0))) (kd := 1) (a := 13) (b := 5957) C hG rfl acM_int (fun _ => rfl) (fun _ => rfl) rfl (by decide) rfl (nle rfl) (nle rfl) (rbX_S 13 shM rfl rfl (by decide +kernel)) rfl rfl (by rw [eK.k]) (by rw [eN.k]) (nle rfl) (nle rfl) dX12_init_103 (fun q c C => ?_)
  refine Wx_PH (fun H h => PX_num (k := 13) SB_dz (fun i => rfl) (fun i => rfl) (fun i => rfl) h) ?_
  show Wx _ _ _ (PX _ (upR (upR (upR (upR (upR (upR (upR (upR (upR (dz 4 (upR (upR (upR (dz 0 x0M) 0 1 (some 1)) 0 2 (some 2)) 0 3 (some 3))) 0 4 (some 4)) 0 5 (some 5)) 0 6 (some 6)) 0 7 (some 7)) 0 8 (some 8)) 0 18 (some 9)) 0 19 (some 10)) 0 28 (some 11)) 0 29 (some 12))) _ _ [.ref 13, .ref 0]
  have hG := hG.k (a := 13) (b := 5957)
  have hI := hI.k (a := 13) (b := 5957)
  have hE := hE.k (a := 13) (b := 5957)
  have had := had_up (q := q) (c := c) had (nle rfl)
  refine x_putF C hI (xkfM_X12_47 rfl rfl) (by first | exact Or.inl ⟨_, rfl⟩ | exact Or.inr ⟨_, rfl⟩) (nlt rfl) rfl dX12_init_105 ?_
  refine x_aload_n (i := 0) C dX12_init_108 rfl rfl ?_
  refine x_iconst C dX12_init_109 ?_
  refine x_newarr (at0 := .long) (ty := .long) (q0 := 0) (nn := 5) (a0 := (5, .inr (.inl (fun _ => 0)))) (kd := 2) (a := 14) (b := 5962) C hG rfl acM_long (fun _ => rfl) (fun _ => rfl) rfl (by decide) rfl (nle rfl) (nle rfl) (rbX_S 14 shM rfl rfl (by decide +kernel)) rfl rfl (by rw [eK.k]) (by rw [eN.k]) (nle rfl) (nle rfl) dX12_init_110 (fun q c C => ?_)
  refine Wx_PH (fun H h => PX_num (k := 14) SB_dz (fun i => rfl) (fun i => rfl) (fun i => rfl) h) ?_
  show Wx _ _ _ (PX _ (upR (upR (upR (upR (upR (upR (upR (upR (upR (upR (dz 4 (upR (upR (upR (dz 0 x0M) 0 1 (some 1)) 0 2 (some 2)) 0 3 (some 3))) 0 4 (some 4)) 0 5 (some 5)) 0 6 (some 6)) 0 7 (some 7)) 0 8 (some 8)) 0 18 (some 9)) 0 19 (some 10)) 0 28 (some 11)) 0 29 (some 12)) 0 30 (some 13))) _ _ [.ref 14, .ref 0]
  have hG := hG.k (a := 14) (b := 5962)
  have hI := hI.k (a := 14) (b := 5962)
  have hE := hE.k (a := 14) (b := 5962)
  have had := had_up (q := q) (c := c) had (nle rfl)
  refine x_putF C hI (xkfM_X12_50 rfl rfl) (by first | exact Or.inl ⟨_, rfl⟩ | exact Or.inr ⟨_, rfl⟩) (nlt rfl) rfl dX12_init_112 ?_
  refine x_aload_n (i := 0) C dX12_init_115 rfl rfl ?_
  refine x_iconst C dX12_init_116 ?_
  refine x_newarr (at0 := .long) (ty := .long) (q0 := 0) (nn := 5) (a0 := (5, .inr (.inl (fun _ => 0)))) (kd := 2) (a := 15) (b := 5967) C hG rfl acM_long (fun _ => rfl) (fun _ => rfl) rfl (by decide) rfl (nle rfl) (nle rfl) (rbX_S 15 shM rfl rfl (by decide +kernel)) rfl rfl (by rw [eK.k]) (by rw [eN.k]) (nle rfl) (nle rfl) dX12_init_117 (fun q c C => ?_)
  refine Wx_PH (fun H h => PX_num (k := 15) SB_dz (fun i => rfl) (fun i => rfl) (fun i => rfl) h) ?_
  show Wx _ _ _ (PX _ (upR (upR (upR (upR (upR (upR (upR (upR (upR (upR (upR (dz 4 (upR (upR (upR (dz 0 x0M) 0 1 (some 1)) 0 2 (some 2)) 0 3 (some 3))) 0 4 (some 4)) 0 5 (some 5)) 0 6 (some 6)) 0 7 (some 7)) 0 8 (some 8)) 0 18 (some 9)) 0 19 (some 10)) 0 28 (some 11)) 0 29 (some 12)) 0 30 (some 13)) 0 35 (some 14))) _ _ [.ref 15, .ref 0]
  have hG := hG.k (a := 15) (b := 5967)
  have hI := hI.k (a := 15) (b := 5967)
  have hE := hE.k (a := 15) (b := 5967)
  have had := had_up (q := q) (c := c) had (nle rfl)
  refine x_putF C hI (xkfM_X12_54 rfl rfl) (by first | exact Or.inl ⟨_, rfl⟩ | exact Or.inr ⟨_, rfl⟩) (nlt rfl) rfl dX12_init_119 ?_
  refine x_aload_n (i := 0) C dX12_init_122 rfl rfl ?_
  refine x_iconst C dX12_init_123 ?_
  refine x_newarr (at0 := .long) (ty := .long) (q0 := 0) (nn := 5) (a0 := (5, .inr (.inl (fun _ => 0)))) (kd := 2) (a := 16) (b := 5972) C hG rfl acM_long (fun _ => rfl) (fun _ => rfl) rfl (by decide) rfl (nle rfl) (nle rfl) (rbX_S 16 shM rfl rfl (by decide +kernel)) rfl rfl (by rw [eK.k]) (by rw [eN.k]) (nle rfl) (nle rfl) dX12_init_124 (fun q c C => ?_)
  refine Wx_PH (fun H h => PX_num (k := 16) SB_dz (fun i => rfl) (fun i => rfl) (fun i => rfl) h) ?_
  show Wx _ _ _ (PX _ (upR (upR (upR (upR (upR (upR (upR (upR (upR (upR (upR (upR (dz 4 (upR (upR (upR (dz 0 x0M) 0 1 (some 1)) 0 2 (some 2)) 0 3 (some 3))) 0 4 (some 4)) 0 5 (some 5)) 0 6 (some 6)) 0 7 (some 7)) 0 8 (some 8)) 0 18 (some 9)) 0 19 (some 10)) 0 28 (some 11)) 0 29 (some 12)) 0 30 (some 13)) 0 35 (some 14)) 0 36 (some 15))) _ _ [.ref 16, .ref 0]
  have hG := hG.k (a := 16) (b := 5972)
  have hI := hI.k (a := 16) (b := 5972)
  have hE := hE.k (a := 16) (b := 5972)
  have had := had_up (q := q) (c := c) had (nle rfl)
  refine x_putF C hI (xkfM_X12_57 rfl rfl) (by first | exact Or.inl ⟨_, rfl⟩ | exact Or.inr ⟨_, rfl⟩) (nlt rfl) rfl dX12_init_126 ?_
  refine x_aload_n (i := 0) C dX12_init_129 rfl rfl ?_
  refine x_bipush C dX12_init_130 (by decide) ?_
  refine x_newarr (at0 := .int) (ty := .int) (q0 := 0) (nn := 10) (a0 := (10, .inl (fun _ => 0))) (kd := 1) (a := 17) (b := 5982) C hG rfl acM_int (fun _ => rfl) (fun _ => rfl) rfl (by decide) rfl (nle rfl) (nle rfl) (rbX_S 17 shM rfl rfl (by decide +kernel)) rfl rfl (by rw [eK.k]) (by rw [eN.k]) (nle rfl) (nle rfl) dX12_init_132 (fun q c C => ?_)
  refine Wx_PH (fun H h => PX_num (k := 17) SB_dz (fun i => rfl) (fun i => rfl) (fun i => rfl) h) ?_
  show Wx _ _ _ (PX _ (upR (upR (upR (upR (upR (upR (upR (upR (upR (upR (upR (upR (upR (dz 4 (upR (upR (upR (dz 0 x0M) 0 1 (some 1)) 0 2 (some 2)) 0 3 (some 3))) 0 4 (some 4)) 0 5 (some 5)) 0 6 (some 6)) 0 7 (some 7)) 0 8 (some 8)) 0 18 (some 9)) 0 19 (some 10)) 0 28 (some 11)) 0 29 (some 12)) 0 30 (some 13)) 0 35 (some 14)) 0 36 (some 15)) 0 37 (some 16))) _ _ [.ref 17, .ref 0]
  have hG := hG.k (a := 17) (b := 5982)
  have hI := hI.k (a := 17) (b := 5982)
  have hE := hE.k (a := 17) (b := 5982)
  have had := had_up (q := q) (c := c) had (nle rfl)
  refine x_putF C hI (xkfM_X12_60 rfl rfl) (by first | exact Or.inl ⟨_, rfl⟩ | exact Or.inr ⟨_, rfl⟩) (nlt rfl) rfl dX12_init_134 ?_
  refine x_aload_n (i := 0) C dX12_init_137 rfl rfl ?_
  refine x_iconst C dX12_init_138 ?_
  refine x_newarr (at0 := .long) (ty := .long) (q0 := 0) (nn := 5) (a0 := (5, .inr (.inl (fun _ => 0)))) (kd := 2) (a := 18) (b := 5987) C hG rfl acM_long (fun _ => rfl) (fun _ => rfl) rfl (by decide) rfl (nle rfl) (nle rfl) (rbX_S 18 shM rfl rfl (by decide +kernel)) rfl rfl (by rw [eK.k]) (by rw [eN.k]) (nle rfl) (nle rfl) dX12_init_139 (fun q c C => ?_)
  refine Wx_PH (fun H h => PX_num (k := 18) SB_dz (fun i => rfl) (fun i => rfl) (fun i => rfl) h) ?_
  show Wx _ _ _ (PX _ (upR (upR (upR (upR (upR (upR (upR (upR (upR (upR (upR (upR (upR (upR (dz 4 (upR (upR (upR (dz 0 x0M) 0 1 (some 1)) 0 2 (some 2)) 0 3 (some 3))) 0 4 (some 4)) 0 5 (some 5)) 0 6 (some 6)) 0 7 (some 7)) 0 8 (some 8)) 0 18 (some 9)) 0 19 (some 10)) 0 28 (some 11)) 0 29 (some 12)) 0 30 (some 13)) 0 35 (some 14)) 0 36 (some 15)) 0 37 (some 16)) 0 38 (some 17))) _ _ [.ref 18, .ref 0]
  have hG := hG.k (a := 18) (b := 5987)
  have hI := hI.k (a := 18) (b := 5987)
  have hE := hE.k (a := 18) (b := 5987)
  have had := had_up (q := q) (c := c) had (nle rfl)
  refine x_putF C hI (xkfM_X12_63 rfl rfl) (by first | exact Or.inl ⟨_, rfl⟩ | exact Or.inr ⟨_, rfl⟩) (nlt rfl) rfl dX12_init_141 ?_
  refine x_aload_n (i := 0) C dX12_init_144 rfl rfl ?_
  refine x_iconst C dX12_init_145 ?_
  refine x_newarr (at0 := .long) (ty := .long) (q0 := 0) (nn := 5) (a0 := (5, .inr (.inl (fun _ => 0)))) (kd := 2) (a := 19) (b := 5992) C hG rfl acM_long (fun _ => rfl) (fun _ => rfl) rfl (by decide) rfl (nle rfl) (nle rfl) (rbX_S 19 shM rfl rfl (by decide +kernel)) rfl rfl (by rw [eK.k]) (by rw [eN.k]) (nle rfl) (nle rfl) dX12_init_146 (fun q c C => ?_)
  refine Wx_PH (fun H h => PX_num (k := 19) SB_dz (fun i => rfl) (fun i => rfl) (fun i => rfl) h) ?_
  show Wx _ _ _ (PX _ (upR (upR (upR (upR (upR (upR (upR (upR (upR (upR (upR (upR (upR (upR (upR (dz 4 (upR (upR (upR (dz 0 x0M) 0 1 (some 1)) 0 2 (some 2)) 0 3 (some 3))) 0 4 (some 4)) 0 5 (some 5)) 0 6 (some 6)) 0 7 (some 7)) 0 8 (some 8)) 0 18 (some 9)) 0 19 (some 10)) 0 28 (some 11)) 0 29 (some 12)) 0 30 (some 13)) 0 35 (some 14)) 0 36 (some 15)) 0 37 (some 16)) 0 38 (some 17)) 0 39 (some 18))) _ _ [.ref 19, .ref 0]
  have hG := hG.k (a := 19) (b := 5992)
  have hI := hI.k (a := 19) (b := 5992)
  have hE := hE.k (a := 19) (b := 5992)
  have had := had_up (q := q) (c := c) had (nle rfl)
  refine x_putF C hI (xkfM_X12_66 rfl rfl) (by first | exact Or.inl ⟨_, rfl⟩ | exact Or.inr ⟨_, rfl⟩) (nlt rfl) rfl dX12_init_148 ?_
  refine x_aload_n (i := 0) C dX12_init_151 rfl rfl ?_
  refine x_iconst C dX12_init_152 ?_
  refine x_newarr (at0 := .long) (ty := .long) (q0 := 0) (nn := 5) (a0 := (5, .inr (.inl (fun _ => 0)))) (kd := 2) (a := 20) (b := 5997) C hG rfl acM_long (fun _ => rfl) (fun _ => rfl) rfl (by decide) rfl (nle rfl) (nle rfl) (rbX_S 20 shM rfl rfl (by decide +kernel)) rfl rfl (by rw [eK.k]) (by rw [eN.k]) (nle rfl) (nle rfl) dX12_init_153 (fun q c C => ?_)
  refine Wx_PH (fun H h => PX_num (k := 20) SB_dz (fun i => rfl) (fun i => rfl) (fun i => rfl) h) ?_
  show Wx _ _ _ (PX _ (upR (upR (upR (upR (upR (upR (upR (upR (upR (upR (upR (upR (upR (upR (upR (upR (dz 4 (upR (upR (upR (dz 0 x0M) 0 1 (some 1)) 0 2 (some 2)) 0 3 (some 3))) 0 4 (some 4)) 0 5 (some 5)) 0 6 (some 6)) 0 7 (some 7)) 0 8 (some 8)) 0 18 (some 9)) 0 19 (some 10)) 0 28 (some 11)) 0 29 (some 12)) 0 30 (some 13)) 0 35 (some 14)) 0 36 (some 15)) 0 37 (some 16)) 0 38 (some 17)) 0 39 (some 18)) 0 40 (some 19))) _ _ [.ref 20, .ref 0]
  have hG := hG.k (a := 20) (b := 5997)
  have hI := hI.k (a := 20) (b := 5997)
  have hE := hE.k (a := 20) (b := 5997)
  have had := had_up (q := q) (c := c) had (nle rfl)
  refine x_putF C hI (xkfM_X12_69 rfl rfl) (by first | exact Or.inl ⟨_, rfl⟩ | exact Or.inr ⟨_, rfl⟩) (nlt rfl) rfl dX12_init_155 ?_
  refine x_aload_n (i := 0) C dX12_init_158 rfl rfl ?_
  refine x_iconst C dX12_init_159 ?_
  refine x_newarr (at0 := .long) (ty := .long) (q0 := 0) (nn := 5) (a0 := (5, .inr (.inl (fun _ => 0)))) (kd := 2) (a := 21) (b := 6002) C hG rfl acM_long (fun _ => rfl) (fun _ => rfl) rfl (by decide) rfl (nle rfl) (nle rfl) (rbX_S 21 shM rfl rfl (by decide +kernel)) rfl rfl (by rw [eK.k]) (by rw [eN.k]) (nle rfl) (nle rfl) dX12_init_160 (fun q c C => ?_)
  refine Wx_PH (fun H h => PX_num (k := 21) SB_dz (fun i => rfl) (fun i => rfl) (fun i => rfl) h) ?_
  show Wx _ _ _ (PX _ (upR (upR (upR (upR (upR (upR (upR (upR (upR (upR (upR (upR (upR (upR (upR (upR (upR (dz 4 (upR (upR (upR (dz 0 x0M) 0 1 (some 1)) 0 2 (some 2)) 0 3 (some 3))) 0 4 (some 4)) 0 5 (some 5)) 0 6 (some 6)) 0 7 (some 7)) 0 8 (some 8)) 0 18 (some 9)) 0 19 (some 10)) 0 28 (some 11)) 0 29 (some 12)) 0 30 (some 13)) 0 35 (some 14)) 0 36 (some 15)) 0 37 (some 16)) 0 38 (some 17)) 0 39 (some 18)) 0 40 (some 19)) 0 41 (some 20))) _ _ [.ref 21, .ref 0]
  have hG := hG.k (a := 21) (b := 6002)
  have hI := hI.k (a := 21) (b := 6002)
  have hE := hE.k (a := 21) (b := 6002)
  have had := had_up (q := q) (c := c) had (nle rfl)
  refine x_putF C hI (xkfM_X12_72 rfl rfl) (by first | exact Or.inl ⟨_, rfl⟩ | exact Or.inr ⟨_, rfl⟩) (nlt rfl) rfl dX12_init_162 ?_
  refine x_aload_n (i := 0) C dX12_init_165 rfl rfl ?_
  refine x_bipush C dX12_init_166 (by decide) ?_
  refine x_newarr (at0 := .int) (ty := .int) (q0 := 0) (nn := 10) (a0 := (10, .inl (fun _ => 0))) (kd := 1) (a := 22) (b := 6012) C hG rfl acM_int (fun _ => rfl) (fun _ => rfl) rfl (by decide) rfl (nle rfl) (nle rfl) (rbX_S 22 shM rfl rfl (by decide +kernel)) rfl rfl (by rw [eK.k]) (by rw [eN.k]) (nle rfl) (nle rfl) dX12_init_168 (fun q c C => ?_)
  refine Wx_PH (fun H h => PX_num (k := 22) SB_dz (fun i => rfl) (fun i => rfl) (fun i => rfl) h) ?_
  show Wx _ _ _ (PX _ (upR (upR (upR (upR (upR (upR (upR (upR (upR (upR (upR (upR (upR (upR (upR (upR (upR (upR (dz 4 (upR (upR (upR (dz 0 x0M) 0 1 (some 1)) 0 2 (some 2)) 0 3 (some 3))) 0 4 (some 4)) 0 5 (some 5)) 0 6 (some 6)) 0 7 (some 7)) 0 8 (some 8)) 0 18 (some 9)) 0 19 (some 10)) 0 28 (some 11)) 0 29 (some 12)) 0 30 (some 13)) 0 35 (some 14)) 0 36 (some 15)) 0 37 (some 16)) 0 38 (some 17)) 0 39 (some 18)) 0 40 (some 19)) 0 41 (some 20)) 0 42 (some 21))) _ _ [.ref 22, .ref 0]
  have hG := hG.k (a := 22) (b := 6012)
  have hI := hI.k (a := 22) (b := 6012)
  have hE := hE.k (a := 22) (b := 6012)
  have had := had_up (q := q) (c := c) had (nle rfl)
  refine x_putF C hI (xkfM_X12_75 rfl rfl) (by first | exact Or.inl ⟨_, rfl⟩ | exact Or.inr ⟨_, rfl⟩) (nlt rfl) rfl dX12_init_170 ?_
  refine x_aload_n (i := 0) C dX12_init_173 rfl rfl ?_
  refine x_iconst C dX12_init_174 ?_
  refine x_newarr (at0 := .long) (ty := .long) (q0 := 0) (nn := 5) (a0 := (5, .inr (.inl (fun _ => 0)))) (kd := 2) (a := 23) (b := 6017) C hG rfl acM_long (fun _ => rfl) (fun _ => rfl) rfl (by decide) rfl (nle rfl) (nle rfl) (rbX_S 23 shM rfl rfl (by decide +kernel)) rfl rfl (by rw [eK.k]) (by rw [eN.k]) (nle rfl) (nle rfl) dX12_init_175 (fun q c C => ?_)
  refine Wx_PH (fun H h => PX_num (k := 23) SB_dz (fun i => rfl) (fun i => rfl) (fun i => rfl) h) ?_
  show Wx _ _ _ (PX _ (upR (upR (upR (upR (upR (upR (upR (upR (upR (upR (upR (upR (upR (upR (upR (upR (upR (upR (upR (dz 4 (upR (upR (upR (dz 0 x0M) 0 1 (some 1)) 0 2 (some 2)) 0 3 (some 3))) 0 4 (some 4)) 0 5 (some 5)) 0 6 (some 6)) 0 7 (some 7)) 0 8 (some 8)) 0 18 (some 9)) 0 19 (some 10)) 0 28 (some 11)) 0 29 (some 12)) 0 30 (some 13)) 0 35 (some 14)) 0 36 (some 15)) 0 37 (some 16)) 0 38 (some 17)) 0 39 (some 18)) 0 40 (some 19)) 0 41 (some 20)) 0 42 (some 21)) 0 43 (some 22))) _ _ [.ref 23, .ref 0]
  have hG := hG.k (a := 23) (b := 6017)
  have hI := hI.k (a := 23) (b := 6017)
  have hE := hE.k (a := 23) (b := 6017)
  have had := had_up (q := q) (c := c) had (nle rfl)
  refine x_putF C hI (xkfM_X12_78 rfl rfl) (by first | exact Or.inl ⟨_, rfl⟩ | exact Or.inr ⟨_, rfl⟩) (nlt rfl) rfl dX12_init_177 ?_
  refine x_aload_n (i := 0) C dX12_init_180 rfl rfl ?_
  refine x_iconst C dX12_init_181 ?_
  refine x_newarr (at0 := .long) (ty := .long) (q0 := 0) (nn := 5) (a0 := (5, .inr (.inl (fun _ => 0)))) (kd := 2) (a := 24) (b := 6022) C hG rfl acM_long (fun _ => rfl) (fun _ => rfl) rfl (by decide) rfl (nle rfl) (nle rfl) (rbX_S 24 shM rfl rfl (by decide +kernel)) rfl rfl (by rw [eK.k]) (by rw [eN.k]) (nle rfl) (nle rfl) dX12_init_182 (fun q c C => ?_)
  refine Wx_PH (fun H h => PX_num (k := 24) SB_dz (fun i => rfl) (fun i => rfl) (fun i => rfl) h) ?_
  show Wx _ _ _ (PX _ (upR (upR (upR (upR (upR (upR (upR (upR (upR (upR (upR (upR (upR (upR (upR (upR (upR (upR (upR (upR (dz 4 (upR (upR (upR (dz 0 x0M) 0 1 (some 1)) 0 2 (some 2)) 0 3 (some 3))) 0 4 (some 4)) 0 5 (some 5)) 0 6 (some 6)) 0 7 (some 7)) 0 8 (some 8)) 0 18 (some 9)) 0 19 (some 10)) 0 28 (some 11)) 0 29 (some 12)) 0 30 (some 13)) 0 35 (some 14)) 0 36 (some 15)) 0 37 (some 16)) 0 38 (some 17)) 0 39 (some 18)) 0 40 (some 19)) 0 41 (some 20)) 0 42 (some 21)) 0 43 (some 22)) 0 44 (some 23))) _ _ [.ref 24, .ref 0]
  have hG := hG.k (a := 24) (b := 6022)
  have hI := hI.k (a := 24) (b := 6022)
  have hE := hE.k (a := 24) (b := 6022)
  have had := had_up (q := q) (c := c) had (nle rfl)
  refine x_putF C hI (xkfM_X12_81 rfl rfl) (by first | exact Or.inl ⟨_, rfl⟩ | exact Or.inr ⟨_, rfl⟩) (nlt rfl) rfl dX12_init_184 ?_
  refine x_aload_n (i := 0) C dX12_init_187 rfl rfl ?_
  refine x_iconst C dX12_init_188 ?_
  refine x_newarr (at0 := .long) (ty := .long) (q0 := 0) (nn := 5) (a0 := (5, .inr (.inl (fun _ => 0)))) (kd := 2) (a := 25) (b := 6027) C hG rfl acM_long (fun _ => rfl) (fun _ => rfl) rfl (by decide) rfl (nle rfl) (nle rfl) (rbX_S 25 shM rfl rfl (by decide +kernel)) rfl rfl (by rw [eK.k]) (by rw [eN.k]) (nle rfl) (nle rfl) dX12_init_189 (fun q c C => ?_)
  refine Wx_PH (fun H h => PX_num (k := 25) SB_dz (fun i => rfl) (fun i => rfl) (fun i => rfl) h) ?_
  show Wx _ _ _ (PX _ (upR (upR (upR (upR (upR (upR (upR (upR (upR (upR (upR (upR (upR (upR (upR (upR (upR (upR (upR (upR (upR (dz 4 (upR (upR (upR (dz 0 x0M) 0 1 (some 1)) 0 2 (some 2)) 0 3 (some 3))) 0 4 (some 4)) 0 5 (some 5)) 0 6 (some 6)) 0 7 (some 7)) 0 8 (some 8)) 0 18 (some 9)) 0 19 (some 10)) 0 28 (some 11)) 0 29 (some 12)) 0 30 (some 13)) 0 35 (some 14)) 0 36 (some 15)) 0 37 (some 16)) 0 38 (some 17)) 0 39 (some 18)) 0 40 (some 19)) 0 41 (some 20)) 0 42 (some 21)) 0 43 (some 22)) 0 44 (some 23)) 0 45 (some 24))) _ _ [.ref 25, .ref 0]
  have hG := hG.k (a := 25) (b := 6027)
  have hI := hI.k (a := 25) (b := 6027)
  have hE := hE.k (a := 25) (b := 6027)
  have had := had_up (q := q) (c := c) had (nle rfl)
  refine x_putF C hI (xkfM_X12_84 rfl rfl) (by first | exact Or.inl ⟨_, rfl⟩ | exact Or.inr ⟨_, rfl⟩) (nlt rfl) rfl dX12_init_191 ?_
  refine x_aload_n (i := 0) C dX12_init_194 rfl rfl ?_
  refine x_sipush C dX12_init_195 (by decide) ?_
  refine x_newarr (at0 := .int) (ty := .int) (q0 := 0) (nn := 180) (a0 := (180, .inl (fun _ => 0))) (kd := 1) (a := 26) (b := 6207) C hG rfl acM_int (fun _ => rfl) (fun _ => rfl) rfl (by decide) rfl (nle rfl) (nle rfl) (rbX_S 26 shM rfl rfl (by decide +kernel)) rfl rfl (by rw [eK.k]) (by rw [eN.k]) (nle rfl) (nle rfl) dX12_init_198 (fun q c C => ?_)
  refine Wx_PH (fun H h => PX_num (k := 26) SB_dz (fun i => rfl) (fun i => rfl) (fun i => rfl) h) ?_
  show Wx _ _ _ (PX _ (upR (upR (upR (upR (upR (upR (upR (upR (upR (upR (upR (upR (upR (upR (upR (upR (upR (upR (upR (upR (upR (upR (dz 4 (upR (upR (upR (dz 0 x0M) 0 1 (some 1)) 0 2 (some 2)) 0 3 (some 3))) 0 4 (some 4)) 0 5 (some 5)) 0 6 (some 6)) 0 7 (some 7)) 0 8 (some 8)) 0 18 (some 9)) 0 19 (some 10)) 0 28 (some 11)) 0 29 (some 12)) 0 30 (some 13)) 0 35 (some 14)) 0 36 (some 15)) 0 37 (some 16)) 0 38 (some 17)) 0 39 (some 18)) 0 40 (some 19)) 0 41 (some 20)) 0 42 (some 21)) 0 43 (some 22)) 0 44 (some 23)) 0 45 (some 24)) 0 46 (some 25))) _ _ [.ref 26, .ref 0]
  have hG := hG.k (a := 26) (b := 6207)
  have hI := hI.k (a := 26) (b := 6207)
  have hE := hE.k (a := 26) (b := 6207)
  have had := had_up (q := q) (c := c) had (nle rfl)
  refine x_putF C hI (xkfM_X12_87 rfl rfl) (by first | exact Or.inl ⟨_, rfl⟩ | exact Or.inr ⟨_, rfl⟩) (nlt rfl) rfl dX12_init_200 ?_
  refine x_aload_n (i := 0) C dX12_init_203 rfl rfl ?_
  refine x_sipush C dX12_init_204 (by decide) ?_
  refine x_newarr (at0 := .int) (ty := .int) (q0 := 0) (nn := 180) (a0 := (180, .inl (fun _ => 0))) (kd := 1) (a := 27) (b := 6387) C hG rfl acM_int (fun _ => rfl) (fun _ => rfl) rfl (by decide) rfl (nle rfl) (nle rfl) (rbX_S 27 shM rfl rfl (by decide +kernel)) rfl rfl (by rw [eK.k]) (by rw [eN.k]) (nle rfl) (nle rfl) dX12_init_207 (fun q c C => ?_)
  refine Wx_PH (fun H h => PX_num (k := 27) SB_dz (fun i => rfl) (fun i => rfl) (fun i => rfl) h) ?_
  show Wx _ _ _ (PX _ (upR (upR (upR (upR (upR (upR (upR (upR (upR (upR (upR (upR (upR (upR (upR (upR (upR (upR (upR (upR (upR (upR (upR (dz 4 (upR (upR (upR (dz 0 x0M) 0 1 (some 1)) 0 2 (some 2)) 0 3 (some 3))) 0 4 (some 4)) 0 5 (some 5)) 0 6 (some 6)) 0 7 (some 7)) 0 8 (some 8)) 0 18 (some 9)) 0 19 (some 10)) 0 28 (some 11)) 0 29 (some 12)) 0 30 (some 13)) 0 35 (some 14)) 0 36 (some 15)) 0 37 (some 16)) 0 38 (some 17)) 0 39 (some 18)) 0 40 (some 19)) 0 41 (some 20)) 0 42 (some 21)) 0 43 (some 22)) 0 44 (some 23)) 0 45 (some 24)) 0 46 (some 25)) 0 47 (some 26))) _ _ [.ref 27, .ref 0]
  have hG := hG.k (a := 27) (b := 6387)
  have hI := hI.k (a := 27) (b := 6387)
  have hE := hE.k (a := 27) (b := 6387)
  have had := had_up (q := q) (c := c) had (nle rfl)
  refine x_putF C hI (xkfM_X12_90 rfl rfl) (by first | exact Or.inl ⟨_, rfl⟩ | exact Or.inr ⟨_, rfl⟩) (nlt rfl) rfl dX12_init_209 ?_
  refine x_aload_n (i := 0) C dX12_init_212 rfl rfl ?_
  refine x_sipush C dX12_init_213 (by decide) ?_
  refine x_newarr (at0 := .int) (ty := .int) (q0 := 0) (nn := 180) (a0 := (180, .inl (fun _ => 0))) (kd := 1) (a := 28) (b := 6567) C hG rfl acM_int (fun _ => rfl) (fun _ => rfl) rfl (by decide) rfl (nle rfl) (nle rfl) (rbX_S 28 shM rfl rfl (by decide +kernel)) rfl rfl (by rw [eK.k]) (by rw [eN.k]) (nle rfl) (nle rfl) dX12_init_216 (fun q c C => ?_)
  refine Wx_PH (fun H h => PX_num (k := 28) SB_dz (fun i => rfl) (fun i => rfl) (fun i => rfl) h) ?_
  show Wx _ _ _ (PX _ (upR (upR (upR (upR (upR (upR (upR (upR (upR (upR (upR (upR (upR (upR (upR (upR (upR (upR (upR (upR (upR (upR (upR (upR (dz 4 (upR (upR (upR (dz 0 x0M) 0 1 (some 1)) 0 2 (some 2)) 0 3 (some 3))) 0 4 (some 4)) 0 5 (some 5)) 0 6 (some 6)) 0 7 (some 7)) 0 8 (some 8)) 0 18 (some 9)) 0 19 (some 10)) 0 28 (some 11)) 0 29 (some 12)) 0 30 (some 13)) 0 35 (some 14)) 0 36 (some 15)) 0 37 (some 16)) 0 38 (some 17)) 0 39 (some 18)) 0 40 (some 19)) 0 41 (some 20)) 0 42 (some 21)) 0 43 (some 22)) 0 44 (some 23)) 0 45 (some 24)) 0 46 (some 25)) 0 47 (some 26)) 0 48 (some 27))) _ _ [.ref 28, .ref 0]
  have hG := hG.k (a := 28) (b := 6567)
  have hI := hI.k (a := 28) (b := 6567)
  have hE := hE.k (a := 28) (b := 6567)
  have had := had_up (q := q) (c := c) had (nle rfl)
  refine x_putF C hI (xkfM_X12_93 rfl rfl) (by first | exact Or.inl ⟨_, rfl⟩ | exact Or.inr ⟨_, rfl⟩) (nlt rfl) rfl dX12_init_218 ?_
  refine x_aload_n (i := 0) C dX12_init_221 rfl rfl ?_
  refine x_sipush C dX12_init_222 (by decide) ?_
  refine x_newarr (at0 := .int) (ty := .int) (q0 := 0) (nn := 180) (a0 := (180, .inl (fun _ => 0))) (kd := 1) (a := 29) (b := 6747) C hG rfl acM_int (fun _ => rfl) (fun _ => rfl) rfl (by decide) rfl (nle rfl) (nle rfl) (rbX_S 29 shM rfl rfl (by decide +kernel)) rfl rfl (by rw [eK.k]) (by rw [eN.k]) (nle rfl) (nle rfl) dX12_init_225 (fun q c C => ?_)
  refine Wx_PH (fun H h => PX_num (k := 29) SB_dz (fun i => rfl) (fun i => rfl) (fun i => rfl) h) ?_
  show Wx _ _ _ (PX _ (upR (upR (upR (upR (upR (upR (upR (upR (upR (upR (upR (upR (upR (upR (upR (upR (upR (upR (upR (upR (upR (upR (upR (upR (upR (dz 4 (upR (upR (upR (dz 0 x0M) 0 1 (some 1)) 0 2 (some 2)) 0 3 (some 3))) 0 4 (some 4)) 0 5 (some 5)) 0 6 (some 6)) 0 7 (some 7)) 0 8 (some 8)) 0 18 (some 9)) 0 19 (some 10)) 0 28 (some 11)) 0 29 (some 12)) 0 30 (some 13)) 0 35 (some 14)) 0 36 (some 15)) 0 37 (some 16)) 0 38 (some 17)) 0 39 (some 18)) 0 40 (some 19)) 0 41 (some 20)) 0 42 (some 21)) 0 43 (some 22)) 0 44 (some 23)) 0 45 (some 24)) 0 46 (some 25)) 0 47 (some 26)) 0 48 (some 27)) 0 49 (some 28))) _ _ [.ref 29, .ref 0]
  have hG := hG.k (a := 29) (b := 6747)
  have hI := hI.k (a := 29) (b := 6747)
  have hE := hE.k (a := 29) (b := 6747)
  have had := had_up (q := q) (c := c) had (nle rfl)
  refine x_putF C hI (xkfM_X12_96 rfl rfl) (by first | exact Or.inl ⟨_, rfl⟩ | exact Or.inr ⟨_, rfl⟩) (nlt rfl) rfl dX12_init_227 ?_
  refine x_aload_n (i := 0) C dX12_init_230 rfl rfl ?_
  refine x_sipush C dX12_init_231 (by decide) ?_
  refine x_newarr (at0 := .int) (ty := .int) (q0 := 0) (nn := 180) (a0 := (180, .inl (fun _ => 0))) (kd := 1) (a := 30) (b := 6927) C hG rfl acM_int (fun _ => rfl) (fun _ => rfl) rfl (by decide) rfl (nle rfl) (nle rfl) (rbX_S 30 shM rfl rfl (by decide +kernel)) rfl rfl (by rw [eK.k]) (by rw [eN.k]) (nle rfl) (nle rfl) dX12_init_234 (fun q c C => ?_)
  refine Wx_PH (fun H h => PX_num (k := 30) SB_dz (fun i => rfl) (fun i => rfl) (fun i => rfl) h) ?_
  show Wx _ _ _ (PX _ (upR (upR (upR (upR (upR (upR (upR (upR (upR (upR (upR (upR (upR (upR (upR (upR (upR (upR (upR (upR (upR (upR (upR (upR (upR (upR (dz 4 (upR (upR (upR (dz 0 x0M) 0 1 (some 1)) 0 2 (some 2)) 0 3 (some 3))) 0 4 (some 4)) 0 5 (some 5)) 0 6 (some 6)) 0 7 (some 7)) 0 8 (some 8)) 0 18 (some 9)) 0 19 (some 10)) 0 28 (some 11)) 0 29 (some 12)) 0 30 (some 13)) 0 35 (some 14)) 0 36 (some 15)) 0 37 (some 16)) 0 38 (some 17)) 0 39 (some 18)) 0 40 (some 19)) 0 41 (some 20)) 0 42 (some 21)) 0 43 (some 22)) 0 44 (some 23)) 0 45 (some 24)) 0 46 (some 25)) 0 47 (some 26)) 0 48 (some 27)) 0 49 (some 28)) 0 50 (some 29))) _ _ [.ref 30, .ref 0]
  have hG := hG.k (a := 30) (b := 6927)
  have hI := hI.k (a := 30) (b := 6927)
  have hE := hE.k (a := 30) (b := 6927)
  have had := had_up (q := q) (c := c) had (nle rfl)
  refine x_putF C hI (xkfM_X12_99 rfl rfl) (by first | exact Or.inl ⟨_, rfl⟩ | exact Or.inr ⟨_, rfl⟩) (nlt rfl) rfl dX12_init_236 ?_
  refine x_aload_n (i := 0) C dX12_init_239 rfl rfl ?_
  refine x_sipush C dX12_init_240 (by decide) ?_
  refine x_newarr (at0 := .int) (ty := .int) (q0 := 0) (nn := 180) (a0 := (180, .inl (fun _ => 0))) (kd := 1) (a := 31) (b := 7107) C hG rfl acM_int (fun _ => rfl) (fun _ => rfl) rfl (by decide) rfl (nle rfl) (nle rfl) (rbX_S 31 shM rfl rfl (by decide +kernel)) rfl rfl (by rw [eK.k]) (by rw [eN.k]) (nle rfl) (nle rfl) dX12_init_243 (fun q c C => ?_)
  refine Wx_PH (fun H h => PX_num (k := 31) SB_dz (fun i => rfl) (fun i => rfl) (fun i => rfl) h) ?_
  show Wx _ _ _ (PX _ (upR (upR (upR (upR (upR (upR (upR (upR (upR (upR (upR (upR (upR (upR (upR (upR (upR (upR (upR (upR (upR (upR (upR (upR (upR (upR (upR (dz 4 (upR (upR (upR (dz 0 x0M) 0 1 (some 1)) 0 2 (some 2)) 0 3 (some 3))) 0 4 (some 4)) 0 5 (some 5)) 0 6 (some 6)) 0 7 (some 7)) 0 8 (some 8)) 0 18 (some 9)) 0 19 (some 10)) 0 28 (some 11)) 0 29 (some 12)) 0 30 (some 13)) 0 35 (some 14)) 0 36 (some 15)) 0 37 (some 16)) 0 38 (some 17)) 0 39 (some 18)) 0 40 (some 19)) 0 41 (some 20)) 0 42 (some 21)) 0 43 (some 22)) 0 44 (some 23)) 0 45 (some 24)) 0 46 (some 25)) 0 47 (some 26)) 0 48 (some 27)) 0 49 (some 28)) 0 50 (some 29)) 0 51 (some 30))) _ _ [.ref 31, .ref 0]
  have hG := hG.k (a := 31) (b := 7107)
  have hI := hI.k (a := 31) (b := 7107)
  have hE := hE.k (a := 31) (b := 7107)
  have had := had_up (q := q) (c := c) had (nle rfl)
  refine x_putF C hI (xkfM_X12_102 rfl rfl) (by first | exact Or.inl ⟨_, rfl⟩ | exact Or.inr ⟨_, rfl⟩) (nlt rfl) rfl dX12_init_245 ?_
  refine x_aload_n (i := 0) C dX12_init_248 rfl rfl ?_
  refine x_sipush C dX12_init_249 (by decide) ?_
  refine x_newarr (at0 := .long) (ty := .long) (q0 := 0) (nn := 180) (a0 := (180, .inr (.inl (fun _ => 0)))) (kd := 2) (a := 32) (b := 7287) C hG rfl acM_long (fun _ => rfl) (fun _ => rfl) rfl (by decide) rfl (nle rfl) (nle rfl) (rbX_S 32 shM rfl rfl (by decide +kernel)) rfl rfl (by rw [eK.k]) (by rw [eN.k]) (nle rfl) (nle rfl) dX12_init_252 (fun q c C => ?_)
  refine Wx_PH (fun H h => PX_num (k := 32) SB_dz (fun i => rfl) (fun i => rfl) (fun i => rfl) h) ?_
  show Wx _ _ _ (PX _ (upR (upR (upR (upR (upR (upR (upR (upR (upR (upR (upR (upR (upR (upR (upR (upR (upR (upR (upR (upR (upR (upR (upR (upR (upR (upR (upR (upR (dz 4 (upR (upR (upR (dz 0 x0M) 0 1 (some 1)) 0 2 (some 2)) 0 3 (some 3))) 0 4 (some 4)) 0 5 (some 5)) 0 6 (some 6)) 0 7 (some 7)) 0 8 (some 8)) 0 18 (some 9)) 0 19 (some 10)) 0 28 (some 11)) 0 29 (some 12)) 0 30 (some 13)) 0 35 (some 14)) 0 36 (some 15)) 0 37 (some 16)) 0 38 (some 17)) 0 39 (some 18)) 0 40 (some 19)) 0 41 (some 20)) 0 42 (some 21)) 0 43 (some 22)) 0 44 (some 23)) 0 45 (some 24)) 0 46 (some 25)) 0 47 (some 26)) 0 48 (some 27)) 0 49 (some 28)) 0 50 (some 29)) 0 51 (some 30)) 0 52 (some 31))) _ _ [.ref 32, .ref 0]
  have hG := hG.k (a := 32) (b := 7287)
  have hI := hI.k (a := 32) (b := 7287)
  have hE := hE.k (a := 32) (b := 7287)
  have had := had_up (q := q) (c := c) had (nle rfl)
  refine x_putF C hI (xkfM_X12_105 rfl rfl) (by first | exact Or.inl ⟨_, rfl⟩ | exact Or.inr ⟨_, rfl⟩) (nlt rfl) rfl dX12_init_254 ?_
  refine x_aload_n (i := 0) C dX12_init_257 rfl rfl ?_
  refine x_sipush C dX12_init_258 (by decide) ?_
  refine x_newarr (at0 := .long) (ty := .long) (q0 := 0) (nn := 180) (a0 := (180, .inr (.inl (fun _ => 0)))) (kd := 2) (a := 33) (b := 7467) C hG rfl acM_long (fun _ => rfl) (fun _ => rfl) rfl (by decide) rfl (nle rfl) (nle rfl) (rbX_S 33 shM rfl rfl (by decide +kernel)) rfl rfl (by rw [eK.k]) (by rw [eN.k]) (nle rfl) (nle rfl) dX12_init_261 (fun q c C => ?_)
  refine Wx_PH (fun H h => PX_num (k := 33) SB_dz (fun i => rfl) (fun i => rfl) (fun i => rfl) h) ?_
  show Wx _ _ _ (PX _ (upR (upR (upR (upR (upR (upR (upR (upR (upR (upR (upR (upR (upR (upR (upR (upR (upR (upR (upR (upR (upR (upR (upR (upR (upR (upR (upR (upR (upR (dz 4 (upR (upR (upR (dz 0 x0M) 0 1 (some 1)) 0 2 (some 2)) 0 3 (some 3))) 0 4 (some 4)) 0 5 (some 5)) 0 6 (some 6)) 0 7 (some 7)) 0 8 (some 8)) 0 18 (some 9)) 0 19 (some 10)) 0 28 (some 11)) 0 29 (some 12)) 0 30 (some 13)) 0 35 (some 14)) 0 36 (some 15)) 0 37 (some 16)) 0 38 (some 17)) 0 39 (some 18)) 0 40 (some 19)) 0 41 (some 20)) 0 42 (some 21)) 0 43 (some 22)) 0 44 (some 23)) 0 45 (some 24)) 0 46 (some 25)) 0 47 (some 26)) 0 48 (some 27)) 0 49 (some 28)) 0 50 (some 29)) 0 51 (some 30)) 0 52 (some 31)) 0 53 (some 32))) _ _ [.ref 33, .ref 0]
  have hG := hG.k (a := 33) (b := 7467)
  have hI := hI.k (a := 33) (b := 7467)
  have hE := hE.k (a := 33) (b := 7467)
  have had := had_up (q := q) (c := c) had (nle rfl)
  refine x_putF C hI (xkfM_X12_108 rfl rfl) (by first | exact Or.inl ⟨_, rfl⟩ | exact Or.inr ⟨_, rfl⟩) (nlt rfl) rfl dX12_init_263 ?_
  refine x_aload_n (i := 0) C dX12_init_266 rfl rfl ?_
  refine x_sipush C dX12_init_267 (by decide) ?_
  refine x_newarr (at0 := .long) (ty := .long) (q0 := 0) (nn := 180) (a0 := (180, .inr (.inl (fun _ => 0)))) (kd := 2) (a := 34) (b := 7647) C hG rfl acM_long (fun _ => rfl) (fun _ => rfl) rfl (by decide) rfl (nle rfl) (nle rfl) (rbX_S 34 shM rfl rfl (by decide +kernel)) rfl rfl (by rw [eK.k]) (by rw [eN.k]) (nle rfl) (nle rfl) dX12_init_270 (fun q c C => ?_)
  refine Wx_PH (fun H h => PX_num (k := 34) SB_dz (fun i => rfl) (fun i => rfl) (fun i => rfl) h) ?_
  show Wx _ _ _ (PX _ (upR (upR (upR (upR (upR (upR (upR (upR (upR (upR (upR (upR (upR (upR (upR (upR (upR (upR (upR (upR (upR (upR (upR (upR (upR (upR (upR (upR (upR (upR (dz 4 (upR (upR (upR (dz 0 x0M) 0 1 (some 1)) 0 2 (some 2)) 0 3 (some 3))) 0 4 (some 4)) 0 5 (some 5)) 0 6 (some 6)) 0 7 (some 7)) 0 8 (some 8)) 0 18 (some 9)) 0 19 (some 10)) 0 28 (some 11)) 0 29 (some 12)) 0 30 (some 13)) 0 35 (some 14)) 0 36 (some 15)) 0 37 (some 16)) 0 38 (some 17)) 0 39 (some 18)) 0 40 (some 19)) 0 41 (some 20)) 0 42 (some 21)) 0 43 (some 22)) 0 44 (some 23)) 0 45 (some 24)) 0 46 (some 25)) 0 47 (some 26)) 0 48 (some 27)) 0 49 (some 28)) 0 50 (some 29)) 0 51 (some 30)) 0 52 (some 31)) 0 53 (some 32)) 0 54 (some 33))) _ _ [.ref 34, .ref 0]
  have hG := hG.k (a := 34) (b := 7647)
  have hI := hI.k (a := 34) (b := 7647)
  have hE := hE.k (a := 34) (b := 7647)
  have had := had_up (q := q) (c := c) had (nle rfl)
  refine x_putF C hI (xkfM_X12_111 rfl rfl) (by first | exact Or.inl ⟨_, rfl⟩ | exact Or.inr ⟨_, rfl⟩) (nlt rfl) rfl dX12_init_272 ?_
  refine x_aload_n (i := 0) C dX12_init_275 rfl rfl ?_
  refine x_bipush C dX12_init_276 (by decide) ?_
  refine x_newarr (at0 := .int) (ty := .int) (q0 := 0) (nn := 36) (a0 := (36, .inl (fun _ => 0))) (kd := 1) (a := 35) (b := 7683) C hG rfl acM_int (fun _ => rfl) (fun _ => rfl) rfl (by decide) rfl (nle rfl) (nle rfl) (rbX_S 35 shM rfl rfl (by decide +kernel)) rfl rfl (by rw [eK.k]) (by rw [eN.k]) (nle rfl) (nle rfl) dX12_init_278 (fun q c C => ?_)
  refine Wx_PH (fun H h => PX_num (k := 35) SB_dz (fun i => rfl) (fun i => rfl) (fun i => rfl) h) ?_
  show Wx _ _ _ (PX _ (upR (upR (upR (upR (upR (upR (upR (upR (upR (upR (upR (upR (upR (upR (upR (upR (upR (upR (upR (upR (upR (upR (upR (upR (upR (upR (upR (upR (upR (upR (upR (dz 4 (upR (upR (upR (dz 0 x0M) 0 1 (some 1)) 0 2 (some 2)) 0 3 (some 3))) 0 4 (some 4)) 0 5 (some 5)) 0 6 (some 6)) 0 7 (some 7)) 0 8 (some 8)) 0 18 (some 9)) 0 19 (some 10)) 0 28 (some 11)) 0 29 (some 12)) 0 30 (some 13)) 0 35 (some 14)) 0 36 (some 15)) 0 37 (some 16)) 0 38 (some 17)) 0 39 (some 18)) 0 40 (some 19)) 0 41 (some 20)) 0 42 (some 21)) 0 43 (some 22)) 0 44 (some 23)) 0 45 (some 24)) 0 46 (some 25)) 0 47 (some 26)) 0 48 (some 27)) 0 49 (some 28)) 0 50 (some 29)) 0 51 (some 30)) 0 52 (some 31)) 0 53 (some 32)) 0 54 (some 33)) 0 55 (some 34))) _ _ [.ref 35, .ref 0]
  have hG := hG.k (a := 35) (b := 7683)
  have hI := hI.k (a := 35) (b := 7683)
  have hE := hE.k (a := 35) (b := 7683)
  have had := had_up (q := q) (c := c) had (nle rfl)
  refine x_putF C hI (xkfM_X12_114 rfl rfl) (by first | exact Or.inl ⟨_, rfl⟩ | exact Or.inr ⟨_, rfl⟩) (nlt rfl) rfl dX12_init_280 ?_
  refine x_aload_n (i := 0) C dX12_init_283 rfl rfl ?_
  refine x_bipush C dX12_init_284 (by decide) ?_
  refine x_newarr (at0 := .int) (ty := .int) (q0 := 0) (nn := 36) (a0 := (36, .inl (fun _ => 0))) (kd := 1) (a := 36) (b := 7719) C hG rfl acM_int (fun _ => rfl) (fun _ => rfl) rfl (by decide) rfl (nle rfl) (nle rfl) (rbX_S 36 shM rfl rfl (by decide +kernel)) rfl rfl (by rw [eK.k]) (by rw [eN.k]) (nle rfl) (nle rfl) dX12_init_286 (fun q c C => ?_)
  refine Wx_PH (fun H h => PX_num (k := 36) SB_dz (fun i => rfl) (fun i => rfl) (fun i => rfl) h) ?_
  show Wx _ _ _ (PX _ (upR (upR (upR (upR (upR (upR (upR (upR (upR (upR (upR (upR (upR (upR (upR (upR (upR (upR (upR (upR (upR (upR (upR (upR (upR (upR (upR (upR (upR (upR (upR (upR (dz 4 (upR (upR (upR (dz 0 x0M) 0 1 (some 1)) 0 2 (some 2)) 0 3 (some 3))) 0 4 (some 4)) 0 5 (some 5)) 0 6 (some 6)) 0 7 (some 7)) 0 8 (some 8)) 0 18 (some 9)) 0 19 (some 10)) 0 28 (some 11)) 0 29 (some 12)) 0 30 (some 13)) 0 35 (some 14)) 0 36 (some 15)) 0 37 (some 16)) 0 38 (some 17)) 0 39 (some 18)) 0 40 (some 19)) 0 41 (some 20)) 0 42 (some 21)) 0 43 (some 22)) 0 44 (some 23)) 0 45 (some 24)) 0 46 (some 25)) 0 47 (some 26)) 0 48 (some 27)) 0 49 (some 28)) 0 50 (some 29)) 0 51 (some 30)) 0 52 (some 31)) 0 53 (some 32)) 0 54 (some 33)) 0 55 (some 34)) 0 56 (some 35))) _ _ [.ref 36, .ref 0]
  have hG := hG.k (a := 36) (b := 7719)
  have hI := hI.k (a := 36) (b := 7719)
  have hE := hE.k (a := 36) (b := 7719)
  have had := had_up (q := q) (c := c) had (nle rfl)
  refine x_putF C hI (xkfM_X12_117 rfl rfl) (by first | exact Or.inl ⟨_, rfl⟩ | exact Or.inr ⟨_, rfl⟩) (nlt rfl) rfl dX12_init_288 ?_
  refine x_aload_n (i := 0) C dX12_init_291 rfl rfl ?_
  refine x_bipush C dX12_init_292 (by decide) ?_
  refine x_newarr (at0 := .long) (ty := .long) (q0 := 0) (nn := 36) (a0 := (36, .inr (.inl (fun _ => 0)))) (kd := 2) (a := 37) (b := 7755) C hG rfl acM_long (fun _ => rfl) (fun _ => rfl) rfl (by decide) rfl (nle rfl) (nle rfl) (rbX_S 37 shM rfl rfl (by decide +kernel)) rfl rfl (by rw [eK.k]) (by rw [eN.k]) (nle rfl) (nle rfl) dX12_init_294 (fun q c C => ?_)
  refine Wx_PH (fun H h => PX_num (k := 37) SB_dz (fun i => rfl) (fun i => rfl) (fun i => rfl) h) ?_
  show Wx _ _ _ (PX _ (upR (upR (upR (upR (upR (upR (upR (upR (upR (upR (upR (upR (upR (upR (upR (upR (upR (upR (upR (upR (upR (upR (upR (upR (upR (upR (upR (upR (upR (upR (upR (upR (upR (dz 4 (upR (upR (upR (dz 0 x0M) 0 1 (some 1)) 0 2 (some 2)) 0 3 (some 3))) 0 4 (some 4)) 0 5 (some 5)) 0 6 (some 6)) 0 7 (some 7)) 0 8 (some 8)) 0 18 (some 9)) 0 19 (some 10)) 0 28 (some 11)) 0 29 (some 12)) 0 30 (some 13)) 0 35 (some 14)) 0 36 (some 15)) 0 37 (some 16)) 0 38 (some 17)) 0 39 (some 18)) 0 40 (some 19)) 0 41 (some 20)) 0 42 (some 21)) 0 43 (some 22)) 0 44 (some 23)) 0 45 (some 24)) 0 46 (some 25)) 0 47 (some 26)) 0 48 (some 27)) 0 49 (some 28)) 0 50 (some 29)) 0 51 (some 30)) 0 52 (some 31)) 0 53 (some 32)) 0 54 (some 33)) 0 55 (some 34)) 0 56 (some 35)) 0 57 (some 36))) _ _ [.ref 37, .ref 0]
  have hG := hG.k (a := 37) (b := 7755)
  have hI := hI.k (a := 37) (b := 7755)
  have hE := hE.k (a := 37) (b := 7755)
  have had := had_up (q := q) (c := c) had (nle rfl)
  refine x_putF C hI (xkfM_X12_120 rfl rfl) (by first | exact Or.inl ⟨_, rfl⟩ | exact Or.inr ⟨_, rfl⟩) (nlt rfl) rfl dX12_init_296 ?_
  refine x_aload_n (i := 0) C dX12_init_299 rfl rfl ?_
  refine x_bipush C dX12_init_300 (by decide) ?_
  refine x_newarr (at0 := .boolean) (ty := .boolean) (q0 := 0) (nn := 6) (a0 := (6, .inl (fun _ => 0))) (kd := 1) (a := 38) (b := 7761) C hG rfl acM_boolean (fun _ => rfl) (fun _ => rfl) rfl (by decide) rfl (nle rfl) (nle rfl) (rbX_S 38 shM rfl rfl (by decide +kernel)) rfl rfl (by rw [eK.k]) (by rw [eN.k]) (nle rfl) (nle rfl) dX12_init_302 (fun q c C => ?_)
  refine Wx_PH (fun H h => PX_num (k := 38) SB_dz (fun i => rfl) (fun i => rfl) (fun i => rfl) h) ?_
  show Wx _ _ _ (PX _ (upR (upR (upR (upR (upR (upR (upR (upR (upR (upR (upR (upR (upR (upR (upR (upR (upR (upR (upR (upR (upR (upR (upR (upR (upR (upR (upR (upR (upR (upR (upR (upR (upR (upR (dz 4 (upR (upR (upR (dz 0 x0M) 0 1 (some 1)) 0 2 (some 2)) 0 3 (some 3))) 0 4 (some 4)) 0 5 (some 5)) 0 6 (some 6)) 0 7 (some 7)) 0 8 (some 8)) 0 18 (some 9)) 0 19 (some 10)) 0 28 (some 11)) 0 29 (some 12)) 0 30 (some 13)) 0 35 (some 14)) 0 36 (some 15)) 0 37 (some 16)) 0 38 (some 17)) 0 39 (some 18)) 0 40 (some 19)) 0 41 (some 20)) 0 42 (some 21)) 0 43 (some 22)) 0 44 (some 23)) 0 45 (some 24)) 0 46 (some 25)) 0 47 (some 26)) 0 48 (some 27)) 0 49 (some 28)) 0 50 (some 29)) 0 51 (some 30)) 0 52 (some 31)) 0 53 (some 32)) 0 54 (some 33)) 0 55 (some 34)) 0 56 (some 35)) 0 57 (some 36)) 0 58 (some 37))) _ _ [.ref 38, .ref 0]
  have hG := hG.k (a := 38) (b := 7761)
  have hI := hI.k (a := 38) (b := 7761)
  have hE := hE.k (a := 38) (b := 7761)
  have had := had_up (q := q) (c := c) had (nle rfl)
  refine x_putF C hI (xkfM_X12_123 rfl rfl) (by first | exact Or.inl ⟨_, rfl⟩ | exact Or.inr ⟨_, rfl⟩) (nlt rfl) rfl dX12_init_304 ?_
  refine x_aload_n (i := 0) C dX12_init_307 rfl rfl ?_
  refine x_bipush C dX12_init_308 (by decide) ?_
  refine x_newarr (at0 := .long) (ty := .long) (q0 := 0) (nn := 36) (a0 := (36, .inr (.inl (fun _ => 0)))) (kd := 2) (a := 39) (b := 7797) C hG rfl acM_long (fun _ => rfl) (fun _ => rfl) rfl (by decide) rfl (nle rfl) (nle rfl) (rbX_S 39 shM rfl rfl (by decide +kernel)) rfl rfl (by rw [eK.k]) (by rw [eN.k]) (nle rfl) (nle rfl) dX12_init_310 (fun q c C => ?_)
  refine Wx_PH (fun H h => PX_num (k := 39) SB_dz (fun i => rfl) (fun i => rfl) (fun i => rfl) h) ?_
  show Wx _ _ _ (PX _ (upR (upR (upR (upR (upR (upR (upR (upR (upR (upR (upR (upR (upR (upR (upR (upR (upR (upR (upR (upR (upR (upR (upR (upR (upR (upR (upR (upR (upR (upR (upR (upR (upR (upR (upR (dz 4 (upR (upR (upR (dz 0 x0M) 0 1 (some 1)) 0 2 (some 2)) 0 3 (some 3))) 0 4 (some 4)) 0 5 (some 5)) 0 6 (some 6)) 0 7 (some 7)) 0 8 (some 8)) 0 18 (some 9)) 0 19 (some 10)) 0 28 (some 11)) 0 29 (some 12)) 0 30 (some 13)) 0 35 (some 14)) 0 36 (some 15)) 0 37 (some 16)) 0 38 (some 17)) 0 39 (some 18)) 0 40 (some 19)) 0 41 (some 20)) 0 42 (some 21)) 0 43 (some 22)) 0 44 (some 23)) 0 45 (some 24)) 0 46 (some 25)) 0 47 (some 26)) 0 48 (some 27)) 0 49 (some 28)) 0 50 (some 29)) 0 51 (some 30)) 0 52 (some 31)) 0 53 (some 32)) 0 54 (some 33)) 0 55 (some 34)) 0 56 (some 35)) 0 57 (some 36)) 0 58 (some 37)) 0 61 (some 38))) _ _ [.ref 39, .ref 0]
  have hG := hG.k (a := 39) (b := 7797)
  have hI := hI.k (a := 39) (b := 7797)
  have hE := hE.k (a := 39) (b := 7797)
  have had := had_up (q := q) (c := c) had (nle rfl)
  refine x_putF C hI (xkfM_X12_127 rfl rfl) (by first | exact Or.inl ⟨_, rfl⟩ | exact Or.inr ⟨_, rfl⟩) (nlt rfl) rfl dX12_init_312 ?_
  refine x_aload_n (i := 0) C dX12_init_315 rfl rfl ?_
  refine x_sipush C dX12_init_316 (by decide) ?_
  refine x_newarr (at0 := .long) (ty := .long) (q0 := 0) (nn := 16384) (a0 := (16384, .inr (.inl (fun _ => 0)))) (kd := 2) (a := 40) (b := 24181) C hG rfl acM_long (fun _ => rfl) (fun _ => rfl) rfl (by decide) rfl (nle rfl) (nle rfl) (rbX_S 40 shM rfl rfl (by decide +kernel)) rfl rfl (by rw [eK.k]) (by rw [eN.k]) (nle rfl) (nle rfl) dX12_init_319 (fun q c C => ?_)
  refine Wx_PH (fun H h => PX_num (k := 40) SB_dz (fun i => rfl) (fun i => rfl) (fun i => rfl) h) ?_
  show Wx _ _ _ (PX _ (upR (upR (upR (upR (upR (upR (upR (upR (upR (upR (upR (upR (upR (upR (upR (upR (upR (upR (upR (upR (upR (upR (upR (upR (upR (upR (upR (upR (upR (upR (upR (upR (upR (upR (upR (upR (dz 4 (upR (upR (upR (dz 0 x0M) 0 1 (some 1)) 0 2 (some 2)) 0 3 (some 3))) 0 4 (some 4)) 0 5 (some 5)) 0 6 (some 6)) 0 7 (some 7)) 0 8 (some 8)) 0 18 (some 9)) 0 19 (some 10)) 0 28 (some 11)) 0 29 (some 12)) 0 30 (some 13)) 0 35 (some 14)) 0 36 (some 15)) 0 37 (some 16)) 0 38 (some 17)) 0 39 (some 18)) 0 40 (some 19)) 0 41 (some 20)) 0 42 (some 21)) 0 43 (some 22)) 0 44 (some 23)) 0 45 (some 24)) 0 46 (some 25)) 0 47 (some 26)) 0 48 (some 27)) 0 49 (some 28)) 0 50 (some 29)) 0 51 (some 30)) 0 52 (some 31)) 0 53 (some 32)) 0 54 (some 33)) 0 55 (some 34)) 0 56 (some 35)) 0 57 (some 36)) 0 58 (some 37)) 0 61 (some 38)) 0 62 (some 39))) _ _ [.ref 40, .ref 0]
  have hG := hG.k (a := 40) (b := 24181)
  have hI := hI.k (a := 40) (b := 24181)
  have hE := hE.k (a := 40) (b := 24181)
  have had := had_up (q := q) (c := c) had (nle rfl)
  refine x_putF C hI (xkfM_X12_130 rfl rfl) (by first | exact Or.inl ⟨_, rfl⟩ | exact Or.inr ⟨_, rfl⟩) (nlt rfl) rfl dX12_init_321 ?_
  refine x_aload_n (i := 0) C dX12_init_324 rfl rfl ?_
  refine x_sipush C dX12_init_325 (by decide) ?_
  refine x_newarr (at0 := .boolean) (ty := .boolean) (q0 := 0) (nn := 16384) (a0 := (16384, .inl (fun _ => 0))) (kd := 1) (a := 41) (b := 40565) C hG rfl acM_boolean (fun _ => rfl) (fun _ => rfl) rfl (by decide) rfl (nle rfl) (nle rfl) (rbX_S 41 shM rfl rfl (by decide +kernel)) rfl rfl (by rw [eK.k]) (by rw [eN.k]) (nle rfl) (nle rfl) dX12_init_328 (fun q c C => ?_)
  refine Wx_PH (fun H h => PX_num (k := 41) SB_dz (fun i => rfl) (fun i => rfl) (fun i => rfl) h) ?_
  show Wx _ _ _ (PX _ (upR (upR (upR (upR (upR (upR (upR (upR (upR (upR (upR (upR (upR (upR (upR (upR (upR (upR (upR (upR (upR (upR (upR (upR (upR (upR (upR (upR (upR (upR (upR (upR (upR (upR (upR (upR (upR (dz 4 (upR (upR (upR (dz 0 x0M) 0 1 (some 1)) 0 2 (some 2)) 0 3 (some 3))) 0 4 (some 4)) 0 5 (some 5)) 0 6 (some 6)) 0 7 (some 7)) 0 8 (some 8)) 0 18 (some 9)) 0 19 (some 10)) 0 28 (some 11)) 0 29 (some 12)) 0 30 (some 13)) 0 35 (some 14)) 0 36 (some 15)) 0 37 (some 16)) 0 38 (some 17)) 0 39 (some 18)) 0 40 (some 19)) 0 41 (some 20)) 0 42 (some 21)) 0 43 (some 22)) 0 44 (some 23)) 0 45 (some 24)) 0 46 (some 25)) 0 47 (some 26)) 0 48 (some 27)) 0 49 (some 28)) 0 50 (some 29)) 0 51 (some 30)) 0 52 (some 31)) 0 53 (some 32)) 0 54 (some 33)) 0 55 (some 34)) 0 56 (some 35)) 0 57 (some 36)) 0 58 (some 37)) 0 61 (some 38)) 0 62 (some 39)) 0 63 (some 40))) _ _ [.ref 41, .ref 0]
  have hG := hG.k (a := 41) (b := 40565)
  have hI := hI.k (a := 41) (b := 40565)
  have hE := hE.k (a := 41) (b := 40565)
  have had := had_up (q := q) (c := c) had (nle rfl)
  refine x_putF C hI (xkfM_X12_133 rfl rfl) (by first | exact Or.inl ⟨_, rfl⟩ | exact Or.inr ⟨_, rfl⟩) (nlt rfl) rfl dX12_init_330 ?_
  refine x_aload_n (i := 0) C dX12_init_333 rfl rfl ?_
  refine x_sipush C dX12_init_334 (by decide) ?_
  refine x_newarr (at0 := .long) (ty := .long) (q0 := 0) (nn := 330) (a0 := (330, .inr (.inl (fun _ => 0)))) (kd := 2) (a := 42) (b := 40895) C hG rfl acM_long (fun _ => rfl) (fun _ => rfl) rfl (by decide) rfl (nle rfl) (nle rfl) (rbX_S 42 shM rfl rfl (by decide +kernel)) rfl rfl (by rw [eK.k]) (by rw [eN.k]) (nle rfl) (nle rfl) dX12_init_337 (fun q c C => ?_)
  refine Wx_PH (fun H h => PX_num (k := 42) SB_dz (fun i => rfl) (fun i => rfl) (fun i => rfl) h) ?_
  show Wx _ _ _ (PX _ (upR (upR (upR (upR (upR (upR (upR (upR (upR (upR (upR (upR (upR (upR (upR (upR (upR (upR (upR (upR (upR (upR (upR (upR (upR (upR (upR (upR (upR (upR (upR (upR (upR (upR (upR (upR (upR (upR (dz 4 (upR (upR (upR (dz 0 x0M) 0 1 (some 1)) 0 2 (some 2)) 0 3 (some 3))) 0 4 (some 4)) 0 5 (some 5)) 0 6 (some 6)) 0 7 (some 7)) 0 8 (some 8)) 0 18 (some 9)) 0 19 (some 10)) 0 28 (some 11)) 0 29 (some 12)) 0 30 (some 13)) 0 35 (some 14)) 0 36 (some 15)) 0 37 (some 16)) 0 38 (some 17)) 0 39 (some 18)) 0 40 (some 19)) 0 41 (some 20)) 0 42 (some 21)) 0 43 (some 22)) 0 44 (some 23)) 0 45 (some 24)) 0 46 (some 25)) 0 47 (some 26)) 0 48 (some 27)) 0 49 (some 28)) 0 50 (some 29)) 0 51 (some 30)) 0 52 (some 31)) 0 53 (some 32)) 0 54 (some 33)) 0 55 (some 34)) 0 56 (some 35)) 0 57 (some 36)) 0 58 (some 37)) 0 61 (some 38)) 0 62 (some 39)) 0 63 (some 40)) 0 64 (some 41))) _ _ [.ref 42, .ref 0]
  have hG := hG.k (a := 42) (b := 40895)
  have hI := hI.k (a := 42) (b := 40895)
  have hE := hE.k (a := 42) (b := 40895)
  have had := had_up (q := q) (c := c) had (nle rfl)
  refine x_putF C hI (xkfM_X12_136 rfl rfl) (by first | exact Or.inl ⟨_, rfl⟩ | exact Or.inr ⟨_, rfl⟩) (nlt rfl) rfl dX12_init_339 ?_
  refine x_aload_n (i := 0) C dX12_init_342 rfl rfl ?_
  refine x_iconst C dX12_init_343 ?_
  refine x_newarr (at0 := .int) (ty := .int) (q0 := 0) (nn := 3) (a0 := (3, .inl (fun _ => 0))) (kd := 1) (a := 43) (b := 40898) C hG rfl acM_int (fun _ => rfl) (fun _ => rfl) rfl (by decide) rfl (nle rfl) (nle rfl) (rbX_S 43 shM rfl rfl (by decide +kernel)) rfl rfl (by rw [eK.k]) (by rw [eN.k]) (nle rfl) (nle rfl) dX12_init_344 (fun q c C => ?_)
  refine Wx_PH (fun H h => PX_num (k := 43) SB_dz (fun i => rfl) (fun i => rfl) (fun i => rfl) h) ?_
  show Wx _ _ _ (PX _ (upR (upR (upR (upR (upR (upR (upR (upR (upR (upR (upR (upR (upR (upR (upR (upR (upR (upR (upR (upR (upR (upR (upR (upR (upR (upR (upR (upR (upR (upR (upR (upR (upR (upR (upR (upR (upR (upR (upR (dz 4 (upR (upR (upR (dz 0 x0M) 0 1 (some 1)) 0 2 (some 2)) 0 3 (some 3))) 0 4 (some 4)) 0 5 (some 5)) 0 6 (some 6)) 0 7 (some 7)) 0 8 (some 8)) 0 18 (some 9)) 0 19 (some 10)) 0 28 (some 11)) 0 29 (some 12)) 0 30 (some 13)) 0 35 (some 14)) 0 36 (some 15)) 0 37 (some 16)) 0 38 (some 17)) 0 39 (some 18)) 0 40 (some 19)) 0 41 (some 20)) 0 42 (some 21)) 0 43 (some 22)) 0 44 (some 23)) 0 45 (some 24)) 0 46 (some 25)) 0 47 (some 26)) 0 48 (some 27)) 0 49 (some 28)) 0 50 (some 29)) 0 51 (some 30)) 0 52 (some 31)) 0 53 (some 32)) 0 54 (some 33)) 0 55 (some 34)) 0 56 (some 35)) 0 57 (some 36)) 0 58 (some 37)) 0 61 (some 38)) 0 62 (some 39)) 0 63 (some 40)) 0 64 (some 41)) 0 67 (some 42))) _ _ [.ref 43, .ref 0]
  have hG := hG.k (a := 43) (b := 40898)
  have hI := hI.k (a := 43) (b := 40898)
  have hE := hE.k (a := 43) (b := 40898)
  have had := had_up (q := q) (c := c) had (nle rfl)
  refine x_putF C hI (xkfM_X12_139 rfl rfl) (by first | exact Or.inl ⟨_, rfl⟩ | exact Or.inr ⟨_, rfl⟩) (nlt rfl) rfl dX12_init_346 ?_
  refine x_aload_n (i := 0) C dX12_init_349 rfl rfl ?_
  refine x_bipush C dX12_init_350 (by decide) ?_
  refine x_newarr (at0 := .int) (ty := .int) (q0 := 0) (nn := 18) (a0 := (18, .inl (fun _ => 0))) (kd := 1) (a := 44) (b := 40916) C hG rfl acM_int (fun _ => rfl) (fun _ => rfl) rfl (by decide) rfl (nle rfl) (nle rfl) (rbX_S 44 shM rfl rfl (by decide +kernel)) rfl rfl (by rw [eK.k]) (by rw [eN.k]) (nle rfl) (nle rfl) dX12_init_352 (fun q c C => ?_)
  refine Wx_PH (fun H h => PX_num (k := 44) SB_dz (fun i => rfl) (fun i => rfl) (fun i => rfl) h) ?_
  show Wx _ _ _ (PX _ (upR (upR (upR (upR (upR (upR (upR (upR (upR (upR (upR (upR (upR (upR (upR (upR (upR (upR (upR (upR (upR (upR (upR (upR (upR (upR (upR (upR (upR (upR (upR (upR (upR (upR (upR (upR (upR (upR (upR (upR (dz 4 (upR (upR (upR (dz 0 x0M) 0 1 (some 1)) 0 2 (some 2)) 0 3 (some 3))) 0 4 (some 4)) 0 5 (some 5)) 0 6 (some 6)) 0 7 (some 7)) 0 8 (some 8)) 0 18 (some 9)) 0 19 (some 10)) 0 28 (some 11)) 0 29 (some 12)) 0 30 (some 13)) 0 35 (some 14)) 0 36 (some 15)) 0 37 (some 16)) 0 38 (some 17)) 0 39 (some 18)) 0 40 (some 19)) 0 41 (some 20)) 0 42 (some 21)) 0 43 (some 22)) 0 44 (some 23)) 0 45 (some 24)) 0 46 (some 25)) 0 47 (some 26)) 0 48 (some 27)) 0 49 (some 28)) 0 50 (some 29)) 0 51 (some 30)) 0 52 (some 31)) 0 53 (some 32)) 0 54 (some 33)) 0 55 (some 34)) 0 56 (some 35)) 0 57 (some 36)) 0 58 (some 37)) 0 61 (some 38)) 0 62 (some 39)) 0 63 (some 40)) 0 64 (some 41)) 0 67 (some 42)) 0 68 (some 43))) _ _ [.ref 44, .ref 0]
  have hG := hG.k (a := 44) (b := 40916)
  have hI := hI.k (a := 44) (b := 40916)
  have hE := hE.k (a := 44) (b := 40916)
  have had := had_up (q := q) (c := c) had (nle rfl)
  refine x_putF C hI (xkfM_X12_142 rfl rfl) (by first | exact Or.inl ⟨_, rfl⟩ | exact Or.inr ⟨_, rfl⟩) (nlt rfl) rfl dX12_init_354 ?_
  refine x_aload_n (i := 0) C dX12_init_357 rfl rfl ?_
  refine x_bipush C dX12_init_358 (by decide) ?_
  refine x_newarr (at0 := .int) (ty := .int) (q0 := 0) (nn := 6) (a0 := (6, .inl (fun _ => 0))) (kd := 1) (a := 45) (b := 40922) C hG rfl acM_int (fun _ => rfl) (fun _ => rfl) rfl (by decide) rfl (nle rfl) (nle rfl) (rbX_S 45 shM rfl rfl (by decide +kernel)) rfl rfl (by rw [eK.k]) (by rw [eN.k]) (nle rfl) (nle rfl) dX12_init_360 (fun q c C => ?_)
  refine Wx_PH (fun H h => PX_num (k := 45) SB_dz (fun i => rfl) (fun i => rfl) (fun i => rfl) h) ?_
  show Wx _ _ _ (PX _ (upR (upR (upR (upR (upR (upR (upR (upR (upR (upR (upR (upR (upR (upR (upR (upR (upR (upR (upR (upR (upR (upR (upR (upR (upR (upR (upR (upR (upR (upR (upR (upR (upR (upR (upR (upR (upR (upR (upR (upR (upR (dz 4 (upR (upR (upR (dz 0 x0M) 0 1 (some 1)) 0 2 (some 2)) 0 3 (some 3))) 0 4 (some 4)) 0 5 (some 5)) 0 6 (some 6)) 0 7 (some 7)) 0 8 (some 8)) 0 18 (some 9)) 0 19 (some 10)) 0 28 (some 11)) 0 29 (some 12)) 0 30 (some 13)) 0 35 (some 14)) 0 36 (some 15)) 0 37 (some 16)) 0 38 (some 17)) 0 39 (some 18)) 0 40 (some 19)) 0 41 (some 20)) 0 42 (some 21)) 0 43 (some 22)) 0 44 (some 23)) 0 45 (some 24)) 0 46 (some 25)) 0 47 (some 26)) 0 48 (some 27)) 0 49 (some 28)) 0 50 (some 29)) 0 51 (some 30)) 0 52 (some 31)) 0 53 (some 32)) 0 54 (some 33)) 0 55 (some 34)) 0 56 (some 35)) 0 57 (some 36)) 0 58 (some 37)) 0 61 (some 38)) 0 62 (some 39)) 0 63 (some 40)) 0 64 (some 41)) 0 67 (some 42)) 0 68 (some 43)) 0 69 (some 44))) _ _ [.ref 45, .ref 0]
  have hG := hG.k (a := 45) (b := 40922)
  have hI := hI.k (a := 45) (b := 40922)
  have hE := hE.k (a := 45) (b := 40922)
  have had := had_up (q := q) (c := c) had (nle rfl)
  refine x_putF C hI (xkfM_X12_145 rfl rfl) (by first | exact Or.inl ⟨_, rfl⟩ | exact Or.inr ⟨_, rfl⟩) (nlt rfl) rfl dX12_init_362 ?_
  refine x_aload_n (i := 0) C dX12_init_365 rfl rfl ?_
  refine x_iconst C dX12_init_366 ?_
  refine x_newarr (at0 := .int) (ty := .int) (q0 := 0) (nn := 3) (a0 := (3, .inl (fun _ => 0))) (kd := 1) (a := 46) (b := 40925) C hG rfl acM_int (fun _ => rfl) (fun _ => rfl) rfl (by decide) rfl (nle rfl) (nle rfl) (rbX_S 46 shM rfl rfl (by decide +kernel)) rfl rfl (by rw [eK.k]) (by rw [eN.k]) (nle rfl) (nle rfl) dX12_init_367 (fun q c C => ?_)
  refine Wx_PH (fun H h => PX_num (k := 46) SB_dz (fun i => rfl) (fun i => rfl) (fun i => rfl) h) ?_
  show Wx _ _ _ (PX _ (upR (upR (upR (upR (upR (upR (upR (upR (upR (upR (upR (upR (upR (upR (upR (upR (upR (upR (upR (upR (upR (upR (upR (upR (upR (upR (upR (upR (upR (upR (upR (upR (upR (upR (upR (upR (upR (upR (upR (upR (upR (upR (dz 4 (upR (upR (upR (dz 0 x0M) 0 1 (some 1)) 0 2 (some 2)) 0 3 (some 3))) 0 4 (some 4)) 0 5 (some 5)) 0 6 (some 6)) 0 7 (some 7)) 0 8 (some 8)) 0 18 (some 9)) 0 19 (some 10)) 0 28 (some 11)) 0 29 (some 12)) 0 30 (some 13)) 0 35 (some 14)) 0 36 (some 15)) 0 37 (some 16)) 0 38 (some 17)) 0 39 (some 18)) 0 40 (some 19)) 0 41 (some 20)) 0 42 (some 21)) 0 43 (some 22)) 0 44 (some 23)) 0 45 (some 24)) 0 46 (some 25)) 0 47 (some 26)) 0 48 (some 27)) 0 49 (some 28)) 0 50 (some 29)) 0 51 (some 30)) 0 52 (some 31)) 0 53 (some 32)) 0 54 (some 33)) 0 55 (some 34)) 0 56 (some 35)) 0 57 (some 36)) 0 58 (some 37)) 0 61 (some 38)) 0 62 (some 39)) 0 63 (some 40)) 0 64 (some 41)) 0 67 (some 42)) 0 68 (some 43)) 0 69 (some 44)) 0 70 (some 45))) _ _ [.ref 46, .ref 0]
  have hG := hG.k (a := 46) (b := 40925)
  have hI := hI.k (a := 46) (b := 40925)
  have hE := hE.k (a := 46) (b := 40925)
  have had := had_up (q := q) (c := c) had (nle rfl)
  refine x_putF C hI (xkfM_X12_148 rfl rfl) (by first | exact Or.inl ⟨_, rfl⟩ | exact Or.inr ⟨_, rfl⟩) (nlt rfl) rfl dX12_init_369 ?_
  refine x_aload_n (i := 0) C dX12_init_372 rfl rfl ?_
  refine x_iconst C dX12_init_373 ?_
  refine x_newarr (at0 := .int) (ty := .int) (q0 := 0) (nn := 3) (a0 := (3, .inl (fun _ => 0))) (kd := 1) (a := 47) (b := 40928) C hG rfl acM_int (fun _ => rfl) (fun _ => rfl) rfl (by decide) rfl (nle rfl) (nle rfl) (rbX_S 47 shM rfl rfl (by decide +kernel)) rfl rfl (by rw [eK.k]) (by rw [eN.k]) (nle rfl) (nle rfl) dX12_init_374 (fun q c C => ?_)
  refine Wx_PH (fun H h => PX_num (k := 47) SB_dz (fun i => rfl) (fun i => rfl) (fun i => rfl) h) ?_
  show Wx _ _ _ (PX _ (upR (upR (upR (upR (upR (upR (upR (upR (upR (upR (upR (upR (upR (upR (upR (upR (upR (upR (upR (upR (upR (upR (upR (upR (upR (upR (upR (upR (upR (upR (upR (upR (upR (upR (upR (upR (upR (upR (upR (upR (upR (upR (upR (dz 4 (upR (upR (upR (dz 0 x0M) 0 1 (some 1)) 0 2 (some 2)) 0 3 (some 3))) 0 4 (some 4)) 0 5 (some 5)) 0 6 (some 6)) 0 7 (some 7)) 0 8 (some 8)) 0 18 (some 9)) 0 19 (some 10)) 0 28 (some 11)) 0 29 (some 12)) 0 30 (some 13)) 0 35 (some 14)) 0 36 (some 15)) 0 37 (some 16)) 0 38 (some 17)) 0 39 (some 18)) 0 40 (some 19)) 0 41 (some 20)) 0 42 (some 21)) 0 43 (some 22)) 0 44 (some 23)) 0 45 (some 24)) 0 46 (some 25)) 0 47 (some 26)) 0 48 (some 27)) 0 49 (some 28)) 0 50 (some 29)) 0 51 (some 30)) 0 52 (some 31)) 0 53 (some 32)) 0 54 (some 33)) 0 55 (some 34)) 0 56 (some 35)) 0 57 (some 36)) 0 58 (some 37)) 0 61 (some 38)) 0 62 (some 39)) 0 63 (some 40)) 0 64 (some 41)) 0 67 (some 42)) 0 68 (some 43)) 0 69 (some 44)) 0 70 (some 45)) 0 71 (some 46))) _ _ [.ref 47, .ref 0]
  have hG := hG.k (a := 47) (b := 40928)
  have hI := hI.k (a := 47) (b := 40928)
  have hE := hE.k (a := 47) (b := 40928)
  have had := had_up (q := q) (c := c) had (nle rfl)
  refine x_putF C hI (xkfM_X12_151 rfl rfl) (by first | exact Or.inl ⟨_, rfl⟩ | exact Or.inr ⟨_, rfl⟩) (nlt rfl) rfl dX12_init_376 ?_
  refine x_aload_n (i := 0) C dX12_init_379 rfl rfl ?_
  refine x_iconst C dX12_init_380 ?_
  refine x_newarr (at0 := .boolean) (ty := .boolean) (q0 := 0) (nn := 3) (a0 := (3, .inl (fun _ => 0))) (kd := 1) (a := 48) (b := 40931) C hG rfl acM_boolean (fun _ => rfl) (fun _ => rfl) rfl (by decide) rfl (nle rfl) (nle rfl) (rbX_S 48 shM rfl rfl (by decide +kernel)) rfl rfl (by rw [eK.k]) (by rw [eN.k]) (nle rfl) (nle rfl) dX12_init_381 (fun q c C => ?_)
  refine Wx_PH (fun H h => PX_num (k := 48) SB_dz (fun i => rfl) (fun i => rfl) (fun i => rfl) h) ?_
  show Wx _ _ _ (PX _ (upR (upR (upR (upR (upR (upR (upR (upR (upR (upR (upR (upR (upR (upR (upR (upR (upR (upR (upR (upR (upR (upR (upR (upR (upR (upR (upR (upR (upR (upR (upR (upR (upR (upR (upR (upR (upR (upR (upR (upR (upR (upR (upR (upR (dz 4 (upR (upR (upR (dz 0 x0M) 0 1 (some 1)) 0 2 (some 2)) 0 3 (some 3))) 0 4 (some 4)) 0 5 (some 5)) 0 6 (some 6)) 0 7 (some 7)) 0 8 (some 8)) 0 18 (some 9)) 0 19 (some 10)) 0 28 (some 11)) 0 29 (some 12)) 0 30 (some 13)) 0 35 (some 14)) 0 36 (some 15)) 0 37 (some 16)) 0 38 (some 17)) 0 39 (some 18)) 0 40 (some 19)) 0 41 (some 20)) 0 42 (some 21)) 0 43 (some 22)) 0 44 (some 23)) 0 45 (some 24)) 0 46 (some 25)) 0 47 (some 26)) 0 48 (some 27)) 0 49 (some 28)) 0 50 (some 29)) 0 51 (some 30)) 0 52 (some 31)) 0 53 (some 32)) 0 54 (some 33)) 0 55 (some 34)) 0 56 (some 35)) 0 57 (some 36)) 0 58 (some 37)) 0 61 (some 38)) 0 62 (some 39)) 0 63 (some 40)) 0 64 (some 41)) 0 67 (some 42)) 0 68 (some 43)) 0 69 (some 44)) 0 70 (some 45)) 0 71 (some 46)) 0 72 (some 47))) _ _ [.ref 48, .ref 0]
  have hG := hG.k (a := 48) (b := 40931)
  have hI := hI.k (a := 48) (b := 40931)
  have hE := hE.k (a := 48) (b := 40931)
  have had := had_up (q := q) (c := c) had (nle rfl)
  refine x_putF C hI (xkfM_X12_154 rfl rfl) (by first | exact Or.inl ⟨_, rfl⟩ | exact Or.inr ⟨_, rfl⟩) (nlt rfl) rfl dX12_init_383 ?_
  refine x_aload_n (i := 0) C dX12_init_386 rfl rfl ?_
  refine x_getRs (r := 4) C (xkgM_X12_20 rfl rfl) (nlt rfl) rfl rfl dX12_init_387 ?_
  refine x_iconst C dX12_init_390 ?_
  refine x_iconst C dX12_init_391 ?_
  refine x_iast C (nlt rfl) rfl rfl (nle rfl) (by omega) (by omega) dX12_init_392 ?_
  refine Wx_PH (fun H h => PX_num (k := 4) (Y := (upR (upR (upR (upR (upR (upR (upR (upR (upR (upR (upR (upR (upR (upR (upR (upR (upR (upR (upR (upR (upR (upR (upR (upR (upR (upR (upR (upR (upR (upR (upR (upR (upR (upR (upR (upR (upR (upR (upR (upR (upR (upR (upR (upR (upR (upR (upR (upR (dz 0 x0M) 0 1 (some 1)) 0 2 (some 2)) 0 3 (some 3)) 0 4 (some 4)) 0 5 (some 5)) 0 6 (some 6)) 0 7 (some 7)) 0 8 (some 8)) 0 18 (some 9)) 0 19 (some 10)) 0 28 (some 11)) 0 29 (some 12)) 0 30 (some 13)) 0 35 (some 14)) 0 36 (some 15)) 0 37 (some 16)) 0 38 (some 17)) 0 39 (some 18)) 0 40 (some 19)) 0 41 (some 20)) 0 42 (some 21)) 0 43 (some 22)) 0 44 (some 23)) 0 45 (some 24)) 0 46 (some 25)) 0 47 (some 26)) 0 48 (some 27)) 0 49 (some 28)) 0 50 (some 29)) 0 51 (some 30)) 0 52 (some 31)) 0 53 (some 32)) 0 54 (some 33)) 0 55 (some 34)) 0 56 (some 35)) 0 57 (some 36)) 0 58 (some 37)) 0 61 (some 38)) 0 62 (some 39)) 0 63 (some 40)) 0 64 (some 41)) 0 67 (some 42)) 0 68 (some 43)) 0 69 (some 44)) 0 70 (some 45)) 0 71 (some 46)) 0 72 (some 47)) 0 74 (some 48))) (SB_upI (SBc_upR (SBc_upR (SBc_upR (SBc_upR (SBc_upR (SBc_upR (SBc_upR (SBc_upR (SBc_upR (SBc_upR (SBc_upR (SBc_upR (SBc_upR (SBc_upR (SBc_upR (SBc_upR (SBc_upR (SBc_upR (SBc_upR (SBc_upR (SBc_upR (SBc_upR (SBc_upR (SBc_upR (SBc_upR (SBc_upR (SBc_upR (SBc_upR (SBc_upR (SBc_upR (SBc_upR (SBc_upR (SBc_upR (SBc_upR (SBc_upR (SBc_upR (SBc_upR (SBc_upR (SBc_upR (SBc_upR (SBc_upR (SBc_upR (SBc_upR (SBc_upR (SBc_upR SB_dz)))))))))))))))))))))))))))))))))))))))))))))) (fun i => rfl) (fun i => rfl) (fun i => rfl) h) ?_
  refine Wx_PH (fun H h => PX_many (Y := x0M) (sh := shM) [0] rfl (SL_upR rfl (SL_upR rfl (SL_upR rfl (SL_upR rfl (SL_upR rfl (SL_upR rfl (SL_upR rfl (SL_upR rfl (SL_upR rfl (SL_upR rfl (SL_upR rfl (SL_upR rfl (SL_upR rfl (SL_upR rfl (SL_upR rfl (SL_upR rfl (SL_upR rfl (SL_upR rfl (SL_upR rfl (SL_upR rfl (SL_upR rfl (SL_upR rfl (SL_upR rfl (SL_upR rfl (SL_upR rfl (SL_upR rfl (SL_upR rfl (SL_upR rfl (SL_upR rfl (SL_upR rfl (SL_upR rfl (SL_upR rfl (SL_upR rfl (SL_upR rfl (SL_upR rfl (SL_upR rfl (SL_upR rfl (SL_upR rfl (SL_upR rfl (SL_upR rfl (SL_upR rfl (SL_upR rfl (SL_upR rfl (SL_upR rfl (SL_upR rfl (SL_upR rfl (SL_upR rfl (SL_upR rfl (SL_dz rfl SL_rf))))))))))))))))))))))))))))))))))))))))))))))))) (by decide +kernel) h) ?_
  exact x_vretG C rfl hE eK.k eN.k had dX12_init_393
