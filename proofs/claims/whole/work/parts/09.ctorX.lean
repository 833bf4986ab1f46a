def cz_X1 : XT := (dz 0 x0X)
def cz_X7 : XT := (upR (dz 6 (upR (upR (dz 4 (upR (upR (upI (dz 1 cz_X1) 1 2 (-1)) 1 3 (some 2)) 1 4 (some 3))) 1 5 (some 4)) 1 6 (some 5))) 1 7 (some 6))
set_option maxHeartbeats 4000000 in
set_option maxRecDepth 100000 in
theorem ct_X7 {D : va_G} : MetG (bX D) yX0_init cX0_init 1 1 30 2 12 [.ref 7] 8 10 (dz 7 cz_X7) cz_X7 := by
  refine MetG.mk (own := RX0) (by decide +kernel) rfl rfl (nle rfl) (fun E ad cA C hG hI hE hk0 hn0 => ?_)
  refine Wx_lv (lv' := [(0, .ref 7)]) rfl ?_
  have had : ∀ k, k < 8 → wA (mkW (bX D) 8 ad cA) k = ad k := fun _ _ => rfl
  refine x_aload_n (i := 0) C dX0_init_0 rfl rfl ?_
  refine x_objInit C oiX0_3.1 oiX0_3.2.1 oiX0_3.2.2 (nle rfl) (nle rfl) dX0_init_1 ?_
  refine x_aload_n (i := 0) C dX0_init_4 rfl rfl ?_
  refine x_bipush C dX0_init_5 (by decide) ?_
  refine x_newarr (at0 := .int) (ty := .int) (q0 := 0) (nn := 6) (a0 := (6, .inl (fun _ => 0))) (kd := 1) (a := 1) (b := 6) C hG rfl acX_int (fun _ => rfl) (fun _ => rfl) rfl (by decide) rfl (nle rfl) (nle rfl) (rbX_S 8 shX rfl rfl (by decide +kernel)) rfl rfl (by rw [hk0]) (by rw [hn0]) (nle rfl) (nle rfl) dX0_init_7 (fun q c C => ?_)
  refine Wx_PH (fun H h => PX_num (k := 8) SB_dz (fun i => rfl) (fun i => rfl) (fun i => rfl) h) ?_
  show Wx _ _ _ (PX _ (dz 7 cz_X7)) _ _ [.ref 8, .ref 7]
  have hG := hG.k (a := 1) (b := 6)
  have hI := hI.k (a := 1) (b := 6)
  have hE := hE.k (a := 1) (b := 6)
  have had := had_up (q := q) (c := c) had (nle rfl)
  refine x_putF C hI (xkfX_X0_9 rfl rfl) (by first | exact Or.inl ⟨_, rfl⟩ | exact Or.inr ⟨_, rfl⟩) (nlt rfl) rfl dX0_init_9 ?_
  refine x_aload_n (i := 0) C dX0_init_12 rfl rfl ?_
  refine x_bipush C dX0_init_13 (by decide) ?_
  refine x_newarr (at0 := .int) (ty := .int) (q0 := 0) (nn := 6) (a0 := (6, .inl (fun _ => 0))) (kd := 1) (a := 2) (b := 12) C hG rfl acX_int (fun _ => rfl) (fun _ => rfl) rfl (by decide) rfl (nle rfl) (nle rfl) (rbX_S 9 shX rfl rfl (by decide +kernel)) rfl rfl (by rw [eK.k]) (by rw [eN.k]) (nle rfl) (nle rfl) dX0_init_15 (fun q c C => ?_)
  refine Wx_PH (fun H h => PX_num (k := 9) SB_dz (fun i => rfl) (fun i => rfl) (fun i => rfl) h) ?_
  show Wx _ _ _ (PX _ (upR (dz 7 cz_X7) 7 5 (some 8))) _ _ [.ref 9, .ref 7]
  have hG := hG.k (a := 2) (b := 12)
  have hI := hI.k (a := 2) (b := 12)
  have hE := hE.k (a := 2) (b := 12)
  have had := had_up (q := q) (c := c) had (nle rfl)
  refine x_putF C hI (xkfX_X0_15 rfl rfl) (by first | exact Or.inl ⟨_, rfl⟩ | exact Or.inr ⟨_, rfl⟩) (nlt rfl) rfl dX0_init_17 ?_
  refine Wx_PH (fun H h => PX_many (Y := cz_X7) (sh := shX) [7] rfl (SL_upR rfl (SL_upR rfl (SL_dz rfl SL_rf))) (by decide +kernel) h) ?_
  exact x_vretG C rfl hE eK.k eN.k had dX0_init_20
def cz_X10 : XT := (upR (upR (dz 6 (upR (upR (dz 4 (upR (upR (upI (dz 1 cz_X1) 1 2 (-1)) 1 3 (some 2)) 1 4 (some 3))) 1 5 (some 4)) 1 6 (some 5))) 1 7 (some 6)) 4 0 (some 7))
set_option maxHeartbeats 4000000 in
set_option maxRecDepth 100000 in
theorem ct_X10 {D : va_G} : MetG (bX D) yX0_init cX0_init 1 1 30 2 12 [.ref 10] 11 13 (dz 10 cz_X10) cz_X10 := by
  refine MetG.mk (own := RX0) (by decide +kernel) rfl rfl (nle rfl) (fun E ad cA C hG hI hE hk0 hn0 => ?_)
  refine Wx_lv (lv' := [(0, .ref 10)]) rfl ?_
  have had : ∀ k, k < 11 → wA (mkW (bX D) 11 ad cA) k = ad k := fun _ _ => rfl
  refine x_aload_n (i := 0) C dX0_init_0 rfl rfl ?_
  refine x_objInit C oiX0_3.1 oiX0_3.2.1 oiX0_3.2.2 (nle rfl) (nle rfl) dX0_init_1 ?_
  refine x_aload_n (i := 0) C dX0_init_4 rfl rfl ?_
  refine x_bipush C dX0_init_5 (by decide) ?_
  refine x_newarr (at0 := .int) (ty := .int) (q0 := 0) (nn := 6) (a0 := (6, .inl (fun _ => 0))) (kd := 1) (a := 1) (b := 6) C hG rfl acX_int (fun _ => rfl) (fun _ => rfl) rfl (by decide) rfl (nle rfl) (nle rfl) (rbX_S 11 shX rfl rfl (by decide +kernel)) rfl rfl (by rw [hk0]) (by rw [hn0]) (nle rfl) (nle rfl) dX0_init_7 (fun q c C => ?_)
  refine Wx_PH (fun H h => PX_num (k := 11) SB_dz (fun i => rfl) (fun i => rfl) (fun i => rfl) h) ?_
  show Wx _ _ _ (PX _ (dz 10 cz_X10)) _ _ [.ref 11, .ref 10]
  have hG := hG.k (a := 1) (b := 6)
  have hI := hI.k (a := 1) (b := 6)
  have hE := hE.k (a := 1) (b := 6)
  have had := had_up (q := q) (c := c) had (nle rfl)
  refine x_putF C hI (xkfX_X0_9 rfl rfl) (by first | exact Or.inl ⟨_, rfl⟩ | exact Or.inr ⟨_, rfl⟩) (nlt rfl) rfl dX0_init_9 ?_
  refine x_aload_n (i := 0) C dX0_init_12 rfl rfl ?_
  refine x_bipush C dX0_init_13 (by decide) ?_
  refine x_newarr (at0 := .int) (ty := .int) (q0 := 0) (nn := 6) (a0 := (6, .inl (fun _ => 0))) (kd := 1) (a := 2) (b := 12) C hG rfl acX_int (fun _ => rfl) (fun _ => rfl) rfl (by decide) rfl (nle rfl) (nle rfl) (rbX_S 12 shX rfl rfl (by decide +kernel)) rfl rfl (by rw [eK.k]) (by rw [eN.k]) (nle rfl) (nle rfl) dX0_init_15 (fun q c C => ?_)
  refine Wx_PH (fun H h => PX_num (k := 12) SB_dz (fun i => rfl) (fun i => rfl) (fun i => rfl) h) ?_
  show Wx _ _ _ (PX _ (upR (dz 10 cz_X10) 10 5 (some 11))) _ _ [.ref 12, .ref 10]
  have hG := hG.k (a := 2) (b := 12)
  have hI := hI.k (a := 2) (b := 12)
  have hE := hE.k (a := 2) (b := 12)
  have had := had_up (q := q) (c := c) had (nle rfl)
  refine x_putF C hI (xkfX_X0_15 rfl rfl) (by first | exact Or.inl ⟨_, rfl⟩ | exact Or.inr ⟨_, rfl⟩) (nlt rfl) rfl dX0_init_17 ?_
  refine Wx_PH (fun H h => PX_many (Y := cz_X10) (sh := shX) [10] rfl (SL_upR rfl (SL_upR rfl (SL_dz rfl SL_rf))) (by decide +kernel) h) ?_
  exact x_vretG C rfl hE eK.k eN.k had dX0_init_20
def cz_X13 : XT := (upR (upR (upR (dz 6 (upR (upR (dz 4 (upR (upR (upI (dz 1 cz_X1) 1 2 (-1)) 1 3 (some 2)) 1 4 (some 3))) 1 5 (some 4)) 1 6 (some 5))) 1 7 (some 6)) 4 0 (some 7)) 4 1 (some 10))
set_option maxHeartbeats 4000000 in
set_option maxRecDepth 100000 in
theorem ct_X13 {D : va_G} : MetG (bX D) yX2_init cX2_init 1 1 30 2 60 [.ref 13] 14 16 (dz 13 cz_X13) cz_X13 := by
  refine MetG.mk (own := RX2) (by decide +kernel) rfl rfl (nle rfl) (fun E ad cA C hG hI hE hk0 hn0 => ?_)
  refine Wx_lv (lv' := [(0, .ref 13)]) rfl ?_
  have had : ∀ k, k < 14 → wA (mkW (bX D) 14 ad cA) k = ad k := fun _ _ => rfl
  refine x_aload_n (i := 0) C dX2_init_0 rfl rfl ?_
  refine x_objInit C oiX2_3.1 oiX2_3.2.1 oiX2_3.2.2 (nle rfl) (nle rfl) dX2_init_1 ?_
  refine x_aload_n (i := 0) C dX2_init_4 rfl rfl ?_
  refine x_bipush C dX2_init_5 (by decide) ?_
  refine x_newarr (at0 := .long) (ty := .long) (q0 := 0) (nn := 30) (a0 := (30, .inr (.inl (fun _ => 0)))) (kd := 2) (a := 1) (b := 30) C hG rfl acX_long (fun _ => rfl) (fun _ => rfl) rfl (by decide) rfl (nle rfl) (nle rfl) (rbX_S 14 shX rfl rfl (by decide +kernel)) rfl rfl (by rw [hk0]) (by rw [hn0]) (nle rfl) (nle rfl) dX2_init_7 (fun q c C => ?_)
  refine Wx_PH (fun H h => PX_num (k := 14) SB_dz (fun i => rfl) (fun i => rfl) (fun i => rfl) h) ?_
  show Wx _ _ _ (PX _ (dz 13 cz_X13)) _ _ [.ref 14, .ref 13]
  have hG := hG.k (a := 1) (b := 30)
  have hI := hI.k (a := 1) (b := 30)
  have hE := hE.k (a := 1) (b := 30)
  have had := had_up (q := q) (c := c) had (nle rfl)
  refine x_putF C hI (xkfX_X2_9 rfl rfl) (by first | exact Or.inl ⟨_, rfl⟩ | exact Or.inr ⟨_, rfl⟩) (nlt rfl) rfl dX2_init_9 ?_
  refine x_aload_n (i := 0) C dX2_init_12 rfl rfl ?_
  refine x_bipush C dX2_init_13 (by decide) ?_
  refine x_newarr (at0 := .int) (ty := .int) (q0 := 0) (nn := 30) (a0 := (30, .inl (fun _ => 0))) (kd := 1) (a := 2) (b := 60) C hG rfl acX_int (fun _ => rfl) (fun _ => rfl) rfl (by decide) rfl (nle rfl) (nle rfl) (rbX_S 15 shX rfl rfl (by decide +kernel)) rfl rfl (by rw [eK.k]) (by rw [eN.k]) (nle rfl) (nle rfl) dX2_init_15 (fun q c C => ?_)
  refine Wx_PH (fun H h => PX_num (k := 15) SB_dz (fun i => rfl) (fun i => rfl) (fun i => rfl) h) ?_
  show Wx _ _ _ (PX _ (upR (dz 13 cz_X13) 13 1 (some 14))) _ _ [.ref 15, .ref 13]
  have hG := hG.k (a := 2) (b := 60)
  have hI := hI.k (a := 2) (b := 60)
  have hE := hE.k (a := 2) (b := 60)
  have had := had_up (q := q) (c := c) had (nle rfl)
  refine x_putF C hI (xkfX_X2_15 rfl rfl) (by first | exact Or.inl ⟨_, rfl⟩ | exact Or.inr ⟨_, rfl⟩) (nlt rfl) rfl dX2_init_17 ?_
  refine Wx_PH (fun H h => PX_many (Y := cz_X13) (sh := shX) [13] rfl (SL_upR rfl (SL_upR rfl (SL_dz rfl SL_rf))) (by decide +kernel) h) ?_
  exact x_vretG C rfl hE eK.k eN.k had dX2_init_20
def cz_X16 : XT := (upR (upR (upR (upR (dz 6 (upR (upR (dz 4 (upR (upR (upI (dz 1 cz_X1) 1 2 (-1)) 1 3 (some 2)) 1 4 (some 3))) 1 5 (some 4)) 1 6 (some 5))) 1 7 (some 6)) 4 0 (some 7)) 4 1 (some 10)) 6 0 (some 13))
set_option maxHeartbeats 4000000 in
set_option maxRecDepth 100000 in
theorem ct_X16 {D : va_G} : MetG (bX D) yX2_init cX2_init 1 1 30 2 60 [.ref 16] 17 19 (dz 16 cz_X16) cz_X16 := by
  refine MetG.mk (own := RX2) (by decide +kernel) rfl rfl (nle rfl) (fun E ad cA C hG hI hE hk0 hn0 => ?_)
  refine Wx_lv (lv' := [(0, .ref 16)]) rfl ?_
  have had : ∀ k, k < 17 → wA (mkW (bX D) 17 ad cA) k = ad k := fun _ _ => rfl
  refine x_aload_n (i := 0) C dX2_init_0 rfl rfl ?_
  refine x_objInit C oiX2_3.1 oiX2_3.2.1 oiX2_3.2.2 (nle rfl) (nle rfl) dX2_init_1 ?_
  refine x_aload_n (i := 0) C dX2_init_4 rfl rfl ?_
  refine x_bipush C dX2_init_5 (by decide) ?_
  refine x_newarr (at0 := .long) (ty := .long) (q0 := 0) (nn := 30) (a0 := (30, .inr (.inl (fun _ => 0)))) (kd := 2) (a := 1) (b := 30) C hG rfl acX_long (fun _ => rfl) (fun _ => rfl) rfl (by decide) rfl (nle rfl) (nle rfl) (rbX_S 17 shX rfl rfl (by decide +kernel)) rfl rfl (by rw [hk0]) (by rw [hn0]) (nle rfl) (nle rfl) dX2_init_7 (fun q c C => ?_)
  refine Wx_PH (fun H h => PX_num (k := 17) SB_dz (fun i => rfl) (fun i => rfl) (fun i => rfl) h) ?_
  show Wx _ _ _ (PX _ (dz 16 cz_X16)) _ _ [.ref 17, .ref 16]
  have hG := hG.k (a := 1) (b := 30)
  have hI := hI.k (a := 1) (b := 30)
  have hE := hE.k (a := 1) (b := 30)
  have had := had_up (q := q) (c := c) had (nle rfl)
  refine x_putF C hI (xkfX_X2_9 rfl rfl) (by first | exact Or.inl ⟨_, rfl⟩ | exact Or.inr ⟨_, rfl⟩) (nlt rfl) rfl dX2_init_9 ?_
  refine x_aload_n (i := 0) C dX2_init_12 rfl rfl ?_
  refine x_bipush C dX2_init_13 (by decide) ?_
  refine x_newarr (at0 := .int) (ty := .int) (q0 := 0) (nn := 30) (a0 := (30, .inl (fun _ => 0))) (kd := 1) (a := 2) (b := 60) C hG rfl acX_int (fun _ => rfl) (fun _ => rfl) rfl (by decide) rfl (nle rfl) (nle rfl) (rbX_S 18 shX rfl rfl (by decide +kernel)) rfl rfl (by rw [eK.k]) (by rw [eN.k]) (nle rfl) (nle rfl) dX2_init_15 (fun q c C => ?_)
  refine Wx_PH (fun H h => PX_num (k := 18) SB_dz (fun i => rfl) (fun i => rfl) (fun i => rfl) h) ?_
  show Wx _ _ _ (PX _ (upR (dz 16 cz_X16) 16 1 (some 17))) _ _ [.ref 18, .ref 16]
  have hG := hG.k (a := 2) (b := 60)
  have hI := hI.k (a := 2) (b := 60)
  have hE := hE.k (a := 2) (b := 60)
  have had := had_up (q := q) (c := c) had (nle rfl)
  refine x_putF C hI (xkfX_X2_15 rfl rfl) (by first | exact Or.inl ⟨_, rfl⟩ | exact Or.inr ⟨_, rfl⟩) (nlt rfl) rfl dX2_init_17 ?_
  refine Wx_PH (fun H h => PX_many (Y := cz_X16) (sh := shX) [16] rfl (SL_upR rfl (SL_upR rfl (SL_dz rfl SL_rf))) (by decide +kernel) h) ?_
  exact x_vretG C rfl hE eK.k eN.k had dX2_init_20
set_option maxHeartbeats 4000000 in
set_option maxRecDepth 100000 in
theorem ct_X1 {D : va_G} : MetG (bX D) yX8_init cX8_init 2 2 50 17 774 [.ref 1] 2 19 (dz 1 cz_X1) cz_X1 := by
  refine MetG.mk (own := RX8) (by decide +kernel) rfl rfl (nle rfl) (fun E ad cA C hG hI hE hk0 hn0 => ?_)
  refine Wx_lv (lv' := [(0, .ref 1)]) rfl ?_
  have had : ∀ k, k < 2 → wA (mkW (bX D) 2 ad cA) k = ad k := fun _ _ => rfl
  refine x_aload_n (i := 0) C dX8_init_0 rfl rfl ?_
  refine x_objInit C oiX8_3.1 oiX8_3.2.1 oiX8_3.2.2 (nle rfl) (nle rfl) dX8_init_1 ?_
  refine x_aload_n (i := 0) C dX8_init_4 rfl rfl ?_
  refine x_iconst C dX8_init_5 ?_
  refine x_putI C (xkpX_X8_9 rfl rfl) (nlt rfl) rfl dX8_init_6 ?_
  refine x_aload_n (i := 0) C dX8_init_9 rfl rfl ?_
  refine x_sipush C dX8_init_10 (by decide) ?_
  refine x_newarr (at0 := .int) (ty := .int) (q0 := 0) (nn := 600) (a0 := (600, .inl (fun _ => 0))) (kd := 1) (a := 1) (b := 600) C hG rfl acX_int (fun _ => rfl) (fun _ => rfl) rfl (by decide) rfl (nle rfl) (nle rfl) (rbX_S 2 shX rfl rfl (by decide +kernel)) rfl rfl (by rw [hk0]) (by rw [hn0]) (nle rfl) (nle rfl) dX8_init_13 (fun q c C => ?_)
  refine Wx_PH (fun H h => PX_num (k := 2) SB_dz (fun i => rfl) (fun i => rfl) (fun i => rfl) h) ?_
  show Wx _ _ _ (PX _ (upI (dz 1 cz_X1) 1 2 (-1))) _ _ [.ref 2, .ref 1]
  have hG := hG.k (a := 1) (b := 600)
  have hI := hI.k (a := 1) (b := 600)
  have hE := hE.k (a := 1) (b := 600)
  have had := had_up (q := q) (c := c) had (nle rfl)
  refine x_putF C hI (xkfX_X8_15 rfl rfl) (by first | exact Or.inl ⟨_, rfl⟩ | exact Or.inr ⟨_, rfl⟩) (nlt rfl) rfl dX8_init_15 ?_
  refine x_aload_n (i := 0) C dX8_init_18 rfl rfl ?_
  refine x_iconst C dX8_init_19 ?_
  refine x_newarr (at0 := .int) (ty := .int) (q0 := 0) (nn := 3) (a0 := (3, .inl (fun _ => 0))) (kd := 1) (a := 2) (b := 603) C hG rfl acX_int (fun _ => rfl) (fun _ => rfl) rfl (by decide) rfl (nle rfl) (nle rfl) (rbX_S 3 shX rfl rfl (by decide +kernel)) rfl rfl (by rw [eK.k]) (by rw [eN.k]) (nle rfl) (nle rfl) dX8_init_20 (fun q c C => ?_)
  refine Wx_PH (fun H h => PX_num (k := 3) SB_dz (fun i => rfl) (fun i => rfl) (fun i => rfl) h) ?_
  show Wx _ _ _ (PX _ (upR (upI (dz 1 cz_X1) 1 2 (-1)) 1 3 (some 2))) _ _ [.ref 3, .ref 1]
  have hG := hG.k (a := 2) (b := 603)
  have hI := hI.k (a := 2) (b := 603)
  have hE := hE.k (a := 2) (b := 603)
  have had := had_up (q := q) (c := c) had (nle rfl)
  refine x_putF C hI (xkfX_X8_19 rfl rfl) (by first | exact Or.inl ⟨_, rfl⟩ | exact Or.inr ⟨_, rfl⟩) (nlt rfl) rfl dX8_init_22 ?_
  refine x_aload_n (i := 0) C dX8_init_25 rfl rfl ?_
  refine x_iconst C dX8_init_26 ?_
  refine x_anew (nn := 2) (a := 3) (b := 605) C hG naX8_22.1 naX8_22.2 rfl rfl (nle rfl) (rbX_S 4 shX rfl rfl (by decide +kernel)) rfl rfl (by rw [eK.k]) (by rw [eN.k]) (nle rfl) (nle rfl) dX8_init_27 (fun q c C => ?_)
  show Wx _ _ _ (PX _ (dz 4 (upR (upR (upI (dz 1 cz_X1) 1 2 (-1)) 1 3 (some 2)) 1 4 (some 3)))) _ _ [.ref 4, .ref 1]
  have hG := hG.k (a := 3) (b := 605)
  have hI := hI.k (a := 3) (b := 605)
  have hE := hE.k (a := 3) (b := 605)
  have had := had_up (q := q) (c := c) had (nle rfl)
  refine x_putF C hI (xkfX_X8_24 rfl rfl) (by first | exact Or.inl ⟨_, rfl⟩ | exact Or.inr ⟨_, rfl⟩) (nlt rfl) rfl dX8_init_30 ?_
  refine x_aload_n (i := 0) C dX8_init_33 rfl rfl ?_
  refine x_iconst C dX8_init_34 ?_
  refine x_newarr (at0 := .long) (ty := .long) (q0 := 0) (nn := 3) (a0 := (3, .inr (.inl (fun _ => 0)))) (kd := 2) (a := 4) (b := 608) C hG rfl acX_long (fun _ => rfl) (fun _ => rfl) rfl (by decide) rfl (nle rfl) (nle rfl) (rbX_S 5 shX rfl rfl (by decide +kernel)) rfl rfl (by rw [eK.k]) (by rw [eN.k]) (nle rfl) (nle rfl) dX8_init_35 (fun q c C => ?_)
  refine Wx_PH (fun H h => PX_num (k := 5) SB_dz (fun i => rfl) (fun i => rfl) (fun i => rfl) h) ?_
  show Wx _ _ _ (PX _ (upR (dz 4 (upR (upR (upI (dz 1 cz_X1) 1 2 (-1)) 1 3 (some 2)) 1 4 (some 3))) 1 5 (some 4))) _ _ [.ref 5, .ref 1]
  have hG := hG.k (a := 4) (b := 608)
  have hI := hI.k (a := 4) (b := 608)
  have hE := hE.k (a := 4) (b := 608)
  have had := had_up (q := q) (c := c) had (nle rfl)
  refine x_putF C hI (xkfX_X8_28 rfl rfl) (by first | exact Or.inl ⟨_, rfl⟩ | exact Or.inr ⟨_, rfl⟩) (nlt rfl) rfl dX8_init_37 ?_
  refine x_aload_n (i := 0) C dX8_init_40 rfl rfl ?_
  refine x_iconst C dX8_init_41 ?_
  refine x_anew (nn := 2) (a := 5) (b := 610) C hG naX8_32.1 naX8_32.2 rfl rfl (nle rfl) (rbX_S 6 shX rfl rfl (by decide +kernel)) rfl rfl (by rw [eK.k]) (by rw [eN.k]) (nle rfl) (nle rfl) dX8_init_42 (fun q c C => ?_)
  show Wx _ _ _ (PX _ (dz 6 (upR (upR (dz 4 (upR (upR (upI (dz 1 cz_X1) 1 2 (-1)) 1 3 (some 2)) 1 4 (some 3))) 1 5 (some 4)) 1 6 (some 5)))) _ _ [.ref 6, .ref 1]
  have hG := hG.k (a := 5) (b := 610)
  have hI := hI.k (a := 5) (b := 610)
  have hE := hE.k (a := 5) (b := 610)
  have had := had_up (q := q) (c := c) had (nle rfl)
  refine x_putF C hI (xkfX_X8_34 rfl rfl) (by first | exact Or.inl ⟨_, rfl⟩ | exact Or.inr ⟨_, rfl⟩) (nlt rfl) rfl dX8_init_45 ?_
  refine x_iconst C dX8_init_48 ?_
  refine x_istore_n (i := 1) (lv' := [(1, .int (iI (0))), (0, .ref 1)]) C dX8_init_49 rfl (nlt rfl) rfl ?_
  refine x_iload_n (i := 1) C dX8_init_50 rfl rfl ?_
  refine x_iconst C dX8_init_51 ?_
  refine x_icmp_ge (tgt := 74) C dX8_init_52 (by decide) ⟨by omega, by omega⟩ ⟨by omega, by omega⟩ (fun h => by exfalso; omega) (fun h => ?_)
  clear h
  refine x_aload_n (i := 0) C dX8_init_55 rfl rfl ?_
  refine x_getRs (r := 4) C (xkgX_X8_24 rfl rfl) (nlt rfl) rfl rfl dX8_init_56 ?_
  refine x_iload_n (i := 1) C dX8_init_59 rfl rfl ?_
  refine x_new (a := 6) (b := 617) C hG inX0 tyX0_ok rfl rfl nwX_X8_22.1 nwX_X8_22.2.1 nwX_X8_22.2.2 (fun j hj => by rcases (show j = 0 ∨ j = 1 ∨ j = 2 ∨ j = 3 ∨ j = 4 ∨ j = 5 ∨ j = 6 by omega) with rfl | rfl | rfl | rfl | rfl | rfl | rfl <;> rfl) (rbX_S 7 shX rfl rfl (by decide +kernel)) rfl rfl (by rw [eK.k]) (by rw [eN.k]) (nle rfl) (nle rfl) dX8_init_60 (fun q c C => ?_)
  show Wx _ _ _ (PX _ (dz 7 (upR (dz 6 (upR (upR (dz 4 (upR (upR (upI (dz 1 cz_X1) 1 2 (-1)) 1 3 (some 2)) 1 4 (some 3))) 1 5 (some 4)) 1 6 (some 5))) 1 7 (some 6)))) _ _ [.ref 7, .int (iI (0)), .ref 4]
  have hG := hG.k (a := 6) (b := 617)
  have hI := hI.k (a := 6) (b := 617)
  have hE := hE.k (a := 6) (b := 617)
  have had := had_up (q := q) (c := c) had (nle rfl)
  refine x_dup C dX8_init_63 rfl ?_
  refine x_callG (k := 7) (As := []) (a := 8) (b' := 629) C hG rfl ct_X7 (Or.inr ciX8_38) im_X0_init rfl rfl rfl (nle rfl) ⟨nle rfl, nle rfl⟩ rfl rfl (by rw [eK.k]) (by rw [eN.k]) (nle rfl) (nle rfl) dX8_init_64 (fun ad0 cA0 C hadk => ?_)
  have had : ∀ k, k < 2 → wA (mkW (bX D) 10 ad0 cA0) k = ad k := fun k hk => (hadk k (Nat.lt_of_lt_of_le hk (nle rfl))).trans (had k hk)
  clear hadk
  have hG := hG.k (a := 8) (b := 629)
  have hI := hI.k (a := 8) (b := 629)
  have hE := hE.k (a := 8) (b := 629)
  refine x_aast C (nlt rfl) rfl rfl (nlt rfl) rfl rfl (nle rfl) (by omega) (by omega) dX8_init_67 ?_
  refine x_iinc (lv' := [(1, .int (iI (0 + 1))), (0, .ref 1)]) C dX8_init_68 rfl (nlt rfl) rfl ?_
  refine Wx_lv (lv' := [(1, .int (iI (1))), (0, .ref 1)]) rfl ?_
  refine x_goto (tgt := 50) C dX8_init_71 (by decide) ?_
  refine x_iload_n (i := 1) C dX8_init_50 rfl rfl ?_
  refine x_iconst C dX8_init_51 ?_
  refine x_icmp_ge (tgt := 74) C dX8_init_52 (by decide) ⟨by omega, by omega⟩ ⟨by omega, by omega⟩ (fun h => by exfalso; omega) (fun h => ?_)
  clear h
  refine x_aload_n (i := 0) C dX8_init_55 rfl rfl ?_
  refine x_getRs (r := 4) C (xkgX_X8_24 rfl rfl) (nlt rfl) rfl rfl dX8_init_56 ?_
  refine x_iload_n (i := 1) C dX8_init_59 rfl rfl ?_
  refine x_new (a := 9) (b := 636) C hG inX0 tyX0_ok rfl rfl nwX_X8_22.1 nwX_X8_22.2.1 nwX_X8_22.2.2 (fun j hj => by rcases (show j = 0 ∨ j = 1 ∨ j = 2 ∨ j = 3 ∨ j = 4 ∨ j = 5 ∨ j = 6 by omega) with rfl | rfl | rfl | rfl | rfl | rfl | rfl <;> rfl) (rbX_S 10 shX rfl rfl (by decide +kernel)) rfl rfl (by rw [eK.k]) (by rw [eN.k]) (nle rfl) (nle rfl) dX8_init_60 (fun q c C => ?_)
  show Wx _ _ _ (PX _ (dz 10 (upR (upR (dz 6 (upR (upR (dz 4 (upR (upR (upI (dz 1 cz_X1) 1 2 (-1)) 1 3 (some 2)) 1 4 (some 3))) 1 5 (some 4)) 1 6 (some 5))) 1 7 (some 6)) 4 0 (some 7)))) _ _ [.ref 10, .int (iI (1)), .ref 4]
  have hG := hG.k (a := 9) (b := 636)
  have hI := hI.k (a := 9) (b := 636)
  have hE := hE.k (a := 9) (b := 636)
  have had := had_up (q := q) (c := c) had (nle rfl)
  refine x_dup C dX8_init_63 rfl ?_
  refine x_callG (k := 10) (As := []) (a := 11) (b' := 648) C hG rfl ct_X10 (Or.inr ciX8_38) im_X0_init rfl rfl rfl (nle rfl) ⟨nle rfl, nle rfl⟩ rfl rfl (by rw [eK.k]) (by rw [eN.k]) (nle rfl) (nle rfl) dX8_init_64 (fun ad1 cA1 C hadk => ?_)
  have had : ∀ k, k < 2 → wA (mkW (bX D) 13 ad1 cA1) k = ad k := fun k hk => (hadk k (Nat.lt_of_lt_of_le hk (nle rfl))).trans (had k hk)
  clear hadk
  have hG := hG.k (a := 11) (b := 648)
  have hI := hI.k (a := 11) (b := 648)
  have hE := hE.k (a := 11) (b := 648)
  refine x_aast C (nlt rfl) rfl rfl (nlt rfl) rfl rfl (nle rfl) (by omega) (by omega) dX8_init_67 ?_
  refine x_iinc (lv' := [(1, .int (iI (1 + 1))), (0, .ref 1)]) C dX8_init_68 rfl (nlt rfl) rfl ?_
  refine Wx_lv (lv' := [(1, .int (iI (2))), (0, .ref 1)]) rfl ?_
  refine x_goto (tgt := 50) C dX8_init_71 (by decide) ?_
  refine x_iload_n (i := 1) C dX8_init_50 rfl rfl ?_
  refine x_iconst C dX8_init_51 ?_
  refine x_icmp_ge (tgt := 74) C dX8_init_52 (by decide) ⟨by omega, by omega⟩ ⟨by omega, by omega⟩ (fun h => ?_) (fun h => by exfalso; omega)
  clear h
  refine x_iconst C dX8_init_74 ?_
  refine x_istore_n (i := 1) (lv' := [(1, .int (iI (0))), (0, .ref 1)]) C dX8_init_75 rfl (nlt rfl) rfl ?_
  refine x_iload_n (i := 1) C dX8_init_76 rfl rfl ?_
  refine x_iconst C dX8_init_77 ?_
  refine x_icmp_ge (tgt := 100) C dX8_init_78 (by decide) ⟨by omega, by omega⟩ ⟨by omega, by omega⟩ (fun h => by exfalso; omega) (fun h => ?_)
  clear h
  refine x_aload_n (i := 0) C dX8_init_81 rfl rfl ?_
  refine x_getRs (r := 6) C (xkgX_X8_34 rfl rfl) (nlt rfl) rfl rfl dX8_init_82 ?_
  refine x_iload_n (i := 1) C dX8_init_85 rfl rfl ?_
  refine x_new (a := 12) (b := 651) C hG inX2 tyX2_ok rfl rfl nwX_X8_32.1 nwX_X8_32.2.1 nwX_X8_32.2.2 (fun j hj => by rcases (show j = 0 ∨ j = 1 ∨ j = 2 by omega) with rfl | rfl | rfl <;> rfl) (rbX_S 13 shX rfl rfl (by decide +kernel)) rfl rfl (by rw [eK.k]) (by rw [eN.k]) (nle rfl) (nle rfl) dX8_init_86 (fun q c C => ?_)
  show Wx _ _ _ (PX _ (dz 13 (upR (upR (upR (dz 6 (upR (upR (dz 4 (upR (upR (upI (dz 1 cz_X1) 1 2 (-1)) 1 3 (some 2)) 1 4 (some 3))) 1 5 (some 4)) 1 6 (some 5))) 1 7 (some 6)) 4 0 (some 7)) 4 1 (some 10)))) _ _ [.ref 13, .int (iI (0)), .ref 6]
  have hG := hG.k (a := 12) (b := 651)
  have hI := hI.k (a := 12) (b := 651)
  have hE := hE.k (a := 12) (b := 651)
  have had := had_up (q := q) (c := c) had (nle rfl)
  refine x_dup C dX8_init_89 rfl ?_
  refine x_callG (k := 13) (As := []) (a := 14) (b' := 711) C hG rfl ct_X13 (Or.inr ciX8_39) im_X2_init rfl rfl rfl (nle rfl) ⟨nle rfl, nle rfl⟩ rfl rfl (by rw [eK.k]) (by rw [eN.k]) (nle rfl) (nle rfl) dX8_init_90 (fun ad2 cA2 C hadk => ?_)
  have had : ∀ k, k < 2 → wA (mkW (bX D) 16 ad2 cA2) k = ad k := fun k hk => (hadk k (Nat.lt_of_lt_of_le hk (nle rfl))).trans (had k hk)
  clear hadk
  have hG := hG.k (a := 14) (b := 711)
  have hI := hI.k (a := 14) (b := 711)
  have hE := hE.k (a := 14) (b := 711)
  refine x_aast C (nlt rfl) rfl rfl (nlt rfl) rfl rfl (nle rfl) (by omega) (by omega) dX8_init_93 ?_
  refine x_iinc (lv' := [(1, .int (iI (0 + 1))), (0, .ref 1)]) C dX8_init_94 rfl (nlt rfl) rfl ?_
  refine Wx_lv (lv' := [(1, .int (iI (1))), (0, .ref 1)]) rfl ?_
  refine x_goto (tgt := 76) C dX8_init_97 (by decide) ?_
  refine x_iload_n (i := 1) C dX8_init_76 rfl rfl ?_
  refine x_iconst C dX8_init_77 ?_
  refine x_icmp_ge (tgt := 100) C dX8_init_78 (by decide) ⟨by omega, by omega⟩ ⟨by omega, by omega⟩ (fun h => by exfalso; omega) (fun h => ?_)
  clear h
  refine x_aload_n (i := 0) C dX8_init_81 rfl rfl ?_
  refine x_getRs (r := 6) C (xkgX_X8_34 rfl rfl) (nlt rfl) rfl rfl dX8_init_82 ?_
  refine x_iload_n (i := 1) C dX8_init_85 rfl rfl ?_
  refine x_new (a := 15) (b := 714) C hG inX2 tyX2_ok rfl rfl nwX_X8_32.1 nwX_X8_32.2.1 nwX_X8_32.2.2 (fun j hj => by rcases (show j = 0 ∨ j = 1 ∨ j = 2 by omega) with rfl | rfl | rfl <;> rfl) (rbX_S 16 shX rfl rfl (by decide +kernel)) rfl rfl (by rw [eK.k]) (by rw [eN.k]) (nle rfl) (nle rfl) dX8_init_86 (fun q c C => ?_)
  show Wx _ _ _ (PX _ (dz 16 (upR (upR (upR (upR (dz 6 (upR (upR (dz 4 (upR (upR (upI (dz 1 cz_X1) 1 2 (-1)) 1 3 (some 2)) 1 4 (some 3))) 1 5 (some 4)) 1 6 (some 5))) 1 7 (some 6)) 4 0 (some 7)) 4 1 (some 10)) 6 0 (some 13)))) _ _ [.ref 16, .int (iI (1)), .ref 6]
  have hG := hG.k (a := 15) (b := 714)
  have hI := hI.k (a := 15) (b := 714)
  have hE := hE.k (a := 15) (b := 714)
  have had := had_up (q := q) (c := c) had (nle rfl)
  refine x_dup C dX8_init_89 rfl ?_
  refine x_callG (k := 16) (As := []) (a := 17) (b' := 774) C hG rfl ct_X16 (Or.inr ciX8_39) im_X2_init rfl rfl rfl (nle rfl) ⟨nle rfl, nle rfl⟩ rfl rfl (by rw [eK.k]) (by rw [eN.k]) (nle rfl) (nle rfl) dX8_init_90 (fun ad3 cA3 C hadk => ?_)
  have had : ∀ k, k < 2 → wA (mkW (bX D) 19 ad3 cA3) k = ad k := fun k hk => (hadk k (Nat.lt_of_lt_of_le hk (nle rfl))).trans (had k hk)
  clear hadk
  have hG := hG.k (a := 17) (b := 774)
  have hI := hI.k (a := 17) (b := 774)
  have hE := hE.k (a := 17) (b := 774)
  refine x_aast C (nlt rfl) rfl rfl (nlt rfl) rfl rfl (nle rfl) (by omega) (by omega) dX8_init_93 ?_
  refine x_iinc (lv' := [(1, .int (iI (1 + 1))), (0, .ref 1)]) C dX8_init_94 rfl (nlt rfl) rfl ?_
  refine Wx_lv (lv' := [(1, .int (iI (2))), (0, .ref 1)]) rfl ?_
  refine x_goto (tgt := 76) C dX8_init_97 (by decide) ?_
  refine x_iload_n (i := 1) C dX8_init_76 rfl rfl ?_
  refine x_iconst C dX8_init_77 ?_
  refine x_icmp_ge (tgt := 100) C dX8_init_78 (by decide) ⟨by omega, by omega⟩ ⟨by omega, by omega⟩ (fun h => ?_) (fun h => by exfalso; omega)
  clear h
  refine Wx_PH (fun H h => PX_many (Y := cz_X1) (sh := shX) [1, 4, 6] rfl (SL_upR rfl (SL_upR rfl (SL_upR rfl (SL_upR rfl (SL_upR rfl (SL_dz rfl (SL_upR rfl (SL_upR rfl (SL_dz rfl (SL_upR rfl (SL_upR rfl (SL_upI rfl (SL_dz rfl SL_rf))))))))))))) (by decide +kernel) h) ?_
  exact x_vretG C rfl hE eK.k eN.k had dX8_init_100
def cz_X21 : XT := (upR (upR (dz 19 (upR (dz 0 x0X) 0 0 (some 1))) 0 1 (some 19)) 0 2 (some 20))
def cz_X22 : XT := (dz 21 cz_X21)
set_option maxHeartbeats 4000000 in
set_option maxRecDepth 100000 in
theorem ct_X22 {D : va_G} : MetG (bX D) yX0_init cX0_init 1 1 30 2 12 [.ref 22] 23 25 (dz 22 cz_X22) cz_X22 := by
  refine MetG.mk (own := RX0) (by decide +kernel) rfl rfl (nle rfl) (fun E ad cA C hG hI hE hk0 hn0 => ?_)
  refine Wx_lv (lv' := [(0, .ref 22)]) rfl ?_
  have had : ∀ k, k < 23 → wA (mkW (bX D) 23 ad cA) k = ad k := fun _ _ => rfl
  refine x_aload_n (i := 0) C dX0_init_0 rfl rfl ?_
  refine x_objInit C oiX0_3.1 oiX0_3.2.1 oiX0_3.2.2 (nle rfl) (nle rfl) dX0_init_1 ?_
  refine x_aload_n (i := 0) C dX0_init_4 rfl rfl ?_
  refine x_bipush C dX0_init_5 (by decide) ?_
  refine x_newarr (at0 := .int) (ty := .int) (q0 := 0) (nn := 6) (a0 := (6, .inl (fun _ => 0))) (kd := 1) (a := 1) (b := 6) C hG rfl acX_int (fun _ => rfl) (fun _ => rfl) rfl (by decide) rfl (nle rfl) (nle rfl) (rbX_S 23 shX rfl rfl (by decide +kernel)) rfl rfl (by rw [hk0]) (by rw [hn0]) (nle rfl) (nle rfl) dX0_init_7 (fun q c C => ?_)
  refine Wx_PH (fun H h => PX_num (k := 23) SB_dz (fun i => rfl) (fun i => rfl) (fun i => rfl) h) ?_
  show Wx _ _ _ (PX _ (dz 22 cz_X22)) _ _ [.ref 23, .ref 22]
  have hG := hG.k (a := 1) (b := 6)
  have hI := hI.k (a := 1) (b := 6)
  have hE := hE.k (a := 1) (b := 6)
  have had := had_up (q := q) (c := c) had (nle rfl)
  refine x_putF C hI (xkfX_X0_9 rfl rfl) (by first | exact Or.inl ⟨_, rfl⟩ | exact Or.inr ⟨_, rfl⟩) (nlt rfl) rfl dX0_init_9 ?_
  refine x_aload_n (i := 0) C dX0_init_12 rfl rfl ?_
  refine x_bipush C dX0_init_13 (by decide) ?_
  refine x_newarr (at0 := .int) (ty := .int) (q0 := 0) (nn := 6) (a0 := (6, .inl (fun _ => 0))) (kd := 1) (a := 2) (b := 12) C hG rfl acX_int (fun _ => rfl) (fun _ => rfl) rfl (by decide) rfl (nle rfl) (nle rfl) (rbX_S 24 shX rfl rfl (by decide +kernel)) rfl rfl (by rw [eK.k]) (by rw [eN.k]) (nle rfl) (nle rfl) dX0_init_15 (fun q c C => ?_)
  refine Wx_PH (fun H h => PX_num (k := 24) SB_dz (fun i => rfl) (fun i => rfl) (fun i => rfl) h) ?_
  show Wx _ _ _ (PX _ (upR (dz 22 cz_X22) 22 5 (some 23))) _ _ [.ref 24, .ref 22]
  have hG := hG.k (a := 2) (b := 12)
  have hI := hI.k (a := 2) (b := 12)
  have hE := hE.k (a := 2) (b := 12)
  have had := had_up (q := q) (c := c) had (nle rfl)
  refine x_putF C hI (xkfX_X0_15 rfl rfl) (by first | exact Or.inl ⟨_, rfl⟩ | exact Or.inr ⟨_, rfl⟩) (nlt rfl) rfl dX0_init_17 ?_
  refine Wx_PH (fun H h => PX_many (Y := cz_X22) (sh := shX) [22] rfl (SL_upR rfl (SL_upR rfl (SL_dz rfl SL_rf))) (by decide +kernel) h) ?_
  exact x_vretG C rfl hE eK.k eN.k had dX0_init_20
def cz_X25 : XT := (upR (dz 21 cz_X21) 21 0 (some 22))
set_option maxHeartbeats 4000000 in
set_option maxRecDepth 100000 in
theorem ct_X25 {D : va_G} : MetG (bX D) yX2_init cX2_init 1 1 30 2 60 [.ref 25] 26 28 (dz 25 cz_X25) cz_X25 := by
  refine MetG.mk (own := RX2) (by decide +kernel) rfl rfl (nle rfl) (fun E ad cA C hG hI hE hk0 hn0 => ?_)
  refine Wx_lv (lv' := [(0, .ref 25)]) rfl ?_
  have had : ∀ k, k < 26 → wA (mkW (bX D) 26 ad cA) k = ad k := fun _ _ => rfl
  refine x_aload_n (i := 0) C dX2_init_0 rfl rfl ?_
  refine x_objInit C oiX2_3.1 oiX2_3.2.1 oiX2_3.2.2 (nle rfl) (nle rfl) dX2_init_1 ?_
  refine x_aload_n (i := 0) C dX2_init_4 rfl rfl ?_
  refine x_bipush C dX2_init_5 (by decide) ?_
  refine x_newarr (at0 := .long) (ty := .long) (q0 := 0) (nn := 30) (a0 := (30, .inr (.inl (fun _ => 0)))) (kd := 2) (a := 1) (b := 30) C hG rfl acX_long (fun _ => rfl) (fun _ => rfl) rfl (by decide) rfl (nle rfl) (nle rfl) (rbX_S 26 shX rfl rfl (by decide +kernel)) rfl rfl (by rw [hk0]) (by rw [hn0]) (nle rfl) (nle rfl) dX2_init_7 (fun q c C => ?_)
  refine Wx_PH (fun H h => PX_num (k := 26) SB_dz (fun i => rfl) (fun i => rfl) (fun i => rfl) h) ?_
  show Wx _ _ _ (PX _ (dz 25 cz_X25)) _ _ [.ref 26, .ref 25]
  have hG := hG.k (a := 1) (b := 30)
  have hI := hI.k (a := 1) (b := 30)
  have hE := hE.k (a := 1) (b := 30)
  have had := had_up (q := q) (c := c) had (nle rfl)
  refine x_putF C hI (xkfX_X2_9 rfl rfl) (by first | exact Or.inl ⟨_, rfl⟩ | exact Or.inr ⟨_, rfl⟩) (nlt rfl) rfl dX2_init_9 ?_
  refine x_aload_n (i := 0) C dX2_init_12 rfl rfl ?_
  refine x_bipush C dX2_init_13 (by decide) ?_
  refine x_newarr (at0 := .int) (ty := .int) (q0 := 0) (nn := 30) (a0 := (30, .inl (fun _ => 0))) (kd := 1) (a := 2) (b := 60) C hG rfl acX_int (fun _ => rfl) (fun _ => rfl) rfl (by decide) rfl (nle rfl) (nle rfl) (rbX_S 27 shX rfl rfl (by decide +kernel)) rfl rfl (by rw [eK.k]) (by rw [eN.k]) (nle rfl) (nle rfl) dX2_init_15 (fun q c C => ?_)
  refine Wx_PH (fun H h => PX_num (k := 27) SB_dz (fun i => rfl) (fun i => rfl) (fun i => rfl) h) ?_
  show Wx _ _ _ (PX _ (upR (dz 25 cz_X25) 25 1 (some 26))) _ _ [.ref 27, .ref 25]
  have hG := hG.k (a := 2) (b := 60)
  have hI := hI.k (a := 2) (b := 60)
  have hE := hE.k (a := 2) (b := 60)
  have had := had_up (q := q) (c := c) had (nle rfl)
  refine x_putF C hI (xkfX_X2_15 rfl rfl) (by first | exact Or.inl ⟨_, rfl⟩ | exact Or.inr ⟨_, rfl⟩) (nlt rfl) rfl dX2_init_17 ?_
  refine Wx_PH (fun H h => PX_many (Y := cz_X25) (sh := shX) [25] rfl (SL_upR rfl (SL_upR rfl (SL_dz rfl SL_rf))) (by decide +kernel) h) ?_
  exact x_vretG C rfl hE eK.k eN.k had dX2_init_20
set_option maxHeartbeats 4000000 in
set_option maxRecDepth 100000 in
theorem ct_X21 {D : va_G} : MetG (bX D) yX6_init cX6_init 1 2 50 7 82 [.ref 21] 22 29 (dz 21 cz_X21) cz_X21 := by
  refine MetG.mk (own := RX6) (by decide +kernel) rfl rfl (nle rfl) (fun E ad cA C hG hI hE hk0 hn0 => ?_)
  refine Wx_lv (lv' := [(0, .ref 21)]) rfl ?_
  have had : ∀ k, k < 22 → wA (mkW (bX D) 22 ad cA) k = ad k := fun _ _ => rfl
  refine x_aload_n (i := 0) C dX6_init_0 rfl rfl ?_
  refine x_objInit C oiX6_3.1 oiX6_3.2.1 oiX6_3.2.2 (nle rfl) (nle rfl) dX6_init_1 ?_
  refine x_aload_n (i := 0) C dX6_init_4 rfl rfl ?_
  refine x_new (a := 1) (b := 7) C hG inX0 tyX0_ok rfl rfl nwX_X6_9.1 nwX_X6_9.2.1 nwX_X6_9.2.2 (fun j hj => by rcases (show j = 0 ∨ j = 1 ∨ j = 2 ∨ j = 3 ∨ j = 4 ∨ j = 5 ∨ j = 6 by omega) with rfl | rfl | rfl | rfl | rfl | rfl | rfl <;> rfl) (rbX_S 22 shX rfl rfl (by decide +kernel)) rfl rfl (by rw [hk0]) (by rw [hn0]) (nle rfl) (nle rfl) dX6_init_5 (fun q c C => ?_)
  show Wx _ _ _ (PX _ (dz 22 (dz 21 cz_X21))) _ _ [.ref 22, .ref 21]
  have hG := hG.k (a := 1) (b := 7)
  have hI := hI.k (a := 1) (b := 7)
  have hE := hE.k (a := 1) (b := 7)
  have had := had_up (q := q) (c := c) had (nle rfl)
  refine x_dup C dX6_init_8 rfl ?_
  refine x_callG (k := 22) (As := []) (a := 3) (b' := 19) C hG rfl ct_X22 (Or.inr ciX6_11) im_X0_init rfl rfl rfl (nle rfl) ⟨nle rfl, nle rfl⟩ rfl rfl (by rw [eK.k]) (by rw [eN.k]) (nle rfl) (nle rfl) dX6_init_9 (fun ad5 cA5 C hadk => ?_)
  have had : ∀ k, k < 22 → wA (mkW (bX D) 25 ad5 cA5) k = ad k := fun k hk => (hadk k (Nat.lt_of_lt_of_le hk (nle rfl))).trans (had k hk)
  clear hadk
  have hG := hG.k (a := 3) (b := 19)
  have hI := hI.k (a := 3) (b := 19)
  have hE := hE.k (a := 3) (b := 19)
  refine x_putF C hI (xkfX_X6_12 rfl rfl) (by first | exact Or.inl ⟨_, rfl⟩ | exact Or.inr ⟨_, rfl⟩) (nlt rfl) rfl dX6_init_12 ?_
  refine x_aload_n (i := 0) C dX6_init_15 rfl rfl ?_
  refine x_new (a := 4) (b := 22) C hG inX2 tyX2_ok rfl rfl nwX_X6_18.1 nwX_X6_18.2.1 nwX_X6_18.2.2 (fun j hj => by rcases (show j = 0 ∨ j = 1 ∨ j = 2 by omega) with rfl | rfl | rfl <;> rfl) (rbX_S 25 shX rfl rfl (by decide +kernel)) rfl rfl (by rw [eK.k]) (by rw [eN.k]) (nle rfl) (nle rfl) dX6_init_16 (fun q c C => ?_)
  show Wx _ _ _ (PX _ (dz 25 (upR (dz 21 cz_X21) 21 0 (some 22)))) _ _ [.ref 25, .ref 21]
  have hG := hG.k (a := 4) (b := 22)
  have hI := hI.k (a := 4) (b := 22)
  have hE := hE.k (a := 4) (b := 22)
  have had := had_up (q := q) (c := c) had (nle rfl)
  refine x_dup C dX6_init_19 rfl ?_
  refine x_callG (k := 25) (As := []) (a := 6) (b' := 82) C hG rfl ct_X25 (Or.inr ciX6_20) im_X2_init rfl rfl rfl (nle rfl) ⟨nle rfl, nle rfl⟩ rfl rfl (by rw [eK.k]) (by rw [eN.k]) (nle rfl) (nle rfl) dX6_init_20 (fun ad6 cA6 C hadk => ?_)
  have had : ∀ k, k < 22 → wA (mkW (bX D) 28 ad6 cA6) k = ad k := fun k hk => (hadk k (Nat.lt_of_lt_of_le hk (nle rfl))).trans (had k hk)
  clear hadk
  have hG := hG.k (a := 6) (b := 82)
  have hI := hI.k (a := 6) (b := 82)
  have hE := hE.k (a := 6) (b := 82)
  refine x_putF C hI (xkfX_X6_21 rfl rfl) (by first | exact Or.inl ⟨_, rfl⟩ | exact Or.inr ⟨_, rfl⟩) (nlt rfl) rfl dX6_init_23 ?_
  refine x_aload_n (i := 0) C dX6_init_26 rfl rfl ?_
  refine x_iconst C dX6_init_27 ?_
  refine x_newarr (at0 := .int) (ty := .int) (q0 := 0) (nn := 0) (a0 := (0, .inl (fun _ => 0))) (kd := 1) (a := 7) (b := 82) C hG rfl acX_int (fun _ => rfl) (fun _ => rfl) rfl (by decide) rfl (nle rfl) (nle rfl) (rbX_S 28 shX rfl rfl (by decide +kernel)) rfl rfl (by rw [eK.k]) (by rw [eN.k]) (nle rfl) (nle rfl) dX6_init_28 (fun q c C => ?_)
  refine Wx_PH (fun H h => PX_num (k := 28) SB_dz (fun i => rfl) (fun i => rfl) (fun i => rfl) h) ?_
  show Wx _ _ _ (PX _ (upR (upR (dz 21 cz_X21) 21 0 (some 22)) 21 1 (some 25))) _ _ [.ref 28, .ref 21]
  have hG := hG.k (a := 7) (b := 82)
  have hI := hI.k (a := 7) (b := 82)
  have hE := hE.k (a := 7) (b := 82)
  have had := had_up (q := q) (c := c) had (nle rfl)
  refine x_putR C (xkpX_X6_25 rfl rfl) (by first | exact Or.inl ⟨_, rfl⟩ | exact Or.inr ⟨_, rfl⟩) (nlt rfl) rfl dX6_init_30 ?_
  refine Wx_PH (fun H h => PX_many (Y := cz_X21) (sh := shX) [21] rfl (SL_upR rfl (SL_upR rfl (SL_upR rfl (SL_dz rfl SL_rf)))) (by decide +kernel) h) ?_
  exact x_vretG C rfl hE eK.k eN.k had dX6_init_33
def cz_X29 : XT := (upR (upR (upR (dz 19 (upR (dz 0 x0X) 0 0 (some 1))) 0 1 (some 19)) 0 2 (some 20)) 0 3 (some 21))
def cz_X31 : XT := (upR (dz 29 cz_X29) 29 0 (some 30))
set_option maxHeartbeats 4000000 in
set_option maxRecDepth 100000 in
theorem ct_X31 {D : va_G} : MetG (bX D) yX3_init cX3_init 1 1 30 2 8 [.ref 31] 32 34 (dz 31 cz_X31) cz_X31 := by
  refine MetG.mk (own := RX3) (by decide +kernel) rfl rfl (nle rfl) (fun E ad cA C hG hI hE hk0 hn0 => ?_)
  refine Wx_lv (lv' := [(0, .ref 31)]) rfl ?_
  have had : ∀ k, k < 32 → wA (mkW (bX D) 32 ad cA) k = ad k := fun _ _ => rfl
  refine x_aload_n (i := 0) C dX3_init_0 rfl rfl ?_
  refine x_objInit C oiX3_3.1 oiX3_3.2.1 oiX3_3.2.2 (nle rfl) (nle rfl) dX3_init_1 ?_
  refine x_aload_n (i := 0) C dX3_init_4 rfl rfl ?_
  refine x_iconst C dX3_init_5 ?_
  refine x_newarr (at0 := .long) (ty := .long) (q0 := 0) (nn := 4) (a0 := (4, .inr (.inl (fun _ => 0)))) (kd := 2) (a := 1) (b := 4) C hG rfl acX_long (fun _ => rfl) (fun _ => rfl) rfl (by decide) rfl (nle rfl) (nle rfl) (rbX_S 32 shX rfl rfl (by decide +kernel)) rfl rfl (by rw [hk0]) (by rw [hn0]) (nle rfl) (nle rfl) dX3_init_6 (fun q c C => ?_)
  refine Wx_PH (fun H h => PX_num (k := 32) SB_dz (fun i => rfl) (fun i => rfl) (fun i => rfl) h) ?_
  show Wx _ _ _ (PX _ (dz 31 cz_X31)) _ _ [.ref 32, .ref 31]
  have hG := hG.k (a := 1) (b := 4)
  have hI := hI.k (a := 1) (b := 4)
  have hE := hE.k (a := 1) (b := 4)
  have had := had_up (q := q) (c := c) had (nle rfl)
  refine x_putF C hI (xkfX_X3_9 rfl rfl) (by first | exact Or.inl ⟨_, rfl⟩ | exact Or.inr ⟨_, rfl⟩) (nlt rfl) rfl dX3_init_8 ?_
  refine x_aload_n (i := 0) C dX3_init_11 rfl rfl ?_
  refine x_iconst C dX3_init_12 ?_
  refine x_newarr (at0 := .int) (ty := .int) (q0 := 0) (nn := 4) (a0 := (4, .inl (fun _ => 0))) (kd := 1) (a := 2) (b := 8) C hG rfl acX_int (fun _ => rfl) (fun _ => rfl) rfl (by decide) rfl (nle rfl) (nle rfl) (rbX_S 33 shX rfl rfl (by decide +kernel)) rfl rfl (by rw [eK.k]) (by rw [eN.k]) (nle rfl) (nle rfl) dX3_init_13 (fun q c C => ?_)
  refine Wx_PH (fun H h => PX_num (k := 33) SB_dz (fun i => rfl) (fun i => rfl) (fun i => rfl) h) ?_
  show Wx _ _ _ (PX _ (upR (dz 31 cz_X31) 31 0 (some 32))) _ _ [.ref 33, .ref 31]
  have hG := hG.k (a := 2) (b := 8)
  have hI := hI.k (a := 2) (b := 8)
  have hE := hE.k (a := 2) (b := 8)
  have had := had_up (q := q) (c := c) had (nle rfl)
  refine x_putF C hI (xkfX_X3_15 rfl rfl) (by first | exact Or.inl ⟨_, rfl⟩ | exact Or.inr ⟨_, rfl⟩) (nlt rfl) rfl dX3_init_15 ?_
  refine Wx_PH (fun H h => PX_many (Y := cz_X31) (sh := shX) [31] rfl (SL_upR rfl (SL_upR rfl (SL_dz rfl SL_rf))) (by decide +kernel) h) ?_
  exact x_vretG C rfl hE eK.k eN.k had dX3_init_18
set_option maxHeartbeats 4000000 in
set_option maxRecDepth 100000 in
theorem ct_X29 {D : va_G} : MetG (bX D) yX9_init cX9_init 1 2 50 8 3686 [.ref 29] 30 38 (dz 29 cz_X29) cz_X29 := by
  refine MetG.mk (own := RX9) (by decide +kernel) rfl rfl (nle rfl) (fun E ad cA C hG hI hE hk0 hn0 => ?_)
  refine Wx_lv (lv' := [(0, .ref 29)]) rfl ?_
  have had : ∀ k, k < 30 → wA (mkW (bX D) 30 ad cA) k = ad k := fun _ _ => rfl
  refine x_aload_n (i := 0) C dX9_init_0 rfl rfl ?_
  refine x_objInit C oiX9_3.1 oiX9_3.2.1 oiX9_3.2.2 (nle rfl) (nle rfl) dX9_init_1 ?_
  refine x_aload_n (i := 0) C dX9_init_4 rfl rfl ?_
  refine x_bipush C dX9_init_5 (by decide) ?_
  refine x_newarr (at0 := .int) (ty := .int) (q0 := 0) (nn := 55) (a0 := (55, .inl (fun _ => 0))) (kd := 1) (a := 1) (b := 55) C hG rfl acX_int (fun _ => rfl) (fun _ => rfl) rfl (by decide) rfl (nle rfl) (nle rfl) (rbX_S 30 shX rfl rfl (by decide +kernel)) rfl rfl (by rw [hk0]) (by rw [hn0]) (nle rfl) (nle rfl) dX9_init_7 (fun q c C => ?_)
  refine Wx_PH (fun H h => PX_num (k := 30) SB_dz (fun i => rfl) (fun i => rfl) (fun i => rfl) h) ?_
  show Wx _ _ _ (PX _ (dz 29 cz_X29)) _ _ [.ref 30, .ref 29]
  have hG := hG.k (a := 1) (b := 55)
  have hI := hI.k (a := 1) (b := 55)
  have hE := hE.k (a := 1) (b := 55)
  have had := had_up (q := q) (c := c) had (nle rfl)
  refine x_putF C hI (xkfX_X9_9 rfl rfl) (by first | exact Or.inl ⟨_, rfl⟩ | exact Or.inr ⟨_, rfl⟩) (nlt rfl) rfl dX9_init_9 ?_
  refine x_aload_n (i := 0) C dX9_init_12 rfl rfl ?_
  refine x_new (a := 2) (b := 60) C hG inX3 tyX3_ok rfl rfl nwX_X9_15.1 nwX_X9_15.2.1 nwX_X9_15.2.2 (fun j hj => by rcases (show j = 0 ∨ j = 1 ∨ j = 2 ∨ j = 3 ∨ j = 4 by omega) with rfl | rfl | rfl | rfl | rfl <;> rfl) (rbX_S 31 shX rfl rfl (by decide +kernel)) rfl rfl (by rw [eK.k]) (by rw [eN.k]) (nle rfl) (nle rfl) dX9_init_13 (fun q c C => ?_)
  show Wx _ _ _ (PX _ (dz 31 (upR (dz 29 cz_X29) 29 0 (some 30)))) _ _ [.ref 31, .ref 29]
  have hG := hG.k (a := 2) (b := 60)
  have hI := hI.k (a := 2) (b := 60)
  have hE := hE.k (a := 2) (b := 60)
  have had := had_up (q := q) (c := c) had (nle rfl)
  refine x_dup C dX9_init_16 rfl ?_
  refine x_callG (k := 31) (As := []) (a := 4) (b' := 68) C hG rfl ct_X31 (Or.inr ciX9_17) im_X3_init rfl rfl rfl (nle rfl) ⟨nle rfl, nle rfl⟩ rfl rfl (by rw [eK.k]) (by rw [eN.k]) (nle rfl) (nle rfl) dX9_init_17 (fun ad8 cA8 C hadk => ?_)
  have had : ∀ k, k < 30 → wA (mkW (bX D) 34 ad8 cA8) k = ad k := fun k hk => (hadk k (Nat.lt_of_lt_of_le hk (nle rfl))).trans (had k hk)
  clear hadk
  have hG := hG.k (a := 4) (b := 68)
  have hI := hI.k (a := 4) (b := 68)
  have hE := hE.k (a := 4) (b := 68)
  refine x_putF C hI (xkfX_X9_18 rfl rfl) (by first | exact Or.inl ⟨_, rfl⟩ | exact Or.inr ⟨_, rfl⟩) (nlt rfl) rfl dX9_init_20 ?_
  refine x_aload_n (i := 0) C dX9_init_23 rfl rfl ?_
  refine x_bipush C dX9_init_24 (by decide) ?_
  refine x_newarr (at0 := .int) (ty := .int) (q0 := 0) (nn := 9) (a0 := (9, .inl (fun _ => 0))) (kd := 1) (a := 5) (b := 77) C hG rfl acX_int (fun _ => rfl) (fun _ => rfl) rfl (by decide) rfl (nle rfl) (nle rfl) (rbX_S 34 shX rfl rfl (by decide +kernel)) rfl rfl (by rw [eK.k]) (by rw [eN.k]) (nle rfl) (nle rfl) dX9_init_26 (fun q c C => ?_)
  refine Wx_PH (fun H h => PX_num (k := 34) SB_dz (fun i => rfl) (fun i => rfl) (fun i => rfl) h) ?_
  show Wx _ _ _ (PX _ (upR (upR (dz 29 cz_X29) 29 0 (some 30)) 29 2 (some 31))) _ _ [.ref 34, .ref 29]
  have hG := hG.k (a := 5) (b := 77)
  have hI := hI.k (a := 5) (b := 77)
  have hE := hE.k (a := 5) (b := 77)
  have had := had_up (q := q) (c := c) had (nle rfl)
  refine x_putF C hI (xkfX_X9_22 rfl rfl) (by first | exact Or.inl ⟨_, rfl⟩ | exact Or.inr ⟨_, rfl⟩) (nlt rfl) rfl dX9_init_28 ?_
  refine x_aload_n (i := 0) C dX9_init_31 rfl rfl ?_
  refine x_bipush C dX9_init_32 (by decide) ?_
  refine x_newarr (at0 := .boolean) (ty := .boolean) (q0 := 0) (nn := 9) (a0 := (9, .inl (fun _ => 0))) (kd := 1) (a := 6) (b := 86) C hG rfl acX_boolean (fun _ => rfl) (fun _ => rfl) rfl (by decide) rfl (nle rfl) (nle rfl) (rbX_S 35 shX rfl rfl (by decide +kernel)) rfl rfl (by rw [eK.k]) (by rw [eN.k]) (nle rfl) (nle rfl) dX9_init_34 (fun q c C => ?_)
  refine Wx_PH (fun H h => PX_num (k := 35) SB_dz (fun i => rfl) (fun i => rfl) (fun i => rfl) h) ?_
  show Wx _ _ _ (PX _ (upR (upR (upR (dz 29 cz_X29) 29 0 (some 30)) 29 2 (some 31)) 29 3 (some 34))) _ _ [.ref 35, .ref 29]
  have hG := hG.k (a := 6) (b := 86)
  have hI := hI.k (a := 6) (b := 86)
  have hE := hE.k (a := 6) (b := 86)
  have had := had_up (q := q) (c := c) had (nle rfl)
  refine x_putF C hI (xkfX_X9_25 rfl rfl) (by first | exact Or.inl ⟨_, rfl⟩ | exact Or.inr ⟨_, rfl⟩) (nlt rfl) rfl dX9_init_36 ?_
  refine x_aload_n (i := 0) C dX9_init_39 rfl rfl ?_
  refine x_sipush C dX9_init_40 (by decide) ?_
  refine x_newarr (at0 := .int) (ty := .int) (q0 := 0) (nn := 1800) (a0 := (1800, .inl (fun _ => 0))) (kd := 1) (a := 7) (b := 1886) C hG rfl acX_int (fun _ => rfl) (fun _ => rfl) rfl (by decide) rfl (nle rfl) (nle rfl) (rbX_S 36 shX rfl rfl (by decide +kernel)) rfl rfl (by rw [eK.k]) (by rw [eN.k]) (nle rfl) (nle rfl) dX9_init_43 (fun q c C => ?_)
  refine Wx_PH (fun H h => PX_num (k := 36) SB_dz (fun i => rfl) (fun i => rfl) (fun i => rfl) h) ?_
  show Wx _ _ _ (PX _ (upR (upR (upR (upR (dz 29 cz_X29) 29 0 (some 30)) 29 2 (some 31)) 29 3 (some 34)) 29 4 (some 35))) _ _ [.ref 36, .ref 29]
  have hG := hG.k (a := 7) (b := 1886)
  have hI := hI.k (a := 7) (b := 1886)
  have hE := hE.k (a := 7) (b := 1886)
  have had := had_up (q := q) (c := c) had (nle rfl)
  refine x_putF C hI (xkfX_X9_29 rfl rfl) (by first | exact Or.inl ⟨_, rfl⟩ | exact Or.inr ⟨_, rfl⟩) (nlt rfl) rfl dX9_init_45 ?_
  refine x_aload_n (i := 0) C dX9_init_48 rfl rfl ?_
  refine x_sipush C dX9_init_49 (by decide) ?_
  refine x_newarr (at0 := .int) (ty := .int) (q0 := 0) (nn := 1800) (a0 := (1800, .inl (fun _ => 0))) (kd := 1) (a := 8) (b := 3686) C hG rfl acX_int (fun _ => rfl) (fun _ => rfl) rfl (by decide) rfl (nle rfl) (nle rfl) (rbX_S 37 shX rfl rfl (by decide +kernel)) rfl rfl (by rw [eK.k]) (by rw [eN.k]) (nle rfl) (nle rfl) dX9_init_52 (fun q c C => ?_)
  refine Wx_PH (fun H h => PX_num (k := 37) SB_dz (fun i => rfl) (fun i => rfl) (fun i => rfl) h) ?_
  show Wx _ _ _ (PX _ (upR (upR (upR (upR (upR (dz 29 cz_X29) 29 0 (some 30)) 29 2 (some 31)) 29 3 (some 34)) 29 4 (some 35)) 29 6 (some 36))) _ _ [.ref 37, .ref 29]
  have hG := hG.k (a := 8) (b := 3686)
  have hI := hI.k (a := 8) (b := 3686)
  have hE := hE.k (a := 8) (b := 3686)
  have had := had_up (q := q) (c := c) had (nle rfl)
  refine x_putF C hI (xkfX_X9_32 rfl rfl) (by first | exact Or.inl ⟨_, rfl⟩ | exact Or.inr ⟨_, rfl⟩) (nlt rfl) rfl dX9_init_54 ?_
  refine Wx_PH (fun H h => PX_many (Y := cz_X29) (sh := shX) [29] rfl (SL_upR rfl (SL_upR rfl (SL_upR rfl (SL_upR rfl (SL_upR rfl (SL_upR rfl (SL_dz rfl SL_rf))))))) (by decide +kernel) h) ?_
  exact x_vretG C rfl hE eK.k eN.k had dX9_init_57
def cz_X38 : XT := (upR (upR (upR (upR (dz 19 (upR (dz 0 x0X) 0 0 (some 1))) 0 1 (some 19)) 0 2 (some 20)) 0 3 (some 21)) 0 4 (some 29))
def cz_X39 : XT := (dz 38 cz_X38)
set_option maxHeartbeats 4000000 in
set_option maxRecDepth 100000 in
theorem ct_X39 {D : va_G} : MetG (bX D) yX3_init cX3_init 1 1 30 2 8 [.ref 39] 40 42 (dz 39 cz_X39) cz_X39 := by
  refine MetG.mk (own := RX3) (by decide +kernel) rfl rfl (nle rfl) (fun E ad cA C hG hI hE hk0 hn0 => ?_)
  refine Wx_lv (lv' := [(0, .ref 39)]) rfl ?_
  have had : ∀ k, k < 40 → wA (mkW (bX D) 40 ad cA) k = ad k := fun _ _ => rfl
  refine x_aload_n (i := 0) C dX3_init_0 rfl rfl ?_
  refine x_objInit C oiX3_3.1 oiX3_3.2.1 oiX3_3.2.2 (nle rfl) (nle rfl) dX3_init_1 ?_
  refine x_aload_n (i := 0) C dX3_init_4 rfl rfl ?_
  refine x_iconst C dX3_init_5 ?_
  refine x_newarr (at0 := .long) (ty := .long) (q0 := 0) (nn := 4) (a0 := (4, .inr (.inl (fun _ => 0)))) (kd := 2) (a := 1) (b := 4) C hG rfl acX_long (fun _ => rfl) (fun _ => rfl) rfl (by decide) rfl (nle rfl) (nle rfl) (rbX_S 40 shX rfl rfl (by decide +kernel)) rfl rfl (by rw [hk0]) (by rw [hn0]) (nle rfl) (nle rfl) dX3_init_6 (fun q c C => ?_)
  refine Wx_PH (fun H h => PX_num (k := 40) SB_dz (fun i => rfl) (fun i => rfl) (fun i => rfl) h) ?_
  show Wx _ _ _ (PX _ (dz 39 cz_X39)) _ _ [.ref 40, .ref 39]
  have hG := hG.k (a := 1) (b := 4)
  have hI := hI.k (a := 1) (b := 4)
  have hE := hE.k (a := 1) (b := 4)
  have had := had_up (q := q) (c := c) had (nle rfl)
  refine x_putF C hI (xkfX_X3_9 rfl rfl) (by first | exact Or.inl ⟨_, rfl⟩ | exact Or.inr ⟨_, rfl⟩) (nlt rfl) rfl dX3_init_8 ?_
  refine x_aload_n (i := 0) C dX3_init_11 rfl rfl ?_
  refine x_iconst C dX3_init_12 ?_
  refine x_newarr (at0 := .int) (ty := .int) (q0 := 0) (nn := 4) (a0 := (4, .inl (fun _ => 0))) (kd := 1) (a := 2) (b := 8) C hG rfl acX_int (fun _ => rfl) (fun _ => rfl) rfl (by decide) rfl (nle rfl) (nle rfl) (rbX_S 41 shX rfl rfl (by decide +kernel)) rfl rfl (by rw [eK.k]) (by rw [eN.k]) (nle rfl) (nle rfl) dX3_init_13 (fun q c C => ?_)
  refine Wx_PH (fun H h => PX_num (k := 41) SB_dz (fun i => rfl) (fun i => rfl) (fun i => rfl) h) ?_
  show Wx _ _ _ (PX _ (upR (dz 39 cz_X39) 39 0 (some 40))) _ _ [.ref 41, .ref 39]
  have hG := hG.k (a := 2) (b := 8)
  have hI := hI.k (a := 2) (b := 8)
  have hE := hE.k (a := 2) (b := 8)
  have had := had_up (q := q) (c := c) had (nle rfl)
  refine x_putF C hI (xkfX_X3_15 rfl rfl) (by first | exact Or.inl ⟨_, rfl⟩ | exact Or.inr ⟨_, rfl⟩) (nlt rfl) rfl dX3_init_15 ?_
  refine Wx_PH (fun H h => PX_many (Y := cz_X39) (sh := shX) [39] rfl (SL_upR rfl (SL_upR rfl (SL_dz rfl SL_rf))) (by decide +kernel) h) ?_
  exact x_vretG C rfl hE eK.k eN.k had dX3_init_18
def cz_X45 : XT := (upR (upR (upR (dz 42 (upR (dz 38 cz_X38) 38 0 (some 39))) 38 1 (some 42)) 38 2 (some 43)) 38 5 (some 44))
set_option maxHeartbeats 4000000 in
set_option maxRecDepth 100000 in
theorem ct_X45 {D : va_G} : MetG (bX D) yX10_init cX10_init 2 1 30 2 10 [.ref 45, .null] 46 48 (dz 45 cz_X45) cz_X45 := by
  refine MetG.mk (own := RX10) (by decide +kernel) rfl rfl (nle rfl) (fun E ad cA C hG hI hE hk0 hn0 => ?_)
  refine Wx_lv (lv' := [(0, .ref 45), (1, .null)]) rfl ?_
  have had : ∀ k, k < 46 → wA (mkW (bX D) 46 ad cA) k = ad k := fun _ _ => rfl
  refine x_aload_n (i := 0) C dX10_init_0 rfl rfl ?_
  refine x_objInit C oiX10_3.1 oiX10_3.2.1 oiX10_3.2.2 (nle rfl) (nle rfl) dX10_init_1 ?_
  refine x_aload_n (i := 0) C dX10_init_4 rfl rfl ?_
  refine x_iconst C dX10_init_5 ?_
  refine x_newarr (at0 := .long) (ty := .long) (q0 := 0) (nn := 5) (a0 := (5, .inr (.inl (fun _ => 0)))) (kd := 2) (a := 1) (b := 5) C hG rfl acX_long (fun _ => rfl) (fun _ => rfl) rfl (by decide) rfl (nle rfl) (nle rfl) (rbX_S 46 shX rfl rfl (by decide +kernel)) rfl rfl (by rw [hk0]) (by rw [hn0]) (nle rfl) (nle rfl) dX10_init_6 (fun q c C => ?_)
  refine Wx_PH (fun H h => PX_num (k := 46) SB_dz (fun i => rfl) (fun i => rfl) (fun i => rfl) h) ?_
  show Wx _ _ _ (PX _ (dz 45 cz_X45)) _ _ [.ref 46, .ref 45]
  have hG := hG.k (a := 1) (b := 5)
  have hI := hI.k (a := 1) (b := 5)
  have hE := hE.k (a := 1) (b := 5)
  have had := had_up (q := q) (c := c) had (nle rfl)
  refine x_putF C hI (xkfX_X10_9 rfl rfl) (by first | exact Or.inl ⟨_, rfl⟩ | exact Or.inr ⟨_, rfl⟩) (nlt rfl) rfl dX10_init_8 ?_
  refine x_aload_n (i := 0) C dX10_init_11 rfl rfl ?_
  refine x_iconst C dX10_init_12 ?_
  refine x_newarr (at0 := .long) (ty := .long) (q0 := 0) (nn := 5) (a0 := (5, .inr (.inl (fun _ => 0)))) (kd := 2) (a := 2) (b := 10) C hG rfl acX_long (fun _ => rfl) (fun _ => rfl) rfl (by decide) rfl (nle rfl) (nle rfl) (rbX_S 47 shX rfl rfl (by decide +kernel)) rfl rfl (by rw [eK.k]) (by rw [eN.k]) (nle rfl) (nle rfl) dX10_init_13 (fun q c C => ?_)
  refine Wx_PH (fun H h => PX_num (k := 47) SB_dz (fun i => rfl) (fun i => rfl) (fun i => rfl) h) ?_
  show Wx _ _ _ (PX _ (upR (dz 45 cz_X45) 45 0 (some 46))) _ _ [.ref 47, .ref 45]
  have hG := hG.k (a := 2) (b := 10)
  have hI := hI.k (a := 2) (b := 10)
  have hE := hE.k (a := 2) (b := 10)
  have had := had_up (q := q) (c := c) had (nle rfl)
  refine x_putF C hI (xkfX_X10_15 rfl rfl) (by first | exact Or.inl ⟨_, rfl⟩ | exact Or.inr ⟨_, rfl⟩) (nlt rfl) rfl dX10_init_15 ?_
  refine x_aload_n (i := 0) C dX10_init_18 rfl rfl ?_
  refine x_iconst C dX10_init_19 ?_
  refine x_putI C (xkpX_X10_18 rfl rfl) (nlt rfl) rfl dX10_init_20 ?_
  refine x_aload_n (i := 0) C dX10_init_23 rfl rfl ?_
  refine x_aload_nN (i := 1) C dX10_init_24 rfl rfl ?_
  refine x_putN C hI (xkfX_X10_22 rfl rfl) (by first | exact Or.inl ⟨_, rfl⟩ | exact Or.inr ⟨_, rfl⟩) (nlt rfl) rfl dX10_init_25 ?_
  refine Wx_PH (fun H h => PX_many (Y := cz_X45) (sh := shX) [45] rfl (SL_upR rfl (SL_upI rfl (SL_upR rfl (SL_upR rfl (SL_dz rfl SL_rf))))) (by decide +kernel) h) ?_
  exact x_vretG C rfl hE eK.k eN.k had dX10_init_28
def cz_X48 : XT := (upR (upR (upR (upR (dz 42 (upR (dz 38 cz_X38) 38 0 (some 39))) 38 1 (some 42)) 38 2 (some 43)) 38 5 (some 44)) 42 0 (some 45))
set_option maxHeartbeats 4000000 in
set_option maxRecDepth 100000 in
theorem ct_X48 {D : va_G} : MetG (bX D) yX10_init cX10_init 2 1 30 2 10 [.ref 48, .null] 49 51 (dz 48 cz_X48) cz_X48 := by
  refine MetG.mk (own := RX10) (by decide +kernel) rfl rfl (nle rfl) (fun E ad cA C hG hI hE hk0 hn0 => ?_)
  refine Wx_lv (lv' := [(0, .ref 48), (1, .null)]) rfl ?_
  have had : ∀ k, k < 49 → wA (mkW (bX D) 49 ad cA) k = ad k := fun _ _ => rfl
  refine x_aload_n (i := 0) C dX10_init_0 rfl rfl ?_
  refine x_objInit C oiX10_3.1 oiX10_3.2.1 oiX10_3.2.2 (nle rfl) (nle rfl) dX10_init_1 ?_
  refine x_aload_n (i := 0) C dX10_init_4 rfl rfl ?_
  refine x_iconst C dX10_init_5 ?_
  refine x_newarr (at0 := .long) (ty := .long) (q0 := 0) (nn := 5) (a0 := (5, .inr (.inl (fun _ => 0)))) (kd := 2) (a := 1) (b := 5) C hG rfl acX_long (fun _ => rfl) (fun _ => rfl) rfl (by decide) rfl (nle rfl) (nle rfl) (rbX_S 49 shX rfl rfl (by decide +kernel)) rfl rfl (by rw [hk0]) (by rw [hn0]) (nle rfl) (nle rfl) dX10_init_6 (fun q c C => ?_)
  refine Wx_PH (fun H h => PX_num (k := 49) SB_dz (fun i => rfl) (fun i => rfl) (fun i => rfl) h) ?_
  show Wx _ _ _ (PX _ (dz 48 cz_X48)) _ _ [.ref 49, .ref 48]
  have hG := hG.k (a := 1) (b := 5)
  have hI := hI.k (a := 1) (b := 5)
  have hE := hE.k (a := 1) (b := 5)
  have had := had_up (q := q) (c := c) had (nle rfl)
  refine x_putF C hI (xkfX_X10_9 rfl rfl) (by first | exact Or.inl ⟨_, rfl⟩ | exact Or.inr ⟨_, rfl⟩) (nlt rfl) rfl dX10_init_8 ?_
  refine x_aload_n (i := 0) C dX10_init_11 rfl rfl ?_
  refine x_iconst C dX10_init_12 ?_
  refine x_newarr (at0 := .long) (ty := .long) (q0 := 0) (nn := 5) (a0 := (5, .inr (.inl (fun _ => 0)))) (kd := 2) (a := 2) (b := 10) C hG rfl acX_long (fun _ => rfl) (fun _ => rfl) rfl (by decide) rfl (nle rfl) (nle rfl) (rbX_S 50 shX rfl rfl (by decide +kernel)) rfl rfl (by rw [eK.k]) (by rw [eN.k]) (nle rfl) (nle rfl) dX10_init_13 (fun q c C => ?_)
  refine Wx_PH (fun H h => PX_num (k := 50) SB_dz (fun i => rfl) (fun i => rfl) (fun i => rfl) h) ?_
  show Wx _ _ _ (PX _ (upR (dz 48 cz_X48) 48 0 (some 49))) _ _ [.ref 50, .ref 48]
  have hG := hG.k (a := 2) (b := 10)
  have hI := hI.k (a := 2) (b := 10)
  have hE := hE.k (a := 2) (b := 10)
  have had := had_up (q := q) (c := c) had (nle rfl)
  refine x_putF C hI (xkfX_X10_15 rfl rfl) (by first | exact Or.inl ⟨_, rfl⟩ | exact Or.inr ⟨_, rfl⟩) (nlt rfl) rfl dX10_init_15 ?_
  refine x_aload_n (i := 0) C dX10_init_18 rfl rfl ?_
  refine x_iconst C dX10_init_19 ?_
  refine x_putI C (xkpX_X10_18 rfl rfl) (nlt rfl) rfl dX10_init_20 ?_
  refine x_aload_n (i := 0) C dX10_init_23 rfl rfl ?_
  refine x_aload_nN (i := 1) C dX10_init_24 rfl rfl ?_
  refine x_putN C hI (xkfX_X10_22 rfl rfl) (by first | exact Or.inl ⟨_, rfl⟩ | exact Or.inr ⟨_, rfl⟩) (nlt rfl) rfl dX10_init_25 ?_
  refine Wx_PH (fun H h => PX_many (Y := cz_X48) (sh := shX) [48] rfl (SL_upR rfl (SL_upI rfl (SL_upR rfl (SL_upR rfl (SL_dz rfl SL_rf))))) (by decide +kernel) h) ?_
  exact x_vretG C rfl hE eK.k eN.k had dX10_init_28
def cz_X51 : XT := (upR (upR (upR (upR (upR (dz 42 (upR (dz 38 cz_X38) 38 0 (some 39))) 38 1 (some 42)) 38 2 (some 43)) 38 5 (some 44)) 42 0 (some 45)) 42 1 (some 48))
set_option maxHeartbeats 4000000 in
set_option maxRecDepth 100000 in
theorem ct_X51 {D : va_G} : MetG (bX D) yX10_init cX10_init 2 1 30 2 10 [.ref 51, .null] 52 54 (dz 51 cz_X51) cz_X51 := by
  refine MetG.mk (own := RX10) (by decide +kernel) rfl rfl (nle rfl) (fun E ad cA C hG hI hE hk0 hn0 => ?_)
  refine Wx_lv (lv' := [(0, .ref 51), (1, .null)]) rfl ?_
  have had : ∀ k, k < 52 → wA (mkW (bX D) 52 ad cA) k = ad k := fun _ _ => rfl
  refine x_aload_n (i := 0) C dX10_init_0 rfl rfl ?_
  refine x_objInit C oiX10_3.1 oiX10_3.2.1 oiX10_3.2.2 (nle rfl) (nle rfl) dX10_init_1 ?_
  refine x_aload_n (i := 0) C dX10_init_4 rfl rfl ?_
  refine x_iconst C dX10_init_5 ?_
  refine x_newarr (at0 := .long) (ty := .long) (q0 := 0) (nn := 5) (a0 := (5, .inr (.inl (fun _ => 0)))) (kd := 2) (a := 1) (b := 5) C hG rfl acX_long (fun _ => rfl) (fun _ => rfl) rfl (by decide) rfl (nle rfl) (nle rfl) (rbX_S 52 shX rfl rfl (by decide +kernel)) rfl rfl (by rw [hk0]) (by rw [hn0]) (nle rfl) (nle rfl) dX10_init_6 (fun q c C => ?_)
  refine Wx_PH (fun H h => PX_num (k := 52) SB_dz (fun i => rfl) (fun i => rfl) (fun i => rfl) h) ?_
  show Wx _ _ _ (PX _ (dz 51 cz_X51)) _ _ [.ref 52, .ref 51]
  have hG := hG.k (a := 1) (b := 5)
  have hI := hI.k (a := 1) (b := 5)
  have hE := hE.k (a := 1) (b := 5)
  have had := had_up (q := q) (c := c) had (nle rfl)
  refine x_putF C hI (xkfX_X10_9 rfl rfl) (by first | exact Or.inl ⟨_, rfl⟩ | exact Or.inr ⟨_, rfl⟩) (nlt rfl) rfl dX10_init_8 ?_
  refine x_aload_n (i := 0) C dX10_init_11 rfl rfl ?_
  refine x_iconst C dX10_init_12 ?_
  refine x_newarr (at0 := .long) (ty := .long) (q0 := 0) (nn := 5) (a0 := (5, .inr (.inl (fun _ => 0)))) (kd := 2) (a := 2) (b := 10) C hG rfl acX_long (fun _ => rfl) (fun _ => rfl) rfl (by decide) rfl (nle rfl) (nle rfl) (rbX_S 53 shX rfl rfl (by decide +kernel)) rfl rfl (by rw [eK.k]) (by rw [eN.k]) (nle rfl) (nle rfl) dX10_init_13 (fun q c C => ?_)
  refine Wx_PH (fun H h => PX_num (k := 53) SB_dz (fun i => rfl) (fun i => rfl) (fun i => rfl) h) ?_
  show Wx _ _ _ (PX _ (upR (dz 51 cz_X51) 51 0 (some 52))) _ _ [.ref 53, .ref 51]
  have hG := hG.k (a := 2) (b := 10)
  have hI := hI.k (a := 2) (b := 10)
  have hE := hE.k (a := 2) (b := 10)
  have had := had_up (q := q) (c := c) had (nle rfl)
  refine x_putF C hI (xkfX_X10_15 rfl rfl) (by first | exact Or.inl ⟨_, rfl⟩ | exact Or.inr ⟨_, rfl⟩) (nlt rfl) rfl dX10_init_15 ?_
  refine x_aload_n (i := 0) C dX10_init_18 rfl rfl ?_
  refine x_iconst C dX10_init_19 ?_
  refine x_putI C (xkpX_X10_18 rfl rfl) (nlt rfl) rfl dX10_init_20 ?_
  refine x_aload_n (i := 0) C dX10_init_23 rfl rfl ?_
  refine x_aload_nN (i := 1) C dX10_init_24 rfl rfl ?_
  refine x_putN C hI (xkfX_X10_22 rfl rfl) (by first | exact Or.inl ⟨_, rfl⟩ | exact Or.inr ⟨_, rfl⟩) (nlt rfl) rfl dX10_init_25 ?_
  refine Wx_PH (fun H h => PX_many (Y := cz_X51) (sh := shX) [51] rfl (SL_upR rfl (SL_upI rfl (SL_upR rfl (SL_upR rfl (SL_dz rfl SL_rf))))) (by decide +kernel) h) ?_
  exact x_vretG C rfl hE eK.k eN.k had dX10_init_28
def cz_X54 : XT := (upR (upR (upR (upR (upR (upR (dz 42 (upR (dz 38 cz_X38) 38 0 (some 39))) 38 1 (some 42)) 38 2 (some 43)) 38 5 (some 44)) 42 0 (some 45)) 42 1 (some 48)) 42 2 (some 51))
set_option maxHeartbeats 4000000 in
set_option maxRecDepth 100000 in
theorem ct_X54 {D : va_G} : MetG (bX D) yX10_init cX10_init 2 1 30 2 10 [.ref 54, .null] 55 57 (dz 54 cz_X54) cz_X54 := by
  refine MetG.mk (own := RX10) (by decide +kernel) rfl rfl (nle rfl) (fun E ad cA C hG hI hE hk0 hn0 => ?_)
  refine Wx_lv (lv' := [(0, .ref 54), (1, .null)]) rfl ?_
  have had : ∀ k, k < 55 → wA (mkW (bX D) 55 ad cA) k = ad k := fun _ _ => rfl
  refine x_aload_n (i := 0) C dX10_init_0 rfl rfl ?_
  refine x_objInit C oiX10_3.1 oiX10_3.2.1 oiX10_3.2.2 (nle rfl) (nle rfl) dX10_init_1 ?_
  refine x_aload_n (i := 0) C dX10_init_4 rfl rfl ?_
  refine x_iconst C dX10_init_5 ?_
  refine x_newarr (at0 := .long) (ty := .long) (q0 := 0) (nn := 5) (a0 := (5, .inr (.inl (fun _ => 0)))) (kd := 2) (a := 1) (b := 5) C hG rfl acX_long (fun _ => rfl) (fun _ => rfl) rfl (by decide) rfl (nle rfl) (nle rfl) (rbX_S 55 shX rfl rfl (by decide +kernel)) rfl rfl (by rw [hk0]) (by rw [hn0]) (nle rfl) (nle rfl) dX10_init_6 (fun q c C => ?_)
  refine Wx_PH (fun H h => PX_num (k := 55) SB_dz (fun i => rfl) (fun i => rfl) (fun i => rfl) h) ?_
  show Wx _ _ _ (PX _ (dz 54 cz_X54)) _ _ [.ref 55, .ref 54]
  have hG := hG.k (a := 1) (b := 5)
  have hI := hI.k (a := 1) (b := 5)
  have hE := hE.k (a := 1) (b := 5)
  have had := had_up (q := q) (c := c) had (nle rfl)
  refine x_putF C hI (xkfX_X10_9 rfl rfl) (by first | exact Or.inl ⟨_, rfl⟩ | exact Or.inr ⟨_, rfl⟩) (nlt rfl) rfl dX10_init_8 ?_
  refine x_aload_n (i := 0) C dX10_init_11 rfl rfl ?_
  refine x_iconst C dX10_init_12 ?_
  refine x_newarr (at0 := .long) (ty := .long) (q0 := 0) (nn := 5) (a0 := (5, .inr (.inl (fun _ => 0)))) (kd := 2) (a := 2) (b := 10) C hG rfl acX_long (fun _ => rfl) (fun _ => rfl) rfl (by decide) rfl (nle rfl) (nle rfl) (rbX_S 56 shX rfl rfl (by decide +kernel)) rfl rfl (by rw [eK.k]) (by rw [eN.k]) (nle rfl) (nle rfl) dX10_init_13 (fun q c C => ?_)
  refine Wx_PH (fun H h => PX_num (k := 56) SB_dz (fun i => rfl) (fun i => rfl) (fun i => rfl) h) ?_
  show Wx _ _ _ (PX _ (upR (dz 54 cz_X54) 54 0 (some 55))) _ _ [.ref 56, .ref 54]
  have hG := hG.k (a := 2) (b := 10)
  have hI := hI.k (a := 2) (b := 10)
  have hE := hE.k (a := 2) (b := 10)
  have had := had_up (q := q) (c := c) had (nle rfl)
  refine x_putF C hI (xkfX_X10_15 rfl rfl) (by first | exact Or.inl ⟨_, rfl⟩ | exact Or.inr ⟨_, rfl⟩) (nlt rfl) rfl dX10_init_15 ?_
  refine x_aload_n (i := 0) C dX10_init_18 rfl rfl ?_
  refine x_iconst C dX10_init_19 ?_
  refine x_putI C (xkpX_X10_18 rfl rfl) (nlt rfl) rfl dX10_init_20 ?_
  refine x_aload_n (i := 0) C dX10_init_23 rfl rfl ?_
  refine x_aload_nN (i := 1) C dX10_init_24 rfl rfl ?_
  refine x_putN C hI (xkfX_X10_22 rfl rfl) (by first | exact Or.inl ⟨_, rfl⟩ | exact Or.inr ⟨_, rfl⟩) (nlt rfl) rfl dX10_init_25 ?_
  refine Wx_PH (fun H h => PX_many (Y := cz_X54) (sh := shX) [54] rfl (SL_upR rfl (SL_upI rfl (SL_upR rfl (SL_upR rfl (SL_dz rfl SL_rf))))) (by decide +kernel) h) ?_
  exact x_vretG C rfl hE eK.k eN.k had dX10_init_28
def cz_X57 : XT := (upR (upR (upR (upR (upR (upR (upR (dz 42 (upR (dz 38 cz_X38) 38 0 (some 39))) 38 1 (some 42)) 38 2 (some 43)) 38 5 (some 44)) 42 0 (some 45)) 42 1 (some 48)) 42 2 (some 51)) 42 3 (some 54))
set_option maxHeartbeats 4000000 in
set_option maxRecDepth 100000 in
theorem ct_X57 {D : va_G} : MetG (bX D) yX10_init cX10_init 2 1 30 2 10 [.ref 57, .null] 58 60 (dz 57 cz_X57) cz_X57 := by
  refine MetG.mk (own := RX10) (by decide +kernel) rfl rfl (nle rfl) (fun E ad cA C hG hI hE hk0 hn0 => ?_)
  refine Wx_lv (lv' := [(0, .ref 57), (1, .null)]) rfl ?_
  have had : ∀ k, k < 58 → wA (mkW (bX D) 58 ad cA) k = ad k := fun _ _ => rfl
  refine x_aload_n (i := 0) C dX10_init_0 rfl rfl ?_
  refine x_objInit C oiX10_3.1 oiX10_3.2.1 oiX10_3.2.2 (nle rfl) (nle rfl) dX10_init_1 ?_
  refine x_aload_n (i := 0) C dX10_init_4 rfl rfl ?_
  refine x_iconst C dX10_init_5 ?_
  refine x_newarr (at0 := .long) (ty := .long) (q0 := 0) (nn := 5) (a0 := (5, .inr (.inl (fun _ => 0)))) (kd := 2) (a := 1) (b := 5) C hG rfl acX_long (fun _ => rfl) (fun _ => rfl) rfl (by decide) rfl (nle rfl) (nle rfl) (rbX_S 58 shX rfl rfl (by decide +kernel)) rfl rfl (by rw [hk0]) (by rw [hn0]) (nle rfl) (nle rfl) dX10_init_6 (fun q c C => ?_)
  refine Wx_PH (fun H h => PX_num (k := 58) SB_dz (fun i => rfl) (fun i => rfl) (fun i => rfl) h) ?_
  show Wx _ _ _ (PX _ (dz 57 cz_X57)) _ _ [.ref 58, .ref 57]
  have hG := hG.k (a := 1) (b := 5)
  have hI := hI.k (a := 1) (b := 5)
  have hE := hE.k (a := 1) (b := 5)
  have had := had_up (q := q) (c := c) had (nle rfl)
  refine x_putF C hI (xkfX_X10_9 rfl rfl) (by first | exact Or.inl ⟨_, rfl⟩ | exact Or.inr ⟨_, rfl⟩) (nlt rfl) rfl dX10_init_8 ?_
  refine x_aload_n (i := 0) C dX10_init_11 rfl rfl ?_
  refine x_iconst C dX10_init_12 ?_
  refine x_newarr (at0 := .long) (ty := .long) (q0 := 0) (nn := 5) (a0 := (5, .inr (.inl (fun _ => 0)))) (kd := 2) (a := 2) (b := 10) C hG rfl acX_long (fun _ => rfl) (fun _ => rfl) rfl (by decide) rfl (nle rfl) (nle rfl) (rbX_S 59 shX rfl rfl (by decide +kernel)) rfl rfl (by rw [eK.k]) (by rw [eN.k]) (nle rfl) (nle rfl) dX10_init_13 (fun q c C => ?_)
  refine Wx_PH (fun H h => PX_num (k := 59) SB_dz (fun i => rfl) (fun i => rfl) (fun i => rfl) h) ?_
  show Wx _ _ _ (PX _ (upR (dz 57 cz_X57) 57 0 (some 58))) _ _ [.ref 59, .ref 57]
  have hG := hG.k (a := 2) (b := 10)
  have hI := hI.k (a := 2) (b := 10)
  have hE := hE.k (a := 2) (b := 10)
  have had := had_up (q := q) (c := c) had (nle rfl)
  refine x_putF C hI (xkfX_X10_15 rfl rfl) (by first | exact Or.inl ⟨_, rfl⟩ | exact Or.inr ⟨_, rfl⟩) (nlt rfl) rfl dX10_init_15 ?_
  refine x_aload_n (i := 0) C dX10_init_18 rfl rfl ?_
  refine x_iconst C dX10_init_19 ?_
  refine x_putI C (xkpX_X10_18 rfl rfl) (nlt rfl) rfl dX10_init_20 ?_
  refine x_aload_n (i := 0) C dX10_init_23 rfl rfl ?_
  refine x_aload_nN (i := 1) C dX10_init_24 rfl rfl ?_
  refine x_putN C hI (xkfX_X10_22 rfl rfl) (by first | exact Or.inl ⟨_, rfl⟩ | exact Or.inr ⟨_, rfl⟩) (nlt rfl) rfl dX10_init_25 ?_
  refine Wx_PH (fun H h => PX_many (Y := cz_X57) (sh := shX) [57] rfl (SL_upR rfl (SL_upI rfl (SL_upR rfl (SL_upR rfl (SL_dz rfl SL_rf))))) (by decide +kernel) h) ?_
  exact x_vretG C rfl hE eK.k eN.k had dX10_init_28
set_option maxHeartbeats 4000000 in
set_option maxRecDepth 100000 in
theorem ct_X38 {D : va_G} : MetG (bX D) yX4_init cX4_init 2 2 51 21 16481 [.ref 38] 39 60 (dz 38 cz_X38) cz_X38 := by
  refine MetG.mk (own := RX4) (by decide +kernel) rfl rfl (nle rfl) (fun E ad cA C hG hI hE hk0 hn0 => ?_)
  refine Wx_lv (lv' := [(0, .ref 38)]) rfl ?_
  have had : ∀ k, k < 39 → wA (mkW (bX D) 39 ad cA) k = ad k := fun _ _ => rfl
  refine x_aload_n (i := 0) C dX4_init_0 rfl rfl ?_
  refine x_objInit C oiX4_3.1 oiX4_3.2.1 oiX4_3.2.2 (nle rfl) (nle rfl) dX4_init_1 ?_
  refine x_aload_n (i := 0) C dX4_init_4 rfl rfl ?_
  refine x_new (a := 1) (b := 5) C hG inX3 tyX3_ok rfl rfl nwX_X4_9.1 nwX_X4_9.2.1 nwX_X4_9.2.2 (fun j hj => by rcases (show j = 0 ∨ j = 1 ∨ j = 2 ∨ j = 3 ∨ j = 4 by omega) with rfl | rfl | rfl | rfl | rfl <;> rfl) (rbX_S 39 shX rfl rfl (by decide +kernel)) rfl rfl (by rw [hk0]) (by rw [hn0]) (nle rfl) (nle rfl) dX4_init_5 (fun q c C => ?_)
  show Wx _ _ _ (PX _ (dz 39 (dz 38 cz_X38))) _ _ [.ref 39, .ref 38]
  have hG := hG.k (a := 1) (b := 5)
  have hI := hI.k (a := 1) (b := 5)
  have hE := hE.k (a := 1) (b := 5)
  have had := had_up (q := q) (c := c) had (nle rfl)
  refine x_dup C dX4_init_8 rfl ?_
  refine x_callG (k := 39) (As := []) (a := 3) (b' := 13) C hG rfl ct_X39 (Or.inr ciX4_11) im_X3_init rfl rfl rfl (nle rfl) ⟨nle rfl, nle rfl⟩ rfl rfl (by rw [eK.k]) (by rw [eN.k]) (nle rfl) (nle rfl) dX4_init_9 (fun ad10 cA10 C hadk => ?_)
  have had : ∀ k, k < 39 → wA (mkW (bX D) 42 ad10 cA10) k = ad k := fun k hk => (hadk k (Nat.lt_of_lt_of_le hk (nle rfl))).trans (had k hk)
  clear hadk
  have hG := hG.k (a := 3) (b := 13)
  have hI := hI.k (a := 3) (b := 13)
  have hE := hE.k (a := 3) (b := 13)
  refine x_putF C hI (xkfX_X4_12 rfl rfl) (by first | exact Or.inl ⟨_, rfl⟩ | exact Or.inr ⟨_, rfl⟩) (nlt rfl) rfl dX4_init_12 ?_
  refine x_aload_n (i := 0) C dX4_init_15 rfl rfl ?_
  refine x_iconst C dX4_init_16 ?_
  refine x_anew (nn := 5) (a := 4) (b := 18) C hG naX4_18.1 naX4_18.2 rfl rfl (nle rfl) (rbX_S 42 shX rfl rfl (by decide +kernel)) rfl rfl (by rw [eK.k]) (by rw [eN.k]) (nle rfl) (nle rfl) dX4_init_17 (fun q c C => ?_)
  show Wx _ _ _ (PX _ (dz 42 (upR (dz 38 cz_X38) 38 0 (some 39)))) _ _ [.ref 42, .ref 38]
  have hG := hG.k (a := 4) (b := 18)
  have hI := hI.k (a := 4) (b := 18)
  have hE := hE.k (a := 4) (b := 18)
  have had := had_up (q := q) (c := c) had (nle rfl)
  refine x_putF C hI (xkfX_X4_20 rfl rfl) (by first | exact Or.inl ⟨_, rfl⟩ | exact Or.inr ⟨_, rfl⟩) (nlt rfl) rfl dX4_init_20 ?_
  refine x_aload_n (i := 0) C dX4_init_23 rfl rfl ?_
  refine x_iconst C dX4_init_24 ?_
  refine x_newarr (at0 := .int) (ty := .int) (q0 := 0) (nn := 4) (a0 := (4, .inl (fun _ => 0))) (kd := 1) (a := 5) (b := 22) C hG rfl acX_int (fun _ => rfl) (fun _ => rfl) rfl (by decide) rfl (nle rfl) (nle rfl) (rbX_S 43 shX rfl rfl (by decide +kernel)) rfl rfl (by rw [eK.k]) (by rw [eN.k]) (nle rfl) (nle rfl) dX4_init_25 (fun q c C => ?_)
  refine Wx_PH (fun H h => PX_num (k := 43) SB_dz (fun i => rfl) (fun i => rfl) (fun i => rfl) h) ?_
  show Wx _ _ _ (PX _ (upR (dz 42 (upR (dz 38 cz_X38) 38 0 (some 39))) 38 1 (some 42))) _ _ [.ref 43, .ref 38]
  have hG := hG.k (a := 5) (b := 22)
  have hI := hI.k (a := 5) (b := 22)
  have hE := hE.k (a := 5) (b := 22)
  have had := had_up (q := q) (c := c) had (nle rfl)
  refine x_putF C hI (xkfX_X4_24 rfl rfl) (by first | exact Or.inl ⟨_, rfl⟩ | exact Or.inr ⟨_, rfl⟩) (nlt rfl) rfl dX4_init_27 ?_
  refine x_aload_n (i := 0) C dX4_init_30 rfl rfl ?_
  refine x_sipush C dX4_init_31 (by decide) ?_
  refine x_newarr (at0 := .long) (ty := .long) (q0 := 0) (nn := 16384) (a0 := (16384, .inr (.inl (fun _ => 0)))) (kd := 2) (a := 6) (b := 16406) C hG rfl acX_long (fun _ => rfl) (fun _ => rfl) rfl (by decide) rfl (nle rfl) (nle rfl) (rbX_S 44 shX rfl rfl (by decide +kernel)) rfl rfl (by rw [eK.k]) (by rw [eN.k]) (nle rfl) (nle rfl) dX4_init_34 (fun q c C => ?_)
  refine Wx_PH (fun H h => PX_num (k := 44) SB_dz (fun i => rfl) (fun i => rfl) (fun i => rfl) h) ?_
  show Wx _ _ _ (PX _ (upR (upR (dz 42 (upR (dz 38 cz_X38) 38 0 (some 39))) 38 1 (some 42)) 38 2 (some 43))) _ _ [.ref 44, .ref 38]
  have hG := hG.k (a := 6) (b := 16406)
  have hI := hI.k (a := 6) (b := 16406)
  have hE := hE.k (a := 6) (b := 16406)
  have had := had_up (q := q) (c := c) had (nle rfl)
  refine x_putF C hI (xkfX_X4_28 rfl rfl) (by first | exact Or.inl ⟨_, rfl⟩ | exact Or.inr ⟨_, rfl⟩) (nlt rfl) rfl dX4_init_36 ?_
  refine x_iconst C dX4_init_39 ?_
  refine x_istore_n (i := 1) (lv' := [(1, .int (iI (0))), (0, .ref 38)]) C dX4_init_40 rfl (nlt rfl) rfl ?_
  refine x_iload_n (i := 1) C dX4_init_41 rfl rfl ?_
  refine x_iconst C dX4_init_42 ?_
  refine x_icmp_gt (tgt := 66) C dX4_init_43 (by decide) ⟨by omega, by omega⟩ ⟨by omega, by omega⟩ (fun h => by exfalso; omega) (fun h => ?_)
  clear h
  refine x_aload_n (i := 0) C dX4_init_46 rfl rfl ?_
  refine x_getRs (r := 42) C (xkgX_X4_20 rfl rfl) (nlt rfl) rfl rfl dX4_init_47 ?_
  refine x_iload_n (i := 1) C dX4_init_50 rfl rfl ?_
  refine x_new (a := 7) (b := 16411) C hG inX10 tyX10_ok rfl rfl nwX_X4_18.1 nwX_X4_18.2.1 nwX_X4_18.2.2 (fun j hj => by rcases (show j = 0 ∨ j = 1 ∨ j = 2 ∨ j = 3 ∨ j = 4 by omega) with rfl | rfl | rfl | rfl | rfl <;> rfl) (rbX_S 45 shX rfl rfl (by decide +kernel)) rfl rfl (by rw [eK.k]) (by rw [eN.k]) (nle rfl) (nle rfl) dX4_init_51 (fun q c C => ?_)
  show Wx _ _ _ (PX _ (dz 45 (upR (upR (upR (dz 42 (upR (dz 38 cz_X38) 38 0 (some 39))) 38 1 (some 42)) 38 2 (some 43)) 38 5 (some 44)))) _ _ [.ref 45, .int (iI (0)), .ref 42]
  have hG := hG.k (a := 7) (b := 16411)
  have hI := hI.k (a := 7) (b := 16411)
  have hE := hE.k (a := 7) (b := 16411)
  have had := had_up (q := q) (c := c) had (nle rfl)
  refine x_dup C dX4_init_54 rfl ?_
  refine x_null C dX4_init_55 ?_
  refine x_callG (host := "") (k := 45) (As := [.null]) (a := 9) (b' := 16421) C hG rfl ct_X45 (Or.inl (show CKB RX4 32 yX10_init cX10_init 2 none 1 from ckX4_32)) im_X10_init rfl rfl rfl (nle rfl) ⟨nle rfl, nle rfl⟩ rfl rfl (by rw [eK.k]) (by rw [eN.k]) (nle rfl) (nle rfl) dX4_init_56 (fun ad11 cA11 C hadk => ?_)
  have had : ∀ k, k < 39 → wA (mkW (bX D) 48 ad11 cA11) k = ad k := fun k hk => (hadk k (Nat.lt_of_lt_of_le hk (nle rfl))).trans (had k hk)
  clear hadk
  have hG := hG.k (a := 9) (b := 16421)
  have hI := hI.k (a := 9) (b := 16421)
  have hE := hE.k (a := 9) (b := 16421)
  refine x_aast C (nlt rfl) rfl rfl (nlt rfl) rfl rfl (nle rfl) (by omega) (by omega) dX4_init_59 ?_
  refine x_iinc (lv' := [(1, .int (iI (0 + 1))), (0, .ref 38)]) C dX4_init_60 rfl (nlt rfl) rfl ?_
  refine Wx_lv (lv' := [(1, .int (iI (1))), (0, .ref 38)]) rfl ?_
  refine x_goto (tgt := 41) C dX4_init_63 (by decide) ?_
  refine x_iload_n (i := 1) C dX4_init_41 rfl rfl ?_
  refine x_iconst C dX4_init_42 ?_
  refine x_icmp_gt (tgt := 66) C dX4_init_43 (by decide) ⟨by omega, by omega⟩ ⟨by omega, by omega⟩ (fun h => by exfalso; omega) (fun h => ?_)
  clear h
  refine x_aload_n (i := 0) C dX4_init_46 rfl rfl ?_
  refine x_getRs (r := 42) C (xkgX_X4_20 rfl rfl) (nlt rfl) rfl rfl dX4_init_47 ?_
  refine x_iload_n (i := 1) C dX4_init_50 rfl rfl ?_
  refine x_new (a := 10) (b := 16426) C hG inX10 tyX10_ok rfl rfl nwX_X4_18.1 nwX_X4_18.2.1 nwX_X4_18.2.2 (fun j hj => by rcases (show j = 0 ∨ j = 1 ∨ j = 2 ∨ j = 3 ∨ j = 4 by omega) with rfl | rfl | rfl | rfl | rfl <;> rfl) (rbX_S 48 shX rfl rfl (by decide +kernel)) rfl rfl (by rw [eK.k]) (by rw [eN.k]) (nle rfl) (nle rfl) dX4_init_51 (fun q c C => ?_)
  show Wx _ _ _ (PX _ (dz 48 (upR (upR (upR (upR (dz 42 (upR (dz 38 cz_X38) 38 0 (some 39))) 38 1 (some 42)) 38 2 (some 43)) 38 5 (some 44)) 42 0 (some 45)))) _ _ [.ref 48, .int (iI (1)), .ref 42]
  have hG := hG.k (a := 10) (b := 16426)
  have hI := hI.k (a := 10) (b := 16426)
  have hE := hE.k (a := 10) (b := 16426)
  have had := had_up (q := q) (c := c) had (nle rfl)
  refine x_dup C dX4_init_54 rfl ?_
  refine x_null C dX4_init_55 ?_
  refine x_callG (host := "") (k := 48) (As := [.null]) (a := 12) (b' := 16436) C hG rfl ct_X48 (Or.inl (show CKB RX4 32 yX10_init cX10_init 2 none 1 from ckX4_32)) im_X10_init rfl rfl rfl (nle rfl) ⟨nle rfl, nle rfl⟩ rfl rfl (by rw [eK.k]) (by rw [eN.k]) (nle rfl) (nle rfl) dX4_init_56 (fun ad12 cA12 C hadk => ?_)
  have had : ∀ k, k < 39 → wA (mkW (bX D) 51 ad12 cA12) k = ad k := fun k hk => (hadk k (Nat.lt_of_lt_of_le hk (nle rfl))).trans (had k hk)
  clear hadk
  have hG := hG.k (a := 12) (b := 16436)
  have hI := hI.k (a := 12) (b := 16436)
  have hE := hE.k (a := 12) (b := 16436)
  refine x_aast C (nlt rfl) rfl rfl (nlt rfl) rfl rfl (nle rfl) (by omega) (by omega) dX4_init_59 ?_
  refine x_iinc (lv' := [(1, .int (iI (1 + 1))), (0, .ref 38)]) C dX4_init_60 rfl (nlt rfl) rfl ?_
  refine Wx_lv (lv' := [(1, .int (iI (2))), (0, .ref 38)]) rfl ?_
  refine x_goto (tgt := 41) C dX4_init_63 (by decide) ?_
  refine x_iload_n (i := 1) C dX4_init_41 rfl rfl ?_
  refine x_iconst C dX4_init_42 ?_
  refine x_icmp_gt (tgt := 66) C dX4_init_43 (by decide) ⟨by omega, by omega⟩ ⟨by omega, by omega⟩ (fun h => by exfalso; omega) (fun h => ?_)
  clear h
  refine x_aload_n (i := 0) C dX4_init_46 rfl rfl ?_
  refine x_getRs (r := 42) C (xkgX_X4_20 rfl rfl) (nlt rfl) rfl rfl dX4_init_47 ?_
  refine x_iload_n (i := 1) C dX4_init_50 rfl rfl ?_
  refine x_new (a := 13) (b := 16441) C hG inX10 tyX10_ok rfl rfl nwX_X4_18.1 nwX_X4_18.2.1 nwX_X4_18.2.2 (fun j hj => by rcases (show j = 0 ∨ j = 1 ∨ j = 2 ∨ j = 3 ∨ j = 4 by omega) with rfl | rfl | rfl | rfl | rfl <;> rfl) (rbX_S 51 shX rfl rfl (by decide +kernel)) rfl rfl (by rw [eK.k]) (by rw [eN.k]) (nle rfl) (nle rfl) dX4_init_51 (fun q c C => ?_)
  show Wx _ _ _ (PX _ (dz 51 (upR (upR (upR (upR (upR (dz 42 (upR (dz 38 cz_X38) 38 0 (some 39))) 38 1 (some 42)) 38 2 (some 43)) 38 5 (some 44)) 42 0 (some 45)) 42 1 (some 48)))) _ _ [.ref 51, .int (iI (2)), .ref 42]
  have hG := hG.k (a := 13) (b := 16441)
  have hI := hI.k (a := 13) (b := 16441)
  have hE := hE.k (a := 13) (b := 16441)
  have had := had_up (q := q) (c := c) had (nle rfl)
  refine x_dup C dX4_init_54 rfl ?_
  refine x_null C dX4_init_55 ?_
  refine x_callG (host := "") (k := 51) (As := [.null]) (a := 15) (b' := 16451) C hG rfl ct_X51 (Or.inl (show CKB RX4 32 yX10_init cX10_init 2 none 1 from ckX4_32)) im_X10_init rfl rfl rfl (nle rfl) ⟨nle rfl, nle rfl⟩ rfl rfl (by rw [eK.k]) (by rw [eN.k]) (nle rfl) (nle rfl) dX4_init_56 (fun ad13 cA13 C hadk => ?_)
  have had : ∀ k, k < 39 → wA (mkW (bX D) 54 ad13 cA13) k = ad k := fun k hk => (hadk k (Nat.lt_of_lt_of_le hk (nle rfl))).trans (had k hk)
  clear hadk
  have hG := hG.k (a := 15) (b := 16451)
  have hI := hI.k (a := 15) (b := 16451)
  have hE := hE.k (a := 15) (b := 16451)
  refine x_aast C (nlt rfl) rfl rfl (nlt rfl) rfl rfl (nle rfl) (by omega) (by omega) dX4_init_59 ?_
  refine x_iinc (lv' := [(1, .int (iI (2 + 1))), (0, .ref 38)]) C dX4_init_60 rfl (nlt rfl) rfl ?_
  refine Wx_lv (lv' := [(1, .int (iI (3))), (0, .ref 38)]) rfl ?_
  refine x_goto (tgt := 41) C dX4_init_63 (by decide) ?_
  refine x_iload_n (i := 1) C dX4_init_41 rfl rfl ?_
  refine x_iconst C dX4_init_42 ?_
  refine x_icmp_gt (tgt := 66) C dX4_init_43 (by decide) ⟨by omega, by omega⟩ ⟨by omega, by omega⟩ (fun h => by exfalso; omega) (fun h => ?_)
  clear h
  refine x_aload_n (i := 0) C dX4_init_46 rfl rfl ?_
  refine x_getRs (r := 42) C (xkgX_X4_20 rfl rfl) (nlt rfl) rfl rfl dX4_init_47 ?_
  refine x_iload_n (i := 1) C dX4_init_50 rfl rfl ?_
  refine x_new (a := 16) (b := 16456) C hG inX10 tyX10_ok rfl rfl nwX_X4_18.1 nwX_X4_18.2.1 nwX_X4_18.2.2 (fun j hj => by rcases (show j = 0 ∨ j = 1 ∨ j = 2 ∨ j = 3 ∨ j = 4 by omega) with rfl | rfl | rfl | rfl | rfl <;> rfl) (rbX_S 54 shX rfl rfl (by decide +kernel)) rfl rfl (by rw [eK.k]) (by rw [eN.k]) (nle rfl) (nle rfl) dX4_init_51 (fun q c C => ?_)
  show Wx _ _ _ (PX _ (dz 54 (upR (upR (upR (upR (upR (upR (dz 42 (upR (dz 38 cz_X38) 38 0 (some 39))) 38 1 (some 42)) 38 2 (some 43)) 38 5 (some 44)) 42 0 (some 45)) 42 1 (some 48)) 42 2 (some 51)))) _ _ [.ref 54, .int (iI (3)), .ref 42]
  have hG := hG.k (a := 16) (b := 16456)
  have hI := hI.k (a := 16) (b := 16456)
  have hE := hE.k (a := 16) (b := 16456)
  have had := had_up (q := q) (c := c) had (nle rfl)
  refine x_dup C dX4_init_54 rfl ?_
  refine x_null C dX4_init_55 ?_
  refine x_callG (host := "") (k := 54) (As := [.null]) (a := 18) (b' := 16466) C hG rfl ct_X54 (Or.inl (show CKB RX4 32 yX10_init cX10_init 2 none 1 from ckX4_32)) im_X10_init rfl rfl rfl (nle rfl) ⟨nle rfl, nle rfl⟩ rfl rfl (by rw [eK.k]) (by rw [eN.k]) (nle rfl) (nle rfl) dX4_init_56 (fun ad14 cA14 C hadk => ?_)
  have had : ∀ k, k < 39 → wA (mkW (bX D) 57 ad14 cA14) k = ad k := fun k hk => (hadk k (Nat.lt_of_lt_of_le hk (nle rfl))).trans (had k hk)
  clear hadk
  have hG := hG.k (a := 18) (b := 16466)
  have hI := hI.k (a := 18) (b := 16466)
  have hE := hE.k (a := 18) (b := 16466)
  refine x_aast C (nlt rfl) rfl rfl (nlt rfl) rfl rfl (nle rfl) (by omega) (by omega) dX4_init_59 ?_
  refine x_iinc (lv' := [(1, .int (iI (3 + 1))), (0, .ref 38)]) C dX4_init_60 rfl (nlt rfl) rfl ?_
  refine Wx_lv (lv' := [(1, .int (iI (4))), (0, .ref 38)]) rfl ?_
  refine x_goto (tgt := 41) C dX4_init_63 (by decide) ?_
  refine x_iload_n (i := 1) C dX4_init_41 rfl rfl ?_
  refine x_iconst C dX4_init_42 ?_
  refine x_icmp_gt (tgt := 66) C dX4_init_43 (by decide) ⟨by omega, by omega⟩ ⟨by omega, by omega⟩ (fun h => by exfalso; omega) (fun h => ?_)
  clear h
  refine x_aload_n (i := 0) C dX4_init_46 rfl rfl ?_
  refine x_getRs (r := 42) C (xkgX_X4_20 rfl rfl) (nlt rfl) rfl rfl dX4_init_47 ?_
  refine x_iload_n (i := 1) C dX4_init_50 rfl rfl ?_
  refine x_new (a := 19) (b := 16471) C hG inX10 tyX10_ok rfl rfl nwX_X4_18.1 nwX_X4_18.2.1 nwX_X4_18.2.2 (fun j hj => by rcases (show j = 0 ∨ j = 1 ∨ j = 2 ∨ j = 3 ∨ j = 4 by omega) with rfl | rfl | rfl | rfl | rfl <;> rfl) (rbX_S 57 shX rfl rfl (by decide +kernel)) rfl rfl (by rw [eK.k]) (by rw [eN.k]) (nle rfl) (nle rfl) dX4_init_51 (fun q c C => ?_)
  show Wx _ _ _ (PX _ (dz 57 (upR (upR (upR (upR (upR (upR (upR (dz 42 (upR (dz 38 cz_X38) 38 0 (some 39))) 38 1 (some 42)) 38 2 (some 43)) 38 5 (some 44)) 42 0 (some 45)) 42 1 (some 48)) 42 2 (some 51)) 42 3 (some 54)))) _ _ [.ref 57, .int (iI (4)), .ref 42]
  have hG := hG.k (a := 19) (b := 16471)
  have hI := hI.k (a := 19) (b := 16471)
  have hE := hE.k (a := 19) (b := 16471)
  have had := had_up (q := q) (c := c) had (nle rfl)
  refine x_dup C dX4_init_54 rfl ?_
  refine x_null C dX4_init_55 ?_
  refine x_callG (host := "") (k := 57) (As := [.null]) (a := 21) (b' := 16481) C hG rfl ct_X57 (Or.inl (show CKB RX4 32 yX10_init cX10_init 2 none 1 from ckX4_32)) im_X10_init rfl rfl rfl (nle rfl) ⟨nle rfl, nle rfl⟩ rfl rfl (by rw [eK.k]) (by rw [eN.k]) (nle rfl) (nle rfl) dX4_init_56 (fun ad15 cA15 C hadk => ?_)
  have had : ∀ k, k < 39 → wA (mkW (bX D) 60 ad15 cA15) k = ad k := fun k hk => (hadk k (Nat.lt_of_lt_of_le hk (nle rfl))).trans (had k hk)
  clear hadk
  have hG := hG.k (a := 21) (b := 16481)
  have hI := hI.k (a := 21) (b := 16481)
  have hE := hE.k (a := 21) (b := 16481)
  refine x_aast C (nlt rfl) rfl rfl (nlt rfl) rfl rfl (nle rfl) (by omega) (by omega) dX4_init_59 ?_
  refine x_iinc (lv' := [(1, .int (iI (4 + 1))), (0, .ref 38)]) C dX4_init_60 rfl (nlt rfl) rfl ?_
  refine Wx_lv (lv' := [(1, .int (iI (5))), (0, .ref 38)]) rfl ?_
  refine x_goto (tgt := 41) C dX4_init_63 (by decide) ?_
  refine x_iload_n (i := 1) C dX4_init_41 rfl rfl ?_
  refine x_iconst C dX4_init_42 ?_
  refine x_icmp_gt (tgt := 66) C dX4_init_43 (by decide) ⟨by omega, by omega⟩ ⟨by omega, by omega⟩ (fun h => ?_) (fun h => by exfalso; omega)
  clear h
  refine Wx_PH (fun H h => PX_many (Y := cz_X38) (sh := shX) [38, 42] rfl (SL_upR rfl (SL_upR rfl (SL_upR rfl (SL_upR rfl (SL_upR rfl (SL_upR rfl (SL_upR rfl (SL_upR rfl (SL_dz rfl (SL_upR rfl (SL_dz rfl SL_rf))))))))))) (by decide +kernel) h) ?_
  exact x_vretG C rfl hE eK.k eN.k had dX4_init_66
def cz_X60 : XT := (upR (upR (upR (upR (upR (dz 19 (upR (dz 0 x0X) 0 0 (some 1))) 0 1 (some 19)) 0 2 (some 20)) 0 3 (some 21)) 0 4 (some 29)) 0 5 (some 38))
def cz_X62 : XT := (dz 61 (dz 60 cz_X60))
set_option maxHeartbeats 4000000 in
set_option maxRecDepth 100000 in
theorem ct_X62 {D : va_G} : MetG (bX D) yX0_init cX0_init 1 1 30 2 12 [.ref 62] 63 65 (dz 62 cz_X62) cz_X62 := by
  refine MetG.mk (own := RX0) (by decide +kernel) rfl rfl (nle rfl) (fun E ad cA C hG hI hE hk0 hn0 => ?_)
  refine Wx_lv (lv' := [(0, .ref 62)]) rfl ?_
  have had : ∀ k, k < 63 → wA (mkW (bX D) 63 ad cA) k = ad k := fun _ _ => rfl
  refine x_aload_n (i := 0) C dX0_init_0 rfl rfl ?_
  refine x_objInit C oiX0_3.1 oiX0_3.2.1 oiX0_3.2.2 (nle rfl) (nle rfl) dX0_init_1 ?_
  refine x_aload_n (i := 0) C dX0_init_4 rfl rfl ?_
  refine x_bipush C dX0_init_5 (by decide) ?_
  refine x_newarr (at0 := .int) (ty := .int) (q0 := 0) (nn := 6) (a0 := (6, .inl (fun _ => 0))) (kd := 1) (a := 1) (b := 6) C hG rfl acX_int (fun _ => rfl) (fun _ => rfl) rfl (by decide) rfl (nle rfl) (nle rfl) (rbX_S 63 shX rfl rfl (by decide +kernel)) rfl rfl (by rw [hk0]) (by rw [hn0]) (nle rfl) (nle rfl) dX0_init_7 (fun q c C => ?_)
  refine Wx_PH (fun H h => PX_num (k := 63) SB_dz (fun i => rfl) (fun i => rfl) (fun i => rfl) h) ?_
  show Wx _ _ _ (PX _ (dz 62 cz_X62)) _ _ [.ref 63, .ref 62]
  have hG := hG.k (a := 1) (b := 6)
  have hI := hI.k (a := 1) (b := 6)
  have hE := hE.k (a := 1) (b := 6)
  have had := had_up (q := q) (c := c) had (nle rfl)
  refine x_putF C hI (xkfX_X0_9 rfl rfl) (by first | exact Or.inl ⟨_, rfl⟩ | exact Or.inr ⟨_, rfl⟩) (nlt rfl) rfl dX0_init_9 ?_
  refine x_aload_n (i := 0) C dX0_init_12 rfl rfl ?_
  refine x_bipush C dX0_init_13 (by decide) ?_
  refine x_newarr (at0 := .int) (ty := .int) (q0 := 0) (nn := 6) (a0 := (6, .inl (fun _ => 0))) (kd := 1) (a := 2) (b := 12) C hG rfl acX_int (fun _ => rfl) (fun _ => rfl) rfl (by decide) rfl (nle rfl) (nle rfl) (rbX_S 64 shX rfl rfl (by decide +kernel)) rfl rfl (by rw [eK.k]) (by rw [eN.k]) (nle rfl) (nle rfl) dX0_init_15 (fun q c C => ?_)
  refine Wx_PH (fun H h => PX_num (k := 64) SB_dz (fun i => rfl) (fun i => rfl) (fun i => rfl) h) ?_
  show Wx _ _ _ (PX _ (upR (dz 62 cz_X62) 62 5 (some 63))) _ _ [.ref 64, .ref 62]
  have hG := hG.k (a := 2) (b := 12)
  have hI := hI.k (a := 2) (b := 12)
  have hE := hE.k (a := 2) (b := 12)
  have had := had_up (q := q) (c := c) had (nle rfl)
  refine x_putF C hI (xkfX_X0_15 rfl rfl) (by first | exact Or.inl ⟨_, rfl⟩ | exact Or.inr ⟨_, rfl⟩) (nlt rfl) rfl dX0_init_17 ?_
  refine Wx_PH (fun H h => PX_many (Y := cz_X62) (sh := shX) [62] rfl (SL_upR rfl (SL_upR rfl (SL_dz rfl SL_rf))) (by decide +kernel) h) ?_
  exact x_vretG C rfl hE eK.k eN.k had dX0_init_20
def cz_X61 : XT := (dz 60 cz_X60)
set_option maxHeartbeats 4000000 in
set_option maxRecDepth 100000 in
theorem ct_X61 {D : va_G} : MetG (bX D) yX7_init cX7_init 2 1 30 2 8 [.ref 61, .ref 62] 65 67 (dz 61 cz_X61) cz_X61 := by
  refine MetG.mk (own := RX7) (by decide +kernel) rfl rfl (nle rfl) (fun E ad cA C hG hI hE hk0 hn0 => ?_)
  refine Wx_lv (lv' := [(0, .ref 61), (1, .ref 62)]) rfl ?_
  have had : ∀ k, k < 65 → wA (mkW (bX D) 65 ad cA) k = ad k := fun _ _ => rfl
  refine x_aload_n (i := 0) C dX7_init_0 rfl rfl ?_
  refine x_objInit C oiX7_3.1 oiX7_3.2.1 oiX7_3.2.2 (nle rfl) (nle rfl) dX7_init_1 ?_
  refine x_aload_n (i := 0) C dX7_init_4 rfl rfl ?_
  refine x_bipush C dX7_init_5 (by decide) ?_
  refine x_newarr (at0 := .int) (ty := .int) (q0 := 0) (nn := 6) (a0 := (6, .inl (fun _ => 0))) (kd := 1) (a := 1) (b := 6) C hG rfl acX_int (fun _ => rfl) (fun _ => rfl) rfl (by decide) rfl (nle rfl) (nle rfl) (rbX_S 65 shX rfl rfl (by decide +kernel)) rfl rfl (by rw [hk0]) (by rw [hn0]) (nle rfl) (nle rfl) dX7_init_7 (fun q c C => ?_)
  refine Wx_PH (fun H h => PX_num (k := 65) SB_dz (fun i => rfl) (fun i => rfl) (fun i => rfl) h) ?_
  show Wx _ _ _ (PX _ (dz 61 cz_X61)) _ _ [.ref 65, .ref 61]
  have hG := hG.k (a := 1) (b := 6)
  have hI := hI.k (a := 1) (b := 6)
  have hE := hE.k (a := 1) (b := 6)
  have had := had_up (q := q) (c := c) had (nle rfl)
  refine x_putF C hI (xkfX_X7_9 rfl rfl) (by first | exact Or.inl ⟨_, rfl⟩ | exact Or.inr ⟨_, rfl⟩) (nlt rfl) rfl dX7_init_9 ?_
  refine x_aload_n (i := 0) C dX7_init_12 rfl rfl ?_
  refine x_iconst C dX7_init_13 ?_
  refine x_newarr (at0 := .int) (ty := .int) (q0 := 0) (nn := 2) (a0 := (2, .inl (fun _ => 0))) (kd := 1) (a := 2) (b := 8) C hG rfl acX_int (fun _ => rfl) (fun _ => rfl) rfl (by decide) rfl (nle rfl) (nle rfl) (rbX_S 66 shX rfl rfl (by decide +kernel)) rfl rfl (by rw [eK.k]) (by rw [eN.k]) (nle rfl) (nle rfl) dX7_init_14 (fun q c C => ?_)
  refine Wx_PH (fun H h => PX_num (k := 66) SB_dz (fun i => rfl) (fun i => rfl) (fun i => rfl) h) ?_
  show Wx _ _ _ (PX _ (upR (dz 61 cz_X61) 61 3 (some 65))) _ _ [.ref 66, .ref 61]
  have hG := hG.k (a := 2) (b := 8)
  have hI := hI.k (a := 2) (b := 8)
  have hE := hE.k (a := 2) (b := 8)
  have had := had_up (q := q) (c := c) had (nle rfl)
  refine x_putF C hI (xkfX_X7_15 rfl rfl) (by first | exact Or.inl ⟨_, rfl⟩ | exact Or.inr ⟨_, rfl⟩) (nlt rfl) rfl dX7_init_16 ?_
  refine x_aload_n (i := 0) C dX7_init_19 rfl rfl ?_
  refine x_aload_n (i := 1) C dX7_init_20 rfl rfl ?_
  refine x_putR C (xkpX_X7_18 rfl rfl) (by first | exact Or.inl ⟨_, rfl⟩ | exact Or.inr ⟨_, rfl⟩) (nlt rfl) rfl dX7_init_21 ?_
  refine Wx_PH (fun H h => PX_many (Y := cz_X61) (sh := shX) [61] rfl (SL_upR rfl (SL_upR rfl (SL_upR rfl (SL_dz rfl SL_rf)))) (by decide +kernel) h) ?_
  exact x_vretG C rfl hE eK.k eN.k had dX7_init_24
def cz_X67 : XT := (upR (dz 60 cz_X60) 60 0 (some 61))
set_option maxHeartbeats 4000000 in
set_option maxRecDepth 100000 in
theorem ct_X67 {D : va_G} : MetG (bX D) yX3_init cX3_init 1 1 30 2 8 [.ref 67] 68 70 (dz 67 cz_X67) cz_X67 := by
  refine MetG.mk (own := RX3) (by decide +kernel) rfl rfl (nle rfl) (fun E ad cA C hG hI hE hk0 hn0 => ?_)
  refine Wx_lv (lv' := [(0, .ref 67)]) rfl ?_
  have had : ∀ k, k < 68 → wA (mkW (bX D) 68 ad cA) k = ad k := fun _ _ => rfl
  refine x_aload_n (i := 0) C dX3_init_0 rfl rfl ?_
  refine x_objInit C oiX3_3.1 oiX3_3.2.1 oiX3_3.2.2 (nle rfl) (nle rfl) dX3_init_1 ?_
  refine x_aload_n (i := 0) C dX3_init_4 rfl rfl ?_
  refine x_iconst C dX3_init_5 ?_
  refine x_newarr (at0 := .long) (ty := .long) (q0 := 0) (nn := 4) (a0 := (4, .inr (.inl (fun _ => 0)))) (kd := 2) (a := 1) (b := 4) C hG rfl acX_long (fun _ => rfl) (fun _ => rfl) rfl (by decide) rfl (nle rfl) (nle rfl) (rbX_S 68 shX rfl rfl (by decide +kernel)) rfl rfl (by rw [hk0]) (by rw [hn0]) (nle rfl) (nle rfl) dX3_init_6 (fun q c C => ?_)
  refine Wx_PH (fun H h => PX_num (k := 68) SB_dz (fun i => rfl) (fun i => rfl) (fun i => rfl) h) ?_
  show Wx _ _ _ (PX _ (dz 67 cz_X67)) _ _ [.ref 68, .ref 67]
  have hG := hG.k (a := 1) (b := 4)
  have hI := hI.k (a := 1) (b := 4)
  have hE := hE.k (a := 1) (b := 4)
  have had := had_up (q := q) (c := c) had (nle rfl)
  refine x_putF C hI (xkfX_X3_9 rfl rfl) (by first | exact Or.inl ⟨_, rfl⟩ | exact Or.inr ⟨_, rfl⟩) (nlt rfl) rfl dX3_init_8 ?_
  refine x_aload_n (i := 0) C dX3_init_11 rfl rfl ?_
  refine x_iconst C dX3_init_12 ?_
  refine x_newarr (at0 := .int) (ty := .int) (q0 := 0) (nn := 4) (a0 := (4, .inl (fun _ => 0))) (kd := 1) (a := 2) (b := 8) C hG rfl acX_int (fun _ => rfl) (fun _ => rfl) rfl (by decide) rfl (nle rfl) (nle rfl) (rbX_S 69 shX rfl rfl (by decide +kernel)) rfl rfl (by rw [eK.k]) (by rw [eN.k]) (nle rfl) (nle rfl) dX3_init_13 (fun q c C => ?_)
  refine Wx_PH (fun H h => PX_num (k := 69) SB_dz (fun i => rfl) (fun i => rfl) (fun i => rfl) h) ?_
  show Wx _ _ _ (PX _ (upR (dz 67 cz_X67) 67 0 (some 68))) _ _ [.ref 69, .ref 67]
  have hG := hG.k (a := 2) (b := 8)
  have hI := hI.k (a := 2) (b := 8)
  have hE := hE.k (a := 2) (b := 8)
  have had := had_up (q := q) (c := c) had (nle rfl)
  refine x_putF C hI (xkfX_X3_15 rfl rfl) (by first | exact Or.inl ⟨_, rfl⟩ | exact Or.inr ⟨_, rfl⟩) (nlt rfl) rfl dX3_init_15 ?_
  refine Wx_PH (fun H h => PX_many (Y := cz_X67) (sh := shX) [67] rfl (SL_upR rfl (SL_upR rfl (SL_dz rfl SL_rf))) (by decide +kernel) h) ?_
  exact x_vretG C rfl hE eK.k eN.k had dX3_init_18
def cz_X71 : XT := (dz 70 (upR (upR (dz 60 cz_X60) 60 0 (some 61)) 60 1 (some 67)))
set_option maxHeartbeats 4000000 in
set_option maxRecDepth 100000 in
theorem ct_X71 {D : va_G} : MetG (bX D) yX10_init cX10_init 2 1 30 2 10 [.ref 71, .null] 72 74 (dz 71 cz_X71) cz_X71 := by
  refine MetG.mk (own := RX10) (by decide +kernel) rfl rfl (nle rfl) (fun E ad cA C hG hI hE hk0 hn0 => ?_)
  refine Wx_lv (lv' := [(0, .ref 71), (1, .null)]) rfl ?_
  have had : ∀ k, k < 72 → wA (mkW (bX D) 72 ad cA) k = ad k := fun _ _ => rfl
  refine x_aload_n (i := 0) C dX10_init_0 rfl rfl ?_
  refine x_objInit C oiX10_3.1 oiX10_3.2.1 oiX10_3.2.2 (nle rfl) (nle rfl) dX10_init_1 ?_
  refine x_aload_n (i := 0) C dX10_init_4 rfl rfl ?_
  refine x_iconst C dX10_init_5 ?_
  refine x_newarr (at0 := .long) (ty := .long) (q0 := 0) (nn := 5) (a0 := (5, .inr (.inl (fun _ => 0)))) (kd := 2) (a := 1) (b := 5) C hG rfl acX_long (fun _ => rfl) (fun _ => rfl) rfl (by decide) rfl (nle rfl) (nle rfl) (rbX_S 72 shX rfl rfl (by decide +kernel)) rfl rfl (by rw [hk0]) (by rw [hn0]) (nle rfl) (nle rfl) dX10_init_6 (fun q c C => ?_)
  refine Wx_PH (fun H h => PX_num (k := 72) SB_dz (fun i => rfl) (fun i => rfl) (fun i => rfl) h) ?_
  show Wx _ _ _ (PX _ (dz 71 cz_X71)) _ _ [.ref 72, .ref 71]
  have hG := hG.k (a := 1) (b := 5)
  have hI := hI.k (a := 1) (b := 5)
  have hE := hE.k (a := 1) (b := 5)
  have had := had_up (q := q) (c := c) had (nle rfl)
  refine x_putF C hI (xkfX_X10_9 rfl rfl) (by first | exact Or.inl ⟨_, rfl⟩ | exact Or.inr ⟨_, rfl⟩) (nlt rfl) rfl dX10_init_8 ?_
  refine x_aload_n (i := 0) C dX10_init_11 rfl rfl ?_
  refine x_iconst C dX10_init_12 ?_
  refine x_newarr (at0 := .long) (ty := .long) (q0 := 0) (nn := 5) (a0 := (5, .inr (.inl (fun _ => 0)))) (kd := 2) (a := 2) (b := 10) C hG rfl acX_long (fun _ => rfl) (fun _ => rfl) rfl (by decide) rfl (nle rfl) (nle rfl) (rbX_S 73 shX rfl rfl (by decide +kernel)) rfl rfl (by rw [eK.k]) (by rw [eN.k]) (nle rfl) (nle rfl) dX10_init_13 (fun q c C => ?_)
  refine Wx_PH (fun H h => PX_num (k := 73) SB_dz (fun i => rfl) (fun i => rfl) (fun i => rfl) h) ?_
  show Wx _ _ _ (PX _ (upR (dz 71 cz_X71) 71 0 (some 72))) _ _ [.ref 73, .ref 71]
  have hG := hG.k (a := 2) (b := 10)
  have hI := hI.k (a := 2) (b := 10)
  have hE := hE.k (a := 2) (b := 10)
  have had := had_up (q := q) (c := c) had (nle rfl)
  refine x_putF C hI (xkfX_X10_15 rfl rfl) (by first | exact Or.inl ⟨_, rfl⟩ | exact Or.inr ⟨_, rfl⟩) (nlt rfl) rfl dX10_init_15 ?_
  refine x_aload_n (i := 0) C dX10_init_18 rfl rfl ?_
  refine x_iconst C dX10_init_19 ?_
  refine x_putI C (xkpX_X10_18 rfl rfl) (nlt rfl) rfl dX10_init_20 ?_
  refine x_aload_n (i := 0) C dX10_init_23 rfl rfl ?_
  refine x_aload_nN (i := 1) C dX10_init_24 rfl rfl ?_
  refine x_putN C hI (xkfX_X10_22 rfl rfl) (by first | exact Or.inl ⟨_, rfl⟩ | exact Or.inr ⟨_, rfl⟩) (nlt rfl) rfl dX10_init_25 ?_
  refine Wx_PH (fun H h => PX_many (Y := cz_X71) (sh := shX) [71] rfl (SL_upR rfl (SL_upI rfl (SL_upR rfl (SL_upR rfl (SL_dz rfl SL_rf))))) (by decide +kernel) h) ?_
  exact x_vretG C rfl hE eK.k eN.k had dX10_init_28
def cz_X70 : XT := (upR (upR (dz 60 cz_X60) 60 0 (some 61)) 60 1 (some 67))
set_option maxHeartbeats 4000000 in
set_option maxRecDepth 100000 in
theorem ct_X70 {D : va_G} : MetG (bX D) yX10_init cX10_init 2 1 30 2 10 [.ref 70, .ref 71] 74 76 (dz 70 cz_X70) cz_X70 := by
  refine MetG.mk (own := RX10) (by decide +kernel) rfl rfl (nle rfl) (fun E ad cA C hG hI hE hk0 hn0 => ?_)
  refine Wx_lv (lv' := [(0, .ref 70), (1, .ref 71)]) rfl ?_
  have had : ∀ k, k < 74 → wA (mkW (bX D) 74 ad cA) k = ad k := fun _ _ => rfl
  refine x_aload_n (i := 0) C dX10_init_0 rfl rfl ?_
  refine x_objInit C oiX10_3.1 oiX10_3.2.1 oiX10_3.2.2 (nle rfl) (nle rfl) dX10_init_1 ?_
  refine x_aload_n (i := 0) C dX10_init_4 rfl rfl ?_
  refine x_iconst C dX10_init_5 ?_
  refine x_newarr (at0 := .long) (ty := .long) (q0 := 0) (nn := 5) (a0 := (5, .inr (.inl (fun _ => 0)))) (kd := 2) (a := 1) (b := 5) C hG rfl acX_long (fun _ => rfl) (fun _ => rfl) rfl (by decide) rfl (nle rfl) (nle rfl) (rbX_S 74 shX rfl rfl (by decide +kernel)) rfl rfl (by rw [hk0]) (by rw [hn0]) (nle rfl) (nle rfl) dX10_init_6 (fun q c C => ?_)
  refine Wx_PH (fun H h => PX_num (k := 74) SB_dz (fun i => rfl) (fun i => rfl) (fun i => rfl) h) ?_
  show Wx _ _ _ (PX _ (dz 70 cz_X70)) _ _ [.ref 74, .ref 70]
  have hG := hG.k (a := 1) (b := 5)
  have hI := hI.k (a := 1) (b := 5)
  have hE := hE.k (a := 1) (b := 5)
  have had := had_up (q := q) (c := c) had (nle rfl)
  refine x_putF C hI (xkfX_X10_9 rfl rfl) (by first | exact Or.inl ⟨_, rfl⟩ | exact Or.inr ⟨_, rfl⟩) (nlt rfl) rfl dX10_init_8 ?_
  refine x_aload_n (i := 0) C dX10_init_11 rfl rfl ?_
  refine x_iconst C dX10_init_12 ?_
  refine x_newarr (at0 := .long) (ty := .long) (q0 := 0) (nn := 5) (a0 := (5, .inr (.inl (fun _ => 0)))) (kd := 2) (a := 2) (b := 10) C hG rfl acX_long (fun _ => rfl) (fun _ => rfl) rfl (by decide) rfl (nle rfl) (nle rfl) (rbX_S 75 shX rfl rfl (by decide +kernel)) rfl rfl (by rw [eK.k]) (by rw [eN.k]) (nle rfl) (nle rfl) dX10_init_13 (fun q c C => ?_)
  refine Wx_PH (fun H h => PX_num (k := 75) SB_dz (fun i => rfl) (fun i => rfl) (fun i => rfl) h) ?_
  show Wx _ _ _ (PX _ (upR (dz 70 cz_X70) 70 0 (some 74))) _ _ [.ref 75, .ref 70]
  have hG := hG.k (a := 2) (b := 10)
  have hI := hI.k (a := 2) (b := 10)
  have hE := hE.k (a := 2) (b := 10)
  have had := had_up (q := q) (c := c) had (nle rfl)
  refine x_putF C hI (xkfX_X10_15 rfl rfl) (by first | exact Or.inl ⟨_, rfl⟩ | exact Or.inr ⟨_, rfl⟩) (nlt rfl) rfl dX10_init_15 ?_
  refine x_aload_n (i := 0) C dX10_init_18 rfl rfl ?_
  refine x_iconst C dX10_init_19 ?_
  refine x_putI C (xkpX_X10_18 rfl rfl) (nlt rfl) rfl dX10_init_20 ?_
  refine x_aload_n (i := 0) C dX10_init_23 rfl rfl ?_
  refine x_aload_n (i := 1) C dX10_init_24 rfl rfl ?_
  refine x_putF C hI (xkfX_X10_22 rfl rfl) (by first | exact Or.inl ⟨_, rfl⟩ | exact Or.inr ⟨_, rfl⟩) (nlt rfl) rfl dX10_init_25 ?_
  refine Wx_PH (fun H h => PX_many (Y := cz_X70) (sh := shX) [70] rfl (SL_upR rfl (SL_upI rfl (SL_upR rfl (SL_upR rfl (SL_dz rfl SL_rf))))) (by decide +kernel) h) ?_
  exact x_vretG C rfl hE eK.k eN.k had dX10_init_28
set_option maxHeartbeats 4000000 in
set_option maxRecDepth 100000 in
theorem ct_X60 {D : va_G} : MetG (bX D) yX5_init cX5_init 1 2 51 15 75 [.ref 60] 61 76 (dz 60 cz_X60) cz_X60 := by
  refine MetG.mk (own := RX5) (by decide +kernel) rfl rfl (nle rfl) (fun E ad cA C hG hI hE hk0 hn0 => ?_)
  refine Wx_lv (lv' := [(0, .ref 60)]) rfl ?_
  have had : ∀ k, k < 61 → wA (mkW (bX D) 61 ad cA) k = ad k := fun _ _ => rfl
  refine x_aload_n (i := 0) C dX5_init_0 rfl rfl ?_
  refine x_objInit C oiX5_3.1 oiX5_3.2.1 oiX5_3.2.2 (nle rfl) (nle rfl) dX5_init_1 ?_
  refine x_aload_n (i := 0) C dX5_init_4 rfl rfl ?_
  refine x_new (a := 1) (b := 5) C hG inX7 tyX7_ok rfl rfl nwX_X5_9.1 nwX_X5_9.2.1 nwX_X5_9.2.2 (fun j hj => by rcases (show j = 0 ∨ j = 1 ∨ j = 2 ∨ j = 3 ∨ j = 4 by omega) with rfl | rfl | rfl | rfl | rfl <;> rfl) (rbX_S 61 shX rfl rfl (by decide +kernel)) rfl rfl (by rw [hk0]) (by rw [hn0]) (nle rfl) (nle rfl) dX5_init_5 (fun q c C => ?_)
  show Wx _ _ _ (PX _ (dz 61 (dz 60 cz_X60))) _ _ [.ref 61, .ref 60]
  have hG := hG.k (a := 1) (b := 5)
  have hI := hI.k (a := 1) (b := 5)
  have hE := hE.k (a := 1) (b := 5)
  have had := had_up (q := q) (c := c) had (nle rfl)
  refine x_dup C dX5_init_8 rfl ?_
  refine x_new (a := 2) (b := 12) C hG inX0 tyX0_ok rfl rfl nwX_X5_11.1 nwX_X5_11.2.1 nwX_X5_11.2.2 (fun j hj => by rcases (show j = 0 ∨ j = 1 ∨ j = 2 ∨ j = 3 ∨ j = 4 ∨ j = 5 ∨ j = 6 by omega) with rfl | rfl | rfl | rfl | rfl | rfl | rfl <;> rfl) (rbX_S 62 shX rfl rfl (by decide +kernel)) rfl rfl (by rw [eK.k]) (by rw [eN.k]) (nle rfl) (nle rfl) dX5_init_9 (fun q c C => ?_)
  show Wx _ _ _ (PX _ (dz 62 (dz 61 (dz 60 cz_X60)))) _ _ [.ref 62, .ref 61, .ref 61, .ref 60]
  have hG := hG.k (a := 2) (b := 12)
  have hI := hI.k (a := 2) (b := 12)
  have hE := hE.k (a := 2) (b := 12)
  have had := had_up (q := q) (c := c) had (nle rfl)
  refine x_dup C dX5_init_12 rfl ?_
  refine x_callG (k := 62) (As := []) (a := 4) (b' := 24) C hG rfl ct_X62 (Or.inr ciX5_13) im_X0_init rfl rfl rfl (nle rfl) ⟨nle rfl, nle rfl⟩ rfl rfl (by rw [eK.k]) (by rw [eN.k]) (nle rfl) (nle rfl) dX5_init_13 (fun ad17 cA17 C hadk => ?_)
  have had : ∀ k, k < 61 → wA (mkW (bX D) 65 ad17 cA17) k = ad k := fun k hk => (hadk k (Nat.lt_of_lt_of_le hk (nle rfl))).trans (had k hk)
  clear hadk
  have hG := hG.k (a := 4) (b := 24)
  have hI := hI.k (a := 4) (b := 24)
  have hE := hE.k (a := 4) (b := 24)
  refine x_callG (host := "") (k := 61) (As := [.ref 62]) (a := 6) (b' := 32) C hG rfl ct_X61 (Or.inl (show CKB RX5 14 yX7_init cX7_init 2 none 1 from ckX5_14)) im_X7_init rfl rfl rfl (nle rfl) ⟨nle rfl, nle rfl⟩ rfl rfl (by rw [eK.k]) (by rw [eN.k]) (nle rfl) (nle rfl) dX5_init_16 (fun ad18 cA18 C hadk => ?_)
  have had : ∀ k, k < 61 → wA (mkW (bX D) 67 ad18 cA18) k = ad k := fun k hk => (hadk k (Nat.lt_of_lt_of_le hk (nle rfl))).trans (had k hk)
  clear hadk
  have hG := hG.k (a := 6) (b := 32)
  have hI := hI.k (a := 6) (b := 32)
  have hE := hE.k (a := 6) (b := 32)
  refine x_putF C hI (xkfX_X5_17 rfl rfl) (by first | exact Or.inl ⟨_, rfl⟩ | exact Or.inr ⟨_, rfl⟩) (nlt rfl) rfl dX5_init_19 ?_
  refine x_aload_n (i := 0) C dX5_init_22 rfl rfl ?_
  refine x_new (a := 7) (b := 37) C hG inX3 tyX3_ok rfl rfl nwX_X5_23.1 nwX_X5_23.2.1 nwX_X5_23.2.2 (fun j hj => by rcases (show j = 0 ∨ j = 1 ∨ j = 2 ∨ j = 3 ∨ j = 4 by omega) with rfl | rfl | rfl | rfl | rfl <;> rfl) (rbX_S 67 shX rfl rfl (by decide +kernel)) rfl rfl (by rw [eK.k]) (by rw [eN.k]) (nle rfl) (nle rfl) dX5_init_23 (fun q c C => ?_)
  show Wx _ _ _ (PX _ (dz 67 (upR (dz 60 cz_X60) 60 0 (some 61)))) _ _ [.ref 67, .ref 60]
  have hG := hG.k (a := 7) (b := 37)
  have hI := hI.k (a := 7) (b := 37)
  have hE := hE.k (a := 7) (b := 37)
  have had := had_up (q := q) (c := c) had (nle rfl)
  refine x_dup C dX5_init_26 rfl ?_
  refine x_callG (k := 67) (As := []) (a := 9) (b' := 45) C hG rfl ct_X67 (Or.inr ciX5_25) im_X3_init rfl rfl rfl (nle rfl) ⟨nle rfl, nle rfl⟩ rfl rfl (by rw [eK.k]) (by rw [eN.k]) (nle rfl) (nle rfl) dX5_init_27 (fun ad19 cA19 C hadk => ?_)
  have had : ∀ k, k < 61 → wA (mkW (bX D) 70 ad19 cA19) k = ad k := fun k hk => (hadk k (Nat.lt_of_lt_of_le hk (nle rfl))).trans (had k hk)
  clear hadk
  have hG := hG.k (a := 9) (b := 45)
  have hI := hI.k (a := 9) (b := 45)
  have hE := hE.k (a := 9) (b := 45)
  refine x_putF C hI (xkfX_X5_26 rfl rfl) (by first | exact Or.inl ⟨_, rfl⟩ | exact Or.inr ⟨_, rfl⟩) (nlt rfl) rfl dX5_init_30 ?_
  refine x_aload_n (i := 0) C dX5_init_33 rfl rfl ?_
  refine x_new (a := 10) (b := 50) C hG inX10 tyX10_ok rfl rfl nwX_X5_30.1 nwX_X5_30.2.1 nwX_X5_30.2.2 (fun j hj => by rcases (show j = 0 ∨ j = 1 ∨ j = 2 ∨ j = 3 ∨ j = 4 by omega) with rfl | rfl | rfl | rfl | rfl <;> rfl) (rbX_S 70 shX rfl rfl (by decide +kernel)) rfl rfl (by rw [eK.k]) (by rw [eN.k]) (nle rfl) (nle rfl) dX5_init_34 (fun q c C => ?_)
  show Wx _ _ _ (PX _ (dz 70 (upR (upR (dz 60 cz_X60) 60 0 (some 61)) 60 1 (some 67)))) _ _ [.ref 70, .ref 60]
  have hG := hG.k (a := 10) (b := 50)
  have hI := hI.k (a := 10) (b := 50)
  have hE := hE.k (a := 10) (b := 50)
  have had := had_up (q := q) (c := c) had (nle rfl)
  refine x_dup C dX5_init_37 rfl ?_
  refine x_new (a := 11) (b := 55) C hG inX10 tyX10_ok rfl rfl nwX_X5_30.1 nwX_X5_30.2.1 nwX_X5_30.2.2 (fun j hj => by rcases (show j = 0 ∨ j = 1 ∨ j = 2 ∨ j = 3 ∨ j = 4 by omega) with rfl | rfl | rfl | rfl | rfl <;> rfl) (rbX_S 71 shX rfl rfl (by decide +kernel)) rfl rfl (by rw [eK.k]) (by rw [eN.k]) (nle rfl) (nle rfl) dX5_init_38 (fun q c C => ?_)
  show Wx _ _ _ (PX _ (dz 71 (dz 70 (upR (upR (dz 60 cz_X60) 60 0 (some 61)) 60 1 (some 67))))) _ _ [.ref 71, .ref 70, .ref 70, .ref 60]
  have hG := hG.k (a := 11) (b := 55)
  have hI := hI.k (a := 11) (b := 55)
  have hE := hE.k (a := 11) (b := 55)
  have had := had_up (q := q) (c := c) had (nle rfl)
  refine x_dup C dX5_init_41 rfl ?_
  refine x_null C dX5_init_42 ?_
  refine x_callG (host := "") (k := 71) (As := [.null]) (a := 13) (b' := 65) C hG rfl ct_X71 (Or.inl (show CKB RX5 32 yX10_init cX10_init 2 none 1 from ckX5_32)) im_X10_init rfl rfl rfl (nle rfl) ⟨nle rfl, nle rfl⟩ rfl rfl (by rw [eK.k]) (by rw [eN.k]) (nle rfl) (nle rfl) dX5_init_43 (fun ad20 cA20 C hadk => ?_)
  have had : ∀ k, k < 61 → wA (mkW (bX D) 74 ad20 cA20) k = ad k := fun k hk => (hadk k (Nat.lt_of_lt_of_le hk (nle rfl))).trans (had k hk)
  clear hadk
  have hG := hG.k (a := 13) (b := 65)
  have hI := hI.k (a := 13) (b := 65)
  have hE := hE.k (a := 13) (b := 65)
  refine x_callG (host := "") (k := 70) (As := [.ref 71]) (a := 15) (b' := 75) C hG rfl ct_X70 (Or.inl (show CKB RX5 32 yX10_init cX10_init 2 none 1 from ckX5_32)) im_X10_init rfl rfl rfl (nle rfl) ⟨nle rfl, nle rfl⟩ rfl rfl (by rw [eK.k]) (by rw [eN.k]) (nle rfl) (nle rfl) dX5_init_46 (fun ad21 cA21 C hadk => ?_)
  have had : ∀ k, k < 61 → wA (mkW (bX D) 76 ad21 cA21) k = ad k := fun k hk => (hadk k (Nat.lt_of_lt_of_le hk (nle rfl))).trans (had k hk)
  clear hadk
  have hG := hG.k (a := 15) (b := 75)
  have hI := hI.k (a := 15) (b := 75)
  have hE := hE.k (a := 15) (b := 75)
  refine x_putF C hI (xkfX_X5_35 rfl rfl) (by first | exact Or.inl ⟨_, rfl⟩ | exact Or.inr ⟨_, rfl⟩) (nlt rfl) rfl dX5_init_49 ?_
  refine Wx_PH (fun H h => PX_many (Y := cz_X60) (sh := shX) [60] rfl (SL_upR rfl (SL_upR rfl (SL_upR rfl (SL_dz rfl SL_rf)))) (by decide +kernel) h) ?_
  exact x_vretG C rfl hE eK.k eN.k had dX5_init_52
def cz_X76 : XT := (upR (upR (upR (upR (upR (upR (dz 19 (upR (dz 0 x0X) 0 0 (some 1))) 0 1 (some 19)) 0 2 (some 20)) 0 3 (some 21)) 0 4 (some 29)) 0 5 (some 38)) 0 6 (some 60))
def cz_X88 : XT := (upR (upR (upR (upR (dz 77 (dz 76 cz_X76)) 76 1 (some 77)) 76 2 (some 82)) 76 3 (some 87)) 76 0 (some 38))
set_option maxHeartbeats 4000000 in
set_option maxRecDepth 100000 in
theorem ct_X88 {D : va_G} : MetG (bX D) yX0_init cX0_init 1 1 30 2 12 [.ref 88] 89 91 (dz 88 cz_X88) cz_X88 := by
  refine MetG.mk (own := RX0) (by decide +kernel) rfl rfl (nle rfl) (fun E ad cA C hG hI hE hk0 hn0 => ?_)
  refine Wx_lv (lv' := [(0, .ref 88)]) rfl ?_
  have had : ∀ k, k < 89 → wA (mkW (bX D) 89 ad cA) k = ad k := fun _ _ => rfl
  refine x_aload_n (i := 0) C dX0_init_0 rfl rfl ?_
  refine x_objInit C oiX0_3.1 oiX0_3.2.1 oiX0_3.2.2 (nle rfl) (nle rfl) dX0_init_1 ?_
  refine x_aload_n (i := 0) C dX0_init_4 rfl rfl ?_
  refine x_bipush C dX0_init_5 (by decide) ?_
  refine x_newarr (at0 := .int) (ty := .int) (q0 := 0) (nn := 6) (a0 := (6, .inl (fun _ => 0))) (kd := 1) (a := 1) (b := 6) C hG rfl acX_int (fun _ => rfl) (fun _ => rfl) rfl (by decide) rfl (nle rfl) (nle rfl) (rbX_S 89 shX rfl rfl (by decide +kernel)) rfl rfl (by rw [hk0]) (by rw [hn0]) (nle rfl) (nle rfl) dX0_init_7 (fun q c C => ?_)
  refine Wx_PH (fun H h => PX_num (k := 89) SB_dz (fun i => rfl) (fun i => rfl) (fun i => rfl) h) ?_
  show Wx _ _ _ (PX _ (dz 88 cz_X88)) _ _ [.ref 89, .ref 88]
  have hG := hG.k (a := 1) (b := 6)
  have hI := hI.k (a := 1) (b := 6)
  have hE := hE.k (a := 1) (b := 6)
  have had := had_up (q := q) (c := c) had (nle rfl)
  refine x_putF C hI (xkfX_X0_9 rfl rfl) (by first | exact Or.inl ⟨_, rfl⟩ | exact Or.inr ⟨_, rfl⟩) (nlt rfl) rfl dX0_init_9 ?_
  refine x_aload_n (i := 0) C dX0_init_12 rfl rfl ?_
  refine x_bipush C dX0_init_13 (by decide) ?_
  refine x_newarr (at0 := .int) (ty := .int) (q0 := 0) (nn := 6) (a0 := (6, .inl (fun _ => 0))) (kd := 1) (a := 2) (b := 12) C hG rfl acX_int (fun _ => rfl) (fun _ => rfl) rfl (by decide) rfl (nle rfl) (nle rfl) (rbX_S 90 shX rfl rfl (by decide +kernel)) rfl rfl (by rw [eK.k]) (by rw [eN.k]) (nle rfl) (nle rfl) dX0_init_15 (fun q c C => ?_)
  refine Wx_PH (fun H h => PX_num (k := 90) SB_dz (fun i => rfl) (fun i => rfl) (fun i => rfl) h) ?_
  show Wx _ _ _ (PX _ (upR (dz 88 cz_X88) 88 5 (some 89))) _ _ [.ref 90, .ref 88]
  have hG := hG.k (a := 2) (b := 12)
  have hI := hI.k (a := 2) (b := 12)
  have hE := hE.k (a := 2) (b := 12)
  have had := had_up (q := q) (c := c) had (nle rfl)
  refine x_putF C hI (xkfX_X0_15 rfl rfl) (by first | exact Or.inl ⟨_, rfl⟩ | exact Or.inr ⟨_, rfl⟩) (nlt rfl) rfl dX0_init_17 ?_
  refine Wx_PH (fun H h => PX_many (Y := cz_X88) (sh := shX) [88] rfl (SL_upR rfl (SL_upR rfl (SL_dz rfl SL_rf))) (by decide +kernel) h) ?_
  exact x_vretG C rfl hE eK.k eN.k had dX0_init_20
def cz_X91 : XT := (upR (upR (upR (upR (dz 77 (dz 76 cz_X76)) 76 1 (some 77)) 76 2 (some 82)) 76 3 (some 87)) 76 0 (some 38))
set_option maxHeartbeats 4000000 in
set_option maxRecDepth 100000 in
theorem ct_X91 {D : va_G} : MetG (bX D) yX7_init cX7_init 2 1 30 2 8 [.ref 91, .ref 88] 92 94 (dz 91 cz_X91) cz_X91 := by
  refine MetG.mk (own := RX7) (by decide +kernel) rfl rfl (nle rfl) (fun E ad cA C hG hI hE hk0 hn0 => ?_)
  refine Wx_lv (lv' := [(0, .ref 91), (1, .ref 88)]) rfl ?_
  have had : ∀ k, k < 92 → wA (mkW (bX D) 92 ad cA) k = ad k := fun _ _ => rfl
  refine x_aload_n (i := 0) C dX7_init_0 rfl rfl ?_
  refine x_objInit C oiX7_3.1 oiX7_3.2.1 oiX7_3.2.2 (nle rfl) (nle rfl) dX7_init_1 ?_
  refine x_aload_n (i := 0) C dX7_init_4 rfl rfl ?_
  refine x_bipush C dX7_init_5 (by decide) ?_
  refine x_newarr (at0 := .int) (ty := .int) (q0 := 0) (nn := 6) (a0 := (6, .inl (fun _ => 0))) (kd := 1) (a := 1) (b := 6) C hG rfl acX_int (fun _ => rfl) (fun _ => rfl) rfl (by decide) rfl (nle rfl) (nle rfl) (rbX_S 92 shX rfl rfl (by decide +kernel)) rfl rfl (by rw [hk0]) (by rw [hn0]) (nle rfl) (nle rfl) dX7_init_7 (fun q c C => ?_)
  refine Wx_PH (fun H h => PX_num (k := 92) SB_dz (fun i => rfl) (fun i => rfl) (fun i => rfl) h) ?_
  show Wx _ _ _ (PX _ (dz 91 cz_X91)) _ _ [.ref 92, .ref 91]
  have hG := hG.k (a := 1) (b := 6)
  have hI := hI.k (a := 1) (b := 6)
  have hE := hE.k (a := 1) (b := 6)
  have had := had_up (q := q) (c := c) had (nle rfl)
  refine x_putF C hI (xkfX_X7_9 rfl rfl) (by first | exact Or.inl ⟨_, rfl⟩ | exact Or.inr ⟨_, rfl⟩) (nlt rfl) rfl dX7_init_9 ?_
  refine x_aload_n (i := 0) C dX7_init_12 rfl rfl ?_
  refine x_iconst C dX7_init_13 ?_
  refine x_newarr (at0 := .int) (ty := .int) (q0 := 0) (nn := 2) (a0 := (2, .inl (fun _ => 0))) (kd := 1) (a := 2) (b := 8) C hG rfl acX_int (fun _ => rfl) (fun _ => rfl) rfl (by decide) rfl (nle rfl) (nle rfl) (rbX_S 93 shX rfl rfl (by decide +kernel)) rfl rfl (by rw [eK.k]) (by rw [eN.k]) (nle rfl) (nle rfl) dX7_init_14 (fun q c C => ?_)
  refine Wx_PH (fun H h => PX_num (k := 93) SB_dz (fun i => rfl) (fun i => rfl) (fun i => rfl) h) ?_
  show Wx _ _ _ (PX _ (upR (dz 91 cz_X91) 91 3 (some 92))) _ _ [.ref 93, .ref 91]
  have hG := hG.k (a := 2) (b := 8)
  have hI := hI.k (a := 2) (b := 8)
  have hE := hE.k (a := 2) (b := 8)
  have had := had_up (q := q) (c := c) had (nle rfl)
  refine x_putF C hI (xkfX_X7_15 rfl rfl) (by first | exact Or.inl ⟨_, rfl⟩ | exact Or.inr ⟨_, rfl⟩) (nlt rfl) rfl dX7_init_16 ?_
  refine x_aload_n (i := 0) C dX7_init_19 rfl rfl ?_
  refine x_aload_n (i := 1) C dX7_init_20 rfl rfl ?_
  refine x_putR C (xkpX_X7_18 rfl rfl) (by first | exact Or.inl ⟨_, rfl⟩ | exact Or.inr ⟨_, rfl⟩) (nlt rfl) rfl dX7_init_21 ?_
  refine Wx_PH (fun H h => PX_many (Y := cz_X91) (sh := shX) [91] rfl (SL_upR rfl (SL_upR rfl (SL_upR rfl (SL_dz rfl SL_rf)))) (by decide +kernel) h) ?_
  exact x_vretG C rfl hE eK.k eN.k had dX7_init_24
def cz_X94 : XT := (upR (upR (upR (upR (upR (dz 77 (dz 76 cz_X76)) 76 1 (some 77)) 76 2 (some 82)) 76 3 (some 87)) 76 0 (some 38)) 77 0 (some 91))
set_option maxHeartbeats 4000000 in
set_option maxRecDepth 100000 in
theorem ct_X94 {D : va_G} : MetG (bX D) yX7_init cX7_init 2 1 30 2 8 [.ref 94, .ref 88] 95 97 (dz 94 cz_X94) cz_X94 := by
  refine MetG.mk (own := RX7) (by decide +kernel) rfl rfl (nle rfl) (fun E ad cA C hG hI hE hk0 hn0 => ?_)
  refine Wx_lv (lv' := [(0, .ref 94), (1, .ref 88)]) rfl ?_
  have had : ∀ k, k < 95 → wA (mkW (bX D) 95 ad cA) k = ad k := fun _ _ => rfl
  refine x_aload_n (i := 0) C dX7_init_0 rfl rfl ?_
  refine x_objInit C oiX7_3.1 oiX7_3.2.1 oiX7_3.2.2 (nle rfl) (nle rfl) dX7_init_1 ?_
  refine x_aload_n (i := 0) C dX7_init_4 rfl rfl ?_
  refine x_bipush C dX7_init_5 (by decide) ?_
  refine x_newarr (at0 := .int) (ty := .int) (q0 := 0) (nn := 6) (a0 := (6, .inl (fun _ => 0))) (kd := 1) (a := 1) (b := 6) C hG rfl acX_int (fun _ => rfl) (fun _ => rfl) rfl (by decide) rfl (nle rfl) (nle rfl) (rbX_S 95 shX rfl rfl (by decide +kernel)) rfl rfl (by rw [hk0]) (by rw [hn0]) (nle rfl) (nle rfl) dX7_init_7 (fun q c C => ?_)
  refine Wx_PH (fun H h => PX_num (k := 95) SB_dz (fun i => rfl) (fun i => rfl) (fun i => rfl) h) ?_
  show Wx _ _ _ (PX _ (dz 94 cz_X94)) _ _ [.ref 95, .ref 94]
  have hG := hG.k (a := 1) (b := 6)
  have hI := hI.k (a := 1) (b := 6)
  have hE := hE.k (a := 1) (b := 6)
  have had := had_up (q := q) (c := c) had (nle rfl)
  refine x_putF C hI (xkfX_X7_9 rfl rfl) (by first | exact Or.inl ⟨_, rfl⟩ | exact Or.inr ⟨_, rfl⟩) (nlt rfl) rfl dX7_init_9 ?_
  refine x_aload_n (i := 0) C dX7_init_12 rfl rfl ?_
  refine x_iconst C dX7_init_13 ?_
  refine x_newarr (at0 := .int) (ty := .int) (q0 := 0) (nn := 2) (a0 := (2, .inl (fun _ => 0))) (kd := 1) (a := 2) (b := 8) C hG rfl acX_int (fun _ => rfl) (fun _ => rfl) rfl (by decide) rfl (nle rfl) (nle rfl) (rbX_S 96 shX rfl rfl (by decide +kernel)) rfl rfl (by rw [eK.k]) (by rw [eN.k]) (nle rfl) (nle rfl) dX7_init_14 (fun q c C => ?_)
  refine Wx_PH (fun H h => PX_num (k := 96) SB_dz (fun i => rfl) (fun i => rfl) (fun i => rfl) h) ?_
  show Wx _ _ _ (PX _ (upR (dz 94 cz_X94) 94 3 (some 95))) _ _ [.ref 96, .ref 94]
  have hG := hG.k (a := 2) (b := 8)
  have hI := hI.k (a := 2) (b := 8)
  have hE := hE.k (a := 2) (b := 8)
  have had := had_up (q := q) (c := c) had (nle rfl)
  refine x_putF C hI (xkfX_X7_15 rfl rfl) (by first | exact Or.inl ⟨_, rfl⟩ | exact Or.inr ⟨_, rfl⟩) (nlt rfl) rfl dX7_init_16 ?_
  refine x_aload_n (i := 0) C dX7_init_19 rfl rfl ?_
  refine x_aload_n (i := 1) C dX7_init_20 rfl rfl ?_
  refine x_putR C (xkpX_X7_18 rfl rfl) (by first | exact Or.inl ⟨_, rfl⟩ | exact Or.inr ⟨_, rfl⟩) (nlt rfl) rfl dX7_init_21 ?_
  refine Wx_PH (fun H h => PX_many (Y := cz_X94) (sh := shX) [94] rfl (SL_upR rfl (SL_upR rfl (SL_upR rfl (SL_dz rfl SL_rf)))) (by decide +kernel) h) ?_
  exact x_vretG C rfl hE eK.k eN.k had dX7_init_24
def cz_X97 : XT := (upR (upR (upR (upR (upR (upR (dz 77 (dz 76 cz_X76)) 76 1 (some 77)) 76 2 (some 82)) 76 3 (some 87)) 76 0 (some 38)) 77 0 (some 91)) 77 1 (some 94))
set_option maxHeartbeats 4000000 in
set_option maxRecDepth 100000 in
theorem ct_X97 {D : va_G} : MetG (bX D) yX7_init cX7_init 2 1 30 2 8 [.ref 97, .ref 88] 98 100 (dz 97 cz_X97) cz_X97 := by
  refine MetG.mk (own := RX7) (by decide +kernel) rfl rfl (nle rfl) (fun E ad cA C hG hI hE hk0 hn0 => ?_)
  refine Wx_lv (lv' := [(0, .ref 97), (1, .ref 88)]) rfl ?_
  have had : ∀ k, k < 98 → wA (mkW (bX D) 98 ad cA) k = ad k := fun _ _ => rfl
  refine x_aload_n (i := 0) C dX7_init_0 rfl rfl ?_
  refine x_objInit C oiX7_3.1 oiX7_3.2.1 oiX7_3.2.2 (nle rfl) (nle rfl) dX7_init_1 ?_
  refine x_aload_n (i := 0) C dX7_init_4 rfl rfl ?_
  refine x_bipush C dX7_init_5 (by decide) ?_
  refine x_newarr (at0 := .int) (ty := .int) (q0 := 0) (nn := 6) (a0 := (6, .inl (fun _ => 0))) (kd := 1) (a := 1) (b := 6) C hG rfl acX_int (fun _ => rfl) (fun _ => rfl) rfl (by decide) rfl (nle rfl) (nle rfl) (rbX_S 98 shX rfl rfl (by decide +kernel)) rfl rfl (by rw [hk0]) (by rw [hn0]) (nle rfl) (nle rfl) dX7_init_7 (fun q c C => ?_)
  refine Wx_PH (fun H h => PX_num (k := 98) SB_dz (fun i => rfl) (fun i => rfl) (fun i => rfl) h) ?_
  show Wx _ _ _ (PX _ (dz 97 cz_X97)) _ _ [.ref 98, .ref 97]
  have hG := hG.k (a := 1) (b := 6)
  have hI := hI.k (a := 1) (b := 6)
  have hE := hE.k (a := 1) (b := 6)
  have had := had_up (q := q) (c := c) had (nle rfl)
  refine x_putF C hI (xkfX_X7_9 rfl rfl) (by first | exact Or.inl ⟨_, rfl⟩ | exact Or.inr ⟨_, rfl⟩) (nlt rfl) rfl dX7_init_9 ?_
  refine x_aload_n (i := 0) C dX7_init_12 rfl rfl ?_
  refine x_iconst C dX7_init_13 ?_
  refine x_newarr (at0 := .int) (ty := .int) (q0 := 0) (nn := 2) (a0 := (2, .inl (fun _ => 0))) (kd := 1) (a := 2) (b := 8) C hG rfl acX_int (fun _ => rfl) (fun _ => rfl) rfl (by decide) rfl (nle rfl) (nle rfl) (rbX_S 99 shX rfl rfl (by decide +kernel)) rfl rfl (by rw [eK.k]) (by rw [eN.k]) (nle rfl) (nle rfl) dX7_init_14 (fun q c C => ?_)
  refine Wx_PH (fun H h => PX_num (k := 99) SB_dz (fun i => rfl) (fun i => rfl) (fun i => rfl) h) ?_
  show Wx _ _ _ (PX _ (upR (dz 97 cz_X97) 97 3 (some 98))) _ _ [.ref 99, .ref 97]
  have hG := hG.k (a := 2) (b := 8)
  have hI := hI.k (a := 2) (b := 8)
  have hE := hE.k (a := 2) (b := 8)
  have had := had_up (q := q) (c := c) had (nle rfl)
  refine x_putF C hI (xkfX_X7_15 rfl rfl) (by first | exact Or.inl ⟨_, rfl⟩ | exact Or.inr ⟨_, rfl⟩) (nlt rfl) rfl dX7_init_16 ?_
  refine x_aload_n (i := 0) C dX7_init_19 rfl rfl ?_
  refine x_aload_n (i := 1) C dX7_init_20 rfl rfl ?_
  refine x_putR C (xkpX_X7_18 rfl rfl) (by first | exact Or.inl ⟨_, rfl⟩ | exact Or.inr ⟨_, rfl⟩) (nlt rfl) rfl dX7_init_21 ?_
  refine Wx_PH (fun H h => PX_many (Y := cz_X97) (sh := shX) [97] rfl (SL_upR rfl (SL_upR rfl (SL_upR rfl (SL_dz rfl SL_rf)))) (by decide +kernel) h) ?_
  exact x_vretG C rfl hE eK.k eN.k had dX7_init_24
def cz_X100 : XT := (upR (upR (upR (upR (upR (upR (upR (dz 77 (dz 76 cz_X76)) 76 1 (some 77)) 76 2 (some 82)) 76 3 (some 87)) 76 0 (some 38)) 77 0 (some 91)) 77 1 (some 94)) 77 2 (some 97))
set_option maxHeartbeats 4000000 in
set_option maxRecDepth 100000 in
theorem ct_X100 {D : va_G} : MetG (bX D) yX7_init cX7_init 2 1 30 2 8 [.ref 100, .ref 88] 101 103 (dz 100 cz_X100) cz_X100 := by
  refine MetG.mk (own := RX7) (by decide +kernel) rfl rfl (nle rfl) (fun E ad cA C hG hI hE hk0 hn0 => ?_)
  refine Wx_lv (lv' := [(0, .ref 100), (1, .ref 88)]) rfl ?_
  have had : ∀ k, k < 101 → wA (mkW (bX D) 101 ad cA) k = ad k := fun _ _ => rfl
  refine x_aload_n (i := 0) C dX7_init_0 rfl rfl ?_
  refine x_objInit C oiX7_3.1 oiX7_3.2.1 oiX7_3.2.2 (nle rfl) (nle rfl) dX7_init_1 ?_
  refine x_aload_n (i := 0) C dX7_init_4 rfl rfl ?_
  refine x_bipush C dX7_init_5 (by decide) ?_
  refine x_newarr (at0 := .int) (ty := .int) (q0 := 0) (nn := 6) (a0 := (6, .inl (fun _ => 0))) (kd := 1) (a := 1) (b := 6) C hG rfl acX_int (fun _ => rfl) (fun _ => rfl) rfl (by decide) rfl (nle rfl) (nle rfl) (rbX_S 101 shX rfl rfl (by decide +kernel)) rfl rfl (by rw [hk0]) (by rw [hn0]) (nle rfl) (nle rfl) dX7_init_7 (fun q c C => ?_)
  refine Wx_PH (fun H h => PX_num (k := 101) SB_dz (fun i => rfl) (fun i => rfl) (fun i => rfl) h) ?_
  show Wx _ _ _ (PX _ (dz 100 cz_X100)) _ _ [.ref 101, .ref 100]
  have hG := hG.k (a := 1) (b := 6)
  have hI := hI.k (a := 1) (b := 6)
  have hE := hE.k (a := 1) (b := 6)
  have had := had_up (q := q) (c := c) had (nle rfl)
  refine x_putF C hI (xkfX_X7_9 rfl rfl) (by first | exact Or.inl ⟨_, rfl⟩ | exact Or.inr ⟨_, rfl⟩) (nlt rfl) rfl dX7_init_9 ?_
  refine x_aload_n (i := 0) C dX7_init_12 rfl rfl ?_
  refine x_iconst C dX7_init_13 ?_
  refine x_newarr (at0 := .int) (ty := .int) (q0 := 0) (nn := 2) (a0 := (2, .inl (fun _ => 0))) (kd := 1) (a := 2) (b := 8) C hG rfl acX_int (fun _ => rfl) (fun _ => rfl) rfl (by decide) rfl (nle rfl) (nle rfl) (rbX_S 102 shX rfl rfl (by decide +kernel)) rfl rfl (by rw [eK.k]) (by rw [eN.k]) (nle rfl) (nle rfl) dX7_init_14 (fun q c C => ?_)
  refine Wx_PH (fun H h => PX_num (k := 102) SB_dz (fun i => rfl) (fun i => rfl) (fun i => rfl) h) ?_
  show Wx _ _ _ (PX _ (upR (dz 100 cz_X100) 100 3 (some 101))) _ _ [.ref 102, .ref 100]
  have hG := hG.k (a := 2) (b := 8)
  have hI := hI.k (a := 2) (b := 8)
  have hE := hE.k (a := 2) (b := 8)
  have had := had_up (q := q) (c := c) had (nle rfl)
  refine x_putF C hI (xkfX_X7_15 rfl rfl) (by first | exact Or.inl ⟨_, rfl⟩ | exact Or.inr ⟨_, rfl⟩) (nlt rfl) rfl dX7_init_16 ?_
  refine x_aload_n (i := 0) C dX7_init_19 rfl rfl ?_
  refine x_aload_n (i := 1) C dX7_init_20 rfl rfl ?_
  refine x_putR C (xkpX_X7_18 rfl rfl) (by first | exact Or.inl ⟨_, rfl⟩ | exact Or.inr ⟨_, rfl⟩) (nlt rfl) rfl dX7_init_21 ?_
  refine Wx_PH (fun H h => PX_many (Y := cz_X100) (sh := shX) [100] rfl (SL_upR rfl (SL_upR rfl (SL_upR rfl (SL_dz rfl SL_rf)))) (by decide +kernel) h) ?_
  exact x_vretG C rfl hE eK.k eN.k had dX7_init_24
set_option maxHeartbeats 4000000 in
set_option maxRecDepth 100000 in
theorem ct_X76 {D : va_G} : MetG (bX D) yX1_init cX1_init 4 2 51 26 671 [.ref 76, .ref 38] 77 103 (dz 76 cz_X76) cz_X76 := by
  refine MetG.mk (own := RX1) (by decide +kernel) rfl rfl (nle rfl) (fun E ad cA C hG hI hE hk0 hn0 => ?_)
  refine Wx_lv (lv' := [(0, .ref 76), (1, .ref 38)]) rfl ?_
  have had : ∀ k, k < 77 → wA (mkW (bX D) 77 ad cA) k = ad k := fun _ _ => rfl
  refine x_aload_n (i := 0) C dX1_init_0 rfl rfl ?_
  refine x_objInit C oiX1_3.1 oiX1_3.2.1 oiX1_3.2.2 (nle rfl) (nle rfl) dX1_init_1 ?_
  refine x_aload_n (i := 0) C dX1_init_4 rfl rfl ?_
  refine x_iconst C dX1_init_5 ?_
  refine x_anew (nn := 4) (a := 1) (b := 4) C hG naX1_11.1 naX1_11.2 rfl rfl (nle rfl) (rbX_S 77 shX rfl rfl (by decide +kernel)) rfl rfl (by rw [hk0]) (by rw [hn0]) (nle rfl) (nle rfl) dX1_init_6 (fun q c C => ?_)
  show Wx _ _ _ (PX _ (dz 77 (dz 76 cz_X76))) _ _ [.ref 77, .ref 76]
  have hG := hG.k (a := 1) (b := 4)
  have hI := hI.k (a := 1) (b := 4)
  have hE := hE.k (a := 1) (b := 4)
  have had := had_up (q := q) (c := c) had (nle rfl)
  refine x_putF C hI (xkfX_X1_13 rfl rfl) (by first | exact Or.inl ⟨_, rfl⟩ | exact Or.inr ⟨_, rfl⟩) (nlt rfl) rfl dX1_init_9 ?_
  refine x_aload_n (i := 0) C dX1_init_12 rfl rfl ?_
  refine x_iconst C dX1_init_13 ?_
  refine x_bipush C dX1_init_14 (by decide) ?_
  refine x_mna (kd := 2) (q1 := 0) (kk0 := 110) (j0 := 5) (z := (110, .inr (.inl (fun _ => 0)))) (a := 6) (b := 448) C hG maX1_17.1 maX1_17.2 acX_long (nlt rfl) rfl (by decide) rfl (fun _ h => h) (fun _ => rfl) rfl rfl (by decide) (by decide) (by decide) ⟨rfl, rfl, rfl, rfl, rfl⟩ ⟨rfl, rfl, rfl, rfl, rfl⟩ (fun i c fs hi => (by rcases (show i = 0 ∨ i = 1 ∨ i = 2 ∨ i = 3 by omega) with rfl | rfl | rfl | rfl <;> exact ⟨rfl, fun _ => rfl⟩)) (fun i hi => (by rcases (show i = 0 ∨ i = 1 ∨ i = 2 ∨ i = 3 by omega) with rfl | rfl | rfl | rfl <;> exact rfl)) (fun m hm => by rcases (show m = 0 ∨ m = 1 ∨ m = 2 ∨ m = 3 ∨ m = 4 by omega) with rfl | rfl | rfl | rfl | rfl; exact (show rbS 78 shX (upR (dz 77 (dz 76 cz_X76)) 76 1 (some 77)) = true by decide +kernel); exact (show rbS 79 shX (upR (dz 77 (dz 76 cz_X76)) 76 1 (some 77)) = true by decide +kernel); exact (show rbS 80 shX (upR (dz 77 (dz 76 cz_X76)) 76 1 (some 77)) = true by decide +kernel); exact (show rbS 81 shX (upR (dz 77 (dz 76 cz_X76)) 76 1 (some 77)) = true by decide +kernel); exact (show rbS 82 shX (upR (dz 77 (dz 76 cz_X76)) 76 1 (some 77)) = true by decide +kernel)) rfl rfl (by rw [eK.k]) (by rw [eN.k]) (nle rfl) (nle rfl) dX1_init_16 (fun q r0 r1 r2 r3 cA cy C => ?_)
  have had := had_up (q := r0) (c := cy) had (nle rfl)
  have had := had_up (q := r1) (c := cy) had (nle rfl)
  have had := had_up (q := r2) (c := cy) had (nle rfl)
  have had := had_up (q := r3) (c := cy) had (nle rfl)
  have had := had_up (q := q) (c := cA) had (nle rfl)
  show Wx _ _ _ (PX _ (upR (dz 77 (dz 76 cz_X76)) 76 1 (some 77))) _ _ [.ref 82, .ref 76]
  have hG := hG.k (a := 6) (b := 448)
  have hI := hI.k (a := 6) (b := 448)
  have hE := hE.k (a := 6) (b := 448)
  refine x_putF C hI (xkfX_X1_19 rfl rfl) (by first | exact Or.inl ⟨_, rfl⟩ | exact Or.inr ⟨_, rfl⟩) (nlt rfl) rfl dX1_init_20 ?_
  refine x_aload_n (i := 0) C dX1_init_23 rfl rfl ?_
  refine x_iconst C dX1_init_24 ?_
  refine x_bipush C dX1_init_25 (by decide) ?_
  refine x_mna (kd := 1) (q1 := 0) (kk0 := 37) (j0 := 2) (z := (37, .inl (fun _ => 0))) (a := 11) (b := 600) C hG maX1_22.1 maX1_22.2 acX_int (nlt rfl) rfl (by decide) rfl (fun _ h => h) (fun _ => rfl) rfl rfl (by decide) (by decide) (by decide) ⟨rfl, rfl, rfl, rfl, rfl⟩ ⟨rfl, rfl, rfl, rfl, rfl⟩ (fun i c fs hi => (by rcases (show i = 0 ∨ i = 1 ∨ i = 2 ∨ i = 3 by omega) with rfl | rfl | rfl | rfl <;> exact ⟨rfl, fun _ => rfl⟩)) (fun i hi => (by rcases (show i = 0 ∨ i = 1 ∨ i = 2 ∨ i = 3 by omega) with rfl | rfl | rfl | rfl <;> exact rfl)) (fun m hm => by rcases (show m = 0 ∨ m = 1 ∨ m = 2 ∨ m = 3 ∨ m = 4 by omega) with rfl | rfl | rfl | rfl | rfl; exact (show rbS 83 shX (upR (upR (dz 77 (dz 76 cz_X76)) 76 1 (some 77)) 76 2 (some 82)) = true by decide +kernel); exact (show rbS 84 shX (upR (upR (dz 77 (dz 76 cz_X76)) 76 1 (some 77)) 76 2 (some 82)) = true by decide +kernel); exact (show rbS 85 shX (upR (upR (dz 77 (dz 76 cz_X76)) 76 1 (some 77)) 76 2 (some 82)) = true by decide +kernel); exact (show rbS 86 shX (upR (upR (dz 77 (dz 76 cz_X76)) 76 1 (some 77)) 76 2 (some 82)) = true by decide +kernel); exact (show rbS 87 shX (upR (upR (dz 77 (dz 76 cz_X76)) 76 1 (some 77)) 76 2 (some 82)) = true by decide +kernel)) rfl rfl (by rw [eK.k]) (by rw [eN.k]) (nle rfl) (nle rfl) dX1_init_27 (fun q r0 r1 r2 r3 cA cy C => ?_)
  have had := had_up (q := r0) (c := cy) had (nle rfl)
  have had := had_up (q := r1) (c := cy) had (nle rfl)
  have had := had_up (q := r2) (c := cy) had (nle rfl)
  have had := had_up (q := r3) (c := cy) had (nle rfl)
  have had := had_up (q := q) (c := cA) had (nle rfl)
  show Wx _ _ _ (PX _ (upR (upR (dz 77 (dz 76 cz_X76)) 76 1 (some 77)) 76 2 (some 82))) _ _ [.ref 87, .ref 76]
  have hG := hG.k (a := 11) (b := 600)
  have hI := hI.k (a := 11) (b := 600)
  have hE := hE.k (a := 11) (b := 600)
  refine x_putF C hI (xkfX_X1_24 rfl rfl) (by first | exact Or.inl ⟨_, rfl⟩ | exact Or.inr ⟨_, rfl⟩) (nlt rfl) rfl dX1_init_31 ?_
  refine x_aload_n (i := 0) C dX1_init_34 rfl rfl ?_
  refine x_aload_n (i := 1) C dX1_init_35 rfl rfl ?_
  refine x_putF C hI (xkfX_X1_27 rfl rfl) (by first | exact Or.inl ⟨_, rfl⟩ | exact Or.inr ⟨_, rfl⟩) (nlt rfl) rfl dX1_init_36 ?_
  refine x_new (a := 12) (b := 607) C hG inX0 tyX0_ok rfl rfl nwX_X1_31.1 nwX_X1_31.2.1 nwX_X1_31.2.2 (fun j hj => by rcases (show j = 0 ∨ j = 1 ∨ j = 2 ∨ j = 3 ∨ j = 4 ∨ j = 5 ∨ j = 6 by omega) with rfl | rfl | rfl | rfl | rfl | rfl | rfl <;> rfl) (rbX_S 88 shX rfl rfl (by decide +kernel)) rfl rfl (by rw [eK.k]) (by rw [eN.k]) (nle rfl) (nle rfl) dX1_init_39 (fun q c C => ?_)
  show Wx _ _ _ (PX _ (dz 88 (upR (upR (upR (upR (dz 77 (dz 76 cz_X76)) 76 1 (some 77)) 76 2 (some 82)) 76 3 (some 87)) 76 0 (some 38)))) _ _ [.ref 88]
  have hG := hG.k (a := 12) (b := 607)
  have hI := hI.k (a := 12) (b := 607)
  have hE := hE.k (a := 12) (b := 607)
  have had := had_up (q := q) (c := c) had (nle rfl)
  refine x_dup C dX1_init_42 rfl ?_
  refine x_callG (k := 88) (As := []) (a := 14) (b' := 619) C hG rfl ct_X88 (Or.inr ciX1_33) im_X0_init rfl rfl rfl (nle rfl) ⟨nle rfl, nle rfl⟩ rfl rfl (by rw [eK.k]) (by rw [eN.k]) (nle rfl) (nle rfl) dX1_init_43 (fun ad23 cA23 C hadk => ?_)
  have had : ∀ k, k < 77 → wA (mkW (bX D) 91 ad23 cA23) k = ad k := fun k hk => (hadk k (Nat.lt_of_lt_of_le hk (nle rfl))).trans (had k hk)
  clear hadk
  have hG := hG.k (a := 14) (b := 619)
  have hI := hI.k (a := 14) (b := 619)
  have hE := hE.k (a := 14) (b := 619)
  refine x_astore_n (i := 2) (lv' := [(2, .ref 88), (0, .ref 76), (1, .ref 38)]) C dX1_init_46 rfl (nlt rfl) rfl ?_
  refine x_iconst C dX1_init_47 ?_
  refine x_istore_n (i := 3) (lv' := [(3, .int (iI (0))), (2, .ref 88), (0, .ref 76), (1, .ref 38)]) C dX1_init_48 rfl (nlt rfl) rfl ?_
  refine x_iload_n (i := 3) C dX1_init_49 rfl rfl ?_
  refine x_iconst C dX1_init_50 ?_
  refine x_icmp_gt (tgt := 74) C dX1_init_51 (by decide) ⟨by omega, by omega⟩ ⟨by omega, by omega⟩ (fun h => by exfalso; omega) (fun h => ?_)
  clear h
  refine x_aload_n (i := 0) C dX1_init_54 rfl rfl ?_
  refine x_getRs (r := 77) C (xkgX_X1_13 rfl rfl) (nlt rfl) rfl rfl dX1_init_55 ?_
  refine x_iload_n (i := 3) C dX1_init_58 rfl rfl ?_
  refine x_new (a := 15) (b := 624) C hG inX7 tyX7_ok rfl rfl nwX_X1_11.1 nwX_X1_11.2.1 nwX_X1_11.2.2 (fun j hj => by rcases (show j = 0 ∨ j = 1 ∨ j = 2 ∨ j = 3 ∨ j = 4 by omega) with rfl | rfl | rfl | rfl | rfl <;> rfl) (rbX_S 91 shX rfl rfl (by decide +kernel)) rfl rfl (by rw [eK.k]) (by rw [eN.k]) (nle rfl) (nle rfl) dX1_init_59 (fun q c C => ?_)
  show Wx _ _ _ (PX _ (dz 91 (upR (upR (upR (upR (dz 77 (dz 76 cz_X76)) 76 1 (some 77)) 76 2 (some 82)) 76 3 (some 87)) 76 0 (some 38)))) _ _ [.ref 91, .int (iI (0)), .ref 77]
  have hG := hG.k (a := 15) (b := 624)
  have hI := hI.k (a := 15) (b := 624)
  have hE := hE.k (a := 15) (b := 624)
  have had := had_up (q := q) (c := c) had (nle rfl)
  refine x_dup C dX1_init_62 rfl ?_
  refine x_aload_n (i := 2) C dX1_init_63 rfl rfl ?_
  refine x_callG (host := "") (k := 91) (As := [.ref 88]) (a := 17) (b' := 632) C hG rfl ct_X91 (Or.inl (show CKB RX1 34 yX7_init cX7_init 2 none 1 from ckX1_34)) im_X7_init rfl rfl rfl (nle rfl) ⟨nle rfl, nle rfl⟩ rfl rfl (by rw [eK.k]) (by rw [eN.k]) (nle rfl) (nle rfl) dX1_init_64 (fun ad24 cA24 C hadk => ?_)
  have had : ∀ k, k < 77 → wA (mkW (bX D) 94 ad24 cA24) k = ad k := fun k hk => (hadk k (Nat.lt_of_lt_of_le hk (nle rfl))).trans (had k hk)
  clear hadk
  have hG := hG.k (a := 17) (b := 632)
  have hI := hI.k (a := 17) (b := 632)
  have hE := hE.k (a := 17) (b := 632)
  refine x_aast C (nlt rfl) rfl rfl (nlt rfl) rfl rfl (nle rfl) (by omega) (by omega) dX1_init_67 ?_
  refine x_iinc (lv' := [(3, .int (iI (0 + 1))), (2, .ref 88), (0, .ref 76), (1, .ref 38)]) C dX1_init_68 rfl (nlt rfl) rfl ?_
  refine Wx_lv (lv' := [(3, .int (iI (1))), (2, .ref 88), (0, .ref 76), (1, .ref 38)]) rfl ?_
  refine x_goto (tgt := 49) C dX1_init_71 (by decide) ?_
  refine x_iload_n (i := 3) C dX1_init_49 rfl rfl ?_
  refine x_iconst C dX1_init_50 ?_
  refine x_icmp_gt (tgt := 74) C dX1_init_51 (by decide) ⟨by omega, by omega⟩ ⟨by omega, by omega⟩ (fun h => by exfalso; omega) (fun h => ?_)
  clear h
  refine x_aload_n (i := 0) C dX1_init_54 rfl rfl ?_
  refine x_getRs (r := 77) C (xkgX_X1_13 rfl rfl) (nlt rfl) rfl rfl dX1_init_55 ?_
  refine x_iload_n (i := 3) C dX1_init_58 rfl rfl ?_
  refine x_new (a := 18) (b := 637) C hG inX7 tyX7_ok rfl rfl nwX_X1_11.1 nwX_X1_11.2.1 nwX_X1_11.2.2 (fun j hj => by rcases (show j = 0 ∨ j = 1 ∨ j = 2 ∨ j = 3 ∨ j = 4 by omega) with rfl | rfl | rfl | rfl | rfl <;> rfl) (rbX_S 94 shX rfl rfl (by decide +kernel)) rfl rfl (by rw [eK.k]) (by rw [eN.k]) (nle rfl) (nle rfl) dX1_init_59 (fun q c C => ?_)
  show Wx _ _ _ (PX _ (dz 94 (upR (upR (upR (upR (upR (dz 77 (dz 76 cz_X76)) 76 1 (some 77)) 76 2 (some 82)) 76 3 (some 87)) 76 0 (some 38)) 77 0 (some 91)))) _ _ [.ref 94, .int (iI (1)), .ref 77]
  have hG := hG.k (a := 18) (b := 637)
  have hI := hI.k (a := 18) (b := 637)
  have hE := hE.k (a := 18) (b := 637)
  have had := had_up (q := q) (c := c) had (nle rfl)
  refine x_dup C dX1_init_62 rfl ?_
  refine x_aload_n (i := 2) C dX1_init_63 rfl rfl ?_
  refine x_callG (host := "") (k := 94) (As := [.ref 88]) (a := 20) (b' := 645) C hG rfl ct_X94 (Or.inl (show CKB RX1 34 yX7_init cX7_init 2 none 1 from ckX1_34)) im_X7_init rfl rfl rfl (nle rfl) ⟨nle rfl, nle rfl⟩ rfl rfl (by rw [eK.k]) (by rw [eN.k]) (nle rfl) (nle rfl) dX1_init_64 (fun ad25 cA25 C hadk => ?_)
  have had : ∀ k, k < 77 → wA (mkW (bX D) 97 ad25 cA25) k = ad k := fun k hk => (hadk k (Nat.lt_of_lt_of_le hk (nle rfl))).trans (had k hk)
  clear hadk
  have hG := hG.k (a := 20) (b := 645)
  have hI := hI.k (a := 20) (b := 645)
  have hE := hE.k (a := 20) (b := 645)
  refine x_aast C (nlt rfl) rfl rfl (nlt rfl) rfl rfl (nle rfl) (by omega) (by omega) dX1_init_67 ?_
  refine x_iinc (lv' := [(3, .int (iI (1 + 1))), (2, .ref 88), (0, .ref 76), (1, .ref 38)]) C dX1_init_68 rfl (nlt rfl) rfl ?_
  refine Wx_lv (lv' := [(3, .int (iI (2))), (2, .ref 88), (0, .ref 76), (1, .ref 38)]) rfl ?_
  refine x_goto (tgt := 49) C dX1_init_71 (by decide) ?_
  refine x_iload_n (i := 3) C dX1_init_49 rfl rfl ?_
  refine x_iconst C dX1_init_50 ?_
  refine x_icmp_gt (tgt := 74) C dX1_init_51 (by decide) ⟨by omega, by omega⟩ ⟨by omega, by omega⟩ (fun h => by exfalso; omega) (fun h => ?_)
  clear h
  refine x_aload_n (i := 0) C dX1_init_54 rfl rfl ?_
  refine x_getRs (r := 77) C (xkgX_X1_13 rfl rfl) (nlt rfl) rfl rfl dX1_init_55 ?_
  refine x_iload_n (i := 3) C dX1_init_58 rfl rfl ?_
  refine x_new (a := 21) (b := 650) C hG inX7 tyX7_ok rfl rfl nwX_X1_11.1 nwX_X1_11.2.1 nwX_X1_11.2.2 (fun j hj => by rcases (show j = 0 ∨ j = 1 ∨ j = 2 ∨ j = 3 ∨ j = 4 by omega) with rfl | rfl | rfl | rfl | rfl <;> rfl) (rbX_S 97 shX rfl rfl (by decide +kernel)) rfl rfl (by rw [eK.k]) (by rw [eN.k]) (nle rfl) (nle rfl) dX1_init_59 (fun q c C => ?_)
  show Wx _ _ _ (PX _ (dz 97 (upR (upR (upR (upR (upR (upR (dz 77 (dz 76 cz_X76)) 76 1 (some 77)) 76 2 (some 82)) 76 3 (some 87)) 76 0 (some 38)) 77 0 (some 91)) 77 1 (some 94)))) _ _ [.ref 97, .int (iI (2)), .ref 77]
  have hG := hG.k (a := 21) (b := 650)
  have hI := hI.k (a := 21) (b := 650)
  have hE := hE.k (a := 21) (b := 650)
  have had := had_up (q := q) (c := c) had (nle rfl)
  refine x_dup C dX1_init_62 rfl ?_
  refine x_aload_n (i := 2) C dX1_init_63 rfl rfl ?_
  refine x_callG (host := "") (k := 97) (As := [.ref 88]) (a := 23) (b' := 658) C hG rfl ct_X97 (Or.inl (show CKB RX1 34 yX7_init cX7_init 2 none 1 from ckX1_34)) im_X7_init rfl rfl rfl (nle rfl) ⟨nle rfl, nle rfl⟩ rfl rfl (by rw [eK.k]) (by rw [eN.k]) (nle rfl) (nle rfl) dX1_init_64 (fun ad26 cA26 C hadk => ?_)
  have had : ∀ k, k < 77 → wA (mkW (bX D) 100 ad26 cA26) k = ad k := fun k hk => (hadk k (Nat.lt_of_lt_of_le hk (nle rfl))).trans (had k hk)
  clear hadk
  have hG := hG.k (a := 23) (b := 658)
  have hI := hI.k (a := 23) (b := 658)
  have hE := hE.k (a := 23) (b := 658)
  refine x_aast C (nlt rfl) rfl rfl (nlt rfl) rfl rfl (nle rfl) (by omega) (by omega) dX1_init_67 ?_
  refine x_iinc (lv' := [(3, .int (iI (2 + 1))), (2, .ref 88), (0, .ref 76), (1, .ref 38)]) C dX1_init_68 rfl (nlt rfl) rfl ?_
  refine Wx_lv (lv' := [(3, .int (iI (3))), (2, .ref 88), (0, .ref 76), (1, .ref 38)]) rfl ?_
  refine x_goto (tgt := 49) C dX1_init_71 (by decide) ?_
  refine x_iload_n (i := 3) C dX1_init_49 rfl rfl ?_
  refine x_iconst C dX1_init_50 ?_
  refine x_icmp_gt (tgt := 74) C dX1_init_51 (by decide) ⟨by omega, by omega⟩ ⟨by omega, by omega⟩ (fun h => by exfalso; omega) (fun h => ?_)
  clear h
  refine x_aload_n (i := 0) C dX1_init_54 rfl rfl ?_
  refine x_getRs (r := 77) C (xkgX_X1_13 rfl rfl) (nlt rfl) rfl rfl dX1_init_55 ?_
  refine x_iload_n (i := 3) C dX1_init_58 rfl rfl ?_
  refine x_new (a := 24) (b := 663) C hG inX7 tyX7_ok rfl rfl nwX_X1_11.1 nwX_X1_11.2.1 nwX_X1_11.2.2 (fun j hj => by rcases (show j = 0 ∨ j = 1 ∨ j = 2 ∨ j = 3 ∨ j = 4 by omega) with rfl | rfl | rfl | rfl | rfl <;> rfl) (rbX_S 100 shX rfl rfl (by decide +kernel)) rfl rfl (by rw [eK.k]) (by rw [eN.k]) (nle rfl) (nle rfl) dX1_init_59 (fun q c C => ?_)
  show Wx _ _ _ (PX _ (dz 100 (upR (upR (upR (upR (upR (upR (upR (dz 77 (dz 76 cz_X76)) 76 1 (some 77)) 76 2 (some 82)) 76 3 (some 87)) 76 0 (some 38)) 77 0 (some 91)) 77 1 (some 94)) 77 2 (some 97)))) _ _ [.ref 100, .int (iI (3)), .ref 77]
  have hG := hG.k (a := 24) (b := 663)
  have hI := hI.k (a := 24) (b := 663)
  have hE := hE.k (a := 24) (b := 663)
  have had := had_up (q := q) (c := c) had (nle rfl)
  refine x_dup C dX1_init_62 rfl ?_
  refine x_aload_n (i := 2) C dX1_init_63 rfl rfl ?_
  refine x_callG (host := "") (k := 100) (As := [.ref 88]) (a := 26) (b' := 671) C hG rfl ct_X100 (Or.inl (show CKB RX1 34 yX7_init cX7_init 2 none 1 from ckX1_34)) im_X7_init rfl rfl rfl (nle rfl) ⟨nle rfl, nle rfl⟩ rfl rfl (by rw [eK.k]) (by rw [eN.k]) (nle rfl) (nle rfl) dX1_init_64 (fun ad27 cA27 C hadk => ?_)
  have had : ∀ k, k < 77 → wA (mkW (bX D) 103 ad27 cA27) k = ad k := fun k hk => (hadk k (Nat.lt_of_lt_of_le hk (nle rfl))).trans (had k hk)
  clear hadk
  have hG := hG.k (a := 26) (b := 671)
  have hI := hI.k (a := 26) (b := 671)
  have hE := hE.k (a := 26) (b := 671)
  refine x_aast C (nlt rfl) rfl rfl (nlt rfl) rfl rfl (nle rfl) (by omega) (by omega) dX1_init_67 ?_
  refine x_iinc (lv' := [(3, .int (iI (3 + 1))), (2, .ref 88), (0, .ref 76), (1, .ref 38)]) C dX1_init_68 rfl (nlt rfl) rfl ?_
  refine Wx_lv (lv' := [(3, .int (iI (4))), (2, .ref 88), (0, .ref 76), (1, .ref 38)]) rfl ?_
  refine x_goto (tgt := 49) C dX1_init_71 (by decide) ?_
  refine x_iload_n (i := 3) C dX1_init_49 rfl rfl ?_
  refine x_iconst C dX1_init_50 ?_
  refine x_icmp_gt (tgt := 74) C dX1_init_51 (by decide) ⟨by omega, by omega⟩ ⟨by omega, by omega⟩ (fun h => ?_) (fun h => by exfalso; omega)
  clear h
  refine Wx_PH (fun H h => PX_many (Y := cz_X76) (sh := shX) [76, 77] rfl (SL_upR rfl (SL_upR rfl (SL_upR rfl (SL_upR rfl (SL_upR rfl (SL_upR rfl (SL_upR rfl (SL_upR rfl (SL_dz rfl (SL_dz rfl SL_rf)))))))))) (by decide +kernel) h) ?_
  exact x_vretG C rfl hE eK.k eN.k had dX1_init_74
def cz_X103 : XT := (upR (upR (upR (upR (upR (upR (upR (dz 19 (upR (dz 0 x0X) 0 0 (some 1))) 0 1 (some 19)) 0 2 (some 20)) 0 3 (some 21)) 0 4 (some 29)) 0 5 (some 38)) 0 6 (some 60)) 0 7 (some 76))
def cz_X109 : XT := (upR (dz 108 (upR (upR (dz 106 (upR (upR (upI (dz 103 cz_X103) 103 2 (-1)) 103 3 (some 104)) 103 4 (some 105))) 103 5 (some 106)) 103 6 (some 107))) 103 7 (some 108))
set_option maxHeartbeats 4000000 in
set_option maxRecDepth 100000 in
theorem ct_X109 {D : va_G} : MetG (bX D) yX0_init cX0_init 1 1 30 2 12 [.ref 109] 110 112 (dz 109 cz_X109) cz_X109 := by
  refine MetG.mk (own := RX0) (by decide +kernel) rfl rfl (nle rfl) (fun E ad cA C hG hI hE hk0 hn0 => ?_)
  refine Wx_lv (lv' := [(0, .ref 109)]) rfl ?_
  have had : ∀ k, k < 110 → wA (mkW (bX D) 110 ad cA) k = ad k := fun _ _ => rfl
  refine x_aload_n (i := 0) C dX0_init_0 rfl rfl ?_
  refine x_objInit C oiX0_3.1 oiX0_3.2.1 oiX0_3.2.2 (nle rfl) (nle rfl) dX0_init_1 ?_
  refine x_aload_n (i := 0) C dX0_init_4 rfl rfl ?_
  refine x_bipush C dX0_init_5 (by decide) ?_
  refine x_newarr (at0 := .int) (ty := .int) (q0 := 0) (nn := 6) (a0 := (6, .inl (fun _ => 0))) (kd := 1) (a := 1) (b := 6) C hG rfl acX_int (fun _ => rfl) (fun _ => rfl) rfl (by decide) rfl (nle rfl) (nle rfl) (rbX_S 110 shX rfl rfl (by decide +kernel)) rfl rfl (by rw [hk0]) (by rw [hn0]) (nle rfl) (nle rfl) dX0_init_7 (fun q c C => ?_)
  refine Wx_PH (fun H h => PX_num (k := 110) SB_dz (fun i => rfl) (fun i => rfl) (fun i => rfl) h) ?_
  show Wx _ _ _ (PX _ (dz 109 cz_X109)) _ _ [.ref 110, .ref 109]
  have hG := hG.k (a := 1) (b := 6)
  have hI := hI.k (a := 1) (b := 6)
  have hE := hE.k (a := 1) (b := 6)
  have had := had_up (q := q) (c := c) had (nle rfl)
  refine x_putF C hI (xkfX_X0_9 rfl rfl) (by first | exact Or.inl ⟨_, rfl⟩ | exact Or.inr ⟨_, rfl⟩) (nlt rfl) rfl dX0_init_9 ?_
  refine x_aload_n (i := 0) C dX0_init_12 rfl rfl ?_
  refine x_bipush C dX0_init_13 (by decide) ?_
  refine x_newarr (at0 := .int) (ty := .int) (q0 := 0) (nn := 6) (a0 := (6, .inl (fun _ => 0))) (kd := 1) (a := 2) (b := 12) C hG rfl acX_int (fun _ => rfl) (fun _ => rfl) rfl (by decide) rfl (nle rfl) (nle rfl) (rbX_S 111 shX rfl rfl (by decide +kernel)) rfl rfl (by rw [eK.k]) (by rw [eN.k]) (nle rfl) (nle rfl) dX0_init_15 (fun q c C => ?_)
  refine Wx_PH (fun H h => PX_num (k := 111) SB_dz (fun i => rfl) (fun i => rfl) (fun i => rfl) h) ?_
  show Wx _ _ _ (PX _ (upR (dz 109 cz_X109) 109 5 (some 110))) _ _ [.ref 111, .ref 109]
  have hG := hG.k (a := 2) (b := 12)
  have hI := hI.k (a := 2) (b := 12)
  have hE := hE.k (a := 2) (b := 12)
  have had := had_up (q := q) (c := c) had (nle rfl)
  refine x_putF C hI (xkfX_X0_15 rfl rfl) (by first | exact Or.inl ⟨_, rfl⟩ | exact Or.inr ⟨_, rfl⟩) (nlt rfl) rfl dX0_init_17 ?_
  refine Wx_PH (fun H h => PX_many (Y := cz_X109) (sh := shX) [109] rfl (SL_upR rfl (SL_upR rfl (SL_dz rfl SL_rf))) (by decide +kernel) h) ?_
  exact x_vretG C rfl hE eK.k eN.k had dX0_init_20
def cz_X112 : XT := (upR (upR (dz 108 (upR (upR (dz 106 (upR (upR (upI (dz 103 cz_X103) 103 2 (-1)) 103 3 (some 104)) 103 4 (some 105))) 103 5 (some 106)) 103 6 (some 107))) 103 7 (some 108)) 106 0 (some 109))
set_option maxHeartbeats 4000000 in
set_option maxRecDepth 100000 in
theorem ct_X112 {D : va_G} : MetG (bX D) yX0_init cX0_init 1 1 30 2 12 [.ref 112] 113 115 (dz 112 cz_X112) cz_X112 := by
  refine MetG.mk (own := RX0) (by decide +kernel) rfl rfl (nle rfl) (fun E ad cA C hG hI hE hk0 hn0 => ?_)
  refine Wx_lv (lv' := [(0, .ref 112)]) rfl ?_
  have had : ∀ k, k < 113 → wA (mkW (bX D) 113 ad cA) k = ad k := fun _ _ => rfl
  refine x_aload_n (i := 0) C dX0_init_0 rfl rfl ?_
  refine x_objInit C oiX0_3.1 oiX0_3.2.1 oiX0_3.2.2 (nle rfl) (nle rfl) dX0_init_1 ?_
  refine x_aload_n (i := 0) C dX0_init_4 rfl rfl ?_
  refine x_bipush C dX0_init_5 (by decide) ?_
  refine x_newarr (at0 := .int) (ty := .int) (q0 := 0) (nn := 6) (a0 := (6, .inl (fun _ => 0))) (kd := 1) (a := 1) (b := 6) C hG rfl acX_int (fun _ => rfl) (fun _ => rfl) rfl (by decide) rfl (nle rfl) (nle rfl) (rbX_S 113 shX rfl rfl (by decide +kernel)) rfl rfl (by rw [hk0]) (by rw [hn0]) (nle rfl) (nle rfl) dX0_init_7 (fun q c C => ?_)
  refine Wx_PH (fun H h => PX_num (k := 113) SB_dz (fun i => rfl) (fun i => rfl) (fun i => rfl) h) ?_
  show Wx _ _ _ (PX _ (dz 112 cz_X112)) _ _ [.ref 113, .ref 112]
  have hG := hG.k (a := 1) (b := 6)
  have hI := hI.k (a := 1) (b := 6)
  have hE := hE.k (a := 1) (b := 6)
  have had := had_up (q := q) (c := c) had (nle rfl)
  refine x_putF C hI (xkfX_X0_9 rfl rfl) (by first | exact Or.inl ⟨_, rfl⟩ | exact Or.inr ⟨_, rfl⟩) (nlt rfl) rfl dX0_init_9 ?_
  refine x_aload_n (i := 0) C dX0_init_12 rfl rfl ?_
  refine x_bipush C dX0_init_13 (by decide) ?_
  refine x_newarr (at0 := .int) (ty := .int) (q0 := 0) (nn := 6) (a0 := (6, .inl (fun _ => 0))) (kd := 1) (a := 2) (b := 12) C hG rfl acX_int (fun _ => rfl) (fun _ => rfl) rfl (by decide) rfl (nle rfl) (nle rfl) (rbX_S 114 shX rfl rfl (by decide +kernel)) rfl rfl (by rw [eK.k]) (by rw [eN.k]) (nle rfl) (nle rfl) dX0_init_15 (fun q c C => ?_)
  refine Wx_PH (fun H h => PX_num (k := 114) SB_dz (fun i => rfl) (fun i => rfl) (fun i => rfl) h) ?_
  show Wx _ _ _ (PX _ (upR (dz 112 cz_X112) 112 5 (some 113))) _ _ [.ref 114, .ref 112]
  have hG := hG.k (a := 2) (b := 12)
  have hI := hI.k (a := 2) (b := 12)
  have hE := hE.k (a := 2) (b := 12)
  have had := had_up (q := q) (c := c) had (nle rfl)
  refine x_putF C hI (xkfX_X0_15 rfl rfl) (by first | exact Or.inl ⟨_, rfl⟩ | exact Or.inr ⟨_, rfl⟩) (nlt rfl) rfl dX0_init_17 ?_
  refine Wx_PH (fun H h => PX_many (Y := cz_X112) (sh := shX) [112] rfl (SL_upR rfl (SL_upR rfl (SL_dz rfl SL_rf))) (by decide +kernel) h) ?_
  exact x_vretG C rfl hE eK.k eN.k had dX0_init_20
def cz_X115 : XT := (upR (upR (upR (dz 108 (upR (upR (dz 106 (upR (upR (upI (dz 103 cz_X103) 103 2 (-1)) 103 3 (some 104)) 103 4 (some 105))) 103 5 (some 106)) 103 6 (some 107))) 103 7 (some 108)) 106 0 (some 109)) 106 1 (some 112))
set_option maxHeartbeats 4000000 in
set_option maxRecDepth 100000 in
theorem ct_X115 {D : va_G} : MetG (bX D) yX2_init cX2_init 1 1 30 2 60 [.ref 115] 116 118 (dz 115 cz_X115) cz_X115 := by
  refine MetG.mk (own := RX2) (by decide +kernel) rfl rfl (nle rfl) (fun E ad cA C hG hI hE hk0 hn0 => ?_)
  refine Wx_lv (lv' := [(0, .ref 115)]) rfl ?_
  have had : ∀ k, k < 116 → wA (mkW (bX D) 116 ad cA) k = ad k := fun _ _ => rfl
  refine x_aload_n (i := 0) C dX2_init_0 rfl rfl ?_
  refine x_objInit C oiX2_3.1 oiX2_3.2.1 oiX2_3.2.2 (nle rfl) (nle rfl) dX2_init_1 ?_
  refine x_aload_n (i := 0) C dX2_init_4 rfl rfl ?_
  refine x_bipush C dX2_init_5 (by decide) ?_
  refine x_newarr (at0 := .long) (ty := .long) (q0 := 0) (nn := 30) (a0 := (30, .inr (.inl (fun _ => 0)))) (kd := 2) (a := 1) (b := 30) C hG rfl acX_long (fun _ => rfl) (fun _ => rfl) rfl (by decide) rfl (nle rfl) (nle rfl) (rbX_S 116 shX rfl rfl (by decide +kernel)) rfl rfl (by rw [hk0]) (by rw [hn0]) (nle rfl) (nle rfl) dX2_init_7 (fun q c C => ?_)
  refine Wx_PH (fun H h => PX_num (k := 116) SB_dz (fun i => rfl) (fun i => rfl) (fun i => rfl) h) ?_
  show Wx _ _ _ (PX _ (dz 115 cz_X115)) _ _ [.ref 116, .ref 115]
  have hG := hG.k (a := 1) (b := 30)
  have hI := hI.k (a := 1) (b := 30)
  have hE := hE.k (a := 1) (b := 30)
  have had := had_up (q := q) (c := c) had (nle rfl)
  refine x_putF C hI (xkfX_X2_9 rfl rfl) (by first | exact Or.inl ⟨_, rfl⟩ | exact Or.inr ⟨_, rfl⟩) (nlt rfl) rfl dX2_init_9 ?_
  refine x_aload_n (i := 0) C dX2_init_12 rfl rfl ?_
  refine x_bipush C dX2_init_13 (by decide) ?_
  refine x_newarr (at0 := .int) (ty := .int) (q0 := 0) (nn := 30) (a0 := (30, .inl (fun _ => 0))) (kd := 1) (a := 2) (b := 60) C hG rfl acX_int (fun _ => rfl) (fun _ => rfl) rfl (by decide) rfl (nle rfl) (nle rfl) (rbX_S 117 shX rfl rfl (by decide +kernel)) rfl rfl (by rw [eK.k]) (by rw [eN.k]) (nle rfl) (nle rfl) dX2_init_15 (fun q c C => ?_)
  refine Wx_PH (fun H h => PX_num (k := 117) SB_dz (fun i => rfl) (fun i => rfl) (fun i => rfl) h) ?_
  show Wx _ _ _ (PX _ (upR (dz 115 cz_X115) 115 1 (some 116))) _ _ [.ref 117, .ref 115]
  have hG := hG.k (a := 2) (b := 60)
  have hI := hI.k (a := 2) (b := 60)
  have hE := hE.k (a := 2) (b := 60)
  have had := had_up (q := q) (c := c) had (nle rfl)
  refine x_putF C hI (xkfX_X2_15 rfl rfl) (by first | exact Or.inl ⟨_, rfl⟩ | exact Or.inr ⟨_, rfl⟩) (nlt rfl) rfl dX2_init_17 ?_
  refine Wx_PH (fun H h => PX_many (Y := cz_X115) (sh := shX) [115] rfl (SL_upR rfl (SL_upR rfl (SL_dz rfl SL_rf))) (by decide +kernel) h) ?_
  exact x_vretG C rfl hE eK.k eN.k had dX2_init_20
def cz_X118 : XT := (upR (upR (upR (upR (dz 108 (upR (upR (dz 106 (upR (upR (upI (dz 103 cz_X103) 103 2 (-1)) 103 3 (some 104)) 103 4 (some 105))) 103 5 (some 106)) 103 6 (some 107))) 103 7 (some 108)) 106 0 (some 109)) 106 1 (some 112)) 108 0 (some 115))
set_option maxHeartbeats 4000000 in
set_option maxRecDepth 100000 in
theorem ct_X118 {D : va_G} : MetG (bX D) yX2_init cX2_init 1 1 30 2 60 [.ref 118] 119 121 (dz 118 cz_X118) cz_X118 := by
  refine MetG.mk (own := RX2) (by decide +kernel) rfl rfl (nle rfl) (fun E ad cA C hG hI hE hk0 hn0 => ?_)
  refine Wx_lv (lv' := [(0, .ref 118)]) rfl ?_
  have had : ∀ k, k < 119 → wA (mkW (bX D) 119 ad cA) k = ad k := fun _ _ => rfl
  refine x_aload_n (i := 0) C dX2_init_0 rfl rfl ?_
  refine x_objInit C oiX2_3.1 oiX2_3.2.1 oiX2_3.2.2 (nle rfl) (nle rfl) dX2_init_1 ?_
  refine x_aload_n (i := 0) C dX2_init_4 rfl rfl ?_
  refine x_bipush C dX2_init_5 (by decide) ?_
  refine x_newarr (at0 := .long) (ty := .long) (q0 := 0) (nn := 30) (a0 := (30, .inr (.inl (fun _ => 0)))) (kd := 2) (a := 1) (b := 30) C hG rfl acX_long (fun _ => rfl) (fun _ => rfl) rfl (by decide) rfl (nle rfl) (nle rfl) (rbX_S 119 shX rfl rfl (by decide +kernel)) rfl rfl (by rw [hk0]) (by rw [hn0]) (nle rfl) (nle rfl) dX2_init_7 (fun q c C => ?_)
  refine Wx_PH (fun H h => PX_num (k := 119) SB_dz (fun i => rfl) (fun i => rfl) (fun i => rfl) h) ?_
  show Wx _ _ _ (PX _ (dz 118 cz_X118)) _ _ [.ref 119, .ref 118]
  have hG := hG.k (a := 1) (b := 30)
  have hI := hI.k (a := 1) (b := 30)
  have hE := hE.k (a := 1) (b := 30)
  have had := had_up (q := q) (c := c) had (nle rfl)
  refine x_putF C hI (xkfX_X2_9 rfl rfl) (by first | exact Or.inl ⟨_, rfl⟩ | exact Or.inr ⟨_, rfl⟩) (nlt rfl) rfl dX2_init_9 ?_
  refine x_aload_n (i := 0) C dX2_init_12 rfl rfl ?_
  refine x_bipush C dX2_init_13 (by decide) ?_
  refine x_newarr (at0 := .int) (ty := .int) (q0 := 0) (nn := 30) (a0 := (30, .inl (fun _ => 0))) (kd := 1) (a := 2) (b := 60) C hG rfl acX_int (fun _ => rfl) (fun _ => rfl) rfl (by decide) rfl (nle rfl) (nle rfl) (rbX_S 120 shX rfl rfl (by decide +kernel)) rfl rfl (by rw [eK.k]) (by rw [eN.k]) (nle rfl) (nle rfl) dX2_init_15 (fun q c C => ?_)
  refine Wx_PH (fun H h => PX_num (k := 120) SB_dz (fun i => rfl) (fun i => rfl) (fun i => rfl) h) ?_
  show Wx _ _ _ (PX _ (upR (dz 118 cz_X118) 118 1 (some 119))) _ _ [.ref 120, .ref 118]
  have hG := hG.k (a := 2) (b := 60)
  have hI := hI.k (a := 2) (b := 60)
  have hE := hE.k (a := 2) (b := 60)
  have had := had_up (q := q) (c := c) had (nle rfl)
  refine x_putF C hI (xkfX_X2_15 rfl rfl) (by first | exact Or.inl ⟨_, rfl⟩ | exact Or.inr ⟨_, rfl⟩) (nlt rfl) rfl dX2_init_17 ?_
  refine Wx_PH (fun H h => PX_many (Y := cz_X118) (sh := shX) [118] rfl (SL_upR rfl (SL_upR rfl (SL_dz rfl SL_rf))) (by decide +kernel) h) ?_
  exact x_vretG C rfl hE eK.k eN.k had dX2_init_20
set_option maxHeartbeats 4000000 in
set_option maxRecDepth 100000 in
theorem ct_X103 {D : va_G} : MetG (bX D) yX8_init cX8_init 2 2 50 17 774 [.ref 103] 104 121 (dz 103 cz_X103) cz_X103 := by
  refine MetG.mk (own := RX8) (by decide +kernel) rfl rfl (nle rfl) (fun E ad cA C hG hI hE hk0 hn0 => ?_)
  refine Wx_lv (lv' := [(0, .ref 103)]) rfl ?_
  have had : ∀ k, k < 104 → wA (mkW (bX D) 104 ad cA) k = ad k := fun _ _ => rfl
  refine x_aload_n (i := 0) C dX8_init_0 rfl rfl ?_
  refine x_objInit C oiX8_3.1 oiX8_3.2.1 oiX8_3.2.2 (nle rfl) (nle rfl) dX8_init_1 ?_
  refine x_aload_n (i := 0) C dX8_init_4 rfl rfl ?_
  refine x_iconst C dX8_init_5 ?_
  refine x_putI C (xkpX_X8_9 rfl rfl) (nlt rfl) rfl dX8_init_6 ?_
  refine x_aload_n (i := 0) C dX8_init_9 rfl rfl ?_
  refine x_sipush C dX8_init_10 (by decide) ?_
  refine x_newarr (at0 := .int) (ty := .int) (q0 := 0) (nn := 600) (a0 := (600, .inl (fun _ => 0))) (kd := 1) (a := 1) (b := 600) C hG rfl acX_int (fun _ => rfl) (fun _ => rfl) rfl (by decide) rfl (nle rfl) (nle rfl) (rbX_S 104 shX rfl rfl (by decide +kernel)) rfl rfl (by rw [hk0]) (by rw [hn0]) (nle rfl) (nle rfl) dX8_init_13 (fun q c C => ?_)
  refine Wx_PH (fun H h => PX_num (k := 104) SB_dz (fun i => rfl) (fun i => rfl) (fun i => rfl) h) ?_
  show Wx _ _ _ (PX _ (upI (dz 103 cz_X103) 103 2 (-1))) _ _ [.ref 104, .ref 103]
  have hG := hG.k (a := 1) (b := 600)
  have hI := hI.k (a := 1) (b := 600)
  have hE := hE.k (a := 1) (b := 600)
  have had := had_up (q := q) (c := c) had (nle rfl)
  refine x_putF C hI (xkfX_X8_15 rfl rfl) (by first | exact Or.inl ⟨_, rfl⟩ | exact Or.inr ⟨_, rfl⟩) (nlt rfl) rfl dX8_init_15 ?_
  refine x_aload_n (i := 0) C dX8_init_18 rfl rfl ?_
  refine x_iconst C dX8_init_19 ?_
  refine x_newarr (at0 := .int) (ty := .int) (q0 := 0) (nn := 3) (a0 := (3, .inl (fun _ => 0))) (kd := 1) (a := 2) (b := 603) C hG rfl acX_int (fun _ => rfl) (fun _ => rfl) rfl (by decide) rfl (nle rfl) (nle rfl) (rbX_S 105 shX rfl rfl (by decide +kernel)) rfl rfl (by rw [eK.k]) (by rw [eN.k]) (nle rfl) (nle rfl) dX8_init_20 (fun q c C => ?_)
  refine Wx_PH (fun H h => PX_num (k := 105) SB_dz (fun i => rfl) (fun i => rfl) (fun i => rfl) h) ?_
  show Wx _ _ _ (PX _ (upR (upI (dz 103 cz_X103) 103 2 (-1)) 103 3 (some 104))) _ _ [.ref 105, .ref 103]
  have hG := hG.k (a := 2) (b := 603)
  have hI := hI.k (a := 2) (b := 603)
  have hE := hE.k (a := 2) (b := 603)
  have had := had_up (q := q) (c := c) had (nle rfl)
  refine x_putF C hI (xkfX_X8_19 rfl rfl) (by first | exact Or.inl ⟨_, rfl⟩ | exact Or.inr ⟨_, rfl⟩) (nlt rfl) rfl dX8_init_22 ?_
  refine x_aload_n (i := 0) C dX8_init_25 rfl rfl ?_
  refine x_iconst C dX8_init_26 ?_
  refine x_anew (nn := 2) (a := 3) (b := 605) C hG naX8_22.1 naX8_22.2 rfl rfl (nle rfl) (rbX_S 106 shX rfl rfl (by decide +kernel)) rfl rfl (by rw [eK.k]) (by rw [eN.k]) (nle rfl) (nle rfl) dX8_init_27 (fun q c C => ?_)
  show Wx _ _ _ (PX _ (dz 106 (upR (upR (upI (dz 103 cz_X103) 103 2 (-1)) 103 3 (some 104)) 103 4 (some 105)))) _ _ [.ref 106, .ref 103]
  have hG := hG.k (a := 3) (b := 605)
  have hI := hI.k (a := 3) (b := 605)
  have hE := hE.k (a := 3) (b := 605)
  have had := had_up (q := q) (c := c) had (nle rfl)
  refine x_putF C hI (xkfX_X8_24 rfl rfl) (by first | exact Or.inl ⟨_, rfl⟩ | exact Or.inr ⟨_, rfl⟩) (nlt rfl) rfl dX8_init_30 ?_
  refine x_aload_n (i := 0) C dX8_init_33 rfl rfl ?_
  refine x_iconst C dX8_init_34 ?_
  refine x_newarr (at0 := .long) (ty := .long) (q0 := 0) (nn := 3) (a0 := (3, .inr (.inl (fun _ => 0)))) (kd := 2) (a := 4) (b := 608) C hG rfl acX_long (fun _ => rfl) (fun _ => rfl) rfl (by decide) rfl (nle rfl) (nle rfl) (rbX_S 107 shX rfl rfl (by decide +kernel)) rfl rfl (by rw [eK.k]) (by rw [eN.k]) (nle rfl) (nle rfl) dX8_init_35 (fun q c C => ?_)
  refine Wx_PH (fun H h => PX_num (k := 107) SB_dz (fun i => rfl) (fun i => rfl) (fun i => rfl) h) ?_
  show Wx _ _ _ (PX _ (upR (dz 106 (upR (upR (upI (dz 103 cz_X103) 103 2 (-1)) 103 3 (some 104)) 103 4 (some 105))) 103 5 (some 106))) _ _ [.ref 107, .ref 103]
  have hG := hG.k (a := 4) (b := 608)
  have hI := hI.k (a := 4) (b := 608)
  have hE := hE.k (a := 4) (b := 608)
  have had := had_up (q := q) (c := c) had (nle rfl)
  refine x_putF C hI (xkfX_X8_28 rfl rfl) (by first | exact Or.inl ⟨_, rfl⟩ | exact Or.inr ⟨_, rfl⟩) (nlt rfl) rfl dX8_init_37 ?_
  refine x_aload_n (i := 0) C dX8_init_40 rfl rfl ?_
  refine x_iconst C dX8_init_41 ?_
  refine x_anew (nn := 2) (a := 5) (b := 610) C hG naX8_32.1 naX8_32.2 rfl rfl (nle rfl) (rbX_S 108 shX rfl rfl (by decide +kernel)) rfl rfl (by rw [eK.k]) (by rw [eN.k]) (nle rfl) (nle rfl) dX8_init_42 (fun q c C => ?_)
  show Wx _ _ _ (PX _ (dz 108 (upR (upR (dz 106 (upR (upR (upI (dz 103 cz_X103) 103 2 (-1)) 103 3 (some 104)) 103 4 (some 105))) 103 5 (some 106)) 103 6 (some 107)))) _ _ [.ref 108, .ref 103]
  have hG := hG.k (a := 5) (b := 610)
  have hI := hI.k (a := 5) (b := 610)
  have hE := hE.k (a := 5) (b := 610)
  have had := had_up (q := q) (c := c) had (nle rfl)
  refine x_putF C hI (xkfX_X8_34 rfl rfl) (by first | exact Or.inl ⟨_, rfl⟩ | exact Or.inr ⟨_, rfl⟩) (nlt rfl) rfl dX8_init_45 ?_
  refine x_iconst C dX8_init_48 ?_
  refine x_istore_n (i := 1) (lv' := [(1, .int (iI (0))), (0, .ref 103)]) C dX8_init_49 rfl (nlt rfl) rfl ?_
  refine x_iload_n (i := 1) C dX8_init_50 rfl rfl ?_
  refine x_iconst C dX8_init_51 ?_
  refine x_icmp_ge (tgt := 74) C dX8_init_52 (by decide) ⟨by omega, by omega⟩ ⟨by omega, by omega⟩ (fun h => by exfalso; omega) (fun h => ?_)
  clear h
  refine x_aload_n (i := 0) C dX8_init_55 rfl rfl ?_
  refine x_getRs (r := 106) C (xkgX_X8_24 rfl rfl) (nlt rfl) rfl rfl dX8_init_56 ?_
  refine x_iload_n (i := 1) C dX8_init_59 rfl rfl ?_
  refine x_new (a := 6) (b := 617) C hG inX0 tyX0_ok rfl rfl nwX_X8_22.1 nwX_X8_22.2.1 nwX_X8_22.2.2 (fun j hj => by rcases (show j = 0 ∨ j = 1 ∨ j = 2 ∨ j = 3 ∨ j = 4 ∨ j = 5 ∨ j = 6 by omega) with rfl | rfl | rfl | rfl | rfl | rfl | rfl <;> rfl) (rbX_S 109 shX rfl rfl (by decide +kernel)) rfl rfl (by rw [eK.k]) (by rw [eN.k]) (nle rfl) (nle rfl) dX8_init_60 (fun q c C => ?_)
  show Wx _ _ _ (PX _ (dz 109 (upR (dz 108 (upR (upR (dz 106 (upR (upR (upI (dz 103 cz_X103) 103 2 (-1)) 103 3 (some 104)) 103 4 (some 105))) 103 5 (some 106)) 103 6 (some 107))) 103 7 (some 108)))) _ _ [.ref 109, .int (iI (0)), .ref 106]
  have hG := hG.k (a := 6) (b := 617)
  have hI := hI.k (a := 6) (b := 617)
  have hE := hE.k (a := 6) (b := 617)
  have had := had_up (q := q) (c := c) had (nle rfl)
  refine x_dup C dX8_init_63 rfl ?_
  refine x_callG (k := 109) (As := []) (a := 8) (b' := 629) C hG rfl ct_X109 (Or.inr ciX8_38) im_X0_init rfl rfl rfl (nle rfl) ⟨nle rfl, nle rfl⟩ rfl rfl (by rw [eK.k]) (by rw [eN.k]) (nle rfl) (nle rfl) dX8_init_64 (fun ad29 cA29 C hadk => ?_)
  have had : ∀ k, k < 104 → wA (mkW (bX D) 112 ad29 cA29) k = ad k := fun k hk => (hadk k (Nat.lt_of_lt_of_le hk (nle rfl))).trans (had k hk)
  clear hadk
  have hG := hG.k (a := 8) (b := 629)
  have hI := hI.k (a := 8) (b := 629)
  have hE := hE.k (a := 8) (b := 629)
  refine x_aast C (nlt rfl) rfl rfl (nlt rfl) rfl rfl (nle rfl) (by omega) (by omega) dX8_init_67 ?_
  refine x_iinc (lv' := [(1, .int (iI (0 + 1))), (0, .ref 103)]) C dX8_init_68 rfl (nlt rfl) rfl ?_
  refine Wx_lv (lv' := [(1, .int (iI (1))), (0, .ref 103)]) rfl ?_
  refine x_goto (tgt := 50) C dX8_init_71 (by decide) ?_
  refine x_iload_n (i := 1) C dX8_init_50 rfl rfl ?_
  refine x_iconst C dX8_init_51 ?_
  refine x_icmp_ge (tgt := 74) C dX8_init_52 (by decide) ⟨by omega, by omega⟩ ⟨by omega, by omega⟩ (fun h => by exfalso; omega) (fun h => ?_)
  clear h
  refine x_aload_n (i := 0) C dX8_init_55 rfl rfl ?_
  refine x_getRs (r := 106) C (xkgX_X8_24 rfl rfl) (nlt rfl) rfl rfl dX8_init_56 ?_
  refine x_iload_n (i := 1) C dX8_init_59 rfl rfl ?_
  refine x_new (a := 9) (b := 636) C hG inX0 tyX0_ok rfl rfl nwX_X8_22.1 nwX_X8_22.2.1 nwX_X8_22.2.2 (fun j hj => by rcases (show j = 0 ∨ j = 1 ∨ j = 2 ∨ j = 3 ∨ j = 4 ∨ j = 5 ∨ j = 6 by omega) with rfl | rfl | rfl | rfl | rfl | rfl | rfl <;> rfl) (rbX_S 112 shX rfl rfl (by decide +kernel)) rfl rfl (by rw [eK.k]) (by rw [eN.k]) (nle rfl) (nle rfl) dX8_init_60 (fun q c C => ?_)
  show Wx _ _ _ (PX _ (dz 112 (upR (upR (dz 108 (upR (upR (dz 106 (upR (upR (upI (dz 103 cz_X103) 103 2 (-1)) 103 3 (some 104)) 103 4 (some 105))) 103 5 (some 106)) 103 6 (some 107))) 103 7 (some 108)) 106 0 (some 109)))) _ _ [.ref 112, .int (iI (1)), .ref 106]
  have hG := hG.k (a := 9) (b := 636)
  have hI := hI.k (a := 9) (b := 636)
  have hE := hE.k (a := 9) (b := 636)
  have had := had_up (q := q) (c := c) had (nle rfl)
  refine x_dup C dX8_init_63 rfl ?_
  refine x_callG (k := 112) (As := []) (a := 11) (b' := 648) C hG rfl ct_X112 (Or.inr ciX8_38) im_X0_init rfl rfl rfl (nle rfl) ⟨nle rfl, nle rfl⟩ rfl rfl (by rw [eK.k]) (by rw [eN.k]) (nle rfl) (nle rfl) dX8_init_64 (fun ad30 cA30 C hadk => ?_)
  have had : ∀ k, k < 104 → wA (mkW (bX D) 115 ad30 cA30) k = ad k := fun k hk => (hadk k (Nat.lt_of_lt_of_le hk (nle rfl))).trans (had k hk)
  clear hadk
  have hG := hG.k (a := 11) (b := 648)
  have hI := hI.k (a := 11) (b := 648)
  have hE := hE.k (a := 11) (b := 648)
  refine x_aast C (nlt rfl) rfl rfl (nlt rfl) rfl rfl (nle rfl) (by omega) (by omega) dX8_init_67 ?_
  refine x_iinc (lv' := [(1, .int (iI (1 + 1))), (0, .ref 103)]) C dX8_init_68 rfl (nlt rfl) rfl ?_
  refine Wx_lv (lv' := [(1, .int (iI (2))), (0, .ref 103)]) rfl ?_
  refine x_goto (tgt := 50) C dX8_init_71 (by decide) ?_
  refine x_iload_n (i := 1) C dX8_init_50 rfl rfl ?_
  refine x_iconst C dX8_init_51 ?_
  refine x_icmp_ge (tgt := 74) C dX8_init_52 (by decide) ⟨by omega, by omega⟩ ⟨by omega, by omega⟩ (fun h => ?_) (fun h => by exfalso; omega)
  clear h
  refine x_iconst C dX8_init_74 ?_
  refine x_istore_n (i := 1) (lv' := [(1, .int (iI (0))), (0, .ref 103)]) C dX8_init_75 rfl (nlt rfl) rfl ?_
  refine x_iload_n (i := 1) C dX8_init_76 rfl rfl ?_
  refine x_iconst C dX8_init_77 ?_
  refine x_icmp_ge (tgt := 100) C dX8_init_78 (by decide) ⟨by omega, by omega⟩ ⟨by omega, by omega⟩ (fun h => by exfalso; omega) (fun h => ?_)
  clear h
  refine x_aload_n (i := 0) C dX8_init_81 rfl rfl ?_
  refine x_getRs (r := 108) C (xkgX_X8_34 rfl rfl) (nlt rfl) rfl rfl dX8_init_82 ?_
  refine x_iload_n (i := 1) C dX8_init_85 rfl rfl ?_
  refine x_new (a := 12) (b := 651) C hG inX2 tyX2_ok rfl rfl nwX_X8_32.1 nwX_X8_32.2.1 nwX_X8_32.2.2 (fun j hj => by rcases (show j = 0 ∨ j = 1 ∨ j = 2 by omega) with rfl | rfl | rfl <;> rfl) (rbX_S 115 shX rfl rfl (by decide +kernel)) rfl rfl (by rw [eK.k]) (by rw [eN.k]) (nle rfl) (nle rfl) dX8_init_86 (fun q c C => ?_)
  show Wx _ _ _ (PX _ (dz 115 (upR (upR (upR (dz 108 (upR (upR (dz 106 (upR (upR (upI (dz 103 cz_X103) 103 2 (-1)) 103 3 (some 104)) 103 4 (some 105))) 103 5 (some 106)) 103 6 (some 107))) 103 7 (some 108)) 106 0 (some 109)) 106 1 (some 112)))) _ _ [.ref 115, .int (iI (0)), .ref 108]
  have hG := hG.k (a := 12) (b := 651)
  have hI := hI.k (a := 12) (b := 651)
  have hE := hE.k (a := 12) (b := 651)
  have had := had_up (q := q) (c := c) had (nle rfl)
  refine x_dup C dX8_init_89 rfl ?_
  refine x_callG (k := 115) (As := []) (a := 14) (b' := 711) C hG rfl ct_X115 (Or.inr ciX8_39) im_X2_init rfl rfl rfl (nle rfl) ⟨nle rfl, nle rfl⟩ rfl rfl (by rw [eK.k]) (by rw [eN.k]) (nle rfl) (nle rfl) dX8_init_90 (fun ad31 cA31 C hadk => ?_)
  have had : ∀ k, k < 104 → wA (mkW (bX D) 118 ad31 cA31) k = ad k := fun k hk => (hadk k (Nat.lt_of_lt_of_le hk (nle rfl))).trans (had k hk)
  clear hadk
  have hG := hG.k (a := 14) (b := 711)
  have hI := hI.k (a := 14) (b := 711)
  have hE := hE.k (a := 14) (b := 711)
  refine x_aast C (nlt rfl) rfl rfl (nlt rfl) rfl rfl (nle rfl) (by omega) (by omega) dX8_init_93 ?_
  refine x_iinc (lv' := [(1, .int (iI (0 + 1))), (0, .ref 103)]) C dX8_init_94 rfl (nlt rfl) rfl ?_
  refine Wx_lv (lv' := [(1, .int (iI (1))), (0, .ref 103)]) rfl ?_
  refine x_goto (tgt := 76) C dX8_init_97 (by decide) ?_
  refine x_iload_n (i := 1) C dX8_init_76 rfl rfl ?_
  refine x_iconst C dX8_init_77 ?_
  refine x_icmp_ge (tgt := 100) C dX8_init_78 (by decide) ⟨by omega, by omega⟩ ⟨by omega, by omega⟩ (fun h => by exfalso; omega) (fun h => ?_)
  clear h
  refine x_aload_n (i := 0) C dX8_init_81 rfl rfl ?_
  refine x_getRs (r := 108) C (xkgX_X8_34 rfl rfl) (nlt rfl) rfl rfl dX8_init_82 ?_
  refine x_iload_n (i := 1) C dX8_init_85 rfl rfl ?_
  refine x_new (a := 15) (b := 714) C hG inX2 tyX2_ok rfl rfl nwX_X8_32.1 nwX_X8_32.2.1 nwX_X8_32.2.2 (fun j hj => by rcases (show j = 0 ∨ j = 1 ∨ j = 2 by omega) with rfl | rfl | rfl <;> rfl) (rbX_S 118 shX rfl rfl (by decide +kernel)) rfl rfl (by rw [eK.k]) (by rw [eN.k]) (nle rfl) (nle rfl) dX8_init_86 (fun q c C => ?_)
  show Wx _ _ _ (PX _ (dz 118 (upR (upR (upR (upR (dz 108 (upR (upR (dz 106 (upR (upR (upI (dz 103 cz_X103) 103 2 (-1)) 103 3 (some 104)) 103 4 (some 105))) 103 5 (some 106)) 103 6 (some 107))) 103 7 (some 108)) 106 0 (some 109)) 106 1 (some 112)) 108 0 (some 115)))) _ _ [.ref 118, .int (iI (1)), .ref 108]
  have hG := hG.k (a := 15) (b := 714)
  have hI := hI.k (a := 15) (b := 714)
  have hE := hE.k (a := 15) (b := 714)
  have had := had_up (q := q) (c := c) had (nle rfl)
  refine x_dup C dX8_init_89 rfl ?_
  refine x_callG (k := 118) (As := []) (a := 17) (b' := 774) C hG rfl ct_X118 (Or.inr ciX8_39) im_X2_init rfl rfl rfl (nle rfl) ⟨nle rfl, nle rfl⟩ rfl rfl (by rw [eK.k]) (by rw [eN.k]) (nle rfl) (nle rfl) dX8_init_90 (fun ad32 cA32 C hadk => ?_)
  have had : ∀ k, k < 104 → wA (mkW (bX D) 121 ad32 cA32) k = ad k := fun k hk => (hadk k (Nat.lt_of_lt_of_le hk (nle rfl))).trans (had k hk)
  clear hadk
  have hG := hG.k (a := 17) (b := 774)
  have hI := hI.k (a := 17) (b := 774)
  have hE := hE.k (a := 17) (b := 774)
  refine x_aast C (nlt rfl) rfl rfl (nlt rfl) rfl rfl (nle rfl) (by omega) (by omega) dX8_init_93 ?_
  refine x_iinc (lv' := [(1, .int (iI (1 + 1))), (0, .ref 103)]) C dX8_init_94 rfl (nlt rfl) rfl ?_
  refine Wx_lv (lv' := [(1, .int (iI (2))), (0, .ref 103)]) rfl ?_
  refine x_goto (tgt := 76) C dX8_init_97 (by decide) ?_
  refine x_iload_n (i := 1) C dX8_init_76 rfl rfl ?_
  refine x_iconst C dX8_init_77 ?_
  refine x_icmp_ge (tgt := 100) C dX8_init_78 (by decide) ⟨by omega, by omega⟩ ⟨by omega, by omega⟩ (fun h => ?_) (fun h => by exfalso; omega)
  clear h
  refine Wx_PH (fun H h => PX_many (Y := cz_X103) (sh := shX) [103, 106, 108] rfl (SL_upR rfl (SL_upR rfl (SL_upR rfl (SL_upR rfl (SL_upR rfl (SL_dz rfl (SL_upR rfl (SL_upR rfl (SL_dz rfl (SL_upR rfl (SL_upR rfl (SL_upI rfl (SL_dz rfl SL_rf))))))))))))) (by decide +kernel) h) ?_
  exact x_vretG C rfl hE eK.k eN.k had dX8_init_100
def cz_X121 : XT := (upR (upR (upR (upR (upR (upR (upR (upR (dz 19 (upR (dz 0 x0X) 0 0 (some 1))) 0 1 (some 19)) 0 2 (some 20)) 0 3 (some 21)) 0 4 (some 29)) 0 5 (some 38)) 0 6 (some 60)) 0 7 (some 76)) 19 0 (some 103))
def cz_X127 : XT := (upR (dz 126 (upR (upR (dz 124 (upR (upR (upI (dz 121 cz_X121) 121 2 (-1)) 121 3 (some 122)) 121 4 (some 123))) 121 5 (some 124)) 121 6 (some 125))) 121 7 (some 126))
set_option maxHeartbeats 4000000 in
set_option maxRecDepth 100000 in
theorem ct_X127 {D : va_G} : MetG (bX D) yX0_init cX0_init 1 1 30 2 12 [.ref 127] 128 130 (dz 127 cz_X127) cz_X127 := by
  refine MetG.mk (own := RX0) (by decide +kernel) rfl rfl (nle rfl) (fun E ad cA C hG hI hE hk0 hn0 => ?_)
  refine Wx_lv (lv' := [(0, .ref 127)]) rfl ?_
  have had : ∀ k, k < 128 → wA (mkW (bX D) 128 ad cA) k = ad k := fun _ _ => rfl
  refine x_aload_n (i := 0) C dX0_init_0 rfl rfl ?_
  refine x_objInit C oiX0_3.1 oiX0_3.2.1 oiX0_3.2.2 (nle rfl) (nle rfl) dX0_init_1 ?_
  refine x_aload_n (i := 0) C dX0_init_4 rfl rfl ?_
  refine x_bipush C dX0_init_5 (by decide) ?_
  refine x_newarr (at0 := .int) (ty := .int) (q0 := 0) (nn := 6) (a0 := (6, .inl (fun _ => 0))) (kd := 1) (a := 1) (b := 6) C hG rfl acX_int (fun _ => rfl) (fun _ => rfl) rfl (by decide) rfl (nle rfl) (nle rfl) (rbX_S 128 shX rfl rfl (by decide +kernel)) rfl rfl (by rw [hk0]) (by rw [hn0]) (nle rfl) (nle rfl) dX0_init_7 (fun q c C => ?_)
  refine Wx_PH (fun H h => PX_num (k := 128) SB_dz (fun i => rfl) (fun i => rfl) (fun i => rfl) h) ?_
  show Wx _ _ _ (PX _ (dz 127 cz_X127)) _ _ [.ref 128, .ref 127]
  have hG := hG.k (a := 1) (b := 6)
  have hI := hI.k (a := 1) (b := 6)
  have hE := hE.k (a := 1) (b := 6)
  have had := had_up (q := q) (c := c) had (nle rfl)
  refine x_putF C hI (xkfX_X0_9 rfl rfl) (by first | exact Or.inl ⟨_, rfl⟩ | exact Or.inr ⟨_, rfl⟩) (nlt rfl) rfl dX0_init_9 ?_
  refine x_aload_n (i := 0) C dX0_init_12 rfl rfl ?_
  refine x_bipush C dX0_init_13 (by decide) ?_
  refine x_newarr (at0 := .int) (ty := .int) (q0 := 0) (nn := 6) (a0 := (6, .inl (fun _ => 0))) (kd := 1) (a := 2) (b := 12) C hG rfl acX_int (fun _ => rfl) (fun _ => rfl) rfl (by decide) rfl (nle rfl) (nle rfl) (rbX_S 129 shX rfl rfl (by decide +kernel)) rfl rfl (by rw [eK.k]) (by rw [eN.k]) (nle rfl) (nle rfl) dX0_init_15 (fun q c C => ?_)
  refine Wx_PH (fun H h => PX_num (k := 129) SB_dz (fun i => rfl) (fun i => rfl) (fun i => rfl) h) ?_
  show Wx _ _ _ (PX _ (upR (dz 127 cz_X127) 127 5 (some 128))) _ _ [.ref 129, .ref 127]
  have hG := hG.k (a := 2) (b := 12)
  have hI := hI.k (a := 2) (b := 12)
  have hE := hE.k (a := 2) (b := 12)
  have had := had_up (q := q) (c := c) had (nle rfl)
  refine x_putF C hI (xkfX_X0_15 rfl rfl) (by first | exact Or.inl ⟨_, rfl⟩ | exact Or.inr ⟨_, rfl⟩) (nlt rfl) rfl dX0_init_17 ?_
  refine Wx_PH (fun H h => PX_many (Y := cz_X127) (sh := shX) [127] rfl (SL_upR rfl (SL_upR rfl (SL_dz rfl SL_rf))) (by decide +kernel) h) ?_
  exact x_vretG C rfl hE eK.k eN.k had dX0_init_20
def cz_X130 : XT := (upR (upR (dz 126 (upR (upR (dz 124 (upR (upR (upI (dz 121 cz_X121) 121 2 (-1)) 121 3 (some 122)) 121 4 (some 123))) 121 5 (some 124)) 121 6 (some 125))) 121 7 (some 126)) 124 0 (some 127))
set_option maxHeartbeats 4000000 in
set_option maxRecDepth 100000 in
theorem ct_X130 {D : va_G} : MetG (bX D) yX0_init cX0_init 1 1 30 2 12 [.ref 130] 131 133 (dz 130 cz_X130) cz_X130 := by
  refine MetG.mk (own := RX0) (by decide +kernel) rfl rfl (nle rfl) (fun E ad cA C hG hI hE hk0 hn0 => ?_)
  refine Wx_lv (lv' := [(0, .ref 130)]) rfl ?_
  have had : ∀ k, k < 131 → wA (mkW (bX D) 131 ad cA) k = ad k := fun _ _ => rfl
  refine x_aload_n (i := 0) C dX0_init_0 rfl rfl ?_
  refine x_objInit C oiX0_3.1 oiX0_3.2.1 oiX0_3.2.2 (nle rfl) (nle rfl) dX0_init_1 ?_
  refine x_aload_n (i := 0) C dX0_init_4 rfl rfl ?_
  refine x_bipush C dX0_init_5 (by decide) ?_
  refine x_newarr (at0 := .int) (ty := .int) (q0 := 0) (nn := 6) (a0 := (6, .inl (fun _ => 0))) (kd := 1) (a := 1) (b := 6) C hG rfl acX_int (fun _ => rfl) (fun _ => rfl) rfl (by decide) rfl (nle rfl) (nle rfl) (rbX_S 131 shX rfl rfl (by decide +kernel)) rfl rfl (by rw [hk0]) (by rw [hn0]) (nle rfl) (nle rfl) dX0_init_7 (fun q c C => ?_)
  refine Wx_PH (fun H h => PX_num (k := 131) SB_dz (fun i => rfl) (fun i => rfl) (fun i => rfl) h) ?_
  show Wx _ _ _ (PX _ (dz 130 cz_X130)) _ _ [.ref 131, .ref 130]
  have hG := hG.k (a := 1) (b := 6)
  have hI := hI.k (a := 1) (b := 6)
  have hE := hE.k (a := 1) (b := 6)
  have had := had_up (q := q) (c := c) had (nle rfl)
  refine x_putF C hI (xkfX_X0_9 rfl rfl) (by first | exact Or.inl ⟨_, rfl⟩ | exact Or.inr ⟨_, rfl⟩) (nlt rfl) rfl dX0_init_9 ?_
  refine x_aload_n (i := 0) C dX0_init_12 rfl rfl ?_
  refine x_bipush C dX0_init_13 (by decide) ?_
  refine x_newarr (at0 := .int) (ty := .int) (q0 := 0) (nn := 6) (a0 := (6, .inl (fun _ => 0))) (kd := 1) (a := 2) (b := 12) C hG rfl acX_int (fun _ => rfl) (fun _ => rfl) rfl (by decide) rfl (nle rfl) (nle rfl) (rbX_S 132 shX rfl rfl (by decide +kernel)) rfl rfl (by rw [eK.k]) (by rw [eN.k]) (nle rfl) (nle rfl) dX0_init_15 (fun q c C => ?_)
  refine Wx_PH (fun H h => PX_num (k := 132) SB_dz (fun i => rfl) (fun i => rfl) (fun i => rfl) h) ?_
  show Wx _ _ _ (PX _ (upR (dz 130 cz_X130) 130 5 (some 131))) _ _ [.ref 132, .ref 130]
  have hG := hG.k (a := 2) (b := 12)
  have hI := hI.k (a := 2) (b := 12)
  have hE := hE.k (a := 2) (b := 12)
  have had := had_up (q := q) (c := c) had (nle rfl)
  refine x_putF C hI (xkfX_X0_15 rfl rfl) (by first | exact Or.inl ⟨_, rfl⟩ | exact Or.inr ⟨_, rfl⟩) (nlt rfl) rfl dX0_init_17 ?_
  refine Wx_PH (fun H h => PX_many (Y := cz_X130) (sh := shX) [130] rfl (SL_upR rfl (SL_upR rfl (SL_dz rfl SL_rf))) (by decide +kernel) h) ?_
  exact x_vretG C rfl hE eK.k eN.k had dX0_init_20
def cz_X133 : XT := (upR (upR (upR (dz 126 (upR (upR (dz 124 (upR (upR (upI (dz 121 cz_X121) 121 2 (-1)) 121 3 (some 122)) 121 4 (some 123))) 121 5 (some 124)) 121 6 (some 125))) 121 7 (some 126)) 124 0 (some 127)) 124 1 (some 130))
set_option maxHeartbeats 4000000 in
set_option maxRecDepth 100000 in
theorem ct_X133 {D : va_G} : MetG (bX D) yX2_init cX2_init 1 1 30 2 60 [.ref 133] 134 136 (dz 133 cz_X133) cz_X133 := by
  refine MetG.mk (own := RX2) (by decide +kernel) rfl rfl (nle rfl) (fun E ad cA C hG hI hE hk0 hn0 => ?_)
  refine Wx_lv (lv' := [(0, .ref 133)]) rfl ?_
  have had : ∀ k, k < 134 → wA (mkW (bX D) 134 ad cA) k = ad k := fun _ _ => rfl
  refine x_aload_n (i := 0) C dX2_init_0 rfl rfl ?_
  refine x_objInit C oiX2_3.1 oiX2_3.2.1 oiX2_3.2.2 (nle rfl) (nle rfl) dX2_init_1 ?_
  refine x_aload_n (i := 0) C dX2_init_4 rfl rfl ?_
  refine x_bipush C dX2_init_5 (by decide) ?_
  refine x_newarr (at0 := .long) (ty := .long) (q0 := 0) (nn := 30) (a0 := (30, .inr (.inl (fun _ => 0)))) (kd := 2) (a := 1) (b := 30) C hG rfl acX_long (fun _ => rfl) (fun _ => rfl) rfl (by decide) rfl (nle rfl) (nle rfl) (rbX_S 134 shX rfl rfl (by decide +kernel)) rfl rfl (by rw [hk0]) (by rw [hn0]) (nle rfl) (nle rfl) dX2_init_7 (fun q c C => ?_)
  refine Wx_PH (fun H h => PX_num (k := 134) SB_dz (fun i => rfl) (fun i => rfl) (fun i => rfl) h) ?_
  show Wx _ _ _ (PX _ (dz 133 cz_X133)) _ _ [.ref 134, .ref 133]
  have hG := hG.k (a := 1) (b := 30)
  have hI := hI.k (a := 1) (b := 30)
  have hE := hE.k (a := 1) (b := 30)
  have had := had_up (q := q) (c := c) had (nle rfl)
  refine x_putF C hI (xkfX_X2_9 rfl rfl) (by first | exact Or.inl ⟨_, rfl⟩ | exact Or.inr ⟨_, rfl⟩) (nlt rfl) rfl dX2_init_9 ?_
  refine x_aload_n (i := 0) C dX2_init_12 rfl rfl ?_
  refine x_bipush C dX2_init_13 (by decide) ?_
  refine x_newarr (at0 := .int) (ty := .int) (q0 := 0) (nn := 30) (a0 := (30, .inl (fun _ => 0))) (kd := 1) (a := 2) (b := 60) C hG rfl acX_int (fun _ => rfl) (fun _ => rfl) rfl (by decide) rfl (nle rfl) (nle rfl) (rbX_S 135 shX rfl rfl (by decide +kernel)) rfl rfl (by rw [eK.k]) (by rw [eN.k]) (nle rfl) (nle rfl) dX2_init_15 (fun q c C => ?_)
  refine Wx_PH (fun H h => PX_num (k := 135) SB_dz (fun i => rfl) (fun i => rfl) (fun i => rfl) h) ?_
  show Wx _ _ _ (PX _ (upR (dz 133 cz_X133) 133 1 (some 134))) _ _ [.ref 135, .ref 133]
  have hG := hG.k (a := 2) (b := 60)
  have hI := hI.k (a := 2) (b := 60)
  have hE := hE.k (a := 2) (b := 60)
  have had := had_up (q := q) (c := c) had (nle rfl)
  refine x_putF C hI (xkfX_X2_15 rfl rfl) (by first | exact Or.inl ⟨_, rfl⟩ | exact Or.inr ⟨_, rfl⟩) (nlt rfl) rfl dX2_init_17 ?_
  refine Wx_PH (fun H h => PX_many (Y := cz_X133) (sh := shX) [133] rfl (SL_upR rfl (SL_upR rfl (SL_dz rfl SL_rf))) (by decide +kernel) h) ?_
  exact x_vretG C rfl hE eK.k eN.k had dX2_init_20
def cz_X136 : XT := (upR (upR (upR (upR (dz 126 (upR (upR (dz 124 (upR (upR (upI (dz 121 cz_X121) 121 2 (-1)) 121 3 (some 122)) 121 4 (some 123))) 121 5 (some 124)) 121 6 (some 125))) 121 7 (some 126)) 124 0 (some 127)) 124 1 (some 130)) 126 0 (some 133))
set_option maxHeartbeats 4000000 in
set_option maxRecDepth 100000 in
theorem ct_X136 {D : va_G} : MetG (bX D) yX2_init cX2_init 1 1 30 2 60 [.ref 136] 137 139 (dz 136 cz_X136) cz_X136 := by
  refine MetG.mk (own := RX2) (by decide +kernel) rfl rfl (nle rfl) (fun E ad cA C hG hI hE hk0 hn0 => ?_)
  refine Wx_lv (lv' := [(0, .ref 136)]) rfl ?_
  have had : ∀ k, k < 137 → wA (mkW (bX D) 137 ad cA) k = ad k := fun _ _ => rfl
  refine x_aload_n (i := 0) C dX2_init_0 rfl rfl ?_
  refine x_objInit C oiX2_3.1 oiX2_3.2.1 oiX2_3.2.2 (nle rfl) (nle rfl) dX2_init_1 ?_
  refine x_aload_n (i := 0) C dX2_init_4 rfl rfl ?_
  refine x_bipush C dX2_init_5 (by decide) ?_
  refine x_newarr (at0 := .long) (ty := .long) (q0 := 0) (nn := 30) (a0 := (30, .inr (.inl (fun _ => 0)))) (kd := 2) (a := 1) (b := 30) C hG rfl acX_long (fun _ => rfl) (fun _ => rfl) rfl (by decide) rfl (nle rfl) (nle rfl) (rbX_S 137 shX rfl rfl (by decide +kernel)) rfl rfl (by rw [hk0]) (by rw [hn0]) (nle rfl) (nle rfl) dX2_init_7 (fun q c C => ?_)
  refine Wx_PH (fun H h => PX_num (k := 137) SB_dz (fun i => rfl) (fun i => rfl) (fun i => rfl) h) ?_
  show Wx _ _ _ (PX _ (dz 136 cz_X136)) _ _ [.ref 137, .ref 136]
  have hG := hG.k (a := 1) (b := 30)
  have hI := hI.k (a := 1) (b := 30)
  have hE := hE.k (a := 1) (b := 30)
  have had := had_up (q := q) (c := c) had (nle rfl)
  refine x_putF C hI (xkfX_X2_9 rfl rfl) (by first | exact Or.inl ⟨_, rfl⟩ | exact Or.inr ⟨_, rfl⟩) (nlt rfl) rfl dX2_init_9 ?_
  refine x_aload_n (i := 0) C dX2_init_12 rfl rfl ?_
  refine x_bipush C dX2_init_13 (by decide) ?_
  refine x_newarr (at0 := .int) (ty := .int) (q0 := 0) (nn := 30) (a0 := (30, .inl (fun _ => 0))) (kd := 1) (a := 2) (b := 60) C hG rfl acX_int (fun _ => rfl) (fun _ => rfl) rfl (by decide) rfl (nle rfl) (nle rfl) (rbX_S 138 shX rfl rfl (by decide +kernel)) rfl rfl (by rw [eK.k]) (by rw [eN.k]) (nle rfl) (nle rfl) dX2_init_15 (fun q c C => ?_)
  refine Wx_PH (fun H h => PX_num (k := 138) SB_dz (fun i => rfl) (fun i => rfl) (fun i => rfl) h) ?_
  show Wx _ _ _ (PX _ (upR (dz 136 cz_X136) 136 1 (some 137))) _ _ [.ref 138, .ref 136]
  have hG := hG.k (a := 2) (b := 60)
  have hI := hI.k (a := 2) (b := 60)
  have hE := hE.k (a := 2) (b := 60)
  have had := had_up (q := q) (c := c) had (nle rfl)
  refine x_putF C hI (xkfX_X2_15 rfl rfl) (by first | exact Or.inl ⟨_, rfl⟩ | exact Or.inr ⟨_, rfl⟩) (nlt rfl) rfl dX2_init_17 ?_
  refine Wx_PH (fun H h => PX_many (Y := cz_X136) (sh := shX) [136] rfl (SL_upR rfl (SL_upR rfl (SL_dz rfl SL_rf))) (by decide +kernel) h) ?_
  exact x_vretG C rfl hE eK.k eN.k had dX2_init_20
set_option maxHeartbeats 4000000 in
set_option maxRecDepth 100000 in
theorem ct_X121 {D : va_G} : MetG (bX D) yX8_init cX8_init 2 2 50 17 774 [.ref 121] 122 139 (dz 121 cz_X121) cz_X121 := by
  refine MetG.mk (own := RX8) (by decide +kernel) rfl rfl (nle rfl) (fun E ad cA C hG hI hE hk0 hn0 => ?_)
  refine Wx_lv (lv' := [(0, .ref 121)]) rfl ?_
  have had : ∀ k, k < 122 → wA (mkW (bX D) 122 ad cA) k = ad k := fun _ _ => rfl
  refine x_aload_n (i := 0) C dX8_init_0 rfl rfl ?_
  refine x_objInit C oiX8_3.1 oiX8_3.2.1 oiX8_3.2.2 (nle rfl) (nle rfl) dX8_init_1 ?_
  refine x_aload_n (i := 0) C dX8_init_4 rfl rfl ?_
  refine x_iconst C dX8_init_5 ?_
  refine x_putI C (xkpX_X8_9 rfl rfl) (nlt rfl) rfl dX8_init_6 ?_
  refine x_aload_n (i := 0) C dX8_init_9 rfl rfl ?_
  refine x_sipush C dX8_init_10 (by decide) ?_
  refine x_newarr (at0 := .int) (ty := .int) (q0 := 0) (nn := 600) (a0 := (600, .inl (fun _ => 0))) (kd := 1) (a := 1) (b := 600) C hG rfl acX_int (fun _ => rfl) (fun _ => rfl) rfl (by decide) rfl (nle rfl) (nle rfl) (rbX_S 122 shX rfl rfl (by decide +kernel)) rfl rfl (by rw [hk0]) (by rw [hn0]) (nle rfl) (nle rfl) dX8_init_13 (fun q c C => ?_)
  refine Wx_PH (fun H h => PX_num (k := 122) SB_dz (fun i => rfl) (fun i => rfl) (fun i => rfl) h) ?_
  show Wx _ _ _ (PX _ (upI (dz 121 cz_X121) 121 2 (-1))) _ _ [.ref 122, .ref 121]
  have hG := hG.k (a := 1) (b := 600)
  have hI := hI.k (a := 1) (b := 600)
  have hE := hE.k (a := 1) (b := 600)
  have had := had_up (q := q) (c := c) had (nle rfl)
  refine x_putF C hI (xkfX_X8_15 rfl rfl) (by first | exact Or.inl ⟨_, rfl⟩ | exact Or.inr ⟨_, rfl⟩) (nlt rfl) rfl dX8_init_15 ?_
  refine x_aload_n (i := 0) C dX8_init_18 rfl rfl ?_
  refine x_iconst C dX8_init_19 ?_
  refine x_newarr (at0 := .int) (ty := .int) (q0 := 0) (nn := 3) (a0 := (3, .inl (fun _ => 0))) (kd := 1) (a := 2) (b := 603) C hG rfl acX_int (fun _ => rfl) (fun _ => rfl) rfl (by decide) rfl (nle rfl) (nle rfl) (rbX_S 123 shX rfl rfl (by decide +kernel)) rfl rfl (by rw [eK.k]) (by rw [eN.k]) (nle rfl) (nle rfl) dX8_init_20 (fun q c C => ?_)
  refine Wx_PH (fun H h => PX_num (k := 123) SB_dz (fun i => rfl) (fun i => rfl) (fun i => rfl) h) ?_
  show Wx _ _ _ (PX _ (upR (upI (dz 121 cz_X121) 121 2 (-1)) 121 3 (some 122))) _ _ [.ref 123, .ref 121]
  have hG := hG.k (a := 2) (b := 603)
  have hI := hI.k (a := 2) (b := 603)
  have hE := hE.k (a := 2) (b := 603)
  have had := had_up (q := q) (c := c) had (nle rfl)
  refine x_putF C hI (xkfX_X8_19 rfl rfl) (by first | exact Or.inl ⟨_, rfl⟩ | exact Or.inr ⟨_, rfl⟩) (nlt rfl) rfl dX8_init_22 ?_
  refine x_aload_n (i := 0) C dX8_init_25 rfl rfl ?_
  refine x_iconst C dX8_init_26 ?_
  refine x_anew (nn := 2) (a := 3) (b := 605) C hG naX8_22.1 naX8_22.2 rfl rfl (nle rfl) (rbX_S 124 shX rfl rfl (by decide +kernel)) rfl rfl (by rw [eK.k]) (by rw [eN.k]) (nle rfl) (nle rfl) dX8_init_27 (fun q c C => ?_)
  show Wx _ _ _ (PX _ (dz 124 (upR (upR (upI (dz 121 cz_X121) 121 2 (-1)) 121 3 (some 122)) 121 4 (some 123)))) _ _ [.ref 124, .ref 121]
  have hG := hG.k (a := 3) (b := 605)
  have hI := hI.k (a := 3) (b := 605)
  have hE := hE.k (a := 3) (b := 605)
  have had := had_up (q := q) (c := c) had (nle rfl)
  refine x_putF C hI (xkfX_X8_24 rfl rfl) (by first | exact Or.inl ⟨_, rfl⟩ | exact Or.inr ⟨_, rfl⟩) (nlt rfl) rfl dX8_init_30 ?_
  refine x_aload_n (i := 0) C dX8_init_33 rfl rfl ?_
  refine x_iconst C dX8_init_34 ?_
  refine x_newarr (at0 := .long) (ty := .long) (q0 := 0) (nn := 3) (a0 := (3, .inr (.inl (fun _ => 0)))) (kd := 2) (a := 4) (b := 608) C hG rfl acX_long (fun _ => rfl) (fun _ => rfl) rfl (by decide) rfl (nle rfl) (nle rfl) (rbX_S 125 shX rfl rfl (by decide +kernel)) rfl rfl (by rw [eK.k]) (by rw [eN.k]) (nle rfl) (nle rfl) dX8_init_35 (fun q c C => ?_)
  refine Wx_PH (fun H h => PX_num (k := 125) SB_dz (fun i => rfl) (fun i => rfl) (fun i => rfl) h) ?_
  show Wx _ _ _ (PX _ (upR (dz 124 (upR (upR (upI (dz 121 cz_X121) 121 2 (-1)) 121 3 (some 122)) 121 4 (some 123))) 121 5 (some 124))) _ _ [.ref 125, .ref 121]
  have hG := hG.k (a := 4) (b := 608)
  have hI := hI.k (a := 4) (b := 608)
  have hE := hE.k (a := 4) (b := 608)
  have had := had_up (q := q) (c := c) had (nle rfl)
  refine x_putF C hI (xkfX_X8_28 rfl rfl) (by first | exact Or.inl ⟨_, rfl⟩ | exact Or.inr ⟨_, rfl⟩) (nlt rfl) rfl dX8_init_37 ?_
  refine x_aload_n (i := 0) C dX8_init_40 rfl rfl ?_
  refine x_iconst C dX8_init_41 ?_
  refine x_anew (nn := 2) (a := 5) (b := 610) C hG naX8_32.1 naX8_32.2 rfl rfl (nle rfl) (rbX_S 126 shX rfl rfl (by decide +kernel)) rfl rfl (by rw [eK.k]) (by rw [eN.k]) (nle rfl) (nle rfl) dX8_init_42 (fun q c C => ?_)
  show Wx _ _ _ (PX _ (dz 126 (upR (upR (dz 124 (upR (upR (upI (dz 121 cz_X121) 121 2 (-1)) 121 3 (some 122)) 121 4 (some 123))) 121 5 (some 124)) 121 6 (some 125)))) _ _ [.ref 126, .ref 121]
  have hG := hG.k (a := 5) (b := 610)
  have hI := hI.k (a := 5) (b := 610)
  have hE := hE.k (a := 5) (b := 610)
  have had := had_up (q := q) (c := c) had (nle rfl)
  refine x_putF C hI (xkfX_X8_34 rfl rfl) (by first | exact Or.inl ⟨_, rfl⟩ | exact Or.inr ⟨_, rfl⟩) (nlt rfl) rfl dX8_init_45 ?_
  refine x_iconst C dX8_init_48 ?_
  refine x_istore_n (i := 1) (lv' := [(1, .int (iI (0))), (0, .ref 121)]) C dX8_init_49 rfl (nlt rfl) rfl ?_
  refine x_iload_n (i := 1) C dX8_init_50 rfl rfl ?_
  refine x_iconst C dX8_init_51 ?_
  refine x_icmp_ge (tgt := 74) C dX8_init_52 (by decide) ⟨by omega, by omega⟩ ⟨by omega, by omega⟩ (fun h => by exfalso; omega) (fun h => ?_)
  clear h
  refine x_aload_n (i := 0) C dX8_init_55 rfl rfl ?_
  refine x_getRs (r := 124) C (xkgX_X8_24 rfl rfl) (nlt rfl) rfl rfl dX8_init_56 ?_
  refine x_iload_n (i := 1) C dX8_init_59 rfl rfl ?_
  refine x_new (a := 6) (b := 617) C hG inX0 tyX0_ok rfl rfl nwX_X8_22.1 nwX_X8_22.2.1 nwX_X8_22.2.2 (fun j hj => by rcases (show j = 0 ∨ j = 1 ∨ j = 2 ∨ j = 3 ∨ j = 4 ∨ j = 5 ∨ j = 6 by omega) with rfl | rfl | rfl | rfl | rfl | rfl | rfl <;> rfl) (rbX_S 127 shX rfl rfl (by decide +kernel)) rfl rfl (by rw [eK.k]) (by rw [eN.k]) (nle rfl) (nle rfl) dX8_init_60 (fun q c C => ?_)
  show Wx _ _ _ (PX _ (dz 127 (upR (dz 126 (upR (upR (dz 124 (upR (upR (upI (dz 121 cz_X121) 121 2 (-1)) 121 3 (some 122)) 121 4 (some 123))) 121 5 (some 124)) 121 6 (some 125))) 121 7 (some 126)))) _ _ [.ref 127, .int (iI (0)), .ref 124]
  have hG := hG.k (a := 6) (b := 617)
  have hI := hI.k (a := 6) (b := 617)
  have hE := hE.k (a := 6) (b := 617)
  have had := had_up (q := q) (c := c) had (nle rfl)
  refine x_dup C dX8_init_63 rfl ?_
  refine x_callG (k := 127) (As := []) (a := 8) (b' := 629) C hG rfl ct_X127 (Or.inr ciX8_38) im_X0_init rfl rfl rfl (nle rfl) ⟨nle rfl, nle rfl⟩ rfl rfl (by rw [eK.k]) (by rw [eN.k]) (nle rfl) (nle rfl) dX8_init_64 (fun ad34 cA34 C hadk => ?_)
  have had : ∀ k, k < 122 → wA (mkW (bX D) 130 ad34 cA34) k = ad k := fun k hk => (hadk k (Nat.lt_of_lt_of_le hk (nle rfl))).trans (had k hk)
  clear hadk
  have hG := hG.k (a := 8) (b := 629)
  have hI := hI.k (a := 8) (b := 629)
  have hE := hE.k (a := 8) (b := 629)
  refine x_aast C (nlt rfl) rfl rfl (nlt rfl) rfl rfl (nle rfl) (by omega) (by omega) dX8_init_67 ?_
  refine x_iinc (lv' := [(1, .int (iI (0 + 1))), (0, .ref 121)]) C dX8_init_68 rfl (nlt rfl) rfl ?_
  refine Wx_lv (lv' := [(1, .int (iI (1))), (0, .ref 121)]) rfl ?_
  refine x_goto (tgt := 50) C dX8_init_71 (by decide) ?_
  refine x_iload_n (i := 1) C dX8_init_50 rfl rfl ?_
  refine x_iconst C dX8_init_51 ?_
  refine x_icmp_ge (tgt := 74) C dX8_init_52 (by decide) ⟨by omega, by omega⟩ ⟨by omega, by omega⟩ (fun h => by exfalso; omega) (fun h => ?_)
  clear h
  refine x_aload_n (i := 0) C dX8_init_55 rfl rfl ?_
  refine x_getRs (r := 124) C (xkgX_X8_24 rfl rfl) (nlt rfl) rfl rfl dX8_init_56 ?_
  refine x_iload_n (i := 1) C dX8_init_59 rfl rfl ?_
  refine x_new (a := 9) (b := 636) C hG inX0 tyX0_ok rfl rfl nwX_X8_22.1 nwX_X8_22.2.1 nwX_X8_22.2.2 (fun j hj => by rcases (show j = 0 ∨ j = 1 ∨ j = 2 ∨ j = 3 ∨ j = 4 ∨ j = 5 ∨ j = 6 by omega) with rfl | rfl | rfl | rfl | rfl | rfl | rfl <;> rfl) (rbX_S 130 shX rfl rfl (by decide +kernel)) rfl rfl (by rw [eK.k]) (by rw [eN.k]) (nle rfl) (nle rfl) dX8_init_60 (fun q c C => ?_)
  show Wx _ _ _ (PX _ (dz 130 (upR (upR (dz 126 (upR (upR (dz 124 (upR (upR (upI (dz 121 cz_X121) 121 2 (-1)) 121 3 (some 122)) 121 4 (some 123))) 121 5 (some 124)) 121 6 (some 125))) 121 7 (some 126)) 124 0 (some 127)))) _ _ [.ref 130, .int (iI (1)), .ref 124]
  have hG := hG.k (a := 9) (b := 636)
  have hI := hI.k (a := 9) (b := 636)
  have hE := hE.k (a := 9) (b := 636)
  have had := had_up (q := q) (c := c) had (nle rfl)
  refine x_dup C dX8_init_63 rfl ?_
  refine x_callG (k := 130) (As := []) (a := 11) (b' := 648) C hG rfl ct_X130 (Or.inr ciX8_38) im_X0_init rfl rfl rfl (nle rfl) ⟨nle rfl, nle rfl⟩ rfl rfl (by rw [eK.k]) (by rw [eN.k]) (nle rfl) (nle rfl) dX8_init_64 (fun ad35 cA35 C hadk => ?_)
  have had : ∀ k, k < 122 → wA (mkW (bX D) 133 ad35 cA35) k = ad k := fun k hk => (hadk k (Nat.lt_of_lt_of_le hk (nle rfl))).trans (had k hk)
  clear hadk
  have hG := hG.k (a := 11) (b := 648)
  have hI := hI.k (a := 11) (b := 648)
  have hE := hE.k (a := 11) (b := 648)
  refine x_aast C (nlt rfl) rfl rfl (nlt rfl) rfl rfl (nle rfl) (by omega) (by omega) dX8_init_67 ?_
  refine x_iinc (lv' := [(1, .int (iI (1 + 1))), (0, .ref 121)]) C dX8_init_68 rfl (nlt rfl) rfl ?_
  refine Wx_lv (lv' := [(1, .int (iI (2))), (0, .ref 121)]) rfl ?_
  refine x_goto (tgt := 50) C dX8_init_71 (by decide) ?_
  refine x_iload_n (i := 1) C dX8_init_50 rfl rfl ?_
  refine x_iconst C dX8_init_51 ?_
  refine x_icmp_ge (tgt := 74) C dX8_init_52 (by decide) ⟨by omega, by omega⟩ ⟨by omega, by omega⟩ (fun h => ?_) (fun h => by exfalso; omega)
  clear h
  refine x_iconst C dX8_init_74 ?_
  refine x_istore_n (i := 1) (lv' := [(1, .int (iI (0))), (0, .ref 121)]) C dX8_init_75 rfl (nlt rfl) rfl ?_
  refine x_iload_n (i := 1) C dX8_init_76 rfl rfl ?_
  refine x_iconst C dX8_init_77 ?_
  refine x_icmp_ge (tgt := 100) C dX8_init_78 (by decide) ⟨by omega, by omega⟩ ⟨by omega, by omega⟩ (fun h => by exfalso; omega) (fun h => ?_)
  clear h
  refine x_aload_n (i := 0) C dX8_init_81 rfl rfl ?_
  refine x_getRs (r := 126) C (xkgX_X8_34 rfl rfl) (nlt rfl) rfl rfl dX8_init_82 ?_
  refine x_iload_n (i := 1) C dX8_init_85 rfl rfl ?_
  refine x_new (a := 12) (b := 651) C hG inX2 tyX2_ok rfl rfl nwX_X8_32.1 nwX_X8_32.2.1 nwX_X8_32.2.2 (fun j hj => by rcases (show j = 0 ∨ j = 1 ∨ j = 2 by omega) with rfl | rfl | rfl <;> rfl) (rbX_S 133 shX rfl rfl (by decide +kernel)) rfl rfl (by rw [eK.k]) (by rw [eN.k]) (nle rfl) (nle rfl) dX8_init_86 (fun q c C => ?_)
  show Wx _ _ _ (PX _ (dz 133 (upR (upR (upR (dz 126 (upR (upR (dz 124 (upR (upR (upI (dz 121 cz_X121) 121 2 (-1)) 121 3 (some 122)) 121 4 (some 123))) 121 5 (some 124)) 121 6 (some 125))) 121 7 (some 126)) 124 0 (some 127)) 124 1 (some 130)))) _ _ [.ref 133, .int (iI (0)), .ref 126]
  have hG := hG.k (a := 12) (b := 651)
  have hI := hI.k (a := 12) (b := 651)
  have hE := hE.k (a := 12) (b := 651)
  have had := had_up (q := q) (c := c) had (nle rfl)
  refine x_dup C dX8_init_89 rfl ?_
  refine x_callG (k := 133) (As := []) (a := 14) (b' := 711) C hG rfl ct_X133 (Or.inr ciX8_39) im_X2_init rfl rfl rfl (nle rfl) ⟨nle rfl, nle rfl⟩ rfl rfl (by rw [eK.k]) (by rw [eN.k]) (nle rfl) (nle rfl) dX8_init_90 (fun ad36 cA36 C hadk => ?_)
  have had : ∀ k, k < 122 → wA (mkW (bX D) 136 ad36 cA36) k = ad k := fun k hk => (hadk k (Nat.lt_of_lt_of_le hk (nle rfl))).trans (had k hk)
  clear hadk
  have hG := hG.k (a := 14) (b := 711)
  have hI := hI.k (a := 14) (b := 711)
  have hE := hE.k (a := 14) (b := 711)
  refine x_aast C (nlt rfl) rfl rfl (nlt rfl) rfl rfl (nle rfl) (by omega) (by omega) dX8_init_93 ?_
  refine x_iinc (lv' := [(1, .int (iI (0 + 1))), (0, .ref 121)]) C dX8_init_94 rfl (nlt rfl) rfl ?_
  refine Wx_lv (lv' := [(1, .int (iI (1))), (0, .ref 121)]) rfl ?_
  refine x_goto (tgt := 76) C dX8_init_97 (by decide) ?_
  refine x_iload_n (i := 1) C dX8_init_76 rfl rfl ?_
  refine x_iconst C dX8_init_77 ?_
  refine x_icmp_ge (tgt := 100) C dX8_init_78 (by decide) ⟨by omega, by omega⟩ ⟨by omega, by omega⟩ (fun h => by exfalso; omega) (fun h => ?_)
  clear h
  refine x_aload_n (i := 0) C dX8_init_81 rfl rfl ?_
  refine x_getRs (r := 126) C (xkgX_X8_34 rfl rfl) (nlt rfl) rfl rfl dX8_init_82 ?_
  refine x_iload_n (i := 1) C dX8_init_85 rfl rfl ?_
  refine x_new (a := 15) (b := 714) C hG inX2 tyX2_ok rfl rfl nwX_X8_32.1 nwX_X8_32.2.1 nwX_X8_32.2.2 (fun j hj => by rcases (show j = 0 ∨ j = 1 ∨ j = 2 by omega) with rfl | rfl | rfl <;> rfl) (rbX_S 136 shX rfl rfl (by decide +kernel)) rfl rfl (by rw [eK.k]) (by rw [eN.k]) (nle rfl) (nle rfl) dX8_init_86 (fun q c C => ?_)
  show Wx _ _ _ (PX _ (dz 136 (upR (upR (upR (upR (dz 126 (upR (upR (dz 124 (upR (upR (upI (dz 121 cz_X121) 121 2 (-1)) 121 3 (some 122)) 121 4 (some 123))) 121 5 (some 124)) 121 6 (some 125))) 121 7 (some 126)) 124 0 (some 127)) 124 1 (some 130)) 126 0 (some 133)))) _ _ [.ref 136, .int (iI (1)), .ref 126]
  have hG := hG.k (a := 15) (b := 714)
  have hI := hI.k (a := 15) (b := 714)
  have hE := hE.k (a := 15) (b := 714)
  have had := had_up (q := q) (c := c) had (nle rfl)
  refine x_dup C dX8_init_89 rfl ?_
  refine x_callG (k := 136) (As := []) (a := 17) (b' := 774) C hG rfl ct_X136 (Or.inr ciX8_39) im_X2_init rfl rfl rfl (nle rfl) ⟨nle rfl, nle rfl⟩ rfl rfl (by rw [eK.k]) (by rw [eN.k]) (nle rfl) (nle rfl) dX8_init_90 (fun ad37 cA37 C hadk => ?_)
  have had : ∀ k, k < 122 → wA (mkW (bX D) 139 ad37 cA37) k = ad k := fun k hk => (hadk k (Nat.lt_of_lt_of_le hk (nle rfl))).trans (had k hk)
  clear hadk
  have hG := hG.k (a := 17) (b := 774)
  have hI := hI.k (a := 17) (b := 774)
  have hE := hE.k (a := 17) (b := 774)
  refine x_aast C (nlt rfl) rfl rfl (nlt rfl) rfl rfl (nle rfl) (by omega) (by omega) dX8_init_93 ?_
  refine x_iinc (lv' := [(1, .int (iI (1 + 1))), (0, .ref 121)]) C dX8_init_94 rfl (nlt rfl) rfl ?_
  refine Wx_lv (lv' := [(1, .int (iI (2))), (0, .ref 121)]) rfl ?_
  refine x_goto (tgt := 76) C dX8_init_97 (by decide) ?_
  refine x_iload_n (i := 1) C dX8_init_76 rfl rfl ?_
  refine x_iconst C dX8_init_77 ?_
  refine x_icmp_ge (tgt := 100) C dX8_init_78 (by decide) ⟨by omega, by omega⟩ ⟨by omega, by omega⟩ (fun h => ?_) (fun h => by exfalso; omega)
  clear h
  refine Wx_PH (fun H h => PX_many (Y := cz_X121) (sh := shX) [121, 124, 126] rfl (SL_upR rfl (SL_upR rfl (SL_upR rfl (SL_upR rfl (SL_upR rfl (SL_dz rfl (SL_upR rfl (SL_upR rfl (SL_dz rfl (SL_upR rfl (SL_upR rfl (SL_upI rfl (SL_dz rfl SL_rf))))))))))))) (by decide +kernel) h) ?_
  exact x_vretG C rfl hE eK.k eN.k had dX8_init_100
def cz_X139 : XT := (upR (upR (upR (upR (upR (upR (upR (upR (upR (dz 19 (upR (dz 0 x0X) 0 0 (some 1))) 0 1 (some 19)) 0 2 (some 20)) 0 3 (some 21)) 0 4 (some 29)) 0 5 (some 38)) 0 6 (some 60)) 0 7 (some 76)) 19 0 (some 103)) 19 1 (some 121))
def cz_X145 : XT := (upR (dz 144 (upR (upR (dz 142 (upR (upR (upI (dz 139 cz_X139) 139 2 (-1)) 139 3 (some 140)) 139 4 (some 141))) 139 5 (some 142)) 139 6 (some 143))) 139 7 (some 144))
set_option maxHeartbeats 4000000 in
set_option maxRecDepth 100000 in
theorem ct_X145 {D : va_G} : MetG (bX D) yX0_init cX0_init 1 1 30 2 12 [.ref 145] 146 148 (dz 145 cz_X145) cz_X145 := by
  refine MetG.mk (own := RX0) (by decide +kernel) rfl rfl (nle rfl) (fun E ad cA C hG hI hE hk0 hn0 => ?_)
  refine Wx_lv (lv' := [(0, .ref 145)]) rfl ?_
  have had : ∀ k, k < 146 → wA (mkW (bX D) 146 ad cA) k = ad k := fun _ _ => rfl
  refine x_aload_n (i := 0) C dX0_init_0 rfl rfl ?_
  refine x_objInit C oiX0_3.1 oiX0_3.2.1 oiX0_3.2.2 (nle rfl) (nle rfl) dX0_init_1 ?_
  refine x_aload_n (i := 0) C dX0_init_4 rfl rfl ?_
  refine x_bipush C dX0_init_5 (by decide) ?_
  refine x_newarr (at0 := .int) (ty := .int) (q0 := 0) (nn := 6) (a0 := (6, .inl (fun _ => 0))) (kd := 1) (a := 1) (b := 6) C hG rfl acX_int (fun _ => rfl) (fun _ => rfl) rfl (by decide) rfl (nle rfl) (nle rfl) (rbX_S 146 shX rfl rfl (by decide +kernel)) rfl rfl (by rw [hk0]) (by rw [hn0]) (nle rfl) (nle rfl) dX0_init_7 (fun q c C => ?_)
  refine Wx_PH (fun H h => PX_num (k := 146) SB_dz (fun i => rfl) (fun i => rfl) (fun i => rfl) h) ?_
  show Wx _ _ _ (PX _ (dz 145 cz_X145)) _ _ [.ref 146, .ref 145]
  have hG := hG.k (a := 1) (b := 6)
  have hI := hI.k (a := 1) (b := 6)
  have hE := hE.k (a := 1) (b := 6)
  have had := had_up (q := q) (c := c) had (nle rfl)
  refine x_putF C hI (xkfX_X0_9 rfl rfl) (by first | exact Or.inl ⟨_, rfl⟩ | exact Or.inr ⟨_, rfl⟩) (nlt rfl) rfl dX0_init_9 ?_
  refine x_aload_n (i := 0) C dX0_init_12 rfl rfl ?_
  refine x_bipush C dX0_init_13 (by decide) ?_
  refine x_newarr (at0 := .int) (ty := .int) (q0 := 0) (nn := 6) (a0 := (6, .inl (fun _ => 0))) (kd := 1) (a := 2) (b := 12) C hG rfl acX_int (fun _ => rfl) (fun _ => rfl) rfl (by decide) rfl (nle rfl) (nle rfl) (rbX_S 147 shX rfl rfl (by decide +kernel)) rfl rfl (by rw [eK.k]) (by rw [eN.k]) (nle rfl) (nle rfl) dX0_init_15 (fun q c C => ?_)
  refine Wx_PH (fun H h => PX_num (k := 147) SB_dz (fun i => rfl) (fun i => rfl) (fun i => rfl) h) ?_
  show Wx _ _ _ (PX _ (upR (dz 145 cz_X145) 145 5 (some 146))) _ _ [.ref 147, .ref 145]
  have hG := hG.k (a := 2) (b := 12)
  have hI := hI.k (a := 2) (b := 12)
  have hE := hE.k (a := 2) (b := 12)
  have had := had_up (q := q) (c := c) had (nle rfl)
  refine x_putF C hI (xkfX_X0_15 rfl rfl) (by first | exact Or.inl ⟨_, rfl⟩ | exact Or.inr ⟨_, rfl⟩) (nlt rfl) rfl dX0_init_17 ?_
  refine Wx_PH (fun H h => PX_many (Y := cz_X145) (sh := shX) [145] rfl (SL_upR rfl (SL_upR rfl (SL_dz rfl SL_rf))) (by decide +kernel) h) ?_
  exact x_vretG C rfl hE eK.k eN.k had dX0_init_20
def cz_X148 : XT := (upR (upR (dz 144 (upR (upR (dz 142 (upR (upR (upI (dz 139 cz_X139) 139 2 (-1)) 139 3 (some 140)) 139 4 (some 141))) 139 5 (some 142)) 139 6 (some 143))) 139 7 (some 144)) 142 0 (some 145))
set_option maxHeartbeats 4000000 in
set_option maxRecDepth 100000 in
theorem ct_X148 {D : va_G} : MetG (bX D) yX0_init cX0_init 1 1 30 2 12 [.ref 148] 149 151 (dz 148 cz_X148) cz_X148 := by
  refine MetG.mk (own := RX0) (by decide +kernel) rfl rfl (nle rfl) (fun E ad cA C hG hI hE hk0 hn0 => ?_)
  refine Wx_lv (lv' := [(0, .ref 148)]) rfl ?_
  have had : ∀ k, k < 149 → wA (mkW (bX D) 149 ad cA) k = ad k := fun _ _ => rfl
  refine x_aload_n (i := 0) C dX0_init_0 rfl rfl ?_
  refine x_objInit C oiX0_3.1 oiX0_3.2.1 oiX0_3.2.2 (nle rfl) (nle rfl) dX0_init_1 ?_
  refine x_aload_n (i := 0) C dX0_init_4 rfl rfl ?_
  refine x_bipush C dX0_init_5 (by decide) ?_
  refine x_newarr (at0 := .int) (ty := .int) (q0 := 0) (nn := 6) (a0 := (6, .inl (fun _ => 0))) (kd := 1) (a := 1) (b := 6) C hG rfl acX_int (fun _ => rfl) (fun _ => rfl) rfl (by decide) rfl (nle rfl) (nle rfl) (rbX_S 149 shX rfl rfl (by decide +kernel)) rfl rfl (by rw [hk0]) (by rw [hn0]) (nle rfl) (nle rfl) dX0_init_7 (fun q c C => ?_)
  refine Wx_PH (fun H h => PX_num (k := 149) SB_dz (fun i => rfl) (fun i => rfl) (fun i => rfl) h) ?_
  show Wx _ _ _ (PX _ (dz 148 cz_X148)) _ _ [.ref 149, .ref 148]
  have hG := hG.k (a := 1) (b := 6)
  have hI := hI.k (a := 1) (b := 6)
  have hE := hE.k (a := 1) (b := 6)
  have had := had_up (q := q) (c := c) had (nle rfl)
  refine x_putF C hI (xkfX_X0_9 rfl rfl) (by first | exact Or.inl ⟨_, rfl⟩ | exact Or.inr ⟨_, rfl⟩) (nlt rfl) rfl dX0_init_9 ?_
  refine x_aload_n (i := 0) C dX0_init_12 rfl rfl ?_
  refine x_bipush C dX0_init_13 (by decide) ?_
  refine x_newarr (at0 := .int) (ty := .int) (q0 := 0) (nn := 6) (a0 := (6, .inl (fun _ => 0))) (kd := 1) (a := 2) (b := 12) C hG rfl acX_int (fun _ => rfl) (fun _ => rfl) rfl (by decide) rfl (nle rfl) (nle rfl) (rbX_S 150 shX rfl rfl (by decide +kernel)) rfl rfl (by rw [eK.k]) (by rw [eN.k]) (nle rfl) (nle rfl) dX0_init_15 (fun q c C => ?_)
  refine Wx_PH (fun H h => PX_num (k := 150) SB_dz (fun i => rfl) (fun i => rfl) (fun i => rfl) h) ?_
  show Wx _ _ _ (PX _ (upR (dz 148 cz_X148) 148 5 (some 149))) _ _ [.ref 150, .ref 148]
  have hG := hG.k (a := 2) (b := 12)
  have hI := hI.k (a := 2) (b := 12)
  have hE := hE.k (a := 2) (b := 12)
  have had := had_up (q := q) (c := c) had (nle rfl)
  refine x_putF C hI (xkfX_X0_15 rfl rfl) (by first | exact Or.inl ⟨_, rfl⟩ | exact Or.inr ⟨_, rfl⟩) (nlt rfl) rfl dX0_init_17 ?_
  refine Wx_PH (fun H h => PX_many (Y := cz_X148) (sh := shX) [148] rfl (SL_upR rfl (SL_upR rfl (SL_dz rfl SL_rf))) (by decide +kernel) h) ?_
  exact x_vretG C rfl hE eK.k eN.k had dX0_init_20
def cz_X151 : XT := (upR (upR (upR (dz 144 (upR (upR (dz 142 (upR (upR (upI (dz 139 cz_X139) 139 2 (-1)) 139 3 (some 140)) 139 4 (some 141))) 139 5 (some 142)) 139 6 (some 143))) 139 7 (some 144)) 142 0 (some 145)) 142 1 (some 148))
set_option maxHeartbeats 4000000 in
set_option maxRecDepth 100000 in
theorem ct_X151 {D : va_G} : MetG (bX D) yX2_init cX2_init 1 1 30 2 60 [.ref 151] 152 154 (dz 151 cz_X151) cz_X151 := by
  refine MetG.mk (own := RX2) (by decide +kernel) rfl rfl (nle rfl) (fun E ad cA C hG hI hE hk0 hn0 => ?_)
  refine Wx_lv (lv' := [(0, .ref 151)]) rfl ?_
  have had : ∀ k, k < 152 → wA (mkW (bX D) 152 ad cA) k = ad k := fun _ _ => rfl
  refine x_aload_n (i := 0) C dX2_init_0 rfl rfl ?_
  refine x_objInit C oiX2_3.1 oiX2_3.2.1 oiX2_3.2.2 (nle rfl) (nle rfl) dX2_init_1 ?_
  refine x_aload_n (i := 0) C dX2_init_4 rfl rfl ?_
  refine x_bipush C dX2_init_5 (by decide) ?_
  refine x_newarr (at0 := .long) (ty := .long) (q0 := 0) (nn := 30) (a0 := (30, .inr (.inl (fun _ => 0)))) (kd := 2) (a := 1) (b := 30) C hG rfl acX_long (fun _ => rfl) (fun _ => rfl) rfl (by decide) rfl (nle rfl) (nle rfl) (rbX_S 152 shX rfl rfl (by decide +kernel)) rfl rfl (by rw [hk0]) (by rw [hn0]) (nle rfl) (nle rfl) dX2_init_7 (fun q c C => ?_)
  refine Wx_PH (fun H h => PX_num (k := 152) SB_dz (fun i => rfl) (fun i => rfl) (fun i => rfl) h) ?_
  show Wx _ _ _ (PX _ (dz 151 cz_X151)) _ _ [.ref 152, .ref 151]
  have hG := hG.k (a := 1) (b := 30)
  have hI := hI.k (a := 1) (b := 30)
  have hE := hE.k (a := 1) (b := 30)
  have had := had_up (q := q) (c := c) had (nle rfl)
  refine x_putF C hI (xkfX_X2_9 rfl rfl) (by first | exact Or.inl ⟨_, rfl⟩ | exact Or.inr ⟨_, rfl⟩) (nlt rfl) rfl dX2_init_9 ?_
  refine x_aload_n (i := 0) C dX2_init_12 rfl rfl ?_
  refine x_bipush C dX2_init_13 (by decide) ?_
  refine x_newarr (at0 := .int) (ty := .int) (q0 := 0) (nn := 30) (a0 := (30, .inl (fun _ => 0))) (kd := 1) (a := 2) (b := 60) C hG rfl acX_int (fun _ => rfl) (fun _ => rfl) rfl (by decide) rfl (nle rfl) (nle rfl) (rbX_S 153 shX rfl rfl (by decide +kernel)) rfl rfl (by rw [eK.k]) (by rw [eN.k]) (nle rfl) (nle rfl) dX2_init_15 (fun q c C => ?_)
  refine Wx_PH (fun H h => PX_num (k := 153) SB_dz (fun i => rfl) (fun i => rfl) (fun i => rfl) h) ?_
  show Wx _ _ _ (PX _ (upR (dz 151 cz_X151) 151 1 (some 152))) _ _ [.ref 153, .ref 151]
  have hG := hG.k (a := 2) (b := 60)
  have hI := hI.k (a := 2) (b := 60)
  have hE := hE.k (a := 2) (b := 60)
  have had := had_up (q := q) (c := c) had (nle rfl)
  refine x_putF C hI (xkfX_X2_15 rfl rfl) (by first | exact Or.inl ⟨_, rfl⟩ | exact Or.inr ⟨_, rfl⟩) (nlt rfl) rfl dX2_init_17 ?_
  refine Wx_PH (fun H h => PX_many (Y := cz_X151) (sh := shX) [151] rfl (SL_upR rfl (SL_upR rfl (SL_dz rfl SL_rf))) (by decide +kernel) h) ?_
  exact x_vretG C rfl hE eK.k eN.k had dX2_init_20
def cz_X154 : XT := (upR (upR (upR (upR (dz 144 (upR (upR (dz 142 (upR (upR (upI (dz 139 cz_X139) 139 2 (-1)) 139 3 (some 140)) 139 4 (some 141))) 139 5 (some 142)) 139 6 (some 143))) 139 7 (some 144)) 142 0 (some 145)) 142 1 (some 148)) 144 0 (some 151))
set_option maxHeartbeats 4000000 in
set_option maxRecDepth 100000 in
theorem ct_X154 {D : va_G} : MetG (bX D) yX2_init cX2_init 1 1 30 2 60 [.ref 154] 155 157 (dz 154 cz_X154) cz_X154 := by
  refine MetG.mk (own := RX2) (by decide +kernel) rfl rfl (nle rfl) (fun E ad cA C hG hI hE hk0 hn0 => ?_)
  refine Wx_lv (lv' := [(0, .ref 154)]) rfl ?_
  have had : ∀ k, k < 155 → wA (mkW (bX D) 155 ad cA) k = ad k := fun _ _ => rfl
  refine x_aload_n (i := 0) C dX2_init_0 rfl rfl ?_
  refine x_objInit C oiX2_3.1 oiX2_3.2.1 oiX2_3.2.2 (nle rfl) (nle rfl) dX2_init_1 ?_
  refine x_aload_n (i := 0) C dX2_init_4 rfl rfl ?_
  refine x_bipush C dX2_init_5 (by decide) ?_
  refine x_newarr (at0 := .long) (ty := .long) (q0 := 0) (nn := 30) (a0 := (30, .inr (.inl (fun _ => 0)))) (kd := 2) (a := 1) (b := 30) C hG rfl acX_long (fun _ => rfl) (fun _ => rfl) rfl (by decide) rfl (nle rfl) (nle rfl) (rbX_S 155 shX rfl rfl (by decide +kernel)) rfl rfl (by rw [hk0]) (by rw [hn0]) (nle rfl) (nle rfl) dX2_init_7 (fun q c C => ?_)
  refine Wx_PH (fun H h => PX_num (k := 155) SB_dz (fun i => rfl) (fun i => rfl) (fun i => rfl) h) ?_
  show Wx _ _ _ (PX _ (dz 154 cz_X154)) _ _ [.ref 155, .ref 154]
  have hG := hG.k (a := 1) (b := 30)
  have hI := hI.k (a := 1) (b := 30)
  have hE := hE.k (a := 1) (b := 30)
  have had := had_up (q := q) (c := c) had (nle rfl)
  refine x_putF C hI (xkfX_X2_9 rfl rfl) (by first | exact Or.inl ⟨_, rfl⟩ | exact Or.inr ⟨_, rfl⟩) (nlt rfl) rfl dX2_init_9 ?_
  refine x_aload_n (i := 0) C dX2_init_12 rfl rfl ?_
  refine x_bipush C dX2_init_13 (by decide) ?_
  refine x_newarr (at0 := .int) (ty := .int) (q0 := 0) (nn := 30) (a0 := (30, .inl (fun _ => 0))) (kd := 1) (a := 2) (b := 60) C hG rfl acX_int (fun _ => rfl) (fun _ => rfl) rfl (by decide) rfl (nle rfl) (nle rfl) (rbX_S 156 shX rfl rfl (by decide +kernel)) rfl rfl (by rw [eK.k]) (by rw [eN.k]) (nle rfl) (nle rfl) dX2_init_15 (fun q c C => ?_)
  refine Wx_PH (fun H h => PX_num (k := 156) SB_dz (fun i => rfl) (fun i => rfl) (fun i => rfl) h) ?_
  show Wx _ _ _ (PX _ (upR (dz 154 cz_X154) 154 1 (some 155))) _ _ [.ref 156, .ref 154]
  have hG := hG.k (a := 2) (b := 60)
  have hI := hI.k (a := 2) (b := 60)
  have hE := hE.k (a := 2) (b := 60)
  have had := had_up (q := q) (c := c) had (nle rfl)
  refine x_putF C hI (xkfX_X2_15 rfl rfl) (by first | exact Or.inl ⟨_, rfl⟩ | exact Or.inr ⟨_, rfl⟩) (nlt rfl) rfl dX2_init_17 ?_
  refine Wx_PH (fun H h => PX_many (Y := cz_X154) (sh := shX) [154] rfl (SL_upR rfl (SL_upR rfl (SL_dz rfl SL_rf))) (by decide +kernel) h) ?_
  exact x_vretG C rfl hE eK.k eN.k had dX2_init_20
set_option maxHeartbeats 4000000 in
set_option maxRecDepth 100000 in
theorem ct_X139 {D : va_G} : MetG (bX D) yX8_init cX8_init 2 2 50 17 774 [.ref 139] 140 157 (dz 139 cz_X139) cz_X139 := by
  refine MetG.mk (own := RX8) (by decide +kernel) rfl rfl (nle rfl) (fun E ad cA C hG hI hE hk0 hn0 => ?_)
  refine Wx_lv (lv' := [(0, .ref 139)]) rfl ?_
  have had : ∀ k, k < 140 → wA (mkW (bX D) 140 ad cA) k = ad k := fun _ _ => rfl
  refine x_aload_n (i := 0) C dX8_init_0 rfl rfl ?_
  refine x_objInit C oiX8_3.1 oiX8_3.2.1 oiX8_3.2.2 (nle rfl) (nle rfl) dX8_init_1 ?_
  refine x_aload_n (i := 0) C dX8_init_4 rfl rfl ?_
  refine x_iconst C dX8_init_5 ?_
  refine x_putI C (xkpX_X8_9 rfl rfl) (nlt rfl) rfl dX8_init_6 ?_
  refine x_aload_n (i := 0) C dX8_init_9 rfl rfl ?_
  refine x_sipush C dX8_init_10 (by decide) ?_
  refine x_newarr (at0 := .int) (ty := .int) (q0 := 0) (nn := 600) (a0 := (600, .inl (fun _ => 0))) (kd := 1) (a := 1) (b := 600) C hG rfl acX_int (fun _ => rfl) (fun _ => rfl) rfl (by decide) rfl (nle rfl) (nle rfl) (rbX_S 140 shX rfl rfl (by decide +kernel)) rfl rfl (by rw [hk0]) (by rw [hn0]) (nle rfl) (nle rfl) dX8_init_13 (fun q c C => ?_)
  refine Wx_PH (fun H h => PX_num (k := 140) SB_dz (fun i => rfl) (fun i => rfl) (fun i => rfl) h) ?_
  show Wx _ _ _ (PX _ (upI (dz 139 cz_X139) 139 2 (-1))) _ _ [.ref 140, .ref 139]
  have hG := hG.k (a := 1) (b := 600)
  have hI := hI.k (a := 1) (b := 600)
  have hE := hE.k (a := 1) (b := 600)
  have had := had_up (q := q) (c := c) had (nle rfl)
  refine x_putF C hI (xkfX_X8_15 rfl rfl) (by first | exact Or.inl ⟨_, rfl⟩ | exact Or.inr ⟨_, rfl⟩) (nlt rfl) rfl dX8_init_15 ?_
  refine x_aload_n (i := 0) C dX8_init_18 rfl rfl ?_
  refine x_iconst C dX8_init_19 ?_
  refine x_newarr (at0 := .int) (ty := .int) (q0 := 0) (nn := 3) (a0 := (3, .inl (fun _ => 0))) (kd := 1) (a := 2) (b := 603) C hG rfl acX_int (fun _ => rfl) (fun _ => rfl) rfl (by decide) rfl (nle rfl) (nle rfl) (rbX_S 141 shX rfl rfl (by decide +kernel)) rfl rfl (by rw [eK.k]) (by rw [eN.k]) (nle rfl) (nle rfl) dX8_init_20 (fun q c C => ?_)
  refine Wx_PH (fun H h => PX_num (k := 141) SB_dz (fun i => rfl) (fun i => rfl) (fun i => rfl) h) ?_
  show Wx _ _ _ (PX _ (upR (upI (dz 139 cz_X139) 139 2 (-1)) 139 3 (some 140))) _ _ [.ref 141, .ref 139]
  have hG := hG.k (a := 2) (b := 603)
  have hI := hI.k (a := 2) (b := 603)
  have hE := hE.k (a := 2) (b := 603)
  have had := had_up (q := q) (c := c) had (nle rfl)
  refine x_putF C hI (xkfX_X8_19 rfl rfl) (by first | exact Or.inl ⟨_, rfl⟩ | exact Or.inr ⟨_, rfl⟩) (nlt rfl) rfl dX8_init_22 ?_
  refine x_aload_n (i := 0) C dX8_init_25 rfl rfl ?_
  refine x_iconst C dX8_init_26 ?_
  refine x_anew (nn := 2) (a := 3) (b := 605) C hG naX8_22.1 naX8_22.2 rfl rfl (nle rfl) (rbX_S 142 shX rfl rfl (by decide +kernel)) rfl rfl (by rw [eK.k]) (by rw [eN.k]) (nle rfl) (nle rfl) dX8_init_27 (fun q c C => ?_)
  show Wx _ _ _ (PX _ (dz 142 (upR (upR (upI (dz 139 cz_X139) 139 2 (-1)) 139 3 (some 140)) 139 4 (some 141)))) _ _ [.ref 142, .ref 139]
  have hG := hG.k (a := 3) (b := 605)
  have hI := hI.k (a := 3) (b := 605)
  have hE := hE.k (a := 3) (b := 605)
  have had := had_up (q := q) (c := c) had (nle rfl)
  refine x_putF C hI (xkfX_X8_24 rfl rfl) (by first | exact Or.inl ⟨_, rfl⟩ | exact Or.inr ⟨_, rfl⟩) (nlt rfl) rfl dX8_init_30 ?_
  refine x_aload_n (i := 0) C dX8_init_33 rfl rfl ?_
  refine x_iconst C dX8_init_34 ?_
  refine x_newarr (at0 := .long) (ty := .long) (q0 := 0) (nn := 3) (a0 := (3, .inr (.inl (fun _ => 0)))) (kd := 2) (a := 4) (b := 608) C hG rfl acX_long (fun _ => rfl) (fun _ => rfl) rfl (by decide) rfl (nle rfl) (nle rfl) (rbX_S 143 shX rfl rfl (by decide +kernel)) rfl rfl (by rw [eK.k]) (by rw [eN.k]) (nle rfl) (nle rfl) dX8_init_35 (fun q c C => ?_)
  refine Wx_PH (fun H h => PX_num (k := 143) SB_dz (fun i => rfl) (fun i => rfl) (fun i => rfl) h) ?_
  show Wx _ _ _ (PX _ (upR (dz 142 (upR (upR (upI (dz 139 cz_X139) 139 2 (-1)) 139 3 (some 140)) 139 4 (some 141))) 139 5 (some 142))) _ _ [.ref 143, .ref 139]
  have hG := hG.k (a := 4) (b := 608)
  have hI := hI.k (a := 4) (b := 608)
  have hE := hE.k (a := 4) (b := 608)
  have had := had_up (q := q) (c := c) had (nle rfl)
  refine x_putF C hI (xkfX_X8_28 rfl rfl) (by first | exact Or.inl ⟨_, rfl⟩ | exact Or.inr ⟨_, rfl⟩) (nlt rfl) rfl dX8_init_37 ?_
  refine x_aload_n (i := 0) C dX8_init_40 rfl rfl ?_
  refine x_iconst C dX8_init_41 ?_
  refine x_anew (nn := 2) (a := 5) (b := 610) C hG naX8_32.1 naX8_32.2 rfl rfl (nle rfl) (rbX_S 144 shX rfl rfl (by decide +kernel)) rfl rfl (by rw [eK.k]) (by rw [eN.k]) (nle rfl) (nle rfl) dX8_init_42 (fun q c C => ?_)
  show Wx _ _ _ (PX _ (dz 144 (upR (upR (dz 142 (upR (upR (upI (dz 139 cz_X139) 139 2 (-1)) 139 3 (some 140)) 139 4 (some 141))) 139 5 (some 142)) 139 6 (some 143)))) _ _ [.ref 144, .ref 139]
  have hG := hG.k (a := 5) (b := 610)
  have hI := hI.k (a := 5) (b := 610)
  have hE := hE.k (a := 5) (b := 610)
  have had := had_up (q := q) (c := c) had (nle rfl)
  refine x_putF C hI (xkfX_X8_34 rfl rfl) (by first | exact Or.inl ⟨_, rfl⟩ | exact Or.inr ⟨_, rfl⟩) (nlt rfl) rfl dX8_init_45 ?_
  refine x_iconst C dX8_init_48 ?_
  refine x_istore_n (i := 1) (lv' := [(1, .int (iI (0))), (0, .ref 139)]) C dX8_init_49 rfl (nlt rfl) rfl ?_
  refine x_iload_n (i := 1) C dX8_init_50 rfl rfl ?_
  refine x_iconst C dX8_init_51 ?_
  refine x_icmp_ge (tgt := 74) C dX8_init_52 (by decide) ⟨by omega, by omega⟩ ⟨by omega, by omega⟩ (fun h => by exfalso; omega) (fun h => ?_)
  clear h
  refine x_aload_n (i := 0) C dX8_init_55 rfl rfl ?_
  refine x_getRs (r := 142) C (xkgX_X8_24 rfl rfl) (nlt rfl) rfl rfl dX8_init_56 ?_
  refine x_iload_n (i := 1) C dX8_init_59 rfl rfl ?_
  refine x_new (a := 6) (b := 617) C hG inX0 tyX0_ok rfl rfl nwX_X8_22.1 nwX_X8_22.2.1 nwX_X8_22.2.2 (fun j hj => by rcases (show j = 0 ∨ j = 1 ∨ j = 2 ∨ j = 3 ∨ j = 4 ∨ j = 5 ∨ j = 6 by omega) with rfl | rfl | rfl | rfl | rfl | rfl | rfl <;> rfl) (rbX_S 145 shX rfl rfl (by decide +kernel)) rfl rfl (by rw [eK.k]) (by rw [eN.k]) (nle rfl) (nle rfl) dX8_init_60 (fun q c C => ?_)
  show Wx _ _ _ (PX _ (dz 145 (upR (dz 144 (upR (upR (dz 142 (upR (upR (upI (dz 139 cz_X139) 139 2 (-1)) 139 3 (some 140)) 139 4 (some 141))) 139 5 (some 142)) 139 6 (some 143))) 139 7 (some 144)))) _ _ [.ref 145, .int (iI (0)), .ref 142]
  have hG := hG.k (a := 6) (b := 617)
  have hI := hI.k (a := 6) (b := 617)
  have hE := hE.k (a := 6) (b := 617)
  have had := had_up (q := q) (c := c) had (nle rfl)
  refine x_dup C dX8_init_63 rfl ?_
  refine x_callG (k := 145) (As := []) (a := 8) (b' := 629) C hG rfl ct_X145 (Or.inr ciX8_38) im_X0_init rfl rfl rfl (nle rfl) ⟨nle rfl, nle rfl⟩ rfl rfl (by rw [eK.k]) (by rw [eN.k]) (nle rfl) (nle rfl) dX8_init_64 (fun ad39 cA39 C hadk => ?_)
  have had : ∀ k, k < 140 → wA (mkW (bX D) 148 ad39 cA39) k = ad k := fun k hk => (hadk k (Nat.lt_of_lt_of_le hk (nle rfl))).trans (had k hk)
  clear hadk
  have hG := hG.k (a := 8) (b := 629)
  have hI := hI.k (a := 8) (b := 629)
  have hE := hE.k (a := 8) (b := 629)
  refine x_aast C (nlt rfl) rfl rfl (nlt rfl) rfl rfl (nle rfl) (by omega) (by omega) dX8_init_67 ?_
  refine x_iinc (lv' := [(1, .int (iI (0 + 1))), (0, .ref 139)]) C dX8_init_68 rfl (nlt rfl) rfl ?_
  refine Wx_lv (lv' := [(1, .int (iI (1))), (0, .ref 139)]) rfl ?_
  refine x_goto (tgt := 50) C dX8_init_71 (by decide) ?_
  refine x_iload_n (i := 1) C dX8_init_50 rfl rfl ?_
  refine x_iconst C dX8_init_51 ?_
  refine x_icmp_ge (tgt := 74) C dX8_init_52 (by decide) ⟨by omega, by omega⟩ ⟨by omega, by omega⟩ (fun h => by exfalso; omega) (fun h => ?_)
  clear h
  refine x_aload_n (i := 0) C dX8_init_55 rfl rfl ?_
  refine x_getRs (r := 142) C (xkgX_X8_24 rfl rfl) (nlt rfl) rfl rfl dX8_init_56 ?_
  refine x_iload_n (i := 1) C dX8_init_59 rfl rfl ?_
  refine x_new (a := 9) (b := 636) C hG inX0 tyX0_ok rfl rfl nwX_X8_22.1 nwX_X8_22.2.1 nwX_X8_22.2.2 (fun j hj => by rcases (show j = 0 ∨ j = 1 ∨ j = 2 ∨ j = 3 ∨ j = 4 ∨ j = 5 ∨ j = 6 by omega) with rfl | rfl | rfl | rfl | rfl | rfl | rfl <;> rfl) (rbX_S 148 shX rfl rfl (by decide +kernel)) rfl rfl (by rw [eK.k]) (by rw [eN.k]) (nle rfl) (nle rfl) dX8_init_60 (fun q c C => ?_)
  show Wx _ _ _ (PX _ (dz 148 (upR (upR (dz 144 (upR (upR (dz 142 (upR (upR (upI (dz 139 cz_X139) 139 2 (-1)) 139 3 (some 140)) 139 4 (some 141))) 139 5 (some 142)) 139 6 (some 143))) 139 7 (some 144)) 142 0 (some 145)))) _ _ [.ref 148, .int (iI (1)), .ref 142]
  have hG := hG.k (a := 9) (b := 636)
  have hI := hI.k (a := 9) (b := 636)
  have hE := hE.k (a := 9) (b := 636)
  have had := had_up (q := q) (c := c) had (nle rfl)
  refine x_dup C dX8_init_63 rfl ?_
  refine x_callG (k := 148) (As := []) (a := 11) (b' := 648) C hG rfl ct_X148 (Or.inr ciX8_38) im_X0_init rfl rfl rfl (nle rfl) ⟨nle rfl, nle rfl⟩ rfl rfl (by rw [eK.k]) (by rw [eN.k]) (nle rfl) (nle rfl) dX8_init_64 (fun ad40 cA40 C hadk => ?_)
  have had : ∀ k, k < 140 → wA (mkW (bX D) 151 ad40 cA40) k = ad k := fun k hk => (hadk k (Nat.lt_of_lt_of_le hk (nle rfl))).trans (had k hk)
  clear hadk
  have hG := hG.k (a := 11) (b := 648)
  have hI := hI.k (a := 11) (b := 648)
  have hE := hE.k (a := 11) (b := 648)
  refine x_aast C (nlt rfl) rfl rfl (nlt rfl) rfl rfl (nle rfl) (by omega) (by omega) dX8_init_67 ?_
  refine x_iinc (lv' := [(1, .int (iI (1 + 1))), (0, .ref 139)]) C dX8_init_68 rfl (nlt rfl) rfl ?_
  refine Wx_lv (lv' := [(1, .int (iI (2))), (0, .ref 139)]) rfl ?_
  refine x_goto (tgt := 50) C dX8_init_71 (by decide) ?_
  refine x_iload_n (i := 1) C dX8_init_50 rfl rfl ?_
  refine x_iconst C dX8_init_51 ?_
  refine x_icmp_ge (tgt := 74) C dX8_init_52 (by decide) ⟨by omega, by omega⟩ ⟨by omega, by omega⟩ (fun h => ?_) (fun h => by exfalso; omega)
  clear h
  refine x_iconst C dX8_init_74 ?_
  refine x_istore_n (i := 1) (lv' := [(1, .int (iI (0))), (0, .ref 139)]) C dX8_init_75 rfl (nlt rfl) rfl ?_
  refine x_iload_n (i := 1) C dX8_init_76 rfl rfl ?_
  refine x_iconst C dX8_init_77 ?_
  refine x_icmp_ge (tgt := 100) C dX8_init_78 (by decide) ⟨by omega, by omega⟩ ⟨by omega, by omega⟩ (fun h => by exfalso; omega) (fun h => ?_)
  clear h
  refine x_aload_n (i := 0) C dX8_init_81 rfl rfl ?_
  refine x_getRs (r := 144) C (xkgX_X8_34 rfl rfl) (nlt rfl) rfl rfl dX8_init_82 ?_
  refine x_iload_n (i := 1) C dX8_init_85 rfl rfl ?_
  refine x_new (a := 12) (b := 651) C hG inX2 tyX2_ok rfl rfl nwX_X8_32.1 nwX_X8_32.2.1 nwX_X8_32.2.2 (fun j hj => by rcases (show j = 0 ∨ j = 1 ∨ j = 2 by omega) with rfl | rfl | rfl <;> rfl) (rbX_S 151 shX rfl rfl (by decide +kernel)) rfl rfl (by rw [eK.k]) (by rw [eN.k]) (nle rfl) (nle rfl) dX8_init_86 (fun q c C => ?_)
  show Wx _ _ _ (PX _ (dz 151 (upR (upR (upR (dz 144 (upR (upR (dz 142 (upR (upR (upI (dz 139 cz_X139) 139 2 (-1)) 139 3 (some 140)) 139 4 (some 141))) 139 5 (some 142)) 139 6 (some 143))) 139 7 (some 144)) 142 0 (some 145)) 142 1 (some 148)))) _ _ [.ref 151, .int (iI (0)), .ref 144]
  have hG := hG.k (a := 12) (b := 651)
  have hI := hI.k (a := 12) (b := 651)
  have hE := hE.k (a := 12) (b := 651)
  have had := had_up (q := q) (c := c) had (nle rfl)
  refine x_dup C dX8_init_89 rfl ?_
  refine x_callG (k := 151) (As := []) (a := 14) (b' := 711) C hG rfl ct_X151 (Or.inr ciX8_39) im_X2_init rfl rfl rfl (nle rfl) ⟨nle rfl, nle rfl⟩ rfl rfl (by rw [eK.k]) (by rw [eN.k]) (nle rfl) (nle rfl) dX8_init_90 (fun ad41 cA41 C hadk => ?_)
  have had : ∀ k, k < 140 → wA (mkW (bX D) 154 ad41 cA41) k = ad k := fun k hk => (hadk k (Nat.lt_of_lt_of_le hk (nle rfl))).trans (had k hk)
  clear hadk
  have hG := hG.k (a := 14) (b := 711)
  have hI := hI.k (a := 14) (b := 711)
  have hE := hE.k (a := 14) (b := 711)
  refine x_aast C (nlt rfl) rfl rfl (nlt rfl) rfl rfl (nle rfl) (by omega) (by omega) dX8_init_93 ?_
  refine x_iinc (lv' := [(1, .int (iI (0 + 1))), (0, .ref 139)]) C dX8_init_94 rfl (nlt rfl) rfl ?_
  refine Wx_lv (lv' := [(1, .int (iI (1))), (0, .ref 139)]) rfl ?_
  refine x_goto (tgt := 76) C dX8_init_97 (by decide) ?_
  refine x_iload_n (i := 1) C dX8_init_76 rfl rfl ?_
  refine x_iconst C dX8_init_77 ?_
  refine x_icmp_ge (tgt := 100) C dX8_init_78 (by decide) ⟨by omega, by omega⟩ ⟨by omega, by omega⟩ (fun h => by exfalso; omega) (fun h => ?_)
  clear h
  refine x_aload_n (i := 0) C dX8_init_81 rfl rfl ?_
  refine x_getRs (r := 144) C (xkgX_X8_34 rfl rfl) (nlt rfl) rfl rfl dX8_init_82 ?_
  refine x_iload_n (i := 1) C dX8_init_85 rfl rfl ?_
  refine x_new (a := 15) (b := 714) C hG inX2 tyX2_ok rfl rfl nwX_X8_32.1 nwX_X8_32.2.1 nwX_X8_32.2.2 (fun j hj => by rcases (show j = 0 ∨ j = 1 ∨ j = 2 by omega) with rfl | rfl | rfl <;> rfl) (rbX_S 154 shX rfl rfl (by decide +kernel)) rfl rfl (by rw [eK.k]) (by rw [eN.k]) (nle rfl) (nle rfl) dX8_init_86 (fun q c C => ?_)
  show Wx _ _ _ (PX _ (dz 154 (upR (upR (upR (upR (dz 144 (upR (upR (dz 142 (upR (upR (upI (dz 139 cz_X139) 139 2 (-1)) 139 3 (some 140)) 139 4 (some 141))) 139 5 (some 142)) 139 6 (some 143))) 139 7 (some 144)) 142 0 (some 145)) 142 1 (some 148)) 144 0 (some 151)))) _ _ [.ref 154, .int (iI (1)), .ref 144]
  have hG := hG.k (a := 15) (b := 714)
  have hI := hI.k (a := 15) (b := 714)
  have hE := hE.k (a := 15) (b := 714)
  have had := had_up (q := q) (c := c) had (nle rfl)
  refine x_dup C dX8_init_89 rfl ?_
  refine x_callG (k := 154) (As := []) (a := 17) (b' := 774) C hG rfl ct_X154 (Or.inr ciX8_39) im_X2_init rfl rfl rfl (nle rfl) ⟨nle rfl, nle rfl⟩ rfl rfl (by rw [eK.k]) (by rw [eN.k]) (nle rfl) (nle rfl) dX8_init_90 (fun ad42 cA42 C hadk => ?_)
  have had : ∀ k, k < 140 → wA (mkW (bX D) 157 ad42 cA42) k = ad k := fun k hk => (hadk k (Nat.lt_of_lt_of_le hk (nle rfl))).trans (had k hk)
  clear hadk
  have hG := hG.k (a := 17) (b := 774)
  have hI := hI.k (a := 17) (b := 774)
  have hE := hE.k (a := 17) (b := 774)
  refine x_aast C (nlt rfl) rfl rfl (nlt rfl) rfl rfl (nle rfl) (by omega) (by omega) dX8_init_93 ?_
  refine x_iinc (lv' := [(1, .int (iI (1 + 1))), (0, .ref 139)]) C dX8_init_94 rfl (nlt rfl) rfl ?_
  refine Wx_lv (lv' := [(1, .int (iI (2))), (0, .ref 139)]) rfl ?_
  refine x_goto (tgt := 76) C dX8_init_97 (by decide) ?_
  refine x_iload_n (i := 1) C dX8_init_76 rfl rfl ?_
  refine x_iconst C dX8_init_77 ?_
  refine x_icmp_ge (tgt := 100) C dX8_init_78 (by decide) ⟨by omega, by omega⟩ ⟨by omega, by omega⟩ (fun h => ?_) (fun h => by exfalso; omega)
  clear h
  refine Wx_PH (fun H h => PX_many (Y := cz_X139) (sh := shX) [139, 142, 144] rfl (SL_upR rfl (SL_upR rfl (SL_upR rfl (SL_upR rfl (SL_upR rfl (SL_dz rfl (SL_upR rfl (SL_upR rfl (SL_dz rfl (SL_upR rfl (SL_upR rfl (SL_upI rfl (SL_dz rfl SL_rf))))))))))))) (by decide +kernel) h) ?_
  exact x_vretG C rfl hE eK.k eN.k had dX8_init_100
set_option maxHeartbeats 4000000 in
set_option maxRecDepth 100000 in
theorem ct_X0 {D : va_G} : MetG (bX D) yX11_init cX11_init 2 3 74 156 24165 [.ref 0] 1 157 (dz 0 x0X) x0X := by
  refine MetG.mk (own := RX11) (by decide +kernel) rfl rfl (nle rfl) (fun E ad cA C hG hI hE hk0 hn0 => ?_)
  refine Wx_lv (lv' := [(0, .ref 0)]) rfl ?_
  have had : ∀ k, k < 1 → wA (mkW (bX D) 1 ad cA) k = ad k := fun _ _ => rfl
  refine x_aload_n (i := 0) C dX11_init_0 rfl rfl ?_
  refine x_objInit C oiX11_1.1 oiX11_1.2.1 oiX11_1.2.2 (nle rfl) (nle rfl) dX11_init_1 ?_
  refine x_aload_n (i := 0) C dX11_init_4 rfl rfl ?_
  refine x_new (a := 1) (b := 8) C hG inX8 tyX8_ok rfl rfl nwX_X11_7.1 nwX_X11_7.2.1 nwX_X11_7.2.2 (fun j hj => by rcases (show j = 0 ∨ j = 1 ∨ j = 2 ∨ j = 3 ∨ j = 4 ∨ j = 5 ∨ j = 6 ∨ j = 7 by omega) with rfl | rfl | rfl | rfl | rfl | rfl | rfl | rfl <;> rfl) (rbX_S 1 shX rfl rfl (by decide +kernel)) rfl rfl (by rw [hk0]) (by rw [hn0]) (nle rfl) (nle rfl) dX11_init_5 (fun q c C => ?_)
  show Wx _ _ _ (PX _ (dz 1 (dz 0 x0X))) _ _ [.ref 1, .ref 0]
  have hG := hG.k (a := 1) (b := 8)
  have hI := hI.k (a := 1) (b := 8)
  have hE := hE.k (a := 1) (b := 8)
  have had := had_up (q := q) (c := c) had (nle rfl)
  refine x_dup C dX11_init_8 rfl ?_
  refine x_callG (host := "") (k := 1) (As := []) (a := 18) (b' := 782) C hG rfl ct_X1 (Or.inl (show CKB RX11 9 yX8_init cX8_init 2 none 0 from ckX11_9)) im_X8_init rfl rfl rfl (nle rfl) ⟨nle rfl, nle rfl⟩ rfl rfl (by rw [eK.k]) (by rw [eN.k]) (nle rfl) (nle rfl) dX11_init_9 (fun ad4 cA4 C hadk => ?_)
  have had : ∀ k, k < 1 → wA (mkW (bX D) 19 ad4 cA4) k = ad k := fun k hk => (hadk k (Nat.lt_of_lt_of_le hk (nle rfl))).trans (had k hk)
  clear hadk
  have hG := hG.k (a := 18) (b := 782)
  have hI := hI.k (a := 18) (b := 782)
  have hE := hE.k (a := 18) (b := 782)
  refine x_putF C hI (xkfX_X11_10 rfl rfl) (by first | exact Or.inl ⟨_, rfl⟩ | exact Or.inr ⟨_, rfl⟩) (nlt rfl) rfl dX11_init_12 ?_
  refine x_aload_n (i := 0) C dX11_init_15 rfl rfl ?_
  refine x_iconst C dX11_init_16 ?_
  refine x_anew (nn := 3) (a := 19) (b := 785) C hG naX11_7.1 naX11_7.2 rfl rfl (nle rfl) (rbX_S 19 shX rfl rfl (by decide +kernel)) rfl rfl (by rw [eK.k]) (by rw [eN.k]) (nle rfl) (nle rfl) dX11_init_17 (fun q c C => ?_)
  show Wx _ _ _ (PX _ (dz 19 (upR (dz 0 x0X) 0 0 (some 1)))) _ _ [.ref 19, .ref 0]
  have hG := hG.k (a := 19) (b := 785)
  have hI := hI.k (a := 19) (b := 785)
  have hE := hE.k (a := 19) (b := 785)
  have had := had_up (q := q) (c := c) had (nle rfl)
  refine x_putF C hI (xkfX_X11_16 rfl rfl) (by first | exact Or.inl ⟨_, rfl⟩ | exact Or.inr ⟨_, rfl⟩) (nlt rfl) rfl dX11_init_20 ?_
  refine x_aload_n (i := 0) C dX11_init_23 rfl rfl ?_
  refine x_iconst C dX11_init_24 ?_
  refine x_newarr (at0 := .boolean) (ty := .boolean) (q0 := 0) (nn := 3) (a0 := (3, .inl (fun _ => 0))) (kd := 1) (a := 20) (b := 788) C hG rfl acX_boolean (fun _ => rfl) (fun _ => rfl) rfl (by decide) rfl (nle rfl) (nle rfl) (rbX_S 20 shX rfl rfl (by decide +kernel)) rfl rfl (by rw [eK.k]) (by rw [eN.k]) (nle rfl) (nle rfl) dX11_init_25 (fun q c C => ?_)
  refine Wx_PH (fun H h => PX_num (k := 20) SB_dz (fun i => rfl) (fun i => rfl) (fun i => rfl) h) ?_
  show Wx _ _ _ (PX _ (upR (dz 19 (upR (dz 0 x0X) 0 0 (some 1))) 0 1 (some 19))) _ _ [.ref 20, .ref 0]
  have hG := hG.k (a := 20) (b := 788)
  have hI := hI.k (a := 20) (b := 788)
  have hE := hE.k (a := 20) (b := 788)
  have had := had_up (q := q) (c := c) had (nle rfl)
  refine x_putF C hI (xkfX_X11_20 rfl rfl) (by first | exact Or.inl ⟨_, rfl⟩ | exact Or.inr ⟨_, rfl⟩) (nlt rfl) rfl dX11_init_27 ?_
  refine x_aload_n (i := 0) C dX11_init_30 rfl rfl ?_
  refine x_new (a := 21) (b := 799) C hG inX6 tyX6_ok rfl rfl nwX_X11_24.1 nwX_X11_24.2.1 nwX_X11_24.2.2 (fun j hj => by rcases (show j = 0 ∨ j = 1 ∨ j = 2 ∨ j = 3 ∨ j = 4 ∨ j = 5 ∨ j = 6 ∨ j = 7 ∨ j = 8 ∨ j = 9 ∨ j = 10 by omega) with rfl | rfl | rfl | rfl | rfl | rfl | rfl | rfl | rfl | rfl | rfl <;> rfl) (rbX_S 21 shX rfl rfl (by decide +kernel)) rfl rfl (by rw [eK.k]) (by rw [eN.k]) (nle rfl) (nle rfl) dX11_init_31 (fun q c C => ?_)
  show Wx _ _ _ (PX _ (dz 21 (upR (upR (dz 19 (upR (dz 0 x0X) 0 0 (some 1))) 0 1 (some 19)) 0 2 (some 20)))) _ _ [.ref 21, .ref 0]
  have hG := hG.k (a := 21) (b := 799)
  have hI := hI.k (a := 21) (b := 799)
  have hE := hE.k (a := 21) (b := 799)
  have had := had_up (q := q) (c := c) had (nle rfl)
  refine x_dup C dX11_init_34 rfl ?_
  refine x_callG (k := 21) (As := []) (a := 28) (b' := 881) C hG rfl ct_X21 (Or.inr ciX11_26) im_X6_init rfl rfl rfl (nle rfl) ⟨nle rfl, nle rfl⟩ rfl rfl (by rw [eK.k]) (by rw [eN.k]) (nle rfl) (nle rfl) dX11_init_35 (fun ad7 cA7 C hadk => ?_)
  have had : ∀ k, k < 1 → wA (mkW (bX D) 29 ad7 cA7) k = ad k := fun k hk => (hadk k (Nat.lt_of_lt_of_le hk (nle rfl))).trans (had k hk)
  clear hadk
  have hG := hG.k (a := 28) (b := 881)
  have hI := hI.k (a := 28) (b := 881)
  have hE := hE.k (a := 28) (b := 881)
  refine x_putF C hI (xkfX_X11_27 rfl rfl) (by first | exact Or.inl ⟨_, rfl⟩ | exact Or.inr ⟨_, rfl⟩) (nlt rfl) rfl dX11_init_38 ?_
  refine x_aload_n (i := 0) C dX11_init_41 rfl rfl ?_
  refine x_new (a := 29) (b := 889) C hG inX9 tyX9_ok rfl rfl nwX_X11_31.1 nwX_X11_31.2.1 nwX_X11_31.2.2 (fun j hj => by rcases (show j = 0 ∨ j = 1 ∨ j = 2 ∨ j = 3 ∨ j = 4 ∨ j = 5 ∨ j = 6 ∨ j = 7 by omega) with rfl | rfl | rfl | rfl | rfl | rfl | rfl | rfl <;> rfl) (rbX_S 29 shX rfl rfl (by decide +kernel)) rfl rfl (by rw [eK.k]) (by rw [eN.k]) (nle rfl) (nle rfl) dX11_init_42 (fun q c C => ?_)
  show Wx _ _ _ (PX _ (dz 29 (upR (upR (upR (dz 19 (upR (dz 0 x0X) 0 0 (some 1))) 0 1 (some 19)) 0 2 (some 20)) 0 3 (some 21)))) _ _ [.ref 29, .ref 0]
  have hG := hG.k (a := 29) (b := 889)
  have hI := hI.k (a := 29) (b := 889)
  have hE := hE.k (a := 29) (b := 889)
  have had := had_up (q := q) (c := c) had (nle rfl)
  refine x_dup C dX11_init_45 rfl ?_
  refine x_callG (k := 29) (As := []) (a := 37) (b' := 4575) C hG rfl ct_X29 (Or.inr ciX11_33) im_X9_init rfl rfl rfl (nle rfl) ⟨nle rfl, nle rfl⟩ rfl rfl (by rw [eK.k]) (by rw [eN.k]) (nle rfl) (nle rfl) dX11_init_46 (fun ad9 cA9 C hadk => ?_)
  have had : ∀ k, k < 1 → wA (mkW (bX D) 38 ad9 cA9) k = ad k := fun k hk => (hadk k (Nat.lt_of_lt_of_le hk (nle rfl))).trans (had k hk)
  clear hadk
  have hG := hG.k (a := 37) (b := 4575)
  have hI := hI.k (a := 37) (b := 4575)
  have hE := hE.k (a := 37) (b := 4575)
  refine x_putF C hI (xkfX_X11_34 rfl rfl) (by first | exact Or.inl ⟨_, rfl⟩ | exact Or.inr ⟨_, rfl⟩) (nlt rfl) rfl dX11_init_49 ?_
  refine x_aload_n (i := 0) C dX11_init_52 rfl rfl ?_
  refine x_new (a := 38) (b := 4581) C hG inX4 tyX4_ok rfl rfl nwX_X11_38.1 nwX_X11_38.2.1 nwX_X11_38.2.2 (fun j hj => by rcases (show j = 0 ∨ j = 1 ∨ j = 2 ∨ j = 3 ∨ j = 4 ∨ j = 5 by omega) with rfl | rfl | rfl | rfl | rfl | rfl <;> rfl) (rbX_S 38 shX rfl rfl (by decide +kernel)) rfl rfl (by rw [eK.k]) (by rw [eN.k]) (nle rfl) (nle rfl) dX11_init_53 (fun q c C => ?_)
  show Wx _ _ _ (PX _ (dz 38 (upR (upR (upR (upR (dz 19 (upR (dz 0 x0X) 0 0 (some 1))) 0 1 (some 19)) 0 2 (some 20)) 0 3 (some 21)) 0 4 (some 29)))) _ _ [.ref 38, .ref 0]
  have hG := hG.k (a := 38) (b := 4581)
  have hI := hI.k (a := 38) (b := 4581)
  have hE := hE.k (a := 38) (b := 4581)
  have had := had_up (q := q) (c := c) had (nle rfl)
  refine x_dup C dX11_init_56 rfl ?_
  refine x_callG (host := "") (k := 38) (As := []) (a := 59) (b' := 21062) C hG rfl ct_X38 (Or.inl (show CKB RX11 40 yX4_init cX4_init 2 none 0 from ckX11_40)) im_X4_init rfl rfl rfl (nle rfl) ⟨nle rfl, nle rfl⟩ rfl rfl (by rw [eK.k]) (by rw [eN.k]) (nle rfl) (nle rfl) dX11_init_57 (fun ad16 cA16 C hadk => ?_)
  have had : ∀ k, k < 1 → wA (mkW (bX D) 60 ad16 cA16) k = ad k := fun k hk => (hadk k (Nat.lt_of_lt_of_le hk (nle rfl))).trans (had k hk)
  clear hadk
  have hG := hG.k (a := 59) (b := 21062)
  have hI := hI.k (a := 59) (b := 21062)
  have hE := hE.k (a := 59) (b := 21062)
  refine x_putF C hI (xkfX_X11_41 rfl rfl) (by first | exact Or.inl ⟨_, rfl⟩ | exact Or.inr ⟨_, rfl⟩) (nlt rfl) rfl dX11_init_60 ?_
  refine x_aload_n (i := 0) C dX11_init_63 rfl rfl ?_
  refine x_new (a := 60) (b := 21066) C hG inX5 tyX5_ok rfl rfl nwX_X11_45.1 nwX_X11_45.2.1 nwX_X11_45.2.2 (fun j hj => by rcases (show j = 0 ∨ j = 1 ∨ j = 2 ∨ j = 3 by omega) with rfl | rfl | rfl | rfl <;> rfl) (rbX_S 60 shX rfl rfl (by decide +kernel)) rfl rfl (by rw [eK.k]) (by rw [eN.k]) (nle rfl) (nle rfl) dX11_init_64 (fun q c C => ?_)
  show Wx _ _ _ (PX _ (dz 60 (upR (upR (upR (upR (upR (dz 19 (upR (dz 0 x0X) 0 0 (some 1))) 0 1 (some 19)) 0 2 (some 20)) 0 3 (some 21)) 0 4 (some 29)) 0 5 (some 38)))) _ _ [.ref 60, .ref 0]
  have hG := hG.k (a := 60) (b := 21066)
  have hI := hI.k (a := 60) (b := 21066)
  have hE := hE.k (a := 60) (b := 21066)
  have had := had_up (q := q) (c := c) had (nle rfl)
  refine x_dup C dX11_init_67 rfl ?_
  refine x_callG (k := 60) (As := []) (a := 75) (b' := 21141) C hG rfl ct_X60 (Or.inr ciX11_47) im_X5_init rfl rfl rfl (nle rfl) ⟨nle rfl, nle rfl⟩ rfl rfl (by rw [eK.k]) (by rw [eN.k]) (nle rfl) (nle rfl) dX11_init_68 (fun ad22 cA22 C hadk => ?_)
  have had : ∀ k, k < 1 → wA (mkW (bX D) 76 ad22 cA22) k = ad k := fun k hk => (hadk k (Nat.lt_of_lt_of_le hk (nle rfl))).trans (had k hk)
  clear hadk
  have hG := hG.k (a := 75) (b := 21141)
  have hI := hI.k (a := 75) (b := 21141)
  have hE := hE.k (a := 75) (b := 21141)
  refine x_putF C hI (xkfX_X11_48 rfl rfl) (by first | exact Or.inl ⟨_, rfl⟩ | exact Or.inr ⟨_, rfl⟩) (nlt rfl) rfl dX11_init_71 ?_
  refine x_aload_n (i := 0) C dX11_init_74 rfl rfl ?_
  refine x_new (a := 76) (b := 21148) C hG inX1 tyX1_ok rfl rfl nwX_X11_52.1 nwX_X11_52.2.1 nwX_X11_52.2.2 (fun j hj => by rcases (show j = 0 ∨ j = 1 ∨ j = 2 ∨ j = 3 ∨ j = 4 ∨ j = 5 ∨ j = 6 by omega) with rfl | rfl | rfl | rfl | rfl | rfl | rfl <;> rfl) (rbX_S 76 shX rfl rfl (by decide +kernel)) rfl rfl (by rw [eK.k]) (by rw [eN.k]) (nle rfl) (nle rfl) dX11_init_75 (fun q c C => ?_)
  show Wx _ _ _ (PX _ (dz 76 (upR (upR (upR (upR (upR (upR (dz 19 (upR (dz 0 x0X) 0 0 (some 1))) 0 1 (some 19)) 0 2 (some 20)) 0 3 (some 21)) 0 4 (some 29)) 0 5 (some 38)) 0 6 (some 60)))) _ _ [.ref 76, .ref 0]
  have hG := hG.k (a := 76) (b := 21148)
  have hI := hI.k (a := 76) (b := 21148)
  have hE := hE.k (a := 76) (b := 21148)
  have had := had_up (q := q) (c := c) had (nle rfl)
  refine x_dup C dX11_init_78 rfl ?_
  refine x_aload_n (i := 0) C dX11_init_79 rfl rfl ?_
  refine x_getRs (r := 38) C (xkgX_X11_41 rfl rfl) (nlt rfl) rfl rfl dX11_init_80 ?_
  refine x_callG (host := "") (k := 76) (As := [.ref 38]) (a := 102) (b' := 21819) C hG rfl ct_X76 (Or.inl (show CKB RX11 54 yX1_init cX1_init 4 none 1 from ckX11_54)) im_X1_init rfl rfl rfl (nle rfl) ⟨nle rfl, nle rfl⟩ rfl rfl (by rw [eK.k]) (by rw [eN.k]) (nle rfl) (nle rfl) dX11_init_83 (fun ad28 cA28 C hadk => ?_)
  have had : ∀ k, k < 1 → wA (mkW (bX D) 103 ad28 cA28) k = ad k := fun k hk => (hadk k (Nat.lt_of_lt_of_le hk (nle rfl))).trans (had k hk)
  clear hadk
  have hG := hG.k (a := 102) (b := 21819)
  have hI := hI.k (a := 102) (b := 21819)
  have hE := hE.k (a := 102) (b := 21819)
  refine x_putF C hI (xkfX_X11_57 rfl rfl) (by first | exact Or.inl ⟨_, rfl⟩ | exact Or.inr ⟨_, rfl⟩) (nlt rfl) rfl dX11_init_86 ?_
  refine x_iconst C dX11_init_89 ?_
  refine x_istore_n (i := 1) (lv' := [(1, .int (iI (0))), (0, .ref 0)]) C dX11_init_90 rfl (nlt rfl) rfl ?_
  refine x_iload_n (i := 1) C dX11_init_91 rfl rfl ?_
  refine x_iconst C dX11_init_92 ?_
  refine x_icmp_ge (tgt := 115) C dX11_init_93 (by decide) ⟨by omega, by omega⟩ ⟨by omega, by omega⟩ (fun h => by exfalso; omega) (fun h => ?_)
  clear h
  refine x_aload_n (i := 0) C dX11_init_96 rfl rfl ?_
  refine x_getRs (r := 19) C (xkgX_X11_16 rfl rfl) (nlt rfl) rfl rfl dX11_init_97 ?_
  refine x_iload_n (i := 1) C dX11_init_100 rfl rfl ?_
  refine x_new (a := 103) (b := 21827) C hG inX8 tyX8_ok rfl rfl nwX_X11_7.1 nwX_X11_7.2.1 nwX_X11_7.2.2 (fun j hj => by rcases (show j = 0 ∨ j = 1 ∨ j = 2 ∨ j = 3 ∨ j = 4 ∨ j = 5 ∨ j = 6 ∨ j = 7 by omega) with rfl | rfl | rfl | rfl | rfl | rfl | rfl | rfl <;> rfl) (rbX_S 103 shX rfl rfl (by decide +kernel)) rfl rfl (by rw [eK.k]) (by rw [eN.k]) (nle rfl) (nle rfl) dX11_init_101 (fun q c C => ?_)
  show Wx _ _ _ (PX _ (dz 103 (upR (upR (upR (upR (upR (upR (upR (dz 19 (upR (dz 0 x0X) 0 0 (some 1))) 0 1 (some 19)) 0 2 (some 20)) 0 3 (some 21)) 0 4 (some 29)) 0 5 (some 38)) 0 6 (some 60)) 0 7 (some 76)))) _ _ [.ref 103, .int (iI (0)), .ref 19]
  have hG := hG.k (a := 103) (b := 21827)
  have hI := hI.k (a := 103) (b := 21827)
  have hE := hE.k (a := 103) (b := 21827)
  have had := had_up (q := q) (c := c) had (nle rfl)
  refine x_dup C dX11_init_104 rfl ?_
  refine x_callG (host := "") (k := 103) (As := []) (a := 120) (b' := 22601) C hG rfl ct_X103 (Or.inl (show CKB RX11 9 yX8_init cX8_init 2 none 0 from ckX11_9)) im_X8_init rfl rfl rfl (nle rfl) ⟨nle rfl, nle rfl⟩ rfl rfl (by rw [eK.k]) (by rw [eN.k]) (nle rfl) (nle rfl) dX11_init_105 (fun ad33 cA33 C hadk => ?_)
  have had : ∀ k, k < 1 → wA (mkW (bX D) 121 ad33 cA33) k = ad k := fun k hk => (hadk k (Nat.lt_of_lt_of_le hk (nle rfl))).trans (had k hk)
  clear hadk
  have hG := hG.k (a := 120) (b := 22601)
  have hI := hI.k (a := 120) (b := 22601)
  have hE := hE.k (a := 120) (b := 22601)
  refine x_aast C (nlt rfl) rfl rfl (nlt rfl) rfl rfl (nle rfl) (by omega) (by omega) dX11_init_108 ?_
  refine x_iinc (lv' := [(1, .int (iI (0 + 1))), (0, .ref 0)]) C dX11_init_109 rfl (nlt rfl) rfl ?_
  refine Wx_lv (lv' := [(1, .int (iI (1))), (0, .ref 0)]) rfl ?_
  refine x_goto (tgt := 91) C dX11_init_112 (by decide) ?_
  refine x_iload_n (i := 1) C dX11_init_91 rfl rfl ?_
  refine x_iconst C dX11_init_92 ?_
  refine x_icmp_ge (tgt := 115) C dX11_init_93 (by decide) ⟨by omega, by omega⟩ ⟨by omega, by omega⟩ (fun h => by exfalso; omega) (fun h => ?_)
  clear h
  refine x_aload_n (i := 0) C dX11_init_96 rfl rfl ?_
  refine x_getRs (r := 19) C (xkgX_X11_16 rfl rfl) (nlt rfl) rfl rfl dX11_init_97 ?_
  refine x_iload_n (i := 1) C dX11_init_100 rfl rfl ?_
  refine x_new (a := 121) (b := 22609) C hG inX8 tyX8_ok rfl rfl nwX_X11_7.1 nwX_X11_7.2.1 nwX_X11_7.2.2 (fun j hj => by rcases (show j = 0 ∨ j = 1 ∨ j = 2 ∨ j = 3 ∨ j = 4 ∨ j = 5 ∨ j = 6 ∨ j = 7 by omega) with rfl | rfl | rfl | rfl | rfl | rfl | rfl | rfl <;> rfl) (rbX_S 121 shX rfl rfl (by decide +kernel)) rfl rfl (by rw [eK.k]) (by rw [eN.k]) (nle rfl) (nle rfl) dX11_init_101 (fun q c C => ?_)
  show Wx _ _ _ (PX _ (dz 121 (upR (upR (upR (upR (upR (upR (upR (upR (dz 19 (upR (dz 0 x0X) 0 0 (some 1))) 0 1 (some 19)) 0 2 (some 20)) 0 3 (some 21)) 0 4 (some 29)) 0 5 (some 38)) 0 6 (some 60)) 0 7 (some 76)) 19 0 (some 103)))) _ _ [.ref 121, .int (iI (1)), .ref 19]
  have hG := hG.k (a := 121) (b := 22609)
  have hI := hI.k (a := 121) (b := 22609)
  have hE := hE.k (a := 121) (b := 22609)
  have had := had_up (q := q) (c := c) had (nle rfl)
  refine x_dup C dX11_init_104 rfl ?_
  refine x_callG (host := "") (k := 121) (As := []) (a := 138) (b' := 23383) C hG rfl ct_X121 (Or.inl (show CKB RX11 9 yX8_init cX8_init 2 none 0 from ckX11_9)) im_X8_init rfl rfl rfl (nle rfl) ⟨nle rfl, nle rfl⟩ rfl rfl (by rw [eK.k]) (by rw [eN.k]) (nle rfl) (nle rfl) dX11_init_105 (fun ad38 cA38 C hadk => ?_)
  have had : ∀ k, k < 1 → wA (mkW (bX D) 139 ad38 cA38) k = ad k := fun k hk => (hadk k (Nat.lt_of_lt_of_le hk (nle rfl))).trans (had k hk)
  clear hadk
  have hG := hG.k (a := 138) (b := 23383)
  have hI := hI.k (a := 138) (b := 23383)
  have hE := hE.k (a := 138) (b := 23383)
  refine x_aast C (nlt rfl) rfl rfl (nlt rfl) rfl rfl (nle rfl) (by omega) (by omega) dX11_init_108 ?_
  refine x_iinc (lv' := [(1, .int (iI (1 + 1))), (0, .ref 0)]) C dX11_init_109 rfl (nlt rfl) rfl ?_
  refine Wx_lv (lv' := [(1, .int (iI (2))), (0, .ref 0)]) rfl ?_
  refine x_goto (tgt := 91) C dX11_init_112 (by decide) ?_
  refine x_iload_n (i := 1) C dX11_init_91 rfl rfl ?_
  refine x_iconst C dX11_init_92 ?_
  refine x_icmp_ge (tgt := 115) C dX11_init_93 (by decide) ⟨by omega, by omega⟩ ⟨by omega, by omega⟩ (fun h => by exfalso; omega) (fun h => ?_)
  clear h
  refine x_aload_n (i := 0) C dX11_init_96 rfl rfl ?_
  refine x_getRs (r := 19) C (xkgX_X11_16 rfl rfl) (nlt rfl) rfl rfl dX11_init_97 ?_
  refine x_iload_n (i := 1) C dX11_init_100 rfl rfl ?_
  refine x_new (a := 139) (b := 23391) C hG inX8 tyX8_ok rfl rfl nwX_X11_7.1 nwX_X11_7.2.1 nwX_X11_7.2.2 (fun j hj => by rcases (show j = 0 ∨ j = 1 ∨ j = 2 ∨ j = 3 ∨ j = 4 ∨ j = 5 ∨ j = 6 ∨ j = 7 by omega) with rfl | rfl | rfl | rfl | rfl | rfl | rfl | rfl <;> rfl) (rbX_S 139 shX rfl rfl (by decide +kernel)) rfl rfl (by rw [eK.k]) (by rw [eN.k]) (nle rfl) (nle rfl) dX11_init_101 (fun q c C => ?_)
  show Wx _ _ _ (PX _ (dz 139 (upR (upR (upR (upR (upR (upR (upR (upR (upR (dz 19 (upR (dz 0 x0X) 0 0 (some 1))) 0 1 (some 19)) 0 2 (some 20)) 0 3 (some 21)) 0 4 (some 29)) 0 5 (some 38)) 0 6 (some 60)) 0 7 (some 76)) 19 0 (some 103)) 19 1 (some 121)))) _ _ [.ref 139, .int (iI (2)), .ref 19]
  have hG := hG.k (a := 139) (b := 23391)
  have hI := hI.k (a := 139) (b := 23391)
  have hE := hE.k (a := 139) (b := 23391)
  have had := had_up (q := q) (c := c) had (nle rfl)
  refine x_dup C dX11_init_104 rfl ?_
  refine x_callG (host := "") (k := 139) (As := []) (a := 156) (b' := 24165) C hG rfl ct_X139 (Or.inl (show CKB RX11 9 yX8_init cX8_init 2 none 0 from ckX11_9)) im_X8_init rfl rfl rfl (nle rfl) ⟨nle rfl, nle rfl⟩ rfl rfl (by rw [eK.k]) (by rw [eN.k]) (nle rfl) (nle rfl) dX11_init_105 (fun ad43 cA43 C hadk => ?_)
  have had : ∀ k, k < 1 → wA (mkW (bX D) 157 ad43 cA43) k = ad k := fun k hk => (hadk k (Nat.lt_of_lt_of_le hk (nle rfl))).trans (had k hk)
  clear hadk
  have hG := hG.k (a := 156) (b := 24165)
  have hI := hI.k (a := 156) (b := 24165)
  have hE := hE.k (a := 156) (b := 24165)
  refine x_aast C (nlt rfl) rfl rfl (nlt rfl) rfl rfl (nle rfl) (by omega) (by omega) dX11_init_108 ?_
  refine x_iinc (lv' := [(1, .int (iI (2 + 1))), (0, .ref 0)]) C dX11_init_109 rfl (nlt rfl) rfl ?_
  refine Wx_lv (lv' := [(1, .int (iI (3))), (0, .ref 0)]) rfl ?_
  refine x_goto (tgt := 91) C dX11_init_112 (by decide) ?_
  refine x_iload_n (i := 1) C dX11_init_91 rfl rfl ?_
  refine x_iconst C dX11_init_92 ?_
  refine x_icmp_ge (tgt := 115) C dX11_init_93 (by decide) ⟨by omega, by omega⟩ ⟨by omega, by omega⟩ (fun h => ?_) (fun h => by exfalso; omega)
  clear h
  refine Wx_PH (fun H h => PX_many (Y := x0X) (sh := shX) [0, 19] rfl (SL_upR rfl (SL_upR rfl (SL_upR rfl (SL_upR rfl (SL_upR rfl (SL_upR rfl (SL_upR rfl (SL_upR rfl (SL_upR rfl (SL_upR rfl (SL_dz rfl (SL_upR rfl (SL_dz rfl SL_rf))))))))))))) (by decide +kernel) h) ?_
  exact x_vretG C rfl hE eK.k eN.k had dX11_init_115
