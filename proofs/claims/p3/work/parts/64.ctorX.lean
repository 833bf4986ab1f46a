/-! ===== the class is made ===== -/
def cz_X1 : XT := (dz 0 x0X)
def cz_X7 : XT := (upR (dz 6 (upR (upR (dz 4 (upR (upR (upI (dz 1 cz_X1) 1 2 (-1)) 1 3 (some 2)) 1 4 (some 3))) 1 5 (some 4)) 1 6 (some 5))) 1 7 (some 6))
set_option maxHeartbeats 4000000 in
set_option maxRecDepth 100000 in
theorem ct_X7 {D : va_G} : MetG (bX D) yX0_init cX0_init 1 1 30 2 12 [.ref 7] 8 10 (dz 7 cz_X7) cz_X7 := by
  refine MetG.mk (own := RX0) (by decide +kernel) rfl rfl (nle rfl) (fun E ad cA C hG hI hE hk0 hn0 => ?_)
  refine Wx_lv (lv' := [(0, .ref 7)]) rfl ?_
  have had : ∀ k, k < 8 → wA (mkW (bX D) 8 ad cA) k = ad k := fun _ _ => rfl
  refine x_aload_n (i := 0) C dX0_init_0 rfl rfl ?_
  refine x_objInit C oiX0_3.1 oiX0_3.2.1 oiX0_3.2.2 (nle rfl) (nle rfl) dX0_init_1 ?_
  refine x_aload_n (i := 0) C dX0_init_4 rfl rfl ?_
  refine x_bipush C dX0_init_5 (by decide) ?_
  refine x_newarr (at0 := .int) (ty := .int) (q0 := 0) (nn := 6) (a0 := (6, .inl (fun _ => 0))) (kd := 1) (a := 1) (b := 6) C hG rfl acX_int (fun _ => rfl) (fun _ => rfl) rfl (by decide) rfl (nle rfl) (nle rfl) (rbX_S 8 shX rfl rfl (by decide +kernel)) rfl rfl (by rw [hk0]) (by rw [hn0]) (nle rfl) (nle rfl) dX0_init_7 (fun q c C => ?_)
  refine Wx_PH (fun H h => PX_num (k := 8) SB_dz (fun i => rfl) (fun i => rfl) (fun i => rfl) h) ?_
  show Wx _ _ _ (PX _ (dz 7 cz_X7)) _ _ [.ref 8, .ref 7]
  have hG := hG.k (a := 1) (b := 6)
  have hI := hI.k (a := 1) (b := 6)
  have hE := hE.k (a := 1) (b := 6)
  have had := had_up (q := q) (c := c) had (nle rfl)
  refine x_putF C hI (xkfX_X0_9 rfl rfl) (by first | exact Or.inl ⟨_, rfl⟩ | exact Or.inr ⟨_, rfl⟩) (nlt rfl) rfl dX0_init_9 ?_
  refine x_aload_n (i := 0) C dX0_init_12 rfl rfl ?_
  refine x_bipush C dX0_init_13 (by decide) ?_
  refine x_newarr (at0 := .int) (ty := .int) (q0 := 0) (nn := 6) (a0 := (6, .inl (fun _ => 0))) (kd := 1) (a := 2) (b := 12) C hG rfl acX_int (fun _ => rfl) (fun _ => rfl) rfl (by decide) rfl (nle rfl) (nle rfl) (rbX_S 9 shX rfl rfl (by decide +kernel)) rfl rfl (by rw [eK.k]) (by rw [eN.k]) (nle rfl) (nle rfl) dX0_init_15 (fun q c C => ?_)
  refine Wx_PH (fun H h => PX_num (k := 9) SB_dz (fun i => rfl) (fun i => rfl) (fun i => rfl) h) ?_
  show Wx _ _ _ (PX _ (upR (dz 7 cz_X7) 7 5 (some 8))) _ _ [.ref 9, .ref 7]
  have hG := hG.k (a := 2) (b := 12)
  have hI := hI.k (a := 2) (b := 12)
  have hE := hE.k (a := 2) (b := 12)
  have had := had_up (q := q) (c := c) had (nle rfl)
  refine x_putF C hI (xkfX_X0_15 rfl rfl) (by first | exact Or.inl ⟨_, rfl⟩ | exact Or.inr ⟨_, rfl⟩) (nlt rfl) rfl dX0_init_17 ?_
  refine Wx_PH (fun H h => PX_many (Y := cz_X7) (sh := shX) [7] rfl (SL_upR rfl (SL_upR rfl (SL_dz rfl SL_rf))) (by decide +kernel) h) ?_
  exact x_vretG C rfl hE eK.k eN.k had dX0_init_20
def cz_X10 : XT := (upR (upR (dz 6 (upR (upR (dz 4 (upR (upR (upI (dz 1 cz_X1) 1 2 (-1)) 1 3 (some 2)) 1 4 (some 3))) 1 5 (some 4)) 1 6 (some 5))) 1 7 (some 6)) 4 0 (some 7))
set_option maxHeartbeats 4000000 in
set_option maxRecDepth 100000 in
theorem ct_X10 {D : va_G} : MetG (bX D) yX0_init cX0_init 1 1 30 2 12 [.ref 10] 11 13 (dz 10 cz_X10) cz_X10 := by
  refine MetG.mk (own := RX0) (by decide +kernel) rfl rfl (nle rfl) (fun E ad cA C hG hI hE hk0 hn0 => ?_)
  refine Wx_lv (lv' := [(0, .ref 10)]) rfl ?_
  have had : ∀ k, k < 11 → wA (mkW (bX D) 11 ad cA) k = ad k := fun _ _ => rfl
  refine x_aload_n (i := 0) C dX0_init_0 rfl rfl ?_
  refine x_objInit C oiX0_3.1 oiX0_3.2.1 oiX0_3.2.2 (nle rfl) (nle rfl) dX0_init_1 ?_
  refine x_aload_n (i := 0) C dX0_init_4 rfl rfl ?_
  refine x_bipush C dX0_init_5 (by decide) ?_
  refine x_newarr (at0 := .int) (ty := .int) (q0 := 0) (nn := 6) (a0 := (6, .inl (fun _ => 0))) (kd := 1) (a := 1) (b := 6) C hG rfl acX_int (fun _ => rfl) (fun _ => rfl) rfl (by decide) rfl (nle rfl) (nle rfl) (rbX_S 11 shX rfl rfl (by decide +kernel)) rfl rfl (by rw [hk0]) (by rw [hn0]) (nle rfl) (nle rfl) dX0_init_7 (fun q c C => ?_)
  refine Wx_PH (fun H h => PX_num (k := 11) SB_dz (fun i => rfl) (fun i => rfl) (fun i => rfl) h) ?_
  show Wx _ _ _ (PX _ (dz 10 cz_X10)) _ _ [.ref 11, .ref 10]
  have hG := hG.k (a := 1) (b := 6)
  have hI := hI.k (a := 1) (b := 6)
  have hE := hE.k (a := 1) (b := 6)
  have had := had_up (q := q) (c := c) had (nle rfl)
  refine x_putF C hI (xkfX_X0_9 rfl rfl) (by first | exact Or.inl ⟨_, rfl⟩ | exact Or.inr ⟨_, rfl⟩) (nlt rfl) rfl dX0_init_9 ?_
  refine x_aload_n (i := 0) C dX0_init_12 rfl rfl ?_
  refine x_bipush C dX0_init_13 (by decide) ?_
  refine x_newarr (at0 := .int) (ty := .int) (q0 := 0) (nn := 6) (a0 := (6, .inl (fun _ => 0))) (kd := 1) (a := 2) (b := 12) C hG rfl acX_int (fun _ => rfl) (fun _ => rfl) rfl (by decide) rfl (nle rfl) (nle rfl) (rbX_S 12 shX rfl rfl (by decide +kernel)) rfl rfl (by rw [eK.k]) (by rw [eN.k]) (nle rfl) (nle rfl) dX0_init_15 (fun q c C => ?_)
  refine Wx_PH (fun H h => PX_num (k := 12) SB_dz (fun i => rfl) (fun i => rfl) (fun i => rfl) h) ?_
  show Wx _ _ _ (PX _ (upR (dz 10 cz_X10) 10 5 (some 11))) _ _ [.ref 12, .ref 10]
  have hG := hG.k (a := 2) (b := 12)
  have hI := hI.k (a := 2) (b := 12)
  have hE := hE.k (a := 2) (b := 12)
  have had := had_up (q := q) (c := c) had (nle rfl)
  refine x_putF C hI (xkfX_X0_15 rfl rfl) (by first | exact Or.inl ⟨_, rfl⟩ | exact Or.inr ⟨_, rfl⟩) (nlt rfl) rfl dX0_init_17 ?_
  refine Wx_PH (fun H h => PX_many (Y := cz_X10) (sh := shX) [10] rfl (SL_upR rfl (SL_upR rfl (SL_dz rfl SL_rf))) (by decide +kernel) h) ?_
  exact x_vretG C rfl hE eK.k eN.k had dX0_init_20
def cz_X13 : XT := (upR (upR (upR (dz 6 (upR (upR (dz 4 (upR (upR (upI (dz 1 cz_X1) 1 2 (-1)) 1 3 (some 2)) 1 4 (some 3))) 1 5 (some 4)) 1 6 (some 5))) 1 7 (some 6)) 4 0 (some 7)) 4 1 (some 10))
set_option maxHeartbeats 4000000 in
set_option maxRecDepth 100000 in
theorem ct_X13 {D : va_G} : MetG (bX D) yX2_init cX2_init 1 1 30 2 60 [.ref 13] 14 16 (dz 13 cz_X13) cz_X13 := by
  refine MetG.mk (own := RX2) (by decide +kernel) rfl rfl (nle rfl) (fun E ad cA C hG hI hE hk0 hn0 => ?_)
  refine Wx_lv (lv' := [(0, .ref 13)]) rfl ?_
  have had : ∀ k, k < 14 → wA (mkW (bX D) 14 ad cA) k = ad k := fun _ _ => rfl
  refine x_aload_n (i := 0) C dX2_init_0 rfl rfl ?_
  refine x_objInit C oiX2_3.1 oiX2_3.2.1 oiX2_3.2.2 (nle rfl) (nle rfl) dX2_init_1 ?_
  refine x_aload_n (i := 0) C dX2_init_4 rfl rfl ?_
  refine x_bipush C dX2_init_5 (by decide) ?_
  refine x_newarr (at0 := .long) (ty := .long) (q0 := 0) (nn := 30) (a0 := (30, .inr (.inl (fun _ => 0)))) (kd := 2) (a := 1) (b := 30) C hG rfl acX_long (fun _ => rfl) (fun _ => rfl) rfl (by decide) rfl (nle rfl) (nle rfl) (rbX_S 14 shX rfl rfl (by decide +kernel)) rfl rfl (by rw [hk0]) (by rw [hn0]) (nle rfl) (nle rfl) dX2_init_7 (fun q c C => ?_)
  refine Wx_PH (fun H h => PX_num (k := 14) SB_dz (fun i => rfl) (fun i => rfl) (fun i => rfl) h) ?_
  show Wx _ _ _ (PX _ (dz 13 cz_X13)) _ _ [.ref 14, .ref 13]
  have hG := hG.k (a := 1) (b := 30)
  have hI := hI.k (a := 1) (b := 30)
  have hE := hE.k (a := 1) (b := 30)
  have had := had_up (q := q) (c := c) had (nle rfl)
  refine x_putF C hI (xkfX_X2_9 rfl rfl) (by first | exact Or.inl ⟨_, rfl⟩ | exact Or.inr ⟨_, rfl⟩) (nlt rfl) rfl dX2_init_9 ?_
  refine x_aload_n (i := 0) C dX2_init_12 rfl rfl ?_
  refine x_bipush C dX2_init_13 (by decide) ?_
  refine x_newarr (at0 := .int) (ty := .int) (q0 := 0) (nn := 30) (a0 := (30, .inl (fun _ => 0))) (kd := 1) (a := 2) (b := 60) C hG rfl acX_int (fun _ => rfl) (fun _ => rfl) rfl (by decide) rfl (nle rfl) (nle rfl) (rbX_S 15 shX rfl rfl (by decide +kernel)) rfl rfl (by rw [eK.k]) (by rw [eN.k]) (nle rfl) (nle rfl) dX2_init_15 (fun q c C => ?_)
  refine Wx_PH (fun H h => PX_num (k := 15) SB_dz (fun i => rfl) (fun i => rfl) (fun i => rfl) h) ?_
  show Wx _ _ _ (PX _ (upR (dz 13 cz_X13) 13 1 (some 14))) _ _ [.ref 15, .ref 13]
  have hG := hG.k (a := 2) (b := 60)
  have hI := hI.k (a := 2) (b := 60)
  have hE := hE.k (a := 2) (b := 60)
  have had := had_up (q := q) (c := c) had (nle rfl)
  refine x_putF C hI (xkfX_X2_15 rfl rfl) (by first | exact Or.inl ⟨_, rfl⟩ | exact Or.inr ⟨_, rfl⟩) (nlt rfl) rfl dX2_init_17 ?_
  refine Wx_PH (fun H h => PX_many (Y := cz_X13) (sh := shX) [13] rfl (SL_upR rfl (SL_upR rfl (SL_dz rfl SL_rf))) (by decide +kernel) h) ?_
  exact x_vretG C rfl hE eK.k eN.k had dX2_init_20
def cz_X16 : XT := (upR (upR (upR (upR (dz 6 (upR (upR (dz 4 (upR (upR (upI (dz 1 cz_X1) 1 2 (-1)) 1 3 (some 2)) 1 4 (some 3))) 1 5 (some 4)) 1 6 (some 5))) 1 7 (some 6)) 4 0 (some 7)) 4 1 (some 10)) 6 0 (some 13))
set_option maxHeartbeats 4000000 in
set_option maxRecDepth 100000 in
theorem ct_X16 {D : va_G} : MetG (bX D) yX2_init cX2_init 1 1 30 2 60 [.ref 16] 17 19 (dz 16 cz_X16) cz_X16 := by
  refine MetG.mk (own := RX2) (by decide +kernel) rfl rfl (nle rfl) (fun E ad cA C hG hI hE hk0 hn0 => ?_)
  refine Wx_lv (lv' := [(0, .ref 16)]) rfl ?_
  have had : ∀ k, k < 17 → wA (mkW (bX D) 17 ad cA) k = ad k := fun _ _ => rfl
  refine x_aload_n (i := 0) C dX2_init_0 rfl rfl ?_
  refine x_objInit C oiX2_3.1 oiX2_3.2.1 oiX2_3.2.2 (nle rfl) (nle rfl) dX2_init_1 ?_
  refine x_aload_n (i := 0) C dX2_init_4 rfl rfl ?_
  refine x_bipush C dX2_init_5 (by decide) ?_
  refine x_newarr (at0 := .long) (ty := .long) (q0 := 0) (nn := 30) (a0 := (30, .inr (.inl (fun _ => 0)))) (kd := 2) (a := 1) (b := 30) C hG rfl acX_long (fun _ => rfl) (fun _ => rfl) rfl (by decide) rfl (nle rfl) (nle rfl) (rbX_S 17 shX rfl rfl (by decide +kernel)) rfl rfl (by rw [hk0]) (by rw [hn0]) (nle rfl) (nle rfl) dX2_init_7 (fun q c C => ?_)
  refine Wx_PH (fun H h => PX_num (k := 17) SB_dz (fun i => rfl) (fun i => rfl) (fun i => rfl) h) ?_
  show Wx _ _ _ (PX _ (dz 16 cz_X16)) _ _ [.ref 17, .ref 16]
  have hG := hG.k (a := 1) (b := 30)
  have hI := hI.k (a := 1) (b := 30)
  have hE := hE.k (a := 1) (b := 30)
  have had := had_up (q := q) (c := c) had (nle rfl)
  refine x_putF C hI (xkfX_X2_9 rfl rfl) (by first | exact Or.inl ⟨_, rfl⟩ | exact Or.inr ⟨_, rfl⟩) (nlt rfl) rfl dX2_init_9 ?_
  refine x_aload_n (i := 0) C dX2_init_12 rfl rfl ?_
  refine x_bipush C dX2_init_13 (by decide) ?_
  refine x_newarr (at0 := .int) (ty := .int) (q0 := 0) (nn := 30) (a0 := (30, .inl (fun _ => 0))) (kd := 1) (a := 2) (b := 60) C hG rfl acX_int (fun _ => rfl) (fun _ => rfl) rfl (by decide) rfl (nle rfl) (nle rfl) (rbX_S 18 shX rfl rfl (by decide +kernel)) rfl rfl (by rw [eK.k]) (by rw [eN.k]) (nle rfl) (nle rfl) dX2_init_15 (fun q c C => ?_)
  refine Wx_PH (fun H h => PX_num (k := 18) SB_dz (fun i => rfl) (fun i => rfl) (fun i => rfl) h) ?_
  show Wx _ _ _ (PX _ (upR (dz 16 cz_X16) 16 1 (some 17))) _ _ [.ref 18, .ref 16]
  have hG := hG.k (a := 2) (b := 60)
  have hI := hI.k (a := 2) (b := 60)
  have hE := hE.k (a := 2) (b := 60)
  have had := had_up (q := q) (c := c) had (nle rfl)
  refine x_putF C hI (xkfX_X2_15 rfl rfl) (by first | exact Or.inl ⟨_, rfl⟩ | exact Or.inr ⟨_, rfl⟩) (nlt rfl) rfl dX2_init_17 ?_
  refine Wx_PH (fun H h => PX_many (Y := cz_X16) (sh := shX) [16] rfl (SL_upR rfl (SL_upR rfl (SL_dz rfl SL_rf))) (by decide +kernel) h) ?_
  exact x_vretG C rfl hE eK.k eN.k had dX2_init_20
set_option maxHeartbeats 4000000 in
set_option maxRecDepth 100000 in
theorem ct_X1 {D : va_G} : MetG (bX D) yX8_init cX8_init 2 2 50 17 774 [.ref 1] 2 19 (dz 1 cz_X1) cz_X1 := by
  refine MetG.mk (own := RX8) (by decide +kernel) rfl rfl (nle rfl) (fun E ad cA C hG hI hE hk0 hn0 => ?_)
  refine Wx_lv (lv' := [(0, .ref 1)]) rfl ?_
  have had : ∀ k, k < 2 → wA (mkW (bX D) 2 ad cA) k = ad k := fun _ _ => rfl
  refine x_aload_n (i := 0) C dX8_init_0 rfl rfl ?_
  refine x_objInit C oiX8_3.1 oiX8_3.2.1 oiX8_3.2.2 (nle rfl) (nle rfl) dX8_init_1 ?_
  refine x_aload_n (i := 0) C dX8_init_4 rfl rfl ?_
  refine x_iconst C dX8_init_5 ?_
  refine x_putI C (xkpX_X8_9 rfl rfl) (nlt rfl) rfl dX8_init_6 ?_
  refine x_aload_n (i := 0) C dX8_init_9 rfl rfl ?_
  refine x_sipush C dX8_init_10 (by decide) ?_
  refine x_newarr (at0 := .int) (ty := .int) (q0 := 0) (nn := 600) (a0 := (600, .inl (fun _ => 0))) (kd := 1) (a := 1) (b := 600) C hG rfl acX_int (fun _ => rfl) (fun _ => rfl) rfl (by decide) rfl (nle rfl) (nle rfl) (rbX_S 2 shX rfl rfl (by decide +kernel)) rfl rfl (by rw [hk0]) (by rw [hn0]) (nle rfl) (nle rfl) dX8_init_13 (fun q c C => ?_)
  refine Wx_PH (fun H h => PX_num (k := 2) SB_dz (fun i => rfl) (fun i => rfl) (fun i => rfl) h) ?_
  show Wx _ _ _ (PX _ (upI (dz 1 cz_X1) 1 2 (-1))) _ _ [.ref 2, .ref 1]
  have hG := hG.k (a := 1) (b := 600)
  have hI := hI.k (a := 1) (b := 600)
  have hE := hE.k (a := 1) (b := 600)
  have had := had_up (q := q) (c := c) had (nle rfl)
  refine x_putF C hI (xkfX_X8_15 rfl rfl) (by first | exact Or.inl ⟨_, rfl⟩ | exact Or.inr ⟨_, rfl⟩) (nlt rfl) rfl dX8_init_15 ?_
  refine x_aload_n (i := 0) C dX8_init_18 rfl rfl ?_
  refine x_iconst C dX8_init_19 ?_
  refine x_newarr (at0 := .int) (ty := .int) (q0 := 0) (nn := 3) (a0 := (3, .inl (fun _ => 0))) (kd := 1) (a := 2) (b := 603) C hG rfl acX_int (fun _ => rfl) (fun _ => rfl) rfl (by decide) rfl (nle rfl) (nle rfl) (rbX_S 3 shX rfl rfl (by decide +kernel)) rfl rfl (by rw [eK.k]) (by rw [eN.k]) (nle rfl) (nle rfl) dX8_init_20 (fun q c C => ?_)
  refine Wx_PH (fun H h => PX_num (k := 3) SB_dz (fun i => rfl) (fun i => rfl) (fun i => rfl) h) ?_
  show Wx _ _ _ (PX _ (upR (upI (dz 1 cz_X1) 1 2 (-1)) 1 3 (some 2))) _ _ [.ref 3, .ref 1]
  have hG := hG.k (a := 2) (b := 603)
  have hI := hI.k (a := 2) (b := 603)
  have hE := hE.k (a := 2) (b := 603)
  have had := had_up (q := q) (c := c) had (nle rfl)
  refine x_putF C hI (xkfX_X8_19 rfl rfl) (by first | exact Or.inl ⟨_, rfl⟩ | exact Or.inr ⟨_, rfl⟩) (nlt rfl) rfl dX8_init_22 ?_
  refine x_aload_n (i := 0) C dX8_init_25 rfl rfl ?_
  refine x_iconst C dX8_init_26 ?_
  refine x_anew (nn := 2) (a := 3) (b := 605) C hG naX8_22.1 naX8_22.2 rfl rfl (nle rfl) (rbX_S 4 shX rfl rfl (by decide +kernel)) rfl rfl (by rw [eK.k]) (by rw [eN.k]) (nle rfl) (nle rfl) dX8_init_27 (fun q c C => ?_)
  show Wx _ _ _ (PX _ (dz 4 (upR (upR (upI (dz 1 cz_X1) 1 2 (-1)) 1 3 (some 2)) 1 4 (some 3)))) _ _ [.ref 4, .ref 1]
  have hG := hG.k (a := 3) (b := 605)
  have hI := hI.k (a := 3) (b := 605)
  have hE := hE.k (a := 3) (b := 605)
  have had := had_up (q := q) (c := c) had (nle rfl)
  refine x_putF C hI (xkfX_X8_24 rfl rfl) (by first | exact Or.inl ⟨_, rfl⟩ | exact Or.inr ⟨_, rfl⟩) (nlt rfl) rfl dX8_init_30 ?_
  refine x_aload_n (i := 0) C dX8_init_33 rfl rfl ?_
  refine x_iconst C dX8_init_34 ?_
  refine x_newarr (at0 := .long) (ty := .long) (q0 := 0) (nn := 3) (a0 := (3, .inr (.inl (fun _ => 0)))) (kd := 2) (a := 4) (b := 608) C hG rfl acX_long (fun _ => rfl) (fun _ => rfl) rfl (by decide) rfl (nle rfl) (nle rfl) (rbX_S 5 shX rfl rfl (by decide +kernel)) rfl rfl (by rw [eK.k]) (by rw [eN.k]) (nle rfl) (nle rfl) dX8_init_35 (fun q c C => ?_)
  refine Wx_PH (fun H h => PX_num (k := 5) SB_dz (fun i => rfl) (fun i => rfl) (fun i => rfl) h) ?_
  show Wx _ _ _ (PX _ (upR (dz 4 (upR (upR (upI (dz 1 cz_X1) 1 2 (-1)) 1 3 (some 2)) 1 4 (some 3))) 1 5 (some 4))) _ _ [.ref 5, .ref 1]
  have hG := hG.k (a := 4) (b := 608)
  have hI := hI.k (a := 4) (b := 608)
  have hE := hE.k (a := 4) (b := 608)
  have had := had_up (q := q) (c := c) had (nle rfl)
  refine x_putF C hI (xkfX_X8_28 rfl rfl) (by first | exact Or.inl ⟨_, rfl⟩ | exact Or.inr ⟨_, rfl⟩) (nlt rfl) rfl dX8_init_37 ?_
  refine x_aload_n (i := 0) C dX8_init_40 rfl rfl ?_
  refine x_iconst C dX8_init_41 ?_
  refine x_anew (nn := 2) (a := 5) (b := 610) C hG naX8_32.1 naX8_32.2 rfl rfl (nle rfl) (rbX_S 6 shX rfl rfl (by decide +kernel)) rfl rfl (by rw [eK.k]) (by rw [eN.k]) (nle rfl) (nle rfl) dX8_init_42 (fun q c C => ?_)
  show Wx _ _ _ (PX _ (dz 6 (upR (upR (dz 4 (upR (upR (upI (dz 1 cz_X1) 1 2 (-1)) 1 3 (some 2)) 1 4 (some 3))) 1 5 (some 4)) 1 6 (some 5)))) _ _ [.ref 6, .ref 1]
  have hG := hG.k (a := 5) (b := 610)
  have hI := hI.k (a := 5) (b := 610)
  have hE := hE.k (a := 5) (b := 610)
  have had := had_up (q := q) (c := c) had (nle rfl)
  refine x_putF C hI (xkfX_X8_34 rfl rfl) (by first | exact Or.inl ⟨_, rfl⟩ | exact Or.inr ⟨_, rfl⟩) (nlt rfl) rfl dX8_init_45 ?_
  refine x_iconst C dX8_init_48 ?_
  refine x_istore_n (i := 1) (lv' := [(1, .int (iI (0))), (0, .ref 1)]) C dX8_init_49 rfl (nlt rfl) rfl ?_
  refine x_iload_n (i := 1) C dX8_init_50 rfl rfl ?_
  refine x_iconst C dX8_init_51 ?_
  refine x_icmp_ge (tgt := 74) C dX8_init_52 (by decide) ⟨by omega, by omega⟩ ⟨by omega, by omega⟩ (fun h => by exfalso; omega) (fun h => ?_)
  clear h
  refine x_aload_n (i := 0) C dX8_init_55 rfl rfl ?_
  refine x_getRs (r := 4) C (xkgX_X8_24 rfl rfl) (nlt rfl) rfl rfl dX8_init_56 ?_
  refine x_iload_n (i := 1) C dX8_init_59 rfl rfl ?_
  refine x_new (a := 6) (b := 617) C hG inX0 tyX0_ok rfl rfl nwX_X8_22.1 nwX_X8_22.2.1 nwX_X8_22.2.2 (fun j hj => by rcases (show j = 0 ∨ j = 1 ∨ j = 2 ∨ j = 3 ∨ j = 4 ∨ j = 5 ∨ j = 6 by omega) with rfl | rfl | rfl | rfl | rfl | rfl | rfl <;> rfl) (rbX_S 7 shX rfl rfl (by decide +kernel)) rfl rfl (by rw [eK.k]) (by rw [eN.k]) (nle rfl) (nle rfl) dX8_init_60 (fun q c C => ?_)
  show Wx _ _ _ (PX _ (dz 7 (upR (dz 6 (upR (upR (dz 4 (upR (upR (upI (dz 1 cz_X1) 1 2 (-1)) 1 3 (some 2)) 1 4 (some 3))) 1 5 (some 4)) 1 6 (some 5))) 1 7 (some 6)))) _ _ [.ref 7, .int (iI (0)), .ref 4]
  have hG := hG.k (a := 6) (b := 617)
  have hI := hI.k (a := 6) (b := 617)
  have hE := hE.k (a := 6) (b := 617)
  have had := had_up (q := q) (c := c) had (nle rfl)
  refine x_dup C dX8_init_63 rfl ?_
  refine x_callG (k := 7) (As := []) (a := 8) (b' := 629) C hG rfl ct_X7 (Or.inr ciX8_38) im_X0_init rfl rfl rfl (nle rfl) ⟨nle rfl, nle rfl⟩ rfl rfl (by rw [eK.k]) (by rw [eN.k]) (nle rfl) (nle rfl) dX8_init_64 (fun ad0 cA0 C hadk => ?_)
  have had : ∀ k, k < 2 → wA (mkW (bX D) 10 ad0 cA0) k = ad k := fun k hk => (hadk k (Nat.lt_of_lt_of_le hk (nle rfl))).trans (had k hk)
  clear hadk
  have hG := hG.k (a := 8) (b := 629)
  have hI := hI.k (a := 8) (b := 629)
  have hE := hE.k (a := 8) (b := 629)
  refine x_aast C (nlt rfl) rfl rfl (nlt rfl) rfl rfl (nle rfl) (by omega) (by omega) dX8_init_67 ?_
  refine x_iinc (lv' := [(1, .int (iI (0 + 1))), (0, .ref 1)]) C dX8_init_68 rfl (nlt rfl) rfl ?_
  refine Wx_lv (lv' := [(1, .int (iI (1))), (0, .ref 1)]) rfl ?_
  refine x_goto (tgt := 50) C dX8_init_71 (by decide) ?_
  refine x_iload_n (i := 1) C dX8_init_50 rfl rfl ?_
  refine x_iconst C dX8_init_51 ?_
  refine x_icmp_ge (tgt := 74) C dX8_init_52 (by decide) ⟨by omega, by omega⟩ ⟨by omega, by omega⟩ (fun h => by exfalso; omega) (fun h => ?_)
  clear h
  refine x_aload_n (i := 0) C dX8_init_55 rfl rfl ?_
  refine x_getRs (r := 4) C (xkgX_X8_24 rfl rfl) (nlt rfl) rfl rfl dX8_init_56 ?_
  refine x_iload_n (i := 1) C dX8_init_59 rfl rfl ?_
  refine x_new (a := 9) (b := 636) C hG inX0 tyX0_ok rfl rfl nwX_X8_22.1 nwX_X8_22.2.1 nwX_X8_22.2.2 (fun j hj => by rcases (show j = 0 ∨ j = 1 ∨ j = 2 ∨ j = 3 ∨ j = 4 ∨ j = 5 ∨ j = 6 by omega) with rfl | rfl | rfl | rfl | rfl | rfl | rfl <;> rfl) (rbX_S 10 shX rfl rfl (by decide +kernel)) rfl rfl (by rw [eK.k]) (by rw [eN.k]) (nle rfl) (nle rfl) dX8_init_60 (fun q c C => ?_)
  show Wx _ _ _ (PX _ (dz 10 (upR (upR (dz 6 (upR (upR (dz 4 (upR (upR (upI (dz 1 cz_X1) 1 2 (-1)) 1 3 (some 2)) 1 4 (some 3))) 1 5 (some 4)) 1 6 (some 5))) 1 7 (some 6)) 4 0 (some 7)))) _ _ [.ref 10, .int (iI (1)), .ref 4]
  have hG := hG.k (a := 9) (b := 636)
  have hI := hI.k (a := 9) (b := 636)
  have hE := hE.k (a := 9) (b := 636)
  have had := had_up (q := q) (c := c) had (nle rfl)
  refine x_dup C dX8_init_63 rfl ?_
  refine x_callG (k := 10) (As := []) (a := 11) (b' := 648) C hG rfl ct_X10 (Or.inr ciX8_38) im_X0_init rfl rfl rfl (nle rfl) ⟨nle rfl, nle rfl⟩ rfl rfl (by rw [eK.k]) (by rw [eN.k]) (nle rfl) (nle rfl) dX8_init_64 (fun ad1 cA1 C hadk => ?_)
  have had : ∀ k, k < 2 → wA (mkW (bX D) 13 ad1 cA1) k = ad k := fun k hk => (hadk k (Nat.lt_of_lt_of_le hk (nle rfl))).trans (had k hk)
  clear hadk
  have hG := hG.k (a := 11) (b := 648)
  have hI := hI.k (a := 11) (b := 648)
  have hE := hE.k (a := 11) (b := 648)
  refine x_aast C (nlt rfl) rfl rfl (nlt rfl) rfl rfl (nle rfl) (by omega) (by omega) dX8_init_67 ?_
  refine x_iinc (lv' := [(1, .int (iI (1 + 1))), (0, .ref 1)]) C dX8_init_68 rfl (nlt rfl) rfl ?_
  refine Wx_lv (lv' := [(1, .int (iI (2))), (0, .ref 1)]) rfl ?_
  refine x_goto (tgt := 50) C dX8_init_71 (by decide) ?_
  refine x_iload_n (i := 1) C dX8_init_50 rfl rfl ?_
  refine x_iconst C dX8_init_51 ?_
  refine x_icmp_ge (tgt := 74) C dX8_init_52 (by decide) ⟨by omega, by omega⟩ ⟨by omega, by omega⟩ (fun h => ?_) (fun h => by exfalso; omega)
  clear h
  refine x_iconst C dX8_init_74 ?_
  refine x_istore_n (i := 1) (lv' := [(1, .int (iI (0))), (0, .ref 1)]) C dX8_init_75 rfl (nlt rfl) rfl ?_
  refine x_iload_n (i := 1) C dX8_init_76 rfl rfl ?_
  refine x_iconst C dX8_init_77 ?_
  refine x_icmp_ge (tgt := 100) C dX8_init_78 (by decide) ⟨by omega, by omega⟩ ⟨by omega, by omega⟩ (fun h => by exfalso; omega) (fun h => ?_)
  clear h
  refine x_aload_n (i := 0) C dX8_init_81 rfl rfl ?_
  refine x_getRs (r := 6) C (xkgX_X8_34 rfl rfl) (nlt rfl) rfl rfl dX8_init_82 ?_
  refine x_iload_n (i := 1) C dX8_init_85 rfl rfl ?_
  refine x_new (a := 12) (b := 651) C hG inX2 tyX2_ok rfl rfl nwX_X8_32.1 nwX_X8_32.2.1 nwX_X8_32.2.2 (fun j hj => by rcases (show j = 0 ∨ j = 1 ∨ j = 2 by omega) with rfl | rfl | rfl <;> rfl) (rbX_S 13 shX rfl rfl (by decide +kernel)) rfl rfl (by rw [eK.k]) (by rw [eN.k]) (nle rfl) (nle rfl) dX8_init_86 (fun q c C => ?_)
  show Wx _ _ _ (PX _ (dz 13 (upR (upR (upR (dz 6 (upR (upR (dz 4 (upR (upR (upI (dz 1 cz_X1) 1 2 (-1)) 1 3 (some 2)) 1 4 (some 3))) 1 5 (some 4)) 1 6 (some 5))) 1 7 (some 6)) 4 0 (some 7)) 4 1 (some 10)))) _ _ [.ref 13, .int (iI (0)), .ref 6]
  have hG := hG.k (a := 12) (b := 651)
  have hI := hI.k (a := 12) (b := 651)
  have hE := hE.k (a := 12) (b := 651)
  have had := had_up (q := q) (c := c) had (nle rfl)
  refine x_dup C dX8_init_89 rfl ?_
  refine x_callG (k := 13) (As := []) (a := 14) (b' := 711) C hG rfl ct_X13 (Or.inr ciX8_39) im_X2_init rfl rfl rfl (nle rfl) ⟨nle rfl, nle rfl⟩ rfl rfl (by rw [eK.k]) (by rw [eN.k]) (nle rfl) (nle rfl) dX8_init_90 (fun ad2 cA2 C hadk => ?_)
  have had : ∀ k, k < 2 → wA (mkW (bX D) 16 ad2 cA2) k = ad k := fun k hk => (hadk k (Nat.lt_of_lt_of_le hk (nle rfl))).trans (had k hk)
  clear hadk
  have hG := hG.k (a := 14) (b := 711)
  have hI := hI.k (a := 14) (b := 711)
  have hE := hE.k (a := 14) (b := 711)
  refine x_aast C (nlt rfl) rfl rfl (nlt rfl) rfl rfl (nle rfl) (by omega) (by omega) dX8_init_93 ?_
  refine x_iinc (lv' := [(1, .int (iI (0 + 1))), (0, .ref 1)]) C dX8_init_94 rfl (nlt rfl) rfl ?_
  refine Wx_lv (lv' := [(1, .int (iI (1))), (0, .ref 1)]) rfl ?_
  refine x_goto (tgt := 76) C dX8_init_97 (by decide) ?_
  refine x_iload_n (i := 1) C dX8_init_76 rfl rfl ?_
  refine x_iconst C dX8_init_77 ?_
  refine x_icmp_ge (tgt := 100) C dX8_init_78 (by decide) ⟨by omega, by omega⟩ ⟨by omega, by omega⟩ (fun h => by exfalso; omega) (fun h => ?_)
  clear h
  refine x_aload_n (i := 0) C dX8_init_81 rfl rfl ?_
  refine x_getRs (r := 6) C (xkgX_X8_34 rfl rfl) (nlt rfl) rfl rfl dX8_init_82 ?_
  refine x_iload_n (i := 1) C dX8_init_85 rfl rfl ?_
  refine x_new (a := 15) (b := 714) C hG inX2 tyX2_ok rfl rfl nwX_X8_32.1 nwX_X8_32.2.1 nwX_X8_32.2.2 (fun j hj => by rcases (show j = 0 ∨ j = 1 ∨ j = 2 by omega) with rfl | rfl | rfl <;> rfl) (rbX_S 16 shX rfl rfl (by decide +kernel)) rfl rfl (by rw [eK.k]) (by rw [eN.k]) (nle rfl) (nle rfl) dX8_init_86 (fun q c C => ?_)
  show Wx _ _ _ (PX _ (dz 16 (upR (upR (upR (upR (dz 6 (upR (upR (dz 4 (upR (upR (upI (dz 1 cz_X1) 1 2 (-1)) 1 3 (some 2)) 1 4 (some 3))) 1 5 (some 4)) 1 6 (some 5))) 1 7 (some 6)) 4 0 (some 7)) 4 1 (some 10)) 6 0 (some 13)))) _ _ [.ref 16, .int (iI (1)), .ref 6]
  have hG := hG.k (a := 15) (b := 714)
  have hI := hI.k (a := 15) (b := 714)
  have hE := hE.k (a := 15) (b := 714)
  have had := had_up (q := q) (c := c) had (nle rfl)
  refine x_dup C dX8_init_89 rfl ?_
  refine x_callG (k := 16) (As := []) (a := 17) (b' := 774) C hG rfl ct_X16 (Or.inr ciX8_39) im_X2_init rfl rfl rfl (nle rfl) ⟨nle rfl, nle rfl⟩ rfl rfl (by rw [eK.k]) (by rw [eN.k]) (nle rfl) (nle rfl) dX8_init_90 (fun ad3 cA3 C hadk => ?_)
  have had : ∀ k, k < 2 → wA (mkW (bX D) 19 ad3 cA3) k = ad k := fun k hk => (hadk k (Nat.lt_of_lt_of_le hk (nle rfl))).trans (had k hk)
  clear hadk
  have hG := hG.k (a := 17) (b := 774)
  have hI := hI.k (a := 17) (b := 774)
  have hE := hE.k (a := 17) (b := 774)
  refine x_aast C (nlt rfl) rfl rfl (nlt rfl) rfl rfl (nle rfl) (by omega) (by omega) dX8_init_93 ?_
  refine x_iinc (lv' := [(1, .int (iI (1 + 1))), (0, .ref 1)]) C dX8_init_94 rfl (nlt rfl) rfl ?_
  refine Wx_lv (lv' := [(1, .int (iI (2))), (0, .ref 1)]) rfl ?_
  refine x_goto (tgt := 76) C dX8_init_97 (by decide) ?_
  refine x_iload_n (i := 1) C dX8_init_76 rfl rfl ?_
  refine x_iconst C dX8_init_77 ?_
  refine x_icmp_ge (tgt := 100) C dX8_init_78 (by decide) ⟨by omega, by omega⟩ ⟨by omega, by omega⟩ (fun h => ?_) (fun h => by exfalso; omega)
  clear h
  refine Wx_PH (fun H h => PX_many (Y := cz_X1) (sh := shX) [1, 4, 6] rfl (SL_upR rfl (SL_upR rfl (SL_upR rfl (SL_upR rfl (SL_upR rfl (SL_dz rfl (SL_upR rfl (SL_upR rfl (SL_dz rfl (SL_upR rfl (SL_upR rfl (SL_upI rfl (SL_dz rfl SL_rf))))))))))))) (by decide +kernel) h) ?_
  exact x_vretG C rfl hE eK.k eN.k had dX8_init_100
def cz_X21 : XT := (upR (upR (dz 19 (upR (dz 0 x0X) 0 0 (some 1))) 0 1 (some 19)) 0 2 (some 20))
def cz_X22 : XT := (dz 21 cz_X21)
set_option maxHeartbeats 4000000 in
set_option maxRecDepth 100000 in
theorem ct_X22 {D : va_G} : MetG (bX D) yX0_init cX0_init 1 1 30 2 12 [.ref 22] 23 25 (dz 22 cz_X22) cz_X22 := by
  refine MetG.mk (own := RX0) (by decide +kernel) rfl rfl (nle rfl) (fun E ad cA C hG hI hE hk0 hn0 => ?_)
  refine Wx_lv (lv' := [(0, .ref 22)]) rfl ?_
  have had : ∀ k, k < 23 → wA (mkW (bX D) 23 ad cA) k = ad k := fun _ _ => rfl
  refine x_aload_n (i := 0) C dX0_init_0 rfl rfl ?_
  refine x_objInit C oiX0_3.1 oiX0_3.2.1 oiX0_3.2.2 (nle rfl) (nle rfl) dX0_init_1 ?_
  refine x_aload_n (i := 0) C dX0_init_4 rfl rfl ?_
  refine x_bipush C dX0_init_5 (by decide) ?_
  refine x_newarr (at0 := .int) (ty := .int) (q0 := 0) (nn := 6) (a0 := (6, .inl (fun _ => 0))) (kd := 1) (a := 1) (b := 6) C hG rfl acX_int (fun _ => rfl) (fun _ => rfl) rfl (by decide) rfl (nle rfl) (nle rfl) (rbX_S 23 shX rfl rfl (by decide +kernel)) rfl rfl (by rw [hk0]) (by rw [hn0]) (nle rfl) (nle rfl) dX0_init_7 (fun q c C => ?_)
  refine Wx_PH (fun H h => PX_num (k := 23) SB_dz (fun i => rfl) (fun i => rfl) (fun i => rfl) h) ?_
  show Wx _ _ _ (PX _ (dz 22 cz_X22)) _ _ [.ref 23, .ref 22]
  have hG := hG.k (a := 1) (b := 6)
  have hI := hI.k (a := 1) (b := 6)
  have hE := hE.k (a := 1) (b := 6)
  have had := had_up (q := q) (c := c) had (nle rfl)
  refine x_putF C hI (xkfX_X0_9 rfl rfl) (by first | exact Or.inl ⟨_, rfl⟩ | exact Or.inr ⟨_, rfl⟩) (nlt rfl) rfl dX0_init_9 ?_
  refine x_aload_n (i := 0) C dX0_init_12 rfl rfl ?_
  refine x_bipush C dX0_init_13 (by decide) ?_
  refine x_newarr (at0 := .int) (ty := .int) (q0 := 0) (nn := 6) (a0 := (6, .inl (fun _ => 0))) (kd := 1) (a := 2) (b := 12) C hG rfl acX_int (fun _ => rfl) (fun _ => rfl) rfl (by decide) rfl (nle rfl) (nle rfl) (rbX_S 24 shX rfl rfl (by decide +kernel)) rfl rfl (by rw [eK.k]) (by rw [eN.k]) (nle rfl) (nle rfl) dX0_init_15 (fun q c C => ?_)
  refine Wx_PH (fun H h => PX_num (k := 24) SB_dz (fun i => rfl) (fun i => rfl) (fun i => rfl) h) ?_
  show Wx _ _ _ (PX _ (upR (dz 22 cz_X22) 22 5 (some 23))) _ _ [.ref 24, .ref 22]
  have hG := hG.k (a := 2) (b := 12)
  have hI := hI.k (a := 2) (b := 12)
  have hE := hE.k (a := 2) (b := 12)
  have had := had_up (q := q) (c := c) had (nle rfl)
  refine x_putF C hI (xkfX_X0_15 rfl rfl) (by first | exact Or.inl ⟨_, rfl⟩ | exact Or.inr ⟨_, rfl⟩) (nlt rfl) rfl dX0_init_17 ?_
  refine Wx_PH (fun H h => PX_many (Y := cz_X22) (sh := shX) [22] rfl (SL_upR rfl (SL_upR rfl (SL_dz rfl SL_rf))) (by decide +kernel) h) ?_
  exact x_vretG C rfl hE eK.k eN.k had dX0_init_20
def cz_X25 : XT := (upR (dz 21 cz_X21) 21 0 (some 22))
set_option maxHeartbeats 4000000 in
set_option maxRecDepth 100000 in
theorem ct_X25 {D : va_G} : MetG (bX D) yX2_init cX2_init 1 1 30 2 60 [.ref 25] 26 28 (dz 25 cz_X25) cz_X25 := by
  refine MetG.mk (own := RX2) (by decide +kernel) rfl rfl (nle rfl) (fun E ad cA C hG hI hE hk0 hn0 => ?_)
  refine Wx_lv (lv' := [(0, .ref 25)]) rfl ?_
  have had : ∀ k, k < 26 → wA (mkW (bX D) 26 ad cA) k = ad k := fun _ _ => rfl
  refine x_aload_n (i := 0) C dX2_init_0 rfl rfl ?_
  refine x_objInit C oiX2_3.1 oiX2_3.2.1 oiX2_3.2.2 (nle rfl) (nle rfl) dX2_init_1 ?_
  refine x_aload_n (i := 0) C dX2_init_4 rfl rfl ?_
  refine x_bipush C dX2_init_5 (by decide) ?_
  refine x_newarr (at0 := .long) (ty := .long) (q0 := 0) (nn := 30) (a0 := (30, .inr (.inl (fun _ => 0)))) (kd := 2) (a := 1) (b := 30) C hG rfl acX_long (fun _ => rfl) (fun _ => rfl) rfl (by decide) rfl (nle rfl) (nle rfl) (rbX_S 26 shX rfl rfl (by decide +kernel)) rfl rfl (by rw [hk0]) (by rw [hn0]) (nle rfl) (nle rfl) dX2_init_7 (fun q c C => ?_)
  refine Wx_PH (fun H h => PX_num (k := 26) SB_dz (fun i => rfl) (fun i => rfl) (fun i => rfl) h) ?_
  show Wx _ _ _ (PX _ (dz 25 cz_X25)) _ _ [.ref 26, .ref 25]
  have hG := hG.k (a := 1) (b := 30)
  have hI := hI.k (a := 1) (b := 30)
  have hE := hE.k (a := 1) (b := 30)
  have had := had_up (q := q) (c := c) had (nle rfl)
  refine x_putF C hI (xkfX_X2_9 rfl rfl) (by first | exact Or.inl ⟨_, rfl⟩ | exact Or.inr ⟨_, rfl⟩) (nlt rfl) rfl dX2_init_9 ?_
  refine x_aload_n (i := 0) C dX2_init_12 rfl rfl ?_
  refine x_bipush C dX2_init_13 (by decide) ?_
  refine x_newarr (at0 := .int) (ty := .int) (q0 := 0) (nn := 30) (a0 := (30, .inl (fun _ => 0))) (kd := 1) (a := 2) (b := 60) C hG rfl acX_int (fun _ => rfl) (fun _ => rfl) rfl (by decide) rfl (nle rfl) (nle rfl) (rbX_S 27 shX rfl rfl (by decide +kernel)) rfl rfl (by rw [eK.k]) (by rw [eN.k]) (nle rfl) (nle rfl) dX2_init_15 (fun q c C => ?_)
  refine Wx_PH (fun H h => PX_num (k := 27) SB_dz (fun i => rfl) (fun i => rfl) (fun i => rfl) h) ?_
  show Wx _ _ _ (PX _ (upR (dz 25 cz_X25) 25 1 (some 26))) _ _ [.ref 27, .ref 25]
  have hG := hG.k (a := 2) (b := 60)
  have hI := hI.k (a := 2) (b := 60)
  have hE := hE.k (a := 2) (b := 60)
  have had := had_up (q := q) (c := c) had (nle rfl)
  refine x_putF C hI (xkfX_X2_15 rfl rfl) (by first | exact Or.inl ⟨_, rfl⟩ | exact Or.inr ⟨_, rfl⟩) (nlt rfl) rfl dX2_init_17 ?_
  refine Wx_PH (fun H h => PX_many (Y := cz_X25) (sh := shX) [25] rfl (SL_upR rfl (SL_upR rfl (SL_dz rfl SL_rf))) (by decide +kernel) h) ?_
  exact x_vretG C rfl hE eK.k eN.k had dX2_init_20
set_option maxHeartbeats 4000000 in
set_option maxRecDepth 100000 in
theorem ct_X21 {D : va_G} : MetG (bX D) yX6_init cX6_init 1 2 50 7 82 [.ref 21] 22 29 (dz 21 cz_X21) cz_X21 := by
  refine MetG.mk (own := RX6) (by decide +kernel) rfl rfl (nle rfl) (fun E ad cA C hG hI hE hk0 hn0 => ?_)
  refine Wx_lv (lv' := [(0, .ref 21)]) rfl ?_
  have had : ∀ k, k < 22 → wA (mkW (bX D) 22 ad cA) k = ad k := fun _ _ => rfl
  refine x_aload_n (i := 0) C dX6_init_0 rfl rfl ?_
  refine x_objInit C oiX6_3.1 oiX6_3.2.1 oiX6_3.2.2 (nle rfl) (nle rfl) dX6_init_1 ?_
  refine x_aload_n (i := 0) C dX6_init_4 rfl rfl ?_
  refine x_new (a := 1) (b := 7) C hG inX0 tyX0_ok rfl rfl nwX_X6_9.1 nwX_X6_9.2.1 nwX_X6_9.2.2 (fun j hj => by rcases (show j = 0 ∨ j = 1 ∨ j = 2 ∨ j = 3 ∨ j = 4 ∨ j = 5 ∨ j = 6 by omega) with rfl | rfl | rfl | rfl | rfl | rfl | rfl <;> rfl) (rbX_S 22 shX rfl rfl (by decide +kernel)) rfl rfl (by rw [hk0]) (by rw [hn0]) (nle rfl) (nle rfl) dX6_init_5 (fun q c C => ?_)
  show Wx _ _ _ (PX _ (dz 22 (dz 21 cz_X21))) _ _ [.ref 22, .ref 21]
  have hG := hG.k (a := 1) (b := 7)
  have hI := hI.k (a := 1) (b := 7)
  have hE := hE.k (a := 1) (b := 7)
  have had := had_up (q := q) (c := c) had (nle rfl)
  refine x_dup C dX6_init_8 rfl ?_
  refine x_callG (k := 22) (As := []) (a := 3) (b' := 19) C hG rfl ct_X22 (Or.inr ciX6_11) im_X0_init rfl rfl rfl (nle rfl) ⟨nle rfl, nle rfl⟩ rfl rfl (by rw [eK.k]) (by rw [eN.k]) (nle rfl) (nle rfl) dX6_init_9 (fun ad5 cA5 C hadk => ?_)
  have had : ∀ k, k < 22 → wA (mkW (bX D) 25 ad5 cA5) k = ad k := fun k hk => (hadk k (Nat.lt_of_lt_of_le hk (nle rfl))).trans (had k hk)
  clear hadk
  have hG := hG.k (a := 3) (b := 19)
  have hI := hI.k (a := 3) (b := 19)
  have hE := hE.k (a := 3) (b := 19)
  refine x_putF C hI (xkfX_X6_12 rfl rfl) (by first | exact Or.inl ⟨_, rfl⟩ | exact Or.inr ⟨_, rfl⟩) (nlt rfl) rfl dX6_init_12 ?_
  refine x_aload_n (i := 0) C dX6_init_15 rfl rfl ?_
  refine x_new (a := 4) (b := 22) C hG inX2 tyX2_ok rfl rfl nwX_X6_18.1 nwX_X6_18.2.1 nwX_X6_18.2.2 (fun j hj => by rcases (show j = 0 ∨ j = 1 ∨ j = 2 by omega) with rfl | rfl | rfl <;> rfl) (rbX_S 25 shX rfl rfl (by decide +kernel)) rfl rfl (by rw [eK.k]) (by rw [eN.k]) (nle rfl) (nle rfl) dX6_init_16 (fun q c C => ?_)
  show Wx _ _ _ (PX _ (dz 25 (upR (dz 21 cz_X21) 21 0 (some 22)))) _ _ [.ref 25, .ref 21]
  have hG := hG.k (a := 4) (b := 22)
  have hI := hI.k (a := 4) (b := 22)
  have hE := hE.k (a := 4) (b := 22)
  have had := had_up (q := q) (c := c) had (nle rfl)
  refine x_dup C dX6_init_19 rfl ?_
  refine x_callG (k := 25) (As := []) (a := 6) (b' := 82) C hG rfl ct_X25 (Or.inr ciX6_20) im_X2_init rfl rfl rfl (nle rfl) ⟨nle rfl, nle rfl⟩ rfl rfl (by rw [eK.k]) (by rw [eN.k]) (nle rfl) (nle rfl) dX6_init_20 (fun ad6 cA6 C hadk => ?_)
  have had : ∀ k, k < 22 → wA (mkW (bX D) 28 ad6 cA6) k = ad k := fun k hk => (hadk k (Nat.lt_of_lt_of_le hk (nle rfl))).trans (had k hk)
  clear hadk
  have hG := hG.k (a := 6) (b := 82)
  have hI := hI.k (a := 6) (b := 82)
  have hE := hE.k (a := 6) (b := 82)
  refine x_putF C hI (xkfX_X6_21 rfl rfl) (by first | exact Or.inl ⟨_, rfl⟩ | exact Or.inr ⟨_, rfl⟩) (nlt rfl) rfl dX6_init_23 ?_
  refine x_aload_n (i := 0) C dX6_init_26 rfl rfl ?_
  refine x_iconst C dX6_init_27 ?_
  refine x_newarr (at0 := .int) (ty := .int) (q0 := 0) (nn := 0) (a0 := (0, .inl (fun _ => 0))) (kd := 1) (a := 7) (b := 82) C hG rfl acX_int (fun _ => rfl) (fun _ => rfl) rfl (by decide) rfl (nle rfl) (nle rfl) (rbX_S 28 shX rfl rfl (by decide +kernel)) rfl rfl (by rw [eK.k]) (by rw [eN.k]) (nle rfl) (nle rfl) dX6_init_28 (fun q c C => ?_)
  refine Wx_PH (fun H h => PX_num (k := 28) SB_dz (fun i => rfl) (fun i => rfl) (fun i => rfl) h) ?_
  show Wx _ _ _ (PX _ (upR (upR (dz 21 cz_X21) 21 0 (some 22)) 21 1 (some 25))) _ _ [.ref 28, .ref 21]
  have hG := hG.k (a := 7) (b := 82)
  have hI := hI.k (a := 7) (b := 82)
  have hE := hE.k (a := 7) (b := 82)
  have had := had_up (q := q) (c := c) had (nle rfl)
  refine x_putR C (xkpX_X6_25 rfl rfl) (by first | exact Or.inl ⟨_, rfl⟩ | exact Or.inr ⟨_, rfl⟩) (nlt rfl) rfl dX6_init_30 ?_
  refine Wx_PH (fun H h => PX_many (Y := cz_X21) (sh := shX) [21] rfl (SL_upR rfl (SL_upR rfl (SL_upR rfl (SL_dz rfl SL_rf)))) (by decide +kernel) h) ?_
  exact x_vretG C rfl hE eK.k eN.k had dX6_init_33
def cz_X29 : XT := (upR (upR (upR (dz 19 (upR (dz 0 x0X) 0 0 (some 1))) 0 1 (some 19)) 0 2 (some 20)) 0 3 (some 21))
def cz_X31 : XT := (upR (dz 29 cz_X29) 29 0 (some 30))
set_option maxHeartbeats 4000000 in
set_option maxRecDepth 100000 in
theorem ct_X31 {D : va_G} : MetG (bX D) yX3_init cX3_init 1 1 30 2 8 [.ref 31] 32 34 (dz 31 cz_X31) cz_X31 := by
  refine MetG.mk (own := RX3) (by decide +kernel) rfl rfl (nle rfl) (fun E ad cA C hG hI hE hk0 hn0 => ?_)
  refine Wx_lv (lv' := [(0, .ref 31)]) rfl ?_
  have had : ∀ k, k < 32 → wA (mkW (bX D) 32 ad cA) k = ad k := fun _ _ => rfl
  refine x_aload_n (i := 0) C dX3_init_0 rfl rfl ?_
  refine x_objInit C oiX3_3.1 oiX3_3.2.1 oiX3_3.2.2 (nle rfl) (nle rfl) dX3_init_1 ?_
  refine x_aload_n (i := 0) C dX3_init_4 rfl rfl ?_
  refine x_iconst C dX3_init_5 ?_
  refine x_newarr (at0 := .long) (ty := .long) (q0 := 0) (nn := 4) (a0 := (4, .inr (.inl (fun _ => 0)))) (kd := 2) (a := 1) (b := 4) C hG rfl acX_long (fun _ => rfl) (fun _ => rfl) rfl (by decide) rfl (nle rfl) (nle rfl) (rbX_S 32 shX rfl rfl (by decide +kernel)) rfl rfl (by rw [hk0]) (by rw [hn0]) (nle rfl) (nle rfl) dX3_init_6 (fun q c C => ?_)
  refine Wx_PH (fun H h => PX_num (k := 32) SB_dz (fun i => rfl) (fun i => rfl) (fun i => rfl) h) ?_
  show Wx _ _ _ (PX _ (dz 31 cz_X31)) _ _ [.ref 32, .ref 31]
  have hG := hG.k (a := 1) (b := 4)
  have hI := hI.k (a := 1) (b := 4)
  have hE := hE.k (a := 1) (b := 4)
  have had := had_up (q := q) (c := c) had (nle rfl)
  refine x_putF C hI (xkfX_X3_9 rfl rfl) (by first | exact Or.inl ⟨_, rfl⟩ | exact Or.inr ⟨_, rfl⟩) (nlt rfl) rfl dX3_init_8 ?_
  refine x_aload_n (i := 0) C dX3_init_11 rfl rfl ?_
  refine x_iconst C dX3_init_12 ?_
  refine x_newarr (at0 := .int) (ty := .int) (q0 := 0) (nn := 4) (a0 := (4, .inl (fun _ => 0))) (kd := 1) (a := 2) (b := 8) C hG rfl acX_int (fun _ => rfl) (fun _ => rfl) rfl (by decide) rfl (nle rfl) (nle rfl) (rbX_S 33 shX rfl rfl (by decide +kernel)) rfl rfl (by rw [eK.k]) (by rw [eN.k]) (nle rfl) (nle rfl) dX3_init_13 (fun q c C => ?_)
  refine Wx_PH (fun H h => PX_num (k := 33) SB_dz (fun i => rfl) (fun i => rfl) (fun i => rfl) h) ?_
  show Wx _ _ _ (PX _ (upR (dz 31 cz_X31) 31 0 (some 32))) _ _ [.ref 33, .ref 31]
  have hG := hG.k (a := 2) (b := 8)
  have hI := hI.k (a := 2) (b := 8)
  have hE := hE.k (a := 2) (b := 8)
  have had := had_up (q := q) (c := c) had (nle rfl)
  refine x_putF C hI (xkfX_X3_15 rfl rfl) (by first | exact Or.inl ⟨_, rfl⟩ | exact Or.inr ⟨_, rfl⟩) (nlt rfl) rfl dX3_init_15 ?_
  refine Wx_PH (fun H h => PX_many (Y := cz_X31) (sh := shX) [31] rfl (SL_upR rfl (SL_upR rfl (SL_dz rfl SL_rf))) (by decide +kernel) h) ?_
  exact x_vretG C rfl hE eK.k eN.k had dX3_init_18
set_option maxHeartbeats 4000000 in
set_option maxRecDepth 100000 in
theorem ct_X29 {D : va_G} : MetG (bX D) yX9_init cX9_init 1 2 50 8 3686 [.ref 29] 30 38 (dz 29 cz_X29) cz_X29 := by
  refine MetG.mk (own := RX9) (by decide +kernel) rfl rfl (nle rfl) (fun E ad cA C hG hI hE hk0 hn0 => ?_)
  refine Wx_lv (lv' := [(0, .ref 29)]) rfl ?_
  have had : ∀ k, k < 30 → wA (mkW (bX D) 30 ad cA) k = ad k := fun _ _ => rfl
  refine x_aload_n (i := 0) C dX9_init_0 rfl rfl ?_
  refine x_objInit C oiX9_3.1 oiX9_3.2.1 oiX9_3.2.2 (nle rfl) (nle rfl) dX9_init_1 ?_
  refine x_aload_n (i := 0) C dX9_init_4 rfl rfl ?_
  refine x_bipush C dX9_init_5 (by decide) ?_
  refine x_newarr (at0 := .int) (ty := .int) (q0 := 0) (nn := 55) (a0 := (55, .inl (fun _ => 0))) (kd := 1) (a := 1) (b := 55) C hG rfl acX_int (fun _ => rfl) (fun _ => rfl) rfl (by decide) rfl (nle rfl) (nle rfl) (rbX_S 30 shX rfl rfl (by decide +kernel)) rfl rfl (by rw [hk0]) (by rw [hn0]) (nle rfl) (nle rfl) dX9_init_7 (fun q c C => ?_)
  refine Wx_PH (fun H h => PX_num (k := 30) SB_dz (fun i => rfl) (fun i => rfl) (fun i => rfl) h) ?_
  show Wx _ _ _ (PX _ (dz 29 cz_X29)) _ _ [.ref 30, .ref 29]
  have hG := hG.k (a := 1) (b := 55)
  have hI := hI.k (a := 1) (b := 55)
  have hE := hE.k (a := 1) (b := 55)
  have had := had_up (q := q) (c := c) had (nle rfl)
  refine x_putF C hI (xkfX_X9_9 rfl rfl) (by first | exact Or.inl ⟨_, rfl⟩ | exact Or.inr ⟨_, rfl⟩) (nlt rfl) rfl dX9_init_9 ?_
  refine x_aload_n (i := 0) C dX9_init_12 rfl rfl ?_
  refine x_new (a := 2) (b := 60) C hG inX3 tyX3_ok rfl rfl nwX_X9_15.1 nwX_X9_15.2.1 nwX_X9_15.2.2 (fun j hj => by rcases (show j = 0 ∨ j = 1 ∨ j = 2 ∨ j = 3 ∨ j = 4 by omega) with rfl | rfl | rfl | rfl | rfl <;> rfl) (rbX_S 31 shX rfl rfl (by decide +kernel)) rfl rfl (by rw [eK.k]) (by rw [eN.k]) (nle rfl) (nle rfl) dX9_init_13 (fun q c C => ?_)
  show Wx _ _ _ (PX _ (dz 31 (upR (dz 29 cz_X29) 29 0 (some 30)))) _ _ [.ref 31, .ref 29]
  have hG := hG.k (a := 2) (b := 60)
  have hI := hI.k (a := 2) (b := 60)
  have hE := hE.k (a := 2) (b := 60)
  have had := had_up (q := q) (c := c) had (nle rfl)
  refine x_dup C dX9_init_16 rfl ?_
  refine x_callG (k := 31) (As := []) (a := 4) (b' := 68) C hG rfl ct_X31 (Or.inr ciX9_17) im_X3_init rfl rfl rfl (nle rfl) ⟨nle rfl, nle rfl⟩ rfl rfl (by rw [eK.k]) (by rw [eN.k]) (nle rfl) (nle rfl) dX9_init_17 (fun ad8 cA8 C hadk => ?_)
  have had : ∀ k, k < 30 → wA (mkW (bX D) 34 ad8 cA8) k = ad k := fun k hk => (hadk k (Nat.lt_of_lt_of_le hk (nle rfl))).trans (had k hk)
  clear hadk
  have hG := hG.k (a := 4) (b := 68)
  have hI := hI.k (a := 4) (b := 68)
  have hE := hE.k (a := 4) (b := 68)
  refine x_putF C hI (xkfX_X9_18 rfl rfl) (by first | exact Or.inl ⟨_, rfl⟩ | exact Or.inr ⟨_, rfl⟩) (nlt rfl) rfl dX9_init_20 ?_
  refine x_aload_n (i := 0) C dX9_init_23 rfl rfl ?_
  refine x_bipush C dX9_init_24 (by decide) ?_
  refine x_newarr (at0 := .int) (ty := .int) (q0 := 0) (nn := 9) (a0 := (9, .inl (fun _ => 0))) (kd := 1) (a := 5) (b := 77) C hG rfl acX_int (fun _ => rfl) (fun _ => rfl) rfl (by decide) rfl (nle rfl) (nle rfl) (rbX_S 34 shX rfl rfl (by decide +kernel)) rfl rfl (by rw [eK.k]) (by rw [eN.k]) (nle rfl) (nle rfl) dX9_init_26 (fun q c C => ?_)
  refine Wx_PH (fun H h => PX_num (k := 34) SB_dz (fun i => rfl) (fun i => rfl) (fun i => rfl) h) ?_
  show Wx _ _ _ (PX _ (upR (upR (dz 29 cz_X29) 29 0 (some 30)) 29 2 (some 31))) _ _ [.ref 34, .ref 29]
  have hG := hG.k (a := 5) (b := 77)
  have hI := hI.k (a := 5) (b := 77)
  have hE := hE.k (a := 5) (b := 77)
  have had := had_up (q := q) (c := c) had (nle rfl)
  refine x_putF C hI (xkfX_X9_22 rfl rfl) (by first | exact Or.inl ⟨_, rfl⟩ | exact Or.inr ⟨_, rfl⟩) (nlt rfl) rfl dX9_init_28 ?_
  refine x_aload_n (i := 0) C dX9_init_31 rfl rfl ?_
  refine x_bipush C dX9_init_32 (by decide) ?_
  refine x_newarr (at0 := .boolean) (ty := .boolean) (q0 := 0) (nn := 9) (a0 := (9, .inl (fun _ => 0))) (kd := 1) (a := 6) (b := 86) C hG rfl acX_boolean (fun _ => rfl) (fun _ => rfl) rfl (by decide) rfl (nle rfl) (nle rfl) (rbX_S 35 shX rfl rfl (by decide +kernel)) rfl rfl (by rw [eK.k]) (by rw [eN.k]) (nle rfl) (nle rfl) dX9_init_34 (fun q c C => ?_)
  refine Wx_PH (fun H h => PX_num (k := 35) SB_dz (fun i => rfl) (fun i => rfl) (fun i => rfl) h) ?_
  show Wx _ _ _ (PX _ (upR (upR (upR (dz 29 cz_X29) 29 0 (some 30)) 29 2 (some 31)) 29 3 (some 34))) _ _ [.ref 35, .ref 29]
  have hG := hG.k (a := 6) (b := 86)
  have hI := hI.k (a := 6) (b := 86)
  have hE := hE.k (a := 6) (b := 86)
  have had := had_up (q := q) (c := c) had (nle rfl)
  refine x_putF C hI (xkfX_X9_25 rfl rfl) (by first | exact Or.inl ⟨_, rfl⟩ | exact Or.inr ⟨_, rfl⟩) (nlt rfl) rfl dX9_init_36 ?_
  refine x_aload_n (i := 0) C dX9_init_39 rfl rfl ?_
  refine x_sipush C dX9_init_40 (by decide) ?_
  refine x_newarr (at0 := .int) (ty := .int) (q0 := 0) (nn := 1800) (a0 := (1800, .inl (fun _ => 0))) (kd := 1) (a := 7) (b := 1886) C hG rfl acX_int (fun _ => rfl) (fun _ => rfl) rfl (by decide) rfl (nle rfl) (nle rfl) (rbX_S 36 shX rfl rfl (by decide +kernel)) rfl rfl (by rw [eK.k]) (by rw [eN.k]) (nle rfl) (nle rfl) dX9_init_43 (fun q c C => ?_)
  refine Wx_PH (fun H h => PX_num (k := 36) SB_dz (fun i => rfl) (fun i => rfl) (fun i => rfl) h) ?_
  show Wx _ _ _ (PX _ (upR (upR (upR (upR (dz 29 cz_X29) 29 0 (some 30)) 29 2 (some 31)) 29 3 (some 34)) 29 4 (some 35))) _ _ [.ref 36, .ref 29]
  have hG := hG.k (a := 7) (b := 1886)
  have hI := hI.k (a := 7) (b := 1886)
  have hE := hE.k (a := 7) (b := 1886)
  have had := had_up (q := q) (c := c) had (nle rfl)
  refine x_putF C hI (xkfX_X9_29 rfl rfl) (by first | exact Or.inl ⟨_, rfl⟩ | exact Or.inr ⟨_, rfl⟩) (nlt rfl) rfl dX9_init_45 ?_
  refine x_aload_n (i := 0) C dX9_init_48 rfl rfl ?_
  refine x_sipush C dX9_init_49 (by decide) ?_
  refine x_newarr (at0 := .int) (ty := .int) (q0 := 0) (nn := 1800) (a0 := (1800, .inl (fun _ => 0))) (kd := 1) (a := 8) (b := 3686) C hG rfl acX_int (fun _ => rfl) (fun _ => rfl) rfl (by decide) rfl (nle rfl) (nle rfl) (rbX_S 37 shX rfl rfl (by decide +kernel)) rfl rfl (by rw [eK.k]) (by rw [eN.k]) (nle rfl) (nle rfl) dX9_init_52 (fun q c C => ?_)
  refine Wx_PH (fun H h => PX_num (k := 37) SB_dz (fun i => rfl) (fun i => rfl) (fun i => rfl) h) ?_
  show Wx _ _ _ (PX _ (upR (upR (upR (upR (upR (dz 29 cz_X29) 29 0 (some 30)) 29 2 (some 31)) 29 3 (some 34)) 29 4 (some 35)) 29 6 (some 36))) _ _ [.ref 37, .ref 29]
  have hG := hG.k (a := 8) (b := 3686)
  have hI := hI.k (a := 8) (b := 3686)
  have hE := hE.k (a := 8) (b := 3686)
  have had := had_up (q := q) (c := c) had (nle rfl)
  refine x_putF C hI (xkfX_X9_32 rfl rfl) (by first | exact Or.inl ⟨_, rfl⟩ | exact Or.inr ⟨_, rfl⟩) (nlt rfl) rfl dX9_init_54 ?_
  refine Wx_PH (fun H h => PX_many (Y := cz_X29) (sh := shX) [29] rfl (SL_upR rfl (SL_upR rfl (SL_upR rfl (SL_upR rfl (SL_upR rfl (SL_upR rfl (SL_dz rfl SL_rf))))))) (by decide +kernel) h) ?_
  exact x_vretG C rfl hE eK.k eN.k had dX9_init_57
def cz_X38 : XT := (upR (upR (upR (upR (dz 19 (upR (dz 0 x0X) 0 0 (some 1))) 0 1 (some 19)) 0 2 (some 20)) 0 3 (some 21)) 0 4 (some 29))
def cz_X40 : XT := (dz 39 (dz 38 cz_X38))
set_option maxHeartbeats 4000000 in
set_option maxRecDepth 100000 in
theorem ct_X40 {D : va_G} : MetG (bX D) yX0_init cX0_init 1 1 30 2 12 [.ref 40] 41 43 (dz 40 cz_X40) cz_X40 := by
  refine MetG.mk (own := RX0) (by decide +kernel) rfl rfl (nle rfl) (fun E ad cA C hG hI hE hk0 hn0 => ?_)
  refine Wx_lv (lv' := [(0, .ref 40)]) rfl ?_
  have had : ∀ k, k < 41 → wA (mkW (bX D) 41 ad cA) k = ad k := fun _ _ => rfl
  refine x_aload_n (i := 0) C dX0_init_0 rfl rfl ?_
  refine x_objInit C oiX0_3.1 oiX0_3.2.1 oiX0_3.2.2 (nle rfl) (nle rfl) dX0_init_1 ?_
  refine x_aload_n (i := 0) C dX0_init_4 rfl rfl ?_
  refine x_bipush C dX0_init_5 (by decide) ?_
  refine x_newarr (at0 := .int) (ty := .int) (q0 := 0) (nn := 6) (a0 := (6, .inl (fun _ => 0))) (kd := 1) (a := 1) (b := 6) C hG rfl acX_int (fun _ => rfl) (fun _ => rfl) rfl (by decide) rfl (nle rfl) (nle rfl) (rbX_S 41 shX rfl rfl (by decide +kernel)) rfl rfl (by rw [hk0]) (by rw [hn0]) (nle rfl) (nle rfl) dX0_init_7 (fun q c C => ?_)
  refine Wx_PH (fun H h => PX_num (k := 41) SB_dz (fun i => rfl) (fun i => rfl) (fun i => rfl) h) ?_
  show Wx _ _ _ (PX _ (dz 40 cz_X40)) _ _ [.ref 41, .ref 40]
  have hG := hG.k (a := 1) (b := 6)
  have hI := hI.k (a := 1) (b := 6)
  have hE := hE.k (a := 1) (b := 6)
  have had := had_up (q := q) (c := c) had (nle rfl)
  refine x_putF C hI (xkfX_X0_9 rfl rfl) (by first | exact Or.inl ⟨_, rfl⟩ | exact Or.inr ⟨_, rfl⟩) (nlt rfl) rfl dX0_init_9 ?_
  refine x_aload_n (i := 0) C dX0_init_12 rfl rfl ?_
  refine x_bipush C dX0_init_13 (by decide) ?_
  refine x_newarr (at0 := .int) (ty := .int) (q0 := 0) (nn := 6) (a0 := (6, .inl (fun _ => 0))) (kd := 1) (a := 2) (b := 12) C hG rfl acX_int (fun _ => rfl) (fun _ => rfl) rfl (by decide) rfl (nle rfl) (nle rfl) (rbX_S 42 shX rfl rfl (by decide +kernel)) rfl rfl (by rw [eK.k]) (by rw [eN.k]) (nle rfl) (nle rfl) dX0_init_15 (fun q c C => ?_)
  refine Wx_PH (fun H h => PX_num (k := 42) SB_dz (fun i => rfl) (fun i => rfl) (fun i => rfl) h) ?_
  show Wx _ _ _ (PX _ (upR (dz 40 cz_X40) 40 5 (some 41))) _ _ [.ref 42, .ref 40]
  have hG := hG.k (a := 2) (b := 12)
  have hI := hI.k (a := 2) (b := 12)
  have hE := hE.k (a := 2) (b := 12)
  have had := had_up (q := q) (c := c) had (nle rfl)
  refine x_putF C hI (xkfX_X0_15 rfl rfl) (by first | exact Or.inl ⟨_, rfl⟩ | exact Or.inr ⟨_, rfl⟩) (nlt rfl) rfl dX0_init_17 ?_
  refine Wx_PH (fun H h => PX_many (Y := cz_X40) (sh := shX) [40] rfl (SL_upR rfl (SL_upR rfl (SL_dz rfl SL_rf))) (by decide +kernel) h) ?_
  exact x_vretG C rfl hE eK.k eN.k had dX0_init_20
def cz_X39 : XT := (dz 38 cz_X38)
set_option maxHeartbeats 4000000 in
set_option maxRecDepth 100000 in
theorem ct_X39 {D : va_G} : MetG (bX D) yX7_init cX7_init 2 1 30 2 8 [.ref 39, .ref 40] 43 45 (dz 39 cz_X39) cz_X39 := by
  refine MetG.mk (own := RX7) (by decide +kernel) rfl rfl (nle rfl) (fun E ad cA C hG hI hE hk0 hn0 => ?_)
  refine Wx_lv (lv' := [(0, .ref 39), (1, .ref 40)]) rfl ?_
  have had : ∀ k, k < 43 → wA (mkW (bX D) 43 ad cA) k = ad k := fun _ _ => rfl
  refine x_aload_n (i := 0) C dX7_init_0 rfl rfl ?_
  refine x_objInit C oiX7_3.1 oiX7_3.2.1 oiX7_3.2.2 (nle rfl) (nle rfl) dX7_init_1 ?_
  refine x_aload_n (i := 0) C dX7_init_4 rfl rfl ?_
  refine x_bipush C dX7_init_5 (by decide) ?_
  refine x_newarr (at0 := .int) (ty := .int) (q0 := 0) (nn := 6) (a0 := (6, .inl (fun _ => 0))) (kd := 1) (a := 1) (b := 6) C hG rfl acX_int (fun _ => rfl) (fun _ => rfl) rfl (by decide) rfl (nle rfl) (nle rfl) (rbX_S 43 shX rfl rfl (by decide +kernel)) rfl rfl (by rw [hk0]) (by rw [hn0]) (nle rfl) (nle rfl) dX7_init_7 (fun q c C => ?_)
  refine Wx_PH (fun H h => PX_num (k := 43) SB_dz (fun i => rfl) (fun i => rfl) (fun i => rfl) h) ?_
  show Wx _ _ _ (PX _ (dz 39 cz_X39)) _ _ [.ref 43, .ref 39]
  have hG := hG.k (a := 1) (b := 6)
  have hI := hI.k (a := 1) (b := 6)
  have hE := hE.k (a := 1) (b := 6)
  have had := had_up (q := q) (c := c) had (nle rfl)
  refine x_putF C hI (xkfX_X7_9 rfl rfl) (by first | exact Or.inl ⟨_, rfl⟩ | exact Or.inr ⟨_, rfl⟩) (nlt rfl) rfl dX7_init_9 ?_
  refine x_aload_n (i := 0) C dX7_init_12 rfl rfl ?_
  refine x_iconst C dX7_init_13 ?_
  refine x_newarr (at0 := .int) (ty := .int) (q0 := 0) (nn := 2) (a0 := (2, .inl (fun _ => 0))) (kd := 1) (a := 2) (b := 8) C hG rfl acX_int (fun _ => rfl) (fun _ => rfl) rfl (by decide) rfl (nle rfl) (nle rfl) (rbX_S 44 shX rfl rfl (by decide +kernel)) rfl rfl (by rw [eK.k]) (by rw [eN.k]) (nle rfl) (nle rfl) dX7_init_14 (fun q c C => ?_)
  refine Wx_PH (fun H h => PX_num (k := 44) SB_dz (fun i => rfl) (fun i => rfl) (fun i => rfl) h) ?_
  show Wx _ _ _ (PX _ (upR (dz 39 cz_X39) 39 3 (some 43))) _ _ [.ref 44, .ref 39]
  have hG := hG.k (a := 2) (b := 8)
  have hI := hI.k (a := 2) (b := 8)
  have hE := hE.k (a := 2) (b := 8)
  have had := had_up (q := q) (c := c) had (nle rfl)
  refine x_putF C hI (xkfX_X7_15 rfl rfl) (by first | exact Or.inl ⟨_, rfl⟩ | exact Or.inr ⟨_, rfl⟩) (nlt rfl) rfl dX7_init_16 ?_
  refine x_aload_n (i := 0) C dX7_init_19 rfl rfl ?_
  refine x_aload_n (i := 1) C dX7_init_20 rfl rfl ?_
  refine x_putR C (xkpX_X7_18 rfl rfl) (by first | exact Or.inl ⟨_, rfl⟩ | exact Or.inr ⟨_, rfl⟩) (nlt rfl) rfl dX7_init_21 ?_
  refine Wx_PH (fun H h => PX_many (Y := cz_X39) (sh := shX) [39] rfl (SL_upR rfl (SL_upR rfl (SL_upR rfl (SL_dz rfl SL_rf)))) (by decide +kernel) h) ?_
  exact x_vretG C rfl hE eK.k eN.k had dX7_init_24
def cz_X45 : XT := (upR (dz 38 cz_X38) 38 0 (some 39))
set_option maxHeartbeats 4000000 in
set_option maxRecDepth 100000 in
theorem ct_X45 {D : va_G} : MetG (bX D) yX3_init cX3_init 1 1 30 2 8 [.ref 45] 46 48 (dz 45 cz_X45) cz_X45 := by
  refine MetG.mk (own := RX3) (by decide +kernel) rfl rfl (nle rfl) (fun E ad cA C hG hI hE hk0 hn0 => ?_)
  refine Wx_lv (lv' := [(0, .ref 45)]) rfl ?_
  have had : ∀ k, k < 46 → wA (mkW (bX D) 46 ad cA) k = ad k := fun _ _ => rfl
  refine x_aload_n (i := 0) C dX3_init_0 rfl rfl ?_
  refine x_objInit C oiX3_3.1 oiX3_3.2.1 oiX3_3.2.2 (nle rfl) (nle rfl) dX3_init_1 ?_
  refine x_aload_n (i := 0) C dX3_init_4 rfl rfl ?_
  refine x_iconst C dX3_init_5 ?_
  refine x_newarr (at0 := .long) (ty := .long) (q0 := 0) (nn := 4) (a0 := (4, .inr (.inl (fun _ => 0)))) (kd := 2) (a := 1) (b := 4) C hG rfl acX_long (fun _ => rfl) (fun _ => rfl) rfl (by decide) rfl (nle rfl) (nle rfl) (rbX_S 46 shX rfl rfl (by decide +kernel)) rfl rfl (by rw [hk0]) (by rw [hn0]) (nle rfl) (nle rfl) dX3_init_6 (fun q c C => ?_)
  refine Wx_PH (fun H h => PX_num (k := 46) SB_dz (fun i => rfl) (fun i => rfl) (fun i => rfl) h) ?_
  show Wx _ _ _ (PX _ (dz 45 cz_X45)) _ _ [.ref 46, .ref 45]
  have hG := hG.k (a := 1) (b := 4)
  have hI := hI.k (a := 1) (b := 4)
  have hE := hE.k (a := 1) (b := 4)
  have had := had_up (q := q) (c := c) had (nle rfl)
  refine x_putF C hI (xkfX_X3_9 rfl rfl) (by first | exact Or.inl ⟨_, rfl⟩ | exact Or.inr ⟨_, rfl⟩) (nlt rfl) rfl dX3_init_8 ?_
  refine x_aload_n (i := 0) C dX3_init_11 rfl rfl ?_
  refine x_iconst C dX3_init_12 ?_
  refine x_newarr (at0 := .int) (ty := .int) (q0 := 0) (nn := 4) (a0 := (4, .inl (fun _ => 0))) (kd := 1) (a := 2) (b := 8) C hG rfl acX_int (fun _ => rfl) (fun _ => rfl) rfl (by decide) rfl (nle rfl) (nle rfl) (rbX_S 47 shX rfl rfl (by decide +kernel)) rfl rfl (by rw [eK.k]) (by rw [eN.k]) (nle rfl) (nle rfl) dX3_init_13 (fun q c C => ?_)
  refine Wx_PH (fun H h => PX_num (k := 47) SB_dz (fun i => rfl) (fun i => rfl) (fun i => rfl) h) ?_
  show Wx _ _ _ (PX _ (upR (dz 45 cz_X45) 45 0 (some 46))) _ _ [.ref 47, .ref 45]
  have hG := hG.k (a := 2) (b := 8)
  have hI := hI.k (a := 2) (b := 8)
  have hE := hE.k (a := 2) (b := 8)
  have had := had_up (q := q) (c := c) had (nle rfl)
  refine x_putF C hI (xkfX_X3_15 rfl rfl) (by first | exact Or.inl ⟨_, rfl⟩ | exact Or.inr ⟨_, rfl⟩) (nlt rfl) rfl dX3_init_15 ?_
  refine Wx_PH (fun H h => PX_many (Y := cz_X45) (sh := shX) [45] rfl (SL_upR rfl (SL_upR rfl (SL_dz rfl SL_rf))) (by decide +kernel) h) ?_
  exact x_vretG C rfl hE eK.k eN.k had dX3_init_18
def cz_X49 : XT := (dz 48 (upR (upR (dz 38 cz_X38) 38 0 (some 39)) 38 1 (some 45)))
set_option maxHeartbeats 4000000 in
set_option maxRecDepth 100000 in
theorem ct_X49 {D : va_G} : MetG (bX D) yX10_init cX10_init 2 1 30 2 10 [.ref 49, .null] 50 52 (dz 49 cz_X49) cz_X49 := by
  refine MetG.mk (own := RX10) (by decide +kernel) rfl rfl (nle rfl) (fun E ad cA C hG hI hE hk0 hn0 => ?_)
  refine Wx_lv (lv' := [(0, .ref 49), (1, .null)]) rfl ?_
  have had : ∀ k, k < 50 → wA (mkW (bX D) 50 ad cA) k = ad k := fun _ _ => rfl
  refine x_aload_n (i := 0) C dX10_init_0 rfl rfl ?_
  refine x_objInit C oiX10_3.1 oiX10_3.2.1 oiX10_3.2.2 (nle rfl) (nle rfl) dX10_init_1 ?_
  refine x_aload_n (i := 0) C dX10_init_4 rfl rfl ?_
  refine x_iconst C dX10_init_5 ?_
  refine x_newarr (at0 := .long) (ty := .long) (q0 := 0) (nn := 5) (a0 := (5, .inr (.inl (fun _ => 0)))) (kd := 2) (a := 1) (b := 5) C hG rfl acX_long (fun _ => rfl) (fun _ => rfl) rfl (by decide) rfl (nle rfl) (nle rfl) (rbX_S 50 shX rfl rfl (by decide +kernel)) rfl rfl (by rw [hk0]) (by rw [hn0]) (nle rfl) (nle rfl) dX10_init_6 (fun q c C => ?_)
  refine Wx_PH (fun H h => PX_num (k := 50) SB_dz (fun i => rfl) (fun i => rfl) (fun i => rfl) h) ?_
  show Wx _ _ _ (PX _ (dz 49 cz_X49)) _ _ [.ref 50, .ref 49]
  have hG := hG.k (a := 1) (b := 5)
  have hI := hI.k (a := 1) (b := 5)
  have hE := hE.k (a := 1) (b := 5)
  have had := had_up (q := q) (c := c) had (nle rfl)
  refine x_putF C hI (xkfX_X10_9 rfl rfl) (by first | exact Or.inl ⟨_, rfl⟩ | exact Or.inr ⟨_, rfl⟩) (nlt rfl) rfl dX10_init_8 ?_
  refine x_aload_n (i := 0) C dX10_init_11 rfl rfl ?_
  refine x_iconst C dX10_init_12 ?_
  refine x_newarr (at0 := .long) (ty := .long) (q0 := 0) (nn := 5) (a0 := (5, .inr (.inl (fun _ => 0)))) (kd := 2) (a := 2) (b := 10) C hG rfl acX_long (fun _ => rfl) (fun _ => rfl) rfl (by decide) rfl (nle rfl) (nle rfl) (rbX_S 51 shX rfl rfl (by decide +kernel)) rfl rfl (by rw [eK.k]) (by rw [eN.k]) (nle rfl) (nle rfl) dX10_init_13 (fun q c C => ?_)
  refine Wx_PH (fun H h => PX_num (k := 51) SB_dz (fun i => rfl) (fun i => rfl) (fun i => rfl) h) ?_
  show Wx _ _ _ (PX _ (upR (dz 49 cz_X49) 49 0 (some 50))) _ _ [.ref 51, .ref 49]
  have hG := hG.k (a := 2) (b := 10)
  have hI := hI.k (a := 2) (b := 10)
  have hE := hE.k (a := 2) (b := 10)
  have had := had_up (q := q) (c := c) had (nle rfl)
  refine x_putF C hI (xkfX_X10_15 rfl rfl) (by first | exact Or.inl ⟨_, rfl⟩ | exact Or.inr ⟨_, rfl⟩) (nlt rfl) rfl dX10_init_15 ?_
  refine x_aload_n (i := 0) C dX10_init_18 rfl rfl ?_
  refine x_iconst C dX10_init_19 ?_
  refine x_putI C (xkpX_X10_18 rfl rfl) (nlt rfl) rfl dX10_init_20 ?_
  refine x_aload_n (i := 0) C dX10_init_23 rfl rfl ?_
  refine x_aload_nN (i := 1) C dX10_init_24 rfl rfl ?_
  refine x_putN C hI (xkfX_X10_22 rfl rfl) (by first | exact Or.inl ⟨_, rfl⟩ | exact Or.inr ⟨_, rfl⟩) (nlt rfl) rfl dX10_init_25 ?_
  refine Wx_PH (fun H h => PX_many (Y := cz_X49) (sh := shX) [49] rfl (SL_upR rfl (SL_upI rfl (SL_upR rfl (SL_upR rfl (SL_dz rfl SL_rf))))) (by decide +kernel) h) ?_
  exact x_vretG C rfl hE eK.k eN.k had dX10_init_28
def cz_X48 : XT := (upR (upR (dz 38 cz_X38) 38 0 (some 39)) 38 1 (some 45))
set_option maxHeartbeats 4000000 in
set_option maxRecDepth 100000 in
theorem ct_X48 {D : va_G} : MetG (bX D) yX10_init cX10_init 2 1 30 2 10 [.ref 48, .ref 49] 52 54 (dz 48 cz_X48) cz_X48 := by
  refine MetG.mk (own := RX10) (by decide +kernel) rfl rfl (nle rfl) (fun E ad cA C hG hI hE hk0 hn0 => ?_)
  refine Wx_lv (lv' := [(0, .ref 48), (1, .ref 49)]) rfl ?_
  have had : ∀ k, k < 52 → wA (mkW (bX D) 52 ad cA) k = ad k := fun _ _ => rfl
  refine x_aload_n (i := 0) C dX10_init_0 rfl rfl ?_
  refine x_objInit C oiX10_3.1 oiX10_3.2.1 oiX10_3.2.2 (nle rfl) (nle rfl) dX10_init_1 ?_
  refine x_aload_n (i := 0) C dX10_init_4 rfl rfl ?_
  refine x_iconst C dX10_init_5 ?_
  refine x_newarr (at0 := .long) (ty := .long) (q0 := 0) (nn := 5) (a0 := (5, .inr (.inl (fun _ => 0)))) (kd := 2) (a := 1) (b := 5) C hG rfl acX_long (fun _ => rfl) (fun _ => rfl) rfl (by decide) rfl (nle rfl) (nle rfl) (rbX_S 52 shX rfl rfl (by decide +kernel)) rfl rfl (by rw [hk0]) (by rw [hn0]) (nle rfl) (nle rfl) dX10_init_6 (fun q c C => ?_)
  refine Wx_PH (fun H h => PX_num (k := 52) SB_dz (fun i => rfl) (fun i => rfl) (fun i => rfl) h) ?_
  show Wx _ _ _ (PX _ (dz 48 cz_X48)) _ _ [.ref 52, .ref 48]
  have hG := hG.k (a := 1) (b := 5)
  have hI := hI.k (a := 1) (b := 5)
  have hE := hE.k (a := 1) (b := 5)
  have had := had_up (q := q) (c := c) had (nle rfl)
  refine x_putF C hI (xkfX_X10_9 rfl rfl) (by first | exact Or.inl ⟨_, rfl⟩ | exact Or.inr ⟨_, rfl⟩) (nlt rfl) rfl dX10_init_8 ?_
  refine x_aload_n (i := 0) C dX10_init_11 rfl rfl ?_
  refine x_iconst C dX10_init_12 ?_
  refine x_newarr (at0 := .long) (ty := .long) (q0 := 0) (nn := 5) (a0 := (5, .inr (.inl (fun _ => 0)))) (kd := 2) (a := 2) (b := 10) C hG rfl acX_long (fun _ => rfl) (fun _ => rfl) rfl (by decide) rfl (nle rfl) (nle rfl) (rbX_S 53 shX rfl rfl (by decide +kernel)) rfl rfl (by rw [eK.k]) (by rw [eN.k]) (nle rfl) (nle rfl) dX10_init_13 (fun q c C => ?_)
  refine Wx_PH (fun H h => PX_num (k := 53) SB_dz (fun i => rfl) (fun i => rfl) (fun i => rfl) h) ?_
  show Wx _ _ _ (PX _ (upR (dz 48 cz_X48) 48 0 (some 52))) _ _ [.ref 53, .ref 48]
  have hG := hG.k (a := 2) (b := 10)
  have hI := hI.k (a := 2) (b := 10)
  have hE := hE.k (a := 2) (b := 10)
  have had := had_up (q := q) (c := c) had (nle rfl)
  refine x_putF C hI (xkfX_X10_15 rfl rfl) (by first | exact Or.inl ⟨_, rfl⟩ | exact Or.inr ⟨_, rfl⟩) (nlt rfl) rfl dX10_init_15 ?_
  refine x_aload_n (i := 0) C dX10_init_18 rfl rfl ?_
  refine x_iconst C dX10_init_19 ?_
  refine x_putI C (xkpX_X10_18 rfl rfl) (nlt rfl) rfl dX10_init_20 ?_
  refine x_aload_n (i := 0) C dX10_init_23 rfl rfl ?_
  refine x_aload_n (i := 1) C dX10_init_24 rfl rfl ?_
  refine x_putF C hI (xkfX_X10_22 rfl rfl) (by first | exact Or.inl ⟨_, rfl⟩ | exact Or.inr ⟨_, rfl⟩) (nlt rfl) rfl dX10_init_25 ?_
  refine Wx_PH (fun H h => PX_many (Y := cz_X48) (sh := shX) [48] rfl (SL_upR rfl (SL_upI rfl (SL_upR rfl (SL_upR rfl (SL_dz rfl SL_rf))))) (by decide +kernel) h) ?_
  exact x_vretG C rfl hE eK.k eN.k had dX10_init_28
set_option maxHeartbeats 4000000 in
set_option maxRecDepth 100000 in
theorem ct_X38 {D : va_G} : MetG (bX D) yX5_init cX5_init 1 2 51 15 75 [.ref 38] 39 54 (dz 38 cz_X38) cz_X38 := by
  refine MetG.mk (own := RX5) (by decide +kernel) rfl rfl (nle rfl) (fun E ad cA C hG hI hE hk0 hn0 => ?_)
  refine Wx_lv (lv' := [(0, .ref 38)]) rfl ?_
  have had : ∀ k, k < 39 → wA (mkW (bX D) 39 ad cA) k = ad k := fun _ _ => rfl
  refine x_aload_n (i := 0) C dX5_init_0 rfl rfl ?_
  refine x_objInit C oiX5_3.1 oiX5_3.2.1 oiX5_3.2.2 (nle rfl) (nle rfl) dX5_init_1 ?_
  refine x_aload_n (i := 0) C dX5_init_4 rfl rfl ?_
  refine x_new (a := 1) (b := 5) C hG inX7 tyX7_ok rfl rfl nwX_X5_9.1 nwX_X5_9.2.1 nwX_X5_9.2.2 (fun j hj => by rcases (show j = 0 ∨ j = 1 ∨ j = 2 ∨ j = 3 ∨ j = 4 by omega) with rfl | rfl | rfl | rfl | rfl <;> rfl) (rbX_S 39 shX rfl rfl (by decide +kernel)) rfl rfl (by rw [hk0]) (by rw [hn0]) (nle rfl) (nle rfl) dX5_init_5 (fun q c C => ?_)
  show Wx _ _ _ (PX _ (dz 39 (dz 38 cz_X38))) _ _ [.ref 39, .ref 38]
  have hG := hG.k (a := 1) (b := 5)
  have hI := hI.k (a := 1) (b := 5)
  have hE := hE.k (a := 1) (b := 5)
  have had := had_up (q := q) (c := c) had (nle rfl)
  refine x_dup C dX5_init_8 rfl ?_
  refine x_new (a := 2) (b := 12) C hG inX0 tyX0_ok rfl rfl nwX_X5_11.1 nwX_X5_11.2.1 nwX_X5_11.2.2 (fun j hj => by rcases (show j = 0 ∨ j = 1 ∨ j = 2 ∨ j = 3 ∨ j = 4 ∨ j = 5 ∨ j = 6 by omega) with rfl | rfl | rfl | rfl | rfl | rfl | rfl <;> rfl) (rbX_S 40 shX rfl rfl (by decide +kernel)) rfl rfl (by rw [eK.k]) (by rw [eN.k]) (nle rfl) (nle rfl) dX5_init_9 (fun q c C => ?_)
  show Wx _ _ _ (PX _ (dz 40 (dz 39 (dz 38 cz_X38)))) _ _ [.ref 40, .ref 39, .ref 39, .ref 38]
  have hG := hG.k (a := 2) (b := 12)
  have hI := hI.k (a := 2) (b := 12)
  have hE := hE.k (a := 2) (b := 12)
  have had := had_up (q := q) (c := c) had (nle rfl)
  refine x_dup C dX5_init_12 rfl ?_
  refine x_callG (k := 40) (As := []) (a := 4) (b' := 24) C hG rfl ct_X40 (Or.inr ciX5_13) im_X0_init rfl rfl rfl (nle rfl) ⟨nle rfl, nle rfl⟩ rfl rfl (by rw [eK.k]) (by rw [eN.k]) (nle rfl) (nle rfl) dX5_init_13 (fun ad10 cA10 C hadk => ?_)
  have had : ∀ k, k < 39 → wA (mkW (bX D) 43 ad10 cA10) k = ad k := fun k hk => (hadk k (Nat.lt_of_lt_of_le hk (nle rfl))).trans (had k hk)
  clear hadk
  have hG := hG.k (a := 4) (b := 24)
  have hI := hI.k (a := 4) (b := 24)
  have hE := hE.k (a := 4) (b := 24)
  refine x_callG (host := "") (k := 39) (As := [.ref 40]) (a := 6) (b' := 32) C hG rfl ct_X39 (Or.inl (show CKB RX5 14 yX7_init cX7_init 2 none 1 from ckX5_14)) im_X7_init rfl rfl rfl (nle rfl) ⟨nle rfl, nle rfl⟩ rfl rfl (by rw [eK.k]) (by rw [eN.k]) (nle rfl) (nle rfl) dX5_init_16 (fun ad11 cA11 C hadk => ?_)
  have had : ∀ k, k < 39 → wA (mkW (bX D) 45 ad11 cA11) k = ad k := fun k hk => (hadk k (Nat.lt_of_lt_of_le hk (nle rfl))).trans (had k hk)
  clear hadk
  have hG := hG.k (a := 6) (b := 32)
  have hI := hI.k (a := 6) (b := 32)
  have hE := hE.k (a := 6) (b := 32)
  refine x_putF C hI (xkfX_X5_17 rfl rfl) (by first | exact Or.inl ⟨_, rfl⟩ | exact Or.inr ⟨_, rfl⟩) (nlt rfl) rfl dX5_init_19 ?_
  refine x_aload_n (i := 0) C dX5_init_22 rfl rfl ?_
  refine x_new (a := 7) (b := 37) C hG inX3 tyX3_ok rfl rfl nwX_X5_23.1 nwX_X5_23.2.1 nwX_X5_23.2.2 (fun j hj => by rcases (show j = 0 ∨ j = 1 ∨ j = 2 ∨ j = 3 ∨ j = 4 by omega) with rfl | rfl | rfl | rfl | rfl <;> rfl) (rbX_S 45 shX rfl rfl (by decide +kernel)) rfl rfl (by rw [eK.k]) (by rw [eN.k]) (nle rfl) (nle rfl) dX5_init_23 (fun q c C => ?_)
  show Wx _ _ _ (PX _ (dz 45 (upR (dz 38 cz_X38) 38 0 (some 39)))) _ _ [.ref 45, .ref 38]
  have hG := hG.k (a := 7) (b := 37)
  have hI := hI.k (a := 7) (b := 37)
  have hE := hE.k (a := 7) (b := 37)
  have had := had_up (q := q) (c := c) had (nle rfl)
  refine x_dup C dX5_init_26 rfl ?_
  refine x_callG (k := 45) (As := []) (a := 9) (b' := 45) C hG rfl ct_X45 (Or.inr ciX5_25) im_X3_init rfl rfl rfl (nle rfl) ⟨nle rfl, nle rfl⟩ rfl rfl (by rw [eK.k]) (by rw [eN.k]) (nle rfl) (nle rfl) dX5_init_27 (fun ad12 cA12 C hadk => ?_)
  have had : ∀ k, k < 39 → wA (mkW (bX D) 48 ad12 cA12) k = ad k := fun k hk => (hadk k (Nat.lt_of_lt_of_le hk (nle rfl))).trans (had k hk)
  clear hadk
  have hG := hG.k (a := 9) (b := 45)
  have hI := hI.k (a := 9) (b := 45)
  have hE := hE.k (a := 9) (b := 45)
  refine x_putF C hI (xkfX_X5_26 rfl rfl) (by first | exact Or.inl ⟨_, rfl⟩ | exact Or.inr ⟨_, rfl⟩) (nlt rfl) rfl dX5_init_30 ?_
  refine x_aload_n (i := 0) C dX5_init_33 rfl rfl ?_
  refine x_new (a := 10) (b := 50) C hG inX10 tyX10_ok rfl rfl nwX_X5_30.1 nwX_X5_30.2.1 nwX_X5_30.2.2 (fun j hj => by rcases (show j = 0 ∨ j = 1 ∨ j = 2 ∨ j = 3 ∨ j = 4 by omega) with rfl | rfl | rfl | rfl | rfl <;> rfl) (rbX_S 48 shX rfl rfl (by decide +kernel)) rfl rfl (by rw [eK.k]) (by rw [eN.k]) (nle rfl) (nle rfl) dX5_init_34 (fun q c C => ?_)
  show Wx _ _ _ (PX _ (dz 48 (upR (upR (dz 38 cz_X38) 38 0 (some 39)) 38 1 (some 45)))) _ _ [.ref 48, .ref 38]
  have hG := hG.k (a := 10) (b := 50)
  have hI := hI.k (a := 10) (b := 50)
  have hE := hE.k (a := 10) (b := 50)
  have had := had_up (q := q) (c := c) had (nle rfl)
  refine x_dup C dX5_init_37 rfl ?_
  refine x_new (a := 11) (b := 55) C hG inX10 tyX10_ok rfl rfl nwX_X5_30.1 nwX_X5_30.2.1 nwX_X5_30.2.2 (fun j hj => by rcases (show j = 0 ∨ j = 1 ∨ j = 2 ∨ j = 3 ∨ j = 4 by omega) with rfl | rfl | rfl | rfl | rfl <;> rfl) (rbX_S 49 shX rfl rfl (by decide +kernel)) rfl rfl (by rw [eK.k]) (by rw [eN.k]) (nle rfl) (nle rfl) dX5_init_38 (fun q c C => ?_)
  show Wx _ _ _ (PX _ (dz 49 (dz 48 (upR (upR (dz 38 cz_X38) 38 0 (some 39)) 38 1 (some 45))))) _ _ [.ref 49, .ref 48, .ref 48, .ref 38]
  have hG := hG.k (a := 11) (b := 55)
  have hI := hI.k (a := 11) (b := 55)
  have hE := hE.k (a := 11) (b := 55)
  have had := had_up (q := q) (c := c) had (nle rfl)
  refine x_dup C dX5_init_41 rfl ?_
  refine x_null C dX5_init_42 ?_
  refine x_callG (host := "") (k := 49) (As := [.null]) (a := 13) (b' := 65) C hG rfl ct_X49 (Or.inl (show CKB RX5 32 yX10_init cX10_init 2 none 1 from ckX5_32)) im_X10_init rfl rfl rfl (nle rfl) ⟨nle rfl, nle rfl⟩ rfl rfl (by rw [eK.k]) (by rw [eN.k]) (nle rfl) (nle rfl) dX5_init_43 (fun ad13 cA13 C hadk => ?_)
  have had : ∀ k, k < 39 → wA (mkW (bX D) 52 ad13 cA13) k = ad k := fun k hk => (hadk k (Nat.lt_of_lt_of_le hk (nle rfl))).trans (had k hk)
  clear hadk
  have hG := hG.k (a := 13) (b := 65)
  have hI := hI.k (a := 13) (b := 65)
  have hE := hE.k (a := 13) (b := 65)
  refine x_callG (host := "") (k := 48) (As := [.ref 49]) (a := 15) (b' := 75) C hG rfl ct_X48 (Or.inl (show CKB RX5 32 yX10_init cX10_init 2 none 1 from ckX5_32)) im_X10_init rfl rfl rfl (nle rfl) ⟨nle rfl, nle rfl⟩ rfl rfl (by rw [eK.k]) (by rw [eN.k]) (nle rfl) (nle rfl) dX5_init_46 (fun ad14 cA14 C hadk => ?_)
  have had : ∀ k, k < 39 → wA (mkW (bX D) 54 ad14 cA14) k = ad k := fun k hk => (hadk k (Nat.lt_of_lt_of_le hk (nle rfl))).trans (had k hk)
  clear hadk
  have hG := hG.k (a := 15) (b := 75)
  have hI := hI.k (a := 15) (b := 75)
  have hE := hE.k (a := 15) (b := 75)
  refine x_putF C hI (xkfX_X5_35 rfl rfl) (by first | exact Or.inl ⟨_, rfl⟩ | exact Or.inr ⟨_, rfl⟩) (nlt rfl) rfl dX5_init_49 ?_
  refine Wx_PH (fun H h => PX_many (Y := cz_X38) (sh := shX) [38] rfl (SL_upR rfl (SL_upR rfl (SL_upR rfl (SL_dz rfl SL_rf)))) (by decide +kernel) h) ?_
  exact x_vretG C rfl hE eK.k eN.k had dX5_init_52
def cz_X54 : XT := (upR (upR (upR (upR (upR (dz 19 (upR (dz 0 x0X) 0 0 (some 1))) 0 1 (some 19)) 0 2 (some 20)) 0 3 (some 21)) 0 4 (some 29)) 0 5 (some 38))
def cz_X55 : XT := (dz 54 cz_X54)
def cz_X56 : XT := (dz 55 cz_X55)
set_option maxHeartbeats 4000000 in
set_option maxRecDepth 100000 in
theorem ct_X56 {D : va_G} : MetG (bX D) yX3_init cX3_init 1 1 30 2 8 [.ref 56] 57 59 (dz 56 cz_X56) cz_X56 := by
  refine MetG.mk (own := RX3) (by decide +kernel) rfl rfl (nle rfl) (fun E ad cA C hG hI hE hk0 hn0 => ?_)
  refine Wx_lv (lv' := [(0, .ref 56)]) rfl ?_
  have had : ∀ k, k < 57 → wA (mkW (bX D) 57 ad cA) k = ad k := fun _ _ => rfl
  refine x_aload_n (i := 0) C dX3_init_0 rfl rfl ?_
  refine x_objInit C oiX3_3.1 oiX3_3.2.1 oiX3_3.2.2 (nle rfl) (nle rfl) dX3_init_1 ?_
  refine x_aload_n (i := 0) C dX3_init_4 rfl rfl ?_
  refine x_iconst C dX3_init_5 ?_
  refine x_newarr (at0 := .long) (ty := .long) (q0 := 0) (nn := 4) (a0 := (4, .inr (.inl (fun _ => 0)))) (kd := 2) (a := 1) (b := 4) C hG rfl acX_long (fun _ => rfl) (fun _ => rfl) rfl (by decide) rfl (nle rfl) (nle rfl) (rbX_S 57 shX rfl rfl (by decide +kernel)) rfl rfl (by rw [hk0]) (by rw [hn0]) (nle rfl) (nle rfl) dX3_init_6 (fun q c C => ?_)
  refine Wx_PH (fun H h => PX_num (k := 57) SB_dz (fun i => rfl) (fun i => rfl) (fun i => rfl) h) ?_
  show Wx _ _ _ (PX _ (dz 56 cz_X56)) _ _ [.ref 57, .ref 56]
  have hG := hG.k (a := 1) (b := 4)
  have hI := hI.k (a := 1) (b := 4)
  have hE := hE.k (a := 1) (b := 4)
  have had := had_up (q := q) (c := c) had (nle rfl)
  refine x_putF C hI (xkfX_X3_9 rfl rfl) (by first | exact Or.inl ⟨_, rfl⟩ | exact Or.inr ⟨_, rfl⟩) (nlt rfl) rfl dX3_init_8 ?_
  refine x_aload_n (i := 0) C dX3_init_11 rfl rfl ?_
  refine x_iconst C dX3_init_12 ?_
  refine x_newarr (at0 := .int) (ty := .int) (q0 := 0) (nn := 4) (a0 := (4, .inl (fun _ => 0))) (kd := 1) (a := 2) (b := 8) C hG rfl acX_int (fun _ => rfl) (fun _ => rfl) rfl (by decide) rfl (nle rfl) (nle rfl) (rbX_S 58 shX rfl rfl (by decide +kernel)) rfl rfl (by rw [eK.k]) (by rw [eN.k]) (nle rfl) (nle rfl) dX3_init_13 (fun q c C => ?_)
  refine Wx_PH (fun H h => PX_num (k := 58) SB_dz (fun i => rfl) (fun i => rfl) (fun i => rfl) h) ?_
  show Wx _ _ _ (PX _ (upR (dz 56 cz_X56) 56 0 (some 57))) _ _ [.ref 58, .ref 56]
  have hG := hG.k (a := 2) (b := 8)
  have hI := hI.k (a := 2) (b := 8)
  have hE := hE.k (a := 2) (b := 8)
  have had := had_up (q := q) (c := c) had (nle rfl)
  refine x_putF C hI (xkfX_X3_15 rfl rfl) (by first | exact Or.inl ⟨_, rfl⟩ | exact Or.inr ⟨_, rfl⟩) (nlt rfl) rfl dX3_init_15 ?_
  refine Wx_PH (fun H h => PX_many (Y := cz_X56) (sh := shX) [56] rfl (SL_upR rfl (SL_upR rfl (SL_dz rfl SL_rf))) (by decide +kernel) h) ?_
  exact x_vretG C rfl hE eK.k eN.k had dX3_init_18
def cz_X62 : XT := (upR (upR (upR (dz 59 (upR (dz 55 cz_X55) 55 0 (some 56))) 55 1 (some 59)) 55 2 (some 60)) 55 5 (some 61))
set_option maxHeartbeats 4000000 in
set_option maxRecDepth 100000 in
theorem ct_X62 {D : va_G} : MetG (bX D) yX10_init cX10_init 2 1 30 2 10 [.ref 62, .null] 63 65 (dz 62 cz_X62) cz_X62 := by
  refine MetG.mk (own := RX10) (by decide +kernel) rfl rfl (nle rfl) (fun E ad cA C hG hI hE hk0 hn0 => ?_)
  refine Wx_lv (lv' := [(0, .ref 62), (1, .null)]) rfl ?_
  have had : ∀ k, k < 63 → wA (mkW (bX D) 63 ad cA) k = ad k := fun _ _ => rfl
  refine x_aload_n (i := 0) C dX10_init_0 rfl rfl ?_
  refine x_objInit C oiX10_3.1 oiX10_3.2.1 oiX10_3.2.2 (nle rfl) (nle rfl) dX10_init_1 ?_
  refine x_aload_n (i := 0) C dX10_init_4 rfl rfl ?_
  refine x_iconst C dX10_init_5 ?_
  refine x_newarr (at0 := .long) (ty := .long) (q0 := 0) (nn := 5) (a0 := (5, .inr (.inl (fun _ => 0)))) (kd := 2) (a := 1) (b := 5) C hG rfl acX_long (fun _ => rfl) (fun _ => rfl) rfl (by decide) rfl (nle rfl) (nle rfl) (rbX_S 63 shX rfl rfl (by decide +kernel)) rfl rfl (by rw [hk0]) (by rw [hn0]) (nle rfl) (nle rfl) dX10_init_6 (fun q c C => ?_)
  refine Wx_PH (fun H h => PX_num (k := 63) SB_dz (fun i => rfl) (fun i => rfl) (fun i => rfl) h) ?_
  show Wx _ _ _ (PX _ (dz 62 cz_X62)) _ _ [.ref 63, .ref 62]
  have hG := hG.k (a := 1) (b := 5)
  have hI := hI.k (a := 1) (b := 5)
  have hE := hE.k (a := 1) (b := 5)
  have had := had_up (q := q) (c := c) had (nle rfl)
  refine x_putF C hI (xkfX_X10_9 rfl rfl) (by first | exact Or.inl ⟨_, rfl⟩ | exact Or.inr ⟨_, rfl⟩) (nlt rfl) rfl dX10_init_8 ?_
  refine x_aload_n (i := 0) C dX10_init_11 rfl rfl ?_
  refine x_iconst C dX10_init_12 ?_
  refine x_newarr (at0 := .long) (ty := .long) (q0 := 0) (nn := 5) (a0 := (5, .inr (.inl (fun _ => 0)))) (kd := 2) (a := 2) (b := 10) C hG rfl acX_long (fun _ => rfl) (fun _ => rfl) rfl (by decide) rfl (nle rfl) (nle rfl) (rbX_S 64 shX rfl rfl (by decide +kernel)) rfl rfl (by rw [eK.k]) (by rw [eN.k]) (nle rfl) (nle rfl) dX10_init_13 (fun q c C => ?_)
  refine Wx_PH (fun H h => PX_num (k := 64) SB_dz (fun i => rfl) (fun i => rfl) (fun i => rfl) h) ?_
  show Wx _ _ _ (PX _ (upR (dz 62 cz_X62) 62 0 (some 63))) _ _ [.ref 64, .ref 62]
  have hG := hG.k (a := 2) (b := 10)
  have hI := hI.k (a := 2) (b := 10)
  have hE := hE.k (a := 2) (b := 10)
  have had := had_up (q := q) (c := c) had (nle rfl)
  refine x_putF C hI (xkfX_X10_15 rfl rfl) (by first | exact Or.inl ⟨_, rfl⟩ | exact Or.inr ⟨_, rfl⟩) (nlt rfl) rfl dX10_init_15 ?_
  refine x_aload_n (i := 0) C dX10_init_18 rfl rfl ?_
  refine x_iconst C dX10_init_19 ?_
  refine x_putI C (xkpX_X10_18 rfl rfl) (nlt rfl) rfl dX10_init_20 ?_
  refine x_aload_n (i := 0) C dX10_init_23 rfl rfl ?_
  refine x_aload_nN (i := 1) C dX10_init_24 rfl rfl ?_
  refine x_putN C hI (xkfX_X10_22 rfl rfl) (by first | exact Or.inl ⟨_, rfl⟩ | exact Or.inr ⟨_, rfl⟩) (nlt rfl) rfl dX10_init_25 ?_
  refine Wx_PH (fun H h => PX_many (Y := cz_X62) (sh := shX) [62] rfl (SL_upR rfl (SL_upI rfl (SL_upR rfl (SL_upR rfl (SL_dz rfl SL_rf))))) (by decide +kernel) h) ?_
  exact x_vretG C rfl hE eK.k eN.k had dX10_init_28
def cz_X65 : XT := (upR (upR (upR (upR (dz 59 (upR (dz 55 cz_X55) 55 0 (some 56))) 55 1 (some 59)) 55 2 (some 60)) 55 5 (some 61)) 59 0 (some 62))
set_option maxHeartbeats 4000000 in
set_option maxRecDepth 100000 in
theorem ct_X65 {D : va_G} : MetG (bX D) yX10_init cX10_init 2 1 30 2 10 [.ref 65, .null] 66 68 (dz 65 cz_X65) cz_X65 := by
  refine MetG.mk (own := RX10) (by decide +kernel) rfl rfl (nle rfl) (fun E ad cA C hG hI hE hk0 hn0 => ?_)
  refine Wx_lv (lv' := [(0, .ref 65), (1, .null)]) rfl ?_
  have had : ∀ k, k < 66 → wA (mkW (bX D) 66 ad cA) k = ad k := fun _ _ => rfl
  refine x_aload_n (i := 0) C dX10_init_0 rfl rfl ?_
  refine x_objInit C oiX10_3.1 oiX10_3.2.1 oiX10_3.2.2 (nle rfl) (nle rfl) dX10_init_1 ?_
  refine x_aload_n (i := 0) C dX10_init_4 rfl rfl ?_
  refine x_iconst C dX10_init_5 ?_
  refine x_newarr (at0 := .long) (ty := .long) (q0 := 0) (nn := 5) (a0 := (5, .inr (.inl (fun _ => 0)))) (kd := 2) (a := 1) (b := 5) C hG rfl acX_long (fun _ => rfl) (fun _ => rfl) rfl (by decide) rfl (nle rfl) (nle rfl) (rbX_S 66 shX rfl rfl (by decide +kernel)) rfl rfl (by rw [hk0]) (by rw [hn0]) (nle rfl) (nle rfl) dX10_init_6 (fun q c C => ?_)
  refine Wx_PH (fun H h => PX_num (k := 66) SB_dz (fun i => rfl) (fun i => rfl) (fun i => rfl) h) ?_
  show Wx _ _ _ (PX _ (dz 65 cz_X65)) _ _ [.ref 66, .ref 65]
  have hG := hG.k (a := 1) (b := 5)
  have hI := hI.k (a := 1) (b := 5)
  have hE := hE.k (a := 1) (b := 5)
  have had := had_up (q := q) (c := c) had (nle rfl)
  refine x_putF C hI (xkfX_X10_9 rfl rfl) (by first | exact Or.inl ⟨_, rfl⟩ | exact Or.inr ⟨_, rfl⟩) (nlt rfl) rfl dX10_init_8 ?_
  refine x_aload_n (i := 0) C dX10_init_11 rfl rfl ?_
  refine x_iconst C dX10_init_12 ?_
  refine x_newarr (at0 := .long) (ty := .long) (q0 := 0) (nn := 5) (a0 := (5, .inr (.inl (fun _ => 0)))) (kd := 2) (a := 2) (b := 10) C hG rfl acX_long (fun _ => rfl) (fun _ => rfl) rfl (by decide) rfl (nle rfl) (nle rfl) (rbX_S 67 shX rfl rfl (by decide +kernel)) rfl rfl (by rw [eK.k]) (by rw [eN.k]) (nle rfl) (nle rfl) dX10_init_13 (fun q c C => ?_)
  refine Wx_PH (fun H h => PX_num (k := 67) SB_dz (fun i => rfl) (fun i => rfl) (fun i => rfl) h) ?_
  show Wx _ _ _ (PX _ (upR (dz 65 cz_X65) 65 0 (some 66))) _ _ [.ref 67, .ref 65]
  have hG := hG.k (a := 2) (b := 10)
  have hI := hI.k (a := 2) (b := 10)
  have hE := hE.k (a := 2) (b := 10)
  have had := had_up (q := q) (c := c) had (nle rfl)
  refine x_putF C hI (xkfX_X10_15 rfl rfl) (by first | exact Or.inl ⟨_, rfl⟩ | exact Or.inr ⟨_, rfl⟩) (nlt rfl) rfl dX10_init_15 ?_
  refine x_aload_n (i := 0) C dX10_init_18 rfl rfl ?_
  refine x_iconst C dX10_init_19 ?_
  refine x_putI C (xkpX_X10_18 rfl rfl) (nlt rfl) rfl dX10_init_20 ?_
  refine x_aload_n (i := 0) C dX10_init_23 rfl rfl ?_
  refine x_aload_nN (i := 1) C dX10_init_24 rfl rfl ?_
  refine x_putN C hI (xkfX_X10_22 rfl rfl) (by first | exact Or.inl ⟨_, rfl⟩ | exact Or.inr ⟨_, rfl⟩) (nlt rfl) rfl dX10_init_25 ?_
  refine Wx_PH (fun H h => PX_many (Y := cz_X65) (sh := shX) [65] rfl (SL_upR rfl (SL_upI rfl (SL_upR rfl (SL_upR rfl (SL_dz rfl SL_rf))))) (by decide +kernel) h) ?_
  exact x_vretG C rfl hE eK.k eN.k had dX10_init_28
def cz_X68 : XT := (upR (upR (upR (upR (upR (dz 59 (upR (dz 55 cz_X55) 55 0 (some 56))) 55 1 (some 59)) 55 2 (some 60)) 55 5 (some 61)) 59 0 (some 62)) 59 1 (some 65))
set_option maxHeartbeats 4000000 in
set_option maxRecDepth 100000 in
theorem ct_X68 {D : va_G} : MetG (bX D) yX10_init cX10_init 2 1 30 2 10 [.ref 68, .null] 69 71 (dz 68 cz_X68) cz_X68 := by
  refine MetG.mk (own := RX10) (by decide +kernel) rfl rfl (nle rfl) (fun E ad cA C hG hI hE hk0 hn0 => ?_)
  refine Wx_lv (lv' := [(0, .ref 68), (1, .null)]) rfl ?_
  have had : ∀ k, k < 69 → wA (mkW (bX D) 69 ad cA) k = ad k := fun _ _ => rfl
  refine x_aload_n (i := 0) C dX10_init_0 rfl rfl ?_
  refine x_objInit C oiX10_3.1 oiX10_3.2.1 oiX10_3.2.2 (nle rfl) (nle rfl) dX10_init_1 ?_
  refine x_aload_n (i := 0) C dX10_init_4 rfl rfl ?_
  refine x_iconst C dX10_init_5 ?_
  refine x_newarr (at0 := .long) (ty := .long) (q0 := 0) (nn := 5) (a0 := (5, .inr (.inl (fun _ => 0)))) (kd := 2) (a := 1) (b := 5) C hG rfl acX_long (fun _ => rfl) (fun _ => rfl) rfl (by decide) rfl (nle rfl) (nle rfl) (rbX_S 69 shX rfl rfl (by decide +kernel)) rfl rfl (by rw [hk0]) (by rw [hn0]) (nle rfl) (nle rfl) dX10_init_6 (fun q c C => ?_)
  refine Wx_PH (fun H h => PX_num (k := 69) SB_dz (fun i => rfl) (fun i => rfl) (fun i => rfl) h) ?_
  show Wx _ _ _ (PX _ (dz 68 cz_X68)) _ _ [.ref 69, .ref 68]
  have hG := hG.k (a := 1) (b := 5)
  have hI := hI.k (a := 1) (b := 5)
  have hE := hE.k (a := 1) (b := 5)
  have had := had_up (q := q) (c := c) had (nle rfl)
  refine x_putF C hI (xkfX_X10_9 rfl rfl) (by first | exact Or.inl ⟨_, rfl⟩ | exact Or.inr ⟨_, rfl⟩) (nlt rfl) rfl dX10_init_8 ?_
  refine x_aload_n (i := 0) C dX10_init_11 rfl rfl ?_
  refine x_iconst C dX10_init_12 ?_
  refine x_newarr (at0 := .long) (ty := .long) (q0 := 0) (nn := 5) (a0 := (5, .inr (.inl (fun _ => 0)))) (kd := 2) (a := 2) (b := 10) C hG rfl acX_long (fun _ => rfl) (fun _ => rfl) rfl (by decide) rfl (nle rfl) (nle rfl) (rbX_S 70 shX rfl rfl (by decide +kernel)) rfl rfl (by rw [eK.k]) (by rw [eN.k]) (nle rfl) (nle rfl) dX10_init_13 (fun q c C => ?_)
  refine Wx_PH (fun H h => PX_num (k := 70) SB_dz (fun i => rfl) (fun i => rfl) (fun i => rfl) h) ?_
  show Wx _ _ _ (PX _ (upR (dz 68 cz_X68) 68 0 (some 69))) _ _ [.ref 70, .ref 68]
  have hG := hG.k (a := 2) (b := 10)
  have hI := hI.k (a := 2) (b := 10)
  have hE := hE.k (a := 2) (b := 10)
  have had := had_up (q := q) (c := c) had (nle rfl)
  refine x_putF C hI (xkfX_X10_15 rfl rfl) (by first | exact Or.inl ⟨_, rfl⟩ | exact Or.inr ⟨_, rfl⟩) (nlt rfl) rfl dX10_init_15 ?_
  refine x_aload_n (i := 0) C dX10_init_18 rfl rfl ?_
  refine x_iconst C dX10_init_19 ?_
  refine x_putI C (xkpX_X10_18 rfl rfl) (nlt rfl) rfl dX10_init_20 ?_
  refine x_aload_n (i := 0) C dX10_init_23 rfl rfl ?_
  refine x_aload_nN (i := 1) C dX10_init_24 rfl rfl ?_
  refine x_putN C hI (xkfX_X10_22 rfl rfl) (by first | exact Or.inl ⟨_, rfl⟩ | exact Or.inr ⟨_, rfl⟩) (nlt rfl) rfl dX10_init_25 ?_
  refine Wx_PH (fun H h => PX_many (Y := cz_X68) (sh := shX) [68] rfl (SL_upR rfl (SL_upI rfl (SL_upR rfl (SL_upR rfl (SL_dz rfl SL_rf))))) (by decide +kernel) h) ?_
  exact x_vretG C rfl hE eK.k eN.k had dX10_init_28
def cz_X71 : XT := (upR (upR (upR (upR (upR (upR (dz 59 (upR (dz 55 cz_X55) 55 0 (some 56))) 55 1 (some 59)) 55 2 (some 60)) 55 5 (some 61)) 59 0 (some 62)) 59 1 (some 65)) 59 2 (some 68))
set_option maxHeartbeats 4000000 in
set_option maxRecDepth 100000 in
theorem ct_X71 {D : va_G} : MetG (bX D) yX10_init cX10_init 2 1 30 2 10 [.ref 71, .null] 72 74 (dz 71 cz_X71) cz_X71 := by
  refine MetG.mk (own := RX10) (by decide +kernel) rfl rfl (nle rfl) (fun E ad cA C hG hI hE hk0 hn0 => ?_)
  refine Wx_lv (lv' := [(0, .ref 71), (1, .null)]) rfl ?_
  have had : ∀ k, k < 72 → wA (mkW (bX D) 72 ad cA) k = ad k := fun _ _ => rfl
  refine x_aload_n (i := 0) C dX10_init_0 rfl rfl ?_
  refine x_objInit C oiX10_3.1 oiX10_3.2.1 oiX10_3.2.2 (nle rfl) (nle rfl) dX10_init_1 ?_
  refine x_aload_n (i := 0) C dX10_init_4 rfl rfl ?_
  refine x_iconst C dX10_init_5 ?_
  refine x_newarr (at0 := .long) (ty := .long) (q0 := 0) (nn := 5) (a0 := (5, .inr (.inl (fun _ => 0)))) (kd := 2) (a := 1) (b := 5) C hG rfl acX_long (fun _ => rfl) (fun _ => rfl) rfl (by decide) rfl (nle rfl) (nle rfl) (rbX_S 72 shX rfl rfl (by decide +kernel)) rfl rfl (by rw [hk0]) (by rw [hn0]) (nle rfl) (nle rfl) dX10_init_6 (fun q c C => ?_)
  refine Wx_PH (fun H h => PX_num (k := 72) SB_dz (fun i => rfl) (fun i => rfl) (fun i => rfl) h) ?_
  show Wx _ _ _ (PX _ (dz 71 cz_X71)) _ _ [.ref 72, .ref 71]
  have hG := hG.k (a := 1) (b := 5)
  have hI := hI.k (a := 1) (b := 5)
  have hE := hE.k (a := 1) (b := 5)
  have had := had_up (q := q) (c := c) had (nle rfl)
  refine x_putF C hI (xkfX_X10_9 rfl rfl) (by first | exact Or.inl ⟨_, rfl⟩ | exact Or.inr ⟨_, rfl⟩) (nlt rfl) rfl dX10_init_8 ?_
  refine x_aload_n (i := 0) C dX10_init_11 rfl rfl ?_
  refine x_iconst C dX10_init_12 ?_
  refine x_newarr (at0 := .long) (ty := .long) (q0 := 0) (nn := 5) (a0 := (5, .inr (.inl (fun _ => 0)))) (kd := 2) (a := 2) (b := 10) C hG rfl acX_long (fun _ => rfl) (fun _ => rfl) rfl (by decide) rfl (nle rfl) (nle rfl) (rbX_S 73 shX rfl rfl (by decide +kernel)) rfl rfl (by rw [eK.k]) (by rw [eN.k]) (nle rfl) (nle rfl) dX10_init_13 (fun q c C => ?_)
  refine Wx_PH (fun H h => PX_num (k := 73) SB_dz (fun i => rfl) (fun i => rfl) (fun i => rfl) h) ?_
  show Wx _ _ _ (PX _ (upR (dz 71 cz_X71) 71 0 (some 72))) _ _ [.ref 73, .ref 71]
  have hG := hG.k (a := 2) (b := 10)
  have hI := hI.k (a := 2) (b := 10)
  have hE := hE.k (a := 2) (b := 10)
  have had := had_up (q := q) (c := c) had (nle rfl)
  refine x_putF C hI (xkfX_X10_15 rfl rfl) (by first | exact Or.inl ⟨_, rfl⟩ | exact Or.inr ⟨_, rfl⟩) (nlt rfl) rfl dX10_init_15 ?_
  refine x_aload_n (i := 0) C dX10_init_18 rfl rfl ?_
  refine x_iconst C dX10_init_19 ?_
  refine x_putI C (xkpX_X10_18 rfl rfl) (nlt rfl) rfl dX10_init_20 ?_
  refine x_aload_n (i := 0) C dX10_init_23 rfl rfl ?_
  refine x_aload_nN (i := 1) C dX10_init_24 rfl rfl ?_
  refine x_putN C hI (xkfX_X10_22 rfl rfl) (by first | exact Or.inl ⟨_, rfl⟩ | exact Or.inr ⟨_, rfl⟩) (nlt rfl) rfl dX10_init_25 ?_
  refine Wx_PH (fun H h => PX_many (Y := cz_X71) (sh := shX) [71] rfl (SL_upR rfl (SL_upI rfl (SL_upR rfl (SL_upR rfl (SL_dz rfl SL_rf))))) (by decide +kernel) h) ?_
  exact x_vretG C rfl hE eK.k eN.k had dX10_init_28
def cz_X74 : XT := (upR (upR (upR (upR (upR (upR (upR (dz 59 (upR (dz 55 cz_X55) 55 0 (some 56))) 55 1 (some 59)) 55 2 (some 60)) 55 5 (some 61)) 59 0 (some 62)) 59 1 (some 65)) 59 2 (some 68)) 59 3 (some 71))
set_option maxHeartbeats 4000000 in
set_option maxRecDepth 100000 in
theorem ct_X74 {D : va_G} : MetG (bX D) yX10_init cX10_init 2 1 30 2 10 [.ref 74, .null] 75 77 (dz 74 cz_X74) cz_X74 := by
  refine MetG.mk (own := RX10) (by decide +kernel) rfl rfl (nle rfl) (fun E ad cA C hG hI hE hk0 hn0 => ?_)
  refine Wx_lv (lv' := [(0, .ref 74), (1, .null)]) rfl ?_
  have had : ∀ k, k < 75 → wA (mkW (bX D) 75 ad cA) k = ad k := fun _ _ => rfl
  refine x_aload_n (i := 0) C dX10_init_0 rfl rfl ?_
  refine x_objInit C oiX10_3.1 oiX10_3.2.1 oiX10_3.2.2 (nle rfl) (nle rfl) dX10_init_1 ?_
  refine x_aload_n (i := 0) C dX10_init_4 rfl rfl ?_
  refine x_iconst C dX10_init_5 ?_
  refine x_newarr (at0 := .long) (ty := .long) (q0 := 0) (nn := 5) (a0 := (5, .inr (.inl (fun _ => 0)))) (kd := 2) (a := 1) (b := 5) C hG rfl acX_long (fun _ => rfl) (fun _ => rfl) rfl (by decide) rfl (nle rfl) (nle rfl) (rbX_S 75 shX rfl rfl (by decide +kernel)) rfl rfl (by rw [hk0]) (by rw [hn0]) (nle rfl) (nle rfl) dX10_init_6 (fun q c C => ?_)
  refine Wx_PH (fun H h => PX_num (k := 75) SB_dz (fun i => rfl) (fun i => rfl) (fun i => rfl) h) ?_
  show Wx _ _ _ (PX _ (dz 74 cz_X74)) _ _ [.ref 75, .ref 74]
  have hG := hG.k (a := 1) (b := 5)
  have hI := hI.k (a := 1) (b := 5)
  have hE := hE.k (a := 1) (b := 5)
  have had := had_up (q := q) (c := c) had (nle rfl)
  refine x_putF C hI (xkfX_X10_9 rfl rfl) (by first | exact Or.inl ⟨_, rfl⟩ | exact Or.inr ⟨_, rfl⟩) (nlt rfl) rfl dX10_init_8 ?_
  refine x_aload_n (i := 0) C dX10_init_11 rfl rfl ?_
  refine x_iconst C dX10_init_12 ?_
  refine x_newarr (at0 := .long) (ty := .long) (q0 := 0) (nn := 5) (a0 := (5, .inr (.inl (fun _ => 0)))) (kd := 2) (a := 2) (b := 10) C hG rfl acX_long (fun _ => rfl) (fun _ => rfl) rfl (by decide) rfl (nle rfl) (nle rfl) (rbX_S 76 shX rfl rfl (by decide +kernel)) rfl rfl (by rw [eK.k]) (by rw [eN.k]) (nle rfl) (nle rfl) dX10_init_13 (fun q c C => ?_)
  refine Wx_PH (fun H h => PX_num (k := 76) SB_dz (fun i => rfl) (fun i => rfl) (fun i => rfl) h) ?_
  show Wx _ _ _ (PX _ (upR (dz 74 cz_X74) 74 0 (some 75))) _ _ [.ref 76, .ref 74]
  have hG := hG.k (a := 2) (b := 10)
  have hI := hI.k (a := 2) (b := 10)
  have hE := hE.k (a := 2) (b := 10)
  have had := had_up (q := q) (c := c) had (nle rfl)
  refine x_putF C hI (xkfX_X10_15 rfl rfl) (by first | exact Or.inl ⟨_, rfl⟩ | exact Or.inr ⟨_, rfl⟩) (nlt rfl) rfl dX10_init_15 ?_
  refine x_aload_n (i := 0) C dX10_init_18 rfl rfl ?_
  refine x_iconst C dX10_init_19 ?_
  refine x_putI C (xkpX_X10_18 rfl rfl) (nlt rfl) rfl dX10_init_20 ?_
  refine x_aload_n (i := 0) C dX10_init_23 rfl rfl ?_
  refine x_aload_nN (i := 1) C dX10_init_24 rfl rfl ?_
  refine x_putN C hI (xkfX_X10_22 rfl rfl) (by first | exact Or.inl ⟨_, rfl⟩ | exact Or.inr ⟨_, rfl⟩) (nlt rfl) rfl dX10_init_25 ?_
  refine Wx_PH (fun H h => PX_many (Y := cz_X74) (sh := shX) [74] rfl (SL_upR rfl (SL_upI rfl (SL_upR rfl (SL_upR rfl (SL_dz rfl SL_rf))))) (by decide +kernel) h) ?_
  exact x_vretG C rfl hE eK.k eN.k had dX10_init_28
set_option maxHeartbeats 4000000 in
set_option maxRecDepth 100000 in
theorem ct_X55 {D : va_G} : MetG (bX D) yX4_init cX4_init 2 2 51 21 16481 [.ref 55] 56 77 (dz 55 cz_X55) cz_X55 := by
  refine MetG.mk (own := RX4) (by decide +kernel) rfl rfl (nle rfl) (fun E ad cA C hG hI hE hk0 hn0 => ?_)
  refine Wx_lv (lv' := [(0, .ref 55)]) rfl ?_
  have had : ∀ k, k < 56 → wA (mkW (bX D) 56 ad cA) k = ad k := fun _ _ => rfl
  refine x_aload_n (i := 0) C dX4_init_0 rfl rfl ?_
  refine x_objInit C oiX4_3.1 oiX4_3.2.1 oiX4_3.2.2 (nle rfl) (nle rfl) dX4_init_1 ?_
  refine x_aload_n (i := 0) C dX4_init_4 rfl rfl ?_
  refine x_new (a := 1) (b := 5) C hG inX3 tyX3_ok rfl rfl nwX_X4_9.1 nwX_X4_9.2.1 nwX_X4_9.2.2 (fun j hj => by rcases (show j = 0 ∨ j = 1 ∨ j = 2 ∨ j = 3 ∨ j = 4 by omega) with rfl | rfl | rfl | rfl | rfl <;> rfl) (rbX_S 56 shX rfl rfl (by decide +kernel)) rfl rfl (by rw [hk0]) (by rw [hn0]) (nle rfl) (nle rfl) dX4_init_5 (fun q c C => ?_)
  show Wx _ _ _ (PX _ (dz 56 (dz 55 cz_X55))) _ _ [.ref 56, .ref 55]
  have hG := hG.k (a := 1) (b := 5)
  have hI := hI.k (a := 1) (b := 5)
  have hE := hE.k (a := 1) (b := 5)
  have had := had_up (q := q) (c := c) had (nle rfl)
  refine x_dup C dX4_init_8 rfl ?_
  refine x_callG (k := 56) (As := []) (a := 3) (b' := 13) C hG rfl ct_X56 (Or.inr ciX4_11) im_X3_init rfl rfl rfl (nle rfl) ⟨nle rfl, nle rfl⟩ rfl rfl (by rw [eK.k]) (by rw [eN.k]) (nle rfl) (nle rfl) dX4_init_9 (fun ad16 cA16 C hadk => ?_)
  have had : ∀ k, k < 56 → wA (mkW (bX D) 59 ad16 cA16) k = ad k := fun k hk => (hadk k (Nat.lt_of_lt_of_le hk (nle rfl))).trans (had k hk)
  clear hadk
  have hG := hG.k (a := 3) (b := 13)
  have hI := hI.k (a := 3) (b := 13)
  have hE := hE.k (a := 3) (b := 13)
  refine x_putF C hI (xkfX_X4_12 rfl rfl) (by first | exact Or.inl ⟨_, rfl⟩ | exact Or.inr ⟨_, rfl⟩) (nlt rfl) rfl dX4_init_12 ?_
  refine x_aload_n (i := 0) C dX4_init_15 rfl rfl ?_
  refine x_iconst C dX4_init_16 ?_
  refine x_anew (nn := 5) (a := 4) (b := 18) C hG naX4_18.1 naX4_18.2 rfl rfl (nle rfl) (rbX_S 59 shX rfl rfl (by decide +kernel)) rfl rfl (by rw [eK.k]) (by rw [eN.k]) (nle rfl) (nle rfl) dX4_init_17 (fun q c C => ?_)
  show Wx _ _ _ (PX _ (dz 59 (upR (dz 55 cz_X55) 55 0 (some 56)))) _ _ [.ref 59, .ref 55]
  have hG := hG.k (a := 4) (b := 18)
  have hI := hI.k (a := 4) (b := 18)
  have hE := hE.k (a := 4) (b := 18)
  have had := had_up (q := q) (c := c) had (nle rfl)
  refine x_putF C hI (xkfX_X4_20 rfl rfl) (by first | exact Or.inl ⟨_, rfl⟩ | exact Or.inr ⟨_, rfl⟩) (nlt rfl) rfl dX4_init_20 ?_
  refine x_aload_n (i := 0) C dX4_init_23 rfl rfl ?_
  refine x_iconst C dX4_init_24 ?_
  refine x_newarr (at0 := .int) (ty := .int) (q0 := 0) (nn := 4) (a0 := (4, .inl (fun _ => 0))) (kd := 1) (a := 5) (b := 22) C hG rfl acX_int (fun _ => rfl) (fun _ => rfl) rfl (by decide) rfl (nle rfl) (nle rfl) (rbX_S 60 shX rfl rfl (by decide +kernel)) rfl rfl (by rw [eK.k]) (by rw [eN.k]) (nle rfl) (nle rfl) dX4_init_25 (fun q c C => ?_)
  refine Wx_PH (fun H h => PX_num (k := 60) SB_dz (fun i => rfl) (fun i => rfl) (fun i => rfl) h) ?_
  show Wx _ _ _ (PX _ (upR (dz 59 (upR (dz 55 cz_X55) 55 0 (some 56))) 55 1 (some 59))) _ _ [.ref 60, .ref 55]
  have hG := hG.k (a := 5) (b := 22)
  have hI := hI.k (a := 5) (b := 22)
  have hE := hE.k (a := 5) (b := 22)
  have had := had_up (q := q) (c := c) had (nle rfl)
  refine x_putF C hI (xkfX_X4_24 rfl rfl) (by first | exact Or.inl ⟨_, rfl⟩ | exact Or.inr ⟨_, rfl⟩) (nlt rfl) rfl dX4_init_27 ?_
  refine x_aload_n (i := 0) C dX4_init_30 rfl rfl ?_
  refine x_sipush C dX4_init_31 (by decide) ?_
  refine x_newarr (at0 := .long) (ty := .long) (q0 := 0) (nn := 16384) (a0 := (16384, .inr (.inl (fun _ => 0)))) (kd := 2) (a := 6) (b := 16406) C hG rfl acX_long (fun _ => rfl) (fun _ => rfl) rfl (by decide) rfl (nle rfl) (nle rfl) (rbX_S 61 shX rfl rfl (by decide +kernel)) rfl rfl (by rw [eK.k]) (by rw [eN.k]) (nle rfl) (nle rfl) dX4_init_34 (fun q c C => ?_)
  refine Wx_PH (fun H h => PX_num (k := 61) SB_dz (fun i => rfl) (fun i => rfl) (fun i => rfl) h) ?_
  show Wx _ _ _ (PX _ (upR (upR (dz 59 (upR (dz 55 cz_X55) 55 0 (some 56))) 55 1 (some 59)) 55 2 (some 60))) _ _ [.ref 61, .ref 55]
  have hG := hG.k (a := 6) (b := 16406)
  have hI := hI.k (a := 6) (b := 16406)
  have hE := hE.k (a := 6) (b := 16406)
  have had := had_up (q := q) (c := c) had (nle rfl)
  refine x_putF C hI (xkfX_X4_28 rfl rfl) (by first | exact Or.inl ⟨_, rfl⟩ | exact Or.inr ⟨_, rfl⟩) (nlt rfl) rfl dX4_init_36 ?_
  refine x_iconst C dX4_init_39 ?_
  refine x_istore_n (i := 1) (lv' := [(1, .int (iI (0))), (0, .ref 55)]) C dX4_init_40 rfl (nlt rfl) rfl ?_
  refine x_iload_n (i := 1) C dX4_init_41 rfl rfl ?_
  refine x_iconst C dX4_init_42 ?_
  refine x_icmp_gt (tgt := 66) C dX4_init_43 (by decide) ⟨by omega, by omega⟩ ⟨by omega, by omega⟩ (fun h => by exfalso; omega) (fun h => ?_)
  clear h
  refine x_aload_n (i := 0) C dX4_init_46 rfl rfl ?_
  refine x_getRs (r := 59) C (xkgX_X4_20 rfl rfl) (nlt rfl) rfl rfl dX4_init_47 ?_
  refine x_iload_n (i := 1) C dX4_init_50 rfl rfl ?_
  refine x_new (a := 7) (b := 16411) C hG inX10 tyX10_ok rfl rfl nwX_X4_18.1 nwX_X4_18.2.1 nwX_X4_18.2.2 (fun j hj => by rcases (show j = 0 ∨ j = 1 ∨ j = 2 ∨ j = 3 ∨ j = 4 by omega) with rfl | rfl | rfl | rfl | rfl <;> rfl) (rbX_S 62 shX rfl rfl (by decide +kernel)) rfl rfl (by rw [eK.k]) (by rw [eN.k]) (nle rfl) (nle rfl) dX4_init_51 (fun q c C => ?_)
  show Wx _ _ _ (PX _ (dz 62 (upR (upR (upR (dz 59 (upR (dz 55 cz_X55) 55 0 (some 56))) 55 1 (some 59)) 55 2 (some 60)) 55 5 (some 61)))) _ _ [.ref 62, .int (iI (0)), .ref 59]
  have hG := hG.k (a := 7) (b := 16411)
  have hI := hI.k (a := 7) (b := 16411)
  have hE := hE.k (a := 7) (b := 16411)
  have had := had_up (q := q) (c := c) had (nle rfl)
  refine x_dup C dX4_init_54 rfl ?_
  refine x_null C dX4_init_55 ?_
  refine x_callG (host := "") (k := 62) (As := [.null]) (a := 9) (b' := 16421) C hG rfl ct_X62 (Or.inl (show CKB RX4 32 yX10_init cX10_init 2 none 1 from ckX4_32)) im_X10_init rfl rfl rfl (nle rfl) ⟨nle rfl, nle rfl⟩ rfl rfl (by rw [eK.k]) (by rw [eN.k]) (nle rfl) (nle rfl) dX4_init_56 (fun ad17 cA17 C hadk => ?_)
  have had : ∀ k, k < 56 → wA (mkW (bX D) 65 ad17 cA17) k = ad k := fun k hk => (hadk k (Nat.lt_of_lt_of_le hk (nle rfl))).trans (had k hk)
  clear hadk
  have hG := hG.k (a := 9) (b := 16421)
  have hI := hI.k (a := 9) (b := 16421)
  have hE := hE.k (a := 9) (b := 16421)
  refine x_aast C (nlt rfl) rfl rfl (nlt rfl) rfl rfl (nle rfl) (by omega) (by omega) dX4_init_59 ?_
  refine x_iinc (lv' := [(1, .int (iI (0 + 1))), (0, .ref 55)]) C dX4_init_60 rfl (nlt rfl) rfl ?_
  refine Wx_lv (lv' := [(1, .int (iI (1))), (0, .ref 55)]) rfl ?_
  refine x_goto (tgt := 41) C dX4_init_63 (by decide) ?_
  refine x_iload_n (i := 1) C dX4_init_41 rfl rfl ?_
  refine x_iconst C dX4_init_42 ?_
  refine x_icmp_gt (tgt := 66) C dX4_init_43 (by decide) ⟨by omega, by omega⟩ ⟨by omega, by omega⟩ (fun h => by exfalso; omega) (fun h => ?_)
  clear h
  refine x_aload_n (i := 0) C dX4_init_46 rfl rfl ?_
  refine x_getRs (r := 59) C (xkgX_X4_20 rfl rfl) (nlt rfl) rfl rfl dX4_init_47 ?_
  refine x_iload_n (i := 1) C dX4_init_50 rfl rfl ?_
  refine x_new (a := 10) (b := 16426) C hG inX10 tyX10_ok rfl rfl nwX_X4_18.1 nwX_X4_18.2.1 nwX_X4_18.2.2 (fun j hj => by rcases (show j = 0 ∨ j = 1 ∨ j = 2 ∨ j = 3 ∨ j = 4 by omega) with rfl | rfl | rfl | rfl | rfl <;> rfl) (rbX_S 65 shX rfl rfl (by decide +kernel)) rfl rfl (by rw [eK.k]) (by rw [eN.k]) (nle rfl) (nle rfl) dX4_init_51 (fun q c C => ?_)
  show Wx _ _ _ (PX _ (dz 65 (upR (upR (upR (upR (dz 59 (upR (dz 55 cz_X55) 55 0 (some 56))) 55 1 (some 59)) 55 2 (some 60)) 55 5 (some 61)) 59 0 (some 62)))) _ _ [.ref 65, .int (iI (1)), .ref 59]
  have hG := hG.k (a := 10) (b := 16426)
  have hI := hI.k (a := 10) (b := 16426)
  have hE := hE.k (a := 10) (b := 16426)
  have had := had_up (q := q) (c := c) had (nle rfl)
  refine x_dup C dX4_init_54 rfl ?_
  refine x_null C dX4_init_55 ?_
  refine x_callG (host := "") (k := 65) (As := [.null]) (a := 12) (b' := 16436) C hG rfl ct_X65 (Or.inl (show CKB RX4 32 yX10_init cX10_init 2 none 1 from ckX4_32)) im_X10_init rfl rfl rfl (nle rfl) ⟨nle rfl, nle rfl⟩ rfl rfl (by rw [eK.k]) (by rw [eN.k]) (nle rfl) (nle rfl) dX4_init_56 (fun ad18 cA18 C hadk => ?_)
  have had : ∀ k, k < 56 → wA (mkW (bX D) 68 ad18 cA18) k = ad k := fun k hk => (hadk k (Nat.lt_of_lt_of_le hk (nle rfl))).trans (had k hk)
  clear hadk
  have hG := hG.k (a := 12) (b := 16436)
  have hI := hI.k (a := 12) (b := 16436)
  have hE := hE.k (a := 12) (b := 16436)
  refine x_aast C (nlt rfl) rfl rfl (nlt rfl) rfl rfl (nle rfl) (by omega) (by omega) dX4_init_59 ?_
  refine x_iinc (lv' := [(1, .int (iI (1 + 1))), (0, .ref 55)]) C dX4_init_60 rfl (nlt rfl) rfl ?_
  refine Wx_lv (lv' := [(1, .int (iI (2))), (0, .ref 55)]) rfl ?_
  refine x_goto (tgt := 41) C dX4_init_63 (by decide) ?_
  refine x_iload_n (i := 1) C dX4_init_41 rfl rfl ?_
  refine x_iconst C dX4_init_42 ?_
  refine x_icmp_gt (tgt := 66) C dX4_init_43 (by decide) ⟨by omega, by omega⟩ ⟨by omega, by omega⟩ (fun h => by exfalso; omega) (fun h => ?_)
  clear h
  refine x_aload_n (i := 0) C dX4_init_46 rfl rfl ?_
  refine x_getRs (r := 59) C (xkgX_X4_20 rfl rfl) (nlt rfl) rfl rfl dX4_init_47 ?_
  refine x_iload_n (i := 1) C dX4_init_50 rfl rfl ?_
  refine x_new (a := 13) (b := 16441) C hG inX10 tyX10_ok rfl rfl nwX_X4_18.1 nwX_X4_18.2.1 nwX_X4_18.2.2 (fun j hj => by rcases (show j = 0 ∨ j = 1 ∨ j = 2 ∨ j = 3 ∨ j = 4 by omega) with rfl | rfl | rfl | rfl | rfl <;> rfl) (rbX_S 68 shX rfl rfl (by decide +kernel)) rfl rfl (by rw [eK.k]) (by rw [eN.k]) (nle rfl) (nle rfl) dX4_init_51 (fun q c C => ?_)
  show Wx _ _ _ (PX _ (dz 68 (upR (upR (upR (upR (upR (dz 59 (upR (dz 55 cz_X55) 55 0 (some 56))) 55 1 (some 59)) 55 2 (some 60)) 55 5 (some 61)) 59 0 (some 62)) 59 1 (some 65)))) _ _ [.ref 68, .int (iI (2)), .ref 59]
  have hG := hG.k (a := 13) (b := 16441)
  have hI := hI.k (a := 13) (b := 16441)
  have hE := hE.k (a := 13) (b := 16441)
  have had := had_up (q := q) (c := c) had (nle rfl)
  refine x_dup C dX4_init_54 rfl ?_
  refine x_null C dX4_init_55 ?_
  refine x_callG (host := "") (k := 68) (As := [.null]) (a := 15) (b' := 16451) C hG rfl ct_X68 (Or.inl (show CKB RX4 32 yX10_init cX10_init 2 none 1 from ckX4_32)) im_X10_init rfl rfl rfl (nle rfl) ⟨nle rfl, nle rfl⟩ rfl rfl (by rw [eK.k]) (by rw [eN.k]) (nle rfl) (nle rfl) dX4_init_56 (fun ad19 cA19 C hadk => ?_)
  have had : ∀ k, k < 56 → wA (mkW (bX D) 71 ad19 cA19) k = ad k := fun k hk => (hadk k (Nat.lt_of_lt_of_le hk (nle rfl))).trans (had k hk)
  clear hadk
  have hG := hG.k (a := 15) (b := 16451)
  have hI := hI.k (a := 15) (b := 16451)
  have hE := hE.k (a := 15) (b := 16451)
  refine x_aast C (nlt rfl) rfl rfl (nlt rfl) rfl rfl (nle rfl) (by omega) (by omega) dX4_init_59 ?_
  refine x_iinc (lv' := [(1, .int (iI (2 + 1))), (0, .ref 55)]) C dX4_init_60 rfl (nlt rfl) rfl ?_
  refine Wx_lv (lv' := [(1, .int (iI (3))), (0, .ref 55)]) rfl ?_
  refine x_goto (tgt := 41) C dX4_init_63 (by decide) ?_
  refine x_iload_n (i := 1) C dX4_init_41 rfl rfl ?_
  refine x_iconst C dX4_init_42 ?_
  refine x_icmp_gt (tgt := 66) C dX4_init_43 (by decide) ⟨by omega, by omega⟩ ⟨by omega, by omega⟩ (fun h => by exfalso; omega) (fun h => ?_)
  clear h
  refine x_aload_n (i := 0) C dX4_init_46 rfl rfl ?_
  refine x_getRs (r := 59) C (xkgX_X4_20 rfl rfl) (nlt rfl) rfl rfl dX4_init_47 ?_
  refine x_iload_n (i := 1) C dX4_init_50 rfl rfl ?_
  refine x_new (a := 16) (b := 16456) C hG inX10 tyX10_ok rfl rfl nwX_X4_18.1 nwX_X4_18.2.1 nwX_X4_18.2.2 (fun j hj => by rcases (show j = 0 ∨ j = 1 ∨ j = 2 ∨ j = 3 ∨ j = 4 by omega) with rfl | rfl | rfl | rfl | rfl <;> rfl) (rbX_S 71 shX rfl rfl (by decide +kernel)) rfl rfl (by rw [eK.k]) (by rw [eN.k]) (nle rfl) (nle rfl) dX4_init_51 (fun q c C => ?_)
  show Wx _ _ _ (PX _ (dz 71 (upR (upR (upR (upR (upR (upR (dz 59 (upR (dz 55 cz_X55) 55 0 (some 56))) 55 1 (some 59)) 55 2 (some 60)) 55 5 (some 61)) 59 0 (some 62)) 59 1 (some 65)) 59 2 (some 68)))) _ _ [.ref 71, .int (iI (3)), .ref 59]
  have hG := hG.k (a := 16) (b := 16456)
  have hI := hI.k (a := 16) (b := 16456)
  have hE := hE.k (a := 16) (b := 16456)
  have had := had_up (q := q) (c := c) had (nle rfl)
  refine x_dup C dX4_init_54 rfl ?_
  refine x_null C dX4_init_55 ?_
  refine x_callG (host := "") (k := 71) (As := [.null]) (a := 18) (b' := 16466) C hG rfl ct_X71 (Or.inl (show CKB RX4 32 yX10_init cX10_init 2 none 1 from ckX4_32)) im_X10_init rfl rfl rfl (nle rfl) ⟨nle rfl, nle rfl⟩ rfl rfl (by rw [eK.k]) (by rw [eN.k]) (nle rfl) (nle rfl) dX4_init_56 (fun ad20 cA20 C hadk => ?_)
  have had : ∀ k, k < 56 → wA (mkW (bX D) 74 ad20 cA20) k = ad k := fun k hk => (hadk k (Nat.lt_of_lt_of_le hk (nle rfl))).trans (had k hk)
  clear hadk
  have hG := hG.k (a := 18) (b := 16466)
  have hI := hI.k (a := 18) (b := 16466)
  have hE := hE.k (a := 18) (b := 16466)
  refine x_aast C (nlt rfl) rfl rfl (nlt rfl) rfl rfl (nle rfl) (by omega) (by omega) dX4_init_59 ?_
  refine x_iinc (lv' := [(1, .int (iI (3 + 1))), (0, .ref 55)]) C dX4_init_60 rfl (nlt rfl) rfl ?_
  refine Wx_lv (lv' := [(1, .int (iI (4))), (0, .ref 55)]) rfl ?_
  refine x_goto (tgt := 41) C dX4_init_63 (by decide) ?_
  refine x_iload_n (i := 1) C dX4_init_41 rfl rfl ?_
  refine x_iconst C dX4_init_42 ?_
  refine x_icmp_gt (tgt := 66) C dX4_init_43 (by decide) ⟨by omega, by omega⟩ ⟨by omega, by omega⟩ (fun h => by exfalso; omega) (fun h => ?_)
  clear h
  refine x_aload_n (i := 0) C dX4_init_46 rfl rfl ?_
  refine x_getRs (r := 59) C (xkgX_X4_20 rfl rfl) (nlt rfl) rfl rfl dX4_init_47 ?_
  refine x_iload_n (i := 1) C dX4_init_50 rfl rfl ?_
  refine x_new (a := 19) (b := 16471) C hG inX10 tyX10_ok rfl rfl nwX_X4_18.1 nwX_X4_18.2.1 nwX_X4_18.2.2 (fun j hj => by rcases (show j = 0 ∨ j = 1 ∨ j = 2 ∨ j = 3 ∨ j = 4 by omega) with rfl | rfl | rfl | rfl | rfl <;> rfl) (rbX_S 74 shX rfl rfl (by decide +kernel)) rfl rfl (by rw [eK.k]) (by rw [eN.k]) (nle rfl) (nle rfl) dX4_init_51 (fun q c C => ?_)
  show Wx _ _ _ (PX _ (dz 74 (upR (upR (upR (upR (upR (upR (upR (dz 59 (upR (dz 55 cz_X55) 55 0 (some 56))) 55 1 (some 59)) 55 2 (some 60)) 55 5 (some 61)) 59 0 (some 62)) 59 1 (some 65)) 59 2 (some 68)) 59 3 (some 71)))) _ _ [.ref 74, .int (iI (4)), .ref 59]
  have hG := hG.k (a := 19) (b := 16471)
  have hI := hI.k (a := 19) (b := 16471)
  have hE := hE.k (a := 19) (b := 16471)
  have had := had_up (q := q) (c := c) had (nle rfl)
  refine x_dup C dX4_init_54 rfl ?_
  refine x_null C dX4_init_55 ?_
  refine x_callG (host := "") (k := 74) (As := [.null]) (a := 21) (b' := 16481) C hG rfl ct_X74 (Or.inl (show CKB RX4 32 yX10_init cX10_init 2 none 1 from ckX4_32)) im_X10_init rfl rfl rfl (nle rfl) ⟨nle rfl, nle rfl⟩ rfl rfl (by rw [eK.k]) (by rw [eN.k]) (nle rfl) (nle rfl) dX4_init_56 (fun ad21 cA21 C hadk => ?_)
  have had : ∀ k, k < 56 → wA (mkW (bX D) 77 ad21 cA21) k = ad k := fun k hk => (hadk k (Nat.lt_of_lt_of_le hk (nle rfl))).trans (had k hk)
  clear hadk
  have hG := hG.k (a := 21) (b := 16481)
  have hI := hI.k (a := 21) (b := 16481)
  have hE := hE.k (a := 21) (b := 16481)
  refine x_aast C (nlt rfl) rfl rfl (nlt rfl) rfl rfl (nle rfl) (by omega) (by omega) dX4_init_59 ?_
  refine x_iinc (lv' := [(1, .int (iI (4 + 1))), (0, .ref 55)]) C dX4_init_60 rfl (nlt rfl) rfl ?_
  refine Wx_lv (lv' := [(1, .int (iI (5))), (0, .ref 55)]) rfl ?_
  refine x_goto (tgt := 41) C dX4_init_63 (by decide) ?_
  refine x_iload_n (i := 1) C dX4_init_41 rfl rfl ?_
  refine x_iconst C dX4_init_42 ?_
  refine x_icmp_gt (tgt := 66) C dX4_init_43 (by decide) ⟨by omega, by omega⟩ ⟨by omega, by omega⟩ (fun h => ?_) (fun h => by exfalso; omega)
  clear h
  refine Wx_PH (fun H h => PX_many (Y := cz_X55) (sh := shX) [55, 59] rfl (SL_upR rfl (SL_upR rfl (SL_upR rfl (SL_upR rfl (SL_upR rfl (SL_upR rfl (SL_upR rfl (SL_upR rfl (SL_dz rfl (SL_upR rfl (SL_dz rfl SL_rf))))))))))) (by decide +kernel) h) ?_
  exact x_vretG C rfl hE eK.k eN.k had dX4_init_66
def cz_X89 : XT := (upR (upR (upR (upR (dz 77 (upR (dz 54 cz_X54) 54 0 (some 55))) 54 1 (some 77)) 54 2 (some 82)) 54 3 (some 87)) 54 4 (some 88))
set_option maxHeartbeats 4000000 in
set_option maxRecDepth 100000 in
theorem ct_X89 {D : va_G} : MetG (bX D) yX0_init cX0_init 1 1 30 2 12 [.ref 89] 90 92 (dz 89 cz_X89) cz_X89 := by
  refine MetG.mk (own := RX0) (by decide +kernel) rfl rfl (nle rfl) (fun E ad cA C hG hI hE hk0 hn0 => ?_)
  refine Wx_lv (lv' := [(0, .ref 89)]) rfl ?_
  have had : ∀ k, k < 90 → wA (mkW (bX D) 90 ad cA) k = ad k := fun _ _ => rfl
  refine x_aload_n (i := 0) C dX0_init_0 rfl rfl ?_
  refine x_objInit C oiX0_3.1 oiX0_3.2.1 oiX0_3.2.2 (nle rfl) (nle rfl) dX0_init_1 ?_
  refine x_aload_n (i := 0) C dX0_init_4 rfl rfl ?_
  refine x_bipush C dX0_init_5 (by decide) ?_
  refine x_newarr (at0 := .int) (ty := .int) (q0 := 0) (nn := 6) (a0 := (6, .inl (fun _ => 0))) (kd := 1) (a := 1) (b := 6) C hG rfl acX_int (fun _ => rfl) (fun _ => rfl) rfl (by decide) rfl (nle rfl) (nle rfl) (rbX_S 90 shX rfl rfl (by decide +kernel)) rfl rfl (by rw [hk0]) (by rw [hn0]) (nle rfl) (nle rfl) dX0_init_7 (fun q c C => ?_)
  refine Wx_PH (fun H h => PX_num (k := 90) SB_dz (fun i => rfl) (fun i => rfl) (fun i => rfl) h) ?_
  show Wx _ _ _ (PX _ (dz 89 cz_X89)) _ _ [.ref 90, .ref 89]
  have hG := hG.k (a := 1) (b := 6)
  have hI := hI.k (a := 1) (b := 6)
  have hE := hE.k (a := 1) (b := 6)
  have had := had_up (q := q) (c := c) had (nle rfl)
  refine x_putF C hI (xkfX_X0_9 rfl rfl) (by first | exact Or.inl ⟨_, rfl⟩ | exact Or.inr ⟨_, rfl⟩) (nlt rfl) rfl dX0_init_9 ?_
  refine x_aload_n (i := 0) C dX0_init_12 rfl rfl ?_
  refine x_bipush C dX0_init_13 (by decide) ?_
  refine x_newarr (at0 := .int) (ty := .int) (q0 := 0) (nn := 6) (a0 := (6, .inl (fun _ => 0))) (kd := 1) (a := 2) (b := 12) C hG rfl acX_int (fun _ => rfl) (fun _ => rfl) rfl (by decide) rfl (nle rfl) (nle rfl) (rbX_S 91 shX rfl rfl (by decide +kernel)) rfl rfl (by rw [eK.k]) (by rw [eN.k]) (nle rfl) (nle rfl) dX0_init_15 (fun q c C => ?_)
  refine Wx_PH (fun H h => PX_num (k := 91) SB_dz (fun i => rfl) (fun i => rfl) (fun i => rfl) h) ?_
  show Wx _ _ _ (PX _ (upR (dz 89 cz_X89) 89 5 (some 90))) _ _ [.ref 91, .ref 89]
  have hG := hG.k (a := 2) (b := 12)
  have hI := hI.k (a := 2) (b := 12)
  have hE := hE.k (a := 2) (b := 12)
  have had := had_up (q := q) (c := c) had (nle rfl)
  refine x_putF C hI (xkfX_X0_15 rfl rfl) (by first | exact Or.inl ⟨_, rfl⟩ | exact Or.inr ⟨_, rfl⟩) (nlt rfl) rfl dX0_init_17 ?_
  refine Wx_PH (fun H h => PX_many (Y := cz_X89) (sh := shX) [89] rfl (SL_upR rfl (SL_upR rfl (SL_dz rfl SL_rf))) (by decide +kernel) h) ?_
  exact x_vretG C rfl hE eK.k eN.k had dX0_init_20
def cz_X92 : XT := (upR (upR (upR (upR (dz 77 (upR (dz 54 cz_X54) 54 0 (some 55))) 54 1 (some 77)) 54 2 (some 82)) 54 3 (some 87)) 54 4 (some 88))
set_option maxHeartbeats 4000000 in
set_option maxRecDepth 100000 in
theorem ct_X92 {D : va_G} : MetG (bX D) yX7_init cX7_init 2 1 30 2 8 [.ref 92, .ref 89] 93 95 (dz 92 cz_X92) cz_X92 := by
  refine MetG.mk (own := RX7) (by decide +kernel) rfl rfl (nle rfl) (fun E ad cA C hG hI hE hk0 hn0 => ?_)
  refine Wx_lv (lv' := [(0, .ref 92), (1, .ref 89)]) rfl ?_
  have had : ∀ k, k < 93 → wA (mkW (bX D) 93 ad cA) k = ad k := fun _ _ => rfl
  refine x_aload_n (i := 0) C dX7_init_0 rfl rfl ?_
  refine x_objInit C oiX7_3.1 oiX7_3.2.1 oiX7_3.2.2 (nle rfl) (nle rfl) dX7_init_1 ?_
  refine x_aload_n (i := 0) C dX7_init_4 rfl rfl ?_
  refine x_bipush C dX7_init_5 (by decide) ?_
  refine x_newarr (at0 := .int) (ty := .int) (q0 := 0) (nn := 6) (a0 := (6, .inl (fun _ => 0))) (kd := 1) (a := 1) (b := 6) C hG rfl acX_int (fun _ => rfl) (fun _ => rfl) rfl (by decide) rfl (nle rfl) (nle rfl) (rbX_S 93 shX rfl rfl (by decide +kernel)) rfl rfl (by rw [hk0]) (by rw [hn0]) (nle rfl) (nle rfl) dX7_init_7 (fun q c C => ?_)
  refine Wx_PH (fun H h => PX_num (k := 93) SB_dz (fun i => rfl) (fun i => rfl) (fun i => rfl) h) ?_
  show Wx _ _ _ (PX _ (dz 92 cz_X92)) _ _ [.ref 93, .ref 92]
  have hG := hG.k (a := 1) (b := 6)
  have hI := hI.k (a := 1) (b := 6)
  have hE := hE.k (a := 1) (b := 6)
  have had := had_up (q := q) (c := c) had (nle rfl)
  refine x_putF C hI (xkfX_X7_9 rfl rfl) (by first | exact Or.inl ⟨_, rfl⟩ | exact Or.inr ⟨_, rfl⟩) (nlt rfl) rfl dX7_init_9 ?_
  refine x_aload_n (i := 0) C dX7_init_12 rfl rfl ?_
  refine x_iconst C dX7_init_13 ?_
  refine x_newarr (at0 := .int) (ty := .int) (q0 := 0) (nn := 2) (a0 := (2, .inl (fun _ => 0))) (kd := 1) (a := 2) (b := 8) C hG rfl acX_int (fun _ => rfl) (fun _ => rfl) rfl (by decide) rfl (nle rfl) (nle rfl) (rbX_S 94 shX rfl rfl (by decide +kernel)) rfl rfl (by rw [eK.k]) (by rw [eN.k]) (nle rfl) (nle rfl) dX7_init_14 (fun q c C => ?_)
  refine Wx_PH (fun H h => PX_num (k := 94) SB_dz (fun i => rfl) (fun i => rfl) (fun i => rfl) h) ?_
  show Wx _ _ _ (PX _ (upR (dz 92 cz_X92) 92 3 (some 93))) _ _ [.ref 94, .ref 92]
  have hG := hG.k (a := 2) (b := 8)
  have hI := hI.k (a := 2) (b := 8)
  have hE := hE.k (a := 2) (b := 8)
  have had := had_up (q := q) (c := c) had (nle rfl)
  refine x_putF C hI (xkfX_X7_15 rfl rfl) (by first | exact Or.inl ⟨_, rfl⟩ | exact Or.inr ⟨_, rfl⟩) (nlt rfl) rfl dX7_init_16 ?_
  refine x_aload_n (i := 0) C dX7_init_19 rfl rfl ?_
  refine x_aload_n (i := 1) C dX7_init_20 rfl rfl ?_
  refine x_putR C (xkpX_X7_18 rfl rfl) (by first | exact Or.inl ⟨_, rfl⟩ | exact Or.inr ⟨_, rfl⟩) (nlt rfl) rfl dX7_init_21 ?_
  refine Wx_PH (fun H h => PX_many (Y := cz_X92) (sh := shX) [92] rfl (SL_upR rfl (SL_upR rfl (SL_upR rfl (SL_dz rfl SL_rf)))) (by decide +kernel) h) ?_
  exact x_vretG C rfl hE eK.k eN.k had dX7_init_24
def cz_X95 : XT := (upR (upR (upR (upR (upR (dz 77 (upR (dz 54 cz_X54) 54 0 (some 55))) 54 1 (some 77)) 54 2 (some 82)) 54 3 (some 87)) 54 4 (some 88)) 77 0 (some 92))
set_option maxHeartbeats 4000000 in
set_option maxRecDepth 100000 in
theorem ct_X95 {D : va_G} : MetG (bX D) yX7_init cX7_init 2 1 30 2 8 [.ref 95, .ref 89] 96 98 (dz 95 cz_X95) cz_X95 := by
  refine MetG.mk (own := RX7) (by decide +kernel) rfl rfl (nle rfl) (fun E ad cA C hG hI hE hk0 hn0 => ?_)
  refine Wx_lv (lv' := [(0, .ref 95), (1, .ref 89)]) rfl ?_
  have had : ∀ k, k < 96 → wA (mkW (bX D) 96 ad cA) k = ad k := fun _ _ => rfl
  refine x_aload_n (i := 0) C dX7_init_0 rfl rfl ?_
  refine x_objInit C oiX7_3.1 oiX7_3.2.1 oiX7_3.2.2 (nle rfl) (nle rfl) dX7_init_1 ?_
  refine x_aload_n (i := 0) C dX7_init_4 rfl rfl ?_
  refine x_bipush C dX7_init_5 (by decide) ?_
  refine x_newarr (at0 := .int) (ty := .int) (q0 := 0) (nn := 6) (a0 := (6, .inl (fun _ => 0))) (kd := 1) (a := 1) (b := 6) C hG rfl acX_int (fun _ => rfl) (fun _ => rfl) rfl (by decide) rfl (nle rfl) (nle rfl) (rbX_S 96 shX rfl rfl (by decide +kernel)) rfl rfl (by rw [hk0]) (by rw [hn0]) (nle rfl) (nle rfl) dX7_init_7 (fun q c C => ?_)
  refine Wx_PH (fun H h => PX_num (k := 96) SB_dz (fun i => rfl) (fun i => rfl) (fun i => rfl) h) ?_
  show Wx _ _ _ (PX _ (dz 95 cz_X95)) _ _ [.ref 96, .ref 95]
  have hG := hG.k (a := 1) (b := 6)
  have hI := hI.k (a := 1) (b := 6)
  have hE := hE.k (a := 1) (b := 6)
  have had := had_up (q := q) (c := c) had (nle rfl)
  refine x_putF C hI (xkfX_X7_9 rfl rfl) (by first | exact Or.inl ⟨_, rfl⟩ | exact Or.inr ⟨_, rfl⟩) (nlt rfl) rfl dX7_init_9 ?_
  refine x_aload_n (i := 0) C dX7_init_12 rfl rfl ?_
  refine x_iconst C dX7_init_13 ?_
  refine x_newarr (at0 := .int) (ty := .int) (q0 := 0) (nn := 2) (a0 := (2, .inl (fun _ => 0))) (kd := 1) (a := 2) (b := 8) C hG rfl acX_int (fun _ => rfl) (fun _ => rfl) rfl (by decide) rfl (nle rfl) (nle rfl) (rbX_S 97 shX rfl rfl (by decide +kernel)) rfl rfl (by rw [eK.k]) (by rw [eN.k]) (nle rfl) (nle rfl) dX7_init_14 (fun q c C => ?_)
  refine Wx_PH (fun H h => PX_num (k := 97) SB_dz (fun i => rfl) (fun i => rfl) (fun i => rfl) h) ?_
  show Wx _ _ _ (PX _ (upR (dz 95 cz_X95) 95 3 (some 96))) _ _ [.ref 97, .ref 95]
  have hG := hG.k (a := 2) (b := 8)
  have hI := hI.k (a := 2) (b := 8)
  have hE := hE.k (a := 2) (b := 8)
  have had := had_up (q := q) (c := c) had (nle rfl)
  refine x_putF C hI (xkfX_X7_15 rfl rfl) (by first | exact Or.inl ⟨_, rfl⟩ | exact Or.inr ⟨_, rfl⟩) (nlt rfl) rfl dX7_init_16 ?_
  refine x_aload_n (i := 0) C dX7_init_19 rfl rfl ?_
  refine x_aload_n (i := 1) C dX7_init_20 rfl rfl ?_
  refine x_putR C (xkpX_X7_18 rfl rfl) (by first | exact Or.inl ⟨_, rfl⟩ | exact Or.inr ⟨_, rfl⟩) (nlt rfl) rfl dX7_init_21 ?_
  refine Wx_PH (fun H h => PX_many (Y := cz_X95) (sh := shX) [95] rfl (SL_upR rfl (SL_upR rfl (SL_upR rfl (SL_dz rfl SL_rf)))) (by decide +kernel) h) ?_
  exact x_vretG C rfl hE eK.k eN.k had dX7_init_24
def cz_X98 : XT := (upR (upR (upR (upR (upR (upR (dz 77 (upR (dz 54 cz_X54) 54 0 (some 55))) 54 1 (some 77)) 54 2 (some 82)) 54 3 (some 87)) 54 4 (some 88)) 77 0 (some 92)) 77 1 (some 95))
set_option maxHeartbeats 4000000 in
set_option maxRecDepth 100000 in
theorem ct_X98 {D : va_G} : MetG (bX D) yX7_init cX7_init 2 1 30 2 8 [.ref 98, .ref 89] 99 101 (dz 98 cz_X98) cz_X98 := by
  refine MetG.mk (own := RX7) (by decide +kernel) rfl rfl (nle rfl) (fun E ad cA C hG hI hE hk0 hn0 => ?_)
  refine Wx_lv (lv' := [(0, .ref 98), (1, .ref 89)]) rfl ?_
  have had : ∀ k, k < 99 → wA (mkW (bX D) 99 ad cA) k = ad k := fun _ _ => rfl
  refine x_aload_n (i := 0) C dX7_init_0 rfl rfl ?_
  refine x_objInit C oiX7_3.1 oiX7_3.2.1 oiX7_3.2.2 (nle rfl) (nle rfl) dX7_init_1 ?_
  refine x_aload_n (i := 0) C dX7_init_4 rfl rfl ?_
  refine x_bipush C dX7_init_5 (by decide) ?_
  refine x_newarr (at0 := .int) (ty := .int) (q0 := 0) (nn := 6) (a0 := (6, .inl (fun _ => 0))) (kd := 1) (a := 1) (b := 6) C hG rfl acX_int (fun _ => rfl) (fun _ => rfl) rfl (by decide) rfl (nle rfl) (nle rfl) (rbX_S 99 shX rfl rfl (by decide +kernel)) rfl rfl (by rw [hk0]) (by rw [hn0]) (nle rfl) (nle rfl) dX7_init_7 (fun q c C => ?_)
  refine Wx_PH (fun H h => PX_num (k := 99) SB_dz (fun i => rfl) (fun i => rfl) (fun i => rfl) h) ?_
  show Wx _ _ _ (PX _ (dz 98 cz_X98)) _ _ [.ref 99, .ref 98]
  have hG := hG.k (a := 1) (b := 6)
  have hI := hI.k (a := 1) (b := 6)
  have hE := hE.k (a := 1) (b := 6)
  have had := had_up (q := q) (c := c) had (nle rfl)
  refine x_putF C hI (xkfX_X7_9 rfl rfl) (by first | exact Or.inl ⟨_, rfl⟩ | exact Or.inr ⟨_, rfl⟩) (nlt rfl) rfl dX7_init_9 ?_
  refine x_aload_n (i := 0) C dX7_init_12 rfl rfl ?_
  refine x_iconst C dX7_init_13 ?_
  refine x_newarr (at0 := .int) (ty := .int) (q0 := 0) (nn := 2) (a0 := (2, .inl (fun _ => 0))) (kd := 1) (a := 2) (b := 8) C hG rfl acX_int (fun _ => rfl) (fun _ => rfl) rfl (by decide) rfl (nle rfl) (nle rfl) (rbX_S 100 shX rfl rfl (by decide +kernel)) rfl rfl (by rw [eK.k]) (by rw [eN.k]) (nle rfl) (nle rfl) dX7_init_14 (fun q c C => ?_)
  refine Wx_PH (fun H h => PX_num (k := 100) SB_dz (fun i => rfl) (fun i => rfl) (fun i => rfl) h) ?_
  show Wx _ _ _ (PX _ (upR (dz 98 cz_X98) 98 3 (some 99))) _ _ [.ref 100, .ref 98]
  have hG := hG.k (a := 2) (b := 8)
  have hI := hI.k (a := 2) (b := 8)
  have hE := hE.k (a := 2) (b := 8)
  have had := had_up (q := q) (c := c) had (nle rfl)
  refine x_putF C hI (xkfX_X7_15 rfl rfl) (by first | exact Or.inl ⟨_, rfl⟩ | exact Or.inr ⟨_, rfl⟩) (nlt rfl) rfl dX7_init_16 ?_
  refine x_aload_n (i := 0) C dX7_init_19 rfl rfl ?_
  refine x_aload_n (i := 1) C dX7_init_20 rfl rfl ?_
  refine x_putR C (xkpX_X7_18 rfl rfl) (by first | exact Or.inl ⟨_, rfl⟩ | exact Or.inr ⟨_, rfl⟩) (nlt rfl) rfl dX7_init_21 ?_
  refine Wx_PH (fun H h => PX_many (Y := cz_X98) (sh := shX) [98] rfl (SL_upR rfl (SL_upR rfl (SL_upR rfl (SL_dz rfl SL_rf)))) (by decide +kernel) h) ?_
  exact x_vretG C rfl hE eK.k eN.k had dX7_init_24
def cz_X101 : XT := (upR (upR (upR (upR (upR (upR (upR (dz 77 (upR (dz 54 cz_X54) 54 0 (some 55))) 54 1 (some 77)) 54 2 (some 82)) 54 3 (some 87)) 54 4 (some 88)) 77 0 (some 92)) 77 1 (some 95)) 77 2 (some 98))
set_option maxHeartbeats 4000000 in
set_option maxRecDepth 100000 in
theorem ct_X101 {D : va_G} : MetG (bX D) yX7_init cX7_init 2 1 30 2 8 [.ref 101, .ref 89] 102 104 (dz 101 cz_X101) cz_X101 := by
  refine MetG.mk (own := RX7) (by decide +kernel) rfl rfl (nle rfl) (fun E ad cA C hG hI hE hk0 hn0 => ?_)
  refine Wx_lv (lv' := [(0, .ref 101), (1, .ref 89)]) rfl ?_
  have had : ∀ k, k < 102 → wA (mkW (bX D) 102 ad cA) k = ad k := fun _ _ => rfl
  refine x_aload_n (i := 0) C dX7_init_0 rfl rfl ?_
  refine x_objInit C oiX7_3.1 oiX7_3.2.1 oiX7_3.2.2 (nle rfl) (nle rfl) dX7_init_1 ?_
  refine x_aload_n (i := 0) C dX7_init_4 rfl rfl ?_
  refine x_bipush C dX7_init_5 (by decide) ?_
  refine x_newarr (at0 := .int) (ty := .int) (q0 := 0) (nn := 6) (a0 := (6, .inl (fun _ => 0))) (kd := 1) (a := 1) (b := 6) C hG rfl acX_int (fun _ => rfl) (fun _ => rfl) rfl (by decide) rfl (nle rfl) (nle rfl) (rbX_S 102 shX rfl rfl (by decide +kernel)) rfl rfl (by rw [hk0]) (by rw [hn0]) (nle rfl) (nle rfl) dX7_init_7 (fun q c C => ?_)
  refine Wx_PH (fun H h => PX_num (k := 102) SB_dz (fun i => rfl) (fun i => rfl) (fun i => rfl) h) ?_
  show Wx _ _ _ (PX _ (dz 101 cz_X101)) _ _ [.ref 102, .ref 101]
  have hG := hG.k (a := 1) (b := 6)
  have hI := hI.k (a := 1) (b := 6)
  have hE := hE.k (a := 1) (b := 6)
  have had := had_up (q := q) (c := c) had (nle rfl)
  refine x_putF C hI (xkfX_X7_9 rfl rfl) (by first | exact Or.inl ⟨_, rfl⟩ | exact Or.inr ⟨_, rfl⟩) (nlt rfl) rfl dX7_init_9 ?_
  refine x_aload_n (i := 0) C dX7_init_12 rfl rfl ?_
  refine x_iconst C dX7_init_13 ?_
  refine x_newarr (at0 := .int) (ty := .int) (q0 := 0) (nn := 2) (a0 := (2, .inl (fun _ => 0))) (kd := 1) (a := 2) (b := 8) C hG rfl acX_int (fun _ => rfl) (fun _ => rfl) rfl (by decide) rfl (nle rfl) (nle rfl) (rbX_S 103 shX rfl rfl (by decide +kernel)) rfl rfl (by rw [eK.k]) (by rw [eN.k]) (nle rfl) (nle rfl) dX7_init_14 (fun q c C => ?_)
  refine Wx_PH (fun H h => PX_num (k := 103) SB_dz (fun i => rfl) (fun i => rfl) (fun i => rfl) h) ?_
  show Wx _ _ _ (PX _ (upR (dz 101 cz_X101) 101 3 (some 102))) _ _ [.ref 103, .ref 101]
  have hG := hG.k (a := 2) (b := 8)
  have hI := hI.k (a := 2) (b := 8)
  have hE := hE.k (a := 2) (b := 8)
  have had := had_up (q := q) (c := c) had (nle rfl)
  refine x_putF C hI (xkfX_X7_15 rfl rfl) (by first | exact Or.inl ⟨_, rfl⟩ | exact Or.inr ⟨_, rfl⟩) (nlt rfl) rfl dX7_init_16 ?_
  refine x_aload_n (i := 0) C dX7_init_19 rfl rfl ?_
  refine x_aload_n (i := 1) C dX7_init_20 rfl rfl ?_
  refine x_putR C (xkpX_X7_18 rfl rfl) (by first | exact Or.inl ⟨_, rfl⟩ | exact Or.inr ⟨_, rfl⟩) (nlt rfl) rfl dX7_init_21 ?_
  refine Wx_PH (fun H h => PX_many (Y := cz_X101) (sh := shX) [101] rfl (SL_upR rfl (SL_upR rfl (SL_upR rfl (SL_dz rfl SL_rf)))) (by decide +kernel) h) ?_
  exact x_vretG C rfl hE eK.k eN.k had dX7_init_24
set_option maxHeartbeats 4000000 in
set_option maxRecDepth 100000 in
theorem ct_X54 {D : va_G} : MetG (bX D) yX1_init cX1_init 3 3 72 49 17162 [.ref 54] 55 104 (dz 54 cz_X54) cz_X54 := by
  refine MetG.mk (own := RX1) (by decide +kernel) rfl rfl (nle rfl) (fun E ad cA C hG hI hE hk0 hn0 => ?_)
  refine Wx_lv (lv' := [(0, .ref 54)]) rfl ?_
  have had : ∀ k, k < 55 → wA (mkW (bX D) 55 ad cA) k = ad k := fun _ _ => rfl
  refine x_aload_n (i := 0) C dX1_init_0 rfl rfl ?_
  refine x_objInit C oiX1_3.1 oiX1_3.2.1 oiX1_3.2.2 (nle rfl) (nle rfl) dX1_init_1 ?_
  refine x_aload_n (i := 0) C dX1_init_4 rfl rfl ?_
  refine x_new (a := 1) (b := 6) C hG inX4 tyX4_ok rfl rfl nwX_X1_9.1 nwX_X1_9.2.1 nwX_X1_9.2.2 (fun j hj => by rcases (show j = 0 ∨ j = 1 ∨ j = 2 ∨ j = 3 ∨ j = 4 ∨ j = 5 by omega) with rfl | rfl | rfl | rfl | rfl | rfl <;> rfl) (rbX_S 55 shX rfl rfl (by decide +kernel)) rfl rfl (by rw [hk0]) (by rw [hn0]) (nle rfl) (nle rfl) dX1_init_5 (fun q c C => ?_)
  show Wx _ _ _ (PX _ (dz 55 (dz 54 cz_X54))) _ _ [.ref 55, .ref 54]
  have hG := hG.k (a := 1) (b := 6)
  have hI := hI.k (a := 1) (b := 6)
  have hE := hE.k (a := 1) (b := 6)
  have had := had_up (q := q) (c := c) had (nle rfl)
  refine x_dup C dX1_init_8 rfl ?_
  refine x_callG (host := "") (k := 55) (As := []) (a := 22) (b' := 16487) C hG rfl ct_X55 (Or.inl (show CKB RX1 11 yX4_init cX4_init 2 none 0 from ckX1_11)) im_X4_init rfl rfl rfl (nle rfl) ⟨nle rfl, nle rfl⟩ rfl rfl (by rw [eK.k]) (by rw [eN.k]) (nle rfl) (nle rfl) dX1_init_9 (fun ad22 cA22 C hadk => ?_)
  have had : ∀ k, k < 55 → wA (mkW (bX D) 77 ad22 cA22) k = ad k := fun k hk => (hadk k (Nat.lt_of_lt_of_le hk (nle rfl))).trans (had k hk)
  clear hadk
  have hG := hG.k (a := 22) (b := 16487)
  have hI := hI.k (a := 22) (b := 16487)
  have hE := hE.k (a := 22) (b := 16487)
  refine x_putF C hI (xkfX_X1_12 rfl rfl) (by first | exact Or.inl ⟨_, rfl⟩ | exact Or.inr ⟨_, rfl⟩) (nlt rfl) rfl dX1_init_12 ?_
  refine x_aload_n (i := 0) C dX1_init_15 rfl rfl ?_
  refine x_iconst C dX1_init_16 ?_
  refine x_anew (nn := 4) (a := 23) (b := 16491) C hG naX1_18.1 naX1_18.2 rfl rfl (nle rfl) (rbX_S 77 shX rfl rfl (by decide +kernel)) rfl rfl (by rw [eK.k]) (by rw [eN.k]) (nle rfl) (nle rfl) dX1_init_17 (fun q c C => ?_)
  show Wx _ _ _ (PX _ (dz 77 (upR (dz 54 cz_X54) 54 0 (some 55)))) _ _ [.ref 77, .ref 54]
  have hG := hG.k (a := 23) (b := 16491)
  have hI := hI.k (a := 23) (b := 16491)
  have hE := hE.k (a := 23) (b := 16491)
  have had := had_up (q := q) (c := c) had (nle rfl)
  refine x_putF C hI (xkfX_X1_20 rfl rfl) (by first | exact Or.inl ⟨_, rfl⟩ | exact Or.inr ⟨_, rfl⟩) (nlt rfl) rfl dX1_init_20 ?_
  refine x_aload_n (i := 0) C dX1_init_23 rfl rfl ?_
  refine x_iconst C dX1_init_24 ?_
  refine x_bipush C dX1_init_25 (by decide) ?_
  refine x_mna (kd := 2) (q1 := 0) (kk0 := 110) (j0 := 5) (z := (110, .inr (.inl (fun _ => 0)))) (a := 28) (b := 16935) C hG maX1_24.1 maX1_24.2 acX_long (nlt rfl) rfl (by decide) rfl (fun _ h => h) (fun _ => rfl) rfl rfl (by decide) (by decide) (by decide) ⟨rfl, rfl, rfl, rfl, rfl⟩ ⟨rfl, rfl, rfl, rfl, rfl⟩ (fun i c fs hi => (by rcases (show i = 0 ∨ i = 1 ∨ i = 2 ∨ i = 3 by omega) with rfl | rfl | rfl | rfl <;> exact ⟨rfl, fun _ => rfl⟩)) (fun i hi => (by rcases (show i = 0 ∨ i = 1 ∨ i = 2 ∨ i = 3 by omega) with rfl | rfl | rfl | rfl <;> exact rfl)) (fun m hm => by rcases (show m = 0 ∨ m = 1 ∨ m = 2 ∨ m = 3 ∨ m = 4 by omega) with rfl | rfl | rfl | rfl | rfl; exact (show rbS 78 shX (upR (dz 77 (upR (dz 54 cz_X54) 54 0 (some 55))) 54 1 (some 77)) = true by decide +kernel); exact (show rbS 79 shX (upR (dz 77 (upR (dz 54 cz_X54) 54 0 (some 55))) 54 1 (some 77)) = true by decide +kernel); exact (show rbS 80 shX (upR (dz 77 (upR (dz 54 cz_X54) 54 0 (some 55))) 54 1 (some 77)) = true by decide +kernel); exact (show rbS 81 shX (upR (dz 77 (upR (dz 54 cz_X54) 54 0 (some 55))) 54 1 (some 77)) = true by decide +kernel); exact (show rbS 82 shX (upR (dz 77 (upR (dz 54 cz_X54) 54 0 (some 55))) 54 1 (some 77)) = true by decide +kernel)) rfl rfl (by rw [eK.k]) (by rw [eN.k]) (nle rfl) (nle rfl) dX1_init_27 (fun q r0 r1 r2 r3 cA cy C => ?_)
  have had := had_up (q := r0) (c := cy) had (nle rfl)
  have had := had_up (q := r1) (c := cy) had (nle rfl)
  have had := had_up (q := r2) (c := cy) had (nle rfl)
  have had := had_up (q := r3) (c := cy) had (nle rfl)
  have had := had_up (q := q) (c := cA) had (nle rfl)
  show Wx _ _ _ (PX _ (upR (dz 77 (upR (dz 54 cz_X54) 54 0 (some 55))) 54 1 (some 77))) _ _ [.ref 82, .ref 54]
  have hG := hG.k (a := 28) (b := 16935)
  have hI := hI.k (a := 28) (b := 16935)
  have hE := hE.k (a := 28) (b := 16935)
  refine x_putF C hI (xkfX_X1_26 rfl rfl) (by first | exact Or.inl ⟨_, rfl⟩ | exact Or.inr ⟨_, rfl⟩) (nlt rfl) rfl dX1_init_31 ?_
  refine x_aload_n (i := 0) C dX1_init_34 rfl rfl ?_
  refine x_iconst C dX1_init_35 ?_
  refine x_bipush C dX1_init_36 (by decide) ?_
  refine x_mna (kd := 1) (q1 := 0) (kk0 := 37) (j0 := 2) (z := (37, .inl (fun _ => 0))) (a := 33) (b := 17087) C hG maX1_29.1 maX1_29.2 acX_int (nlt rfl) rfl (by decide) rfl (fun _ h => h) (fun _ => rfl) rfl rfl (by decide) (by decide) (by decide) ⟨rfl, rfl, rfl, rfl, rfl⟩ ⟨rfl, rfl, rfl, rfl, rfl⟩ (fun i c fs hi => (by rcases (show i = 0 ∨ i = 1 ∨ i = 2 ∨ i = 3 by omega) with rfl | rfl | rfl | rfl <;> exact ⟨rfl, fun _ => rfl⟩)) (fun i hi => (by rcases (show i = 0 ∨ i = 1 ∨ i = 2 ∨ i = 3 by omega) with rfl | rfl | rfl | rfl <;> exact rfl)) (fun m hm => by rcases (show m = 0 ∨ m = 1 ∨ m = 2 ∨ m = 3 ∨ m = 4 by omega) with rfl | rfl | rfl | rfl | rfl; exact (show rbS 83 shX (upR (upR (dz 77 (upR (dz 54 cz_X54) 54 0 (some 55))) 54 1 (some 77)) 54 2 (some 82)) = true by decide +kernel); exact (show rbS 84 shX (upR (upR (dz 77 (upR (dz 54 cz_X54) 54 0 (some 55))) 54 1 (some 77)) 54 2 (some 82)) = true by decide +kernel); exact (show rbS 85 shX (upR (upR (dz 77 (upR (dz 54 cz_X54) 54 0 (some 55))) 54 1 (some 77)) 54 2 (some 82)) = true by decide +kernel); exact (show rbS 86 shX (upR (upR (dz 77 (upR (dz 54 cz_X54) 54 0 (some 55))) 54 1 (some 77)) 54 2 (some 82)) = true by decide +kernel); exact (show rbS 87 shX (upR (upR (dz 77 (upR (dz 54 cz_X54) 54 0 (some 55))) 54 1 (some 77)) 54 2 (some 82)) = true by decide +kernel)) rfl rfl (by rw [eK.k]) (by rw [eN.k]) (nle rfl) (nle rfl) dX1_init_38 (fun q r0 r1 r2 r3 cA cy C => ?_)
  have had := had_up (q := r0) (c := cy) had (nle rfl)
  have had := had_up (q := r1) (c := cy) had (nle rfl)
  have had := had_up (q := r2) (c := cy) had (nle rfl)
  have had := had_up (q := r3) (c := cy) had (nle rfl)
  have had := had_up (q := q) (c := cA) had (nle rfl)
  show Wx _ _ _ (PX _ (upR (upR (dz 77 (upR (dz 54 cz_X54) 54 0 (some 55))) 54 1 (some 77)) 54 2 (some 82))) _ _ [.ref 87, .ref 54]
  have hG := hG.k (a := 33) (b := 17087)
  have hI := hI.k (a := 33) (b := 17087)
  have hE := hE.k (a := 33) (b := 17087)
  refine x_putF C hI (xkfX_X1_31 rfl rfl) (by first | exact Or.inl ⟨_, rfl⟩ | exact Or.inr ⟨_, rfl⟩) (nlt rfl) rfl dX1_init_42 ?_
  refine x_aload_n (i := 0) C dX1_init_45 rfl rfl ?_
  refine x_iconst C dX1_init_46 ?_
  refine x_newarr (at0 := .int) (ty := .int) (q0 := 0) (nn := 4) (a0 := (4, .inl (fun _ => 0))) (kd := 1) (a := 34) (b := 17091) C hG rfl acX_int (fun _ => rfl) (fun _ => rfl) rfl (by decide) rfl (nle rfl) (nle rfl) (rbX_S 88 shX rfl rfl (by decide +kernel)) rfl rfl (by rw [eK.k]) (by rw [eN.k]) (nle rfl) (nle rfl) dX1_init_47 (fun q c C => ?_)
  refine Wx_PH (fun H h => PX_num (k := 88) SB_dz (fun i => rfl) (fun i => rfl) (fun i => rfl) h) ?_
  show Wx _ _ _ (PX _ (upR (upR (upR (dz 77 (upR (dz 54 cz_X54) 54 0 (some 55))) 54 1 (some 77)) 54 2 (some 82)) 54 3 (some 87))) _ _ [.ref 88, .ref 54]
  have hG := hG.k (a := 34) (b := 17091)
  have hI := hI.k (a := 34) (b := 17091)
  have hE := hE.k (a := 34) (b := 17091)
  have had := had_up (q := q) (c := c) had (nle rfl)
  refine x_putF C hI (xkfX_X1_34 rfl rfl) (by first | exact Or.inl ⟨_, rfl⟩ | exact Or.inr ⟨_, rfl⟩) (nlt rfl) rfl dX1_init_49 ?_
  refine x_new (a := 35) (b := 17098) C hG inX0 tyX0_ok rfl rfl nwX_X1_38.1 nwX_X1_38.2.1 nwX_X1_38.2.2 (fun j hj => by rcases (show j = 0 ∨ j = 1 ∨ j = 2 ∨ j = 3 ∨ j = 4 ∨ j = 5 ∨ j = 6 by omega) with rfl | rfl | rfl | rfl | rfl | rfl | rfl <;> rfl) (rbX_S 89 shX rfl rfl (by decide +kernel)) rfl rfl (by rw [eK.k]) (by rw [eN.k]) (nle rfl) (nle rfl) dX1_init_52 (fun q c C => ?_)
  show Wx _ _ _ (PX _ (dz 89 (upR (upR (upR (upR (dz 77 (upR (dz 54 cz_X54) 54 0 (some 55))) 54 1 (some 77)) 54 2 (some 82)) 54 3 (some 87)) 54 4 (some 88)))) _ _ [.ref 89]
  have hG := hG.k (a := 35) (b := 17098)
  have hI := hI.k (a := 35) (b := 17098)
  have hE := hE.k (a := 35) (b := 17098)
  have had := had_up (q := q) (c := c) had (nle rfl)
  refine x_dup C dX1_init_55 rfl ?_
  refine x_callG (k := 89) (As := []) (a := 37) (b' := 17110) C hG rfl ct_X89 (Or.inr ciX1_40) im_X0_init rfl rfl rfl (nle rfl) ⟨nle rfl, nle rfl⟩ rfl rfl (by rw [eK.k]) (by rw [eN.k]) (nle rfl) (nle rfl) dX1_init_56 (fun ad23 cA23 C hadk => ?_)
  have had : ∀ k, k < 55 → wA (mkW (bX D) 92 ad23 cA23) k = ad k := fun k hk => (hadk k (Nat.lt_of_lt_of_le hk (nle rfl))).trans (had k hk)
  clear hadk
  have hG := hG.k (a := 37) (b := 17110)
  have hI := hI.k (a := 37) (b := 17110)
  have hE := hE.k (a := 37) (b := 17110)
  refine x_astore_n (i := 1) (lv' := [(1, .ref 89), (0, .ref 54)]) C dX1_init_59 rfl (nlt rfl) rfl ?_
  refine x_iconst C dX1_init_60 ?_
  refine x_istore_n (i := 2) (lv' := [(2, .int (iI (0))), (1, .ref 89), (0, .ref 54)]) C dX1_init_61 rfl (nlt rfl) rfl ?_
  refine x_iload_n (i := 2) C dX1_init_62 rfl rfl ?_
  refine x_iconst C dX1_init_63 ?_
  refine x_icmp_gt (tgt := 87) C dX1_init_64 (by decide) ⟨by omega, by omega⟩ ⟨by omega, by omega⟩ (fun h => by exfalso; omega) (fun h => ?_)
  clear h
  refine x_aload_n (i := 0) C dX1_init_67 rfl rfl ?_
  refine x_getRs (r := 77) C (xkgX_X1_20 rfl rfl) (nlt rfl) rfl rfl dX1_init_68 ?_
  refine x_iload_n (i := 2) C dX1_init_71 rfl rfl ?_
  refine x_new (a := 38) (b := 17115) C hG inX7 tyX7_ok rfl rfl nwX_X1_18.1 nwX_X1_18.2.1 nwX_X1_18.2.2 (fun j hj => by rcases (show j = 0 ∨ j = 1 ∨ j = 2 ∨ j = 3 ∨ j = 4 by omega) with rfl | rfl | rfl | rfl | rfl <;> rfl) (rbX_S 92 shX rfl rfl (by decide +kernel)) rfl rfl (by rw [eK.k]) (by rw [eN.k]) (nle rfl) (nle rfl) dX1_init_72 (fun q c C => ?_)
  show Wx _ _ _ (PX _ (dz 92 (upR (upR (upR (upR (dz 77 (upR (dz 54 cz_X54) 54 0 (some 55))) 54 1 (some 77)) 54 2 (some 82)) 54 3 (some 87)) 54 4 (some 88)))) _ _ [.ref 92, .int (iI (0)), .ref 77]
  have hG := hG.k (a := 38) (b := 17115)
  have hI := hI.k (a := 38) (b := 17115)
  have hE := hE.k (a := 38) (b := 17115)
  have had := had_up (q := q) (c := c) had (nle rfl)
  refine x_dup C dX1_init_75 rfl ?_
  refine x_aload_n (i := 1) C dX1_init_76 rfl rfl ?_
  refine x_callG (host := "") (k := 92) (As := [.ref 89]) (a := 40) (b' := 17123) C hG rfl ct_X92 (Or.inl (show CKB RX1 41 yX7_init cX7_init 2 none 1 from ckX1_41)) im_X7_init rfl rfl rfl (nle rfl) ⟨nle rfl, nle rfl⟩ rfl rfl (by rw [eK.k]) (by rw [eN.k]) (nle rfl) (nle rfl) dX1_init_77 (fun ad24 cA24 C hadk => ?_)
  have had : ∀ k, k < 55 → wA (mkW (bX D) 95 ad24 cA24) k = ad k := fun k hk => (hadk k (Nat.lt_of_lt_of_le hk (nle rfl))).trans (had k hk)
  clear hadk
  have hG := hG.k (a := 40) (b := 17123)
  have hI := hI.k (a := 40) (b := 17123)
  have hE := hE.k (a := 40) (b := 17123)
  refine x_aast C (nlt rfl) rfl rfl (nlt rfl) rfl rfl (nle rfl) (by omega) (by omega) dX1_init_80 ?_
  refine x_iinc (lv' := [(2, .int (iI (0 + 1))), (1, .ref 89), (0, .ref 54)]) C dX1_init_81 rfl (nlt rfl) rfl ?_
  refine Wx_lv (lv' := [(2, .int (iI (1))), (1, .ref 89), (0, .ref 54)]) rfl ?_
  refine x_goto (tgt := 62) C dX1_init_84 (by decide) ?_
  refine x_iload_n (i := 2) C dX1_init_62 rfl rfl ?_
  refine x_iconst C dX1_init_63 ?_
  refine x_icmp_gt (tgt := 87) C dX1_init_64 (by decide) ⟨by omega, by omega⟩ ⟨by omega, by omega⟩ (fun h => by exfalso; omega) (fun h => ?_)
  clear h
  refine x_aload_n (i := 0) C dX1_init_67 rfl rfl ?_
  refine x_getRs (r := 77) C (xkgX_X1_20 rfl rfl) (nlt rfl) rfl rfl dX1_init_68 ?_
  refine x_iload_n (i := 2) C dX1_init_71 rfl rfl ?_
  refine x_new (a := 41) (b := 17128) C hG inX7 tyX7_ok rfl rfl nwX_X1_18.1 nwX_X1_18.2.1 nwX_X1_18.2.2 (fun j hj => by rcases (show j = 0 ∨ j = 1 ∨ j = 2 ∨ j = 3 ∨ j = 4 by omega) with rfl | rfl | rfl | rfl | rfl <;> rfl) (rbX_S 95 shX rfl rfl (by decide +kernel)) rfl rfl (by rw [eK.k]) (by rw [eN.k]) (nle rfl) (nle rfl) dX1_init_72 (fun q c C => ?_)
  show Wx _ _ _ (PX _ (dz 95 (upR (upR (upR (upR (upR (dz 77 (upR (dz 54 cz_X54) 54 0 (some 55))) 54 1 (some 77)) 54 2 (some 82)) 54 3 (some 87)) 54 4 (some 88)) 77 0 (some 92)))) _ _ [.ref 95, .int (iI (1)), .ref 77]
  have hG := hG.k (a := 41) (b := 17128)
  have hI := hI.k (a := 41) (b := 17128)
  have hE := hE.k (a := 41) (b := 17128)
  have had := had_up (q := q) (c := c) had (nle rfl)
  refine x_dup C dX1_init_75 rfl ?_
  refine x_aload_n (i := 1) C dX1_init_76 rfl rfl ?_
  refine x_callG (host := "") (k := 95) (As := [.ref 89]) (a := 43) (b' := 17136) C hG rfl ct_X95 (Or.inl (show CKB RX1 41 yX7_init cX7_init 2 none 1 from ckX1_41)) im_X7_init rfl rfl rfl (nle rfl) ⟨nle rfl, nle rfl⟩ rfl rfl (by rw [eK.k]) (by rw [eN.k]) (nle rfl) (nle rfl) dX1_init_77 (fun ad25 cA25 C hadk => ?_)
  have had : ∀ k, k < 55 → wA (mkW (bX D) 98 ad25 cA25) k = ad k := fun k hk => (hadk k (Nat.lt_of_lt_of_le hk (nle rfl))).trans (had k hk)
  clear hadk
  have hG := hG.k (a := 43) (b := 17136)
  have hI := hI.k (a := 43) (b := 17136)
  have hE := hE.k (a := 43) (b := 17136)
  refine x_aast C (nlt rfl) rfl rfl (nlt rfl) rfl rfl (nle rfl) (by omega) (by omega) dX1_init_80 ?_
  refine x_iinc (lv' := [(2, .int (iI (1 + 1))), (1, .ref 89), (0, .ref 54)]) C dX1_init_81 rfl (nlt rfl) rfl ?_
  refine Wx_lv (lv' := [(2, .int (iI (2))), (1, .ref 89), (0, .ref 54)]) rfl ?_
  refine x_goto (tgt := 62) C dX1_init_84 (by decide) ?_
  refine x_iload_n (i := 2) C dX1_init_62 rfl rfl ?_
  refine x_iconst C dX1_init_63 ?_
  refine x_icmp_gt (tgt := 87) C dX1_init_64 (by decide) ⟨by omega, by omega⟩ ⟨by omega, by omega⟩ (fun h => by exfalso; omega) (fun h => ?_)
  clear h
  refine x_aload_n (i := 0) C dX1_init_67 rfl rfl ?_
  refine x_getRs (r := 77) C (xkgX_X1_20 rfl rfl) (nlt rfl) rfl rfl dX1_init_68 ?_
  refine x_iload_n (i := 2) C dX1_init_71 rfl rfl ?_
  refine x_new (a := 44) (b := 17141) C hG inX7 tyX7_ok rfl rfl nwX_X1_18.1 nwX_X1_18.2.1 nwX_X1_18.2.2 (fun j hj => by rcases (show j = 0 ∨ j = 1 ∨ j = 2 ∨ j = 3 ∨ j = 4 by omega) with rfl | rfl | rfl | rfl | rfl <;> rfl) (rbX_S 98 shX rfl rfl (by decide +kernel)) rfl rfl (by rw [eK.k]) (by rw [eN.k]) (nle rfl) (nle rfl) dX1_init_72 (fun q c C => ?_)
  show Wx _ _ _ (PX _ (dz 98 (upR (upR (upR (upR (upR (upR (dz 77 (upR (dz 54 cz_X54) 54 0 (some 55))) 54 1 (some 77)) 54 2 (some 82)) 54 3 (some 87)) 54 4 (some 88)) 77 0 (some 92)) 77 1 (some 95)))) _ _ [.ref 98, .int (iI (2)), .ref 77]
  have hG := hG.k (a := 44) (b := 17141)
  have hI := hI.k (a := 44) (b := 17141)
  have hE := hE.k (a := 44) (b := 17141)
  have had := had_up (q := q) (c := c) had (nle rfl)
  refine x_dup C dX1_init_75 rfl ?_
  refine x_aload_n (i := 1) C dX1_init_76 rfl rfl ?_
  refine x_callG (host := "") (k := 98) (As := [.ref 89]) (a := 46) (b' := 17149) C hG rfl ct_X98 (Or.inl (show CKB RX1 41 yX7_init cX7_init 2 none 1 from ckX1_41)) im_X7_init rfl rfl rfl (nle rfl) ⟨nle rfl, nle rfl⟩ rfl rfl (by rw [eK.k]) (by rw [eN.k]) (nle rfl) (nle rfl) dX1_init_77 (fun ad26 cA26 C hadk => ?_)
  have had : ∀ k, k < 55 → wA (mkW (bX D) 101 ad26 cA26) k = ad k := fun k hk => (hadk k (Nat.lt_of_lt_of_le hk (nle rfl))).trans (had k hk)
  clear hadk
  have hG := hG.k (a := 46) (b := 17149)
  have hI := hI.k (a := 46) (b := 17149)
  have hE := hE.k (a := 46) (b := 17149)
  refine x_aast C (nlt rfl) rfl rfl (nlt rfl) rfl rfl (nle rfl) (by omega) (by omega) dX1_init_80 ?_
  refine x_iinc (lv' := [(2, .int (iI (2 + 1))), (1, .ref 89), (0, .ref 54)]) C dX1_init_81 rfl (nlt rfl) rfl ?_
  refine Wx_lv (lv' := [(2, .int (iI (3))), (1, .ref 89), (0, .ref 54)]) rfl ?_
  refine x_goto (tgt := 62) C dX1_init_84 (by decide) ?_
  refine x_iload_n (i := 2) C dX1_init_62 rfl rfl ?_
  refine x_iconst C dX1_init_63 ?_
  refine x_icmp_gt (tgt := 87) C dX1_init_64 (by decide) ⟨by omega, by omega⟩ ⟨by omega, by omega⟩ (fun h => by exfalso; omega) (fun h => ?_)
  clear h
  refine x_aload_n (i := 0) C dX1_init_67 rfl rfl ?_
  refine x_getRs (r := 77) C (xkgX_X1_20 rfl rfl) (nlt rfl) rfl rfl dX1_init_68 ?_
  refine x_iload_n (i := 2) C dX1_init_71 rfl rfl ?_
  refine x_new (a := 47) (b := 17154) C hG inX7 tyX7_ok rfl rfl nwX_X1_18.1 nwX_X1_18.2.1 nwX_X1_18.2.2 (fun j hj => by rcases (show j = 0 ∨ j = 1 ∨ j = 2 ∨ j = 3 ∨ j = 4 by omega) with rfl | rfl | rfl | rfl | rfl <;> rfl) (rbX_S 101 shX rfl rfl (by decide +kernel)) rfl rfl (by rw [eK.k]) (by rw [eN.k]) (nle rfl) (nle rfl) dX1_init_72 (fun q c C => ?_)
  show Wx _ _ _ (PX _ (dz 101 (upR (upR (upR (upR (upR (upR (upR (dz 77 (upR (dz 54 cz_X54) 54 0 (some 55))) 54 1 (some 77)) 54 2 (some 82)) 54 3 (some 87)) 54 4 (some 88)) 77 0 (some 92)) 77 1 (some 95)) 77 2 (some 98)))) _ _ [.ref 101, .int (iI (3)), .ref 77]
  have hG := hG.k (a := 47) (b := 17154)
  have hI := hI.k (a := 47) (b := 17154)
  have hE := hE.k (a := 47) (b := 17154)
  have had := had_up (q := q) (c := c) had (nle rfl)
  refine x_dup C dX1_init_75 rfl ?_
  refine x_aload_n (i := 1) C dX1_init_76 rfl rfl ?_
  refine x_callG (host := "") (k := 101) (As := [.ref 89]) (a := 49) (b' := 17162) C hG rfl ct_X101 (Or.inl (show CKB RX1 41 yX7_init cX7_init 2 none 1 from ckX1_41)) im_X7_init rfl rfl rfl (nle rfl) ⟨nle rfl, nle rfl⟩ rfl rfl (by rw [eK.k]) (by rw [eN.k]) (nle rfl) (nle rfl) dX1_init_77 (fun ad27 cA27 C hadk => ?_)
  have had : ∀ k, k < 55 → wA (mkW (bX D) 104 ad27 cA27) k = ad k := fun k hk => (hadk k (Nat.lt_of_lt_of_le hk (nle rfl))).trans (had k hk)
  clear hadk
  have hG := hG.k (a := 49) (b := 17162)
  have hI := hI.k (a := 49) (b := 17162)
  have hE := hE.k (a := 49) (b := 17162)
  refine x_aast C (nlt rfl) rfl rfl (nlt rfl) rfl rfl (nle rfl) (by omega) (by omega) dX1_init_80 ?_
  refine x_iinc (lv' := [(2, .int (iI (3 + 1))), (1, .ref 89), (0, .ref 54)]) C dX1_init_81 rfl (nlt rfl) rfl ?_
  refine Wx_lv (lv' := [(2, .int (iI (4))), (1, .ref 89), (0, .ref 54)]) rfl ?_
  refine x_goto (tgt := 62) C dX1_init_84 (by decide) ?_
  refine x_iload_n (i := 2) C dX1_init_62 rfl rfl ?_
  refine x_iconst C dX1_init_63 ?_
  refine x_icmp_gt (tgt := 87) C dX1_init_64 (by decide) ⟨by omega, by omega⟩ ⟨by omega, by omega⟩ (fun h => ?_) (fun h => by exfalso; omega)
  clear h
  refine Wx_PH (fun H h => PX_many (Y := cz_X54) (sh := shX) [54, 77] rfl (SL_upR rfl (SL_upR rfl (SL_upR rfl (SL_upR rfl (SL_upR rfl (SL_upR rfl (SL_upR rfl (SL_upR rfl (SL_dz rfl (SL_upR rfl (SL_dz rfl SL_rf))))))))))) (by decide +kernel) h) ?_
  exact x_vretG C rfl hE eK.k eN.k had dX1_init_87
def cz_X104 : XT := (upR (upR (upR (upR (upR (upR (upR (dz 19 (upR (dz 0 x0X) 0 0 (some 1))) 0 1 (some 19)) 0 2 (some 20)) 0 3 (some 21)) 0 4 (some 29)) 0 5 (some 38)) 0 6 (some 54)) 0 7 (some 55))
def cz_X110 : XT := (upR (dz 109 (upR (upR (dz 107 (upR (upR (upI (dz 104 cz_X104) 104 2 (-1)) 104 3 (some 105)) 104 4 (some 106))) 104 5 (some 107)) 104 6 (some 108))) 104 7 (some 109))
set_option maxHeartbeats 4000000 in
set_option maxRecDepth 100000 in
theorem ct_X110 {D : va_G} : MetG (bX D) yX0_init cX0_init 1 1 30 2 12 [.ref 110] 111 113 (dz 110 cz_X110) cz_X110 := by
  refine MetG.mk (own := RX0) (by decide +kernel) rfl rfl (nle rfl) (fun E ad cA C hG hI hE hk0 hn0 => ?_)
  refine Wx_lv (lv' := [(0, .ref 110)]) rfl ?_
  have had : ∀ k, k < 111 → wA (mkW (bX D) 111 ad cA) k = ad k := fun _ _ => rfl
  refine x_aload_n (i := 0) C dX0_init_0 rfl rfl ?_
  refine x_objInit C oiX0_3.1 oiX0_3.2.1 oiX0_3.2.2 (nle rfl) (nle rfl) dX0_init_1 ?_
  refine x_aload_n (i := 0) C dX0_init_4 rfl rfl ?_
  refine x_bipush C dX0_init_5 (by decide) ?_
  refine x_newarr (at0 := .int) (ty := .int) (q0 := 0) (nn := 6) (a0 := (6, .inl (fun _ => 0))) (kd := 1) (a := 1) (b := 6) C hG rfl acX_int (fun _ => rfl) (fun _ => rfl) rfl (by decide) rfl (nle rfl) (nle rfl) (rbX_S 111 shX rfl rfl (by decide +kernel)) rfl rfl (by rw [hk0]) (by rw [hn0]) (nle rfl) (nle rfl) dX0_init_7 (fun q c C => ?_)
  refine Wx_PH (fun H h => PX_num (k := 111) SB_dz (fun i => rfl) (fun i => rfl) (fun i => rfl) h) ?_
  show Wx _ _ _ (PX _ (dz 110 cz_X110)) _ _ [.ref 111, .ref 110]
  have hG := hG.k (a := 1) (b := 6)
  have hI := hI.k (a := 1) (b := 6)
  have hE := hE.k (a := 1) (b := 6)
  have had := had_up (q := q) (c := c) had (nle rfl)
  refine x_putF C hI (xkfX_X0_9 rfl rfl) (by first | exact Or.inl ⟨_, rfl⟩ | exact Or.inr ⟨_, rfl⟩) (nlt rfl) rfl dX0_init_9 ?_
  refine x_aload_n (i := 0) C dX0_init_12 rfl rfl ?_
  refine x_bipush C dX0_init_13 (by decide) ?_
  refine x_newarr (at0 := .int) (ty := .int) (q0 := 0) (nn := 6) (a0 := (6, .inl (fun _ => 0))) (kd := 1) (a := 2) (b := 12) C hG rfl acX_int (fun _ => rfl) (fun _ => rfl) rfl (by decide) rfl (nle rfl) (nle rfl) (rbX_S 112 shX rfl rfl (by decide +kernel)) rfl rfl (by rw [eK.k]) (by rw [eN.k]) (nle rfl) (nle rfl) dX0_init_15 (fun q c C => ?_)
  refine Wx_PH (fun H h => PX_num (k := 112) SB_dz (fun i => rfl) (fun i => rfl) (fun i => rfl) h) ?_
  show Wx _ _ _ (PX _ (upR (dz 110 cz_X110) 110 5 (some 111))) _ _ [.ref 112, .ref 110]
  have hG := hG.k (a := 2) (b := 12)
  have hI := hI.k (a := 2) (b := 12)
  have hE := hE.k (a := 2) (b := 12)
  have had := had_up (q := q) (c := c) had (nle rfl)
  refine x_putF C hI (xkfX_X0_15 rfl rfl) (by first | exact Or.inl ⟨_, rfl⟩ | exact Or.inr ⟨_, rfl⟩) (nlt rfl) rfl dX0_init_17 ?_
  refine Wx_PH (fun H h => PX_many (Y := cz_X110) (sh := shX) [110] rfl (SL_upR rfl (SL_upR rfl (SL_dz rfl SL_rf))) (by decide +kernel) h) ?_
  exact x_vretG C rfl hE eK.k eN.k had dX0_init_20
def cz_X113 : XT := (upR (upR (dz 109 (upR (upR (dz 107 (upR (upR (upI (dz 104 cz_X104) 104 2 (-1)) 104 3 (some 105)) 104 4 (some 106))) 104 5 (some 107)) 104 6 (some 108))) 104 7 (some 109)) 107 0 (some 110))
set_option maxHeartbeats 4000000 in
set_option maxRecDepth 100000 in
theorem ct_X113 {D : va_G} : MetG (bX D) yX0_init cX0_init 1 1 30 2 12 [.ref 113] 114 116 (dz 113 cz_X113) cz_X113 := by
  refine MetG.mk (own := RX0) (by decide +kernel) rfl rfl (nle rfl) (fun E ad cA C hG hI hE hk0 hn0 => ?_)
  refine Wx_lv (lv' := [(0, .ref 113)]) rfl ?_
  have had : ∀ k, k < 114 → wA (mkW (bX D) 114 ad cA) k = ad k := fun _ _ => rfl
  refine x_aload_n (i := 0) C dX0_init_0 rfl rfl ?_
  refine x_objInit C oiX0_3.1 oiX0_3.2.1 oiX0_3.2.2 (nle rfl) (nle rfl) dX0_init_1 ?_
  refine x_aload_n (i := 0) C dX0_init_4 rfl rfl ?_
  refine x_bipush C dX0_init_5 (by decide) ?_
  refine x_newarr (at0 := .int) (ty := .int) (q0 := 0) (nn := 6) (a0 := (6, .inl (fun _ => 0))) (kd := 1) (a := 1) (b := 6) C hG rfl acX_int (fun _ => rfl) (fun _ => rfl) rfl (by decide) rfl (nle rfl) (nle rfl) (rbX_S 114 shX rfl rfl (by decide +kernel)) rfl rfl (by rw [hk0]) (by rw [hn0]) (nle rfl) (nle rfl) dX0_init_7 (fun q c C => ?_)
  refine Wx_PH (fun H h => PX_num (k := 114) SB_dz (fun i => rfl) (fun i => rfl) (fun i => rfl) h) ?_
  show Wx _ _ _ (PX _ (dz 113 cz_X113)) _ _ [.ref 114, .ref 113]
  have hG := hG.k (a := 1) (b := 6)
  have hI := hI.k (a := 1) (b := 6)
  have hE := hE.k (a := 1) (b := 6)
  have had := had_up (q := q) (c := c) had (nle rfl)
  refine x_putF C hI (xkfX_X0_9 rfl rfl) (by first | exact Or.inl ⟨_, rfl⟩ | exact Or.inr ⟨_, rfl⟩) (nlt rfl) rfl dX0_init_9 ?_
  refine x_aload_n (i := 0) C dX0_init_12 rfl rfl ?_
  refine x_bipush C dX0_init_13 (by decide) ?_
  refine x_newarr (at0 := .int) (ty := .int) (q0 := 0) (nn := 6) (a0 := (6, .inl (fun _ => 0))) (kd := 1) (a := 2) (b := 12) C hG rfl acX_int (fun _ => rfl) (fun _ => rfl) rfl (by decide) rfl (nle rfl) (nle rfl) (rbX_S 115 shX rfl rfl (by decide +kernel)) rfl rfl (by rw [eK.k]) (by rw [eN.k]) (nle rfl) (nle rfl) dX0_init_15 (fun q c C => ?_)
  refine Wx_PH (fun H h => PX_num (k := 115) SB_dz (fun i => rfl) (fun i => rfl) (fun i => rfl) h) ?_
  show Wx _ _ _ (PX _ (upR (dz 113 cz_X113) 113 5 (some 114))) _ _ [.ref 115, .ref 113]
  have hG := hG.k (a := 2) (b := 12)
  have hI := hI.k (a := 2) (b := 12)
  have hE := hE.k (a := 2) (b := 12)
  have had := had_up (q := q) (c := c) had (nle rfl)
  refine x_putF C hI (xkfX_X0_15 rfl rfl) (by first | exact Or.inl ⟨_, rfl⟩ | exact Or.inr ⟨_, rfl⟩) (nlt rfl) rfl dX0_init_17 ?_
  refine Wx_PH (fun H h => PX_many (Y := cz_X113) (sh := shX) [113] rfl (SL_upR rfl (SL_upR rfl (SL_dz rfl SL_rf))) (by decide +kernel) h) ?_
  exact x_vretG C rfl hE eK.k eN.k had dX0_init_20
def cz_X116 : XT := (upR (upR (upR (dz 109 (upR (upR (dz 107 (upR (upR (upI (dz 104 cz_X104) 104 2 (-1)) 104 3 (some 105)) 104 4 (some 106))) 104 5 (some 107)) 104 6 (some 108))) 104 7 (some 109)) 107 0 (some 110)) 107 1 (some 113))
set_option maxHeartbeats 4000000 in
set_option maxRecDepth 100000 in
theorem ct_X116 {D : va_G} : MetG (bX D) yX2_init cX2_init 1 1 30 2 60 [.ref 116] 117 119 (dz 116 cz_X116) cz_X116 := by
  refine MetG.mk (own := RX2) (by decide +kernel) rfl rfl (nle rfl) (fun E ad cA C hG hI hE hk0 hn0 => ?_)
  refine Wx_lv (lv' := [(0, .ref 116)]) rfl ?_
  have had : ∀ k, k < 117 → wA (mkW (bX D) 117 ad cA) k = ad k := fun _ _ => rfl
  refine x_aload_n (i := 0) C dX2_init_0 rfl rfl ?_
  refine x_objInit C oiX2_3.1 oiX2_3.2.1 oiX2_3.2.2 (nle rfl) (nle rfl) dX2_init_1 ?_
  refine x_aload_n (i := 0) C dX2_init_4 rfl rfl ?_
  refine x_bipush C dX2_init_5 (by decide) ?_
  refine x_newarr (at0 := .long) (ty := .long) (q0 := 0) (nn := 30) (a0 := (30, .inr (.inl (fun _ => 0)))) (kd := 2) (a := 1) (b := 30) C hG rfl acX_long (fun _ => rfl) (fun _ => rfl) rfl (by decide) rfl (nle rfl) (nle rfl) (rbX_S 117 shX rfl rfl (by decide +kernel)) rfl rfl (by rw [hk0]) (by rw [hn0]) (nle rfl) (nle rfl) dX2_init_7 (fun q c C => ?_)
  refine Wx_PH (fun H h => PX_num (k := 117) SB_dz (fun i => rfl) (fun i => rfl) (fun i => rfl) h) ?_
  show Wx _ _ _ (PX _ (dz 116 cz_X116)) _ _ [.ref 117, .ref 116]
  have hG := hG.k (a := 1) (b := 30)
  have hI := hI.k (a := 1) (b := 30)
  have hE := hE.k (a := 1) (b := 30)
  have had := had_up (q := q) (c := c) had (nle rfl)
  refine x_putF C hI (xkfX_X2_9 rfl rfl) (by first | exact Or.inl ⟨_, rfl⟩ | exact Or.inr ⟨_, rfl⟩) (nlt rfl) rfl dX2_init_9 ?_
  refine x_aload_n (i := 0) C dX2_init_12 rfl rfl ?_
  refine x_bipush C dX2_init_13 (by decide) ?_
  refine x_newarr (at0 := .int) (ty := .int) (q0 := 0) (nn := 30) (a0 := (30, .inl (fun _ => 0))) (kd := 1) (a := 2) (b := 60) C hG rfl acX_int (fun _ => rfl) (fun _ => rfl) rfl (by decide) rfl (nle rfl) (nle rfl) (rbX_S 118 shX rfl rfl (by decide +kernel)) rfl rfl (by rw [eK.k]) (by rw [eN.k]) (nle rfl) (nle rfl) dX2_init_15 (fun q c C => ?_)
  refine Wx_PH (fun H h => PX_num (k := 118) SB_dz (fun i => rfl) (fun i => rfl) (fun i => rfl) h) ?_
  show Wx _ _ _ (PX _ (upR (dz 116 cz_X116) 116 1 (some 117))) _ _ [.ref 118, .ref 116]
  have hG := hG.k (a := 2) (b := 60)
  have hI := hI.k (a := 2) (b := 60)
  have hE := hE.k (a := 2) (b := 60)
  have had := had_up (q := q) (c := c) had (nle rfl)
  refine x_putF C hI (xkfX_X2_15 rfl rfl) (by first | exact Or.inl ⟨_, rfl⟩ | exact Or.inr ⟨_, rfl⟩) (nlt rfl) rfl dX2_init_17 ?_
  refine Wx_PH (fun H h => PX_many (Y := cz_X116) (sh := shX) [116] rfl (SL_upR rfl (SL_upR rfl (SL_dz rfl SL_rf))) (by decide +kernel) h) ?_
  exact x_vretG C rfl hE eK.k eN.k had dX2_init_20
def cz_X119 : XT := (upR (upR (upR (upR (dz 109 (upR (upR (dz 107 (upR (upR (upI (dz 104 cz_X104) 104 2 (-1)) 104 3 (some 105)) 104 4 (some 106))) 104 5 (some 107)) 104 6 (some 108))) 104 7 (some 109)) 107 0 (some 110)) 107 1 (some 113)) 109 0 (some 116))
set_option maxHeartbeats 4000000 in
set_option maxRecDepth 100000 in
theorem ct_X119 {D : va_G} : MetG (bX D) yX2_init cX2_init 1 1 30 2 60 [.ref 119] 120 122 (dz 119 cz_X119) cz_X119 := by
  refine MetG.mk (own := RX2) (by decide +kernel) rfl rfl (nle rfl) (fun E ad cA C hG hI hE hk0 hn0 => ?_)
  refine Wx_lv (lv' := [(0, .ref 119)]) rfl ?_
  have had : ∀ k, k < 120 → wA (mkW (bX D) 120 ad cA) k = ad k := fun _ _ => rfl
  refine x_aload_n (i := 0) C dX2_init_0 rfl rfl ?_
  refine x_objInit C oiX2_3.1 oiX2_3.2.1 oiX2_3.2.2 (nle rfl) (nle rfl) dX2_init_1 ?_
  refine x_aload_n (i := 0) C dX2_init_4 rfl rfl ?_
  refine x_bipush C dX2_init_5 (by decide) ?_
  refine x_newarr (at0 := .long) (ty := .long) (q0 := 0) (nn := 30) (a0 := (30, .inr (.inl (fun _ => 0)))) (kd := 2) (a := 1) (b := 30) C hG rfl acX_long (fun _ => rfl) (fun _ => rfl) rfl (by decide) rfl (nle rfl) (nle rfl) (rbX_S 120 shX rfl rfl (by decide +kernel)) rfl rfl (by rw [hk0]) (by rw [hn0]) (nle rfl) (nle rfl) dX2_init_7 (fun q c C => ?_)
  refine Wx_PH (fun H h => PX_num (k := 120) SB_dz (fun i => rfl) (fun i => rfl) (fun i => rfl) h) ?_
  show Wx _ _ _ (PX _ (dz 119 cz_X119)) _ _ [.ref 120, .ref 119]
  have hG := hG.k (a := 1) (b := 30)
  have hI := hI.k (a := 1) (b := 30)
  have hE := hE.k (a := 1) (b := 30)
  have had := had_up (q := q) (c := c) had (nle rfl)
  refine x_putF C hI (xkfX_X2_9 rfl rfl) (by first | exact Or.inl ⟨_, rfl⟩ | exact Or.inr ⟨_, rfl⟩) (nlt rfl) rfl dX2_init_9 ?_
  refine x_aload_n (i := 0) C dX2_init_12 rfl rfl ?_
  refine x_bipush C dX2_init_13 (by decide) ?_
  refine x_newarr (at0 := .int) (ty := .int) (q0 := 0) (nn := 30) (a0 := (30, .inl (fun _ => 0))) (kd := 1) (a := 2) (b := 60) C hG rfl acX_int (fun _ => rfl) (fun _ => rfl) rfl (by decide) rfl (nle rfl) (nle rfl) (rbX_S 121 shX rfl rfl (by decide +kernel)) rfl rfl (by rw [eK.k]) (by rw [eN.k]) (nle rfl) (nle rfl) dX2_init_15 (fun q c C => ?_)
  refine Wx_PH (fun H h => PX_num (k := 121) SB_dz (fun i => rfl) (fun i => rfl) (fun i => rfl) h) ?_
  show Wx _ _ _ (PX _ (upR (dz 119 cz_X119) 119 1 (some 120))) _ _ [.ref 121, .ref 119]
  have hG := hG.k (a := 2) (b := 60)
  have hI := hI.k (a := 2) (b := 60)
  have hE := hE.k (a := 2) (b := 60)
  have had := had_up (q := q) (c := c) had (nle rfl)
  refine x_putF C hI (xkfX_X2_15 rfl rfl) (by first | exact Or.inl ⟨_, rfl⟩ | exact Or.inr ⟨_, rfl⟩) (nlt rfl) rfl dX2_init_17 ?_
  refine Wx_PH (fun H h => PX_many (Y := cz_X119) (sh := shX) [119] rfl (SL_upR rfl (SL_upR rfl (SL_dz rfl SL_rf))) (by decide +kernel) h) ?_
  exact x_vretG C rfl hE eK.k eN.k had dX2_init_20
set_option maxHeartbeats 4000000 in
set_option maxRecDepth 100000 in
theorem ct_X104 {D : va_G} : MetG (bX D) yX8_init cX8_init 2 2 50 17 774 [.ref 104] 105 122 (dz 104 cz_X104) cz_X104 := by
  refine MetG.mk (own := RX8) (by decide +kernel) rfl rfl (nle rfl) (fun E ad cA C hG hI hE hk0 hn0 => ?_)
  refine Wx_lv (lv' := [(0, .ref 104)]) rfl ?_
  have had : ∀ k, k < 105 → wA (mkW (bX D) 105 ad cA) k = ad k := fun _ _ => rfl
  refine x_aload_n (i := 0) C dX8_init_0 rfl rfl ?_
  refine x_objInit C oiX8_3.1 oiX8_3.2.1 oiX8_3.2.2 (nle rfl) (nle rfl) dX8_init_1 ?_
  refine x_aload_n (i := 0) C dX8_init_4 rfl rfl ?_
  refine x_iconst C dX8_init_5 ?_
  refine x_putI C (xkpX_X8_9 rfl rfl) (nlt rfl) rfl dX8_init_6 ?_
  refine x_aload_n (i := 0) C dX8_init_9 rfl rfl ?_
  refine x_sipush C dX8_init_10 (by decide) ?_
  refine x_newarr (at0 := .int) (ty := .int) (q0 := 0) (nn := 600) (a0 := (600, .inl (fun _ => 0))) (kd := 1) (a := 1) (b := 600) C hG rfl acX_int (fun _ => rfl) (fun _ => rfl) rfl (by decide) rfl (nle rfl) (nle rfl) (rbX_S 105 shX rfl rfl (by decide +kernel)) rfl rfl (by rw [hk0]) (by rw [hn0]) (nle rfl) (nle rfl) dX8_init_13 (fun q c C => ?_)
  refine Wx_PH (fun H h => PX_num (k := 105) SB_dz (fun i => rfl) (fun i => rfl) (fun i => rfl) h) ?_
  show Wx _ _ _ (PX _ (upI (dz 104 cz_X104) 104 2 (-1))) _ _ [.ref 105, .ref 104]
  have hG := hG.k (a := 1) (b := 600)
  have hI := hI.k (a := 1) (b := 600)
  have hE := hE.k (a := 1) (b := 600)
  have had := had_up (q := q) (c := c) had (nle rfl)
  refine x_putF C hI (xkfX_X8_15 rfl rfl) (by first | exact Or.inl ⟨_, rfl⟩ | exact Or.inr ⟨_, rfl⟩) (nlt rfl) rfl dX8_init_15 ?_
  refine x_aload_n (i := 0) C dX8_init_18 rfl rfl ?_
  refine x_iconst C dX8_init_19 ?_
  refine x_newarr (at0 := .int) (ty := .int) (q0 := 0) (nn := 3) (a0 := (3, .inl (fun _ => 0))) (kd := 1) (a := 2) (b := 603) C hG rfl acX_int (fun _ => rfl) (fun _ => rfl) rfl (by decide) rfl (nle rfl) (nle rfl) (rbX_S 106 shX rfl rfl (by decide +kernel)) rfl rfl (by rw [eK.k]) (by rw [eN.k]) (nle rfl) (nle rfl) dX8_init_20 (fun q c C => ?_)
  refine Wx_PH (fun H h => PX_num (k := 106) SB_dz (fun i => rfl) (fun i => rfl) (fun i => rfl) h) ?_
  show Wx _ _ _ (PX _ (upR (upI (dz 104 cz_X104) 104 2 (-1)) 104 3 (some 105))) _ _ [.ref 106, .ref 104]
  have hG := hG.k (a := 2) (b := 603)
  have hI := hI.k (a := 2) (b := 603)
  have hE := hE.k (a := 2) (b := 603)
  have had := had_up (q := q) (c := c) had (nle rfl)
  refine x_putF C hI (xkfX_X8_19 rfl rfl) (by first | exact Or.inl ⟨_, rfl⟩ | exact Or.inr ⟨_, rfl⟩) (nlt rfl) rfl dX8_init_22 ?_
  refine x_aload_n (i := 0) C dX8_init_25 rfl rfl ?_
  refine x_iconst C dX8_init_26 ?_
  refine x_anew (nn := 2) (a := 3) (b := 605) C hG naX8_22.1 naX8_22.2 rfl rfl (nle rfl) (rbX_S 107 shX rfl rfl (by decide +kernel)) rfl rfl (by rw [eK.k]) (by rw [eN.k]) (nle rfl) (nle rfl) dX8_init_27 (fun q c C => ?_)
  show Wx _ _ _ (PX _ (dz 107 (upR (upR (upI (dz 104 cz_X104) 104 2 (-1)) 104 3 (some 105)) 104 4 (some 106)))) _ _ [.ref 107, .ref 104]
  have hG := hG.k (a := 3) (b := 605)
  have hI := hI.k (a := 3) (b := 605)
  have hE := hE.k (a := 3) (b := 605)
  have had := had_up (q := q) (c := c) had (nle rfl)
  refine x_putF C hI (xkfX_X8_24 rfl rfl) (by first | exact Or.inl ⟨_, rfl⟩ | exact Or.inr ⟨_, rfl⟩) (nlt rfl) rfl dX8_init_30 ?_
  refine x_aload_n (i := 0) C dX8_init_33 rfl rfl ?_
  refine x_iconst C dX8_init_34 ?_
  refine x_newarr (at0 := .long) (ty := .long) (q0 := 0) (nn := 3) (a0 := (3, .inr (.inl (fun _ => 0)))) (kd := 2) (a := 4) (b := 608) C hG rfl acX_long (fun _ => rfl) (fun _ => rfl) rfl (by decide) rfl (nle rfl) (nle rfl) (rbX_S 108 shX rfl rfl (by decide +kernel)) rfl rfl (by rw [eK.k]) (by rw [eN.k]) (nle rfl) (nle rfl) dX8_init_35 (fun q c C => ?_)
  refine Wx_PH (fun H h => PX_num (k := 108) SB_dz (fun i => rfl) (fun i => rfl) (fun i => rfl) h) ?_
  show Wx _ _ _ (PX _ (upR (dz 107 (upR (upR (upI (dz 104 cz_X104) 104 2 (-1)) 104 3 (some 105)) 104 4 (some 106))) 104 5 (some 107))) _ _ [.ref 108, .ref 104]
  have hG := hG.k (a := 4) (b := 608)
  have hI := hI.k (a := 4) (b := 608)
  have hE := hE.k (a := 4) (b := 608)
  have had := had_up (q := q) (c := c) had (nle rfl)
  refine x_putF C hI (xkfX_X8_28 rfl rfl) (by first | exact Or.inl ⟨_, rfl⟩ | exact Or.inr ⟨_, rfl⟩) (nlt rfl) rfl dX8_init_37 ?_
  refine x_aload_n (i := 0) C dX8_init_40 rfl rfl ?_
  refine x_iconst C dX8_init_41 ?_
  refine x_anew (nn := 2) (a := 5) (b := 610) C hG naX8_32.1 naX8_32.2 rfl rfl (nle rfl) (rbX_S 109 shX rfl rfl (by decide +kernel)) rfl rfl (by rw [eK.k]) (by rw [eN.k]) (nle rfl) (nle rfl) dX8_init_42 (fun q c C => ?_)
  show Wx _ _ _ (PX _ (dz 109 (upR (upR (dz 107 (upR (upR (upI (dz 104 cz_X104) 104 2 (-1)) 104 3 (some 105)) 104 4 (some 106))) 104 5 (some 107)) 104 6 (some 108)))) _ _ [.ref 109, .ref 104]
  have hG := hG.k (a := 5) (b := 610)
  have hI := hI.k (a := 5) (b := 610)
  have hE := hE.k (a := 5) (b := 610)
  have had := had_up (q := q) (c := c) had (nle rfl)
  refine x_putF C hI (xkfX_X8_34 rfl rfl) (by first | exact Or.inl ⟨_, rfl⟩ | exact Or.inr ⟨_, rfl⟩) (nlt rfl) rfl dX8_init_45 ?_
  refine x_iconst C dX8_init_48 ?_
  refine x_istore_n (i := 1) (lv' := [(1, .int (iI (0))), (0, .ref 104)]) C dX8_init_49 rfl (nlt rfl) rfl ?_
  refine x_iload_n (i := 1) C dX8_init_50 rfl rfl ?_
  refine x_iconst C dX8_init_51 ?_
  refine x_icmp_ge (tgt := 74) C dX8_init_52 (by decide) ⟨by omega, by omega⟩ ⟨by omega, by omega⟩ (fun h => by exfalso; omega) (fun h => ?_)
  clear h
  refine x_aload_n (i := 0) C dX8_init_55 rfl rfl ?_
  refine x_getRs (r := 107) C (xkgX_X8_24 rfl rfl) (nlt rfl) rfl rfl dX8_init_56 ?_
  refine x_iload_n (i := 1) C dX8_init_59 rfl rfl ?_
  refine x_new (a := 6) (b := 617) C hG inX0 tyX0_ok rfl rfl nwX_X8_22.1 nwX_X8_22.2.1 nwX_X8_22.2.2 (fun j hj => by rcases (show j = 0 ∨ j = 1 ∨ j = 2 ∨ j = 3 ∨ j = 4 ∨ j = 5 ∨ j = 6 by omega) with rfl | rfl | rfl | rfl | rfl | rfl | rfl <;> rfl) (rbX_S 110 shX rfl rfl (by decide +kernel)) rfl rfl (by rw [eK.k]) (by rw [eN.k]) (nle rfl) (nle rfl) dX8_init_60 (fun q c C => ?_)
  show Wx _ _ _ (PX _ (dz 110 (upR (dz 109 (upR (upR (dz 107 (upR (upR (upI (dz 104 cz_X104) 104 2 (-1)) 104 3 (some 105)) 104 4 (some 106))) 104 5 (some 107)) 104 6 (some 108))) 104 7 (some 109)))) _ _ [.ref 110, .int (iI (0)), .ref 107]
  have hG := hG.k (a := 6) (b := 617)
  have hI := hI.k (a := 6) (b := 617)
  have hE := hE.k (a := 6) (b := 617)
  have had := had_up (q := q) (c := c) had (nle rfl)
  refine x_dup C dX8_init_63 rfl ?_
  refine x_callG (k := 110) (As := []) (a := 8) (b' := 629) C hG rfl ct_X110 (Or.inr ciX8_38) im_X0_init rfl rfl rfl (nle rfl) ⟨nle rfl, nle rfl⟩ rfl rfl (by rw [eK.k]) (by rw [eN.k]) (nle rfl) (nle rfl) dX8_init_64 (fun ad29 cA29 C hadk => ?_)
  have had : ∀ k, k < 105 → wA (mkW (bX D) 113 ad29 cA29) k = ad k := fun k hk => (hadk k (Nat.lt_of_lt_of_le hk (nle rfl))).trans (had k hk)
  clear hadk
  have hG := hG.k (a := 8) (b := 629)
  have hI := hI.k (a := 8) (b := 629)
  have hE := hE.k (a := 8) (b := 629)
  refine x_aast C (nlt rfl) rfl rfl (nlt rfl) rfl rfl (nle rfl) (by omega) (by omega) dX8_init_67 ?_
  refine x_iinc (lv' := [(1, .int (iI (0 + 1))), (0, .ref 104)]) C dX8_init_68 rfl (nlt rfl) rfl ?_
  refine Wx_lv (lv' := [(1, .int (iI (1))), (0, .ref 104)]) rfl ?_
  refine x_goto (tgt := 50) C dX8_init_71 (by decide) ?_
  refine x_iload_n (i := 1) C dX8_init_50 rfl rfl ?_
  refine x_iconst C dX8_init_51 ?_
  refine x_icmp_ge (tgt := 74) C dX8_init_52 (by decide) ⟨by omega, by omega⟩ ⟨by omega, by omega⟩ (fun h => by exfalso; omega) (fun h => ?_)
  clear h
  refine x_aload_n (i := 0) C dX8_init_55 rfl rfl ?_
  refine x_getRs (r := 107) C (xkgX_X8_24 rfl rfl) (nlt rfl) rfl rfl dX8_init_56 ?_
  refine x_iload_n (i := 1) C dX8_init_59 rfl rfl ?_
  refine x_new (a := 9) (b := 636) C hG inX0 tyX0_ok rfl rfl nwX_X8_22.1 nwX_X8_22.2.1 nwX_X8_22.2.2 (fun j hj => by rcases (show j = 0 ∨ j = 1 ∨ j = 2 ∨ j = 3 ∨ j = 4 ∨ j = 5 ∨ j = 6 by omega) with rfl | rfl | rfl | rfl | rfl | rfl | rfl <;> rfl) (rbX_S 113 shX rfl rfl (by decide +kernel)) rfl rfl (by rw [eK.k]) (by rw [eN.k]) (nle rfl) (nle rfl) dX8_init_60 (fun q c C => ?_)
  show Wx _ _ _ (PX _ (dz 113 (upR (upR (dz 109 (upR (upR (dz 107 (upR (upR (upI (dz 104 cz_X104) 104 2 (-1)) 104 3 (some 105)) 104 4 (some 106))) 104 5 (some 107)) 104 6 (some 108))) 104 7 (some 109)) 107 0 (some 110)))) _ _ [.ref 113, .int (iI (1)), .ref 107]
  have hG := hG.k (a := 9) (b := 636)
  have hI := hI.k (a := 9) (b := 636)
  have hE := hE.k (a := 9) (b := 636)
  have had := had_up (q := q) (c := c) had (nle rfl)
  refine x_dup C dX8_init_63 rfl ?_
  refine x_callG (k := 113) (As := []) (a := 11) (b' := 648) C hG rfl ct_X113 (Or.inr ciX8_38) im_X0_init rfl rfl rfl (nle rfl) ⟨nle rfl, nle rfl⟩ rfl rfl (by rw [eK.k]) (by rw [eN.k]) (nle rfl) (nle rfl) dX8_init_64 (fun ad30 cA30 C hadk => ?_)
  have had : ∀ k, k < 105 → wA (mkW (bX D) 116 ad30 cA30) k = ad k := fun k hk => (hadk k (Nat.lt_of_lt_of_le hk (nle rfl))).trans (had k hk)
  clear hadk
  have hG := hG.k (a := 11) (b := 648)
  have hI := hI.k (a := 11) (b := 648)
  have hE := hE.k (a := 11) (b := 648)
  refine x_aast C (nlt rfl) rfl rfl (nlt rfl) rfl rfl (nle rfl) (by omega) (by omega) dX8_init_67 ?_
  refine x_iinc (lv' := [(1, .int (iI (1 + 1))), (0, .ref 104)]) C dX8_init_68 rfl (nlt rfl) rfl ?_
  refine Wx_lv (lv' := [(1, .int (iI (2))), (0, .ref 104)]) rfl ?_
  refine x_goto (tgt := 50) C dX8_init_71 (by decide) ?_
  refine x_iload_n (i := 1) C dX8_init_50 rfl rfl ?_
  refine x_iconst C dX8_init_51 ?_
  refine x_icmp_ge (tgt := 74) C dX8_init_52 (by decide) ⟨by omega, by omega⟩ ⟨by omega, by omega⟩ (fun h => ?_) (fun h => by exfalso; omega)
  clear h
  refine x_iconst C dX8_init_74 ?_
  refine x_istore_n (i := 1) (lv' := [(1, .int (iI (0))), (0, .ref 104)]) C dX8_init_75 rfl (nlt rfl) rfl ?_
  refine x_iload_n (i := 1) C dX8_init_76 rfl rfl ?_
  refine x_iconst C dX8_init_77 ?_
  refine x_icmp_ge (tgt := 100) C dX8_init_78 (by decide) ⟨by omega, by omega⟩ ⟨by omega, by omega⟩ (fun h => by exfalso; omega) (fun h => ?_)
  clear h
  refine x_aload_n (i := 0) C dX8_init_81 rfl rfl ?_
  refine x_getRs (r := 109) C (xkgX_X8_34 rfl rfl) (nlt rfl) rfl rfl dX8_init_82 ?_
  refine x_iload_n (i := 1) C dX8_init_85 rfl rfl ?_
  refine x_new (a := 12) (b := 651) C hG inX2 tyX2_ok rfl rfl nwX_X8_32.1 nwX_X8_32.2.1 nwX_X8_32.2.2 (fun j hj => by rcases (show j = 0 ∨ j = 1 ∨ j = 2 by omega) with rfl | rfl | rfl <;> rfl) (rbX_S 116 shX rfl rfl (by decide +kernel)) rfl rfl (by rw [eK.k]) (by rw [eN.k]) (nle rfl) (nle rfl) dX8_init_86 (fun q c C => ?_)
  show Wx _ _ _ (PX _ (dz 116 (upR (upR (upR (dz 109 (upR (upR (dz 107 (upR (upR (upI (dz 104 cz_X104) 104 2 (-1)) 104 3 (some 105)) 104 4 (some 106))) 104 5 (some 107)) 104 6 (some 108))) 104 7 (some 109)) 107 0 (some 110)) 107 1 (some 113)))) _ _ [.ref 116, .int (iI (0)), .ref 109]
  have hG := hG.k (a := 12) (b := 651)
  have hI := hI.k (a := 12) (b := 651)
  have hE := hE.k (a := 12) (b := 651)
  have had := had_up (q := q) (c := c) had (nle rfl)
  refine x_dup C dX8_init_89 rfl ?_
  refine x_callG (k := 116) (As := []) (a := 14) (b' := 711) C hG rfl ct_X116 (Or.inr ciX8_39) im_X2_init rfl rfl rfl (nle rfl) ⟨nle rfl, nle rfl⟩ rfl rfl (by rw [eK.k]) (by rw [eN.k]) (nle rfl) (nle rfl) dX8_init_90 (fun ad31 cA31 C hadk => ?_)
  have had : ∀ k, k < 105 → wA (mkW (bX D) 119 ad31 cA31) k = ad k := fun k hk => (hadk k (Nat.lt_of_lt_of_le hk (nle rfl))).trans (had k hk)
  clear hadk
  have hG := hG.k (a := 14) (b := 711)
  have hI := hI.k (a := 14) (b := 711)
  have hE := hE.k (a := 14) (b := 711)
  refine x_aast C (nlt rfl) rfl rfl (nlt rfl) rfl rfl (nle rfl) (by omega) (by omega) dX8_init_93 ?_
  refine x_iinc (lv' := [(1, .int (iI (0 + 1))), (0, .ref 104)]) C dX8_init_94 rfl (nlt rfl) rfl ?_
  refine Wx_lv (lv' := [(1, .int (iI (1))), (0, .ref 104)]) rfl ?_
  refine x_goto (tgt := 76) C dX8_init_97 (by decide) ?_
  refine x_iload_n (i := 1) C dX8_init_76 rfl rfl ?_
  refine x_iconst C dX8_init_77 ?_
  refine x_icmp_ge (tgt := 100) C dX8_init_78 (by decide) ⟨by omega, by omega⟩ ⟨by omega, by omega⟩ (fun h => by exfalso; omega) (fun h => ?_)
  clear h
  refine x_aload_n (i := 0) C dX8_init_81 rfl rfl ?_
  refine x_getRs (r := 109) C (xkgX_X8_34 rfl rfl) (nlt rfl) rfl rfl dX8_init_82 ?_
  refine x_iload_n (i := 1) C dX8_init_85 rfl rfl ?_
  refine x_new (a := 15) (b := 714) C hG inX2 tyX2_ok rfl rfl nwX_X8_32.1 nwX_X8_32.2.1 nwX_X8_32.2.2 (fun j hj => by rcases (show j = 0 ∨ j = 1 ∨ j = 2 by omega) with rfl | rfl | rfl <;> rfl) (rbX_S 119 shX rfl rfl (by decide +kernel)) rfl rfl (by rw [eK.k]) (by rw [eN.k]) (nle rfl) (nle rfl) dX8_init_86 (fun q c C => ?_)
  show Wx _ _ _ (PX _ (dz 119 (upR (upR (upR (upR (dz 109 (upR (upR (dz 107 (upR (upR (upI (dz 104 cz_X104) 104 2 (-1)) 104 3 (some 105)) 104 4 (some 106))) 104 5 (some 107)) 104 6 (some 108))) 104 7 (some 109)) 107 0 (some 110)) 107 1 (some 113)) 109 0 (some 116)))) _ _ [.ref 119, .int (iI (1)), .ref 109]
  have hG := hG.k (a := 15) (b := 714)
  have hI := hI.k (a := 15) (b := 714)
  have hE := hE.k (a := 15) (b := 714)
  have had := had_up (q := q) (c := c) had (nle rfl)
  refine x_dup C dX8_init_89 rfl ?_
  refine x_callG (k := 119) (As := []) (a := 17) (b' := 774) C hG rfl ct_X119 (Or.inr ciX8_39) im_X2_init rfl rfl rfl (nle rfl) ⟨nle rfl, nle rfl⟩ rfl rfl (by rw [eK.k]) (by rw [eN.k]) (nle rfl) (nle rfl) dX8_init_90 (fun ad32 cA32 C hadk => ?_)
  have had : ∀ k, k < 105 → wA (mkW (bX D) 122 ad32 cA32) k = ad k := fun k hk => (hadk k (Nat.lt_of_lt_of_le hk (nle rfl))).trans (had k hk)
  clear hadk
  have hG := hG.k (a := 17) (b := 774)
  have hI := hI.k (a := 17) (b := 774)
  have hE := hE.k (a := 17) (b := 774)
  refine x_aast C (nlt rfl) rfl rfl (nlt rfl) rfl rfl (nle rfl) (by omega) (by omega) dX8_init_93 ?_
  refine x_iinc (lv' := [(1, .int (iI (1 + 1))), (0, .ref 104)]) C dX8_init_94 rfl (nlt rfl) rfl ?_
  refine Wx_lv (lv' := [(1, .int (iI (2))), (0, .ref 104)]) rfl ?_
  refine x_goto (tgt := 76) C dX8_init_97 (by decide) ?_
  refine x_iload_n (i := 1) C dX8_init_76 rfl rfl ?_
  refine x_iconst C dX8_init_77 ?_
  refine x_icmp_ge (tgt := 100) C dX8_init_78 (by decide) ⟨by omega, by omega⟩ ⟨by omega, by omega⟩ (fun h => ?_) (fun h => by exfalso; omega)
  clear h
  refine Wx_PH (fun H h => PX_many (Y := cz_X104) (sh := shX) [104, 107, 109] rfl (SL_upR rfl (SL_upR rfl (SL_upR rfl (SL_upR rfl (SL_upR rfl (SL_dz rfl (SL_upR rfl (SL_upR rfl (SL_dz rfl (SL_upR rfl (SL_upR rfl (SL_upI rfl (SL_dz rfl SL_rf))))))))))))) (by decide +kernel) h) ?_
  exact x_vretG C rfl hE eK.k eN.k had dX8_init_100
def cz_X122 : XT := (upR (upR (upR (upR (upR (upR (upR (upR (dz 19 (upR (dz 0 x0X) 0 0 (some 1))) 0 1 (some 19)) 0 2 (some 20)) 0 3 (some 21)) 0 4 (some 29)) 0 5 (some 38)) 0 6 (some 54)) 0 7 (some 55)) 19 0 (some 104))
def cz_X128 : XT := (upR (dz 127 (upR (upR (dz 125 (upR (upR (upI (dz 122 cz_X122) 122 2 (-1)) 122 3 (some 123)) 122 4 (some 124))) 122 5 (some 125)) 122 6 (some 126))) 122 7 (some 127))
set_option maxHeartbeats 4000000 in
set_option maxRecDepth 100000 in
theorem ct_X128 {D : va_G} : MetG (bX D) yX0_init cX0_init 1 1 30 2 12 [.ref 128] 129 131 (dz 128 cz_X128) cz_X128 := by
  refine MetG.mk (own := RX0) (by decide +kernel) rfl rfl (nle rfl) (fun E ad cA C hG hI hE hk0 hn0 => ?_)
  refine Wx_lv (lv' := [(0, .ref 128)]) rfl ?_
  have had : ∀ k, k < 129 → wA (mkW (bX D) 129 ad cA) k = ad k := fun _ _ => rfl
  refine x_aload_n (i := 0) C dX0_init_0 rfl rfl ?_
  refine x_objInit C oiX0_3.1 oiX0_3.2.1 oiX0_3.2.2 (nle rfl) (nle rfl) dX0_init_1 ?_
  refine x_aload_n (i := 0) C dX0_init_4 rfl rfl ?_
  refine x_bipush C dX0_init_5 (by decide) ?_
  refine x_newarr (at0 := .int) (ty := .int) (q0 := 0) (nn := 6) (a0 := (6, .inl (fun _ => 0))) (kd := 1) (a := 1) (b := 6) C hG rfl acX_int (fun _ => rfl) (fun _ => rfl) rfl (by decide) rfl (nle rfl) (nle rfl) (rbX_S 129 shX rfl rfl (by decide +kernel)) rfl rfl (by rw [hk0]) (by rw [hn0]) (nle rfl) (nle rfl) dX0_init_7 (fun q c C => ?_)
  refine Wx_PH (fun H h => PX_num (k := 129) SB_dz (fun i => rfl) (fun i => rfl) (fun i => rfl) h) ?_
  show Wx _ _ _ (PX _ (dz 128 cz_X128)) _ _ [.ref 129, .ref 128]
  have hG := hG.k (a := 1) (b := 6)
  have hI := hI.k (a := 1) (b := 6)
  have hE := hE.k (a := 1) (b := 6)
  have had := had_up (q := q) (c := c) had (nle rfl)
  refine x_putF C hI (xkfX_X0_9 rfl rfl) (by first | exact Or.inl ⟨_, rfl⟩ | exact Or.inr ⟨_, rfl⟩) (nlt rfl) rfl dX0_init_9 ?_
  refine x_aload_n (i := 0) C dX0_init_12 rfl rfl ?_
  refine x_bipush C dX0_init_13 (by decide) ?_
  refine x_newarr (at0 := .int) (ty := .int) (q0 := 0) (nn := 6) (a0 := (6, .inl (fun _ => 0))) (kd := 1) (a := 2) (b := 12) C hG rfl acX_int (fun _ => rfl) (fun _ => rfl) rfl (by decide) rfl (nle rfl) (nle rfl) (rbX_S 130 shX rfl rfl (by decide +kernel)) rfl rfl (by rw [eK.k]) (by rw [eN.k]) (nle rfl) (nle rfl) dX0_init_15 (fun q c C => ?_)
  refine Wx_PH (fun H h => PX_num (k := 130) SB_dz (fun i => rfl) (fun i => rfl) (fun i => rfl) h) ?_
  show Wx _ _ _ (PX _ (upR (dz 128 cz_X128) 128 5 (some 129))) _ _ [.ref 130, .ref 128]
  have hG := hG.k (a := 2) (b := 12)
  have hI := hI.k (a := 2) (b := 12)
  have hE := hE.k (a := 2) (b := 12)
  have had := had_up (q := q) (c := c) had (nle rfl)
  refine x_putF C hI (xkfX_X0_15 rfl rfl) (by first | exact Or.inl ⟨_, rfl⟩ | exact Or.inr ⟨_, rfl⟩) (nlt rfl) rfl dX0_init_17 ?_
  refine Wx_PH (fun H h => PX_many (Y := cz_X128) (sh := shX) [128] rfl (SL_upR rfl (SL_upR rfl (SL_dz rfl SL_rf))) (by decide +kernel) h) ?_
  exact x_vretG C rfl hE eK.k eN.k had dX0_init_20
def cz_X131 : XT := (upR (upR (dz 127 (upR (upR (dz 125 (upR (upR (upI (dz 122 cz_X122) 122 2 (-1)) 122 3 (some 123)) 122 4 (some 124))) 122 5 (some 125)) 122 6 (some 126))) 122 7 (some 127)) 125 0 (some 128))
set_option maxHeartbeats 4000000 in
set_option maxRecDepth 100000 in
theorem ct_X131 {D : va_G} : MetG (bX D) yX0_init cX0_init 1 1 30 2 12 [.ref 131] 132 134 (dz 131 cz_X131) cz_X131 := by
  refine MetG.mk (own := RX0) (by decide +kernel) rfl rfl (nle rfl) (fun E ad cA C hG hI hE hk0 hn0 => ?_)
  refine Wx_lv (lv' := [(0, .ref 131)]) rfl ?_
  have had : ∀ k, k < 132 → wA (mkW (bX D) 132 ad cA) k = ad k := fun _ _ => rfl
  refine x_aload_n (i := 0) C dX0_init_0 rfl rfl ?_
  refine x_objInit C oiX0_3.1 oiX0_3.2.1 oiX0_3.2.2 (nle rfl) (nle rfl) dX0_init_1 ?_
  refine x_aload_n (i := 0) C dX0_init_4 rfl rfl ?_
  refine x_bipush C dX0_init_5 (by decide) ?_
  refine x_newarr (at0 := .int) (ty := .int) (q0 := 0) (nn := 6) (a0 := (6, .inl (fun _ => 0))) (kd := 1) (a := 1) (b := 6) C hG rfl acX_int (fun _ => rfl) (fun _ => rfl) rfl (by decide) rfl (nle rfl) (nle rfl) (rbX_S 132 shX rfl rfl (by decide +kernel)) rfl rfl (by rw [hk0]) (by rw [hn0]) (nle rfl) (nle rfl) dX0_init_7 (fun q c C => ?_)
  refine Wx_PH (fun H h => PX_num (k := 132) SB_dz (fun i => rfl) (fun i => rfl) (fun i => rfl) h) ?_
  show Wx _ _ _ (PX _ (dz 131 cz_X131)) _ _ [.ref 132, .ref 131]
  have hG := hG.k (a := 1) (b := 6)
  have hI := hI.k (a := 1) (b := 6)
  have hE := hE.k (a := 1) (b := 6)
  have had := had_up (q := q) (c := c) had (nle rfl)
  refine x_putF C hI (xkfX_X0_9 rfl rfl) (by first | exact Or.inl ⟨_, rfl⟩ | exact Or.inr ⟨_, rfl⟩) (nlt rfl) rfl dX0_init_9 ?_
  refine x_aload_n (i := 0) C dX0_init_12 rfl rfl ?_
  refine x_bipush C dX0_init_13 (by decide) ?_
  refine x_newarr (at0 := .int) (ty := .int) (q0 := 0) (nn := 6) (a0 := (6, .inl (fun _ => 0))) (kd := 1) (a := 2) (b := 12) C hG rfl acX_int (fun _ => rfl) (fun _ => rfl) rfl (by decide) rfl (nle rfl) (nle rfl) (rbX_S 133 shX rfl rfl (by decide +kernel)) rfl rfl (by rw [eK.k]) (by rw [eN.k]) (nle rfl) (nle rfl) dX0_init_15 (fun q c C => ?_)
  refine Wx_PH (fun H h => PX_num (k := 133) SB_dz (fun i => rfl) (fun i => rfl) (fun i => rfl) h) ?_
  show Wx _ _ _ (PX _ (upR (dz 131 cz_X131) 131 5 (some 132))) _ _ [.ref 133, .ref 131]
  have hG := hG.k (a := 2) (b := 12)
  have hI := hI.k (a := 2) (b := 12)
  have hE := hE.k (a := 2) (b := 12)
  have had := had_up (q := q) (c := c) had (nle rfl)
  refine x_putF C hI (xkfX_X0_15 rfl rfl) (by first | exact Or.inl ⟨_, rfl⟩ | exact Or.inr ⟨_, rfl⟩) (nlt rfl) rfl dX0_init_17 ?_
  refine Wx_PH (fun H h => PX_many (Y := cz_X131) (sh := shX) [131] rfl (SL_upR rfl (SL_upR rfl (SL_dz rfl SL_rf))) (by decide +kernel) h) ?_
  exact x_vretG C rfl hE eK.k eN.k had dX0_init_20
def cz_X134 : XT := (upR (upR (upR (dz 127 (upR (upR (dz 125 (upR (upR (upI (dz 122 cz_X122) 122 2 (-1)) 122 3 (some 123)) 122 4 (some 124))) 122 5 (some 125)) 122 6 (some 126))) 122 7 (some 127)) 125 0 (some 128)) 125 1 (some 131))
set_option maxHeartbeats 4000000 in
set_option maxRecDepth 100000 in
theorem ct_X134 {D : va_G} : MetG (bX D) yX2_init cX2_init 1 1 30 2 60 [.ref 134] 135 137 (dz 134 cz_X134) cz_X134 := by
  refine MetG.mk (own := RX2) (by decide +kernel) rfl rfl (nle rfl) (fun E ad cA C hG hI hE hk0 hn0 => ?_)
  refine Wx_lv (lv' := [(0, .ref 134)]) rfl ?_
  have had : ∀ k, k < 135 → wA (mkW (bX D) 135 ad cA) k = ad k := fun _ _ => rfl
  refine x_aload_n (i := 0) C dX2_init_0 rfl rfl ?_
  refine x_objInit C oiX2_3.1 oiX2_3.2.1 oiX2_3.2.2 (nle rfl) (nle rfl) dX2_init_1 ?_
  refine x_aload_n (i := 0) C dX2_init_4 rfl rfl ?_
  refine x_bipush C dX2_init_5 (by decide) ?_
  refine x_newarr (at0 := .long) (ty := .long) (q0 := 0) (nn := 30) (a0 := (30, .inr (.inl (fun _ => 0)))) (kd := 2) (a := 1) (b := 30) C hG rfl acX_long (fun _ => rfl) (fun _ => rfl) rfl (by decide) rfl (nle rfl) (nle rfl) (rbX_S 135 shX rfl rfl (by decide +kernel)) rfl rfl (by rw [hk0]) (by rw [hn0]) (nle rfl) (nle rfl) dX2_init_7 (fun q c C => ?_)
  refine Wx_PH (fun H h => PX_num (k := 135) SB_dz (fun i => rfl) (fun i => rfl) (fun i => rfl) h) ?_
  show Wx _ _ _ (PX _ (dz 134 cz_X134)) _ _ [.ref 135, .ref 134]
  have hG := hG.k (a := 1) (b := 30)
  have hI := hI.k (a := 1) (b := 30)
  have hE := hE.k (a := 1) (b := 30)
  have had := had_up (q := q) (c := c) had (nle rfl)
  refine x_putF C hI (xkfX_X2_9 rfl rfl) (by first | exact Or.inl ⟨_, rfl⟩ | exact Or.inr ⟨_, rfl⟩) (nlt rfl) rfl dX2_init_9 ?_
  refine x_aload_n (i := 0) C dX2_init_12 rfl rfl ?_
  refine x_bipush C dX2_init_13 (by decide) ?_
  refine x_newarr (at0 := .int) (ty := .int) (q0 := 0) (nn := 30) (a0 := (30, .inl (fun _ => 0))) (kd := 1) (a := 2) (b := 60) C hG rfl acX_int (fun _ => rfl) (fun _ => rfl) rfl (by decide) rfl (nle rfl) (nle rfl) (rbX_S 136 shX rfl rfl (by decide +kernel)) rfl rfl (by rw [eK.k]) (by rw [eN.k]) (nle rfl) (nle rfl) dX2_init_15 (fun q c C => ?_)
  refine Wx_PH (fun H h => PX_num (k := 136) SB_dz (fun i => rfl) (fun i => rfl) (fun i => rfl) h) ?_
  show Wx _ _ _ (PX _ (upR (dz 134 cz_X134) 134 1 (some 135))) _ _ [.ref 136, .ref 134]
  have hG := hG.k (a := 2) (b := 60)
  have hI := hI.k (a := 2) (b := 60)
  have hE := hE.k (a := 2) (b := 60)
  have had := had_up (q := q) (c := c) had (nle rfl)
  refine x_putF C hI (xkfX_X2_15 rfl rfl) (by first | exact Or.inl ⟨_, rfl⟩ | exact Or.inr ⟨_, rfl⟩) (nlt rfl) rfl dX2_init_17 ?_
  refine Wx_PH (fun H h => PX_many (Y := cz_X134) (sh := shX) [134] rfl (SL_upR rfl (SL_upR rfl (SL_dz rfl SL_rf))) (by decide +kernel) h) ?_
  exact x_vretG C rfl hE eK.k eN.k had dX2_init_20
def cz_X137 : XT := (upR (upR (upR (upR (dz 127 (upR (upR (dz 125 (upR (upR (upI (dz 122 cz_X122) 122 2 (-1)) 122 3 (some 123)) 122 4 (some 124))) 122 5 (some 125)) 122 6 (some 126))) 122 7 (some 127)) 125 0 (some 128)) 125 1 (some 131)) 127 0 (some 134))
set_option maxHeartbeats 4000000 in
set_option maxRecDepth 100000 in
theorem ct_X137 {D : va_G} : MetG (bX D) yX2_init cX2_init 1 1 30 2 60 [.ref 137] 138 140 (dz 137 cz_X137) cz_X137 := by
  refine MetG.mk (own := RX2) (by decide +kernel) rfl rfl (nle rfl) (fun E ad cA C hG hI hE hk0 hn0 => ?_)
  refine Wx_lv (lv' := [(0, .ref 137)]) rfl ?_
  have had : ∀ k, k < 138 → wA (mkW (bX D) 138 ad cA) k = ad k := fun _ _ => rfl
  refine x_aload_n (i := 0) C dX2_init_0 rfl rfl ?_
  refine x_objInit C oiX2_3.1 oiX2_3.2.1 oiX2_3.2.2 (nle rfl) (nle rfl) dX2_init_1 ?_
  refine x_aload_n (i := 0) C dX2_init_4 rfl rfl ?_
  refine x_bipush C dX2_init_5 (by decide) ?_
  refine x_newarr (at0 := .long) (ty := .long) (q0 := 0) (nn := 30) (a0 := (30, .inr (.inl (fun _ => 0)))) (kd := 2) (a := 1) (b := 30) C hG rfl acX_long (fun _ => rfl) (fun _ => rfl) rfl (by decide) rfl (nle rfl) (nle rfl) (rbX_S 138 shX rfl rfl (by decide +kernel)) rfl rfl (by rw [hk0]) (by rw [hn0]) (nle rfl) (nle rfl) dX2_init_7 (fun q c C => ?_)
  refine Wx_PH (fun H h => PX_num (k := 138) SB_dz (fun i => rfl) (fun i => rfl) (fun i => rfl) h) ?_
  show Wx _ _ _ (PX _ (dz 137 cz_X137)) _ _ [.ref 138, .ref 137]
  have hG := hG.k (a := 1) (b := 30)
  have hI := hI.k (a := 1) (b := 30)
  have hE := hE.k (a := 1) (b := 30)
  have had := had_up (q := q) (c := c) had (nle rfl)
  refine x_putF C hI (xkfX_X2_9 rfl rfl) (by first | exact Or.inl ⟨_, rfl⟩ | exact Or.inr ⟨_, rfl⟩) (nlt rfl) rfl dX2_init_9 ?_
  refine x_aload_n (i := 0) C dX2_init_12 rfl rfl ?_
  refine x_bipush C dX2_init_13 (by decide) ?_
  refine x_newarr (at0 := .int) (ty := .int) (q0 := 0) (nn := 30) (a0 := (30, .inl (fun _ => 0))) (kd := 1) (a := 2) (b := 60) C hG rfl acX_int (fun _ => rfl) (fun _ => rfl) rfl (by decide) rfl (nle rfl) (nle rfl) (rbX_S 139 shX rfl rfl (by decide +kernel)) rfl rfl (by rw [eK.k]) (by rw [eN.k]) (nle rfl) (nle rfl) dX2_init_15 (fun q c C => ?_)
  refine Wx_PH (fun H h => PX_num (k := 139) SB_dz (fun i => rfl) (fun i => rfl) (fun i => rfl) h) ?_
  show Wx _ _ _ (PX _ (upR (dz 137 cz_X137) 137 1 (some 138))) _ _ [.ref 139, .ref 137]
  have hG := hG.k (a := 2) (b := 60)
  have hI := hI.k (a := 2) (b := 60)
  have hE := hE.k (a := 2) (b := 60)
  have had := had_up (q := q) (c := c) had (nle rfl)
  refine x_putF C hI (xkfX_X2_15 rfl rfl) (by first | exact Or.inl ⟨_, rfl⟩ | exact Or.inr ⟨_, rfl⟩) (nlt rfl) rfl dX2_init_17 ?_
  refine Wx_PH (fun H h => PX_many (Y := cz_X137) (sh := shX) [137] rfl (SL_upR rfl (SL_upR rfl (SL_dz rfl SL_rf))) (by decide +kernel) h) ?_
  exact x_vretG C rfl hE eK.k eN.k had dX2_init_20
set_option maxHeartbeats 4000000 in
set_option maxRecDepth 100000 in
theorem ct_X122 {D : va_G} : MetG (bX D) yX8_init cX8_init 2 2 50 17 774 [.ref 122] 123 140 (dz 122 cz_X122) cz_X122 := by
  refine MetG.mk (own := RX8) (by decide +kernel) rfl rfl (nle rfl) (fun E ad cA C hG hI hE hk0 hn0 => ?_)
  refine Wx_lv (lv' := [(0, .ref 122)]) rfl ?_
  have had : ∀ k, k < 123 → wA (mkW (bX D) 123 ad cA) k = ad k := fun _ _ => rfl
  refine x_aload_n (i := 0) C dX8_init_0 rfl rfl ?_
  refine x_objInit C oiX8_3.1 oiX8_3.2.1 oiX8_3.2.2 (nle rfl) (nle rfl) dX8_init_1 ?_
  refine x_aload_n (i := 0) C dX8_init_4 rfl rfl ?_
  refine x_iconst C dX8_init_5 ?_
  refine x_putI C (xkpX_X8_9 rfl rfl) (nlt rfl) rfl dX8_init_6 ?_
  refine x_aload_n (i := 0) C dX8_init_9 rfl rfl ?_
  refine x_sipush C dX8_init_10 (by decide) ?_
  refine x_newarr (at0 := .int) (ty := .int) (q0 := 0) (nn := 600) (a0 := (600, .inl (fun _ => 0))) (kd := 1) (a := 1) (b := 600) C hG rfl acX_int (fun _ => rfl) (fun _ => rfl) rfl (by decide) rfl (nle rfl) (nle rfl) (rbX_S 123 shX rfl rfl (by decide +kernel)) rfl rfl (by rw [hk0]) (by rw [hn0]) (nle rfl) (nle rfl) dX8_init_13 (fun q c C => ?_)
  refine Wx_PH (fun H h => PX_num (k := 123) SB_dz (fun i => rfl) (fun i => rfl) (fun i => rfl) h) ?_
  show Wx _ _ _ (PX _ (upI (dz 122 cz_X122) 122 2 (-1))) _ _ [.ref 123, .ref 122]
  have hG := hG.k (a := 1) (b := 600)
  have hI := hI.k (a := 1) (b := 600)
  have hE := hE.k (a := 1) (b := 600)
  have had := had_up (q := q) (c := c) had (nle rfl)
  refine x_putF C hI (xkfX_X8_15 rfl rfl) (by first | exact Or.inl ⟨_, rfl⟩ | exact Or.inr ⟨_, rfl⟩) (nlt rfl) rfl dX8_init_15 ?_
  refine x_aload_n (i := 0) C dX8_init_18 rfl rfl ?_
  refine x_iconst C dX8_init_19 ?_
  refine x_newarr (at0 := .int) (ty := .int) (q0 := 0) (nn := 3) (a0 := (3, .inl (fun _ => 0))) (kd := 1) (a := 2) (b := 603) C hG rfl acX_int (fun _ => rfl) (fun _ => rfl) rfl (by decide) rfl (nle rfl) (nle rfl) (rbX_S 124 shX rfl rfl (by decide +kernel)) rfl rfl (by rw [eK.k]) (by rw [eN.k]) (nle rfl) (nle rfl) dX8_init_20 (fun q c C => ?_)
  refine Wx_PH (fun H h => PX_num (k := 124) SB_dz (fun i => rfl) (fun i => rfl) (fun i => rfl) h) ?_
  show Wx _ _ _ (PX _ (upR (upI (dz 122 cz_X122) 122 2 (-1)) 122 3 (some 123))) _ _ [.ref 124, .ref 122]
  have hG := hG.k (a := 2) (b := 603)
  have hI := hI.k (a := 2) (b := 603)
  have hE := hE.k (a := 2) (b := 603)
  have had := had_up (q := q) (c := c) had (nle rfl)
  refine x_putF C hI (xkfX_X8_19 rfl rfl) (by first | exact Or.inl ⟨_, rfl⟩ | exact Or.inr ⟨_, rfl⟩) (nlt rfl) rfl dX8_init_22 ?_
  refine x_aload_n (i := 0) C dX8_init_25 rfl rfl ?_
  refine x_iconst C dX8_init_26 ?_
  refine x_anew (nn := 2) (a := 3) (b := 605) C hG naX8_22.1 naX8_22.2 rfl rfl (nle rfl) (rbX_S 125 shX rfl rfl (by decide +kernel)) rfl rfl (by rw [eK.k]) (by rw [eN.k]) (nle rfl) (nle rfl) dX8_init_27 (fun q c C => ?_)
  show Wx _ _ _ (PX _ (dz 125 (upR (upR (upI (dz 122 cz_X122) 122 2 (-1)) 122 3 (some 123)) 122 4 (some 124)))) _ _ [.ref 125, .ref 122]
  have hG := hG.k (a := 3) (b := 605)
  have hI := hI.k (a := 3) (b := 605)
  have hE := hE.k (a := 3) (b := 605)
  have had := had_up (q := q) (c := c) had (nle rfl)
  refine x_putF C hI (xkfX_X8_24 rfl rfl) (by first | exact Or.inl ⟨_, rfl⟩ | exact Or.inr ⟨_, rfl⟩) (nlt rfl) rfl dX8_init_30 ?_
  refine x_aload_n (i := 0) C dX8_init_33 rfl rfl ?_
  refine x_iconst C dX8_init_34 ?_
  refine x_newarr (at0 := .long) (ty := .long) (q0 := 0) (nn := 3) (a0 := (3, .inr (.inl (fun _ => 0)))) (kd := 2) (a := 4) (b := 608) C hG rfl acX_long (fun _ => rfl) (fun _ => rfl) rfl (by decide) rfl (nle rfl) (nle rfl) (rbX_S 126 shX rfl rfl (by decide +kernel)) rfl rfl (by rw [eK.k]) (by rw [eN.k]) (nle rfl) (nle rfl) dX8_init_35 (fun q c C => ?_)
  refine Wx_PH (fun H h => PX_num (k := 126) SB_dz (fun i => rfl) (fun i => rfl) (fun i => rfl) h) ?_
  show Wx _ _ _ (PX _ (upR (dz 125 (upR (upR (upI (dz 122 cz_X122) 122 2 (-1)) 122 3 (some 123)) 122 4 (some 124))) 122 5 (some 125))) _ _ [.ref 126, .ref 122]
  have hG := hG.k (a := 4) (b := 608)
  have hI := hI.k (a := 4) (b := 608)
  have hE := hE.k (a := 4) (b := 608)
  have had := had_up (q := q) (c := c) had (nle rfl)
  refine x_putF C hI (xkfX_X8_28 rfl rfl) (by first | exact Or.inl ⟨_, rfl⟩ | exact Or.inr ⟨_, rfl⟩) (nlt rfl) rfl dX8_init_37 ?_
  refine x_aload_n (i := 0) C dX8_init_40 rfl rfl ?_
  refine x_iconst C dX8_init_41 ?_
  refine x_anew (nn := 2) (a := 5) (b := 610) C hG naX8_32.1 naX8_32.2 rfl rfl (nle rfl) (rbX_S 127 shX rfl rfl (by decide +kernel)) rfl rfl (by rw [eK.k]) (by rw [eN.k]) (nle rfl) (nle rfl) dX8_init_42 (fun q c C => ?_)
  show Wx _ _ _ (PX _ (dz 127 (upR (upR (dz 125 (upR (upR (upI (dz 122 cz_X122) 122 2 (-1)) 122 3 (some 123)) 122 4 (some 124))) 122 5 (some 125)) 122 6 (some 126)))) _ _ [.ref 127, .ref 122]
  have hG := hG.k (a := 5) (b := 610)
  have hI := hI.k (a := 5) (b := 610)
  have hE := hE.k (a := 5) (b := 610)
  have had := had_up (q := q) (c := c) had (nle rfl)
  refine x_putF C hI (xkfX_X8_34 rfl rfl) (by first | exact Or.inl ⟨_, rfl⟩ | exact Or.inr ⟨_, rfl⟩) (nlt rfl) rfl dX8_init_45 ?_
  refine x_iconst C dX8_init_48 ?_
  refine x_istore_n (i := 1) (lv' := [(1, .int (iI (0))), (0, .ref 122)]) C dX8_init_49 rfl (nlt rfl) rfl ?_
  refine x_iload_n (i := 1) C dX8_init_50 rfl rfl ?_
  refine x_iconst C dX8_init_51 ?_
  refine x_icmp_ge (tgt := 74) C dX8_init_52 (by decide) ⟨by omega, by omega⟩ ⟨by omega, by omega⟩ (fun h => by exfalso; omega) (fun h => ?_)
  clear h
  refine x_aload_n (i := 0) C dX8_init_55 rfl rfl ?_
  refine x_getRs (r := 125) C (xkgX_X8_24 rfl rfl) (nlt rfl) rfl rfl dX8_init_56 ?_
  refine x_iload_n (i := 1) C dX8_init_59 rfl rfl ?_
  refine x_new (a := 6) (b := 617) C hG inX0 tyX0_ok rfl rfl nwX_X8_22.1 nwX_X8_22.2.1 nwX_X8_22.2.2 (fun j hj => by rcases (show j = 0 ∨ j = 1 ∨ j = 2 ∨ j = 3 ∨ j = 4 ∨ j = 5 ∨ j = 6 by omega) with rfl | rfl | rfl | rfl | rfl | rfl | rfl <;> rfl) (rbX_S 128 shX rfl rfl (by decide +kernel)) rfl rfl (by rw [eK.k]) (by rw [eN.k]) (nle rfl) (nle rfl) dX8_init_60 (fun q c C => ?_)
  show Wx _ _ _ (PX _ (dz 128 (upR (dz 127 (upR (upR (dz 125 (upR (upR (upI (dz 122 cz_X122) 122 2 (-1)) 122 3 (some 123)) 122 4 (some 124))) 122 5 (some 125)) 122 6 (some 126))) 122 7 (some 127)))) _ _ [.ref 128, .int (iI (0)), .ref 125]
  have hG := hG.k (a := 6) (b := 617)
  have hI := hI.k (a := 6) (b := 617)
  have hE := hE.k (a := 6) (b := 617)
  have had := had_up (q := q) (c := c) had (nle rfl)
  refine x_dup C dX8_init_63 rfl ?_
  refine x_callG (k := 128) (As := []) (a := 8) (b' := 629) C hG rfl ct_X128 (Or.inr ciX8_38) im_X0_init rfl rfl rfl (nle rfl) ⟨nle rfl, nle rfl⟩ rfl rfl (by rw [eK.k]) (by rw [eN.k]) (nle rfl) (nle rfl) dX8_init_64 (fun ad34 cA34 C hadk => ?_)
  have had : ∀ k, k < 123 → wA (mkW (bX D) 131 ad34 cA34) k = ad k := fun k hk => (hadk k (Nat.lt_of_lt_of_le hk (nle rfl))).trans (had k hk)
  clear hadk
  have hG := hG.k (a := 8) (b := 629)
  have hI := hI.k (a := 8) (b := 629)
  have hE := hE.k (a := 8) (b := 629)
  refine x_aast C (nlt rfl) rfl rfl (nlt rfl) rfl rfl (nle rfl) (by omega) (by omega) dX8_init_67 ?_
  refine x_iinc (lv' := [(1, .int (iI (0 + 1))), (0, .ref 122)]) C dX8_init_68 rfl (nlt rfl) rfl ?_
  refine Wx_lv (lv' := [(1, .int (iI (1))), (0, .ref 122)]) rfl ?_
  refine x_goto (tgt := 50) C dX8_init_71 (by decide) ?_
  refine x_iload_n (i := 1) C dX8_init_50 rfl rfl ?_
  refine x_iconst C dX8_init_51 ?_
  refine x_icmp_ge (tgt := 74) C dX8_init_52 (by decide) ⟨by omega, by omega⟩ ⟨by omega, by omega⟩ (fun h => by exfalso; omega) (fun h => ?_)
  clear h
  refine x_aload_n (i := 0) C dX8_init_55 rfl rfl ?_
  refine x_getRs (r := 125) C (xkgX_X8_24 rfl rfl) (nlt rfl) rfl rfl dX8_init_56 ?_
  refine x_iload_n (i := 1) C dX8_init_59 rfl rfl ?_
  refine x_new (a := 9) (b := 636) C hG inX0 tyX0_ok rfl rfl nwX_X8_22.1 nwX_X8_22.2.1 nwX_X8_22.2.2 (fun j hj => by rcases (show j = 0 ∨ j = 1 ∨ j = 2 ∨ j = 3 ∨ j = 4 ∨ j = 5 ∨ j = 6 by omega) with rfl | rfl | rfl | rfl | rfl | rfl | rfl <;> rfl) (rbX_S 131 shX rfl rfl (by decide +kernel)) rfl rfl (by rw [eK.k]) (by rw [eN.k]) (nle rfl) (nle rfl) dX8_init_60 (fun q c C => ?_)
  show Wx _ _ _ (PX _ (dz 131 (upR (upR (dz 127 (upR (upR (dz 125 (upR (upR (upI (dz 122 cz_X122) 122 2 (-1)) 122 3 (some 123)) 122 4 (some 124))) 122 5 (some 125)) 122 6 (some 126))) 122 7 (some 127)) 125 0 (some 128)))) _ _ [.ref 131, .int (iI (1)), .ref 125]
  have hG := hG.k (a := 9) (b := 636)
  have hI := hI.k (a := 9) (b := 636)
  have hE := hE.k (a := 9) (b := 636)
  have had := had_up (q := q) (c := c) had (nle rfl)
  refine x_dup C dX8_init_63 rfl ?_
  refine x_callG (k := 131) (As := []) (a := 11) (b' := 648) C hG rfl ct_X131 (Or.inr ciX8_38) im_X0_init rfl rfl rfl (nle rfl) ⟨nle rfl, nle rfl⟩ rfl rfl (by rw [eK.k]) (by rw [eN.k]) (nle rfl) (nle rfl) dX8_init_64 (fun ad35 cA35 C hadk => ?_)
  have had : ∀ k, k < 123 → wA (mkW (bX D) 134 ad35 cA35) k = ad k := fun k hk => (hadk k (Nat.lt_of_lt_of_le hk (nle rfl))).trans (had k hk)
  clear hadk
  have hG := hG.k (a := 11) (b := 648)
  have hI := hI.k (a := 11) (b := 648)
  have hE := hE.k (a := 11) (b := 648)
  refine x_aast C (nlt rfl) rfl rfl (nlt rfl) rfl rfl (nle rfl) (by omega) (by omega) dX8_init_67 ?_
  refine x_iinc (lv' := [(1, .int (iI (1 + 1))), (0, .ref 122)]) C dX8_init_68 rfl (nlt rfl) rfl ?_
  refine Wx_lv (lv' := [(1, .int (iI (2))), (0, .ref 122)]) rfl ?_
  refine x_goto (tgt := 50) C dX8_init_71 (by decide) ?_
  refine x_iload_n (i := 1) C dX8_init_50 rfl rfl ?_
  refine x_iconst C dX8_init_51 ?_
  refine x_icmp_ge (tgt := 74) C dX8_init_52 (by decide) ⟨by omega, by omega⟩ ⟨by omega, by omega⟩ (fun h => ?_) (fun h => by exfalso; omega)
  clear h
  refine x_iconst C dX8_init_74 ?_
  refine x_istore_n (i := 1) (lv' := [(1, .int (iI (0))), (0, .ref 122)]) C dX8_init_75 rfl (nlt rfl) rfl ?_
  refine x_iload_n (i := 1) C dX8_init_76 rfl rfl ?_
  refine x_iconst C dX8_init_77 ?_
  refine x_icmp_ge (tgt := 100) C dX8_init_78 (by decide) ⟨by omega, by omega⟩ ⟨by omega, by omega⟩ (fun h => by exfalso; omega) (fun h => ?_)
  clear h
  refine x_aload_n (i := 0) C dX8_init_81 rfl rfl ?_
  refine x_getRs (r := 127) C (xkgX_X8_34 rfl rfl) (nlt rfl) rfl rfl dX8_init_82 ?_
  refine x_iload_n (i := 1) C dX8_init_85 rfl rfl ?_
  refine x_new (a := 12) (b := 651) C hG inX2 tyX2_ok rfl rfl nwX_X8_32.1 nwX_X8_32.2.1 nwX_X8_32.2.2 (fun j hj => by rcases (show j = 0 ∨ j = 1 ∨ j = 2 by omega) with rfl | rfl | rfl <;> rfl) (rbX_S 134 shX rfl rfl (by decide +kernel)) rfl rfl (by rw [eK.k]) (by rw [eN.k]) (nle rfl) (nle rfl) dX8_init_86 (fun q c C => ?_)
  show Wx _ _ _ (PX _ (dz 134 (upR (upR (upR (dz 127 (upR (upR (dz 125 (upR (upR (upI (dz 122 cz_X122) 122 2 (-1)) 122 3 (some 123)) 122 4 (some 124))) 122 5 (some 125)) 122 6 (some 126))) 122 7 (some 127)) 125 0 (some 128)) 125 1 (some 131)))) _ _ [.ref 134, .int (iI (0)), .ref 127]
  have hG := hG.k (a := 12) (b := 651)
  have hI := hI.k (a := 12) (b := 651)
  have hE := hE.k (a := 12) (b := 651)
  have had := had_up (q := q) (c := c) had (nle rfl)
  refine x_dup C dX8_init_89 rfl ?_
  refine x_callG (k := 134) (As := []) (a := 14) (b' := 711) C hG rfl ct_X134 (Or.inr ciX8_39) im_X2_init rfl rfl rfl (nle rfl) ⟨nle rfl, nle rfl⟩ rfl rfl (by rw [eK.k]) (by rw [eN.k]) (nle rfl) (nle rfl) dX8_init_90 (fun ad36 cA36 C hadk => ?_)
  have had : ∀ k, k < 123 → wA (mkW (bX D) 137 ad36 cA36) k = ad k := fun k hk => (hadk k (Nat.lt_of_lt_of_le hk (nle rfl))).trans (had k hk)
  clear hadk
  have hG := hG.k (a := 14) (b := 711)
  have hI := hI.k (a := 14) (b := 711)
  have hE := hE.k (a := 14) (b := 711)
  refine x_aast C (nlt rfl) rfl rfl (nlt rfl) rfl rfl (nle rfl) (by omega) (by omega) dX8_init_93 ?_
  refine x_iinc (lv' := [(1, .int (iI (0 + 1))), (0, .ref 122)]) C dX8_init_94 rfl (nlt rfl) rfl ?_
  refine Wx_lv (lv' := [(1, .int (iI (1))), (0, .ref 122)]) rfl ?_
  refine x_goto (tgt := 76) C dX8_init_97 (by decide) ?_
  refine x_iload_n (i := 1) C dX8_init_76 rfl rfl ?_
  refine x_iconst C dX8_init_77 ?_
  refine x_icmp_ge (tgt := 100) C dX8_init_78 (by decide) ⟨by omega, by omega⟩ ⟨by omega, by omega⟩ (fun h => by exfalso; omega) (fun h => ?_)
  clear h
  refine x_aload_n (i := 0) C dX8_init_81 rfl rfl ?_
  refine x_getRs (r := 127) C (xkgX_X8_34 rfl rfl) (nlt rfl) rfl rfl dX8_init_82 ?_
  refine x_iload_n (i := 1) C dX8_init_85 rfl rfl ?_
  refine x_new (a := 15) (b := 714) C hG inX2 tyX2_ok rfl rfl nwX_X8_32.1 nwX_X8_32.2.1 nwX_X8_32.2.2 (fun j hj => by rcases (show j = 0 ∨ j = 1 ∨ j = 2 by omega) with rfl | rfl | rfl <;> rfl) (rbX_S 137 shX rfl rfl (by decide +kernel)) rfl rfl (by rw [eK.k]) (by rw [eN.k]) (nle rfl) (nle rfl) dX8_init_86 (fun q c C => ?_)
  show Wx _ _ _ (PX _ (dz 137 (upR (upR (upR (upR (dz 127 (upR (upR (dz 125 (upR (upR (upI (dz 122 cz_X122) 122 2 (-1)) 122 3 (some 123)) 122 4 (some 124))) 122 5 (some 125)) 122 6 (some 126))) 122 7 (some 127)) 125 0 (some 128)) 125 1 (some 131)) 127 0 (some 134)))) _ _ [.ref 137, .int (iI (1)), .ref 127]
  have hG := hG.k (a := 15) (b := 714)
  have hI := hI.k (a := 15) (b := 714)
  have hE := hE.k (a := 15) (b := 714)
  have had := had_up (q := q) (c := c) had (nle rfl)
  refine x_dup C dX8_init_89 rfl ?_
  refine x_callG (k := 137) (As := []) (a := 17) (b' := 774) C hG rfl ct_X137 (Or.inr ciX8_39) im_X2_init rfl rfl rfl (nle rfl) ⟨nle rfl, nle rfl⟩ rfl rfl (by rw [eK.k]) (by rw [eN.k]) (nle rfl) (nle rfl) dX8_init_90 (fun ad37 cA37 C hadk => ?_)
  have had : ∀ k, k < 123 → wA (mkW (bX D) 140 ad37 cA37) k = ad k := fun k hk => (hadk k (Nat.lt_of_lt_of_le hk (nle rfl))).trans (had k hk)
  clear hadk
  have hG := hG.k (a := 17) (b := 774)
  have hI := hI.k (a := 17) (b := 774)
  have hE := hE.k (a := 17) (b := 774)
  refine x_aast C (nlt rfl) rfl rfl (nlt rfl) rfl rfl (nle rfl) (by omega) (by omega) dX8_init_93 ?_
  refine x_iinc (lv' := [(1, .int (iI (1 + 1))), (0, .ref 122)]) C dX8_init_94 rfl (nlt rfl) rfl ?_
  refine Wx_lv (lv' := [(1, .int (iI (2))), (0, .ref 122)]) rfl ?_
  refine x_goto (tgt := 76) C dX8_init_97 (by decide) ?_
  refine x_iload_n (i := 1) C dX8_init_76 rfl rfl ?_
  refine x_iconst C dX8_init_77 ?_
  refine x_icmp_ge (tgt := 100) C dX8_init_78 (by decide) ⟨by omega, by omega⟩ ⟨by omega, by omega⟩ (fun h => ?_) (fun h => by exfalso; omega)
  clear h
  refine Wx_PH (fun H h => PX_many (Y := cz_X122) (sh := shX) [122, 125, 127] rfl (SL_upR rfl (SL_upR rfl (SL_upR rfl (SL_upR rfl (SL_upR rfl (SL_dz rfl (SL_upR rfl (SL_upR rfl (SL_dz rfl (SL_upR rfl (SL_upR rfl (SL_upI rfl (SL_dz rfl SL_rf))))))))))))) (by decide +kernel) h) ?_
  exact x_vretG C rfl hE eK.k eN.k had dX8_init_100
def cz_X140 : XT := (upR (upR (upR (upR (upR (upR (upR (upR (upR (dz 19 (upR (dz 0 x0X) 0 0 (some 1))) 0 1 (some 19)) 0 2 (some 20)) 0 3 (some 21)) 0 4 (some 29)) 0 5 (some 38)) 0 6 (some 54)) 0 7 (some 55)) 19 0 (some 104)) 19 1 (some 122))
def cz_X146 : XT := (upR (dz 145 (upR (upR (dz 143 (upR (upR (upI (dz 140 cz_X140) 140 2 (-1)) 140 3 (some 141)) 140 4 (some 142))) 140 5 (some 143)) 140 6 (some 144))) 140 7 (some 145))
set_option maxHeartbeats 4000000 in
set_option maxRecDepth 100000 in
theorem ct_X146 {D : va_G} : MetG (bX D) yX0_init cX0_init 1 1 30 2 12 [.ref 146] 147 149 (dz 146 cz_X146) cz_X146 := by
  refine MetG.mk (own := RX0) (by decide +kernel) rfl rfl (nle rfl) (fun E ad cA C hG hI hE hk0 hn0 => ?_)
  refine Wx_lv (lv' := [(0, .ref 146)]) rfl ?_
  have had : ∀ k, k < 147 → wA (mkW (bX D) 147 ad cA) k = ad k := fun _ _ => rfl
  refine x_aload_n (i := 0) C dX0_init_0 rfl rfl ?_
  refine x_objInit C oiX0_3.1 oiX0_3.2.1 oiX0_3.2.2 (nle rfl) (nle rfl) dX0_init_1 ?_
  refine x_aload_n (i := 0) C dX0_init_4 rfl rfl ?_
  refine x_bipush C dX0_init_5 (by decide) ?_
  refine x_newarr (at0 := .int) (ty := .int) (q0 := 0) (nn := 6) (a0 := (6, .inl (fun _ => 0))) (kd := 1) (a := 1) (b := 6) C hG rfl acX_int (fun _ => rfl) (fun _ => rfl) rfl (by decide) rfl (nle rfl) (nle rfl) (rbX_S 147 shX rfl rfl (by decide +kernel)) rfl rfl (by rw [hk0]) (by rw [hn0]) (nle rfl) (nle rfl) dX0_init_7 (fun q c C => ?_)
  refine Wx_PH (fun H h => PX_num (k := 147) SB_dz (fun i => rfl) (fun i => rfl) (fun i => rfl) h) ?_
  show Wx _ _ _ (PX _ (dz 146 cz_X146)) _ _ [.ref 147, .ref 146]
  have hG := hG.k (a := 1) (b := 6)
  have hI := hI.k (a := 1) (b := 6)
  have hE := hE.k (a := 1) (b := 6)
  have had := had_up (q := q) (c := c) had (nle rfl)
  refine x_putF C hI (xkfX_X0_9 rfl rfl) (by first | exact Or.inl ⟨_, rfl⟩ | exact Or.inr ⟨_, rfl⟩) (nlt rfl) rfl dX0_init_9 ?_
  refine x_aload_n (i := 0) C dX0_init_12 rfl rfl ?_
  refine x_bipush C dX0_init_13 (by decide) ?_
  refine x_newarr (at0 := .int) (ty := .int) (q0 := 0) (nn := 6) (a0 := (6, .inl (fun _ => 0))) (kd := 1) (a := 2) (b := 12) C hG rfl acX_int (fun _ => rfl) (fun _ => rfl) rfl (by decide) rfl (nle rfl) (nle rfl) (rbX_S 148 shX rfl rfl (by decide +kernel)) rfl rfl (by rw [eK.k]) (by rw [eN.k]) (nle rfl) (nle rfl) dX0_init_15 (fun q c C => ?_)
  refine Wx_PH (fun H h => PX_num (k := 148) SB_dz (fun i => rfl) (fun i => rfl) (fun i => rfl) h) ?_
  show Wx _ _ _ (PX _ (upR (dz 146 cz_X146) 146 5 (some 147))) _ _ [.ref 148, .ref 146]
  have hG := hG.k (a := 2) (b := 12)
  have hI := hI.k (a := 2) (b := 12)
  have hE := hE.k (a := 2) (b := 12)
  have had := had_up (q := q) (c := c) had (nle rfl)
  refine x_putF C hI (xkfX_X0_15 rfl rfl) (by first | exact Or.inl ⟨_, rfl⟩ | exact Or.inr ⟨_, rfl⟩) (nlt rfl) rfl dX0_init_17 ?_
  refine Wx_PH (fun H h => PX_many (Y := cz_X146) (sh := shX) [146] rfl (SL_upR rfl (SL_upR rfl (SL_dz rfl SL_rf))) (by decide +kernel) h) ?_
  exact x_vretG C rfl hE eK.k eN.k had dX0_init_20
def cz_X149 : XT := (upR (upR (dz 145 (upR (upR (dz 143 (upR (upR (upI (dz 140 cz_X140) 140 2 (-1)) 140 3 (some 141)) 140 4 (some 142))) 140 5 (some 143)) 140 6 (some 144))) 140 7 (some 145)) 143 0 (some 146))
set_option maxHeartbeats 4000000 in
set_option maxRecDepth 100000 in
theorem ct_X149 {D : va_G} : MetG (bX D) yX0_init cX0_init 1 1 30 2 12 [.ref 149] 150 152 (dz 149 cz_X149) cz_X149 := by
  refine MetG.mk (own := RX0) (by decide +kernel) rfl rfl (nle rfl) (fun E ad cA C hG hI hE hk0 hn0 => ?_)
  refine Wx_lv (lv' := [(0, .ref 149)]) rfl ?_
  have had : ∀ k, k < 150 → wA (mkW (bX D) 150 ad cA) k = ad k := fun _ _ => rfl
  refine x_aload_n (i := 0) C dX0_init_0 rfl rfl ?_
  refine x_objInit C oiX0_3.1 oiX0_3.2.1 oiX0_3.2.2 (nle rfl) (nle rfl) dX0_init_1 ?_
  refine x_aload_n (i := 0) C dX0_init_4 rfl rfl ?_
  refine x_bipush C dX0_init_5 (by decide) ?_
  refine x_newarr (at0 := .int) (ty := .int) (q0 := 0) (nn := 6) (a0 := (6, .inl (fun _ => 0))) (kd := 1) (a := 1) (b := 6) C hG rfl acX_int (fun _ => rfl) (fun _ => rfl) rfl (by decide) rfl (nle rfl) (nle rfl) (rbX_S 150 shX rfl rfl (by decide +kernel)) rfl rfl (by rw [hk0]) (by rw [hn0]) (nle rfl) (nle rfl) dX0_init_7 (fun q c C => ?_)
  refine Wx_PH (fun H h => PX_num (k := 150) SB_dz (fun i => rfl) (fun i => rfl) (fun i => rfl) h) ?_
  show Wx _ _ _ (PX _ (dz 149 cz_X149)) _ _ [.ref 150, .ref 149]
  have hG := hG.k (a := 1) (b := 6)
  have hI := hI.k (a := 1) (b := 6)
  have hE := hE.k (a := 1) (b := 6)
  have had := had_up (q := q) (c := c) had (nle rfl)
  refine x_putF C hI (xkfX_X0_9 rfl rfl) (by first | exact Or.inl ⟨_, rfl⟩ | exact Or.inr ⟨_, rfl⟩) (nlt rfl) rfl dX0_init_9 ?_
  refine x_aload_n (i := 0) C dX0_init_12 rfl rfl ?_
  refine x_bipush C dX0_init_13 (by decide) ?_
  refine x_newarr (at0 := .int) (ty := .int) (q0 := 0) (nn := 6) (a0 := (6, .inl (fun _ => 0))) (kd := 1) (a := 2) (b := 12) C hG rfl acX_int (fun _ => rfl) (fun _ => rfl) rfl (by decide) rfl (nle rfl) (nle rfl) (rbX_S 151 shX rfl rfl (by decide +kernel)) rfl rfl (by rw [eK.k]) (by rw [eN.k]) (nle rfl) (nle rfl) dX0_init_15 (fun q c C => ?_)
  refine Wx_PH (fun H h => PX_num (k := 151) SB_dz (fun i => rfl) (fun i => rfl) (fun i => rfl) h) ?_
  show Wx _ _ _ (PX _ (upR (dz 149 cz_X149) 149 5 (some 150))) _ _ [.ref 151, .ref 149]
  have hG := hG.k (a := 2) (b := 12)
  have hI := hI.k (a := 2) (b := 12)
  have hE := hE.k (a := 2) (b := 12)
  have had := had_up (q := q) (c := c) had (nle rfl)
  refine x_putF C hI (xkfX_X0_15 rfl rfl) (by first | exact Or.inl ⟨_, rfl⟩ | exact Or.inr ⟨_, rfl⟩) (nlt rfl) rfl dX0_init_17 ?_
  refine Wx_PH (fun H h => PX_many (Y := cz_X149) (sh := shX) [149] rfl (SL_upR rfl (SL_upR rfl (SL_dz rfl SL_rf))) (by decide +kernel) h) ?_
  exact x_vretG C rfl hE eK.k eN.k had dX0_init_20
def cz_X152 : XT := (upR (upR (upR (dz 145 (upR (upR (dz 143 (upR (upR (upI (dz 140 cz_X140) 140 2 (-1)) 140 3 (some 141)) 140 4 (some 142))) 140 5 (some 143)) 140 6 (some 144))) 140 7 (some 145)) 143 0 (some 146)) 143 1 (some 149))
set_option maxHeartbeats 4000000 in
set_option maxRecDepth 100000 in
theorem ct_X152 {D : va_G} : MetG (bX D) yX2_init cX2_init 1 1 30 2 60 [.ref 152] 153 155 (dz 152 cz_X152) cz_X152 := by
  refine MetG.mk (own := RX2) (by decide +kernel) rfl rfl (nle rfl) (fun E ad cA C hG hI hE hk0 hn0 => ?_)
  refine Wx_lv (lv' := [(0, .ref 152)]) rfl ?_
  have had : ∀ k, k < 153 → wA (mkW (bX D) 153 ad cA) k = ad k := fun _ _ => rfl
  refine x_aload_n (i := 0) C dX2_init_0 rfl rfl ?_
  refine x_objInit C oiX2_3.1 oiX2_3.2.1 oiX2_3.2.2 (nle rfl) (nle rfl) dX2_init_1 ?_
  refine x_aload_n (i := 0) C dX2_init_4 rfl rfl ?_
  refine x_bipush C dX2_init_5 (by decide) ?_
  refine x_newarr (at0 := .long) (ty := .long) (q0 := 0) (nn := 30) (a0 := (30, .inr (.inl (fun _ => 0)))) (kd := 2) (a := 1) (b := 30) C hG rfl acX_long (fun _ => rfl) (fun _ => rfl) rfl (by decide) rfl (nle rfl) (nle rfl) (rbX_S 153 shX rfl rfl (by decide +kernel)) rfl rfl (by rw [hk0]) (by rw [hn0]) (nle rfl) (nle rfl) dX2_init_7 (fun q c C => ?_)
  refine Wx_PH (fun H h => PX_num (k := 153) SB_dz (fun i => rfl) (fun i => rfl) (fun i => rfl) h) ?_
  show Wx _ _ _ (PX _ (dz 152 cz_X152)) _ _ [.ref 153, .ref 152]
  have hG := hG.k (a := 1) (b := 30)
  have hI := hI.k (a := 1) (b := 30)
  have hE := hE.k (a := 1) (b := 30)
  have had := had_up (q := q) (c := c) had (nle rfl)
  refine x_putF C hI (xkfX_X2_9 rfl rfl) (by first | exact Or.inl ⟨_, rfl⟩ | exact Or.inr ⟨_, rfl⟩) (nlt rfl) rfl dX2_init_9 ?_
  refine x_aload_n (i := 0) C dX2_init_12 rfl rfl ?_
  refine x_bipush C dX2_init_13 (by decide) ?_
  refine x_newarr (at0 := .int) (ty := .int) (q0 := 0) (nn := 30) (a0 := (30, .inl (fun _ => 0))) (kd := 1) (a := 2) (b := 60) C hG rfl acX_int (fun _ => rfl) (fun _ => rfl) rfl (by decide) rfl (nle rfl) (nle rfl) (rbX_S 154 shX rfl rfl (by decide +kernel)) rfl rfl (by rw [eK.k]) (by rw [eN.k]) (nle rfl) (nle rfl) dX2_init_15 (fun q c C => ?_)
  refine Wx_PH (fun H h => PX_num (k := 154) SB_dz (fun i => rfl) (fun i => rfl) (fun i => rfl) h) ?_
  show Wx _ _ _ (PX _ (upR (dz 152 cz_X152) 152 1 (some 153))) _ _ [.ref 154, .ref 152]
  have hG := hG.k (a := 2) (b := 60)
  have hI := hI.k (a := 2) (b := 60)
  have hE := hE.k (a := 2) (b := 60)
  have had := had_up (q := q) (c := c) had (nle rfl)
  refine x_putF C hI (xkfX_X2_15 rfl rfl) (by first | exact Or.inl ⟨_, rfl⟩ | exact Or.inr ⟨_, rfl⟩) (nlt rfl) rfl dX2_init_17 ?_
  refine Wx_PH (fun H h => PX_many (Y := cz_X152) (sh := shX) [152] rfl (SL_upR rfl (SL_upR rfl (SL_dz rfl SL_rf))) (by decide +kernel) h) ?_
  exact x_vretG C rfl hE eK.k eN.k had dX2_init_20
def cz_X155 : XT := (upR (upR (upR (upR (dz 145 (upR (upR (dz 143 (upR (upR (upI (dz 140 cz_X140) 140 2 (-1)) 140 3 (some 141)) 140 4 (some 142))) 140 5 (some 143)) 140 6 (some 144))) 140 7 (some 145)) 143 0 (some 146)) 143 1 (some 149)) 145 0 (some 152))
set_option maxHeartbeats 4000000 in
set_option maxRecDepth 100000 in
theorem ct_X155 {D : va_G} : MetG (bX D) yX2_init cX2_init 1 1 30 2 60 [.ref 155] 156 158 (dz 155 cz_X155) cz_X155 := by
  refine MetG.mk (own := RX2) (by decide +kernel) rfl rfl (nle rfl) (fun E ad cA C hG hI hE hk0 hn0 => ?_)
  refine Wx_lv (lv' := [(0, .ref 155)]) rfl ?_
  have had : ∀ k, k < 156 → wA (mkW (bX D) 156 ad cA) k = ad k := fun _ _ => rfl
  refine x_aload_n (i := 0) C dX2_init_0 rfl rfl ?_
  refine x_objInit C oiX2_3.1 oiX2_3.2.1 oiX2_3.2.2 (nle rfl) (nle rfl) dX2_init_1 ?_
  refine x_aload_n (i := 0) C dX2_init_4 rfl rfl ?_
  refine x_bipush C dX2_init_5 (by decide) ?_
  refine x_newarr (at0 := .long) (ty := .long) (q0 := 0) (nn := 30) (a0 := (30, .inr (.inl (fun _ => 0)))) (kd := 2) (a := 1) (b := 30) C hG rfl acX_long (fun _ => rfl) (fun _ => rfl) rfl (by decide) rfl (nle rfl) (nle rfl) (rbX_S 156 shX rfl rfl (by decide +kernel)) rfl rfl (by rw [hk0]) (by rw [hn0]) (nle rfl) (nle rfl) dX2_init_7 (fun q c C => ?_)
  refine Wx_PH (fun H h => PX_num (k := 156) SB_dz (fun i => rfl) (fun i => rfl) (fun i => rfl) h) ?_
  show Wx _ _ _ (PX _ (dz 155 cz_X155)) _ _ [.ref 156, .ref 155]
  have hG := hG.k (a := 1) (b := 30)
  have hI := hI.k (a := 1) (b := 30)
  have hE := hE.k (a := 1) (b := 30)
  have had := had_up (q := q) (c := c) had (nle rfl)
  refine x_putF C hI (xkfX_X2_9 rfl rfl) (by first | exact Or.inl ⟨_, rfl⟩ | exact Or.inr ⟨_, rfl⟩) (nlt rfl) rfl dX2_init_9 ?_
  refine x_aload_n (i := 0) C dX2_init_12 rfl rfl ?_
  refine x_bipush C dX2_init_13 (by decide) ?_
  refine x_newarr (at0 := .int) (ty := .int) (q0 := 0) (nn := 30) (a0 := (30, .inl (fun _ => 0))) (kd := 1) (a := 2) (b := 60) C hG rfl acX_int (fun _ => rfl) (fun _ => rfl) rfl (by decide) rfl (nle rfl) (nle rfl) (rbX_S 157 shX rfl rfl (by decide +kernel)) rfl rfl (by rw [eK.k]) (by rw [eN.k]) (nle rfl) (nle rfl) dX2_init_15 (fun q c C => ?_)
  refine Wx_PH (fun H h => PX_num (k := 157) SB_dz (fun i => rfl) (fun i => rfl) (fun i => rfl) h) ?_
  show Wx _ _ _ (PX _ (upR (dz 155 cz_X155) 155 1 (some 156))) _ _ [.ref 157, .ref 155]
  have hG := hG.k (a := 2) (b := 60)
  have hI := hI.k (a := 2) (b := 60)
  have hE := hE.k (a := 2) (b := 60)
  have had := had_up (q := q) (c := c) had (nle rfl)
  refine x_putF C hI (xkfX_X2_15 rfl rfl) (by first | exact Or.inl ⟨_, rfl⟩ | exact Or.inr ⟨_, rfl⟩) (nlt rfl) rfl dX2_init_17 ?_
  refine Wx_PH (fun H h => PX_many (Y := cz_X155) (sh := shX) [155] rfl (SL_upR rfl (SL_upR rfl (SL_dz rfl SL_rf))) (by decide +kernel) h) ?_
  exact x_vretG C rfl hE eK.k eN.k had dX2_init_20
set_option maxHeartbeats 4000000 in
set_option maxRecDepth 100000 in
theorem ct_X140 {D : va_G} : MetG (bX D) yX8_init cX8_init 2 2 50 17 774 [.ref 140] 141 158 (dz 140 cz_X140) cz_X140 := by
  refine MetG.mk (own := RX8) (by decide +kernel) rfl rfl (nle rfl) (fun E ad cA C hG hI hE hk0 hn0 => ?_)
  refine Wx_lv (lv' := [(0, .ref 140)]) rfl ?_
  have had : ∀ k, k < 141 → wA (mkW (bX D) 141 ad cA) k = ad k := fun _ _ => rfl
  refine x_aload_n (i := 0) C dX8_init_0 rfl rfl ?_
  refine x_objInit C oiX8_3.1 oiX8_3.2.1 oiX8_3.2.2 (nle rfl) (nle rfl) dX8_init_1 ?_
  refine x_aload_n (i := 0) C dX8_init_4 rfl rfl ?_
  refine x_iconst C dX8_init_5 ?_
  refine x_putI C (xkpX_X8_9 rfl rfl) (nlt rfl) rfl dX8_init_6 ?_
  refine x_aload_n (i := 0) C dX8_init_9 rfl rfl ?_
  refine x_sipush C dX8_init_10 (by decide) ?_
  refine x_newarr (at0 := .int) (ty := .int) (q0 := 0) (nn := 600) (a0 := (600, .inl (fun _ => 0))) (kd := 1) (a := 1) (b := 600) C hG rfl acX_int (fun _ => rfl) (fun _ => rfl) rfl (by decide) rfl (nle rfl) (nle rfl) (rbX_S 141 shX rfl rfl (by decide +kernel)) rfl rfl (by rw [hk0]) (by rw [hn0]) (nle rfl) (nle rfl) dX8_init_13 (fun q c C => ?_)
  refine Wx_PH (fun H h => PX_num (k := 141) SB_dz (fun i => rfl) (fun i => rfl) (fun i => rfl) h) ?_
  show Wx _ _ _ (PX _ (upI (dz 140 cz_X140) 140 2 (-1))) _ _ [.ref 141, .ref 140]
  have hG := hG.k (a := 1) (b := 600)
  have hI := hI.k (a := 1) (b := 600)
  have hE := hE.k (a := 1) (b := 600)
  have had := had_up (q := q) (c := c) had (nle rfl)
  refine x_putF C hI (xkfX_X8_15 rfl rfl) (by first | exact Or.inl ⟨_, rfl⟩ | exact Or.inr ⟨_, rfl⟩) (nlt rfl) rfl dX8_init_15 ?_
  refine x_aload_n (i := 0) C dX8_init_18 rfl rfl ?_
  refine x_iconst C dX8_init_19 ?_
  refine x_newarr (at0 := .int) (ty := .int) (q0 := 0) (nn := 3) (a0 := (3, .inl (fun _ => 0))) (kd := 1) (a := 2) (b := 603) C hG rfl acX_int (fun _ => rfl) (fun _ => rfl) rfl (by decide) rfl (nle rfl) (nle rfl) (rbX_S 142 shX rfl rfl (by decide +kernel)) rfl rfl (by rw [eK.k]) (by rw [eN.k]) (nle rfl) (nle rfl) dX8_init_20 (fun q c C => ?_)
  refine Wx_PH (fun H h => PX_num (k := 142) SB_dz (fun i => rfl) (fun i => rfl) (fun i => rfl) h) ?_
  show Wx _ _ _ (PX _ (upR (upI (dz 140 cz_X140) 140 2 (-1)) 140 3 (some 141))) _ _ [.ref 142, .ref 140]
  have hG := hG.k (a := 2) (b := 603)
  have hI := hI.k (a := 2) (b := 603)
  have hE := hE.k (a := 2) (b := 603)
  have had := had_up (q := q) (c := c) had (nle rfl)
  refine x_putF C hI (xkfX_X8_19 rfl rfl) (by first | exact Or.inl ⟨_, rfl⟩ | exact Or.inr ⟨_, rfl⟩) (nlt rfl) rfl dX8_init_22 ?_
  refine x_aload_n (i := 0) C dX8_init_25 rfl rfl ?_
  refine x_iconst C dX8_init_26 ?_
  refine x_anew (nn := 2) (a := 3) (b := 605) C hG naX8_22.1 naX8_22.2 rfl rfl (nle rfl) (rbX_S 143 shX rfl rfl (by decide +kernel)) rfl rfl (by rw [eK.k]) (by rw [eN.k]) (nle rfl) (nle rfl) dX8_init_27 (fun q c C => ?_)
  show Wx _ _ _ (PX _ (dz 143 (upR (upR (upI (dz 140 cz_X140) 140 2 (-1)) 140 3 (some 141)) 140 4 (some 142)))) _ _ [.ref 143, .ref 140]
  have hG := hG.k (a := 3) (b := 605)
  have hI := hI.k (a := 3) (b := 605)
  have hE := hE.k (a := 3) (b := 605)
  have had := had_up (q := q) (c := c) had (nle rfl)
  refine x_putF C hI (xkfX_X8_24 rfl rfl) (by first | exact Or.inl ⟨_, rfl⟩ | exact Or.inr ⟨_, rfl⟩) (nlt rfl) rfl dX8_init_30 ?_
  refine x_aload_n (i := 0) C dX8_init_33 rfl rfl ?_
  refine x_iconst C dX8_init_34 ?_
  refine x_newarr (at0 := .long) (ty := .long) (q0 := 0) (nn := 3) (a0 := (3, .inr (.inl (fun _ => 0)))) (kd := 2) (a := 4) (b := 608) C hG rfl acX_long (fun _ => rfl) (fun _ => rfl) rfl (by decide) rfl (nle rfl) (nle rfl) (rbX_S 144 shX rfl rfl (by decide +kernel)) rfl rfl (by rw [eK.k]) (by rw [eN.k]) (nle rfl) (nle rfl) dX8_init_35 (fun q c C => ?_)
  refine Wx_PH (fun H h => PX_num (k := 144) SB_dz (fun i => rfl) (fun i => rfl) (fun i => rfl) h) ?_
  show Wx _ _ _ (PX _ (upR (dz 143 (upR (upR (upI (dz 140 cz_X140) 140 2 (-1)) 140 3 (some 141)) 140 4 (some 142))) 140 5 (some 143))) _ _ [.ref 144, .ref 140]
  have hG := hG.k (a := 4) (b := 608)
  have hI := hI.k (a := 4) (b := 608)
  have hE := hE.k (a := 4) (b := 608)
  have had := had_up (q := q) (c := c) had (nle rfl)
  refine x_putF C hI (xkfX_X8_28 rfl rfl) (by first | exact Or.inl ⟨_, rfl⟩ | exact Or.inr ⟨_, rfl⟩) (nlt rfl) rfl dX8_init_37 ?_
  refine x_aload_n (i := 0) C dX8_init_40 rfl rfl ?_
  refine x_iconst C dX8_init_41 ?_
  refine x_anew (nn := 2) (a := 5) (b := 610) C hG naX8_32.1 naX8_32.2 rfl rfl (nle rfl) (rbX_S 145 shX rfl rfl (by decide +kernel)) rfl rfl (by rw [eK.k]) (by rw [eN.k]) (nle rfl) (nle rfl) dX8_init_42 (fun q c C => ?_)
  show Wx _ _ _ (PX _ (dz 145 (upR (upR (dz 143 (upR (upR (upI (dz 140 cz_X140) 140 2 (-1)) 140 3 (some 141)) 140 4 (some 142))) 140 5 (some 143)) 140 6 (some 144)))) _ _ [.ref 145, .ref 140]
  have hG := hG.k (a := 5) (b := 610)
  have hI := hI.k (a := 5) (b := 610)
  have hE := hE.k (a := 5) (b := 610)
  have had := had_up (q := q) (c := c) had (nle rfl)
  refine x_putF C hI (xkfX_X8_34 rfl rfl) (by first | exact Or.inl ⟨_, rfl⟩ | exact Or.inr ⟨_, rfl⟩) (nlt rfl) rfl dX8_init_45 ?_
  refine x_iconst C dX8_init_48 ?_
  refine x_istore_n (i := 1) (lv' := [(1, .int (iI (0))), (0, .ref 140)]) C dX8_init_49 rfl (nlt rfl) rfl ?_
  refine x_iload_n (i := 1) C dX8_init_50 rfl rfl ?_
  refine x_iconst C dX8_init_51 ?_
  refine x_icmp_ge (tgt := 74) C dX8_init_52 (by decide) ⟨by omega, by omega⟩ ⟨by omega, by omega⟩ (fun h => by exfalso; omega) (fun h => ?_)
  clear h
  refine x_aload_n (i := 0) C dX8_init_55 rfl rfl ?_
  refine x_getRs (r := 143) C (xkgX_X8_24 rfl rfl) (nlt rfl) rfl rfl dX8_init_56 ?_
  refine x_iload_n (i := 1) C dX8_init_59 rfl rfl ?_
  refine x_new (a := 6) (b := 617) C hG inX0 tyX0_ok rfl rfl nwX_X8_22.1 nwX_X8_22.2.1 nwX_X8_22.2.2 (fun j hj => by rcases (show j = 0 ∨ j = 1 ∨ j = 2 ∨ j = 3 ∨ j = 4 ∨ j = 5 ∨ j = 6 by omega) with rfl | rfl | rfl | rfl | rfl | rfl | rfl <;> rfl) (rbX_S 146 shX rfl rfl (by decide +kernel)) rfl rfl (by rw [eK.k]) (by rw [eN.k]) (nle rfl) (nle rfl) dX8_init_60 (fun q c C => ?_)
  show Wx _ _ _ (PX _ (dz 146 (upR (dz 145 (upR (upR (dz 143 (upR (upR (upI (dz 140 cz_X140) 140 2 (-1)) 140 3 (some 141)) 140 4 (some 142))) 140 5 (some 143)) 140 6 (some 144))) 140 7 (some 145)))) _ _ [.ref 146, .int (iI (0)), .ref 143]
  have hG := hG.k (a := 6) (b := 617)
  have hI := hI.k (a := 6) (b := 617)
  have hE := hE.k (a := 6) (b := 617)
  have had := had_up (q := q) (c := c) had (nle rfl)
  refine x_dup C dX8_init_63 rfl ?_
  refine x_callG (k := 146) (As := []) (a := 8) (b' := 629) C hG rfl ct_X146 (Or.inr ciX8_38) im_X0_init rfl rfl rfl (nle rfl) ⟨nle rfl, nle rfl⟩ rfl rfl (by rw [eK.k]) (by rw [eN.k]) (nle rfl) (nle rfl) dX8_init_64 (fun ad39 cA39 C hadk => ?_)
  have had : ∀ k, k < 141 → wA (mkW (bX D) 149 ad39 cA39) k = ad k := fun k hk => (hadk k (Nat.lt_of_lt_of_le hk (nle rfl))).trans (had k hk)
  clear hadk
  have hG := hG.k (a := 8) (b := 629)
  have hI := hI.k (a := 8) (b := 629)
  have hE := hE.k (a := 8) (b := 629)
  refine x_aast C (nlt rfl) rfl rfl (nlt rfl) rfl rfl (nle rfl) (by omega) (by omega) dX8_init_67 ?_
  refine x_iinc (lv' := [(1, .int (iI (0 + 1))), (0, .ref 140)]) C dX8_init_68 rfl (nlt rfl) rfl ?_
  refine Wx_lv (lv' := [(1, .int (iI (1))), (0, .ref 140)]) rfl ?_
  refine x_goto (tgt := 50) C dX8_init_71 (by decide) ?_
  refine x_iload_n (i := 1) C dX8_init_50 rfl rfl ?_
  refine x_iconst C dX8_init_51 ?_
  refine x_icmp_ge (tgt := 74) C dX8_init_52 (by decide) ⟨by omega, by omega⟩ ⟨by omega, by omega⟩ (fun h => by exfalso; omega) (fun h => ?_)
  clear h
  refine x_aload_n (i := 0) C dX8_init_55 rfl rfl ?_
  refine x_getRs (r := 143) C (xkgX_X8_24 rfl rfl) (nlt rfl) rfl rfl dX8_init_56 ?_
  refine x_iload_n (i := 1) C dX8_init_59 rfl rfl ?_
  refine x_new (a := 9) (b := 636) C hG inX0 tyX0_ok rfl rfl nwX_X8_22.1 nwX_X8_22.2.1 nwX_X8_22.2.2 (fun j hj => by rcases (show j = 0 ∨ j = 1 ∨ j = 2 ∨ j = 3 ∨ j = 4 ∨ j = 5 ∨ j = 6 by omega) with rfl | rfl | rfl | rfl | rfl | rfl | rfl <;> rfl) (rbX_S 149 shX rfl rfl (by decide +kernel)) rfl rfl (by rw [eK.k]) (by rw [eN.k]) (nle rfl) (nle rfl) dX8_init_60 (fun q c C => ?_)
  show Wx _ _ _ (PX _ (dz 149 (upR (upR (dz 145 (upR (upR (dz 143 (upR (upR (upI (dz 140 cz_X140) 140 2 (-1)) 140 3 (some 141)) 140 4 (some 142))) 140 5 (some 143)) 140 6 (some 144))) 140 7 (some 145)) 143 0 (some 146)))) _ _ [.ref 149, .int (iI (1)), .ref 143]
  have hG := hG.k (a := 9) (b := 636)
  have hI := hI.k (a := 9) (b := 636)
  have hE := hE.k (a := 9) (b := 636)
  have had := had_up (q := q) (c := c) had (nle rfl)
  refine x_dup C dX8_init_63 rfl ?_
  refine x_callG (k := 149) (As := []) (a := 11) (b' := 648) C hG rfl ct_X149 (Or.inr ciX8_38) im_X0_init rfl rfl rfl (nle rfl) ⟨nle rfl, nle rfl⟩ rfl rfl (by rw [eK.k]) (by rw [eN.k]) (nle rfl) (nle rfl) dX8_init_64 (fun ad40 cA40 C hadk => ?_)
  have had : ∀ k, k < 141 → wA (mkW (bX D) 152 ad40 cA40) k = ad k := fun k hk => (hadk k (Nat.lt_of_lt_of_le hk (nle rfl))).trans (had k hk)
  clear hadk
  have hG := hG.k (a := 11) (b := 648)
  have hI := hI.k (a := 11) (b := 648)
  have hE := hE.k (a := 11) (b := 648)
  refine x_aast C (nlt rfl) rfl rfl (nlt rfl) rfl rfl (nle rfl) (by omega) (by omega) dX8_init_67 ?_
  refine x_iinc (lv' := [(1, .int (iI (1 + 1))), (0, .ref 140)]) C dX8_init_68 rfl (nlt rfl) rfl ?_
  refine Wx_lv (lv' := [(1, .int (iI (2))), (0, .ref 140)]) rfl ?_
  refine x_goto (tgt := 50) C dX8_init_71 (by decide) ?_
  refine x_iload_n (i := 1) C dX8_init_50 rfl rfl ?_
  refine x_iconst C dX8_init_51 ?_
  refine x_icmp_ge (tgt := 74) C dX8_init_52 (by decide) ⟨by omega, by omega⟩ ⟨by omega, by omega⟩ (fun h => ?_) (fun h => by exfalso; omega)
  clear h
  refine x_iconst C dX8_init_74 ?_
  refine x_istore_n (i := 1) (lv' := [(1, .int (iI (0))), (0, .ref 140)]) C dX8_init_75 rfl (nlt rfl) rfl ?_
  refine x_iload_n (i := 1) C dX8_init_76 rfl rfl ?_
  refine x_iconst C dX8_init_77 ?_
  refine x_icmp_ge (tgt := 100) C dX8_init_78 (by decide) ⟨by omega, by omega⟩ ⟨by omega, by omega⟩ (fun h => by exfalso; omega) (fun h => ?_)
  clear h
  refine x_aload_n (i := 0) C dX8_init_81 rfl rfl ?_
  refine x_getRs (r := 145) C (xkgX_X8_34 rfl rfl) (nlt rfl) rfl rfl dX8_init_82 ?_
  refine x_iload_n (i := 1) C dX8_init_85 rfl rfl ?_
  refine x_new (a := 12) (b := 651) C hG inX2 tyX2_ok rfl rfl nwX_X8_32.1 nwX_X8_32.2.1 nwX_X8_32.2.2 (fun j hj => by rcases (show j = 0 ∨ j = 1 ∨ j = 2 by omega) with rfl | rfl | rfl <;> rfl) (rbX_S 152 shX rfl rfl (by decide +kernel)) rfl rfl (by rw [eK.k]) (by rw [eN.k]) (nle rfl) (nle rfl) dX8_init_86 (fun q c C => ?_)
  show Wx _ _ _ (PX _ (dz 152 (upR (upR (upR (dz 145 (upR (upR (dz 143 (upR (upR (upI (dz 140 cz_X140) 140 2 (-1)) 140 3 (some 141)) 140 4 (some 142))) 140 5 (some 143)) 140 6 (some 144))) 140 7 (some 145)) 143 0 (some 146)) 143 1 (some 149)))) _ _ [.ref 152, .int (iI (0)), .ref 145]
  have hG := hG.k (a := 12) (b := 651)
  have hI := hI.k (a := 12) (b := 651)
  have hE := hE.k (a := 12) (b := 651)
  have had := had_up (q := q) (c := c) had (nle rfl)
  refine x_dup C dX8_init_89 rfl ?_
  refine x_callG (k := 152) (As := []) (a := 14) (b' := 711) C hG rfl ct_X152 (Or.inr ciX8_39) im_X2_init rfl rfl rfl (nle rfl) ⟨nle rfl, nle rfl⟩ rfl rfl (by rw [eK.k]) (by rw [eN.k]) (nle rfl) (nle rfl) dX8_init_90 (fun ad41 cA41 C hadk => ?_)
  have had : ∀ k, k < 141 → wA (mkW (bX D) 155 ad41 cA41) k = ad k := fun k hk => (hadk k (Nat.lt_of_lt_of_le hk (nle rfl))).trans (had k hk)
  clear hadk
  have hG := hG.k (a := 14) (b := 711)
  have hI := hI.k (a := 14) (b := 711)
  have hE := hE.k (a := 14) (b := 711)
  refine x_aast C (nlt rfl) rfl rfl (nlt rfl) rfl rfl (nle rfl) (by omega) (by omega) dX8_init_93 ?_
  refine x_iinc (lv' := [(1, .int (iI (0 + 1))), (0, .ref 140)]) C dX8_init_94 rfl (nlt rfl) rfl ?_
  refine Wx_lv (lv' := [(1, .int (iI (1))), (0, .ref 140)]) rfl ?_
  refine x_goto (tgt := 76) C dX8_init_97 (by decide) ?_
  refine x_iload_n (i := 1) C dX8_init_76 rfl rfl ?_
  refine x_iconst C dX8_init_77 ?_
  refine x_icmp_ge (tgt := 100) C dX8_init_78 (by decide) ⟨by omega, by omega⟩ ⟨by omega, by omega⟩ (fun h => by exfalso; omega) (fun h => ?_)
  clear h
  refine x_aload_n (i := 0) C dX8_init_81 rfl rfl ?_
  refine x_getRs (r := 145) C (xkgX_X8_34 rfl rfl) (nlt rfl) rfl rfl dX8_init_82 ?_
  refine x_iload_n (i := 1) C dX8_init_85 rfl rfl ?_
  refine x_new (a := 15) (b := 714) C hG inX2 tyX2_ok rfl rfl nwX_X8_32.1 nwX_X8_32.2.1 nwX_X8_32.2.2 (fun j hj => by rcases (show j = 0 ∨ j = 1 ∨ j = 2 by omega) with rfl | rfl | rfl <;> rfl) (rbX_S 155 shX rfl rfl (by decide +kernel)) rfl rfl (by rw [eK.k]) (by rw [eN.k]) (nle rfl) (nle rfl) dX8_init_86 (fun q c C => ?_)
  show Wx _ _ _ (PX _ (dz 155 (upR (upR (upR (upR (dz 145 (upR (upR (dz 143 (upR (upR (upI (dz 140 cz_X140) 140 2 (-1)) 140 3 (some 141)) 140 4 (some 142))) 140 5 (some 143)) 140 6 (some 144))) 140 7 (some 145)) 143 0 (some 146)) 143 1 (some 149)) 145 0 (some 152)))) _ _ [.ref 155, .int (iI (1)), .ref 145]
  have hG := hG.k (a := 15) (b := 714)
  have hI := hI.k (a := 15) (b := 714)
  have hE := hE.k (a := 15) (b := 714)
  have had := had_up (q := q) (c := c) had (nle rfl)
  refine x_dup C dX8_init_89 rfl ?_
  refine x_callG (k := 155) (As := []) (a := 17) (b' := 774) C hG rfl ct_X155 (Or.inr ciX8_39) im_X2_init rfl rfl rfl (nle rfl) ⟨nle rfl, nle rfl⟩ rfl rfl (by rw [eK.k]) (by rw [eN.k]) (nle rfl) (nle rfl) dX8_init_90 (fun ad42 cA42 C hadk => ?_)
  have had : ∀ k, k < 141 → wA (mkW (bX D) 158 ad42 cA42) k = ad k := fun k hk => (hadk k (Nat.lt_of_lt_of_le hk (nle rfl))).trans (had k hk)
  clear hadk
  have hG := hG.k (a := 17) (b := 774)
  have hI := hI.k (a := 17) (b := 774)
  have hE := hE.k (a := 17) (b := 774)
  refine x_aast C (nlt rfl) rfl rfl (nlt rfl) rfl rfl (nle rfl) (by omega) (by omega) dX8_init_93 ?_
  refine x_iinc (lv' := [(1, .int (iI (1 + 1))), (0, .ref 140)]) C dX8_init_94 rfl (nlt rfl) rfl ?_
  refine Wx_lv (lv' := [(1, .int (iI (2))), (0, .ref 140)]) rfl ?_
  refine x_goto (tgt := 76) C dX8_init_97 (by decide) ?_
  refine x_iload_n (i := 1) C dX8_init_76 rfl rfl ?_
  refine x_iconst C dX8_init_77 ?_
  refine x_icmp_ge (tgt := 100) C dX8_init_78 (by decide) ⟨by omega, by omega⟩ ⟨by omega, by omega⟩ (fun h => ?_) (fun h => by exfalso; omega)
  clear h
  refine Wx_PH (fun H h => PX_many (Y := cz_X140) (sh := shX) [140, 143, 145] rfl (SL_upR rfl (SL_upR rfl (SL_upR rfl (SL_upR rfl (SL_upR rfl (SL_dz rfl (SL_upR rfl (SL_upR rfl (SL_dz rfl (SL_upR rfl (SL_upR rfl (SL_upI rfl (SL_dz rfl SL_rf))))))))))))) (by decide +kernel) h) ?_
  exact x_vretG C rfl hE eK.k eN.k had dX8_init_100
set_option maxHeartbeats 4000000 in
set_option maxRecDepth 100000 in
theorem ct_X0 {D : va_G} : MetG (bX D) yX11_init cX11_init 2 4 94 157 24169 [.ref 0] 1 158 (dz 0 x0X) x0X := by
  refine MetG.mk (own := RX11) (by decide +kernel) rfl rfl (nle rfl) (fun E ad cA C hG hI hE hk0 hn0 => ?_)
  refine Wx_lv (lv' := [(0, .ref 0)]) rfl ?_
  have had : ∀ k, k < 1 → wA (mkW (bX D) 1 ad cA) k = ad k := fun _ _ => rfl
  refine x_aload_n (i := 0) C dX11_init_0 rfl rfl ?_
  refine x_objInit C oiX11_1.1 oiX11_1.2.1 oiX11_1.2.2 (nle rfl) (nle rfl) dX11_init_1 ?_
  refine x_aload_n (i := 0) C dX11_init_4 rfl rfl ?_
  refine x_new (a := 1) (b := 8) C hG inX8 tyX8_ok rfl rfl nwX_X11_7.1 nwX_X11_7.2.1 nwX_X11_7.2.2 (fun j hj => by rcases (show j = 0 ∨ j = 1 ∨ j = 2 ∨ j = 3 ∨ j = 4 ∨ j = 5 ∨ j = 6 ∨ j = 7 by omega) with rfl | rfl | rfl | rfl | rfl | rfl | rfl | rfl <;> rfl) (rbX_S 1 shX rfl rfl (by decide +kernel)) rfl rfl (by rw [hk0]) (by rw [hn0]) (nle rfl) (nle rfl) dX11_init_5 (fun q c C => ?_)
  show Wx _ _ _ (PX _ (dz 1 (dz 0 x0X))) _ _ [.ref 1, .ref 0]
  have hG := hG.k (a := 1) (b := 8)
  have hI := hI.k (a := 1) (b := 8)
  have hE := hE.k (a := 1) (b := 8)
  have had := had_up (q := q) (c := c) had (nle rfl)
  refine x_dup C dX11_init_8 rfl ?_
  refine x_callG (host := "") (k := 1) (As := []) (a := 18) (b' := 782) C hG rfl ct_X1 (Or.inl (show CKB RX11 9 yX8_init cX8_init 2 none 0 from ckX11_9)) im_X8_init rfl rfl rfl (nle rfl) ⟨nle rfl, nle rfl⟩ rfl rfl (by rw [eK.k]) (by rw [eN.k]) (nle rfl) (nle rfl) dX11_init_9 (fun ad4 cA4 C hadk => ?_)
  have had : ∀ k, k < 1 → wA (mkW (bX D) 19 ad4 cA4) k = ad k := fun k hk => (hadk k (Nat.lt_of_lt_of_le hk (nle rfl))).trans (had k hk)
  clear hadk
  have hG := hG.k (a := 18) (b := 782)
  have hI := hI.k (a := 18) (b := 782)
  have hE := hE.k (a := 18) (b := 782)
  refine x_putF C hI (xkfX_X11_10 rfl rfl) (by first | exact Or.inl ⟨_, rfl⟩ | exact Or.inr ⟨_, rfl⟩) (nlt rfl) rfl dX11_init_12 ?_
  refine x_aload_n (i := 0) C dX11_init_15 rfl rfl ?_
  refine x_iconst C dX11_init_16 ?_
  refine x_anew (nn := 3) (a := 19) (b := 785) C hG naX11_7.1 naX11_7.2 rfl rfl (nle rfl) (rbX_S 19 shX rfl rfl (by decide +kernel)) rfl rfl (by rw [eK.k]) (by rw [eN.k]) (nle rfl) (nle rfl) dX11_init_17 (fun q c C => ?_)
  show Wx _ _ _ (PX _ (dz 19 (upR (dz 0 x0X) 0 0 (some 1)))) _ _ [.ref 19, .ref 0]
  have hG := hG.k (a := 19) (b := 785)
  have hI := hI.k (a := 19) (b := 785)
  have hE := hE.k (a := 19) (b := 785)
  have had := had_up (q := q) (c := c) had (nle rfl)
  refine x_putF C hI (xkfX_X11_16 rfl rfl) (by first | exact Or.inl ⟨_, rfl⟩ | exact Or.inr ⟨_, rfl⟩) (nlt rfl) rfl dX11_init_20 ?_
  refine x_aload_n (i := 0) C dX11_init_23 rfl rfl ?_
  refine x_iconst C dX11_init_24 ?_
  refine x_newarr (at0 := .boolean) (ty := .boolean) (q0 := 0) (nn := 3) (a0 := (3, .inl (fun _ => 0))) (kd := 1) (a := 20) (b := 788) C hG rfl acX_boolean (fun _ => rfl) (fun _ => rfl) rfl (by decide) rfl (nle rfl) (nle rfl) (rbX_S 20 shX rfl rfl (by decide +kernel)) rfl rfl (by rw [eK.k]) (by rw [eN.k]) (nle rfl) (nle rfl) dX11_init_25 (fun q c C => ?_)
  refine Wx_PH (fun H h => PX_num (k := 20) SB_dz (fun i => rfl) (fun i => rfl) (fun i => rfl) h) ?_
  show Wx _ _ _ (PX _ (upR (dz 19 (upR (dz 0 x0X) 0 0 (some 1))) 0 1 (some 19))) _ _ [.ref 20, .ref 0]
  have hG := hG.k (a := 20) (b := 788)
  have hI := hI.k (a := 20) (b := 788)
  have hE := hE.k (a := 20) (b := 788)
  have had := had_up (q := q) (c := c) had (nle rfl)
  refine x_putF C hI (xkfX_X11_20 rfl rfl) (by first | exact Or.inl ⟨_, rfl⟩ | exact Or.inr ⟨_, rfl⟩) (nlt rfl) rfl dX11_init_27 ?_
  refine x_aload_n (i := 0) C dX11_init_30 rfl rfl ?_
  refine x_new (a := 21) (b := 799) C hG inX6 tyX6_ok rfl rfl nwX_X11_24.1 nwX_X11_24.2.1 nwX_X11_24.2.2 (fun j hj => by rcases (show j = 0 ∨ j = 1 ∨ j = 2 ∨ j = 3 ∨ j = 4 ∨ j = 5 ∨ j = 6 ∨ j = 7 ∨ j = 8 ∨ j = 9 ∨ j = 10 by omega) with rfl | rfl | rfl | rfl | rfl | rfl | rfl | rfl | rfl | rfl | rfl <;> rfl) (rbX_S 21 shX rfl rfl (by decide +kernel)) rfl rfl (by rw [eK.k]) (by rw [eN.k]) (nle rfl) (nle rfl) dX11_init_31 (fun q c C => ?_)
  show Wx _ _ _ (PX _ (dz 21 (upR (upR (dz 19 (upR (dz 0 x0X) 0 0 (some 1))) 0 1 (some 19)) 0 2 (some 20)))) _ _ [.ref 21, .ref 0]
  have hG := hG.k (a := 21) (b := 799)
  have hI := hI.k (a := 21) (b := 799)
  have hE := hE.k (a := 21) (b := 799)
  have had := had_up (q := q) (c := c) had (nle rfl)
  refine x_dup C dX11_init_34 rfl ?_
  refine x_callG (k := 21) (As := []) (a := 28) (b' := 881) C hG rfl ct_X21 (Or.inr ciX11_26) im_X6_init rfl rfl rfl (nle rfl) ⟨nle rfl, nle rfl⟩ rfl rfl (by rw [eK.k]) (by rw [eN.k]) (nle rfl) (nle rfl) dX11_init_35 (fun ad7 cA7 C hadk => ?_)
  have had : ∀ k, k < 1 → wA (mkW (bX D) 29 ad7 cA7) k = ad k := fun k hk => (hadk k (Nat.lt_of_lt_of_le hk (nle rfl))).trans (had k hk)
  clear hadk
  have hG := hG.k (a := 28) (b := 881)
  have hI := hI.k (a := 28) (b := 881)
  have hE := hE.k (a := 28) (b := 881)
  refine x_putF C hI (xkfX_X11_27 rfl rfl) (by first | exact Or.inl ⟨_, rfl⟩ | exact Or.inr ⟨_, rfl⟩) (nlt rfl) rfl dX11_init_38 ?_
  refine x_aload_n (i := 0) C dX11_init_41 rfl rfl ?_
  refine x_new (a := 29) (b := 889) C hG inX9 tyX9_ok rfl rfl nwX_X11_31.1 nwX_X11_31.2.1 nwX_X11_31.2.2 (fun j hj => by rcases (show j = 0 ∨ j = 1 ∨ j = 2 ∨ j = 3 ∨ j = 4 ∨ j = 5 ∨ j = 6 ∨ j = 7 by omega) with rfl | rfl | rfl | rfl | rfl | rfl | rfl | rfl <;> rfl) (rbX_S 29 shX rfl rfl (by decide +kernel)) rfl rfl (by rw [eK.k]) (by rw [eN.k]) (nle rfl) (nle rfl) dX11_init_42 (fun q c C => ?_)
  show Wx _ _ _ (PX _ (dz 29 (upR (upR (upR (dz 19 (upR (dz 0 x0X) 0 0 (some 1))) 0 1 (some 19)) 0 2 (some 20)) 0 3 (some 21)))) _ _ [.ref 29, .ref 0]
  have hG := hG.k (a := 29) (b := 889)
  have hI := hI.k (a := 29) (b := 889)
  have hE := hE.k (a := 29) (b := 889)
  have had := had_up (q := q) (c := c) had (nle rfl)
  refine x_dup C dX11_init_45 rfl ?_
  refine x_callG (k := 29) (As := []) (a := 37) (b' := 4575) C hG rfl ct_X29 (Or.inr ciX11_33) im_X9_init rfl rfl rfl (nle rfl) ⟨nle rfl, nle rfl⟩ rfl rfl (by rw [eK.k]) (by rw [eN.k]) (nle rfl) (nle rfl) dX11_init_46 (fun ad9 cA9 C hadk => ?_)
  have had : ∀ k, k < 1 → wA (mkW (bX D) 38 ad9 cA9) k = ad k := fun k hk => (hadk k (Nat.lt_of_lt_of_le hk (nle rfl))).trans (had k hk)
  clear hadk
  have hG := hG.k (a := 37) (b := 4575)
  have hI := hI.k (a := 37) (b := 4575)
  have hE := hE.k (a := 37) (b := 4575)
  refine x_putF C hI (xkfX_X11_34 rfl rfl) (by first | exact Or.inl ⟨_, rfl⟩ | exact Or.inr ⟨_, rfl⟩) (nlt rfl) rfl dX11_init_49 ?_
  refine x_aload_n (i := 0) C dX11_init_52 rfl rfl ?_
  refine x_new (a := 38) (b := 4579) C hG inX5 tyX5_ok rfl rfl nwX_X11_38.1 nwX_X11_38.2.1 nwX_X11_38.2.2 (fun j hj => by rcases (show j = 0 ∨ j = 1 ∨ j = 2 ∨ j = 3 by omega) with rfl | rfl | rfl | rfl <;> rfl) (rbX_S 38 shX rfl rfl (by decide +kernel)) rfl rfl (by rw [eK.k]) (by rw [eN.k]) (nle rfl) (nle rfl) dX11_init_53 (fun q c C => ?_)
  show Wx _ _ _ (PX _ (dz 38 (upR (upR (upR (upR (dz 19 (upR (dz 0 x0X) 0 0 (some 1))) 0 1 (some 19)) 0 2 (some 20)) 0 3 (some 21)) 0 4 (some 29)))) _ _ [.ref 38, .ref 0]
  have hG := hG.k (a := 38) (b := 4579)
  have hI := hI.k (a := 38) (b := 4579)
  have hE := hE.k (a := 38) (b := 4579)
  have had := had_up (q := q) (c := c) had (nle rfl)
  refine x_dup C dX11_init_56 rfl ?_
  refine x_callG (k := 38) (As := []) (a := 53) (b' := 4654) C hG rfl ct_X38 (Or.inr ciX11_40) im_X5_init rfl rfl rfl (nle rfl) ⟨nle rfl, nle rfl⟩ rfl rfl (by rw [eK.k]) (by rw [eN.k]) (nle rfl) (nle rfl) dX11_init_57 (fun ad15 cA15 C hadk => ?_)
  have had : ∀ k, k < 1 → wA (mkW (bX D) 54 ad15 cA15) k = ad k := fun k hk => (hadk k (Nat.lt_of_lt_of_le hk (nle rfl))).trans (had k hk)
  clear hadk
  have hG := hG.k (a := 53) (b := 4654)
  have hI := hI.k (a := 53) (b := 4654)
  have hE := hE.k (a := 53) (b := 4654)
  refine x_putF C hI (xkfX_X11_41 rfl rfl) (by first | exact Or.inl ⟨_, rfl⟩ | exact Or.inr ⟨_, rfl⟩) (nlt rfl) rfl dX11_init_60 ?_
  refine x_aload_n (i := 0) C dX11_init_63 rfl rfl ?_
  refine x_new (a := 54) (b := 4661) C hG inX1 tyX1_ok rfl rfl nwX_X11_45.1 nwX_X11_45.2.1 nwX_X11_45.2.2 (fun j hj => by rcases (show j = 0 ∨ j = 1 ∨ j = 2 ∨ j = 3 ∨ j = 4 ∨ j = 5 ∨ j = 6 by omega) with rfl | rfl | rfl | rfl | rfl | rfl | rfl <;> rfl) (rbX_S 54 shX rfl rfl (by decide +kernel)) rfl rfl (by rw [eK.k]) (by rw [eN.k]) (nle rfl) (nle rfl) dX11_init_64 (fun q c C => ?_)
  show Wx _ _ _ (PX _ (dz 54 (upR (upR (upR (upR (upR (dz 19 (upR (dz 0 x0X) 0 0 (some 1))) 0 1 (some 19)) 0 2 (some 20)) 0 3 (some 21)) 0 4 (some 29)) 0 5 (some 38)))) _ _ [.ref 54, .ref 0]
  have hG := hG.k (a := 54) (b := 4661)
  have hI := hI.k (a := 54) (b := 4661)
  have hE := hE.k (a := 54) (b := 4661)
  have had := had_up (q := q) (c := c) had (nle rfl)
  refine x_dup C dX11_init_67 rfl ?_
  refine x_callG (host := "") (k := 54) (As := []) (a := 103) (b' := 21823) C hG rfl ct_X54 (Or.inl (show CKB RX11 47 yX1_init cX1_init 3 none 0 from ckX11_47)) im_X1_init rfl rfl rfl (nle rfl) ⟨nle rfl, nle rfl⟩ rfl rfl (by rw [eK.k]) (by rw [eN.k]) (nle rfl) (nle rfl) dX11_init_68 (fun ad28 cA28 C hadk => ?_)
  have had : ∀ k, k < 1 → wA (mkW (bX D) 104 ad28 cA28) k = ad k := fun k hk => (hadk k (Nat.lt_of_lt_of_le hk (nle rfl))).trans (had k hk)
  clear hadk
  have hG := hG.k (a := 103) (b := 21823)
  have hI := hI.k (a := 103) (b := 21823)
  have hE := hE.k (a := 103) (b := 21823)
  refine x_putF C hI (xkfX_X11_48 rfl rfl) (by first | exact Or.inl ⟨_, rfl⟩ | exact Or.inr ⟨_, rfl⟩) (nlt rfl) rfl dX11_init_71 ?_
  refine x_aload_n (i := 0) C dX11_init_74 rfl rfl ?_
  refine x_aload_n (i := 0) C dX11_init_75 rfl rfl ?_
  refine x_getRs (r := 54) C (xkgX_X11_48 rfl rfl) (nlt rfl) rfl rfl dX11_init_76 ?_
  refine x_getRs (r := 55) C (xkgX_X11_52 rfl rfl) (nlt rfl) rfl rfl dX11_init_79 ?_
  refine x_putF C hI (xkfX_X11_56 rfl rfl) (by first | exact Or.inl ⟨_, rfl⟩ | exact Or.inr ⟨_, rfl⟩) (nlt rfl) rfl dX11_init_82 ?_
  refine x_iconst C dX11_init_85 ?_
  refine x_istore_n (i := 1) (lv' := [(1, .int (iI (0))), (0, .ref 0)]) C dX11_init_86 rfl (nlt rfl) rfl ?_
  refine x_iload_n (i := 1) C dX11_init_87 rfl rfl ?_
  refine x_iconst C dX11_init_88 ?_
  refine x_icmp_ge (tgt := 111) C dX11_init_89 (by decide) ⟨by omega, by omega⟩ ⟨by omega, by omega⟩ (fun h => by exfalso; omega) (fun h => ?_)
  clear h
  refine x_aload_n (i := 0) C dX11_init_92 rfl rfl ?_
  refine x_getRs (r := 19) C (xkgX_X11_16 rfl rfl) (nlt rfl) rfl rfl dX11_init_93 ?_
  refine x_iload_n (i := 1) C dX11_init_96 rfl rfl ?_
  refine x_new (a := 104) (b := 21831) C hG inX8 tyX8_ok rfl rfl nwX_X11_7.1 nwX_X11_7.2.1 nwX_X11_7.2.2 (fun j hj => by rcases (show j = 0 ∨ j = 1 ∨ j = 2 ∨ j = 3 ∨ j = 4 ∨ j = 5 ∨ j = 6 ∨ j = 7 by omega) with rfl | rfl | rfl | rfl | rfl | rfl | rfl | rfl <;> rfl) (rbX_S 104 shX rfl rfl (by decide +kernel)) rfl rfl (by rw [eK.k]) (by rw [eN.k]) (nle rfl) (nle rfl) dX11_init_97 (fun q c C => ?_)
  show Wx _ _ _ (PX _ (dz 104 (upR (upR (upR (upR (upR (upR (upR (dz 19 (upR (dz 0 x0X) 0 0 (some 1))) 0 1 (some 19)) 0 2 (some 20)) 0 3 (some 21)) 0 4 (some 29)) 0 5 (some 38)) 0 6 (some 54)) 0 7 (some 55)))) _ _ [.ref 104, .int (iI (0)), .ref 19]
  have hG := hG.k (a := 104) (b := 21831)
  have hI := hI.k (a := 104) (b := 21831)
  have hE := hE.k (a := 104) (b := 21831)
  have had := had_up (q := q) (c := c) had (nle rfl)
  refine x_dup C dX11_init_100 rfl ?_
  refine x_callG (host := "") (k := 104) (As := []) (a := 121) (b' := 22605) C hG rfl ct_X104 (Or.inl (show CKB RX11 9 yX8_init cX8_init 2 none 0 from ckX11_9)) im_X8_init rfl rfl rfl (nle rfl) ⟨nle rfl, nle rfl⟩ rfl rfl (by rw [eK.k]) (by rw [eN.k]) (nle rfl) (nle rfl) dX11_init_101 (fun ad33 cA33 C hadk => ?_)
  have had : ∀ k, k < 1 → wA (mkW (bX D) 122 ad33 cA33) k = ad k := fun k hk => (hadk k (Nat.lt_of_lt_of_le hk (nle rfl))).trans (had k hk)
  clear hadk
  have hG := hG.k (a := 121) (b := 22605)
  have hI := hI.k (a := 121) (b := 22605)
  have hE := hE.k (a := 121) (b := 22605)
  refine x_aast C (nlt rfl) rfl rfl (nlt rfl) rfl rfl (nle rfl) (by omega) (by omega) dX11_init_104 ?_
  refine x_iinc (lv' := [(1, .int (iI (0 + 1))), (0, .ref 0)]) C dX11_init_105 rfl (nlt rfl) rfl ?_
  refine Wx_lv (lv' := [(1, .int (iI (1))), (0, .ref 0)]) rfl ?_
  refine x_goto (tgt := 87) C dX11_init_108 (by decide) ?_
  refine x_iload_n (i := 1) C dX11_init_87 rfl rfl ?_
  refine x_iconst C dX11_init_88 ?_
  refine x_icmp_ge (tgt := 111) C dX11_init_89 (by decide) ⟨by omega, by omega⟩ ⟨by omega, by omega⟩ (fun h => by exfalso; omega) (fun h => ?_)
  clear h
  refine x_aload_n (i := 0) C dX11_init_92 rfl rfl ?_
  refine x_getRs (r := 19) C (xkgX_X11_16 rfl rfl) (nlt rfl) rfl rfl dX11_init_93 ?_
  refine x_iload_n (i := 1) C dX11_init_96 rfl rfl ?_
  refine x_new (a := 122) (b := 22613) C hG inX8 tyX8_ok rfl rfl nwX_X11_7.1 nwX_X11_7.2.1 nwX_X11_7.2.2 (fun j hj => by rcases (show j = 0 ∨ j = 1 ∨ j = 2 ∨ j = 3 ∨ j = 4 ∨ j = 5 ∨ j = 6 ∨ j = 7 by omega) with rfl | rfl | rfl | rfl | rfl | rfl | rfl | rfl <;> rfl) (rbX_S 122 shX rfl rfl (by decide +kernel)) rfl rfl (by rw [eK.k]) (by rw [eN.k]) (nle rfl) (nle rfl) dX11_init_97 (fun q c C => ?_)
  show Wx _ _ _ (PX _ (dz 122 (upR (upR (upR (upR (upR (upR (upR (upR (dz 19 (upR (dz 0 x0X) 0 0 (some 1))) 0 1 (some 19)) 0 2 (some 20)) 0 3 (some 21)) 0 4 (some 29)) 0 5 (some 38)) 0 6 (some 54)) 0 7 (some 55)) 19 0 (some 104)))) _ _ [.ref 122, .int (iI (1)), .ref 19]
  have hG := hG.k (a := 122) (b := 22613)
  have hI := hI.k (a := 122) (b := 22613)
  have hE := hE.k (a := 122) (b := 22613)
  have had := had_up (q := q) (c := c) had (nle rfl)
  refine x_dup C dX11_init_100 rfl ?_
  refine x_callG (host := "") (k := 122) (As := []) (a := 139) (b' := 23387) C hG rfl ct_X122 (Or.inl (show CKB RX11 9 yX8_init cX8_init 2 none 0 from ckX11_9)) im_X8_init rfl rfl rfl (nle rfl) ⟨nle rfl, nle rfl⟩ rfl rfl (by rw [eK.k]) (by rw [eN.k]) (nle rfl) (nle rfl) dX11_init_101 (fun ad38 cA38 C hadk => ?_)
  have had : ∀ k, k < 1 → wA (mkW (bX D) 140 ad38 cA38) k = ad k := fun k hk => (hadk k (Nat.lt_of_lt_of_le hk (nle rfl))).trans (had k hk)
  clear hadk
  have hG := hG.k (a := 139) (b := 23387)
  have hI := hI.k (a := 139) (b := 23387)
  have hE := hE.k (a := 139) (b := 23387)
  refine x_aast C (nlt rfl) rfl rfl (nlt rfl) rfl rfl (nle rfl) (by omega) (by omega) dX11_init_104 ?_
  refine x_iinc (lv' := [(1, .int (iI (1 + 1))), (0, .ref 0)]) C dX11_init_105 rfl (nlt rfl) rfl ?_
  refine Wx_lv (lv' := [(1, .int (iI (2))), (0, .ref 0)]) rfl ?_
  refine x_goto (tgt := 87) C dX11_init_108 (by decide) ?_
  refine x_iload_n (i := 1) C dX11_init_87 rfl rfl ?_
  refine x_iconst C dX11_init_88 ?_
  refine x_icmp_ge (tgt := 111) C dX11_init_89 (by decide) ⟨by omega, by omega⟩ ⟨by omega, by omega⟩ (fun h => by exfalso; omega) (fun h => ?_)
  clear h
  refine x_aload_n (i := 0) C dX11_init_92 rfl rfl ?_
  refine x_getRs (r := 19) C (xkgX_X11_16 rfl rfl) (nlt rfl) rfl rfl dX11_init_93 ?_
  refine x_iload_n (i := 1) C dX11_init_96 rfl rfl ?_
  refine x_new (a := 140) (b := 23395) C hG inX8 tyX8_ok rfl rfl nwX_X11_7.1 nwX_X11_7.2.1 nwX_X11_7.2.2 (fun j hj => by rcases (show j = 0 ∨ j = 1 ∨ j = 2 ∨ j = 3 ∨ j = 4 ∨ j = 5 ∨ j = 6 ∨ j = 7 by omega) with rfl | rfl | rfl | rfl | rfl | rfl | rfl | rfl <;> rfl) (rbX_S 140 shX rfl rfl (by decide +kernel)) rfl rfl (by rw [eK.k]) (by rw [eN.k]) (nle rfl) (nle rfl) dX11_init_97 (fun q c C => ?_)
  show Wx _ _ _ (PX _ (dz 140 (upR (upR (upR (upR (upR (upR (upR (upR (upR (dz 19 (upR (dz 0 x0X) 0 0 (some 1))) 0 1 (some 19)) 0 2 (some 20)) 0 3 (some 21)) 0 4 (some 29)) 0 5 (some 38)) 0 6 (some 54)) 0 7 (some 55)) 19 0 (some 104)) 19 1 (some 122)))) _ _ [.ref 140, .int (iI (2)), .ref 19]
  have hG := hG.k (a := 140) (b := 23395)
  have hI := hI.k (a := 140) (b := 23395)
  have hE := hE.k (a := 140) (b := 23395)
  have had := had_up (q := q) (c := c) had (nle rfl)
  refine x_dup C dX11_init_100 rfl ?_
  refine x_callG (host := "") (k := 140) (As := []) (a := 157) (b' := 24169) C hG rfl ct_X140 (Or.inl (show CKB RX11 9 yX8_init cX8_init 2 none 0 from ckX11_9)) im_X8_init rfl rfl rfl (nle rfl) ⟨nle rfl, nle rfl⟩ rfl rfl (by rw [eK.k]) (by rw [eN.k]) (nle rfl) (nle rfl) dX11_init_101 (fun ad43 cA43 C hadk => ?_)
  have had : ∀ k, k < 1 → wA (mkW (bX D) 158 ad43 cA43) k = ad k := fun k hk => (hadk k (Nat.lt_of_lt_of_le hk (nle rfl))).trans (had k hk)
  clear hadk
  have hG := hG.k (a := 157) (b := 24169)
  have hI := hI.k (a := 157) (b := 24169)
  have hE := hE.k (a := 157) (b := 24169)
  refine x_aast C (nlt rfl) rfl rfl (nlt rfl) rfl rfl (nle rfl) (by omega) (by omega) dX11_init_104 ?_
  refine x_iinc (lv' := [(1, .int (iI (2 + 1))), (0, .ref 0)]) C dX11_init_105 rfl (nlt rfl) rfl ?_
  refine Wx_lv (lv' := [(1, .int (iI (3))), (0, .ref 0)]) rfl ?_
  refine x_goto (tgt := 87) C dX11_init_108 (by decide) ?_
  refine x_iload_n (i := 1) C dX11_init_87 rfl rfl ?_
  refine x_iconst C dX11_init_88 ?_
  refine x_icmp_ge (tgt := 111) C dX11_init_89 (by decide) ⟨by omega, by omega⟩ ⟨by omega, by omega⟩ (fun h => ?_) (fun h => by exfalso; omega)
  clear h
  refine Wx_PH (fun H h => PX_many (Y := x0X) (sh := shX) [0, 19] rfl (SL_upR rfl (SL_upR rfl (SL_upR rfl (SL_upR rfl (SL_upR rfl (SL_upR rfl (SL_upR rfl (SL_upR rfl (SL_upR rfl (SL_upR rfl (SL_dz rfl (SL_upR rfl (SL_dz rfl SL_rf))))))))))))) (by decide +kernel) h) ?_
  exact x_vretG C rfl hE eK.k eN.k had dX11_init_111
