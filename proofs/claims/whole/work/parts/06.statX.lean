theorem inX8 : ∀ x ∈ u_ws RX8 TX8 8, x ∈ lw_g := by
  intro x hx
  have h0 : u_ws RX8 TX8 8 = [253, 255, 257, 259, 261, 263, 265, 267].filterMap (fun i => lw_tbl[i]?) := by decide +kernel
  have hg := List.all_eq_true.mp (show (u_ws RX8 TX8 8).all goodWord = true by decide +kernel) x hx
  rw [h0] at hx
  obtain ⟨i, -, hi⟩ := List.mem_filterMap.mp hx
  exact lw_gi i hi hg
theorem fkX_X8_19 {D : va_G} {ad : Nat → Nat} {cA : Nat → ClassId} : FKw (wX D ad cA) RX8 19 8 8 4 2 := ⟨RX8, TX8, rfl, by decide, rfl, inX8, (lw_gi 247 (by decide +kernel) rfl : Cond.fieldLink RX8 19 RX8 (TX8 4).2.1 (TX8 4).2.2.1 ∈ lw_g), rfl⟩
theorem inX11 : ∀ x ∈ u_ws RX11 TX11 8, x ∈ lw_g := by
  intro x hx
  have h0 : u_ws RX11 TX11 8 = [533, 535, 537, 539, 541, 543, 545, 547].filterMap (fun i => lw_tbl[i]?) := by decide +kernel
  have hg := List.all_eq_true.mp (show (u_ws RX11 TX11 8).all goodWord = true by decide +kernel) x hx
  rw [h0] at hx
  obtain ⟨i, -, hi⟩ := List.mem_filterMap.mp hx
  exact lw_gi i hi hg
theorem fkX_X11_10 {D : va_G} {ad : Nat → Nat} {cA : Nat → ClassId} : FKw (wX D ad cA) RX11 10 11 8 0 2 := ⟨RX11, TX11, rfl, by decide, rfl, inX11, (lw_gi 525 (by decide +kernel) rfl : Cond.fieldLink RX11 10 RX11 (TX11 0).2.1 (TX11 0).2.2.1 ∈ lw_g), rfl⟩
theorem ckX11_93 : CKB RX11 93 yX8_boardAt cX8_boardAt 2 (some (.object "WrittenMoves$Board")) 1 := ⟨(lw_gi 793 (by decide +kernel) rfl : Cond.code yX8_boardAt cX8_boardAt 2 (some (.object "WrittenMoves$Board")) ∈ lw_g), (lw_gi 117 (by decide +kernel) rfl : Cond.initialized yX8_boardAt.cls ∈ lw_g), by decide +kernel, by decide +kernel, (lw_gi 790 (by decide +kernel) rfl : Cond.methodLink RX11 93 yX8_boardAt ∈ lw_g)⟩
theorem im_X8_boardAt : Cond.instanceMethod yX8_boardAt ∈ lw_g := (lw_gi 791 (by decide +kernel) rfl : Cond.instanceMethod yX8_boardAt ∈ lw_g)
theorem se_X8_boardAt : Cond.selects RX8 yX8_boardAt yX8_boardAt ∈ lw_g := (lw_gi 792 (by decide +kernel) rfl : Cond.selects RX8 yX8_boardAt yX8_boardAt ∈ lw_g)
theorem fkX_X8_40 {D : va_G} {ad : Nat → Nat} {cA : Nat → ClassId} : FKw (wX D ad cA) RX8 40 8 8 0 0 := ⟨RX8, TX8, rfl, by decide, rfl, inX8, (lw_gi 239 (by decide +kernel) rfl : Cond.fieldLink RX8 40 RX8 (TX8 0).2.1 (TX8 0).2.2.1 ∈ lw_g), rfl⟩
theorem fkX_X8_15 {D : va_G} {ad : Nat → Nat} {cA : Nat → ClassId} : FKw (wX D ad cA) RX8 15 8 8 3 2 := ⟨RX8, TX8, rfl, by decide, rfl, inX8, (lw_gi 245 (by decide +kernel) rfl : Cond.fieldLink RX8 15 RX8 (TX8 3).2.1 (TX8 3).2.2.1 ∈ lw_g), rfl⟩
theorem pkX_X8_40 {D : va_G} {ad : Nat → Nat} {cA : Nat → ClassId} : PKw (wX D ad cA) RX8 40 8 8 0 0 (tyX8 0) := ⟨RX8, TX8, tyX8, rfl, by decide, rfl, inX8, (lw_gi 239 (by decide +kernel) rfl : Cond.fieldLink RX8 40 RX8 (TX8 0).2.1 (TX8 0).2.2.1 ∈ lw_g), rfl, tyX8_ok, nmX8, rfl, rfl⟩
theorem fkX_X11_61 {D : va_G} {ad : Nat → Nat} {cA : Nat → ClassId} : FKw (wX D ad cA) RX11 61 8 8 0 0 := ⟨RX8, TX8, rfl, by decide, rfl, inX8, (lw_gi 240 (by decide +kernel) rfl : Cond.fieldLink RX11 61 RX8 (TX8 0).2.1 (TX8 0).2.2.1 ∈ lw_g), rfl⟩
theorem ckX11_65 : CKB RX11 65 yX8_put cX8_put 3 none 1 := ⟨(lw_gi 557 (by decide +kernel) rfl : Cond.code yX8_put cX8_put 3 none ∈ lw_g), (lw_gi 117 (by decide +kernel) rfl : Cond.initialized yX8_put.cls ∈ lw_g), by decide +kernel, by decide +kernel, (lw_gi 554 (by decide +kernel) rfl : Cond.methodLink RX11 65 yX8_put ∈ lw_g)⟩
theorem im_X8_put : Cond.instanceMethod yX8_put ∈ lw_g := (lw_gi 555 (by decide +kernel) rfl : Cond.instanceMethod yX8_put ∈ lw_g)
theorem se_X8_put : Cond.selects RX8 yX8_put yX8_put ∈ lw_g := (lw_gi 556 (by decide +kernel) rfl : Cond.selects RX8 yX8_put yX8_put ∈ lw_g)
theorem pkX_X11_61 {D : va_G} {ad : Nat → Nat} {cA : Nat → ClassId} : PKw (wX D ad cA) RX11 61 8 8 0 0 (tyX8 0) := ⟨RX8, TX8, tyX8, rfl, by decide, rfl, inX8, (lw_gi 240 (by decide +kernel) rfl : Cond.fieldLink RX11 61 RX8 (TX8 0).2.1 (TX8 0).2.2.1 ∈ lw_g), rfl, tyX8_ok, nmX8, rfl, rfl⟩
theorem fkX_X11_72 {D : va_G} {ad : Nat → Nat} {cA : Nat → ClassId} : FKw (wX D ad cA) RX11 72 8 8 2 0 := ⟨RX8, TX8, rfl, by decide, rfl, inX8, (lw_gi 244 (by decide +kernel) rfl : Cond.fieldLink RX11 72 RX8 (TX8 2).2.1 (TX8 2).2.2.1 ∈ lw_g), rfl⟩
theorem fkX_X11_69 {D : va_G} {ad : Nat → Nat} {cA : Nat → ClassId} : FKw (wX D ad cA) RX11 69 8 8 1 0 := ⟨RX8, TX8, rfl, by decide, rfl, inX8, (lw_gi 242 (by decide +kernel) rfl : Cond.fieldLink RX11 69 RX8 (TX8 1).2.1 (TX8 1).2.2.1 ∈ lw_g), rfl⟩
theorem fkX_X11_284 {D : va_G} {ad : Nat → Nat} {cA : Nat → ClassId} : FKw (wX D ad cA) RX11 284 8 8 4 2 := ⟨RX8, TX8, rfl, by decide, rfl, inX8, (lw_gi 248 (by decide +kernel) rfl : Cond.fieldLink RX11 284 RX8 (TX8 4).2.1 (TX8 4).2.2.1 ∈ lw_g), rfl⟩
theorem ckX11_142 : CKB RX11 142 yX8_hasRule cX8_hasRule 2 (some .boolean) 1 := ⟨(lw_gi 830 (by decide +kernel) rfl : Cond.code yX8_hasRule cX8_hasRule 2 (some .boolean) ∈ lw_g), (lw_gi 117 (by decide +kernel) rfl : Cond.initialized yX8_hasRule.cls ∈ lw_g), by decide +kernel, by decide +kernel, (lw_gi 827 (by decide +kernel) rfl : Cond.methodLink RX11 142 yX8_hasRule ∈ lw_g)⟩
theorem im_X8_hasRule : Cond.instanceMethod yX8_hasRule ∈ lw_g := (lw_gi 828 (by decide +kernel) rfl : Cond.instanceMethod yX8_hasRule ∈ lw_g)
theorem se_X8_hasRule : Cond.selects RX8 yX8_hasRule yX8_hasRule ∈ lw_g := (lw_gi 829 (by decide +kernel) rfl : Cond.selects RX8 yX8_hasRule yX8_hasRule ∈ lw_g)
theorem cnX11_156 : Cond.constantLong RX11 156 ((-1)) ∈ lw_g := lw_gi 838 (by decide +kernel) rfl
theorem ckX11_162 : CKB RX11 162 yX11_canTrace cX11_canTrace 6 (some .boolean) 4 := ⟨(lw_gi 918 (by decide +kernel) rfl : Cond.code yX11_canTrace cX11_canTrace 6 (some .boolean) ∈ lw_g), (lw_gi 116 (by decide +kernel) rfl : Cond.initialized yX11_canTrace.cls ∈ lw_g), by decide +kernel, by decide +kernel, (lw_gi 915 (by decide +kernel) rfl : Cond.methodLink RX11 162 yX11_canTrace ∈ lw_g)⟩
theorem im_X11_canTrace : Cond.instanceMethod yX11_canTrace ∈ lw_g := (lw_gi 917 (by decide +kernel) rfl : Cond.instanceMethod yX11_canTrace ∈ lw_g)
theorem se_X11_canTrace : Cond.selects RX11 yX11_canTrace yX11_canTrace ∈ lw_g := (lw_gi 20 (by decide +kernel) rfl : Cond.selects RX11 yX11_canTrace yX11_canTrace ∈ lw_g)
theorem ckX11_180 : CKB RX11 180 yX8_gameAt cX8_gameAt 2 (some (.object "WrittenMoves$Game")) 1 := ⟨(lw_gi 991 (by decide +kernel) rfl : Cond.code yX8_gameAt cX8_gameAt 2 (some (.object "WrittenMoves$Game")) ∈ lw_g), (lw_gi 117 (by decide +kernel) rfl : Cond.initialized yX8_gameAt.cls ∈ lw_g), by decide +kernel, by decide +kernel, (lw_gi 988 (by decide +kernel) rfl : Cond.methodLink RX11 180 yX8_gameAt ∈ lw_g)⟩
theorem im_X8_gameAt : Cond.instanceMethod yX8_gameAt ∈ lw_g := (lw_gi 989 (by decide +kernel) rfl : Cond.instanceMethod yX8_gameAt ∈ lw_g)
theorem se_X8_gameAt : Cond.selects RX8 yX8_gameAt yX8_gameAt ∈ lw_g := (lw_gi 990 (by decide +kernel) rfl : Cond.selects RX8 yX8_gameAt yX8_gameAt ∈ lw_g)
theorem fkX_X11_48 {D : va_G} {ad : Nat → Nat} {cA : Nat → ClassId} : FKw (wX D ad cA) RX11 48 11 8 6 2 := ⟨RX11, TX11, rfl, by decide, rfl, inX11, (lw_gi 531 (by decide +kernel) rfl : Cond.fieldLink RX11 48 RX11 (TX11 6).2.1 (TX11 6).2.2.1 ∈ lw_g), rfl⟩
theorem ckX11_194 : CKB RX11 194 yX5_follow cX5_follow 8 (some .int) 3 := ⟨(lw_gi 1003 (by decide +kernel) rfl : Cond.code yX5_follow cX5_follow 8 (some .int) ∈ lw_g), (lw_gi 125 (by decide +kernel) rfl : Cond.initialized yX5_follow.cls ∈ lw_g), by decide +kernel, by decide +kernel, (lw_gi 1000 (by decide +kernel) rfl : Cond.methodLink RX11 194 yX5_follow ∈ lw_g)⟩
theorem im_X5_follow : Cond.instanceMethod yX5_follow ∈ lw_g := (lw_gi 1001 (by decide +kernel) rfl : Cond.instanceMethod yX5_follow ∈ lw_g)
theorem se_X5_follow : Cond.selects RX5 yX5_follow yX5_follow ∈ lw_g := (lw_gi 1002 (by decide +kernel) rfl : Cond.selects RX5 yX5_follow yX5_follow ∈ lw_g)
theorem ckX11_267 : CKB RX11 267 yX11_canContest cX11_canContest 3 (some .boolean) 3 := ⟨(lw_gi 1174 (by decide +kernel) rfl : Cond.code yX11_canContest cX11_canContest 3 (some .boolean) ∈ lw_g), (lw_gi 116 (by decide +kernel) rfl : Cond.initialized yX11_canContest.cls ∈ lw_g), by decide +kernel, by decide +kernel, (lw_gi 1172 (by decide +kernel) rfl : Cond.methodLink RX11 267 yX11_canContest ∈ lw_g)⟩
theorem sm_X11_canContest : Cond.static yX11_canContest ∈ lw_g := (lw_gi 1173 (by decide +kernel) rfl : Cond.static yX11_canContest ∈ lw_g)
theorem inX0 : ∀ x ∈ u_ws RX0 TX0 7, x ∈ lw_g := by
  intro x hx
  have h0 : u_ws RX0 TX0 7 = [200, 202, 204, 206, 208, 210, 212].filterMap (fun i => lw_tbl[i]?) := by decide +kernel
  have hg := List.all_eq_true.mp (show (u_ws RX0 TX0 7).all goodWord = true by decide +kernel) x hx
  rw [h0] at hx
  obtain ⟨i, -, hi⟩ := List.mem_filterMap.mp hx
  exact lw_gi i hi hg
theorem pkX_X0_18 {D : va_G} {ad : Nat → Nat} {cA : Nat → ClassId} : PKw (wX D ad cA) RX0 18 0 7 0 0 (tyX0 0) := ⟨RX0, TX0, tyX0, rfl, by decide, rfl, inX0, (lw_gi 161 (by decide +kernel) rfl : Cond.fieldLink RX0 18 RX0 (TX0 0).2.1 (TX0 0).2.2.1 ∈ lw_g), rfl, tyX0_ok, nmX0, rfl, rfl⟩
theorem pkX_X0_22 {D : va_G} {ad : Nat → Nat} {cA : Nat → ClassId} : PKw (wX D ad cA) RX0 22 0 7 1 0 (tyX0 1) := ⟨RX0, TX0, tyX0, rfl, by decide, rfl, inX0, (lw_gi 167 (by decide +kernel) rfl : Cond.fieldLink RX0 22 RX0 (TX0 1).2.1 (TX0 1).2.2.1 ∈ lw_g), rfl, tyX0_ok, nmX0, rfl, rfl⟩
theorem pkX_X0_25 {D : va_G} {ad : Nat → Nat} {cA : Nat → ClassId} : PKw (wX D ad cA) RX0 25 0 7 2 1 (tyX0 2) := ⟨RX0, TX0, tyX0, rfl, by decide, rfl, inX0, (lw_gi 172 (by decide +kernel) rfl : Cond.fieldLink RX0 25 RX0 (TX0 2).2.1 (TX0 2).2.2.1 ∈ lw_g), rfl, tyX0_ok, nmX0, rfl, rfl⟩
theorem pkX_X0_29 {D : va_G} {ad : Nat → Nat} {cA : Nat → ClassId} : PKw (wX D ad cA) RX0 29 0 7 3 1 (tyX0 3) := ⟨RX0, TX0, tyX0, rfl, by decide, rfl, inX0, (lw_gi 177 (by decide +kernel) rfl : Cond.fieldLink RX0 29 RX0 (TX0 3).2.1 (TX0 3).2.2.1 ∈ lw_g), rfl, tyX0_ok, nmX0, rfl, rfl⟩
theorem pkX_X0_32 {D : va_G} {ad : Nat → Nat} {cA : Nat → ClassId} : PKw (wX D ad cA) RX0 32 0 7 4 0 (tyX0 4) := ⟨RX0, TX0, tyX0, rfl, by decide, rfl, inX0, (lw_gi 183 (by decide +kernel) rfl : Cond.fieldLink RX0 32 RX0 (TX0 4).2.1 (TX0 4).2.2.1 ∈ lw_g), rfl, tyX0_ok, nmX0, rfl, rfl⟩
theorem inX6 : ∀ x ∈ u_ws RX6 TX6 11, x ∈ lw_g := by
  intro x hx
  have h0 : u_ws RX6 TX6 11 = [297, 299, 301, 303, 305, 307, 309, 311, 313, 315, 317].filterMap (fun i => lw_tbl[i]?) := by decide +kernel
  have hg := List.all_eq_true.mp (show (u_ws RX6 TX6 11).all goodWord = true by decide +kernel) x hx
  rw [h0] at hx
  obtain ⟨i, -, hi⟩ := List.mem_filterMap.mp hx
  exact lw_gi i hi hg
theorem fkX_X6_39 {D : va_G} {ad : Nat → Nat} {cA : Nat → ClassId} : FKw (wX D ad cA) RX6 39 6 11 9 0 := ⟨RX6, TX6, rfl, by decide, rfl, inX6, (lw_gi 295 (by decide +kernel) rfl : Cond.fieldLink RX6 39 RX6 (TX6 9).2.1 (TX6 9).2.2.1 ∈ lw_g), rfl⟩
theorem pkX_X6_70 {D : va_G} {ad : Nat → Nat} {cA : Nat → ClassId} : PKw (wX D ad cA) RX6 70 6 11 8 0 (tyX6 8) := ⟨RX6, TX6, tyX6, rfl, by decide, rfl, inX6, (lw_gi 294 (by decide +kernel) rfl : Cond.fieldLink RX6 70 RX6 (TX6 8).2.1 (TX6 8).2.2.1 ∈ lw_g), rfl, tyX6_ok, nmX6, rfl, rfl⟩
theorem fkX_X6_70 {D : va_G} {ad : Nat → Nat} {cA : Nat → ClassId} : FKw (wX D ad cA) RX6 70 6 11 8 0 := ⟨RX6, TX6, rfl, by decide, rfl, inX6, (lw_gi 294 (by decide +kernel) rfl : Cond.fieldLink RX6 70 RX6 (TX6 8).2.1 (TX6 8).2.2.1 ∈ lw_g), rfl⟩
theorem fkX_X6_35 {D : va_G} {ad : Nat → Nat} {cA : Nat → ClassId} : FKw (wX D ad cA) RX6 35 6 11 6 0 := ⟨RX6, TX6, rfl, by decide, rfl, inX6, (lw_gi 292 (by decide +kernel) rfl : Cond.fieldLink RX6 35 RX6 (TX6 6).2.1 (TX6 6).2.2.1 ∈ lw_g), rfl⟩
theorem pkX_X6_61 {D : va_G} {ad : Nat → Nat} {cA : Nat → ClassId} : PKw (wX D ad cA) RX6 61 6 11 7 0 (tyX6 7) := ⟨RX6, TX6, tyX6, rfl, by decide, rfl, inX6, (lw_gi 293 (by decide +kernel) rfl : Cond.fieldLink RX6 61 RX6 (TX6 7).2.1 (TX6 7).2.2.1 ∈ lw_g), rfl, tyX6_ok, nmX6, rfl, rfl⟩
theorem pkX_X6_39 {D : va_G} {ad : Nat → Nat} {cA : Nat → ClassId} : PKw (wX D ad cA) RX6 39 6 11 9 0 (tyX6 9) := ⟨RX6, TX6, tyX6, rfl, by decide, rfl, inX6, (lw_gi 295 (by decide +kernel) rfl : Cond.fieldLink RX6 39 RX6 (TX6 9).2.1 (TX6 9).2.2.1 ∈ lw_g), rfl, tyX6_ok, nmX6, rfl, rfl⟩
theorem fkX_X6_61 {D : va_G} {ad : Nat → Nat} {cA : Nat → ClassId} : FKw (wX D ad cA) RX6 61 6 11 7 0 := ⟨RX6, TX6, rfl, by decide, rfl, inX6, (lw_gi 293 (by decide +kernel) rfl : Cond.fieldLink RX6 61 RX6 (TX6 7).2.1 (TX6 7).2.2.1 ∈ lw_g), rfl⟩
theorem pkX_X6_154 {D : va_G} {ad : Nat → Nat} {cA : Nat → ClassId} : PKw (wX D ad cA) RX6 154 6 11 10 0 (tyX6 10) := ⟨RX6, TX6, tyX6, rfl, by decide, rfl, inX6, (lw_gi 296 (by decide +kernel) rfl : Cond.fieldLink RX6 154 RX6 (TX6 10).2.1 (TX6 10).2.2.1 ∈ lw_g), rfl, tyX6_ok, nmX6, rfl, rfl⟩
theorem fkX_X0_18 {D : va_G} {ad : Nat → Nat} {cA : Nat → ClassId} : FKw (wX D ad cA) RX0 18 0 7 0 0 := ⟨RX0, TX0, rfl, by decide, rfl, inX0, (lw_gi 161 (by decide +kernel) rfl : Cond.fieldLink RX0 18 RX0 (TX0 0).2.1 (TX0 0).2.2.1 ∈ lw_g), rfl⟩
theorem fkX_X0_22 {D : va_G} {ad : Nat → Nat} {cA : Nat → ClassId} : FKw (wX D ad cA) RX0 22 0 7 1 0 := ⟨RX0, TX0, rfl, by decide, rfl, inX0, (lw_gi 167 (by decide +kernel) rfl : Cond.fieldLink RX0 22 RX0 (TX0 1).2.1 (TX0 1).2.2.1 ∈ lw_g), rfl⟩
theorem cnX0_41 : CKN RX0 41 yX11_bit "WrittenMoves" cX11_bit 1 (some .long) 1 := ⟨(lw_gi 746 (by decide +kernel) rfl : Cond.code yX11_bit cX11_bit 1 (some .long) ∈ lw_g), (lw_gi 116 (by decide +kernel) rfl : Cond.initialized yX11_bit.cls ∈ lw_g), by decide +kernel, by decide +kernel, List.mem_of_getElem? (i := 14) (by decide +kernel), (lw_gi 745 (by decide +kernel) rfl : Cond.static yX11_bit ∈ lw_g)⟩
theorem fkX_X0_25 {D : va_G} {ad : Nat → Nat} {cA : Nat → ClassId} : FKw (wX D ad cA) RX0 25 0 7 2 1 := ⟨RX0, TX0, rfl, by decide, rfl, inX0, (lw_gi 172 (by decide +kernel) rfl : Cond.fieldLink RX0 25 RX0 (TX0 2).2.1 (TX0 2).2.2.1 ∈ lw_g), rfl⟩
theorem fkX_X0_29 {D : va_G} {ad : Nat → Nat} {cA : Nat → ClassId} : FKw (wX D ad cA) RX0 29 0 7 3 1 := ⟨RX0, TX0, rfl, by decide, rfl, inX0, (lw_gi 177 (by decide +kernel) rfl : Cond.fieldLink RX0 29 RX0 (TX0 3).2.1 (TX0 3).2.2.1 ∈ lw_g), rfl⟩
theorem cnX0_45 : Cond.constantLong RX0 45 ((-1)) ∈ lw_g := lw_gi 763 (by decide +kernel) rfl
theorem fkX_X0_32 {D : va_G} {ad : Nat → Nat} {cA : Nat → ClassId} : FKw (wX D ad cA) RX0 32 0 7 4 0 := ⟨RX0, TX0, rfl, by decide, rfl, inX0, (lw_gi 183 (by decide +kernel) rfl : Cond.fieldLink RX0 32 RX0 (TX0 4).2.1 (TX0 4).2.2.1 ∈ lw_g), rfl⟩
theorem pkX_X6_25 {D : va_G} {ad : Nat → Nat} {cA : Nat → ClassId} : PKw (wX D ad cA) RX6 25 6 11 5 2 (tyX6 5) := ⟨RX6, TX6, tyX6, rfl, by decide, rfl, inX6, (lw_gi 291 (by decide +kernel) rfl : Cond.fieldLink RX6 25 RX6 (TX6 5).2.1 (TX6 5).2.2.1 ∈ lw_g), rfl, tyX6_ok, nmX6, rfl, rfl⟩
theorem pkX_X6_35 {D : va_G} {ad : Nat → Nat} {cA : Nat → ClassId} : PKw (wX D ad cA) RX6 35 6 11 6 0 (tyX6 6) := ⟨RX6, TX6, tyX6, rfl, by decide, rfl, inX6, (lw_gi 292 (by decide +kernel) rfl : Cond.fieldLink RX6 35 RX6 (TX6 6).2.1 (TX6 6).2.2.1 ∈ lw_g), rfl, tyX6_ok, nmX6, rfl, rfl⟩
theorem pkX_X6_42 {D : va_G} {ad : Nat → Nat} {cA : Nat → ClassId} : PKw (wX D ad cA) RX6 42 6 11 3 0 (tyX6 3) := ⟨RX6, TX6, tyX6, rfl, by decide, rfl, inX6, (lw_gi 287 (by decide +kernel) rfl : Cond.fieldLink RX6 42 RX6 (TX6 3).2.1 (TX6 3).2.2.1 ∈ lw_g), rfl, tyX6_ok, nmX6, rfl, rfl⟩
theorem pkX_X6_45 {D : va_G} {ad : Nat → Nat} {cA : Nat → ClassId} : PKw (wX D ad cA) RX6 45 6 11 4 0 (tyX6 4) := ⟨RX6, TX6, tyX6, rfl, by decide, rfl, inX6, (lw_gi 289 (by decide +kernel) rfl : Cond.fieldLink RX6 45 RX6 (TX6 4).2.1 (TX6 4).2.2.1 ∈ lw_g), rfl, tyX6_ok, nmX6, rfl, rfl⟩
theorem fkX_X6_12 {D : va_G} {ad : Nat → Nat} {cA : Nat → ClassId} : FKw (wX D ad cA) RX6 12 6 11 0 2 := ⟨RX6, TX6, rfl, by decide, rfl, inX6, (lw_gi 281 (by decide +kernel) rfl : Cond.fieldLink RX6 12 RX6 (TX6 0).2.1 (TX6 0).2.2.1 ∈ lw_g), rfl⟩
theorem ckX6_48 : CKB RX6 48 yX0_clear cX0_clear 1 none 0 := ⟨(lw_gi 580 (by decide +kernel) rfl : Cond.code yX0_clear cX0_clear 1 none ∈ lw_g), (lw_gi 118 (by decide +kernel) rfl : Cond.initialized yX0_clear.cls ∈ lw_g), by decide +kernel, by decide +kernel, (lw_gi 577 (by decide +kernel) rfl : Cond.methodLink RX6 48 yX0_clear ∈ lw_g)⟩
theorem im_X0_clear : Cond.instanceMethod yX0_clear ∈ lw_g := (lw_gi 578 (by decide +kernel) rfl : Cond.instanceMethod yX0_clear ∈ lw_g)
theorem se_X0_clear : Cond.selects RX0 yX0_clear yX0_clear ∈ lw_g := (lw_gi 579 (by decide +kernel) rfl : Cond.selects RX0 yX0_clear yX0_clear ∈ lw_g)
theorem fkX_X6_21 {D : va_G} {ad : Nat → Nat} {cA : Nat → ClassId} : FKw (wX D ad cA) RX6 21 6 11 1 2 := ⟨RX6, TX6, rfl, by decide, rfl, inX6, (lw_gi 283 (by decide +kernel) rfl : Cond.fieldLink RX6 21 RX6 (TX6 1).2.1 (TX6 1).2.2.1 ∈ lw_g), rfl⟩
theorem inX2 : ∀ x ∈ u_ws RX2 TX2 3, x ∈ lw_g := by
  intro x hx
  have h0 : u_ws RX2 TX2 3 = [232, 234, 236].filterMap (fun i => lw_tbl[i]?) := by decide +kernel
  have hg := List.all_eq_true.mp (show (u_ws RX2 TX2 3).all goodWord = true by decide +kernel) x hx
  rw [h0] at hx
  obtain ⟨i, -, hi⟩ := List.mem_filterMap.mp hx
  exact lw_gi i hi hg
theorem pkX_X6_51 {D : va_G} {ad : Nat → Nat} {cA : Nat → ClassId} : PKw (wX D ad cA) RX6 51 2 3 0 0 (tyX2 0) := ⟨RX2, TX2, tyX2, rfl, by decide, rfl, inX2, (lw_gi 223 (by decide +kernel) rfl : Cond.fieldLink RX6 51 RX2 (TX2 0).2.1 (TX2 0).2.2.1 ∈ lw_g), rfl, tyX2_ok, nmX2, rfl, rfl⟩
theorem ckX6_54 : CKB RX6 54 yX6_advance cX6_advance 3 none 0 := ⟨(lw_gi 584 (by decide +kernel) rfl : Cond.code yX6_advance cX6_advance 3 none ∈ lw_g), (lw_gi 120 (by decide +kernel) rfl : Cond.initialized yX6_advance.cls ∈ lw_g), by decide +kernel, by decide +kernel, (lw_gi 581 (by decide +kernel) rfl : Cond.methodLink RX6 54 yX6_advance ∈ lw_g)⟩
theorem im_X6_advance : Cond.instanceMethod yX6_advance ∈ lw_g := (lw_gi 583 (by decide +kernel) rfl : Cond.instanceMethod yX6_advance ∈ lw_g)
theorem se_X6_advance : Cond.selects RX6 yX6_advance yX6_advance ∈ lw_g := (lw_gi 0 (by decide +kernel) rfl : Cond.selects RX6 yX6_advance yX6_advance ∈ lw_g)
theorem fkX_X6_42 {D : va_G} {ad : Nat → Nat} {cA : Nat → ClassId} : FKw (wX D ad cA) RX6 42 6 11 3 0 := ⟨RX6, TX6, rfl, by decide, rfl, inX6, (lw_gi 287 (by decide +kernel) rfl : Cond.fieldLink RX6 42 RX6 (TX6 3).2.1 (TX6 3).2.2.1 ∈ lw_g), rfl⟩
theorem ckX6_73 : CKB RX6 73 yX0_isSound cX0_isSound 8 (some .boolean) 0 := ⟨(lw_gi 761 (by decide +kernel) rfl : Cond.code yX0_isSound cX0_isSound 8 (some .boolean) ∈ lw_g), (lw_gi 118 (by decide +kernel) rfl : Cond.initialized yX0_isSound.cls ∈ lw_g), by decide +kernel, by decide +kernel, (lw_gi 758 (by decide +kernel) rfl : Cond.methodLink RX6 73 yX0_isSound ∈ lw_g)⟩
theorem im_X0_isSound : Cond.instanceMethod yX0_isSound ∈ lw_g := (lw_gi 759 (by decide +kernel) rfl : Cond.instanceMethod yX0_isSound ∈ lw_g)
theorem se_X0_isSound : Cond.selects RX0 yX0_isSound yX0_isSound ∈ lw_g := (lw_gi 760 (by decide +kernel) rfl : Cond.selects RX0 yX0_isSound yX0_isSound ∈ lw_g)
theorem ckX6_57 : CKB RX6 57 yX6_takeRule cX6_takeRule 6 (some .boolean) 0 := ⟨(lw_gi 591 (by decide +kernel) rfl : Cond.code yX6_takeRule cX6_takeRule 6 (some .boolean) ∈ lw_g), (lw_gi 120 (by decide +kernel) rfl : Cond.initialized yX6_takeRule.cls ∈ lw_g), by decide +kernel, by decide +kernel, (lw_gi 588 (by decide +kernel) rfl : Cond.methodLink RX6 57 yX6_takeRule ∈ lw_g)⟩
theorem im_X6_takeRule : Cond.instanceMethod yX6_takeRule ∈ lw_g := (lw_gi 590 (by decide +kernel) rfl : Cond.instanceMethod yX6_takeRule ∈ lw_g)
theorem se_X6_takeRule : Cond.selects RX6 yX6_takeRule yX6_takeRule ∈ lw_g := (lw_gi 1 (by decide +kernel) rfl : Cond.selects RX6 yX6_takeRule yX6_takeRule ∈ lw_g)
theorem fkX_X8_24 {D : va_G} {ad : Nat → Nat} {cA : Nat → ClassId} : FKw (wX D ad cA) RX8 24 8 8 5 2 := ⟨RX8, TX8, rfl, by decide, rfl, inX8, (lw_gi 249 (by decide +kernel) rfl : Cond.fieldLink RX8 24 RX8 (TX8 5).2.1 (TX8 5).2.2.1 ∈ lw_g), rfl⟩
theorem fkX_X8_59 {D : va_G} {ad : Nat → Nat} {cA : Nat → ClassId} : FKw (wX D ad cA) RX8 59 6 11 0 2 := ⟨RX6, TX6, rfl, by decide, rfl, inX6, (lw_gi 282 (by decide +kernel) rfl : Cond.fieldLink RX8 59 RX6 (TX6 0).2.1 (TX6 0).2.2.1 ∈ lw_g), rfl⟩
theorem ckX8_52 : CKB RX8 52 yX0_copy cX0_copy 2 none 1 := ⟨(lw_gi 771 (by decide +kernel) rfl : Cond.code yX0_copy cX0_copy 2 none ∈ lw_g), (lw_gi 118 (by decide +kernel) rfl : Cond.initialized yX0_copy.cls ∈ lw_g), by decide +kernel, by decide +kernel, (lw_gi 768 (by decide +kernel) rfl : Cond.methodLink RX8 52 yX0_copy ∈ lw_g)⟩
theorem fkX_X0_9 {D : va_G} {ad : Nat → Nat} {cA : Nat → ClassId} : FKw (wX D ad cA) RX0 9 0 7 5 2 := ⟨RX0, TX0, rfl, by decide, rfl, inX0, (lw_gi 188 (by decide +kernel) rfl : Cond.fieldLink RX0 9 RX0 (TX0 5).2.1 (TX0 5).2.2.1 ∈ lw_g), rfl⟩
theorem cpX0_35 : CPw RX0 35 := ⟨(lw_gi 772 (by decide +kernel) rfl : Cond.methodLink RX0 35 arraycopyName ∈ lw_g), (lw_gi 774 (by decide +kernel) rfl : Cond.native arraycopyName ∈ lw_g), (lw_gi 773 (by decide +kernel) rfl : Cond.static arraycopyName ∈ lw_g), (lw_gi 135 (by decide +kernel) rfl : Cond.initialized "java/lang/System" ∈ lw_g)⟩
theorem fkX_X0_15 {D : va_G} {ad : Nat → Nat} {cA : Nat → ClassId} : FKw (wX D ad cA) RX0 15 0 7 6 2 := ⟨RX0, TX0, rfl, by decide, rfl, inX0, (lw_gi 195 (by decide +kernel) rfl : Cond.fieldLink RX0 15 RX0 (TX0 6).2.1 (TX0 6).2.2.1 ∈ lw_g), rfl⟩
theorem im_X0_copy : Cond.instanceMethod yX0_copy ∈ lw_g := (lw_gi 769 (by decide +kernel) rfl : Cond.instanceMethod yX0_copy ∈ lw_g)
theorem se_X0_copy : Cond.selects RX0 yX0_copy yX0_copy ∈ lw_g := (lw_gi 770 (by decide +kernel) rfl : Cond.selects RX0 yX0_copy yX0_copy ∈ lw_g)
theorem fkX_X8_34 {D : va_G} {ad : Nat → Nat} {cA : Nat → ClassId} : FKw (wX D ad cA) RX8 34 8 8 7 2 := ⟨RX8, TX8, rfl, by decide, rfl, inX8, (lw_gi 252 (by decide +kernel) rfl : Cond.fieldLink RX8 34 RX8 (TX8 7).2.1 (TX8 7).2.2.1 ∈ lw_g), rfl⟩
theorem fkX_X8_69 {D : va_G} {ad : Nat → Nat} {cA : Nat → ClassId} : FKw (wX D ad cA) RX8 69 6 11 1 2 := ⟨RX6, TX6, rfl, by decide, rfl, inX6, (lw_gi 284 (by decide +kernel) rfl : Cond.fieldLink RX8 69 RX6 (TX6 1).2.1 (TX6 1).2.2.1 ∈ lw_g), rfl⟩
theorem ckX8_56 : CKB RX8 56 yX2_copy cX2_copy 2 none 1 := ⟨(lw_gi 778 (by decide +kernel) rfl : Cond.code yX2_copy cX2_copy 2 none ∈ lw_g), (lw_gi 119 (by decide +kernel) rfl : Cond.initialized yX2_copy.cls ∈ lw_g), by decide +kernel, by decide +kernel, (lw_gi 775 (by decide +kernel) rfl : Cond.methodLink RX8 56 yX2_copy ∈ lw_g)⟩
theorem fkX_X2_19 {D : va_G} {ad : Nat → Nat} {cA : Nat → ClassId} : FKw (wX D ad cA) RX2 19 2 3 0 0 := ⟨RX2, TX2, rfl, by decide, rfl, inX2, (lw_gi 222 (by decide +kernel) rfl : Cond.fieldLink RX2 19 RX2 (TX2 0).2.1 (TX2 0).2.2.1 ∈ lw_g), rfl⟩
theorem pkX_X2_19 {D : va_G} {ad : Nat → Nat} {cA : Nat → ClassId} : PKw (wX D ad cA) RX2 19 2 3 0 0 (tyX2 0) := ⟨RX2, TX2, tyX2, rfl, by decide, rfl, inX2, (lw_gi 222 (by decide +kernel) rfl : Cond.fieldLink RX2 19 RX2 (TX2 0).2.1 (TX2 0).2.2.1 ∈ lw_g), rfl, tyX2_ok, nmX2, rfl, rfl⟩
theorem fkX_X2_9 {D : va_G} {ad : Nat → Nat} {cA : Nat → ClassId} : FKw (wX D ad cA) RX2 9 2 3 1 2 := ⟨RX2, TX2, rfl, by decide, rfl, inX2, (lw_gi 226 (by decide +kernel) rfl : Cond.fieldLink RX2 9 RX2 (TX2 1).2.1 (TX2 1).2.2.1 ∈ lw_g), rfl⟩
theorem cpX2_23 : CPw RX2 23 := ⟨(lw_gi 779 (by decide +kernel) rfl : Cond.methodLink RX2 23 arraycopyName ∈ lw_g), (lw_gi 774 (by decide +kernel) rfl : Cond.native arraycopyName ∈ lw_g), (lw_gi 773 (by decide +kernel) rfl : Cond.static arraycopyName ∈ lw_g), (lw_gi 135 (by decide +kernel) rfl : Cond.initialized "java/lang/System" ∈ lw_g)⟩
theorem fkX_X2_15 {D : va_G} {ad : Nat → Nat} {cA : Nat → ClassId} : FKw (wX D ad cA) RX2 15 2 3 2 2 := ⟨RX2, TX2, rfl, by decide, rfl, inX2, (lw_gi 229 (by decide +kernel) rfl : Cond.fieldLink RX2 15 RX2 (TX2 2).2.1 (TX2 2).2.2.1 ∈ lw_g), rfl⟩
theorem im_X2_copy : Cond.instanceMethod yX2_copy ∈ lw_g := (lw_gi 776 (by decide +kernel) rfl : Cond.instanceMethod yX2_copy ∈ lw_g)
theorem se_X2_copy : Cond.selects RX2 yX2_copy yX2_copy ∈ lw_g := (lw_gi 777 (by decide +kernel) rfl : Cond.selects RX2 yX2_copy yX2_copy ∈ lw_g)
theorem pkX_X11_69 {D : va_G} {ad : Nat → Nat} {cA : Nat → ClassId} : PKw (wX D ad cA) RX11 69 8 8 1 0 (tyX8 1) := ⟨RX8, TX8, tyX8, rfl, by decide, rfl, inX8, (lw_gi 242 (by decide +kernel) rfl : Cond.fieldLink RX11 69 RX8 (TX8 1).2.1 (TX8 1).2.2.1 ∈ lw_g), rfl, tyX8_ok, nmX8, rfl, rfl⟩
theorem pkX_X11_72 {D : va_G} {ad : Nat → Nat} {cA : Nat → ClassId} : PKw (wX D ad cA) RX11 72 8 8 2 0 (tyX8 2) := ⟨RX8, TX8, tyX8, rfl, by decide, rfl, inX8, (lw_gi 244 (by decide +kernel) rfl : Cond.fieldLink RX11 72 RX8 (TX8 2).2.1 (TX8 2).2.2.1 ∈ lw_g), rfl, tyX8_ok, nmX8, rfl, rfl⟩
theorem ckX11_75 : CKB RX11 75 yX8_hasRoom cX8_hasRoom 4 (some .boolean) 2 := ⟨(lw_gi 569 (by decide +kernel) rfl : Cond.code yX8_hasRoom cX8_hasRoom 4 (some .boolean) ∈ lw_g), (lw_gi 117 (by decide +kernel) rfl : Cond.initialized yX8_hasRoom.cls ∈ lw_g), by decide +kernel, by decide +kernel, (lw_gi 566 (by decide +kernel) rfl : Cond.methodLink RX11 75 yX8_hasRoom ∈ lw_g)⟩
theorem im_X8_hasRoom : Cond.instanceMethod yX8_hasRoom ∈ lw_g := (lw_gi 567 (by decide +kernel) rfl : Cond.instanceMethod yX8_hasRoom ∈ lw_g)
theorem se_X8_hasRoom : Cond.selects RX8 yX8_hasRoom yX8_hasRoom ∈ lw_g := (lw_gi 568 (by decide +kernel) rfl : Cond.selects RX8 yX8_hasRoom yX8_hasRoom ∈ lw_g)
theorem fkX_X11_27 {D : va_G} {ad : Nat → Nat} {cA : Nat → ClassId} : FKw (wX D ad cA) RX11 27 11 8 3 2 := ⟨RX11, TX11, rfl, by decide, rfl, inX11, (lw_gi 528 (by decide +kernel) rfl : Cond.fieldLink RX11 27 RX11 (TX11 3).2.1 (TX11 3).2.2.1 ∈ lw_g), rfl⟩
theorem fkX_X11_79 {D : va_G} {ad : Nat → Nat} {cA : Nat → ClassId} : FKw (wX D ad cA) RX11 79 8 8 3 2 := ⟨RX8, TX8, rfl, by decide, rfl, inX8, (lw_gi 246 (by decide +kernel) rfl : Cond.fieldLink RX11 79 RX8 (TX8 3).2.1 (TX8 3).2.2.1 ∈ lw_g), rfl⟩
theorem ckX11_83 : CKB RX11 83 yX6_read cX6_read 6 none 3 := ⟨(lw_gi 573 (by decide +kernel) rfl : Cond.code yX6_read cX6_read 6 none ∈ lw_g), (lw_gi 120 (by decide +kernel) rfl : Cond.initialized yX6_read.cls ∈ lw_g), by decide +kernel, by decide +kernel, (lw_gi 570 (by decide +kernel) rfl : Cond.methodLink RX11 83 yX6_read ∈ lw_g)⟩
theorem im_X6_read : Cond.instanceMethod yX6_read ∈ lw_g := (lw_gi 571 (by decide +kernel) rfl : Cond.instanceMethod yX6_read ∈ lw_g)
theorem se_X6_read : Cond.selects RX6 yX6_read yX6_read ∈ lw_g := (lw_gi 572 (by decide +kernel) rfl : Cond.selects RX6 yX6_read yX6_read ∈ lw_g)
theorem fkX_X11_87 {D : va_G} {ad : Nat → Nat} {cA : Nat → ClassId} : FKw (wX D ad cA) RX11 87 6 11 3 0 := ⟨RX6, TX6, rfl, by decide, rfl, inX6, (lw_gi 288 (by decide +kernel) rfl : Cond.fieldLink RX11 87 RX6 (TX6 3).2.1 (TX6 3).2.2.1 ∈ lw_g), rfl⟩
theorem fkX_X11_88 {D : va_G} {ad : Nat → Nat} {cA : Nat → ClassId} : FKw (wX D ad cA) RX11 88 6 11 4 0 := ⟨RX6, TX6, rfl, by decide, rfl, inX6, (lw_gi 290 (by decide +kernel) rfl : Cond.fieldLink RX11 88 RX6 (TX6 4).2.1 (TX6 4).2.2.1 ∈ lw_g), rfl⟩
theorem ckX11_89 : CKB RX11 89 yX8_take cX8_take 5 (some .int) 3 := ⟨(lw_gi 767 (by decide +kernel) rfl : Cond.code yX8_take cX8_take 5 (some .int) ∈ lw_g), (lw_gi 117 (by decide +kernel) rfl : Cond.initialized yX8_take.cls ∈ lw_g), by decide +kernel, by decide +kernel, (lw_gi 764 (by decide +kernel) rfl : Cond.methodLink RX11 89 yX8_take ∈ lw_g)⟩
theorem im_X8_take : Cond.instanceMethod yX8_take ∈ lw_g := (lw_gi 765 (by decide +kernel) rfl : Cond.instanceMethod yX8_take ∈ lw_g)
theorem se_X8_take : Cond.selects RX8 yX8_take yX8_take ∈ lw_g := (lw_gi 766 (by decide +kernel) rfl : Cond.selects RX8 yX8_take yX8_take ∈ lw_g)
theorem fkX_X8_43 {D : va_G} {ad : Nat → Nat} {cA : Nat → ClassId} : FKw (wX D ad cA) RX8 43 8 8 1 0 := ⟨RX8, TX8, rfl, by decide, rfl, inX8, (lw_gi 241 (by decide +kernel) rfl : Cond.fieldLink RX8 43 RX8 (TX8 1).2.1 (TX8 1).2.2.1 ∈ lw_g), rfl⟩
theorem pkX_X8_43 {D : va_G} {ad : Nat → Nat} {cA : Nat → ClassId} : PKw (wX D ad cA) RX8 43 8 8 1 0 (tyX8 1) := ⟨RX8, TX8, tyX8, rfl, by decide, rfl, inX8, (lw_gi 241 (by decide +kernel) rfl : Cond.fieldLink RX8 43 RX8 (TX8 1).2.1 (TX8 1).2.2.1 ∈ lw_g), rfl, tyX8_ok, nmX8, rfl, rfl⟩
theorem fkX_X8_9 {D : va_G} {ad : Nat → Nat} {cA : Nat → ClassId} : FKw (wX D ad cA) RX8 9 8 8 2 0 := ⟨RX8, TX8, rfl, by decide, rfl, inX8, (lw_gi 243 (by decide +kernel) rfl : Cond.fieldLink RX8 9 RX8 (TX8 2).2.1 (TX8 2).2.2.1 ∈ lw_g), rfl⟩
theorem pkX_X8_9 {D : va_G} {ad : Nat → Nat} {cA : Nat → ClassId} : PKw (wX D ad cA) RX8 9 8 8 2 0 (tyX8 2) := ⟨RX8, TX8, tyX8, rfl, by decide, rfl, inX8, (lw_gi 243 (by decide +kernel) rfl : Cond.fieldLink RX8 9 RX8 (TX8 2).2.1 (TX8 2).2.2.1 ∈ lw_g), rfl, tyX8_ok, nmX8, rfl, rfl⟩
theorem cpX8_46 : CPw RX8 46 := ⟨(lw_gi 1252 (by decide +kernel) rfl : Cond.methodLink RX8 46 arraycopyName ∈ lw_g), (lw_gi 774 (by decide +kernel) rfl : Cond.native arraycopyName ∈ lw_g), (lw_gi 773 (by decide +kernel) rfl : Cond.static arraycopyName ∈ lw_g), (lw_gi 135 (by decide +kernel) rfl : Cond.initialized "java/lang/System" ∈ lw_g)⟩
theorem fkX_X8_28 {D : va_G} {ad : Nat → Nat} {cA : Nat → ClassId} : FKw (wX D ad cA) RX8 28 8 8 6 2 := ⟨RX8, TX8, rfl, by decide, rfl, inX8, (lw_gi 250 (by decide +kernel) rfl : Cond.fieldLink RX8 28 RX8 (TX8 6).2.1 (TX8 6).2.2.1 ∈ lw_g), rfl⟩
theorem fkX_X11_16 {D : va_G} {ad : Nat → Nat} {cA : Nat → ClassId} : FKw (wX D ad cA) RX11 16 11 8 1 2 := ⟨RX11, TX11, rfl, by decide, rfl, inX11, (lw_gi 526 (by decide +kernel) rfl : Cond.fieldLink RX11 16 RX11 (TX11 1).2.1 (TX11 1).2.2.1 ∈ lw_g), rfl⟩
theorem ckX11_287 : CKB RX11 287 yX8_copy cX8_copy 3 none 1 := ⟨(lw_gi 1251 (by decide +kernel) rfl : Cond.code yX8_copy cX8_copy 3 none ∈ lw_g), (lw_gi 117 (by decide +kernel) rfl : Cond.initialized yX8_copy.cls ∈ lw_g), by decide +kernel, by decide +kernel, (lw_gi 1248 (by decide +kernel) rfl : Cond.methodLink RX11 287 yX8_copy ∈ lw_g)⟩
theorem im_X8_copy : Cond.instanceMethod yX8_copy ∈ lw_g := (lw_gi 1249 (by decide +kernel) rfl : Cond.instanceMethod yX8_copy ∈ lw_g)
theorem se_X8_copy : Cond.selects RX8 yX8_copy yX8_copy ∈ lw_g := (lw_gi 1250 (by decide +kernel) rfl : Cond.selects RX8 yX8_copy yX8_copy ∈ lw_g)
theorem fkX_X11_20 {D : va_G} {ad : Nat → Nat} {cA : Nat → ClassId} : FKw (wX D ad cA) RX11 20 11 8 2 2 := ⟨RX11, TX11, rfl, by decide, rfl, inX11, (lw_gi 527 (by decide +kernel) rfl : Cond.fieldLink RX11 20 RX11 (TX11 2).2.1 (TX11 2).2.2.1 ∈ lw_g), rfl⟩
