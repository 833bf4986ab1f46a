theorem inX8 : ∀ x ∈ u_ws RX8 TX8 8, x ∈ lw_g := by
  intro x hx
  have h0 : u_ws RX8 TX8 8 = [253, 255, 257, 259, 261, 263, 265, 267].filterMap (fun i => lw_tbl[i]?) := by decide +kernel
  have hg := List.all_eq_true.mp (show (u_ws RX8 TX8 8).all goodWord = true by decide +kernel) x hx
  rw [h0] at hx
  obtain ⟨i, -, hi⟩ := List.mem_filterMap.mp hx
  exact lw_gi i hi hg
theorem fkX_X8_19 {D : va_G} {ad : Nat → Nat} {cA : Nat → ClassId} : FKw (wX D ad cA) RX8 19 8 8 4 2 := ⟨RX8, TX8, rfl, by decide, rfl, inX8, (lw_gi 247 (by decide +kernel) rfl : Cond.fieldLink RX8 19 RX8 (TX8 4).2.1 (TX8 4).2.2.1 ∈ lw_g), rfl⟩
theorem inX11 : ∀ x ∈ u_ws RX11 TX11 8, x ∈ lw_g := by
  intro x hx
  have h0 : u_ws RX11 TX11 8 = [533, 535, 537, 539, 541, 543, 545, 547].filterMap (fun i => lw_tbl[i]?) := by decide +kernel
  have hg := List.all_eq_true.mp (show (u_ws RX11 TX11 8).all goodWord = true by decide +kernel) x hx
  rw [h0] at hx
  obtain ⟨i, -, hi⟩ := List.mem_filterMap.mp hx
  exact lw_gi i hi hg
theorem fkX_X11_10 {D : va_G} {ad : Nat → Nat} {cA : Nat → ClassId} : FKw (wX D ad cA) RX11 10 11 8 0 2 := ⟨RX11, TX11, rfl, by decide, rfl, inX11, (lw_gi 525 (by decide +kernel) rfl : Cond.fieldLink RX11 10 RX11 (TX11 0).2.1 (TX11 0).2.2.1 ∈ lw_g), rfl⟩
theorem ckX11_93 : CKB RX11 93 yX8_boardAt cX8_boardAt 2 (some (.object "WrittenMoves$Board")) 1 := ⟨(lw_gi 793 (by decide +kernel) rfl : Cond.code yX8_boardAt cX8_boardAt 2 (some (.object "WrittenMoves$Board")) ∈ lw_g), (lw_gi 117 (by decide +kernel) rfl : Cond.initialized yX8_boardAt.cls ∈ lw_g), by decide +kernel, by decide +kernel, (lw_gi 790 (by decide +kernel) rfl : Cond.methodLink RX11 93 yX8_boardAt ∈ lw_g)⟩
theorem im_X8_boardAt : Cond.instanceMethod yX8_boardAt ∈ lw_g := (lw_gi 791 (by decide +kernel) rfl : Cond.instanceMethod yX8_boardAt ∈ lw_g)
theorem se_X8_boardAt : Cond.selects RX8 yX8_boardAt yX8_boardAt ∈ lw_g := (lw_gi 792 (by decide +kernel) rfl : Cond.selects RX8 yX8_boardAt yX8_boardAt ∈ lw_g)
theorem fkX_X8_40 {D : va_G} {ad : Nat → Nat} {cA : Nat → ClassId} : FKw (wX D ad cA) RX8 40 8 8 0 0 := ⟨RX8, TX8, rfl, by decide, rfl, inX8, (lw_gi 239 (by decide +kernel) rfl : Cond.fieldLink RX8 40 RX8 (TX8 0).2.1 (TX8 0).2.2.1 ∈ lw_g), rfl⟩
theorem fkX_X8_15 {D : va_G} {ad : Nat → Nat} {cA : Nat → ClassId} : FKw (wX D ad cA) RX8 15 8 8 3 2 := ⟨RX8, TX8, rfl, by decide, rfl, inX8, (lw_gi 245 (by decide +kernel) rfl : Cond.fieldLink RX8 15 RX8 (TX8 3).2.1 (TX8 3).2.2.1 ∈ lw_g), rfl⟩
theorem pkX_X8_40 {D : va_G} {ad : Nat → Nat} {cA : Nat → ClassId} : PKw (wX D ad cA) RX8 40 8 8 0 0 (tyX8 0) := ⟨RX8, TX8, tyX8, rfl, by decide, rfl, inX8, (lw_gi 239 (by decide +kernel) rfl : Cond.fieldLink RX8 40 RX8 (TX8 0).2.1 (TX8 0).2.2.1 ∈ lw_g), rfl, tyX8_ok, nmX8, rfl, rfl⟩
theorem fkX_X11_61 {D : va_G} {ad : Nat → Nat} {cA : Nat → ClassId} : FKw (wX D ad cA) RX11 61 8 8 0 0 := ⟨RX8, TX8, rfl, by decide, rfl, inX8, (lw_gi 240 (by decide +kernel) rfl : Cond.fieldLink RX11 61 RX8 (TX8 0).2.1 (TX8 0).2.2.1 ∈ lw_g), rfl⟩
theorem ckX11_65 : CKB RX11 65 yX8_put cX8_put 3 none 1 := ⟨(lw_gi 557 (by decide +kernel) rfl : Cond.code yX8_put cX8_put 3 none ∈ lw_g), (lw_gi 117 (by decide +kernel) rfl : Cond.initialized yX8_put.cls ∈ lw_g), by decide +kernel, by decide +kernel, (lw_gi 554 (by decide +kernel) rfl : Cond.methodLink RX11 65 yX8_put ∈ lw_g)⟩
theorem im_X8_put : Cond.instanceMethod yX8_put ∈ lw_g := (lw_gi 555 (by decide +kernel) rfl : Cond.instanceMethod yX8_put ∈ lw_g)
theorem se_X8_put : Cond.selects RX8 yX8_put yX8_put ∈ lw_g := (lw_gi 556 (by decide +kernel) rfl : Cond.selects RX8 yX8_put yX8_put ∈ lw_g)
theorem pkX_X11_61 {D : va_G} {ad : Nat → Nat} {cA : Nat → ClassId} : PKw (wX D ad cA) RX11 61 8 8 0 0 (tyX8 0) := ⟨RX8, TX8, tyX8, rfl, by decide, rfl, inX8, (lw_gi 240 (by decide +kernel) rfl : Cond.fieldLink RX11 61 RX8 (TX8 0).2.1 (TX8 0).2.2.1 ∈ lw_g), rfl, tyX8_ok, nmX8, rfl, rfl⟩
theorem fkX_X11_72 {D : va_G} {ad : Nat → Nat} {cA : Nat → ClassId} : FKw (wX D ad cA) RX11 72 8 8 2 0 := ⟨RX8, TX8, rfl, by decide, rfl, inX8, (lw_gi 244 (by decide +kernel) rfl : Cond.fieldLink RX11 72 RX8 (TX8 2).2.1 (TX8 2).2.2.1 ∈ lw_g), rfl⟩
theorem fkX_X11_69 {D : va_G} {ad : Nat → Nat} {cA : Nat → ClassId} : FKw (wX D ad cA) RX11 69 8 8 1 0 := ⟨RX8, TX8, rfl, by decide, rfl, inX8, (lw_gi 242 (by decide +kernel) rfl : Cond.fieldLink RX11 69 RX8 (TX8 1).2.1 (TX8 1).2.2.1 ∈ lw_g), rfl⟩
theorem fkX_X11_284 {D : va_G} {ad : Nat → Nat} {cA : Nat → ClassId} : FKw (wX D ad cA) RX11 284 8 8 4 2 := ⟨RX8, TX8, rfl, by decide, rfl, inX8, (lw_gi 248 (by decide +kernel) rfl : Cond.fieldLink RX11 284 RX8 (TX8 4).2.1 (TX8 4).2.2.1 ∈ lw_g), rfl⟩
theorem ckX11_142 : CKB RX11 142 yX8_hasRule cX8_hasRule 2 (some .boolean) 1 := ⟨(lw_gi 830 (by decide +kernel) rfl : Cond.code yX8_hasRule cX8_hasRule 2 (some .boolean) ∈ lw_g), (lw_gi 117 (by decide +kernel) rfl : Cond.initialized yX8_hasRule.cls ∈ lw_g), by decide +kernel, by decide +kernel, (lw_gi 827 (by decide +kernel) rfl : Cond.methodLink RX11 142 yX8_hasRule ∈ lw_g)⟩
theorem im_X8_hasRule : Cond.instanceMethod yX8_hasRule ∈ lw_g := (lw_gi 828 (by decide +kernel) rfl : Cond.instanceMethod yX8_hasRule ∈ lw_g)
theorem se_X8_hasRule : Cond.selects RX8 yX8_hasRule yX8_hasRule ∈ lw_g := (lw_gi 829 (by decide +kernel) rfl : Cond.selects RX8 yX8_hasRule yX8_hasRule ∈ lw_g)
theorem cnX11_156 : Cond.constantLong RX11 156 ((-1)) ∈ lw_g := lw_gi 838 (by decide +kernel) rfl
theorem ckX11_162 : CKB RX11 162 yX11_canTrace cX11_canTrace 6 (some .boolean) 4 := ⟨(lw_gi 918 (by decide +kernel) rfl : Cond.code yX11_canTrace cX11_canTrace 6 (some .boolean) ∈ lw_g), (lw_gi 116 (by decide +kernel) rfl : Cond.initialized yX11_canTrace.cls ∈ lw_g), by decide +kernel, by decide +kernel, (lw_gi 915 (by decide +kernel) rfl : Cond.methodLink RX11 162 yX11_canTrace ∈ lw_g)⟩
theorem im_X11_canTrace : Cond.instanceMethod yX11_canTrace ∈ lw_g := (lw_gi 917 (by decide +kernel) rfl : Cond.instanceMethod yX11_canTrace ∈ lw_g)
theorem se_X11_canTrace : Cond.selects RX11 yX11_canTrace yX11_canTrace ∈ lw_g := (lw_gi 20 (by decide +kernel) rfl : Cond.selects RX11 yX11_canTrace yX11_canTrace ∈ lw_g)
theorem ckX11_180 : CKB RX11 180 yX8_gameAt cX8_gameAt 2 (some (.object "WrittenMoves$Game")) 1 := ⟨(lw_gi 991 (by decide +kernel) rfl : Cond.code yX8_gameAt cX8_gameAt 2 (some (.object "WrittenMoves$Game")) ∈ lw_g), (lw_gi 117 (by decide +kernel) rfl : Cond.initialized yX8_gameAt.cls ∈ lw_g), by decide +kernel, by decide +kernel, (lw_gi 988 (by decide +kernel) rfl : Cond.methodLink RX11 180 yX8_gameAt ∈ lw_g)⟩
theorem im_X8_gameAt : Cond.instanceMethod yX8_gameAt ∈ lw_g := (lw_gi 989 (by decide +kernel) rfl : Cond.instanceMethod yX8_gameAt ∈ lw_g)
theorem se_X8_gameAt : Cond.selects RX8 yX8_gameAt yX8_gameAt ∈ lw_g := (lw_gi 990 (by decide +kernel) rfl : Cond.selects RX8 yX8_gameAt yX8_gameAt ∈ lw_g)
theorem fkX_X11_48 {D : va_G} {ad : Nat → Nat} {cA : Nat → ClassId} : FKw (wX D ad cA) RX11 48 11 8 6 2 := ⟨RX11, TX11, rfl, by decide, rfl, inX11, (lw_gi 531 (by decide +kernel) rfl : Cond.fieldLink RX11 48 RX11 (TX11 6).2.1 (TX11 6).2.2.1 ∈ lw_g), rfl⟩
theorem ckX11_194 : CKB RX11 194 yX5_follow cX5_follow 8 (some .int) 3 := ⟨(lw_gi 1003 (by decide +kernel) rfl : Cond.code yX5_follow cX5_follow 8 (some .int) ∈ lw_g), (lw_gi 125 (by decide +kernel) rfl : Cond.initialized yX5_follow.cls ∈ lw_g), by decide +kernel, by decide +kernel, (lw_gi 1000 (by decide +kernel) rfl : Cond.methodLink RX11 194 yX5_follow ∈ lw_g)⟩
theorem im_X5_follow : Cond.instanceMethod yX5_follow ∈ lw_g := (lw_gi 1001 (by decide +kernel) rfl : Cond.instanceMethod yX5_follow ∈ lw_g)
theorem se_X5_follow : Cond.selects RX5 yX5_follow yX5_follow ∈ lw_g := (lw_gi 1002 (by decide +kernel) rfl : Cond.selects RX5 yX5_follow yX5_follow ∈ lw_g)
theorem ckX11_267 : CKB RX11 267 yX11_canContest cX11_canContest 3 (some .boolean) 3 := ⟨(lw_gi 1174 (by decide +kernel) rfl : Cond.code yX11_canContest cX11_canContest 3 (some .boolean) ∈ lw_g), (lw_gi 116 (by decide +kernel) rfl : Cond.initialized yX11_canContest.cls ∈ lw_g), by decide +kernel, by decide +kernel, (lw_gi 1172 (by decide +kernel) rfl : Cond.methodLink RX11 267 yX11_canContest ∈ lw_g)⟩
theorem sm_X11_canContest : Cond.static yX11_canContest ∈ lw_g := (lw_gi 1173 (by decide +kernel) rfl : Cond.static yX11_canContest ∈ lw_g)
