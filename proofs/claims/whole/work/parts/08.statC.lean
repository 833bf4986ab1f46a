def bX (D : va_G) : BT := (D, vwCl, shX, fkX, tyX)
theorem oiX11_1 : Cond.methodLink RX11 1 objectInit ∈ lw_g ∧ Cond.instanceMethod objectInit ∈ lw_g ∧ Cond.code objectInit ⟨#[0xb1]⟩ 1 none ∈ lw_g := ⟨lw_gi 142 (by decide +kernel) rfl, lw_gi 143 (by decide +kernel) rfl, lw_gi 144 (by decide +kernel) rfl⟩
theorem nwX_X11_7 : Cond.classLink RX11 7 RX8 ∈ lw_g ∧ Cond.instantiable RX8 8 ∈ lw_g ∧ Cond.initialized RX8 ∈ lw_g := ⟨lw_gi 145 (by decide +kernel) rfl, lw_gi 146 (by decide +kernel) rfl, lw_gi 117 (by decide +kernel) rfl⟩
theorem oiX8_3 : Cond.methodLink RX8 3 objectInit ∈ lw_g ∧ Cond.instanceMethod objectInit ∈ lw_g ∧ Cond.code objectInit ⟨#[0xb1]⟩ 1 none ∈ lw_g := ⟨lw_gi 150 (by decide +kernel) rfl, lw_gi 143 (by decide +kernel) rfl, lw_gi 144 (by decide +kernel) rfl⟩
theorem xkpX_X8_9 {w : WT} (h1 : (wC w)[8]? = some (RX8, TX8, 8)) (h2 : wF w 8 2 = 0) : PKw w RX8 9 8 8 2 0 (tyX8 2) := ⟨RX8, TX8, tyX8, h1, by decide, h2, inX8, (lw_gi 243 (by decide +kernel) rfl : Cond.fieldLink RX8 9 RX8 (TX8 2).2.1 (TX8 2).2.2.1 ∈ lw_g), rfl, tyX8_ok, nmX8, rfl, rfl⟩
theorem acX_int : Cond.arrayClass .int ∈ lw_g := lw_gi 215 (by decide +kernel) rfl
theorem xkfX_X8_15 {w : WT} (h1 : (wC w)[8]? = some (RX8, TX8, 8)) (h2 : wF w 8 3 = 2) : PFw w RX8 15 8 8 3 2 (tyX8 3) := ⟨RX8, TX8, tyX8, h1, by decide, h2, inX8, (lw_gi 245 (by decide +kernel) rfl : Cond.fieldLink RX8 15 RX8 (TX8 3).2.1 (TX8 3).2.2.1 ∈ lw_g), rfl, rfl, tyX8_ok, nmX8, rfl, rfl⟩
theorem xkfX_X8_19 {w : WT} (h1 : (wC w)[8]? = some (RX8, TX8, 8)) (h2 : wF w 8 4 = 2) : PFw w RX8 19 8 8 4 2 (tyX8 4) := ⟨RX8, TX8, tyX8, h1, by decide, h2, inX8, (lw_gi 247 (by decide +kernel) rfl : Cond.fieldLink RX8 19 RX8 (TX8 4).2.1 (TX8 4).2.2.1 ∈ lw_g), rfl, rfl, tyX8_ok, nmX8, rfl, rfl⟩
theorem naX8_22 : Cond.classLink RX8 22 "WrittenMoves$Board" ∈ lw_g ∧ "WrittenMoves$Board" ∈ lw_oc := ⟨lw_gi 151 (by decide +kernel) rfl, by decide +kernel⟩
theorem xkfX_X8_24 {w : WT} (h1 : (wC w)[8]? = some (RX8, TX8, 8)) (h2 : wF w 8 5 = 2) : PFw w RX8 24 8 8 5 2 (tyX8 5) := ⟨RX8, TX8, tyX8, h1, by decide, h2, inX8, (lw_gi 249 (by decide +kernel) rfl : Cond.fieldLink RX8 24 RX8 (TX8 5).2.1 (TX8 5).2.2.1 ∈ lw_g), rfl, rfl, tyX8_ok, nmX8, rfl, rfl⟩
theorem acX_long : Cond.arrayClass .long ∈ lw_g := lw_gi 216 (by decide +kernel) rfl
theorem xkfX_X8_28 {w : WT} (h1 : (wC w)[8]? = some (RX8, TX8, 8)) (h2 : wF w 8 6 = 2) : PFw w RX8 28 8 8 6 2 (tyX8 6) := ⟨RX8, TX8, tyX8, h1, by decide, h2, inX8, (lw_gi 250 (by decide +kernel) rfl : Cond.fieldLink RX8 28 RX8 (TX8 6).2.1 (TX8 6).2.2.1 ∈ lw_g), rfl, rfl, tyX8_ok, nmX8, rfl, rfl⟩
theorem naX8_32 : Cond.classLink RX8 32 "WrittenMoves$Game" ∈ lw_g ∧ "WrittenMoves$Game" ∈ lw_oc := ⟨lw_gi 153 (by decide +kernel) rfl, by decide +kernel⟩
theorem xkfX_X8_34 {w : WT} (h1 : (wC w)[8]? = some (RX8, TX8, 8)) (h2 : wF w 8 7 = 2) : PFw w RX8 34 8 8 7 2 (tyX8 7) := ⟨RX8, TX8, tyX8, h1, by decide, h2, inX8, (lw_gi 252 (by decide +kernel) rfl : Cond.fieldLink RX8 34 RX8 (TX8 7).2.1 (TX8 7).2.2.1 ∈ lw_g), rfl, rfl, tyX8_ok, nmX8, rfl, rfl⟩
theorem xkgX_X8_24 {w : WT} (h1 : (wC w)[8]? = some (RX8, TX8, 8)) (h2 : wF w 8 5 = 2) : FKw w RX8 24 8 8 5 2 := ⟨RX8, TX8, h1, by decide, h2, inX8, (lw_gi 249 (by decide +kernel) rfl : Cond.fieldLink RX8 24 RX8 (TX8 5).2.1 (TX8 5).2.2.1 ∈ lw_g), rfl⟩
theorem nwX_X8_22 : Cond.classLink RX8 22 RX0 ∈ lw_g ∧ Cond.instantiable RX0 7 ∈ lw_g ∧ Cond.initialized RX0 ∈ lw_g := ⟨lw_gi 151 (by decide +kernel) rfl, lw_gi 155 (by decide +kernel) rfl, lw_gi 118 (by decide +kernel) rfl⟩
theorem oiX0_3 : Cond.methodLink RX0 3 objectInit ∈ lw_g ∧ Cond.instanceMethod objectInit ∈ lw_g ∧ Cond.code objectInit ⟨#[0xb1]⟩ 1 none ∈ lw_g := ⟨lw_gi 159 (by decide +kernel) rfl, lw_gi 143 (by decide +kernel) rfl, lw_gi 144 (by decide +kernel) rfl⟩
theorem xkfX_X0_9 {w : WT} (h1 : (wC w)[0]? = some (RX0, TX0, 7)) (h2 : wF w 0 5 = 2) : PFw w RX0 9 0 7 5 2 (tyX0 5) := ⟨RX0, TX0, tyX0, h1, by decide, h2, inX0, (lw_gi 188 (by decide +kernel) rfl : Cond.fieldLink RX0 9 RX0 (TX0 5).2.1 (TX0 5).2.2.1 ∈ lw_g), rfl, rfl, tyX0_ok, nmX0, rfl, rfl⟩
theorem xkfX_X0_15 {w : WT} (h1 : (wC w)[0]? = some (RX0, TX0, 7)) (h2 : wF w 0 6 = 2) : PFw w RX0 15 0 7 6 2 (tyX0 6) := ⟨RX0, TX0, tyX0, h1, by decide, h2, inX0, (lw_gi 195 (by decide +kernel) rfl : Cond.fieldLink RX0 15 RX0 (TX0 6).2.1 (TX0 6).2.2.1 ∈ lw_g), rfl, rfl, tyX0_ok, nmX0, rfl, rfl⟩
theorem ciX8_38 : CKI RX8 38 yX0_init "WrittenMoves" cX0_init 1 0 := ⟨(lw_gi 158 (by decide +kernel) rfl : Cond.code yX0_init cX0_init 1 none ∈ lw_g), (lw_gi 118 (by decide +kernel) rfl : Cond.initialized yX0_init.cls ∈ lw_g), by decide +kernel, by decide +kernel, List.mem_of_getElem? (i := 0) (by decide +kernel)⟩
theorem im_X0_init : Cond.instanceMethod yX0_init ∈ lw_g := (lw_gi 157 (by decide +kernel) rfl : Cond.instanceMethod yX0_init ∈ lw_g)
theorem xkgX_X8_34 {w : WT} (h1 : (wC w)[8]? = some (RX8, TX8, 8)) (h2 : wF w 8 7 = 2) : FKw w RX8 34 8 8 7 2 := ⟨RX8, TX8, h1, by decide, h2, inX8, (lw_gi 252 (by decide +kernel) rfl : Cond.fieldLink RX8 34 RX8 (TX8 7).2.1 (TX8 7).2.2.1 ∈ lw_g), rfl⟩
theorem nwX_X8_32 : Cond.classLink RX8 32 RX2 ∈ lw_g ∧ Cond.instantiable RX2 3 ∈ lw_g ∧ Cond.initialized RX2 ∈ lw_g := ⟨lw_gi 153 (by decide +kernel) rfl, lw_gi 217 (by decide +kernel) rfl, lw_gi 119 (by decide +kernel) rfl⟩
theorem oiX2_3 : Cond.methodLink RX2 3 objectInit ∈ lw_g ∧ Cond.instanceMethod objectInit ∈ lw_g ∧ Cond.code objectInit ⟨#[0xb1]⟩ 1 none ∈ lw_g := ⟨lw_gi 221 (by decide +kernel) rfl, lw_gi 143 (by decide +kernel) rfl, lw_gi 144 (by decide +kernel) rfl⟩
theorem xkfX_X2_9 {w : WT} (h1 : (wC w)[2]? = some (RX2, TX2, 3)) (h2 : wF w 2 1 = 2) : PFw w RX2 9 2 3 1 2 (tyX2 1) := ⟨RX2, TX2, tyX2, h1, by decide, h2, inX2, (lw_gi 226 (by decide +kernel) rfl : Cond.fieldLink RX2 9 RX2 (TX2 1).2.1 (TX2 1).2.2.1 ∈ lw_g), rfl, rfl, tyX2_ok, nmX2, rfl, rfl⟩
theorem xkfX_X2_15 {w : WT} (h1 : (wC w)[2]? = some (RX2, TX2, 3)) (h2 : wF w 2 2 = 2) : PFw w RX2 15 2 3 2 2 (tyX2 2) := ⟨RX2, TX2, tyX2, h1, by decide, h2, inX2, (lw_gi 229 (by decide +kernel) rfl : Cond.fieldLink RX2 15 RX2 (TX2 2).2.1 (TX2 2).2.2.1 ∈ lw_g), rfl, rfl, tyX2_ok, nmX2, rfl, rfl⟩
theorem ciX8_39 : CKI RX8 39 yX2_init "WrittenMoves" cX2_init 1 0 := ⟨(lw_gi 220 (by decide +kernel) rfl : Cond.code yX2_init cX2_init 1 none ∈ lw_g), (lw_gi 119 (by decide +kernel) rfl : Cond.initialized yX2_init.cls ∈ lw_g), by decide +kernel, by decide +kernel, List.mem_of_getElem? (i := 1) (by decide +kernel)⟩
theorem im_X2_init : Cond.instanceMethod yX2_init ∈ lw_g := (lw_gi 219 (by decide +kernel) rfl : Cond.instanceMethod yX2_init ∈ lw_g)
theorem ckX11_9 : CKB RX11 9 yX8_init cX8_init 2 none 0 := ⟨(lw_gi 149 (by decide +kernel) rfl : Cond.code yX8_init cX8_init 2 none ∈ lw_g), (lw_gi 117 (by decide +kernel) rfl : Cond.initialized yX8_init.cls ∈ lw_g), by decide +kernel, by decide +kernel, (lw_gi 147 (by decide +kernel) rfl : Cond.methodLink RX11 9 yX8_init ∈ lw_g)⟩
theorem im_X8_init : Cond.instanceMethod yX8_init ∈ lw_g := (lw_gi 148 (by decide +kernel) rfl : Cond.instanceMethod yX8_init ∈ lw_g)
theorem xkfX_X11_10 {w : WT} (h1 : (wC w)[11]? = some (RX11, TX11, 8)) (h2 : wF w 11 0 = 2) : PFw w RX11 10 11 8 0 2 (tyX11 0) := ⟨RX11, TX11, tyX11, h1, by decide, h2, inX11, (lw_gi 525 (by decide +kernel) rfl : Cond.fieldLink RX11 10 RX11 (TX11 0).2.1 (TX11 0).2.2.1 ∈ lw_g), rfl, rfl, tyX11_ok, nmX11, rfl, rfl⟩
theorem naX11_7 : Cond.classLink RX11 7 "WrittenMoves$Told" ∈ lw_g ∧ "WrittenMoves$Told" ∈ lw_oc := ⟨lw_gi 145 (by decide +kernel) rfl, by decide +kernel⟩
theorem xkfX_X11_16 {w : WT} (h1 : (wC w)[11]? = some (RX11, TX11, 8)) (h2 : wF w 11 1 = 2) : PFw w RX11 16 11 8 1 2 (tyX11 1) := ⟨RX11, TX11, tyX11, h1, by decide, h2, inX11, (lw_gi 526 (by decide +kernel) rfl : Cond.fieldLink RX11 16 RX11 (TX11 1).2.1 (TX11 1).2.2.1 ∈ lw_g), rfl, rfl, tyX11_ok, nmX11, rfl, rfl⟩
theorem acX_boolean : Cond.arrayClass .boolean ∈ lw_g := lw_gi 320 (by decide +kernel) rfl
theorem xkfX_X11_20 {w : WT} (h1 : (wC w)[11]? = some (RX11, TX11, 8)) (h2 : wF w 11 2 = 2) : PFw w RX11 20 11 8 2 2 (tyX11 2) := ⟨RX11, TX11, tyX11, h1, by decide, h2, inX11, (lw_gi 527 (by decide +kernel) rfl : Cond.fieldLink RX11 20 RX11 (TX11 2).2.1 (TX11 2).2.2.1 ∈ lw_g), rfl, rfl, tyX11_ok, nmX11, rfl, rfl⟩
theorem nwX_X11_24 : Cond.classLink RX11 24 RX6 ∈ lw_g ∧ Cond.instantiable RX6 11 ∈ lw_g ∧ Cond.initialized RX6 ∈ lw_g := ⟨lw_gi 271 (by decide +kernel) rfl, lw_gi 272 (by decide +kernel) rfl, lw_gi 120 (by decide +kernel) rfl⟩
theorem oiX6_3 : Cond.methodLink RX6 3 objectInit ∈ lw_g ∧ Cond.instanceMethod objectInit ∈ lw_g ∧ Cond.code objectInit ⟨#[0xb1]⟩ 1 none ∈ lw_g := ⟨lw_gi 276 (by decide +kernel) rfl, lw_gi 143 (by decide +kernel) rfl, lw_gi 144 (by decide +kernel) rfl⟩
theorem nwX_X6_9 : Cond.classLink RX6 9 RX0 ∈ lw_g ∧ Cond.instantiable RX0 7 ∈ lw_g ∧ Cond.initialized RX0 ∈ lw_g := ⟨lw_gi 277 (by decide +kernel) rfl, lw_gi 155 (by decide +kernel) rfl, lw_gi 118 (by decide +kernel) rfl⟩
theorem ciX6_11 : CKI RX6 11 yX0_init "WrittenMoves" cX0_init 1 0 := ⟨(lw_gi 158 (by decide +kernel) rfl : Cond.code yX0_init cX0_init 1 none ∈ lw_g), (lw_gi 118 (by decide +kernel) rfl : Cond.initialized yX0_init.cls ∈ lw_g), by decide +kernel, by decide +kernel, List.mem_of_getElem? (i := 3) (by decide +kernel)⟩
theorem xkfX_X6_12 {w : WT} (h1 : (wC w)[6]? = some (RX6, TX6, 11)) (h2 : wF w 6 0 = 2) : PFw w RX6 12 6 11 0 2 (tyX6 0) := ⟨RX6, TX6, tyX6, h1, by decide, h2, inX6, (lw_gi 281 (by decide +kernel) rfl : Cond.fieldLink RX6 12 RX6 (TX6 0).2.1 (TX6 0).2.2.1 ∈ lw_g), rfl, rfl, tyX6_ok, nmX6, rfl, rfl⟩
theorem nwX_X6_18 : Cond.classLink RX6 18 RX2 ∈ lw_g ∧ Cond.instantiable RX2 3 ∈ lw_g ∧ Cond.initialized RX2 ∈ lw_g := ⟨lw_gi 279 (by decide +kernel) rfl, lw_gi 217 (by decide +kernel) rfl, lw_gi 119 (by decide +kernel) rfl⟩
theorem ciX6_20 : CKI RX6 20 yX2_init "WrittenMoves" cX2_init 1 0 := ⟨(lw_gi 220 (by decide +kernel) rfl : Cond.code yX2_init cX2_init 1 none ∈ lw_g), (lw_gi 119 (by decide +kernel) rfl : Cond.initialized yX2_init.cls ∈ lw_g), by decide +kernel, by decide +kernel, List.mem_of_getElem? (i := 4) (by decide +kernel)⟩
theorem xkfX_X6_21 {w : WT} (h1 : (wC w)[6]? = some (RX6, TX6, 11)) (h2 : wF w 6 1 = 2) : PFw w RX6 21 6 11 1 2 (tyX6 1) := ⟨RX6, TX6, tyX6, h1, by decide, h2, inX6, (lw_gi 283 (by decide +kernel) rfl : Cond.fieldLink RX6 21 RX6 (TX6 1).2.1 (TX6 1).2.2.1 ∈ lw_g), rfl, rfl, tyX6_ok, nmX6, rfl, rfl⟩
theorem xkpX_X6_25 {w : WT} (h1 : (wC w)[6]? = some (RX6, TX6, 11)) (h2 : wF w 6 5 = 2) : PKw w RX6 25 6 11 5 2 (tyX6 5) := ⟨RX6, TX6, tyX6, h1, by decide, h2, inX6, (lw_gi 291 (by decide +kernel) rfl : Cond.fieldLink RX6 25 RX6 (TX6 5).2.1 (TX6 5).2.2.1 ∈ lw_g), rfl, tyX6_ok, nmX6, rfl, rfl⟩
theorem ciX11_26 : CKI RX11 26 yX6_init "WrittenMoves" cX6_init 1 0 := ⟨(lw_gi 275 (by decide +kernel) rfl : Cond.code yX6_init cX6_init 1 none ∈ lw_g), (lw_gi 120 (by decide +kernel) rfl : Cond.initialized yX6_init.cls ∈ lw_g), by decide +kernel, by decide +kernel, List.mem_of_getElem? (i := 2) (by decide +kernel)⟩
theorem im_X6_init : Cond.instanceMethod yX6_init ∈ lw_g := (lw_gi 274 (by decide +kernel) rfl : Cond.instanceMethod yX6_init ∈ lw_g)
theorem xkfX_X11_27 {w : WT} (h1 : (wC w)[11]? = some (RX11, TX11, 8)) (h2 : wF w 11 3 = 2) : PFw w RX11 27 11 8 3 2 (tyX11 3) := ⟨RX11, TX11, tyX11, h1, by decide, h2, inX11, (lw_gi 528 (by decide +kernel) rfl : Cond.fieldLink RX11 27 RX11 (TX11 3).2.1 (TX11 3).2.2.1 ∈ lw_g), rfl, rfl, tyX11_ok, nmX11, rfl, rfl⟩
theorem inX9 : ∀ x ∈ u_ws RX9 TX9 8, x ∈ lw_g := by
  intro x hx
  have h0 : u_ws RX9 TX9 8 = [366, 368, 370, 372, 374, 376, 378, 380].filterMap (fun i => lw_tbl[i]?) := by decide +kernel
  have hg := List.all_eq_true.mp (show (u_ws RX9 TX9 8).all goodWord = true by decide +kernel) x hx
  rw [h0] at hx
  obtain ⟨i, -, hi⟩ := List.mem_filterMap.mp hx
  exact lw_gi i hi hg
theorem nwX_X11_31 : Cond.classLink RX11 31 RX9 ∈ lw_g ∧ Cond.instantiable RX9 8 ∈ lw_g ∧ Cond.initialized RX9 ∈ lw_g := ⟨lw_gi 321 (by decide +kernel) rfl, lw_gi 322 (by decide +kernel) rfl, lw_gi 121 (by decide +kernel) rfl⟩
theorem oiX9_3 : Cond.methodLink RX9 3 objectInit ∈ lw_g ∧ Cond.instanceMethod objectInit ∈ lw_g ∧ Cond.code objectInit ⟨#[0xb1]⟩ 1 none ∈ lw_g := ⟨lw_gi 326 (by decide +kernel) rfl, lw_gi 143 (by decide +kernel) rfl, lw_gi 144 (by decide +kernel) rfl⟩
theorem xkfX_X9_9 {w : WT} (h1 : (wC w)[9]? = some (RX9, TX9, 8)) (h2 : wF w 9 0 = 2) : PFw w RX9 9 9 8 0 2 (tyX9 0) := ⟨RX9, TX9, tyX9, h1, by decide, h2, inX9, (lw_gi 356 (by decide +kernel) rfl : Cond.fieldLink RX9 9 RX9 (TX9 0).2.1 (TX9 0).2.2.1 ∈ lw_g), rfl, rfl, tyX9_ok, nmX9, rfl, rfl⟩
theorem inX3 : ∀ x ∈ u_ws RX3 TX3 5, x ∈ lw_g := by
  intro x hx
  have h0 : u_ws RX3 TX3 5 = [345, 347, 349, 351, 353].filterMap (fun i => lw_tbl[i]?) := by decide +kernel
  have hg := List.all_eq_true.mp (show (u_ws RX3 TX3 5).all goodWord = true by decide +kernel) x hx
  rw [h0] at hx
  obtain ⟨i, -, hi⟩ := List.mem_filterMap.mp hx
  exact lw_gi i hi hg
theorem nwX_X9_15 : Cond.classLink RX9 15 RX3 ∈ lw_g ∧ Cond.instantiable RX3 5 ∈ lw_g ∧ Cond.initialized RX3 ∈ lw_g := ⟨lw_gi 327 (by decide +kernel) rfl, lw_gi 328 (by decide +kernel) rfl, lw_gi 122 (by decide +kernel) rfl⟩
theorem oiX3_3 : Cond.methodLink RX3 3 objectInit ∈ lw_g ∧ Cond.instanceMethod objectInit ∈ lw_g ∧ Cond.code objectInit ⟨#[0xb1]⟩ 1 none ∈ lw_g := ⟨lw_gi 332 (by decide +kernel) rfl, lw_gi 143 (by decide +kernel) rfl, lw_gi 144 (by decide +kernel) rfl⟩
theorem xkfX_X3_9 {w : WT} (h1 : (wC w)[3]? = some (RX3, TX3, 5)) (h2 : wF w 3 0 = 2) : PFw w RX3 9 3 5 0 2 (tyX3 0) := ⟨RX3, TX3, tyX3, h1, by decide, h2, inX3, (lw_gi 333 (by decide +kernel) rfl : Cond.fieldLink RX3 9 RX3 (TX3 0).2.1 (TX3 0).2.2.1 ∈ lw_g), rfl, rfl, tyX3_ok, nmX3, rfl, rfl⟩
theorem xkfX_X3_15 {w : WT} (h1 : (wC w)[3]? = some (RX3, TX3, 5)) (h2 : wF w 3 1 = 2) : PFw w RX3 15 3 5 1 2 (tyX3 1) := ⟨RX3, TX3, tyX3, h1, by decide, h2, inX3, (lw_gi 335 (by decide +kernel) rfl : Cond.fieldLink RX3 15 RX3 (TX3 1).2.1 (TX3 1).2.2.1 ∈ lw_g), rfl, rfl, tyX3_ok, nmX3, rfl, rfl⟩
theorem ciX9_17 : CKI RX9 17 yX3_init "WrittenMoves" cX3_init 1 0 := ⟨(lw_gi 331 (by decide +kernel) rfl : Cond.code yX3_init cX3_init 1 none ∈ lw_g), (lw_gi 122 (by decide +kernel) rfl : Cond.initialized yX3_init.cls ∈ lw_g), by decide +kernel, by decide +kernel, List.mem_of_getElem? (i := 6) (by decide +kernel)⟩
theorem im_X3_init : Cond.instanceMethod yX3_init ∈ lw_g := (lw_gi 330 (by decide +kernel) rfl : Cond.instanceMethod yX3_init ∈ lw_g)
theorem xkfX_X9_18 {w : WT} (h1 : (wC w)[9]? = some (RX9, TX9, 8)) (h2 : wF w 9 2 = 2) : PFw w RX9 18 9 8 2 2 (tyX9 2) := ⟨RX9, TX9, tyX9, h1, by decide, h2, inX9, (lw_gi 360 (by decide +kernel) rfl : Cond.fieldLink RX9 18 RX9 (TX9 2).2.1 (TX9 2).2.2.1 ∈ lw_g), rfl, rfl, tyX9_ok, nmX9, rfl, rfl⟩
theorem xkfX_X9_22 {w : WT} (h1 : (wC w)[9]? = some (RX9, TX9, 8)) (h2 : wF w 9 3 = 2) : PFw w RX9 22 9 8 3 2 (tyX9 3) := ⟨RX9, TX9, tyX9, h1, by decide, h2, inX9, (lw_gi 361 (by decide +kernel) rfl : Cond.fieldLink RX9 22 RX9 (TX9 3).2.1 (TX9 3).2.2.1 ∈ lw_g), rfl, rfl, tyX9_ok, nmX9, rfl, rfl⟩
theorem xkfX_X9_25 {w : WT} (h1 : (wC w)[9]? = some (RX9, TX9, 8)) (h2 : wF w 9 4 = 2) : PFw w RX9 25 9 8 4 2 (tyX9 4) := ⟨RX9, TX9, tyX9, h1, by decide, h2, inX9, (lw_gi 362 (by decide +kernel) rfl : Cond.fieldLink RX9 25 RX9 (TX9 4).2.1 (TX9 4).2.2.1 ∈ lw_g), rfl, rfl, tyX9_ok, nmX9, rfl, rfl⟩
theorem xkfX_X9_29 {w : WT} (h1 : (wC w)[9]? = some (RX9, TX9, 8)) (h2 : wF w 9 6 = 2) : PFw w RX9 29 9 8 6 2 (tyX9 6) := ⟨RX9, TX9, tyX9, h1, by decide, h2, inX9, (lw_gi 364 (by decide +kernel) rfl : Cond.fieldLink RX9 29 RX9 (TX9 6).2.1 (TX9 6).2.2.1 ∈ lw_g), rfl, rfl, tyX9_ok, nmX9, rfl, rfl⟩
theorem xkfX_X9_32 {w : WT} (h1 : (wC w)[9]? = some (RX9, TX9, 8)) (h2 : wF w 9 7 = 2) : PFw w RX9 32 9 8 7 2 (tyX9 7) := ⟨RX9, TX9, tyX9, h1, by decide, h2, inX9, (lw_gi 365 (by decide +kernel) rfl : Cond.fieldLink RX9 32 RX9 (TX9 7).2.1 (TX9 7).2.2.1 ∈ lw_g), rfl, rfl, tyX9_ok, nmX9, rfl, rfl⟩
theorem ciX11_33 : CKI RX11 33 yX9_init "WrittenMoves" cX9_init 1 0 := ⟨(lw_gi 325 (by decide +kernel) rfl : Cond.code yX9_init cX9_init 1 none ∈ lw_g), (lw_gi 121 (by decide +kernel) rfl : Cond.initialized yX9_init.cls ∈ lw_g), by decide +kernel, by decide +kernel, List.mem_of_getElem? (i := 5) (by decide +kernel)⟩
theorem im_X9_init : Cond.instanceMethod yX9_init ∈ lw_g := (lw_gi 324 (by decide +kernel) rfl : Cond.instanceMethod yX9_init ∈ lw_g)
theorem xkfX_X11_34 {w : WT} (h1 : (wC w)[11]? = some (RX11, TX11, 8)) (h2 : wF w 11 4 = 2) : PFw w RX11 34 11 8 4 2 (tyX11 4) := ⟨RX11, TX11, tyX11, h1, by decide, h2, inX11, (lw_gi 529 (by decide +kernel) rfl : Cond.fieldLink RX11 34 RX11 (TX11 4).2.1 (TX11 4).2.2.1 ∈ lw_g), rfl, rfl, tyX11_ok, nmX11, rfl, rfl⟩
theorem inX4 : ∀ x ∈ u_ws RX4 TX4 6, x ∈ lw_g := by
  intro x hx
  have h0 : u_ws RX4 TX4 6 = [421, 423, 425, 427, 429, 431].filterMap (fun i => lw_tbl[i]?) := by decide +kernel
  have hg := List.all_eq_true.mp (show (u_ws RX4 TX4 6).all goodWord = true by decide +kernel) x hx
  rw [h0] at hx
  obtain ⟨i, -, hi⟩ := List.mem_filterMap.mp hx
  exact lw_gi i hi hg
theorem nwX_X11_38 : Cond.classLink RX11 38 RX4 ∈ lw_g ∧ Cond.instantiable RX4 6 ∈ lw_g ∧ Cond.initialized RX4 ∈ lw_g := ⟨lw_gi 383 (by decide +kernel) rfl, lw_gi 384 (by decide +kernel) rfl, lw_gi 123 (by decide +kernel) rfl⟩
theorem oiX4_3 : Cond.methodLink RX4 3 objectInit ∈ lw_g ∧ Cond.instanceMethod objectInit ∈ lw_g ∧ Cond.code objectInit ⟨#[0xb1]⟩ 1 none ∈ lw_g := ⟨lw_gi 388 (by decide +kernel) rfl, lw_gi 143 (by decide +kernel) rfl, lw_gi 144 (by decide +kernel) rfl⟩
theorem nwX_X4_9 : Cond.classLink RX4 9 RX3 ∈ lw_g ∧ Cond.instantiable RX3 5 ∈ lw_g ∧ Cond.initialized RX3 ∈ lw_g := ⟨lw_gi 389 (by decide +kernel) rfl, lw_gi 328 (by decide +kernel) rfl, lw_gi 122 (by decide +kernel) rfl⟩
theorem ciX4_11 : CKI RX4 11 yX3_init "WrittenMoves" cX3_init 1 0 := ⟨(lw_gi 331 (by decide +kernel) rfl : Cond.code yX3_init cX3_init 1 none ∈ lw_g), (lw_gi 122 (by decide +kernel) rfl : Cond.initialized yX3_init.cls ∈ lw_g), by decide +kernel, by decide +kernel, List.mem_of_getElem? (i := 7) (by decide +kernel)⟩
theorem xkfX_X4_12 {w : WT} (h1 : (wC w)[4]? = some (RX4, TX4, 6)) (h2 : wF w 4 0 = 2) : PFw w RX4 12 4 6 0 2 (tyX4 0) := ⟨RX4, TX4, tyX4, h1, by decide, h2, inX4, (lw_gi 414 (by decide +kernel) rfl : Cond.fieldLink RX4 12 RX4 (TX4 0).2.1 (TX4 0).2.2.1 ∈ lw_g), rfl, rfl, tyX4_ok, nmX4, rfl, rfl⟩
theorem naX4_18 : Cond.classLink RX4 18 "WrittenMoves$Walk" ∈ lw_g ∧ "WrittenMoves$Walk" ∈ lw_oc := ⟨lw_gi 391 (by decide +kernel) rfl, by decide +kernel⟩
theorem xkfX_X4_20 {w : WT} (h1 : (wC w)[4]? = some (RX4, TX4, 6)) (h2 : wF w 4 1 = 2) : PFw w RX4 20 4 6 1 2 (tyX4 1) := ⟨RX4, TX4, tyX4, h1, by decide, h2, inX4, (lw_gi 416 (by decide +kernel) rfl : Cond.fieldLink RX4 20 RX4 (TX4 1).2.1 (TX4 1).2.2.1 ∈ lw_g), rfl, rfl, tyX4_ok, nmX4, rfl, rfl⟩
theorem xkfX_X4_24 {w : WT} (h1 : (wC w)[4]? = some (RX4, TX4, 6)) (h2 : wF w 4 2 = 2) : PFw w RX4 24 4 6 2 2 (tyX4 2) := ⟨RX4, TX4, tyX4, h1, by decide, h2, inX4, (lw_gi 417 (by decide +kernel) rfl : Cond.fieldLink RX4 24 RX4 (TX4 2).2.1 (TX4 2).2.2.1 ∈ lw_g), rfl, rfl, tyX4_ok, nmX4, rfl, rfl⟩
theorem xkfX_X4_28 {w : WT} (h1 : (wC w)[4]? = some (RX4, TX4, 6)) (h2 : wF w 4 5 = 2) : PFw w RX4 28 4 6 5 2 (tyX4 5) := ⟨RX4, TX4, tyX4, h1, by decide, h2, inX4, (lw_gi 420 (by decide +kernel) rfl : Cond.fieldLink RX4 28 RX4 (TX4 5).2.1 (TX4 5).2.2.1 ∈ lw_g), rfl, rfl, tyX4_ok, nmX4, rfl, rfl⟩
theorem xkgX_X4_20 {w : WT} (h1 : (wC w)[4]? = some (RX4, TX4, 6)) (h2 : wF w 4 1 = 2) : FKw w RX4 20 4 6 1 2 := ⟨RX4, TX4, h1, by decide, h2, inX4, (lw_gi 416 (by decide +kernel) rfl : Cond.fieldLink RX4 20 RX4 (TX4 1).2.1 (TX4 1).2.2.1 ∈ lw_g), rfl⟩
theorem inX10 : ∀ x ∈ u_ws RX10 TX10 5, x ∈ lw_g := by
  intro x hx
  have h0 : u_ws RX10 TX10 5 = [403, 405, 407, 409, 411].filterMap (fun i => lw_tbl[i]?) := by decide +kernel
  have hg := List.all_eq_true.mp (show (u_ws RX10 TX10 5).all goodWord = true by decide +kernel) x hx
  rw [h0] at hx
  obtain ⟨i, -, hi⟩ := List.mem_filterMap.mp hx
  exact lw_gi i hi hg
theorem nwX_X4_18 : Cond.classLink RX4 18 RX10 ∈ lw_g ∧ Cond.instantiable RX10 5 ∈ lw_g ∧ Cond.initialized RX10 ∈ lw_g := ⟨lw_gi 391 (by decide +kernel) rfl, lw_gi 393 (by decide +kernel) rfl, lw_gi 124 (by decide +kernel) rfl⟩
theorem oiX10_3 : Cond.methodLink RX10 3 objectInit ∈ lw_g ∧ Cond.instanceMethod objectInit ∈ lw_g ∧ Cond.code objectInit ⟨#[0xb1]⟩ 1 none ∈ lw_g := ⟨lw_gi 397 (by decide +kernel) rfl, lw_gi 143 (by decide +kernel) rfl, lw_gi 144 (by decide +kernel) rfl⟩
theorem xkfX_X10_9 {w : WT} (h1 : (wC w)[10]? = some (RX10, TX10, 5)) (h2 : wF w 10 0 = 2) : PFw w RX10 9 10 5 0 2 (tyX10 0) := ⟨RX10, TX10, tyX10, h1, by decide, h2, inX10, (lw_gi 398 (by decide +kernel) rfl : Cond.fieldLink RX10 9 RX10 (TX10 0).2.1 (TX10 0).2.2.1 ∈ lw_g), rfl, rfl, tyX10_ok, nmX10, rfl, rfl⟩
theorem xkfX_X10_15 {w : WT} (h1 : (wC w)[10]? = some (RX10, TX10, 5)) (h2 : wF w 10 1 = 2) : PFw w RX10 15 10 5 1 2 (tyX10 1) := ⟨RX10, TX10, tyX10, h1, by decide, h2, inX10, (lw_gi 399 (by decide +kernel) rfl : Cond.fieldLink RX10 15 RX10 (TX10 1).2.1 (TX10 1).2.2.1 ∈ lw_g), rfl, rfl, tyX10_ok, nmX10, rfl, rfl⟩
theorem xkpX_X10_18 {w : WT} (h1 : (wC w)[10]? = some (RX10, TX10, 5)) (h2 : wF w 10 3 = 0) : PKw w RX10 18 10 5 3 0 (tyX10 3) := ⟨RX10, TX10, tyX10, h1, by decide, h2, inX10, (lw_gi 401 (by decide +kernel) rfl : Cond.fieldLink RX10 18 RX10 (TX10 3).2.1 (TX10 3).2.2.1 ∈ lw_g), rfl, tyX10_ok, nmX10, rfl, rfl⟩
theorem xkfX_X10_22 {w : WT} (h1 : (wC w)[10]? = some (RX10, TX10, 5)) (h2 : wF w 10 4 = 2) : PFw w RX10 22 10 5 4 2 (tyX10 4) := ⟨RX10, TX10, tyX10, h1, by decide, h2, inX10, (lw_gi 402 (by decide +kernel) rfl : Cond.fieldLink RX10 22 RX10 (TX10 4).2.1 (TX10 4).2.2.1 ∈ lw_g), rfl, rfl, tyX10_ok, nmX10, rfl, rfl⟩
theorem ckX4_32 : CKB RX4 32 yX10_init cX10_init 2 none 1 := ⟨(lw_gi 396 (by decide +kernel) rfl : Cond.code yX10_init cX10_init 2 none ∈ lw_g), (lw_gi 124 (by decide +kernel) rfl : Cond.initialized yX10_init.cls ∈ lw_g), by decide +kernel, by decide +kernel, (lw_gi 394 (by decide +kernel) rfl : Cond.methodLink RX4 32 yX10_init ∈ lw_g)⟩
theorem im_X10_init : Cond.instanceMethod yX10_init ∈ lw_g := (lw_gi 395 (by decide +kernel) rfl : Cond.instanceMethod yX10_init ∈ lw_g)
theorem ckX11_40 : CKB RX11 40 yX4_init cX4_init 2 none 0 := ⟨(lw_gi 387 (by decide +kernel) rfl : Cond.code yX4_init cX4_init 2 none ∈ lw_g), (lw_gi 123 (by decide +kernel) rfl : Cond.initialized yX4_init.cls ∈ lw_g), by decide +kernel, by decide +kernel, (lw_gi 385 (by decide +kernel) rfl : Cond.methodLink RX11 40 yX4_init ∈ lw_g)⟩
theorem im_X4_init : Cond.instanceMethod yX4_init ∈ lw_g := (lw_gi 386 (by decide +kernel) rfl : Cond.instanceMethod yX4_init ∈ lw_g)
theorem xkfX_X11_41 {w : WT} (h1 : (wC w)[11]? = some (RX11, TX11, 8)) (h2 : wF w 11 5 = 2) : PFw w RX11 41 11 8 5 2 (tyX11 5) := ⟨RX11, TX11, tyX11, h1, by decide, h2, inX11, (lw_gi 530 (by decide +kernel) rfl : Cond.fieldLink RX11 41 RX11 (TX11 5).2.1 (TX11 5).2.2.1 ∈ lw_g), rfl, rfl, tyX11_ok, nmX11, rfl, rfl⟩
theorem inX5 : ∀ x ∈ u_ws RX5 TX5 4, x ∈ lw_g := by
  intro x hx
  have h0 : u_ws RX5 TX5 4 = [479, 481, 483, 485].filterMap (fun i => lw_tbl[i]?) := by decide +kernel
  have hg := List.all_eq_true.mp (show (u_ws RX5 TX5 4).all goodWord = true by decide +kernel) x hx
  rw [h0] at hx
  obtain ⟨i, -, hi⟩ := List.mem_filterMap.mp hx
  exact lw_gi i hi hg
theorem nwX_X11_45 : Cond.classLink RX11 45 RX5 ∈ lw_g ∧ Cond.instantiable RX5 4 ∈ lw_g ∧ Cond.initialized RX5 ∈ lw_g := ⟨lw_gi 434 (by decide +kernel) rfl, lw_gi 435 (by decide +kernel) rfl, lw_gi 125 (by decide +kernel) rfl⟩
theorem oiX5_3 : Cond.methodLink RX5 3 objectInit ∈ lw_g ∧ Cond.instanceMethod objectInit ∈ lw_g ∧ Cond.code objectInit ⟨#[0xb1]⟩ 1 none ∈ lw_g := ⟨lw_gi 439 (by decide +kernel) rfl, lw_gi 143 (by decide +kernel) rfl, lw_gi 144 (by decide +kernel) rfl⟩
theorem inX7 : ∀ x ∈ u_ws RX7 TX7 5, x ∈ lw_g := by
  intro x hx
  have h0 : u_ws RX7 TX7 5 = [459, 461, 463, 465, 467].filterMap (fun i => lw_tbl[i]?) := by decide +kernel
  have hg := List.all_eq_true.mp (show (u_ws RX7 TX7 5).all goodWord = true by decide +kernel) x hx
  rw [h0] at hx
  obtain ⟨i, -, hi⟩ := List.mem_filterMap.mp hx
  exact lw_gi i hi hg
theorem nwX_X5_9 : Cond.classLink RX5 9 RX7 ∈ lw_g ∧ Cond.instantiable RX7 5 ∈ lw_g ∧ Cond.initialized RX7 ∈ lw_g := ⟨lw_gi 440 (by decide +kernel) rfl, lw_gi 441 (by decide +kernel) rfl, lw_gi 126 (by decide +kernel) rfl⟩
theorem nwX_X5_11 : Cond.classLink RX5 11 RX0 ∈ lw_g ∧ Cond.instantiable RX0 7 ∈ lw_g ∧ Cond.initialized RX0 ∈ lw_g := ⟨lw_gi 442 (by decide +kernel) rfl, lw_gi 155 (by decide +kernel) rfl, lw_gi 118 (by decide +kernel) rfl⟩
theorem ciX5_13 : CKI RX5 13 yX0_init "WrittenMoves" cX0_init 1 0 := ⟨(lw_gi 158 (by decide +kernel) rfl : Cond.code yX0_init cX0_init 1 none ∈ lw_g), (lw_gi 118 (by decide +kernel) rfl : Cond.initialized yX0_init.cls ∈ lw_g), by decide +kernel, by decide +kernel, List.mem_of_getElem? (i := 9) (by decide +kernel)⟩
theorem oiX7_3 : Cond.methodLink RX7 3 objectInit ∈ lw_g ∧ Cond.instanceMethod objectInit ∈ lw_g ∧ Cond.code objectInit ⟨#[0xb1]⟩ 1 none ∈ lw_g := ⟨lw_gi 447 (by decide +kernel) rfl, lw_gi 143 (by decide +kernel) rfl, lw_gi 144 (by decide +kernel) rfl⟩
theorem xkfX_X7_9 {w : WT} (h1 : (wC w)[7]? = some (RX7, TX7, 5)) (h2 : wF w 7 3 = 2) : PFw w RX7 9 7 5 3 2 (tyX7 3) := ⟨RX7, TX7, tyX7, h1, by decide, h2, inX7, (lw_gi 455 (by decide +kernel) rfl : Cond.fieldLink RX7 9 RX7 (TX7 3).2.1 (TX7 3).2.2.1 ∈ lw_g), rfl, rfl, tyX7_ok, nmX7, rfl, rfl⟩
theorem xkfX_X7_15 {w : WT} (h1 : (wC w)[7]? = some (RX7, TX7, 5)) (h2 : wF w 7 4 = 2) : PFw w RX7 15 7 5 4 2 (tyX7 4) := ⟨RX7, TX7, tyX7, h1, by decide, h2, inX7, (lw_gi 458 (by decide +kernel) rfl : Cond.fieldLink RX7 15 RX7 (TX7 4).2.1 (TX7 4).2.2.1 ∈ lw_g), rfl, rfl, tyX7_ok, nmX7, rfl, rfl⟩
theorem xkpX_X7_18 {w : WT} (h1 : (wC w)[7]? = some (RX7, TX7, 5)) (h2 : wF w 7 0 = 2) : PKw w RX7 18 7 5 0 2 (tyX7 0) := ⟨RX7, TX7, tyX7, h1, by decide, h2, inX7, (lw_gi 448 (by decide +kernel) rfl : Cond.fieldLink RX7 18 RX7 (TX7 0).2.1 (TX7 0).2.2.1 ∈ lw_g), rfl, tyX7_ok, nmX7, rfl, rfl⟩
theorem ckX5_14 : CKB RX5 14 yX7_init cX7_init 2 none 1 := ⟨(lw_gi 446 (by decide +kernel) rfl : Cond.code yX7_init cX7_init 2 none ∈ lw_g), (lw_gi 126 (by decide +kernel) rfl : Cond.initialized yX7_init.cls ∈ lw_g), by decide +kernel, by decide +kernel, (lw_gi 444 (by decide +kernel) rfl : Cond.methodLink RX5 14 yX7_init ∈ lw_g)⟩
theorem im_X7_init : Cond.instanceMethod yX7_init ∈ lw_g := (lw_gi 445 (by decide +kernel) rfl : Cond.instanceMethod yX7_init ∈ lw_g)
theorem xkfX_X5_17 {w : WT} (h1 : (wC w)[5]? = some (RX5, TX5, 4)) (h2 : wF w 5 0 = 2) : PFw w RX5 17 5 4 0 2 (tyX5 0) := ⟨RX5, TX5, tyX5, h1, by decide, h2, inX5, (lw_gi 474 (by decide +kernel) rfl : Cond.fieldLink RX5 17 RX5 (TX5 0).2.1 (TX5 0).2.2.1 ∈ lw_g), rfl, rfl, tyX5_ok, nmX5, rfl, rfl⟩
theorem nwX_X5_23 : Cond.classLink RX5 23 RX3 ∈ lw_g ∧ Cond.instantiable RX3 5 ∈ lw_g ∧ Cond.initialized RX3 ∈ lw_g := ⟨lw_gi 470 (by decide +kernel) rfl, lw_gi 328 (by decide +kernel) rfl, lw_gi 122 (by decide +kernel) rfl⟩
theorem ciX5_25 : CKI RX5 25 yX3_init "WrittenMoves" cX3_init 1 0 := ⟨(lw_gi 331 (by decide +kernel) rfl : Cond.code yX3_init cX3_init 1 none ∈ lw_g), (lw_gi 122 (by decide +kernel) rfl : Cond.initialized yX3_init.cls ∈ lw_g), by decide +kernel, by decide +kernel, List.mem_of_getElem? (i := 10) (by decide +kernel)⟩
theorem xkfX_X5_26 {w : WT} (h1 : (wC w)[5]? = some (RX5, TX5, 4)) (h2 : wF w 5 1 = 2) : PFw w RX5 26 5 4 1 2 (tyX5 1) := ⟨RX5, TX5, tyX5, h1, by decide, h2, inX5, (lw_gi 476 (by decide +kernel) rfl : Cond.fieldLink RX5 26 RX5 (TX5 1).2.1 (TX5 1).2.2.1 ∈ lw_g), rfl, rfl, tyX5_ok, nmX5, rfl, rfl⟩
theorem nwX_X5_30 : Cond.classLink RX5 30 RX10 ∈ lw_g ∧ Cond.instantiable RX10 5 ∈ lw_g ∧ Cond.initialized RX10 ∈ lw_g := ⟨lw_gi 472 (by decide +kernel) rfl, lw_gi 393 (by decide +kernel) rfl, lw_gi 124 (by decide +kernel) rfl⟩
theorem ckX5_32 : CKB RX5 32 yX10_init cX10_init 2 none 1 := ⟨(lw_gi 396 (by decide +kernel) rfl : Cond.code yX10_init cX10_init 2 none ∈ lw_g), (lw_gi 124 (by decide +kernel) rfl : Cond.initialized yX10_init.cls ∈ lw_g), by decide +kernel, by decide +kernel, (lw_gi 473 (by decide +kernel) rfl : Cond.methodLink RX5 32 yX10_init ∈ lw_g)⟩
theorem xkfX_X5_35 {w : WT} (h1 : (wC w)[5]? = some (RX5, TX5, 4)) (h2 : wF w 5 2 = 2) : PFw w RX5 35 5 4 2 2 (tyX5 2) := ⟨RX5, TX5, tyX5, h1, by decide, h2, inX5, (lw_gi 477 (by decide +kernel) rfl : Cond.fieldLink RX5 35 RX5 (TX5 2).2.1 (TX5 2).2.2.1 ∈ lw_g), rfl, rfl, tyX5_ok, nmX5, rfl, rfl⟩
theorem ciX11_47 : CKI RX11 47 yX5_init "WrittenMoves" cX5_init 1 0 := ⟨(lw_gi 438 (by decide +kernel) rfl : Cond.code yX5_init cX5_init 1 none ∈ lw_g), (lw_gi 125 (by decide +kernel) rfl : Cond.initialized yX5_init.cls ∈ lw_g), by decide +kernel, by decide +kernel, List.mem_of_getElem? (i := 8) (by decide +kernel)⟩
theorem im_X5_init : Cond.instanceMethod yX5_init ∈ lw_g := (lw_gi 437 (by decide +kernel) rfl : Cond.instanceMethod yX5_init ∈ lw_g)
theorem xkfX_X11_48 {w : WT} (h1 : (wC w)[11]? = some (RX11, TX11, 8)) (h2 : wF w 11 6 = 2) : PFw w RX11 48 11 8 6 2 (tyX11 6) := ⟨RX11, TX11, tyX11, h1, by decide, h2, inX11, (lw_gi 531 (by decide +kernel) rfl : Cond.fieldLink RX11 48 RX11 (TX11 6).2.1 (TX11 6).2.2.1 ∈ lw_g), rfl, rfl, tyX11_ok, nmX11, rfl, rfl⟩
theorem inX1 : ∀ x ∈ u_ws RX1 TX1 7, x ∈ lw_g := by
  intro x hx
  have h0 : u_ws RX1 TX1 7 = [510, 512, 514, 516, 518, 520, 522].filterMap (fun i => lw_tbl[i]?) := by decide +kernel
  have hg := List.all_eq_true.mp (show (u_ws RX1 TX1 7).all goodWord = true by decide +kernel) x hx
  rw [h0] at hx
  obtain ⟨i, -, hi⟩ := List.mem_filterMap.mp hx
  exact lw_gi i hi hg
theorem nwX_X11_52 : Cond.classLink RX11 52 RX1 ∈ lw_g ∧ Cond.instantiable RX1 7 ∈ lw_g ∧ Cond.initialized RX1 ∈ lw_g := ⟨lw_gi 488 (by decide +kernel) rfl, lw_gi 489 (by decide +kernel) rfl, lw_gi 127 (by decide +kernel) rfl⟩
theorem xkgX_X11_41 {w : WT} (h1 : (wC w)[11]? = some (RX11, TX11, 8)) (h2 : wF w 11 5 = 2) : FKw w RX11 41 11 8 5 2 := ⟨RX11, TX11, h1, by decide, h2, inX11, (lw_gi 530 (by decide +kernel) rfl : Cond.fieldLink RX11 41 RX11 (TX11 5).2.1 (TX11 5).2.2.1 ∈ lw_g), rfl⟩
theorem oiX1_3 : Cond.methodLink RX1 3 objectInit ∈ lw_g ∧ Cond.instanceMethod objectInit ∈ lw_g ∧ Cond.code objectInit ⟨#[0xb1]⟩ 1 none ∈ lw_g := ⟨lw_gi 493 (by decide +kernel) rfl, lw_gi 143 (by decide +kernel) rfl, lw_gi 144 (by decide +kernel) rfl⟩
theorem naX1_11 : Cond.classLink RX1 11 "WrittenMoves$Stand" ∈ lw_g ∧ "WrittenMoves$Stand" ∈ lw_oc := ⟨lw_gi 494 (by decide +kernel) rfl, by decide +kernel⟩
theorem xkfX_X1_13 {w : WT} (h1 : (wC w)[1]? = some (RX1, TX1, 7)) (h2 : wF w 1 1 = 2) : PFw w RX1 13 1 7 1 2 (tyX1 1) := ⟨RX1, TX1, tyX1, h1, by decide, h2, inX1, (lw_gi 504 (by decide +kernel) rfl : Cond.fieldLink RX1 13 RX1 (TX1 1).2.1 (TX1 1).2.2.1 ∈ lw_g), rfl, rfl, tyX1_ok, nmX1, rfl, rfl⟩
theorem maX1_17 : Cond.classLink RX1 17 ("[" ++ (FieldType.array .long).toString) ∈ lw_g ∧ FieldType.long ∈ lw_oa := ⟨by rw [show ("[" ++ (FieldType.array .long).toString) = "[[J" from by decide +kernel]; exact lw_gi 496 (by decide +kernel) rfl, by decide +kernel⟩
theorem xkfX_X1_19 {w : WT} (h1 : (wC w)[1]? = some (RX1, TX1, 7)) (h2 : wF w 1 2 = 2) : PFw w RX1 19 1 7 2 2 (tyX1 2) := ⟨RX1, TX1, tyX1, h1, by decide, h2, inX1, (lw_gi 505 (by decide +kernel) rfl : Cond.fieldLink RX1 19 RX1 (TX1 2).2.1 (TX1 2).2.2.1 ∈ lw_g), rfl, rfl, tyX1_ok, nmX1, rfl, rfl⟩
theorem maX1_22 : Cond.classLink RX1 22 ("[" ++ (FieldType.array .int).toString) ∈ lw_g ∧ FieldType.int ∈ lw_oa := ⟨by rw [show ("[" ++ (FieldType.array .int).toString) = "[[I" from by decide +kernel]; exact lw_gi 498 (by decide +kernel) rfl, by decide +kernel⟩
theorem xkfX_X1_24 {w : WT} (h1 : (wC w)[1]? = some (RX1, TX1, 7)) (h2 : wF w 1 3 = 2) : PFw w RX1 24 1 7 3 2 (tyX1 3) := ⟨RX1, TX1, tyX1, h1, by decide, h2, inX1, (lw_gi 506 (by decide +kernel) rfl : Cond.fieldLink RX1 24 RX1 (TX1 3).2.1 (TX1 3).2.2.1 ∈ lw_g), rfl, rfl, tyX1_ok, nmX1, rfl, rfl⟩
theorem xkfX_X1_27 {w : WT} (h1 : (wC w)[1]? = some (RX1, TX1, 7)) (h2 : wF w 1 0 = 2) : PFw w RX1 27 1 7 0 2 (tyX1 0) := ⟨RX1, TX1, tyX1, h1, by decide, h2, inX1, (lw_gi 503 (by decide +kernel) rfl : Cond.fieldLink RX1 27 RX1 (TX1 0).2.1 (TX1 0).2.2.1 ∈ lw_g), rfl, rfl, tyX1_ok, nmX1, rfl, rfl⟩
theorem nwX_X1_31 : Cond.classLink RX1 31 RX0 ∈ lw_g ∧ Cond.instantiable RX0 7 ∈ lw_g ∧ Cond.initialized RX0 ∈ lw_g := ⟨lw_gi 500 (by decide +kernel) rfl, lw_gi 155 (by decide +kernel) rfl, lw_gi 118 (by decide +kernel) rfl⟩
theorem ciX1_33 : CKI RX1 33 yX0_init "WrittenMoves" cX0_init 1 0 := ⟨(lw_gi 158 (by decide +kernel) rfl : Cond.code yX0_init cX0_init 1 none ∈ lw_g), (lw_gi 118 (by decide +kernel) rfl : Cond.initialized yX0_init.cls ∈ lw_g), by decide +kernel, by decide +kernel, List.mem_of_getElem? (i := 11) (by decide +kernel)⟩
theorem xkgX_X1_13 {w : WT} (h1 : (wC w)[1]? = some (RX1, TX1, 7)) (h2 : wF w 1 1 = 2) : FKw w RX1 13 1 7 1 2 := ⟨RX1, TX1, h1, by decide, h2, inX1, (lw_gi 504 (by decide +kernel) rfl : Cond.fieldLink RX1 13 RX1 (TX1 1).2.1 (TX1 1).2.2.1 ∈ lw_g), rfl⟩
theorem nwX_X1_11 : Cond.classLink RX1 11 RX7 ∈ lw_g ∧ Cond.instantiable RX7 5 ∈ lw_g ∧ Cond.initialized RX7 ∈ lw_g := ⟨lw_gi 494 (by decide +kernel) rfl, lw_gi 441 (by decide +kernel) rfl, lw_gi 126 (by decide +kernel) rfl⟩
theorem ckX1_34 : CKB RX1 34 yX7_init cX7_init 2 none 1 := ⟨(lw_gi 446 (by decide +kernel) rfl : Cond.code yX7_init cX7_init 2 none ∈ lw_g), (lw_gi 126 (by decide +kernel) rfl : Cond.initialized yX7_init.cls ∈ lw_g), by decide +kernel, by decide +kernel, (lw_gi 502 (by decide +kernel) rfl : Cond.methodLink RX1 34 yX7_init ∈ lw_g)⟩
theorem ckX11_54 : CKB RX11 54 yX1_init cX1_init 4 none 1 := ⟨(lw_gi 492 (by decide +kernel) rfl : Cond.code yX1_init cX1_init 4 none ∈ lw_g), (lw_gi 127 (by decide +kernel) rfl : Cond.initialized yX1_init.cls ∈ lw_g), by decide +kernel, by decide +kernel, (lw_gi 490 (by decide +kernel) rfl : Cond.methodLink RX11 54 yX1_init ∈ lw_g)⟩
theorem im_X1_init : Cond.instanceMethod yX1_init ∈ lw_g := (lw_gi 491 (by decide +kernel) rfl : Cond.instanceMethod yX1_init ∈ lw_g)
theorem xkfX_X11_57 {w : WT} (h1 : (wC w)[11]? = some (RX11, TX11, 8)) (h2 : wF w 11 7 = 2) : PFw w RX11 57 11 8 7 2 (tyX11 7) := ⟨RX11, TX11, tyX11, h1, by decide, h2, inX11, (lw_gi 532 (by decide +kernel) rfl : Cond.fieldLink RX11 57 RX11 (TX11 7).2.1 (TX11 7).2.2.1 ∈ lw_g), rfl, rfl, tyX11_ok, nmX11, rfl, rfl⟩
theorem xkgX_X11_16 {w : WT} (h1 : (wC w)[11]? = some (RX11, TX11, 8)) (h2 : wF w 11 1 = 2) : FKw w RX11 16 11 8 1 2 := ⟨RX11, TX11, h1, by decide, h2, inX11, (lw_gi 526 (by decide +kernel) rfl : Cond.fieldLink RX11 16 RX11 (TX11 1).2.1 (TX11 1).2.2.1 ∈ lw_g), rfl⟩
