/-! ===== ENGINE 8: copies of arrays, min and max, lengths, calls of nest mates ===== -/
def cpI (X : XT) (k0 k1 sp dp n : Nat) : XT := (fun a b => cond (Nat.beq a k1) (va_cpy (X.1 k0) (X.1 k1) sp dp n b) (X.1 a b), X.2)
def cpL (X : XT) (k0 k1 sp dp n : Nat) : XT := (X.1, fun a b => cond (Nat.beq a k1) (va_cpy (X.2.1 k0) (X.2.1 k1) sp dp n b) (X.2.1 a b), X.2.2)
theorem cpI_o {w : WT} {X : XT} {k0 k1 sp dp n : Nat} : ∀ j, j ≠ k1 → ceX w (cpI X k0 k1 sp dp n) j = ceX w X j := by
  intro j hj
  have h1 : ∀ b, (cpI X k0 k1 sp dp n).1 j b = X.1 j b := fun b => by
    show cond (Nat.beq j k1) _ (X.1 j b) = X.1 j b
    rw [beq_ne hj]; rfl
  have h2 : fvX w (cpI X k0 k1 sp dp n) j = fvX w X j := by
    funext b
    unfold fvX
    rw [h1 b]
    rfl
  unfold ceX
  rw [h2]
  simp only [h1]
  rfl
theorem cpL_o {w : WT} {X : XT} {k0 k1 sp dp n : Nat} : ∀ j, j ≠ k1 → ceX w (cpL X k0 k1 sp dp n) j = ceX w X j := by
  intro j hj
  have h1 : ∀ b, (cpL X k0 k1 sp dp n).2.1 j b = X.2.1 j b := fun b => by
    show cond (Nat.beq j k1) _ (X.2.1 j b) = X.2.1 j b
    rw [beq_ne hj]; rfl
  have h2 : fvX w (cpL X k0 k1 sp dp n) j = fvX w X j := by
    funext b
    unfold fvX
    rw [h1 b]
    rfl
  unfold ceX
  rw [h2]
  simp only [h1]
  rfl
theorem cpI_s (X : XT) (k0 k1 sp dp n b : Nat) : (cpI X k0 k1 sp dp n).1 k1 b = va_cpy (X.1 k0) (X.1 k1) sp dp n b := by
  show cond (Nat.beq k1 k1) _ _ = _
  rw [beq_self]; rfl
theorem cpL_s (X : XT) (k0 k1 sp dp n b : Nat) : (cpL X k0 k1 sp dp n).2.1 k1 b = va_cpy (X.2.1 k0) (X.2.1 k1) sp dp n b := by
  show cond (Nat.beq k1 k1) _ _ = _
  rw [beq_self]; rfl
def CPw (own : String) (idx : Nat) : Prop := Cond.methodLink own idx arraycopyName ∈ lw_g ∧ Cond.native arraycopyName ∈ lw_g ∧ Cond.static arraycopyName ∈ lw_g ∧ Cond.initialized "java/lang/System" ∈ lw_g
section XE
variable {E : ET} {w : WT} {Qp : Option Value → XT → Prop} {nL : Nat} {X : XT} {pc : Nat} {lv : List (Nat × Value)} {st : List Value} {cc : ByteArray} {own : String} {ret : Option FieldType} {rm : Room}
theorem x_alen (C : CX E w cc nL own ret rm) {k q n : Nat} {kd : Nat} (hk : k < wN w) (hs : wS w k = (kd + 1, q, n)) (hkd : kd < 3) (hd : decode cc pc = .ok (.arraylength, 1)) (kk : Wx E w nL (PX w X) (pc + 1) lv (.int (iI (n : Int)) :: st)) : Wx E w nL (PX w X) pc lv (.ref k :: st) := by
  obtain ⟨p, l, e, R, s, m, args, below, meth, c, A0, kC, nC, QQ⟩ := E
  intro H locs ls hP hS hl
  have he := wsX_at (X := X) hk
  have e1 : Int32.ofNat n = iI (n : Int) := (Int32.ofInt_eq_ofNat).symm
  have hK := C.2.2.2.2.2.1.K1 hk (by rw [hs]; show kd + 1 ≠ 0; omega)
  match kd, hkd with
  | 0, _ =>
    rw [ceX_arrI hs] at he
    exact va_alen C.1 C.2.1 hK hP k 0 he rfl e1 hd (kk H locs ls hP hS hl)
  | 1, _ =>
    rw [ceX_arrL hs] at he
    exact va_alen C.1 C.2.1 hK hP k 0 he rfl e1 hd (kk H locs ls hP hS hl)
  | 2, _ =>
    rw [ceX_arrR hs] at he
    exact va_alen C.1 C.2.1 hK hP k 0 he rfl e1 hd (kk H locs ls hP hS hl)
theorem x_mmin (C : CX E w cc nL own ret rm) {idx : Nat} {a b : Int} (ra : inR a) (rb : inR b) (h1 : Cond.methodLink own idx Lib.Math.min.name ∈ lw_g) (h2 : Cond.static Lib.Math.min.name ∈ lw_g) (h3 : Cond.initialized "java/lang/Math" ∈ lw_g) (h4 : Cond.code Lib.Math.min.name Lib.Math.min.code 2 (some .int) ∈ lw_g) (hf : 1 ≤ rm.frames) (hlo : (st.map fun v => v.category).sum + 13 ≤ rm.locals) (hd : decode cc pc = .ok (.invokestatic idx, 3)) (kk : ∀ v : Int, (b < a ∧ v = b) ∨ (¬ b < a ∧ v = a) → Wx E w nL (PX w X) (pc + 3) lv (.int (iI v) :: st)) : Wx E w nL (PX w X) pc lv (.int (iI b) :: .int (iI a) :: st) := by
  obtain ⟨p, l, e, R, s, m, args, below, meth, c, A0, kC, nC, QQ⟩ := E
  intro H locs ls hP hS hl
  have hRm : R = rm := C.2.2.2.2.2.2.2.2.1
  subst hRm
  have K := kk (if b < a then b else a) (by by_cases h : b < a <;> simp [h])
  have e1 : (if iI b < iI a then iI b else iI a) = iI (if b < a then b else a) := by
    by_cases h : b < a
    · rw [if_pos h, if_pos ((iI_lt rb ra).mpr h)]
    · rw [if_neg h, if_neg (fun q => h ((iI_lt rb ra).mp q))]
  refine va_mmin C.1 C.2.1 (C.2.2.1.trans hl.1.symm) C.2.2.2.1 (C.2.2.2.2.1 _ h1) (C.2.2.2.2.1 _ h2) (C.2.2.2.2.1 _ h3) (C.2.2.2.2.1 _ h4) hf (by rw [cat_cz]; exact hlo) C.2.2.2.2.2.2.2.2.2.2.1 C.2.2.2.2.2.2.2.2.2.2.2 hd ?_
  rw [e1]
  exact K H locs ls hP hS hl
theorem x_mmax (C : CX E w cc nL own ret rm) {idx : Nat} {a b : Int} (ra : inR a) (rb : inR b) (h1 : Cond.methodLink own idx Lib.Math.max.name ∈ lw_g) (h2 : Cond.static Lib.Math.max.name ∈ lw_g) (h3 : Cond.initialized "java/lang/Math" ∈ lw_g) (h4 : Cond.code Lib.Math.max.name Lib.Math.max.code 2 (some .int) ∈ lw_g) (hf : 1 ≤ rm.frames) (hlo : (st.map fun v => v.category).sum + 13 ≤ rm.locals) (hd : decode cc pc = .ok (.invokestatic idx, 3)) (kk : ∀ v : Int, (a < b ∧ v = b) ∨ (¬ a < b ∧ v = a) → Wx E w nL (PX w X) (pc + 3) lv (.int (iI v) :: st)) : Wx E w nL (PX w X) pc lv (.int (iI b) :: .int (iI a) :: st) := by
  obtain ⟨p, l, e, R, s, m, args, below, meth, c, A0, kC, nC, QQ⟩ := E
  intro H locs ls hP hS hl
  have hRm : R = rm := C.2.2.2.2.2.2.2.2.1
  subst hRm
  have K := kk (if a < b then b else a) (by by_cases h : a < b <;> simp [h])
  have e1 : (if iI a < iI b then iI b else iI a) = iI (if a < b then b else a) := by
    by_cases h : a < b
    · rw [if_pos h, if_pos ((iI_lt ra rb).mpr h)]
    · rw [if_neg h, if_neg (fun q => h ((iI_lt ra rb).mp q))]
  refine va_mmax C.1 C.2.1 (C.2.2.1.trans hl.1.symm) C.2.2.2.1 (C.2.2.2.2.1 _ h1) (C.2.2.2.2.1 _ h2) (C.2.2.2.2.1 _ h3) (C.2.2.2.2.1 _ h4) hf (by rw [cat_cz]; exact hlo) C.2.2.2.2.2.2.2.2.2.2.1 C.2.2.2.2.2.2.2.2.2.2.2 hd ?_
  rw [e1]
  exact K H locs ls hP hS hl
theorem nn_iI {z : Int} (h0 : 0 ≤ z) (h1 : z ≤ 2147483647) : ¬ iI z < 0 := fun h => by
  have := (iI_lt (a := z) (b := 0) ⟨by omega, h1⟩ inR_0).mp h
  omega
theorem x_cpyI (C : CX E w cc nL own ret rm) {idx k0 k1 q0 q1 n0 n1 : Nat} {sp dp n : Int} {ty : FieldType} (hw : CPw own idx) (hk0 : k0 < wN w) (hs0 : wS w k0 = (1, q0, n0)) (ht0 : wT w k0 = ty) (hk1 : k1 < wN w) (hs1 : wS w k1 = (1, q1, n1)) (ht1 : wT w k1 = ty) (hty : ty = .int) (g1 : 0 ≤ sp) (g2 : 0 ≤ dp) (g3 : 0 ≤ n) (g4 : sp + n ≤ (n0 : Int)) (g5 : dp + n ≤ (n1 : Int)) (g6 : n0 ≤ 2147483647) (g7 : n1 ≤ 2147483647)
    (hf : 1 ≤ rm.frames) (hlo : (st.map fun v => v.category).sum + (nativeFrameWords "java/lang/System" "arraycopy" 5 + 11) ≤ rm.locals) (hd : decode cc pc = .ok (.invokestatic idx, 3)) (kk : Wx E w nL (PX w (cpI X k0 k1 sp.toNat dp.toNat n.toNat)) (pc + 3) lv st) : Wx E w nL (PX w X) pc lv (.int (iI n) :: .int (iI dp) :: .ref k1 :: .int (iI sp) :: .ref k0 :: st) := by
  obtain ⟨p, l, e, R, s, m, args, below, meth, c, A0, kC, nC, QQ⟩ := E
  intro H locs ls hP hS hl
  have hRm : R = rm := C.2.2.2.2.2.2.2.2.1
  subst hRm
  subst hty
  have he0 := wsX_at (X := X) hk0
  rw [ceX_arrI hs0] at he0
  have he1 := wsX_at (X := X) hk1
  rw [ceX_arrI hs1] at he1
  have hF := C.2.2.2.2.2.1
  have hK : va_K (wD w) (wC w) [(wY w k0, FieldType.int), (wY w k1, FieldType.int)] s := by
    have a0 := hF.2.1 k0 hk0 (by rw [hs0]; show (1 : Nat) ≠ 0; decide)
    have a1 := hF.2.1 k1 hk1 (by rw [hs1]; show (1 : Nat) ≠ 0; decide)
    rw [ht0] at a0
    rw [ht1] at a1
    refine ⟨hF.1, fun j q hj => ?_⟩
    match j, hj with
    | 0, hj => cases hj; exact a0
    | 1, hj => cases hj; exact a1
    | j + 2, hj => simp at hj
  have rs : inR sp := ⟨by omega, by omega⟩
  have rd : inR dp := ⟨by omega, by omega⟩
  have rn : inR n := ⟨by omega, by omega⟩
  refine va_copyi C.1 C.2.1 (C.2.2.1.trans hl.1.symm) C.2.2.2.1 (C.2.2.2.2.1 _ hw.1) (C.2.2.2.2.1 _ hw.2.1) (C.2.2.2.2.1 _ hw.2.2.1) (C.2.2.2.2.1 _ hw.2.2.2) hK hP (hF.DA C.2.2.2.2.2.2.2.2.2.1 X) hS k0 k1 0 1 he0 he1 rfl rfl rfl (nn_iI g1 rs.2) (nn_iI g2 rd.2) (nn_iI g3 rn.2) (by rw [iI_nat rs, iI_nat rn]; omega) (by rw [iI_nat rd, iI_nat rn]; omega) (fun _ _ => rfl) hf (by rw [cat_cz]; exact hlo) hd (fun H1 locs1 q1 q2 q3 => kk H1 locs1 ls ?_ q3 hl)
  have e1 : va_cpy (fun i => iI (X.1 k0 i)) (fun i => iI (X.1 k1 i)) sp.toNat dp.toNat n.toNat = fun b => iI ((cpI X k0 k1 sp.toNat dp.toNat n.toNat).1 k1 b) := by
    funext b
    rw [cpI_s]
    unfold va_cpy
    split <;> rfl
  rw [iI_nat rs, iI_nat rd, iI_nat rn, e1, ← ceX_arrI (X := cpI X k0 k1 sp.toNat dp.toNat n.toNat) hs1, wsX_set hk1 cpI_o] at q1
  exact q1
theorem x_cpyL (C : CX E w cc nL own ret rm) {idx k0 k1 q0 q1 n0 n1 : Nat} {sp dp n : Int} (hw : CPw own idx) (hk0 : k0 < wN w) (hs0 : wS w k0 = (2, q0, n0)) (ht0 : wT w k0 = .long) (hk1 : k1 < wN w) (hs1 : wS w k1 = (2, q1, n1)) (ht1 : wT w k1 = .long) (g1 : 0 ≤ sp) (g2 : 0 ≤ dp) (g3 : 0 ≤ n) (g4 : sp + n ≤ (n0 : Int)) (g5 : dp + n ≤ (n1 : Int)) (g6 : n0 ≤ 2147483647) (g7 : n1 ≤ 2147483647)
    (hf : 1 ≤ rm.frames) (hlo : (st.map fun v => v.category).sum + (nativeFrameWords "java/lang/System" "arraycopy" 5 + 11) ≤ rm.locals) (hd : decode cc pc = .ok (.invokestatic idx, 3)) (kk : Wx E w nL (PX w (cpL X k0 k1 sp.toNat dp.toNat n.toNat)) (pc + 3) lv st) : Wx E w nL (PX w X) pc lv (.int (iI n) :: .int (iI dp) :: .ref k1 :: .int (iI sp) :: .ref k0 :: st) := by
  obtain ⟨p, l, e, R, s, m, args, below, meth, c, A0, kC, nC, QQ⟩ := E
  intro H locs ls hP hS hl
  have hRm : R = rm := C.2.2.2.2.2.2.2.2.1
  subst hRm
  have he0 := wsX_at (X := X) hk0
  rw [ceX_arrL hs0] at he0
  have he1 := wsX_at (X := X) hk1
  rw [ceX_arrL hs1] at he1
  have hF := C.2.2.2.2.2.1
  have hK : va_K (wD w) (wC w) [(wY w k0, FieldType.long), (wY w k1, FieldType.long)] s := by
    have a0 := hF.2.1 k0 hk0 (by rw [hs0]; show (2 : Nat) ≠ 0; decide)
    have a1 := hF.2.1 k1 hk1 (by rw [hs1]; show (2 : Nat) ≠ 0; decide)
    rw [ht0] at a0
    rw [ht1] at a1
    refine ⟨hF.1, fun j q hj => ?_⟩
    match j, hj with
    | 0, hj => cases hj; exact a0
    | 1, hj => cases hj; exact a1
    | j + 2, hj => simp at hj
  have rs : inR sp := ⟨by omega, by omega⟩
  have rd : inR dp := ⟨by omega, by omega⟩
  have rn : inR n := ⟨by omega, by omega⟩
  refine va_copyl C.1 C.2.1 (C.2.2.1.trans hl.1.symm) C.2.2.2.1 (C.2.2.2.2.1 _ hw.1) (C.2.2.2.2.1 _ hw.2.1) (C.2.2.2.2.1 _ hw.2.2.1) (C.2.2.2.2.1 _ hw.2.2.2) hK hP (hF.DA C.2.2.2.2.2.2.2.2.2.1 X) hS k0 k1 0 1 he0 he1 rfl rfl rfl (nn_iI g1 rs.2) (nn_iI g2 rd.2) (nn_iI g3 rn.2) (by rw [iI_nat rs, iI_nat rn]; omega) (by rw [iI_nat rd, iI_nat rn]; omega) (fun _ _ => rfl) hf (by rw [cat_cz]; exact hlo) hd (fun H1 locs1 q1 q2 q3 => kk H1 locs1 ls ?_ q3 hl)
  have e1 : va_cpy (fun i => X.2.1 k0 i) (fun i => X.2.1 k1 i) sp.toNat dp.toNat n.toNat = fun b => (cpL X k0 k1 sp.toNat dp.toNat n.toNat).2.1 k1 b := by
    funext b
    rw [cpL_s]
  rw [iI_nat rs, iI_nat rd, iI_nat rn, e1, ← ceX_arrL (X := cpL X k0 k1 sp.toNat dp.toNat n.toNat) hs1, wsX_set hk1 cpL_o] at q1
  exact q1
/-- a call of a nest mate's private static method: its rows in the tables -/
def CKN (own : String) (idx : Nat) (y : MethodName) (host : String) (b : ByteArray) (mL : Nat) (rt : Option FieldType) (n : Nat) : Prop := Cond.code y b mL rt ∈ lw_g ∧ Cond.initialized y.cls ∈ lw_g ∧ (y.cls ≠ "java/lang/invoke/MethodHandle" ∧ y.cls ≠ "java/lang/invoke/VarHandle") ∧ (parseMethodDescriptor y.desc).map (fun d => d.parameters.length) = some n ∧ (own, idx, y, host) ∈ lw_nl ∧ Cond.static y ∈ lw_g
theorem x_callSN (C : CX E w cc nL own ret rm) {y : MethodName} {host : String} {b : ByteArray} {mL n idx fr lo : Nat} {rt : Option FieldType} {As rest : List Value} {post : Option Value → XT → Prop} (M : MetX w y b mL rt fr lo As X post) (hw : CKN own idx y host b mL rt n)
    (hst : st = As.reverse ++ rest) (hn : As.length = n) (hsum : (rest.map fun v => v.category).sum ≤ 8) (hR : fr + 1 ≤ rm.frames ∧ 8 + (mL + 11) + lo ≤ rm.locals) (hd : decode cc pc = .ok (.invokestatic idx, 3)) (kk : ∀ (r : Option Value) (X' : XT), post r X' → Wx E w nL (PX w X') (pc + 3) lv (r.toList ++ rest)) : Wx E w nL (PX w X) pc lv st := by
  obtain ⟨p, l, e, R, s, m, args, below, meth, c, A0, kC, nC, QQ⟩ := E
  intro H locs ls hP hS hl
  obtain ⟨hx, hb, hml, hown, hts, hF, hret, hlk, hRm, hA, hk0, hn0⟩ := id C
  have hRm : R = rm := hRm
  subst hRm
  subst hst
  refine va_callX (va_runSN (n := n) (As := As.map (czV w)) (rest := rest.map (czV w)) ⟨hx, hb, hml, hown, hts⟩ (M l) ⟨⟨⟨rfl, rfl, hR.1, hR.2, pay_in hts (lw_goodIn hw.1), List.mem_cons_self⟩, hts _ hw.1, hts _ hw.2.1, hw.2.2.1, fun sig hs => ?_, va_Nw.use rfl (hF.2.2.2.1 _ hw.2.2.2.2.1)⟩, hts _ hw.2.2.2.2.2, trivial⟩ ⟨blind_X, fun U hU hW => ⟨rfl, by rw [hU]; exact hP, hF.warm hW⟩⟩ rfl (by rw [List.length_map]; exact hn) hl.1 (by simp [List.map_reverse]) (lv_room (by rw [cat_cz]; exact hsum)) hd ⟨hk0, hn0⟩) hS hA hA (fun r X' H1 locs1 hp hP1 _ _ hS1 => ?_)
  · have h2 := hw.2.2.2.1
    rw [hs] at h2
    exact (Option.some.inj h2).symm
  · have h := kk r X' hp H1 locs1 ls hP1 hS1 hl
    have e1 : (r.toList ++ rest).map (czV w) = (r.map (czV w)).toList ++ rest.map (czV w) := by cases r <;> rfl
    rw [e1] at h
    exact h
end XE
