/-! ===== ENGINE 11: the texts that the reader names, the JDK's methods on them ===== -/
def sIdx : List Nat := [83, 95, 103, 113, 134, 136, 145]
def sTx : List String := ["size", "man", "wall", "pit", "say", "go", "neswatxubgq"]
def tzL : List Nat := [4, 3, 4, 3, 3, 2, 11]
def sByt : List (List Int32) := [[115, 105, 122, 101], [109, 97, 110], [119, 97, 108, 108], [112, 105, 116], [115, 97, 121], [103, 111], [110, 101, 115, 119, 97, 116, 120, 117, 98, 103, 113]]
def sBy (i j : Nat) : Int := ((sByt.getD i []).getD j 0).toInt
theorem sBy_bd : ∀ i, i < 7 → ∀ j, j < 11 → 0 ≤ sBy i j ∧ sBy i j ≤ 122 := by decide +kernel
theorem tzL_bd : ∀ i, i < 7 → 2 ≤ tzL.getD i 0 ∧ tzL.getD i 0 ≤ 11 := by decide +kernel
abbrev fmtD : String := "Ljava/util/function/BiFunction;"
def SF (w : WT) (A : Nat → Prop) (s : State) (H : Heap) : Prop := vk_S 7 tzL sByt (fun i => wA w (900 + i)) (fun i => wA w (910 + i)) A s H ∧ va_Z RJ0 "COMPACT_STRINGS" "Z" (.int 1) A s H ∧ (va_Z RJ3 "SIOOBE_FORMATTER" fmtD .null A s H ∨ va_Z RJ3 "SIOOBE_FORMATTER" fmtD (.ref (wA w 920)) A s H) ∧ ∀ i, i < 7 → vk_R RX6 (sIdx.getD i 0) (sTx.getD i "") (wA w (900 + i)) s
theorem SF.go {w : WT} {A B : Nat → Prop} {s U : State} {H : Heap} {locs : List Loc} (h : SF w A s s.heap) (hW : s.WarmedH U.vm) (hS : va_S A s.heap H locs) (hAB : ∀ q, B q → A q) : SF w B U H :=
  ⟨((h.1.moved hW.alike).kept hS.2.1).narrow hAB, ((h.2.1.moved hW.alike).kept hS.2.1).narrow hAB, h.2.2.1.elim (fun q => .inl (((q.moved hW.alike).kept hS.2.1).narrow hAB)) (fun q => .inr (((q.moved hW.alike).kept hS.2.1).narrow hAB)), fun i hi => (h.2.2.2 i hi).warm hW⟩
theorem SF.same {w : WT} {A : Nat → Prop} {u U : State} {H : Heap} (hv : u.vm = U.vm) (h : SF w A u H) : SF w A U H := by
  have hA : u.vm.Alike U.vm := hv ▸ Vm.Alike.refl u.vm
  exact ⟨h.1.moved hA, h.2.1.moved hA, h.2.2.1.elim (fun q => .inl (q.moved hA)) (fun q => .inr (q.moved hA)), fun i hi => vk_R.same hv.symm (h.2.2.2 i hi)⟩
def SE (E : ET) (w : WT) : Prop := match E with
  | (_, _, _, _, s, _, _, _, _, _, A0, _, _, _) => SF w A0 s s.heap
/-- a contract where the reader's texts are there -/
def MetS (w : WT) (y : MethodName) (b : ByteArray) (mL : Nat) (rt : Option FieldType) (fr lo : Nat) (av : List Value) (X : XT) (post : Option Value → XT → Prop) : Prop :=
  ∀ l : Launch, Met l y (Cond.code y b mL rt :: lw_g) { frames := fr, cells := 0, slots := 0, locals := lo } (va_Pc (av.map (czV w)) (fun U => va_P (wD w) (wC w) (wsX w X) U.heap ∧ FxW w U ∧ SF w (AW w) U U.heap)) (QX (AW w) w post) 0 0 (AW w)
theorem MetS.mk {w : WT} {y : MethodName} {b : ByteArray} {mL : Nat} {rt : Option FieldType} {fr lo : Nat} {av : List Value} {X : XT} {post : Option Value → XT → Prop} {own : String} (hy : plainName y.cls = true) (hown : y.cls = own) (hlen : (lg_sl av).length ≤ mL)
    (body : ∀ E : ET, CX E w b mL own rt { frames := fr, cells := 0, slots := 0, locals := lo } → SE E w → EQ E w post → Wx E w mL (PX w X) 0 (lv_args 0 av) []) : MetS w y b mL rt fr lo av X post := by
  intro l
  refine Met.ofW (cc := b) (maxL := mL) (ret := rt) hy rfl ?_
  intro p e s m args below meth c s₁ B hml hv
  obtain ⟨rfl, hP, hF, hSF⟩ := hv
  have hts := atoms_spec (ws := Cond.code y b mL rt :: lw_g) B.pre
  have K := body (p, l, e, { frames := fr, cells := 0, slots := 0, locals := lo }, s, m, (av.map (czV w)).toArray, below, meth, c, AW w, 0, 0, MQ below (QX (AW w) w post) (av.map (czV w)).toArray s 0 0 (AW w)) ⟨B.exec, B.bytes, hml, by rw [← hown]; exact findClass_of_methodNamed B.named, fun x hx => hts x (List.mem_cons_of_mem _ hx), hF, B.returns, B.notSynchronized, rfl, fun _ h => h, Nat.zero_le _, Nat.zero_le _⟩ hSF rfl
  rw [lg_entry_eq]
  have hl := lv_entry (av.map (czV w)) (n := mL) (by rw [lg_sl_cz]; exact hlen)
  rw [lv_args_cz] at hl
  exact K s.heap [] _ hP va_S.rf hl
theorem MetS.imp {w : WT} {y : MethodName} {b : ByteArray} {mL : Nat} {rt : Option FieldType} {fr lo : Nat} {av : List Value} {X : XT} {post post' : Option Value → XT → Prop} (h : ∀ r X, post r X → post' r X) (M : MetS w y b mL rt fr lo av X post) : MetS w y b mL rt fr lo av X post' := by
  intro l p e a1 a2 a3 s m args below hf a4 a5 a6
  obtain ⟨k, o, h1, h2, h3, ⟨⟨r, X1, c1, c2, c3⟩, c4⟩, d⟩ := M l p e a1 a2 a3 s m args below hf a4 a5 a6
  exact ⟨k, o, h1, h2, h3, ⟨⟨r, X1, c1, h r X1 c2, c3⟩, c4⟩, d⟩
theorem blind_S {w : WT} {av : List Value} {X : XT} : FrameBlind (va_Pc (av.map (czV w)) (fun U => va_P (wD w) (wC w) (wsX w X) U.heap ∧ FxW w U ∧ SF w (AW w) U U.heap)) :=
  fun a U g mk h => ⟨h.1, h.2.1, FxW.same (u := U) (U := U.calling g mk a) rfl h.2.2.1, SF.same (u := U) (U := U.calling g mk a) rfl h.2.2.2⟩
section XS
variable {E : ET} {w : WT} {Qp : Option Value → XT → Prop} {nL : Nat} {X : XT} {PH : Heap → Prop} {pc : Nat} {lv : List (Nat × Value)} {st : List Value} {cc : ByteArray} {own : String} {ret : Option FieldType} {rm : Room}
theorem x_callVT (C : CX E w cc nL own ret rm) (HS : SE E w) {y : MethodName} {b : ByteArray} {mL k ci n nn idx fr lo : Nat} {rt : Option FieldType} {Cn : String} {T : u_T} {As rest : List Value} {post : Option Value → XT → Prop} (M : MetS w y b mL rt fr lo (.ref k :: As) X post) (hw : CKB own idx y b mL rt n) (hi : Cond.instanceMethod y ∈ lw_g) (hse : Cond.selects Cn y y ∈ lw_g) (hk : k < wN w) (hs : wS w k = (0, ci, nn)) (hcl : (wC w)[ci]? = some (Cn, T, nn))
    (hst : st = As.reverse ++ .ref k :: rest) (hn : As.length = n) (hsum : (rest.map fun v => v.category).sum ≤ 8) (hR : fr + 1 ≤ rm.frames ∧ 8 + (mL + 11) + lo ≤ rm.locals) (hd : decode cc pc = .ok (.invokevirtual idx, 3)) (kk : ∀ (r : Option Value) (X' : XT), post r X' → Wx E w nL (PX w X') (pc + 3) lv (r.toList ++ rest)) : Wx E w nL (PX w X) pc lv st := by
  obtain ⟨p, l, e, R, s, m, args, below, meth, c, A0, k0, n0, QQ⟩ := E
  intro H locs ls hP hS hl
  obtain ⟨hx, hb, hml, hown, hts, hF, hret, hlk, hRm, hA, hk0, hn0⟩ := id C
  have hRm : R = rm := hRm
  subst hRm
  subst hst
  have he := wsX_at (X := X) hk
  rw [ceX_obj hs] at he
  have HS : SF w A0 s s.heap := HS
  refine va_callX (va_runV (As := As.map (czV w)) (rest := rest.map (czV w)) ⟨hx, hb, hml, hown, hts⟩ (M l) ⟨hw.B hts hR, hts _ hi, hts _ hse⟩ ⟨blind_S, va_recv hF.K0 hP hcl he, fun U hU hW => ⟨by simp [czV], by rw [hU]; exact hP, hF.warm hW, by rw [hU]; exact HS.go hW hS hA⟩⟩ rfl (by rw [List.length_map]; exact hn) hl.1 (by simp [czV, List.map_reverse]) (lv_room (by rw [cat_cz]; exact hsum)) hd ⟨hk0, hn0⟩) hS hA hA (fun r X' H1 locs1 hp hP1 _ _ hS1 => ?_)
  have h := kk r X' hp H1 locs1 ls hP1 hS1 hl
  have e1 : (r.toList ++ rest).map (czV w) = (r.map (czV w)).toList ++ rest.map (czV w) := by cases r <;> rfl
  rw [e1] at h
  exact h
/-- a text's own method -/
theorem x_callST (C : CX E w cc nL own ret rm) (HS : SE E w) {y : MethodName} {b : ByteArray} {mL i n idx fr lo : Nat} {rt : Option FieldType} {As rest : List Value} {post : Option Value → XT → Prop} (hi7 : i < 7) (M : MetS w y b mL rt fr lo (.ref (900 + i) :: As) X post) (hw : CKB own idx y b mL rt n) (hi : Cond.instanceMethod y ∈ lw_g) (hse : Cond.selects RJ0 y y ∈ lw_g)
    (hst : st = As.reverse ++ .ref (900 + i) :: rest) (hn : As.length = n) (hsum : (rest.map fun v => v.category).sum ≤ 8) (hR : fr + 1 ≤ rm.frames ∧ 8 + (mL + 11) + lo ≤ rm.locals) (hd : decode cc pc = .ok (.invokevirtual idx, 3)) (kk : ∀ (r : Option Value) (X' : XT), post r X' → Wx E w nL (PX w X') (pc + 3) lv (r.toList ++ rest)) : Wx E w nL (PX w X) pc lv st := by
  obtain ⟨p, l, e, R, s, m, args, below, meth, c, A0, k0, n0, QQ⟩ := E
  intro H locs ls hP hS hl
  obtain ⟨hx, hb, hml, hown, hts, hF, hret, hlk, hRm, hA, hk0, hn0⟩ := id C
  have hRm : R = rm := hRm
  subst hRm
  subst hst
  have HS : SF w A0 s s.heap := HS
  refine va_callX (va_runV (C := RJ0) (b := wA w (900 + i)) (As := As.map (czV w)) (rest := rest.map (czV w)) ⟨hx, hb, hml, hown, hts⟩ (M l) ⟨hw.B hts hR, hts _ hi, hts _ hse⟩ ⟨blind_S, vk_recv (i := i) HS.1 hi7 hS, fun U hU hW => ⟨by simp [czV], by rw [hU]; exact hP, hF.warm hW, by rw [hU]; exact HS.go hW hS hA⟩⟩ rfl (by rw [List.length_map]; exact hn) hl.1 (by simp [czV, List.map_reverse]) (lv_room (by rw [cat_cz]; exact hsum)) hd ⟨hk0, hn0⟩) hS hA hA (fun r X' H1 locs1 hp hP1 _ _ hS1 => ?_)
  have h := kk r X' hp H1 locs1 ls hP1 hS1 hl
  have e1 : (r.toList ++ rest).map (czV w) = (r.map (czV w)).toList ++ rest.map (czV w) := by cases r <;> rfl
  rw [e1] at h
  exact h
theorem x_callTT (C : CX E w cc nL own ret rm) (HS : SE E w) {y : MethodName} {b : ByteArray} {mL n idx fr lo : Nat} {rt : Option FieldType} {As rest : List Value} {post : Option Value → XT → Prop} (M : MetS w y b mL rt fr lo As X post) (hw : CKB own idx y b mL rt n) (hi : Cond.static y ∈ lw_g)
    (hst : st = As.reverse ++ rest) (hn : As.length = n) (hsum : (rest.map fun v => v.category).sum ≤ 8) (hR : fr + 1 ≤ rm.frames ∧ 8 + (mL + 11) + lo ≤ rm.locals) (hd : decode cc pc = .ok (.invokestatic idx, 3)) (kk : ∀ (r : Option Value) (X' : XT), post r X' → Wx E w nL (PX w X') (pc + 3) lv (r.toList ++ rest)) : Wx E w nL (PX w X) pc lv st := by
  obtain ⟨p, l, e, R, s, m, args, below, meth, c, A0, k0, n0, QQ⟩ := E
  intro H locs ls hP hS hl
  obtain ⟨hx, hb, hml, hown, hts, hF, hret, hlk, hRm, hA, hk0, hn0⟩ := id C
  have hRm : R = rm := hRm
  subst hRm
  subst hst
  have HS : SF w A0 s s.heap := HS
  refine va_callX (va_runS (As := As.map (czV w)) (rest := rest.map (czV w)) ⟨hx, hb, hml, hown, hts⟩ (M l) ⟨hw.B hts hR, hts _ hi⟩ ⟨blind_S, fun U hU hW => ⟨rfl, by rw [hU]; exact hP, hF.warm hW, by rw [hU]; exact HS.go hW hS hA⟩⟩ rfl (by rw [List.length_map]; exact hn) hl.1 (by simp [List.map_reverse]) (lv_room (by rw [cat_cz]; exact hsum)) hd ⟨hk0, hn0⟩) hS hA hA (fun r X' H1 locs1 hp hP1 _ _ hS1 => ?_)
  have h := kk r X' hp H1 locs1 ls hP1 hS1 hl
  have e1 : (r.toList ++ rest).map (czV w) = (r.map (czV w)).toList ++ rest.map (czV w) := by cases r <;> rfl
  rw [e1] at h
  exact h
theorem x_ldcS (C : CX E w cc nL RX6 ret rm) (HS : SE E w) {i idx : Nat} (hi : i < 7) (hx : sIdx.getD i 0 = idx) (hd : decode cc pc = .ok (.ldc idx, 2)) (kk : Wx E w nL PH (pc + 2) lv (.ref (900 + i) :: st)) : Wx E w nL PH pc lv st := by
  obtain ⟨p, l, e, R, s, m, args, below, meth, c, A0, k0, n0, QQ⟩ := E
  intro H locs ls hP hS hl
  have HS : SF w A0 s s.heap := HS
  have hR := HS.2.2.2 i hi
  rw [hx] at hR
  exact va_ldcS C.1 C.2.1 C.2.2.2.1 hR hd (kk H locs ls hP hS hl)
theorem x_strV (C : CX E w cc nL own ret rm) (HS : SE E w) {i idx : Nat} (hi : i < 7) (hlk : Cond.fieldLink own idx RJ0 "value" "[B" ∈ lw_g) (hd : decode cc pc = .ok (.getfield idx, 3)) (kk : Wx E w nL PH (pc + 3) lv (.ref (910 + i) :: st)) : Wx E w nL PH pc lv (.ref (900 + i) :: st) := by
  obtain ⟨p, l, e, R, s, m, args, below, meth, c, A0, k0, n0, QQ⟩ := E
  intro H locs ls hP hS hl
  have HS : SF w A0 s s.heap := HS
  exact vk_getf C.1 C.2.1 (HS.1.1 i hi).2.2.1 hS C.2.2.2.1 (C.2.2.2.2.1 _ hlk) (fun x h => h) hd (kk H locs ls hP hS hl)
theorem x_strC (C : CX E w cc nL own ret rm) (HS : SE E w) {i idx : Nat} (hi : i < 7) (hlk : Cond.fieldLink own idx RJ0 "coder" "B" ∈ lw_g) (hd : decode cc pc = .ok (.getfield idx, 3)) (kk : Wx E w nL PH (pc + 3) lv (.int (iI 0) :: st)) : Wx E w nL PH pc lv (.ref (900 + i) :: st) := by
  obtain ⟨p, l, e, R, s, m, args, below, meth, c, A0, k0, n0, QQ⟩ := E
  intro H locs ls hP hS hl
  have HS : SF w A0 s s.heap := HS
  exact vk_getf C.1 C.2.1 (HS.1.1 i hi).2.1 hS C.2.2.2.1 (C.2.2.2.2.1 _ hlk) (fun x h => h) hd (kk H locs ls hP hS hl)
theorem x_strN (C : CX E w cc nL own ret rm) (HS : SE E w) {i : Nat} (hi : i < 7) (hd : decode cc pc = .ok (.arraylength, 1)) (kk : Wx E w nL PH (pc + 1) lv (.int (iI ((tzL.getD i 0 : Nat) : Int)) :: st)) : Wx E w nL PH pc lv (.ref (910 + i) :: st) := by
  obtain ⟨p, l, e, R, s, m, args, below, meth, c, A0, k0, n0, QQ⟩ := E
  intro H locs ls hP hS hl
  have HS : SF w A0 s s.heap := HS
  exact va_tlen C.1 C.2.1 (HS.1.1 i hi).2.2.2 hS rfl hd (kk H locs ls hP hS hl)
theorem x_strB (C : CX E w cc nL own ret rm) (HS : SE E w) {i : Nat} {z : Int} (hi : i < 7) (h0 : 0 ≤ z) (h1 : z < (tzL.getD i 0 : Nat)) (hd : decode cc pc = .ok (.baload, 1)) (kk : Wx E w nL PH (pc + 1) lv (.int (iI (sBy i z.toNat)) :: st)) : Wx E w nL PH pc lv (.int (iI z) :: .ref (910 + i) :: st) := by
  obtain ⟨p, l, e, R, s, m, args, below, meth, c, A0, k0, n0, QQ⟩ := E
  intro H locs ls hP hS hl
  have HS : SF w A0 s s.heap := HS
  have hb := tzL_bd i hi
  refine va_tb C.1 C.2.1 (HS.1.1 i hi).2.2.2 hS (iI_in h0 h1 (by omega)) (v := .int (iI (sBy i z.toNat))) ?_ hd (kk H locs ls hP hS hl)
  rw [iI_nat ⟨by omega, by omega⟩]
  show Value.int _ = Value.int (iI _)
  rw [show iI (sBy i z.toNat) = (sByt.getD i []).getD z.toNat 0 from iI_of _]
theorem x_getsC (C : CX E w cc nL own ret rm) (HS : SE E w) {idx : Nat} (hlk : Cond.fieldLink own idx RJ0 "COMPACT_STRINGS" "Z" ∈ lw_g) (hd : decode cc pc = .ok (.getstatic idx, 3)) (kk : Wx E w nL PH (pc + 3) lv (.int (iI 1) :: st)) : Wx E w nL PH pc lv st := by
  obtain ⟨p, l, e, R, s, m, args, below, meth, c, A0, k0, n0, QQ⟩ := E
  intro H locs ls hP hS hl
  have HS : SF w A0 s s.heap := HS
  exact va_gets C.1 C.2.1 HS.2.1 hS C.2.2.2.1 (C.2.2.2.2.1 _ hlk) (fun x h => h) hd (kk H locs ls hP hS hl)
theorem x_getsF (C : CX E w cc nL own ret rm) (HS : SE E w) {idx : Nat} (hlk : Cond.fieldLink own idx RJ3 "SIOOBE_FORMATTER" fmtD ∈ lw_g) (hd : decode cc pc = .ok (.getstatic idx, 3)) (k1 : Wx E w nL PH (pc + 3) lv (.null :: st)) (k2 : Wx E w nL PH (pc + 3) lv (.ref 920 :: st)) : Wx E w nL PH pc lv st := by
  obtain ⟨p, l, e, R, s, m, args, below, meth, c, A0, k0, n0, QQ⟩ := E
  intro H locs ls hP hS hl
  have HS : SF w A0 s s.heap := HS
  rcases HS.2.2.1 with h | h
  · exact va_gets C.1 C.2.1 h hS C.2.2.2.1 (C.2.2.2.2.1 _ hlk) (fun x h => h) hd (k1 H locs ls hP hS hl)
  · exact va_gets C.1 C.2.1 h hS C.2.2.2.1 (C.2.2.2.2.1 _ hlk) (fun x h => h) hd (k2 H locs ls hP hS hl)
theorem x_nret {ty : FieldType} (C : CX E w cc nL own (some ty) rm) (hE : EQ E w Qp) {v : Int} (hn : narrow ty (.int (iI v)) = .int (iI v)) (hd : decode cc pc = .ok (.ireturn, 1)) (hq : Qp (some (.int (iI v))) X) : Wx E w nL (PX w X) pc lv [.int (iI v)] := by
  obtain ⟨p, l, e, R, s, m, args, below, meth, c, A0, k0, n0, QQ⟩ := E
  intro H locs ls hP hS hl
  have hE : QQ = _ := hE
  rw [hE]
  exact W.zret C.1 C.2.1 C.2.2.2.2.2.2.1 hn (fun t ht hW => ⟨⟨some (.int (iI v)), X, rfl, hq, by rw [ht]; exact hP⟩, hS.F ht⟩) hS.2.2 hd C.2.2.2.2.2.2.2.1
end XS
theorem nrr_b {v : Int} (h0 : -128 ≤ v) (h1 : v ≤ 127) : narrow .byte (.int (iI v)) = .int (iI v) := by
  have t : ∀ k : Nat, k < 256 → narrow .byte (.int (iI ((k : Int) - 128))) = .int (iI ((k : Int) - 128)) := by decide +kernel
  have e : v = ((v + 128).toNat : Int) - 128 := by omega
  rw [e]
  exact t _ (by omega)
theorem nrr_c {v : Int} (h0 : 0 ≤ v) (h1 : v ≤ 255) : narrow .char (.int (iI v)) = .int (iI v) := by
  have t : ∀ k : Nat, k < 256 → narrow .char (.int (iI (k : Int))) = .int (iI (k : Int)) := by decide +kernel
  have e : v = ((v.toNat : Nat) : Int) := by omega
  rw [e]
  exact t _ (by omega)
theorem and255 {v z : Int} (h0 : 0 ≤ v) (h1 : v ≤ 255) (rz : inR z) (e : iI z = iI v &&& iI 255) : z = v := by
  have t : ∀ k : Nat, k < 256 → iI (k : Int) &&& iI 255 = iI (k : Int) := by decide +kernel
  have ev : v = ((v.toNat : Nat) : Int) := by omega
  have h := t v.toNat (by omega)
  rw [← ev] at h
  rw [h] at e
  exact (iI_eq rz ⟨by omega, by omega⟩).mp e
theorem i2c_id {v z : Int} (h0 : 0 ≤ v) (h1 : v ≤ 255) (rz : inR z) (e : iI z = ((iI v).toUInt32 % 65536).toInt32) : z = v := by
  have t : ∀ k : Nat, k < 256 → ((iI (k : Int)).toUInt32 % 65536).toInt32 = iI (k : Int) := by decide +kernel
  have ev : v = ((v.toNat : Nat) : Int) := by omega
  have h := t v.toNat (by omega)
  rw [← ev] at h
  rw [h] at e
  exact (iI_eq rz ⟨by omega, by omega⟩).mp e
theorem i2b_id {v z : Int} (h0 : 0 ≤ v) (h1 : v ≤ 127) (rz : inR z) (e : iI z = (iI v).toInt8.toInt32) : z = v := by
  have t : ∀ k : Nat, k < 128 → (iI (k : Int)).toInt8.toInt32 = iI (k : Int) := by decide +kernel
  have ev : v = ((v.toNat : Nat) : Int) := by omega
  have h := t v.toNat (by omega)
  rw [← ev] at h
  rw [h] at e
  exact (iI_eq rz ⟨by omega, by omega⟩).mp e
theorem ishr0 {v z : Int} (h0 : 0 ≤ v) (h1 : v ≤ 255) (rz : inR z) (e : iI z = iI v >>> (iI 0 &&& 31)) : z = v := by
  have t : ∀ k : Nat, k < 256 → iI (k : Int) >>> (iI 0 &&& 31) = iI (k : Int) := by decide +kernel
  have ev : v = ((v.toNat : Nat) : Int) := by omega
  have h := t v.toNat (by omega)
  rw [← ev] at h
  rw [h] at e
  exact (iI_eq rz ⟨by omega, by omega⟩).mp e
theorem i2b_c {c z : Int} (h0 : 0 ≤ c) (h1 : c ≤ 255) (rz : inR z) (e : iI z = (iI c).toInt8.toInt32) : z = if c ≤ 127 then c else c - 256 := by
  have t : ∀ k : Nat, k < 256 → (iI (k : Int)).toInt8.toInt32 = iI (if (k : Int) ≤ 127 then (k : Int) else (k : Int) - 256) := by decide +kernel
  have ev : c = ((c.toNat : Nat) : Int) := by omega
  have h := t c.toNat (by omega)
  rw [← ev] at h
  rw [h] at e
  exact (iI_eq rz ⟨by split <;> omega, by split <;> omega⟩).mp e
