/-! ===== the law: calls beside what is there; texts ===== -/
theorem inR_1 : inR 1 := ⟨by decide, by decide⟩
theorem L_keep {w w2 : WT} {X : XT} (hd : ∀ x, AW w2 x → ¬ AW w x) : ∀ H H1 : Heap, H.size ≤ H1.size → (∀ x : Nat, x < H.size → ¬ AW w x → H1[x]? = H[x]?) → PX w2 X H → PX w2 X H1 := fun H H1 _ ho hP => hP.kept (fun k q hq => by
  have hk : k < wN w2 := by rw [← wsX_len (w := w2) (X := X)]; exact (List.getElem?_eq_some_iff.mp hq).1
  have h9 := wsX_at (X := X) hk
  rw [hq] at h9
  refine ho q.1 ((hP k q hq).lt) (hd _ ⟨k, hk, by rw [Option.some.inj h9]⟩))
theorem L_lt {w : WT} {X : XT} : ∀ H : Heap, PX w X H → ∀ q, AW w q → q < H.size := fun H hP q ⟨k, hk, e⟩ => by
  have := (hP k _ (wsX_at (X := X) hk)).lt
  rw [e]; exact this
def LW (E : ET) (D : va_G) (ad ad2 : Nat → Nat) (cA cA2 : Nat → ClassId) : Prop := EF E (wX D ad cA) ∧ (∀ x, AW (wX D ad cA) x → EA E x) ∧ EF E (wM D ad2 cA2) ∧ (∀ x, AW (wM D ad2 cA2) x → EA E x) ∧ (∀ x, AW (wM D ad2 cA2) x → ¬ AW (wX D ad cA) x) ∧ SE E (wX D ad cA)
theorem L_sldz {E : ET} {nL pc : Nat} {lv : List (Nat × Value)} {st : List Value} {cc : ByteArray} {own : String} {ret : Option FieldType} {rm : Room} {D : va_G} {PH : Heap → Prop} (C : CX E (wI D) cc nL own ret rm) {b L : Nat} {zs : Nat → Int} (hX : LAW E b L (fun j => iI (zs j))) {z : Int} {j : Nat} (hj : z = (j : Int)) (h1 : j < L) (hL : L ≤ 2147483647) (hd : decode cc pc = .ok (.iaload, 1)) (kk : Wx E (wI D) nL PH (pc + 1) lv (.int (iI (zs j)) :: st)) : Wx E (wI D) nL PH pc lv (.int (iI z) :: .ref b :: st) := by
  subst hj
  exact L_sld C hX (by omega) (by omega) hL hd kk
theorem L_pop2 {E : ET} {w : WT} {nL pc : Nat} {lv : List (Nat × Value)} {st : List Value} {cc : ByteArray} {own : String} {ret : Option FieldType} {rm : Room} {PH : Heap → Prop} (C : CX E w cc nL own ret rm) {v : Value} (hd : decode cc pc = .ok (.pop2, 1)) (hv : v.category = 2) (kk : Wx E w nL PH (pc + 1) lv (st)) : Wx E w nL PH pc lv (v :: st) := by
  obtain ⟨p, l, e, R, s, m, args, below, meth, c, A0, k0, n0, QQ⟩ := E
  intro H locs ls hP hS hl
  exact lv_pop2_2 C.1 C.2.1 hd (by rw [czV_cat]; exact hv) (kk H locs ls hP hS hl)
theorem SE.k {E : ET} {w : WT} {a b : Nat} (h : SE E w) : SE (Ek E a b) w := by obtain ⟨p, l, e, R, s, m, args, below, meth, c, A0, k0, n0, QQ⟩ := E; exact h
section XLS
variable {E : ET} {nL pc : Nat} {lv : List (Nat × Value)} {st : List Value} {cc : ByteArray} {own : String} {ret : Option FieldType} {rm : Room} {D : va_G} {PH : Heap → Prop}
/-- a call of a method that reads the texts -/
theorem L_callS (C : CX E (wI D) cc nL own ret rm) {w : WT} (hw : wD w = D ∧ wC w = vwCl) (hF : EF E w) (HS : SE E w) (hA : ∀ x, AW w x → EA E x) {R : Heap → Prop} (hR : ∀ H H1 : Heap, H.size ≤ H1.size → (∀ x : Nat, x < H.size → ¬ AW w x → H1[x]? = H[x]?) → R H → R H1) {X : XT} {y : MethodName} {b : ByteArray} {mL q ci n nn idx fr lo : Nat} {rt : Option FieldType} {Cn : String} {T : u_T} {As rest : List Value} {post : Option Value → XT → Prop} (M : MetS w y b mL rt fr lo (.ref 0 :: As) X post) (hc : CKB own idx y b mL rt n) (hi : Cond.instanceMethod y ∈ lw_g) (hse : Cond.selects Cn y y ∈ lw_g) (hk : 0 < wN w) (hs : wS w 0 = (0, ci, nn)) (hcl : vwCl[ci]? = some (Cn, T, nn))
    (hq : wA w 0 = q) (hst : st = (As.map (czV w)).reverse ++ .ref q :: rest) (hn : As.length = n) (hsum : (rest.map fun v => v.category).sum ≤ 8) (hRm : fr + 1 ≤ rm.frames ∧ 8 + (mL + 11) + lo ≤ rm.locals) (hd : decode cc pc = .ok (.invokevirtual idx, 3)) (kk : ∀ (r : Option Value) (X' : XT), post r X' → Wx E (wI D) nL (fun H => PX w X' H ∧ R H) (pc + 3) lv ((r.map (czV w)).toList ++ rest)) : Wx E (wI D) nL (fun H => PX w X H ∧ R H) pc lv st := by
  obtain ⟨p, l, e, R9, s, m, args, below, meth, c, A0, k0, n0, QQ⟩ := E
  intro H locs ls hP hS hl
  obtain ⟨hx, hb, hml, hown, hts, hF9, hret, hlk, hRm9, hA9, hk0, hn0⟩ := id C
  have hRm9 : R9 = rm := hRm9
  subst hRm9
  subst hst
  subst hq
  have he := wsX_at (X := X) hk
  rw [ceX_obj hs] at he
  have hFs : FxW w s := hF
  have HSs : SF w A0 s s.heap := HS
  have hcl' : (wC w)[ci]? = some (Cn, T, nn) := by rw [hw.2]; exact hcl
  rw [stI]
  refine va_callX (va_runV (As := As.map (czV w)) (rest := rest) ⟨hx, hb, hml, hown, hts⟩ (M l) ⟨hc.B hts hRm, hts _ hi, hts _ hse⟩ ⟨blind_S, va_recv hFs.K0 hP.1 hcl' he, fun U hU hW => ⟨by simp [czV], by rw [hU]; exact hP.1, hFs.warm hW, by rw [hU]; exact HSs.go hW hS hA⟩⟩ rfl (by rw [List.length_map]; exact hn) hl.1 rfl (lv_room hsum) hd ⟨hk0, hn0⟩) hS hA hA (fun r X' H1 locs1 hp hP1 hz hk9 hS1 => ?_)
  have h := kk r X' hp H1 locs1 ls ⟨hP1, hR H H1 hz hk9 hP.2⟩ hS1 hl
  rw [stI] at h
  exact h
end XLS
