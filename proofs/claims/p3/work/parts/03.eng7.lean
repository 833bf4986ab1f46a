/-! ===== ENGINE 9: worlds that grow (constructors) ===== -/
def eK (E : ET) : Nat := match E with | (_, _, _, _, _, _, _, _, _, _, _, k, _, _) => k
def eN (E : ET) : Nat := match E with | (_, _, _, _, _, _, _, _, _, _, _, _, n, _) => n
def Ek (E : ET) (k n : Nat) : ET := match E with | (p, l, e, R, s, m, args, below, meth, c, A0, _, _, QQ) => (p, l, e, R, s, m, args, below, meth, c, A0, k, n, QQ)
/-- a world with one cell more, at q, of array class c -/
def wup (w : WT) (q : Nat) (c : ClassId) : WT := (wD w, wC w, wN w + 1, wS w, wF w, (fun k => cond (Nat.beq k (wN w)) q (wA w k)), (fun k => cond (Nat.beq k (wN w)) c (wY w k)), wT w)
/-- a cell as it is made: all 0, all null -/
def dz (k : Nat) (X : XT) : XT := (fun a b => cond (Nat.beq a k) 0 (X.1 a b), fun a b => cond (Nat.beq a k) 0 (X.2.1 a b), fun a b => cond (Nat.beq a k) none (X.2.2 a b))
/-- every cell's references lie in the world -/
def rbX (w : WT) (X : XT) : Bool := (List.range (wN w)).all (fun k => cond (Nat.beq (wS w k).1 1 || Nat.beq (wS w k).1 2) true ((List.range (wS w k).2.2).all (fun i => match X.2.2 k i with | none => true | some j => Nat.blt j (wN w))))
def rokV (N : Nat) (v : Value) : Bool := match v with | .ref k => Nat.blt k N | _ => true
theorem czV_up {w : WT} {q : Nat} {c : ClassId} {v : Value} (h : rokV (wN w) v = true) : czV (wup w q c) v = czV w v := by
  cases v with
  | ref k =>
    have hk : k < wN w := Nat.lt_of_lt_of_eq (Nat.le_of_ble_eq_true h) rfl
    show Value.ref (cond (Nat.beq k (wN w)) q (wA w k)) = .ref (wA w k)
    rw [beq_ne (Nat.ne_of_lt hk)]; rfl
  | _ => rfl
theorem lvC_up {w : WT} {q : Nat} {c : ClassId} : ∀ {l : List (Nat × Value)}, l.all (fun x => rokV (wN w) x.2) = true → lvC (wup w q c) l = lvC w l
  | [], _ => rfl
  | (i, v) :: t, h => by
    simp only [List.all_cons, Bool.and_eq_true] at h
    show (i, czV (wup w q c) v) :: lvC (wup w q c) t = (i, czV w v) :: lvC w t
    rw [czV_up h.1, lvC_up h.2]
theorem st_up {w : WT} {q : Nat} {c : ClassId} : ∀ {l : List Value}, l.all (rokV (wN w)) = true → l.map (czV (wup w q c)) = l.map (czV w)
  | [], _ => rfl
  | v :: t, h => by
    simp only [List.all_cons, Bool.and_eq_true] at h
    show czV (wup w q c) v :: t.map _ = czV w v :: t.map _
    rw [czV_up h.1, st_up h.2]
theorem ceX_up {w : WT} {X X' : XT} {q : Nat} {c : ClassId} {k : Nat} (hk : k < wN w) (hb : rbX w X = true) (h1 : ∀ i, X'.1 k i = X.1 k i) (h2 : ∀ i, X'.2.1 k i = X.2.1 k i) (h3 : ∀ i, X'.2.2 k i = X.2.2 k i) : ceX (wup w q c) X' k = ceX w X k := by
  have hy : wY (wup w q c) k = wY w k := by
    show cond (Nat.beq k (wN w)) c (wY w k) = wY w k
    rw [beq_ne (Nat.ne_of_lt hk)]; rfl
  have hrb : ∀ i, i < (wS w k).2.2 → ¬ (wS w k).1 = 1 → ¬ (wS w k).1 = 2 → (X.2.2 k i).map (wA (wup w q c)) = (X.2.2 k i).map (wA w) := by
    intro i hi hk1 hk2
    have hb1 := List.all_eq_true.mp hb k (List.mem_range.mpr hk)
    have hc : (Nat.beq (wS w k).1 1 || Nat.beq (wS w k).1 2) = false := by rw [beq_ne hk1, beq_ne hk2]; rfl
    rw [hc] at hb1
    have hb2 := List.all_eq_true.mp hb1 i (List.mem_range.mpr hi)
    cases hx : X.2.2 k i with
    | none => rfl
    | some j =>
      rw [hx] at hb2
      have hj : j < wN w := Nat.le_of_ble_eq_true hb2
      show some (cond (Nat.beq j (wN w)) q (wA w j)) = some (wA w j)
      rw [beq_ne (Nat.ne_of_lt hj)]; rfl
  have hf : (wS w k).1 = 0 → ∀ i, i < (wS w k).2.2 → fvX (wup w q c) X' k i = fvX w X k i := by
    intro h0 i hi
    show fvK (wF w (wS w k).2.1 i) (X'.1 k i) (X'.2.1 k i) (va_rf ((X'.2.2 k i).map (wA (wup w q c)))) = _
    rw [h1, h2, h3, hrb i hi (by rw [h0]; decide) (by rw [h0]; decide)]
    rfl
  show ceK (wS w k).1 (wS w k).2.1 (wS w k).2.2 (wY (wup w q c) k) ((List.range (wS w k).2.2).map (fvX (wup w q c) X' k)) (fun i => iI (X'.1 k i)) (fun i => X'.2.1 k i) (fun i => cond (Nat.blt i (wS w k).2.2) ((X'.2.2 k i).map (wA (wup w q c))) none) = _
  rw [hy]
  simp only [h1, h2, h3]
  unfold ceX
  match hkd : (wS w k).1 with
  | 0 =>
    have e1 : (List.range (wS w k).2.2).map (fvX (wup w q c) X' k) = (List.range (wS w k).2.2).map (fvX w X k) := List.map_congr_left (fun i hi => hf hkd i (List.mem_range.mp hi))
    rw [e1]; rfl
  | 1 => rfl
  | 2 => rfl
  | kd + 3 =>
    have e1 : (fun i => cond (Nat.blt i (wS w k).2.2) ((X.2.2 k i).map (wA (wup w q c))) none) = (fun i => cond (Nat.blt i (wS w k).2.2) ((X.2.2 k i).map (wA w)) none) := by
      funext i
      cases hb : Nat.blt i (wS w k).2.2 with
      | false => rfl
      | true => exact hrb i (Nat.le_of_ble_eq_true hb) (by rw [hkd]; omega) (by rw [hkd]; omega)
    rw [e1]; rfl
theorem PX_push {w : WT} {X X' : XT} {q : Nat} {c : ClassId} {e : va_E} {H1 : Heap} (hP : va_P (wD w) (wC w) (wsX w X ++ [(q, e)]) H1) (hb : rbX w X = true) (he : ceX (wup w q c) X' (wN w) = e) (ho : ∀ k, k < wN w → (∀ i, X'.1 k i = X.1 k i) ∧ (∀ i, X'.2.1 k i = X.2.1 k i) ∧ ∀ i, X'.2.2 k i = X.2.2 k i) : PX (wup w q c) X' H1 := by
  have e1 : wsX (wup w q c) X' = wsX w X ++ [(q, e)] := by
    show (List.range (wN w + 1)).map (fun k => (wA (wup w q c) k, ceX (wup w q c) X' k)) = _
    rw [List.range_succ, List.map_append]
    congr 1
    · exact List.map_congr_left (fun k hk => by
        have hk := List.mem_range.mp hk
        have h := ho k hk
        rw [ceX_up hk hb h.1 h.2.1 h.2.2]
        show (cond (Nat.beq k (wN w)) q (wA w k), _) = _
        rw [beq_ne (Nat.ne_of_lt hk)]; rfl)
    · show [(cond (Nat.beq (wN w) (wN w)) q (wA w (wN w)), ceX (wup w q c) X' (wN w))] = _
      rw [beq_self, he]; rfl
  show va_P (wD w) (wC w) (wsX (wup w q c) X') H1
  rw [e1]; exact hP
theorem FxW_push {w : WT} {s : State} {X : XT} {q : Nat} {c : ClassId} {e : va_E} {A0 : Nat → Prop} (hF : FxW w s) (hD : va_D A0 (wsX w X ++ [(q, e)])) (hn : (wS w (wN w)).1 ≠ 0 → ArrOfT s c (wT w (wN w)) ∧ va_RA s c (wT w (wN w))) : FxW (wup w q c) s := by
  have hq : ∀ k, k < wN w → wA w k ≠ q := fun k hk h => by
    have h1 : (wsX w X ++ [(q, e)])[k]? = some (wA w k, ceX w X k) := by rw [List.getElem?_append_left (by rw [wsX_len]; exact hk)]; exact wsX_at hk
    have h2 : (wsX w X ++ [(q, e)])[wN w]? = some (q, e) := by rw [List.getElem?_append_right (by rw [wsX_len]; exact Nat.le_refl _), wsX_len, Nat.sub_self]; rfl
    have h3 := hD.1 k (wN w) _ _ h1 h2 h
    omega
  have a1 : ∀ k, k < wN w → wA (wup w q c) k = wA w k := fun k hk => by
    show cond (Nat.beq k (wN w)) q (wA w k) = wA w k
    rw [beq_ne (Nat.ne_of_lt hk)]; rfl
  have a2 : wA (wup w q c) (wN w) = q := by
    show cond (Nat.beq (wN w) (wN w)) q _ = q
    rw [beq_self]; rfl
  have a3 : ∀ k, k < wN w → wY (wup w q c) k = wY w k := fun k hk => by
    show cond (Nat.beq k (wN w)) c (wY w k) = wY w k
    rw [beq_ne (Nat.ne_of_lt hk)]; rfl
  have a4 : wY (wup w q c) (wN w) = c := by
    show cond (Nat.beq (wN w) (wN w)) c _ = c
    rw [beq_self]; rfl
  refine ⟨hF.1, fun k hk hs => ?_, fun i j hi hj hij => ?_, hF.2.2.2⟩
  · have hk : k < wN w + 1 := hk
    by_cases h : k = wN w
    · subst h
      rw [a4]
      exact hn hs
    · rw [a3 k (by omega)]
      exact hF.2.1 k (by omega) hs
  · have hi : i < wN w + 1 := hi
    have hj : j < wN w + 1 := hj
    by_cases h1 : i = wN w <;> by_cases h2 : j = wN w
    · omega
    · rw [h1, a2, a1 j (by omega)] at hij
      exact absurd hij.symm (hq j (by omega))
    · rw [h2, a2, a1 i (by omega)] at hij
      exact absurd hij (hq i (by omega))
    · rw [a1 i (by omega), a1 j (by omega)] at hij
      exact hF.2.2.1 i j (by omega) (by omega) hij
theorem AW_push {w : WT} {q : Nat} {c : ClassId} {A0 : Nat → Prop} (hA : ∀ x, AW w x → A0 x) (hq : A0 q) : ∀ x, AW (wup w q c) x → A0 x := by
  rintro x ⟨k, hk, rfl⟩
  have hk : k < wN w + 1 := hk
  show A0 (cond (Nat.beq k (wN w)) q (wA w k))
  by_cases h : k = wN w
  · rw [h, beq_self]; exact hq
  · rw [beq_ne h]; exact hA _ ⟨k, by omega, rfl⟩
theorem last_A {A0 : Nat → Prop} {ws : va_W} {q : Nat} {e : va_E} (hD : va_D A0 (ws ++ [(q, e)])) : A0 q :=
  hD.2 ws.length (q, e) (by rw [List.getElem?_append_right (Nat.le_refl _), Nat.sub_self]; rfl)
theorem dz_o {k j : Nat} {X : XT} (h : j ≠ k) : (∀ i, (dz k X).1 j i = X.1 j i) ∧ (∀ i, (dz k X).2.1 j i = X.2.1 j i) ∧ ∀ i, (dz k X).2.2 j i = X.2.2 j i := by
  refine ⟨fun i => ?_, fun i => ?_, fun i => ?_⟩
  · show cond (Nat.beq j k) 0 (X.1 j i) = _
    rw [beq_ne h]; rfl
  · show cond (Nat.beq j k) 0 (X.2.1 j i) = _
    rw [beq_ne h]; rfl
  · show cond (Nat.beq j k) none (X.2.2 j i) = _
    rw [beq_ne h]; rfl
theorem dz_s {k : Nat} {X : XT} : (∀ i, (dz k X).1 k i = 0) ∧ (∀ i, (dz k X).2.1 k i = 0) ∧ ∀ i, (dz k X).2.2 k i = none := by
  refine ⟨fun i => ?_, fun i => ?_, fun i => ?_⟩
  · show cond (Nat.beq k k) 0 (X.1 k i) = _
    rw [beq_self]; rfl
  · show cond (Nat.beq k k) 0 (X.2.1 k i) = _
    rw [beq_self]; rfl
  · show cond (Nat.beq k k) none (X.2.2 k i) = _
    rw [beq_self]; rfl
/-- what a run may write takes in all that is new -/
def GA (E : ET) : Prop := match E with | (_, _, _, _, s, _, _, _, _, _, A0, _, _, _) => ∀ q : Nat, s.heap.size ≤ q → A0 q
def INIT (E : ET) : Prop := match E with | (_, _, _, _, _, _, _, _, meth, _, _, _, _, _) => meth.name = "<init>"
section XG
variable {E : ET} {w : WT} {nL : Nat} {X : XT} {PH : Heap → Prop} {pc : Nat} {lv : List (Nat × Value)} {st : List Value} {cc : ByteArray} {own : String} {ret : Option FieldType} {rm : Room}
theorem GA.k {a b : Nat} (h : GA E) : GA (Ek E a b) := by obtain ⟨p, l, e, R, s, m, args, below, meth, c, A0, k0, n0, QQ⟩ := E; exact h
theorem INIT.k {a b : Nat} (h : INIT E) : INIT (Ek E a b) := by obtain ⟨p, l, e, R, s, m, args, below, meth, c, A0, k0, n0, QQ⟩ := E; exact h
theorem x_new (C : CX E w cc nL own ret rm) (hG : GA E) {idx ci nn a b : Nat} {Cn : String} {T : u_T} {ty0 : Nat → FieldType} (hin : ∀ x ∈ u_ws Cn T nn, x ∈ lw_g) (hty : ∀ k, k < nn → parseFieldDescriptor (T k).2.2.1 = some (ty0 k)) (hcl : (wC w)[ci]? = some (Cn, T, nn)) (hsh : wS w (wN w) = (0, ci, nn)) (h1 : Cond.classLink own idx Cn ∈ lw_g) (h2 : Cond.instantiable Cn nn ∈ lw_g) (h3 : Cond.initialized Cn ∈ lw_g)
    (hdef : ∀ j, j < nn → defaultValue (ty0 j) = fvK (wF w ci j) 0 0 .null) (hb : rbX w X = true) (hlv : lv.all (fun x => rokV (wN w) x.2) = true) (hst : st.all (rokV (wN w)) = true) (ha : eK E + 1 = a) (hbb : eN E + nn = b) (hra : a ≤ rm.cells) (hrb : b ≤ rm.slots) (hd : decode cc pc = .ok (.new idx, 3))
    (kk : ∀ (q : Nat) (c : ClassId), CX (Ek E a b) (wup w q c) cc nL own ret rm → Wx (Ek E a b) (wup w q c) nL (PX (wup w q c) (dz (wN w) X)) (pc + 3) lv (.ref (wN w) :: st)) : Wx E w nL (PX w X) pc lv st := by
  obtain ⟨p, l, e, R, s, m, args, below, meth, c, A0, k0, n0, QQ⟩ := E
  intro H locs ls hP hS hl
  obtain ⟨hx, hbc, hml, hown, hts, hF, hret, hlk, hRm, hA, hk0, hn0⟩ := id C
  have hRm : R = rm := hRm
  subst hRm
  have ha : k0 + 1 = a := ha
  have hbb : n0 + nn = b := hbb
  subst ha
  subst hbb
  refine va_new hx hbc hts hin ty0 hty hown (hts _ h1) (hts _ h2) (hts _ h3) hF.K0 hP (hF.DA hA X) hS hG hcl (fs := (List.range nn).map (fun j => fvK (wF w ci j) 0 0 .null)) (fun j hj => ?_) hra hrb hd (fun q H1 q1 q2 q3 => ?_)
  · rw [hdef j hj]
    show _ = ((List.range nn).map _).getD j Value.null
    rw [List.getD_eq_getElem?_getD, rg_at _ hj]
    rfl
  · have hF' := FxW_push (c := 0) hF q2 (fun h => by rw [hsh] at h; exact absurd rfl h)
    have hP1 : PX (wup w q 0) (dz (wN w) X) H1 := by
      refine PX_push q1 hb ?_ (fun k hk => dz_o (Nat.ne_of_lt hk))
      show ceX (wup w q 0) (dz (wN w) X) (wN w) = .inr (ci, _)
      rw [ceX_obj (w := wup w q 0) hsh]
      congr 2
      apply List.map_congr_left
      intro j hj
      show fvK (wF w (wS w (wN w)).2.1 j) _ _ _ = _
      rw [hsh, dz_s.1, dz_s.2.1, dz_s.2.2]
      rfl
    have hC : CX (p, l, e, R, s, m, args, below, meth, c, A0, k0 + 1, n0 + nn, QQ) (wup w q 0) cc nL own ret R := ⟨hx, hbc, hml, hown, hts, hF', hret, hlk, rfl, AW_push hA (last_A q2), hra, hrb⟩
    have K := kk q 0 hC H1 locs ls hP1 q3 (by rw [lvC_up hlv]; exact hl)
    have e2 : ((.ref (wN w) :: st : List Value).map (czV (wup w q 0))) = .ref q :: st.map (czV w) := by
      show czV (wup w q 0) (.ref (wN w)) :: st.map _ = _
      rw [st_up hst]
      show Value.ref (cond (Nat.beq (wN w) (wN w)) q _) :: _ = _
      rw [beq_self]; rfl
    rw [e2] at K
    exact K
/-- new T[n], T not a reference -/
theorem x_newarr (C : CX E w cc nL own ret rm) (hG : GA E) {at0 : ArrayType} {ty : FieldType} {kd q0 nn a b : Nat} {a0 : vp_A} (hta : newarray.typeOf at0 = ty) (harr : Cond.arrayClass ty ∈ lw_g) (ha0 : ∀ cA : ClassId, vp_cell cA a0 = arrV cA nn (fun _ => defaultValue ty)) (hce : ∀ cA : ClassId, ceK kd q0 nn cA ((List.range nn).map (fvX w (dz (wN w) X) (wN w))) (fun _ => iI 0) (fun _ => 0) (fun i => cond (Nat.blt i nn) none none) = .inl (cA, a0)) (hsh : wS w (wN w) = (kd, q0, nn)) (hkd : kd ≠ 0) (htw : wT w (wN w) = ty)
    (hnb : nn * componentBytes ty ≤ 536870912) (hn31 : nn ≤ 2147483647) (hb : rbX w X = true) (hlv : lv.all (fun x => rokV (wN w) x.2) = true) (hst : st.all (rokV (wN w)) = true) (ha : eK E + 1 = a) (hbb : eN E + nn = b) (hra : a ≤ rm.cells) (hrb : b ≤ rm.slots) (hd : decode cc pc = .ok (.newarray at0, 2))
    (kk : ∀ (q : Nat) (c : ClassId), CX (Ek E a b) (wup w q c) cc nL own ret rm → Wx (Ek E a b) (wup w q c) nL (PX (wup w q c) (dz (wN w) X)) (pc + 2) lv (.ref (wN w) :: st)) : Wx E w nL (PX w X) pc lv (.int (iI (nn : Int)) :: st) := by
  obtain ⟨p, l, e, R, s, m, args, below, meth, c, A0, k0, n0, QQ⟩ := E
  intro H locs ls hP hS hl
  obtain ⟨hx, hbc, hml, hown, hts, hF, hret, hlk, hRm, hA, hk0, hn0⟩ := id C
  have hRm : R = rm := hRm
  subst hRm
  have ha : k0 + 1 = a := ha
  have hbb : n0 + nn = b := hbb
  subst ha
  subst hbb
  have rn : inR (nn : Int) := ⟨by omega, by omega⟩
  refine va_newa (N' := nn) hx hbc (by rw [hta]; exact hts _ harr) hta hF.K0 hP (hF.DA hA X) hS hG ha0 (nn_iI (by omega) (by omega)) (by rw [iI_nat rn]; rfl) hnb hra hrb hd (fun q cA H1 qK q1 q2 q3 => ?_)
  have hAr := qK.2 0 (cA, ty) rfl
  have hF' := FxW_push (c := cA) hF q2 (fun _ => by rw [htw]; exact hAr)
  have hP1 : PX (wup w q cA) (dz (wN w) X) H1 := by
    refine PX_push q1 hb ?_ (fun k hk => dz_o (Nat.ne_of_lt hk))
    rw [← hce cA]
    have hw : wS (wup w q cA) (wN w) = (kd, q0, nn) := hsh
    have hy : wY (wup w q cA) (wN w) = cA := by
      show cond (Nat.beq (wN w) (wN w)) cA _ = cA
      rw [beq_self]; rfl
    unfold ceX
    rw [hw, hy]
    simp only [dz_s.1, dz_s.2.1, dz_s.2.2]
    cases kd with
    | zero => exact absurd rfl hkd
    | succ kd => match kd with
      | 0 => rfl
      | 1 => rfl
      | _ + 2 => rfl
  have hC : CX (p, l, e, R, s, m, args, below, meth, c, A0, k0 + 1, n0 + nn, QQ) (wup w q cA) cc nL own ret R := ⟨hx, hbc, hml, hown, hts, hF', hret, hlk, rfl, AW_push hA (last_A q2), hra, hrb⟩
  have K := kk q cA hC H1 locs ls hP1 q3 (by rw [lvC_up hlv]; exact hl)
  have e2 : ((.ref (wN w) :: st : List Value).map (czV (wup w q cA))) = .ref q :: st.map (czV w) := by
    show czV (wup w q cA) (.ref (wN w)) :: st.map _ = _
    rw [st_up hst]
    show Value.ref (cond (Nat.beq (wN w) (wN w)) q _) :: _ = _
    rw [beq_self]; rfl
  rw [e2] at K
  exact K
/-- new C[n] -/
theorem x_anew (C : CX E w cc nL own ret rm) (hG : GA E) {idx q0 nn a b : Nat} {Cn : String} (h1 : Cond.classLink own idx Cn ∈ lw_g) (h2 : Cn ∈ lw_oc) (hsh : wS w (wN w) = (3, q0, nn)) (htw : wT w (wN w) = .object Cn)
    (hnb : nn * 4 ≤ 536870912) (hb : rbX w X = true) (hlv : lv.all (fun x => rokV (wN w) x.2) = true) (hst : st.all (rokV (wN w)) = true) (ha : eK E + 1 = a) (hbb : eN E + nn = b) (hra : a ≤ rm.cells) (hrb : b ≤ rm.slots) (hd : decode cc pc = .ok (.anewarray idx, 3))
    (kk : ∀ (q : Nat) (c : ClassId), CX (Ek E a b) (wup w q c) cc nL own ret rm → Wx (Ek E a b) (wup w q c) nL (PX (wup w q c) (dz (wN w) X)) (pc + 3) lv (.ref (wN w) :: st)) : Wx E w nL (PX w X) pc lv (.int (iI (nn : Int)) :: st) := by
  obtain ⟨p, l, e, R, s, m, args, below, meth, c, A0, k0, n0, QQ⟩ := E
  intro H locs ls hP hS hl
  obtain ⟨hx, hbc, hml, hown, hts, hF, hret, hlk, hRm, hA, hk0, hn0⟩ := id C
  have hRm : R = rm := hRm
  subst hRm
  have ha : k0 + 1 = a := ha
  have hbb : n0 + nn = b := hbb
  subst ha
  subst hbb
  have rn : inR (nn : Int) := ⟨by omega, by omega⟩
  refine va_newq (N' := nn) hx hbc hown (hts _ h1) (hF.2.2.2.2.1 _ h2) hF.K0 hP (hF.DA hA X) hS hG (nn_iI (by omega) (by omega)) (by rw [iI_nat rn]; rfl) hnb hra hrb hd (fun q cA H1 qK q1 q2 q3 => ?_)
  have hAr := qK.2 0 (cA, .object Cn) rfl
  have hF' := FxW_push (c := cA) hF q2 (fun _ => by rw [htw]; exact hAr)
  have hP1 : PX (wup w q cA) (dz (wN w) X) H1 := by
    refine PX_push q1 hb ?_ (fun k hk => dz_o (Nat.ne_of_lt hk))
    have hy : wY (wup w q cA) (wN w) = cA := by
      show cond (Nat.beq (wN w) (wN w)) cA _ = cA
      rw [beq_self]; rfl
    rw [ceX_arrR (w := wup w q cA) hsh, hy]
    have e1 : (fun i => cond (Nat.blt i nn) (((dz (wN w) X).2.2 (wN w) i).map (wA (wup w q cA))) none) = fun _ => none := by
      funext i
      rw [dz_s.2.2]
      cases Nat.blt i nn <;> rfl
    rw [e1]
  have hC : CX (p, l, e, R, s, m, args, below, meth, c, A0, k0 + 1, n0 + nn, QQ) (wup w q cA) cc nL own ret R := ⟨hx, hbc, hml, hown, hts, hF', hret, hlk, rfl, AW_push hA (last_A q2), hra, hrb⟩
  have K := kk q cA hC H1 locs ls hP1 q3 (by rw [lvC_up hlv]; exact hl)
  have e2 : ((.ref (wN w) :: st : List Value).map (czV (wup w q cA))) = .ref q :: st.map (czV w) := by
    show czV (wup w q cA) (.ref (wN w)) :: st.map _ = _
    rw [st_up hst]
    show Value.ref (cond (Nat.beq (wN w) (wN w)) q _) :: _ = _
    rw [beq_self]; rfl
  rw [e2] at K
  exact K
theorem x_objInit (C : CX E w cc nL own ret rm) {idx k : Nat} (h1 : Cond.methodLink own idx objectInit ∈ lw_g) (h2 : Cond.instanceMethod objectInit ∈ lw_g) (h3 : Cond.code objectInit ⟨#[0xb1]⟩ 1 none ∈ lw_g) (hf : 1 ≤ rm.frames) (hlo : (st.map fun v => v.category).sum + 12 ≤ rm.locals) (hd : decode cc pc = .ok (.invokespecial idx, 3)) (kk : Wx E w nL PH (pc + 3) lv st) : Wx E w nL PH pc lv (.ref k :: st) := by
  obtain ⟨p, l, e, R, s, m, args, below, meth, c, A0, k0, n0, QQ⟩ := E
  intro H locs ls hP hS hl
  have hRm : R = rm := C.2.2.2.2.2.2.2.2.1
  subst hRm
  refine W.objInit C.1 C.2.1 C.2.2.2.1 (C.2.2.2.2.1 _ h1) (C.2.2.2.2.1 _ h2) (C.2.2.2.2.1 _ h3) rfl (hl.1.trans C.2.2.1.symm) rfl hd hf ?_ (kk H locs ls hP hS hl)
  show 2 * 0 + _ + 12 ≤ _
  rw [cat_cz, Nat.mul_zero, Nat.zero_add]
  exact hlo
end XG
