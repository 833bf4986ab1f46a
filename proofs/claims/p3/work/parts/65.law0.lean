/-! ===== ENGINE 14: the law's own rows; a world without cells, where references are addresses ===== -/
def wI (D : va_G) : WT := (D, vwCl, 0, fun _ => (0, 0, 0), fun _ _ => 0, fun k => k, fun _ => 0, fun _ => .int)
theorem czI {D : va_G} (v : Value) : czV (wI D) v = v := by cases v <;> rfl
theorem stI {D : va_G} (st : List Value) : st.map (czV (wI D)) = st := by
  rw [show czV (wI D) = id from funext czI]; exact List.map_id st
theorem lvI {D : va_G} (lv : List (Nat × Value)) : lvC (wI D) lv = lv := by
  unfold lvC
  rw [show (fun q : Nat × Value => (q.1, czV (wI D) q.2)) = id from funext (fun q => by rw [czI]; rfl)]
  exact List.map_id lv
def EA (E : ET) (q : Nat) : Prop := match E with | (_, _, _, _, _, _, _, _, _, _, A0, _, _, _) => A0 q
def EF (E : ET) (w : WT) : Prop := match E with | (_, _, _, _, s, _, _, _, _, _, _, _, _, _) => FxW w s
def LAW (E : ET) (b L : Nat) (xs : Nat → Int32) : Prop := match E with | (_, _, _, _, s, _, _, _, _, _, A0, _, _, _) => va_X b L xs s s.heap ∧ b < s.heap.size ∧ ¬ A0 b
theorem EA.k {E : ET} {q a b : Nat} (h : EA E q) : EA (Ek E a b) q := by obtain ⟨p, l, e, R, s, m, args, below, meth, c, A0, k0, n0, QQ⟩ := E; exact h
theorem EF.k {E : ET} {w : WT} {a b : Nat} (h : EF E w) : EF (Ek E a b) w := by obtain ⟨p, l, e, R, s, m, args, below, meth, c, A0, k0, n0, QQ⟩ := E; exact h
theorem LAW.k {E : ET} {q L a b : Nat} {xs : Nat → Int32} (h : LAW E q L xs) : LAW (Ek E a b) q L xs := by obtain ⟨p, l, e, R, s, m, args, below, meth, c, A0, k0, n0, QQ⟩ := E; exact h
/-- one object, new -/
abbrev w1 (B : BT) (q : Nat) : WT := mkW B 1 (fun _ => q) (fun _ => 0)
section XL
variable {E : ET} {nL pc : Nat} {lv : List (Nat × Value)} {st : List Value} {cc : ByteArray} {own : String} {ret : Option FieldType} {rm : Room} {D : va_G} {PH : Heap → Prop}
theorem L_sld (C : CX E (wI D) cc nL own ret rm) {b L : Nat} {xs : Nat → Int32} (hX : LAW E b L xs) {z : Int} (h0 : 0 ≤ z) (h1 : z < L) (hL : L ≤ 2147483647) (hd : decode cc pc = .ok (.iaload, 1)) (kk : Wx E (wI D) nL PH (pc + 1) lv (.int (xs z.toNat) :: st)) : Wx E (wI D) nL PH pc lv (.int (iI z) :: .ref b :: st) := by
  obtain ⟨p, l, e, R, s, m, args, below, meth, c, A0, k0, n0, QQ⟩ := E
  intro H locs ls hP hS hl
  refine va_sld C.1 C.2.1 hX.1 hX.2.1 hX.2.2 hS (iI_in h0 h1 hL) hd ?_
  rw [iI_nat ⟨by omega, by omega⟩]
  exact kk H locs ls hP hS hl
theorem L_slen (C : CX E (wI D) cc nL own ret rm) {b L : Nat} {xs : Nat → Int32} (hX : LAW E b L xs) (hd : decode cc pc = .ok (.arraylength, 1)) (kk : Wx E (wI D) nL PH (pc + 1) lv (.int (iI (L : Int)) :: st)) : Wx E (wI D) nL PH pc lv (.ref b :: st) := by
  obtain ⟨p, l, e, R, s, m, args, below, meth, c, A0, k0, n0, QQ⟩ := E
  intro H locs ls hP hS hl
  refine va_slen C.1 C.2.1 hX.1 hX.2.1 hX.2.2 hS hd ?_
  have := kk H locs ls hP hS hl
  exact this
theorem L_swIn (C : CX E (wI D) cc nL own ret rm) {dflt lo hi : Int} {offs : Array Int} {len : Nat} {x : Int} {off : Int} {tgt : Nat} (hd : decode cc pc = .ok (.tableswitch dflt lo hi offs, len)) (hr : inR x) (h1 : lo ≤ x) (h2 : x ≤ hi) (ho : offs[(x - lo).toNat]? = some off) (ht : (pc : Int) + off = (tgt : Int)) (kk : Wx E (wI D) nL PH tgt lv st) : Wx E (wI D) nL PH pc lv (.int (iI x) :: st) := by
  obtain ⟨p, l, e, R, s, m, args, below, meth, c, A0, k0, n0, QQ⟩ := E
  intro H locs ls hP hS hl
  exact lv_tableIn C.1 C.2.1 hd (by rw [iI_toInt hr]; omega) (by rw [iI_toInt hr]; omega) (by rw [iI_toInt hr]; exact ho) ht (kk H locs ls hP hS hl)
theorem L_swOut (C : CX E (wI D) cc nL own ret rm) {dflt lo hi : Int} {offs : Array Int} {len : Nat} {x : Int} {tgt : Nat} (hd : decode cc pc = .ok (.tableswitch dflt lo hi offs, len)) (hr : inR x) (h : x < lo ∨ hi < x) (ht : (pc : Int) + dflt = (tgt : Int)) (kk : Wx E (wI D) nL PH tgt lv st) : Wx E (wI D) nL PH pc lv (.int (iI x) :: st) := by
  obtain ⟨p, l, e, R, s, m, args, below, meth, c, A0, k0, n0, QQ⟩ := E
  intro H locs ls hP hS hl
  exact lv_tableOut C.1 C.2.1 hd (by rw [iI_toInt hr]; exact h) ht (kk H locs ls hP hS hl)
/-- new, beside what is there -/
theorem L_new (C : CX E (wI D) cc nL own ret rm) (hG : GA E) {R : Heap → Prop} {Out : Nat → Prop} {B : BT} {X : XT} {idx ci nn a b : Nat} {Cn : String} {T : u_T} {ty0 : Nat → FieldType} (hB : B.1 = D ∧ B.2.1 = vwCl) (hin : ∀ x ∈ u_ws Cn T nn, x ∈ lw_g) (hty : ∀ k, k < nn → parseFieldDescriptor (T k).2.2.1 = some (ty0 k)) (hcl : vwCl[ci]? = some (Cn, T, nn)) (hsh : B.2.2.1 0 = (0, ci, nn)) (h1 : Cond.classLink own idx Cn ∈ lw_g) (h2 : Cond.instantiable Cn nn ∈ lw_g) (h3 : Cond.initialized Cn ∈ lw_g)
    (hdef : ∀ j, j < nn → defaultValue (ty0 j) = fvK (B.2.2.2.1 ci j) 0 0 .null) (hR : ∀ H H1 : Heap, (∀ q : Nat, q < H.size → H1[q]? = H[q]?) → R H → R H1) (hOut : ∀ H, R H → ∀ q, Out q → q < H.size) (ha : eK E + 1 = a) (hbb : eN E + nn = b) (hra : a ≤ rm.cells) (hrb : b ≤ rm.slots) (hd : decode cc pc = .ok (.new idx, 3))
    (kk : ∀ q : Nat, ¬ Out q → EA E q → CX (Ek E a b) (wI D) cc nL own ret rm → Wx (Ek E a b) (wI D) nL (fun H => PX (w1 B q) (dz 0 X) H ∧ R H) (pc + 3) lv (.ref q :: st)) : Wx E (wI D) nL R pc lv st := by
  obtain ⟨p, l, e, R9, s, m, args, below, meth, c, A0, k0, n0, QQ⟩ := E
  intro H locs ls hP hS hl
  obtain ⟨hx, hbc, hml, hown, hts, hF, hret, hlk, hRm, hA, hk0, hn0⟩ := id C
  have hRm : R9 = rm := hRm
  subst hRm
  have ha : k0 + 1 = a := ha
  have hbb : n0 + nn = b := hbb
  subst ha
  subst hbb
  obtain ⟨B1, B2, B3, B4, B5⟩ := B
  obtain ⟨rfl, rfl⟩ : B1 = D ∧ B2 = vwCl := hB
  have hKn := hF.K0.1 ci _ hcl
  refine W.newcK hx hbc hown (hts _ h1) (hts _ h2) (hts _ h3) rfl hd hra hrb hKn.2.1 rfl fun H1 kC hkC e1 z1 o1 => ?_
  have hq : ¬ Out H.size := fun h => Nat.lt_irrefl _ (hOut H hP _ h)
  have hqA : A0 H.size := hG _ hS.1
  have hC : CX (p, l, e, R9, s, m, args, below, meth, c, A0, k0 + 1, n0 + nn, QQ) (wI B1) cc nL own ret R9 := ⟨hx, hbc, hml, hown, hts, hF, hret, hlk, rfl, hA, hra, hrb⟩
  have K := kk H.size hq hqA hC H1 locs ls ⟨?_, hR H H1 o1 hP⟩ ⟨Nat.le_trans hS.1 (by omega), fun x h1 h2 => (o1 x (Nat.lt_of_lt_of_le h1 hS.1)).trans (hS.2.1 x h1 h2), hS.2.2⟩ hl
  · exact K
  · intro k x hk
    have hk0 : k < 1 := by
      have h9 := (List.getElem?_eq_some_iff.mp hk).1
      rw [wsX_len] at h9
      exact h9
    have hk0 : k = 0 := by omega
    subst hk0
    rw [wsX_at (show 0 < wN (w1 (B1, vwCl, B3, B4, B5) H.size) from Nat.zero_lt_one), ceX_obj (w := w1 (B1, vwCl, B3, B4, B5) H.size) hsh] at hk
    have hk := (Option.some.inj hk).symm
    subst hk
    refine ⟨_, hcl, (u_born ty0 hts hin hKn hkC e1 hty).to (fun j hj => ?_)⟩
    rw [hdef j hj]
    show _ = ((List.range nn).map _).getD j Value.null
    rw [List.getD_eq_getElem?_getD, rg_at _ hj]
    show _ = fvK (B4 (B3 0).2.1 j) _ _ _
    rw [show B3 0 = (0, ci, nn) from hsh, dz_s.1, dz_s.2.1, dz_s.2.2]
    rfl
/-- a call of a constructor on the new object, beside what is there -/
theorem L_ctor (C : CX E (wI D) cc nL own ret rm) (hG : GA E) {R : Heap → Prop} {Out : Nat → Prop} {B : BT} {n' mL fr lo mc ms q a b' idx ci nn : Nat} {y : MethodName} {b : ByteArray} {X Y : XT} {rest : List Value} (hB : B.1 = D ∧ B.2.1 = vwCl) (hsh : B.2.2.1 0 = (0, ci, nn)) (M : MetG B y b mL fr lo mc ms [.ref 0] 1 n' X Y) (hc : CKB own idx y b mL none 0) (hi : Cond.instanceMethod y ∈ lw_g) (hy : y.name = "<init>")
    (hR : ∀ H H1 : Heap, H.size ≤ H1.size → (∀ x : Nat, x < H.size → x ≠ q → H1[x]? = H[x]?) → R H → R H1) (hOut : ∀ H, R H → ∀ x, Out x → x < H.size) (hq : ¬ Out q) (hqA : EA E q) (hst : st = .ref q :: rest) (hsum : (rest.map fun v => v.category).sum ≤ 8) (hRm : fr + 1 ≤ rm.frames ∧ 8 + (mL + 11) + lo ≤ rm.locals) (ha : eK E + mc = a) (hbb : eN E + ms = b') (hra : a ≤ rm.cells) (hrb : b' ≤ rm.slots) (hd : decode cc pc = .ok (.invokespecial idx, 3))
    (kk : ∀ (ad : Nat → Nat) (cA : Nat → ClassId), ad 0 = q → (∀ x, AW (mkW B n' ad cA) x → ¬ Out x) → EF E (mkW B n' ad cA) → (∀ x, AW (mkW B n' ad cA) x → EA E x) → CX (Ek E a b') (wI D) cc nL own ret rm → Wx (Ek E a b') (wI D) nL (fun H => PX (mkW B n' ad cA) Y H ∧ R H) (pc + 3) lv rest) : Wx E (wI D) nL (fun H => PX (w1 B q) X H ∧ R H) pc lv st := by
  obtain ⟨p, l, e, R9, s, m, args, below, meth, c, A0, k0, n0, QQ⟩ := E
  intro H locs ls hP hS hl
  obtain ⟨hx, hb, hml, hown, hts, hF, hret, hlk, hRm9, hA, hk0, hn0⟩ := id C
  have hRm9 : R9 = rm := hRm9
  subst hRm9
  subst hst
  have ha : k0 + mc = a := ha
  have hbb : n0 + ms = b' := hbb
  subst ha
  subst hbb
  obtain ⟨B1, B2, B3, B4, B5⟩ := B
  obtain ⟨rfl, rfl⟩ : B1 = D ∧ B2 = vwCl := hB
  have hFw : ∀ U : State, FxW (wI B1) U → FxW (w1 (B1, vwCl, B3, B4, B5) q) U := fun U h => ⟨h.1, fun k hk hs => by
      have hk : k < 1 := hk
      have hk : k = 0 := by omega
      subst hk
      exact absurd (show (B3 0).1 = 0 by rw [show B3 0 = _ from hsh]) hs, fun i j hi hj _ => by
      have hi : i < 1 := hi
      have hj : j < 1 := hj
      omega, h.2.2.2⟩
  have hM := M l H.size (fun _ => q) (fun _ => 0)
  have hPc : ∀ U : State, U.heap = H → s.WarmedH U.vm → va_Pc (([.ref 0] : List Value).map (czV (w1 (B1, vwCl, B3, B4, B5) q))) (fun U => U.heap.size = H.size ∧ PX (w1 (B1, vwCl, B3, B4, B5) q) X U.heap ∧ FxW (w1 (B1, vwCl, B3, B4, B5) q) U) (Value.ref q :: ([] : List Value)).toArray U := fun U hU hW => ⟨rfl, by rw [hU], by rw [hU]; exact hP.1, hFw _ (hF.warm hW)⟩
  have hrun : va_Run p l e R9 s m args below meth c H locs k0 n0 mc ms (F0 m pc ls ((.ref q :: rest : List Value).map (czV (wI B1)))) rest (QG (B1, vwCl, B3, B4, B5) 1 n' (fun _ => q) (A0G (w1 (B1, vwCl, B3, B4, B5) q) H.size) Y (Value.ref q :: ([] : List Value)).toArray) (A0G (w1 (B1, vwCl, B3, B4, B5) q) H.size) :=
    va_runI (n := 0) (As := []) (rest := rest) ⟨hx, hb, hml, hown, hts⟩ hM ⟨hc.G hts hRm, hy, hts _ hi⟩ ⟨blind_G, hPc⟩ rfl rfl hl.1 (by rw [stI]; rfl) (lv_room hsum) hd ⟨hra, hrb⟩
  intro T hT Xs
  obtain ⟨v, st₀, t, T', L, h0, X', hL, e1, e2, ⟨⟨ad', cA', hv, hadk, hPY, hFY, hAY⟩, hz, hk⟩, stp⟩ := hrun T hT Xs
  cases hv
  rw [h0] at hz hk
  have had0 : ad' 0 = q := hadk 0 Nat.zero_lt_one
  have hG1 : ∀ x, A0G (w1 (B1, vwCl, B3, B4, B5) q) H.size x → x = q ∨ H.size ≤ x := by
    rintro x (⟨k, hk9, h⟩ | h)
    · exact Or.inl h
    · exact Or.inr h
  have hAll : ∀ x, A0G (w1 (B1, vwCl, B3, B4, B5) q) H.size x → A0 x := fun x h => by
    rcases hG1 x h with rfl | h
    · exact hqA
    · exact hG x (Nat.le_trans hS.1 h)
  have hC : CX (p, l, e, R9, s, m, args, below, meth, c, A0, k0 + mc, n0 + ms, QQ) (wI B1) cc nL own ret R9 := ⟨hx, hb, hml, hown, hts, hF, hret, hlk, rfl, hA, hra, hrb⟩
  have hFs : FxW (mkW (B1, vwCl, B3, B4, B5) n' ad' cA') s := FxW.back (n := 0) (w := wI B1) (by rw [← e2]; exact X'.warmed.alike) ⟨rfl, rfl⟩ hF hFY
  obtain ⟨t2, a1, b1⟩ := kk ad' cA' had0 (fun x h ho => by
      rcases hG1 x (hAY x h) with h9 | h9
      · rw [h9] at ho; exact hq ho
      · exact absurd (hOut H hP.2 x ho) (Nat.not_lt.mpr h9)) hFs (fun x h => hAll x (hAY x h)) hC T'.heap (locs ++ L) ls ⟨by rw [e1]; exact hPY, hR H T'.heap (by rw [e1]; exact hz) (fun x h1 h2 => by
        rw [e1, hk x h1 (fun z => (hG1 x z).elim h2 (fun h => absurd h1 (Nat.not_lt.mpr h)))]) hP.2⟩ ⟨Nat.le_trans hS.1 (by rw [e1]; exact hz), fun x h1 h2 => by rw [e1, hk x (Nat.lt_of_lt_of_le h1 hS.1) (fun z => h2 (hAll x z))]; exact hS.2.1 x h1 h2, fun x hx9 => by
      rcases List.mem_append.mp hx9 with h | h
      · exact hS.2.2 x h
      · exact hAll _ (hL x h)⟩ hl T' rfl X'
  rw [stI] at a1
  exact ⟨t2, stp t2 a1, b1⟩
/-- a call of a method, beside what is there -/
theorem L_call (C : CX E (wI D) cc nL own ret rm) {w : WT} (hw : wD w = D ∧ wC w = vwCl) (hF : EF E w) (hA : ∀ x, AW w x → EA E x) {R : Heap → Prop} (hR : ∀ H H1 : Heap, H.size ≤ H1.size → (∀ x : Nat, x < H.size → ¬ AW w x → H1[x]? = H[x]?) → R H → R H1) {X : XT} {y : MethodName} {b : ByteArray} {mL q ci n nn idx fr lo : Nat} {rt : Option FieldType} {Cn : String} {T : u_T} {As rest : List Value} {post : Option Value → XT → Prop} (M : MetX w y b mL rt fr lo (.ref 0 :: As) X post) (hc : CKB own idx y b mL rt n) (hi : Cond.instanceMethod y ∈ lw_g) (hse : Cond.selects Cn y y ∈ lw_g) (hk : 0 < wN w) (hs : wS w 0 = (0, ci, nn)) (hcl : vwCl[ci]? = some (Cn, T, nn))
    (hq : wA w 0 = q) (hst : st = (As.map (czV w)).reverse ++ .ref q :: rest) (hn : As.length = n) (hsum : (rest.map fun v => v.category).sum ≤ 8) (hRm : fr + 1 ≤ rm.frames ∧ 8 + (mL + 11) + lo ≤ rm.locals) (hd : decode cc pc = .ok (.invokevirtual idx, 3)) (kk : ∀ (r : Option Value) (X' : XT), post r X' → Wx E (wI D) nL (fun H => PX w X' H ∧ R H) (pc + 3) lv ((r.map (czV w)).toList ++ rest)) : Wx E (wI D) nL (fun H => PX w X H ∧ R H) pc lv st := by
  obtain ⟨p, l, e, R9, s, m, args, below, meth, c, A0, k0, n0, QQ⟩ := E
  intro H locs ls hP hS hl
  obtain ⟨hx, hb, hml, hown, hts, hF9, hret, hlk, hRm9, hA9, hk0, hn0⟩ := id C
  have hRm9 : R9 = rm := hRm9
  subst hRm9
  subst hst
  subst hq
  have he := wsX_at (X := X) hk
  rw [ceX_obj hs] at he
  have hFs : FxW w s := hF
  have hcl' : (wC w)[ci]? = some (Cn, T, nn) := by rw [hw.2]; exact hcl
  rw [stI]
  refine va_callX (va_runV (As := As.map (czV w)) (rest := rest) ⟨hx, hb, hml, hown, hts⟩ (M l) ⟨hc.B hts hRm, hts _ hi, hts _ hse⟩ ⟨blind_X, va_recv hFs.K0 hP.1 hcl' he, fun U hU hW => ⟨by simp [czV], by rw [hU]; exact hP.1, hFs.warm hW⟩⟩ rfl (by rw [List.length_map]; exact hn) hl.1 rfl (lv_room hsum) hd ⟨hk0, hn0⟩) hS hA hA (fun r X' H1 locs1 hp hP1 hz hk9 hS1 => ?_)
  have h := kk r X' hp H1 locs1 ls ⟨hP1, hR H H1 hz hk9 hP.2⟩ hS1 hl
  rw [stI] at h
  exact h
end XL
/-- the classes' numbers and places, out of the tables -/
theorem L_known {s : State} {args : Array Value} (hts : ∀ w ∈ lw_tbl, w.before args s = true) (hall : ∀ q ∈ vwCl, (∀ w ∈ u_ws q.1 q.2.1 q.2.2, w ∈ lw_tbl) ∧ ∃ n, Cond.instantiable q.1 n ∈ lw_tbl) : ∃ D : va_G, ∀ (c : Nat) (q : vw_C), vwCl[c]? = some q → u_Kn s q.1 q.2.1 q.2.2 (D.1 c) (D.2 c) := by
  have h : ∀ c : Nat, ∃ z : ClassId × (Nat → Nat), ∀ q : vw_C, vwCl[c]? = some q → u_Kn s q.1 q.2.1 q.2.2 z.1 z.2 := by
    intro c
    cases hc : vwCl[c]? with
    | none => exact ⟨(0, fun _ => 0), fun q h => by cases h⟩
    | some q =>
      obtain ⟨h1, n, h2⟩ := hall q (List.mem_of_getElem? hc)
      obtain ⟨cC, iS, h⟩ := u_known hts h1 (hts _ h2)
      exact ⟨(cC, iS), fun q' h' => by cases h'; exact h⟩
  exact ⟨(fun c => (Classical.choose (h c)).1, fun c => (Classical.choose (h c)).2), fun c q hc => Classical.choose_spec (h c) q hc⟩
theorem L_FNW {s : State} {args : Array Value} (hts : ∀ w ∈ lw_tbl, w.before args s = true) : FNW s := by
  refine ⟨fun q hq => ?_, fun q hq => ?_, fun q hq => ?_⟩
  · obtain ⟨c, hc, he⟩ := List.mem_filterMap.mp hq
    split at he
    · cases he; exact va_Nw.of rfl (hts _ hc)
    · cases he
  · obtain ⟨c, hc, he⟩ := List.mem_filterMap.mp hq
    split at he
    · cases he; exact va_AO.of (hts _ hc)
    · cases he
  · obtain ⟨c, hc, he⟩ := List.mem_filterMap.mp hq
    split at he
    · cases he; exact hts _ hc
    · cases he
theorem L_Fx {s : State} {args : Array Value} {D : va_G} (hts : ∀ w ∈ lw_tbl, w.before args s = true) (hD : ∀ (c : Nat) (q : vw_C), vwCl[c]? = some q → u_Kn s q.1 q.2.1 q.2.2 (D.1 c) (D.2 c)) : FxW (wI D) s := ⟨hD, fun k hk _ => absurd hk (Nat.not_lt_zero k), fun i _ hi _ _ => absurd hi (Nat.not_lt_zero i), L_FNW hts⟩
