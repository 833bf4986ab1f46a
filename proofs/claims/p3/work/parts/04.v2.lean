/-! ===== VSE 2: the world's data, what holds of a state ===== -/
/-- how many cells, shapes, kinds of fields, of elements (0 int, 1 byte, 2 boolean), ints' and longs' intervals, references' choices, ghosts' footprints and intervals, cells that no step writes -/
abbrev VW : Type := Nat × (Nat → Nat × Nat × Nat) × (Nat → Nat → Nat) × (Nat → Nat) × List (List IV) × List (List IV) × (Nat → Nat → List (Option Nat)) × List (List (Nat × Option Nat)) × List IV × List Nat
abbrev vN (V : VW) : Nat := V.1
abbrev vS (V : VW) : Nat → Nat × Nat × Nat := V.2.1
abbrev vF (V : VW) : Nat → Nat → Nat := V.2.2.1
abbrev vT (V : VW) : Nat → Nat := V.2.2.2.1
abbrev vGI (V : VW) : List (List IV) := V.2.2.2.2.1
abbrev vGL (V : VW) : List (List IV) := V.2.2.2.2.2.1
abbrev vGR (V : VW) : Nat → Nat → List (Option Nat) := V.2.2.2.2.2.2.1
abbrev vFt (V : VW) : List (List (Nat × Option Nat)) := V.2.2.2.2.2.2.2.1
abbrev vgI (V : VW) : List IV := V.2.2.2.2.2.2.2.2.1
abbrev vPr (V : VW) : List Nat := V.2.2.2.2.2.2.2.2.2
/-- what a place holds: 0 an int, 1 a long, 2 a reference -/
def plK (V : VW) (k i : Nat) : Nat := cond (Nat.blt k (vN V)) (cond (Nat.blt i (vS V k).2.2) (cond (Nat.beq (vS V k).1 0) (vF V (vS V k).2.1 i) ((vS V k).1 - 1)) 9) 9
def perG (L : List IV) (i : Nat) : Option IV := L[i % L.length]?
def gI (V : VW) (k i : Nat) : Option IV := perG ((vGI V).getD k []) i
def gL (V : VW) (k i : Nat) : Option IV := perG ((vGL V).getD k []) i
def HG (V : VW) (X : XT) : Prop := (∀ k i q, plK V k i = 0 → gI V k i = some q → q.1 ≤ X.1 k i ∧ X.1 k i ≤ q.2) ∧ (∀ k i q, plK V k i = 1 → gL V k i = some q → q.1 ≤ (X.2.1 k i).toInt ∧ (X.2.1 k i).toInt ≤ q.2) ∧ ∀ k i, plK V k i = 2 → X.2.2 k i ∈ vGR V k i
/-- a place in a list of places (none: all of a cell) -/
def inM (md : List (Nat × Option Nat)) (k i : Nat) : Bool := md.any (fun q => Nat.beq q.1 k && (match q.2 with | none => true | some j => Nat.beq j i))
def sameAt (k i : Nat) (X0 X : XT) : Prop := X.1 k i = X0.1 k i ∧ X.2.1 k i = X0.2.1 k i ∧ X.2.2 k i = X0.2.2 k i
theorem sameAt.rf {k i : Nat} {X : XT} : sameAt k i X X := ⟨rfl, rfl, rfl⟩
theorem sameAt.tr {k i : Nat} {X Y Z : XT} (h : sameAt k i X Y) (h' : sameAt k i Y Z) : sameAt k i X Z := ⟨h'.1.trans h.1, h'.2.1.trans h.2.1, h'.2.2.trans h.2.2⟩
def FR (md : List (Nat × Option Nat)) (X0 X : XT) : Prop := ∀ k i, inM md k i = false → sameAt k i X0 X
def ovl (a b : List (Nat × Option Nat)) : Bool := a.any (fun p => b.any (fun q => Nat.beq p.1 q.1 && (match p.2, q.2 with | some i, some j => Nat.beq i j | _, _ => true)))
/-- a ghost's place: cell 900 + j -/
def gho (k : Nat) : Bool := Nat.ble 900 k
def foot (V : VW) (k : Nat) : List (Nat × Option Nat) := (vFt V).getD (k - 900) []
abbrev GT : Type := (Nat → XT → Int) × (XT → Prop)
def locOK (G : GT) (k i : Nat) (a : AV) (g : SG) (X : XT) : Prop := match gho k with
  | true => a.1 = 0 ∧ G.1 (k - 900) X = dI g a
  | false => match a.1 with
    | 0 => X.1 k i = dI g a
    | 1 => X.2.1 k i = g.2 a.2.1
    | 2 => X.2.2 k i = some a.2.1
    | _ => X.2.2 k i = none
def dlOK (G : GT) (d : DLT) (g : SG) (X : XT) : Prop := ∀ q ∈ d, locOK G q.1.1 q.1.2 q.2 g X
def lkOK (l : List (Nat × Nat × Nat)) (g : SG) : Prop := ∀ q ∈ l, iI (g.1 q.1) = lg_cmp (g.2 q.2.1) (g.2 q.2.2)
def gdOK (l : List (AV × AV)) (g : SG) : Prop := ∀ q ∈ l, dI g q.1 ≤ dI g q.2
/-- ghosts hang on their footprints, what holds beside on cells that no step writes -/
def WD (V : VW) (G : GT) : Prop := (∀ k X X', gho k = true → (∀ i j, inM (foot V k) i j = true → sameAt i j X X') → G.1 (k - 900) X' = G.1 (k - 900) X) ∧ (∀ X X', (∀ k i, (vPr V).any (Nat.beq k) = true → sameAt k i X X') → G.2 X → G.2 X') ∧ vN V ≤ 900
abbrev EV : Type := List IV × List IV × DLT × List (Nat × Nat × Nat) × List (AV × AV)
def Gm (V : VW) (G : GT) (md : List (Nat × Option Nat)) (X0 : XT) (v : EV) (g : SG) (X : XT) : Prop := g.1 0 = 0 ∧ eiOK v.1 g.1 ∧ elOK v.2.1 g.2 ∧ dlOK G v.2.2.1 g X ∧ lkOK v.2.2.2.1 g ∧ gdOK v.2.2.2.2 g ∧ HG V X ∧ G.2 X ∧ FR md X0 X
def scE (v : EV) : Bool := v.2.2.1.all (fun q => scV v.1.length v.2.1.length q.2) && (v.2.2.2.1.all (fun q => Nat.blt q.1 v.1.length && (Nat.blt q.2.1 v.2.1.length && Nat.blt q.2.2 v.2.1.length)) && v.2.2.2.2.all (fun q => Nat.blt q.1.2.1 v.1.length && Nat.blt q.2.2.1 v.1.length))
theorem locOK.ext {G : GT} {k i : Nat} {a : AV} {g g' : SG} {X : XT} {nI nL : Nat} (h : Ext nI nL g g') (hs : scV nI nL a = true) (hl : locOK G k i a g X) : locOK G k i a g' X := by
  obtain ⟨t, b, c⟩ := a
  unfold locOK at hl ⊢
  cases hk : gho k with
  | true =>
    rw [hk] at hl
    obtain ⟨h0, h1⟩ := hl
    have h0 : t = 0 := h0
    subst h0
    refine ⟨rfl, h1.trans ?_⟩
    exact (h.vI (a := (0, b, c)) (blt_lt hs)).symm
  | false =>
    rw [hk] at hl
    match t with
    | 0 => exact hl.trans (h.vI (a := (0, b, c)) (blt_lt hs)).symm
    | 1 => exact hl.trans (h.2 _ (blt_lt hs)).symm
    | 2 => exact hl
    | t + 3 => exact hl
theorem and3 {a b c : Bool} (h : (a && (b && c)) = true) : a = true ∧ b = true ∧ c = true := by
  rw [Bool.and_eq_true, Bool.and_eq_true] at h
  exact h
theorem Gm.ext {V : VW} {G : GT} {md : List (Nat × Option Nat)} {X0 X : XT} {ei el : List IV} {dl : DLT} {lk : List (Nat × Nat × Nat)} {gd : List (AV × AV)} {g g' : SG} {ei' el' : List IV} (hs : scE (ei, el, dl, lk, gd) = true) (h : Gm V G md X0 (ei, el, dl, lk, gd) g X) (hx : Ext ei.length el.length g g') (h0 : g'.1 0 = 0) (h1 : eiOK ei' g'.1) (h2 : elOK el' g'.2) : Gm V G md X0 (ei', el', dl, lk, gd) g' X := by
  obtain ⟨s1, s2, s3⟩ := and3 hs
  obtain ⟨_, _, _, k1, k2, k3, k4, k5, k6⟩ := h
  refine ⟨h0, h1, h2, fun q hq => (k1 q hq).ext hx (List.all_eq_true.mp s1 q hq), fun q hq => ?_, fun q hq => ?_, k4, k5, k6⟩
  · obtain ⟨a, b, c⟩ := and3 (List.all_eq_true.mp s2 q hq)
    rw [hx.1 _ (blt_lt a), hx.2 _ (blt_lt b), hx.2 _ (blt_lt c)]
    exact k2 q hq
  · have z := List.all_eq_true.mp s3 q hq
    rw [Bool.and_eq_true] at z
    rw [hx.vI (blt_lt z.1), hx.vI (blt_lt z.2)]
    exact k3 q hq
theorem get_snoc {α : Type} {l : List α} {a q : α} {b : Nat} (h : (l ++ [a])[b]? = some q) : (b < l.length ∧ l[b]? = some q) ∨ (b = l.length ∧ q = a) := by
  rcases Nat.lt_trichotomy b l.length with hb | hb | hb
  · rw [List.getElem?_append_left hb] at h
    exact Or.inl ⟨hb, h⟩
  · subst hb
    rw [List.getElem?_append_right (Nat.le_refl _), Nat.sub_self] at h
    cases h
    exact Or.inr ⟨rfl, rfl⟩
  · rw [List.getElem?_eq_none (by rw [List.length_append]; show l.length + 1 ≤ b; omega)] at h
    cases h
theorem newI {V : VW} {G : GT} {md : List (Nat × Option Nat)} {X0 X : XT} {ei el : List IV} {dl : DLT} {lk : List (Nat × Nat × Nat)} {gd : List (AV × AV)} {g : SG} (hs : scE (ei, el, dl, lk, gd) = true) (h : Gm V G md X0 (ei, el, dl, lk, gd) g X) (hp : 0 < ei.length) {z : Int} {q : IV} (h1 : q.1 ≤ z) (h2 : z ≤ q.2) : ∃ g', Ext ei.length el.length g g' ∧ g'.1 ei.length = z ∧ Gm V G md X0 (ei ++ [q], el, dl, lk, gd) g' X := by
  have hx : Ext ei.length el.length g (fun b => if b = ei.length then z else g.1 b, g.2) := ⟨fun b hb => by show (if b = ei.length then z else g.1 b) = g.1 b; rw [if_neg (by omega)], fun _ _ => rfl⟩
  refine ⟨_, hx, by show (if ei.length = ei.length then z else _) = z; rw [if_pos rfl], h.ext hs hx ?_ ?_ ?_⟩
  · rw [hx.1 0 hp]; exact h.1
  · intro b r hb
    rcases get_snoc hb with ⟨h3, h4⟩ | ⟨h3, h4⟩
    · rw [hx.1 b h3]
      exact h.2.1 b r h4
    · subst h4; subst h3
      show _ ≤ (if ei.length = ei.length then z else _) ∧ (if ei.length = ei.length then z else _) ≤ _
      rw [if_pos rfl]
      exact ⟨h1, h2⟩
  · exact h.2.2.1
theorem newL {V : VW} {G : GT} {md : List (Nat × Option Nat)} {X0 X : XT} {ei el : List IV} {dl : DLT} {lk : List (Nat × Nat × Nat)} {gd : List (AV × AV)} {g : SG} (hs : scE (ei, el, dl, lk, gd) = true) (h : Gm V G md X0 (ei, el, dl, lk, gd) g X) {z : Int64} {q : IV} (h1 : q.1 ≤ z.toInt) (h2 : z.toInt ≤ q.2) : ∃ g', Ext ei.length el.length g g' ∧ g'.2 el.length = z ∧ Gm V G md X0 (ei, el ++ [q], dl, lk, gd) g' X := by
  have hx : Ext ei.length el.length g (g.1, fun b => if b = el.length then z else g.2 b) := ⟨fun _ _ => rfl, fun b hb => by show (if b = el.length then z else g.2 b) = g.2 b; rw [if_neg (by omega)]⟩
  refine ⟨_, hx, by show (if el.length = el.length then z else _) = z; rw [if_pos rfl], h.ext hs hx h.1 h.2.1 ?_⟩
  intro b r hb
  rcases get_snoc hb with ⟨h3, h4⟩ | ⟨h3, h4⟩
  · rw [hx.2 b h3]
    exact h.2.2.1 b r h4
  · subst h4; subst h3
    show _ ≤ Int64.toInt (if el.length = el.length then z else _) ∧ Int64.toInt (if el.length = el.length then z else _) ≤ _
    rw [if_pos rfl]
    exact ⟨h1, h2⟩
/-! narrower intervals -/
def rfn (ei : List IV) (a : AV) (lo hi : Int) : Option (List IV) := match ei[a.2.1]? with
  | none => none
  | some q => cond (leI (max q.1 (lo - a.2.2)) (min q.2 (hi - a.2.2))) (some (ei.set a.2.1 (max q.1 (lo - a.2.2), min q.2 (hi - a.2.2)))) none
theorem rfn_ok {ei : List IV} {g : SG} {a : AV} {lo hi : Int} (h : eiOK ei g.1) (hb : a.2.1 < ei.length) (h1 : lo ≤ dI g a) (h2 : dI g a ≤ hi) : ∃ ei', rfn ei a lo hi = some ei' ∧ eiOK ei' g.1 ∧ ei'.length = ei.length := by
  have hq : ei[a.2.1]? = some ei[a.2.1] := List.getElem?_eq_getElem hb
  have hr := h _ _ hq
  unfold dI at h1 h2
  have c1 : max ei[a.2.1].1 (lo - a.2.2) ≤ g.1 a.2.1 := by omega
  have c2 : g.1 a.2.1 ≤ min ei[a.2.1].2 (hi - a.2.2) := by omega
  refine ⟨ei.set a.2.1 (max ei[a.2.1].1 (lo - a.2.2), min ei[a.2.1].2 (hi - a.2.2)), ?_, ?_, List.length_set⟩
  · unfold rfn
    rw [hq]
    show cond (leI _ _) _ _ = _
    rw [leI_iff.mpr (Int.le_trans c1 c2)]
    rfl
  · intro b q hbq
    by_cases hab : b = a.2.1
    · subst hab
      rw [List.getElem?_set_self hb] at hbq
      cases hbq
      exact ⟨c1, c2⟩
    · rw [List.getElem?_set_ne (Ne.symm hab)] at hbq
      exact h b q hbq
def rfl_ (el : List IV) (b : Nat) (lo hi : Int) : Option (List IV) := match el[b]? with
  | none => none
  | some q => cond (leI (max q.1 lo) (min q.2 hi)) (some (el.set b (max q.1 lo, min q.2 hi))) none
theorem rfl_ok {el : List IV} {g : SG} {b : Nat} {lo hi : Int} (h : elOK el g.2) (hb : b < el.length) (h1 : lo ≤ (g.2 b).toInt) (h2 : (g.2 b).toInt ≤ hi) : ∃ el', rfl_ el b lo hi = some el' ∧ elOK el' g.2 ∧ el'.length = el.length := by
  have hq : el[b]? = some el[b] := List.getElem?_eq_getElem hb
  have hr := h _ _ hq
  have c1 : max el[b].1 lo ≤ (g.2 b).toInt := by omega
  have c2 : (g.2 b).toInt ≤ min el[b].2 hi := by omega
  refine ⟨el.set b (max el[b].1 lo, min el[b].2 hi), ?_, ?_, List.length_set⟩
  · unfold rfl_
    rw [hq]
    show cond (leI _ _) _ _ = _
    rw [leI_iff.mpr (Int.le_trans c1 c2)]
    rfl
  · intro d q hbq
    by_cases hab : d = b
    · subst hab
      rw [List.getElem?_set_self hb] at hbq
      cases hbq
      exact ⟨c1, c2⟩
    · rw [List.getElem?_set_ne (Ne.symm hab)] at hbq
      exact h d q hbq
/-- the intervals where x stands so to y: 0 =, 1 other, 2 <, 3 not <, 4 >, 5 not > -/
def asLt (ei : List IV) (x y : AV) : Option (List IV) := match ivO ei x, ivO ei y with
  | some p, some q => match rfn ei x p.1 (q.2 - 1) with
    | some e1 => rfn e1 y (p.1 + 1) q.2
    | none => none
  | _, _ => none
def asLe (ei : List IV) (x y : AV) : Option (List IV) := match ivO ei x, ivO ei y with
  | some p, some q => match rfn ei x p.1 q.2 with
    | some e1 => rfn e1 y p.1 q.2
    | none => none
  | _, _ => none
def asEq (ei : List IV) (x y : AV) : Option (List IV) := match ivO ei x, ivO ei y with
  | some p, some q => match rfn ei x q.1 q.2 with
    | some e1 => rfn e1 y p.1 p.2
    | none => none
  | _, _ => none
def asNe (ei : List IV) (x y : AV) : Option (List IV) := match ivO ei x, ivO ei y with
  | some p, some q => cond (decide (q.1 = q.2)) (match rfn ei x (cond (decide (p.1 = q.1)) (p.1 + 1) p.1) p.2 with
      | some e1 => match ivO e1 x with
        | some p1 => rfn e1 x p1.1 (cond (decide (p1.2 = q.1)) (p1.2 - 1) p1.2)
        | none => none
      | none => none)
    (cond (decide (p.1 = p.2)) (match rfn ei y (cond (decide (q.1 = p.1)) (q.1 + 1) q.1) q.2 with
      | some e1 => match ivO e1 y with
        | some q1 => rfn e1 y q1.1 (cond (decide (q1.2 = p.1)) (q1.2 - 1) q1.2)
        | none => none
      | none => none) (some ei))
  | _, _ => none
theorem ivO_ex {ei : List IV} {a : AV} (hb : a.2.1 < ei.length) : ∃ q, ivO ei a = some q := by
  unfold ivO
  rw [List.getElem?_eq_getElem hb]
  exact ⟨_, rfl⟩
theorem asLt_ok {ei : List IV} {g : SG} {x y : AV} (h : eiOK ei g.1) (hx : x.2.1 < ei.length) (hy : y.2.1 < ei.length) (hr : dI g x < dI g y) : ∃ ei', asLt ei x y = some ei' ∧ eiOK ei' g.1 ∧ ei'.length = ei.length := by
  obtain ⟨p, hp⟩ := ivO_ex hx
  obtain ⟨q, hq⟩ := ivO_ex hy
  have h1 := ivO_ok h hp
  have h2 := ivO_ok h hq
  obtain ⟨e1, a1, a2, a3⟩ := rfn_ok (lo := p.1) (hi := q.2 - 1) h hx h1.1 (by omega)
  obtain ⟨e2, b1, b2, b3⟩ := rfn_ok (lo := p.1 + 1) (hi := q.2) a2 (by rw [a3]; exact hy) (by omega) h2.2
  refine ⟨e2, ?_, b2, b3.trans a3⟩
  unfold asLt
  rw [hp, hq]
  show (match rfn ei x p.1 (q.2 - 1) with | some e1 => rfn e1 y (p.1 + 1) q.2 | none => none) = _
  rw [a1]
  exact b1
theorem asLe_ok {ei : List IV} {g : SG} {x y : AV} (h : eiOK ei g.1) (hx : x.2.1 < ei.length) (hy : y.2.1 < ei.length) (hr : dI g x ≤ dI g y) : ∃ ei', asLe ei x y = some ei' ∧ eiOK ei' g.1 ∧ ei'.length = ei.length := by
  obtain ⟨p, hp⟩ := ivO_ex hx
  obtain ⟨q, hq⟩ := ivO_ex hy
  have h1 := ivO_ok h hp
  have h2 := ivO_ok h hq
  obtain ⟨e1, a1, a2, a3⟩ := rfn_ok (lo := p.1) (hi := q.2) h hx h1.1 (by omega)
  obtain ⟨e2, b1, b2, b3⟩ := rfn_ok (lo := p.1) (hi := q.2) a2 (by rw [a3]; exact hy) (by omega) h2.2
  refine ⟨e2, ?_, b2, b3.trans a3⟩
  unfold asLe
  rw [hp, hq]
  show (match rfn ei x p.1 q.2 with | some e1 => rfn e1 y p.1 q.2 | none => none) = _
  rw [a1]
  exact b1
theorem asEq_ok {ei : List IV} {g : SG} {x y : AV} (h : eiOK ei g.1) (hx : x.2.1 < ei.length) (hy : y.2.1 < ei.length) (hr : dI g x = dI g y) : ∃ ei', asEq ei x y = some ei' ∧ eiOK ei' g.1 ∧ ei'.length = ei.length := by
  obtain ⟨p, hp⟩ := ivO_ex hx
  obtain ⟨q, hq⟩ := ivO_ex hy
  have h1 := ivO_ok h hp
  have h2 := ivO_ok h hq
  obtain ⟨e1, a1, a2, a3⟩ := rfn_ok (lo := q.1) (hi := q.2) h hx (by omega) (by omega)
  obtain ⟨e2, b1, b2, b3⟩ := rfn_ok (lo := p.1) (hi := p.2) a2 (by rw [a3]; exact hy) (by omega) (by omega)
  refine ⟨e2, ?_, b2, b3.trans a3⟩
  unfold asEq
  rw [hp, hq]
  show (match rfn ei x q.1 q.2 with | some e1 => rfn e1 y p.1 p.2 | none => none) = _
  rw [a1]
  exact b1
theorem trim_ok {ei : List IV} {g : SG} {x : AV} {p : IV} {c : Int} (h : eiOK ei g.1) (hx : x.2.1 < ei.length) (hp : ivO ei x = some p) (hr : dI g x ≠ c) : ∃ ei', (match rfn ei x (cond (decide (p.1 = c)) (p.1 + 1) p.1) p.2 with
      | some e1 => match ivO e1 x with
        | some p1 => rfn e1 x p1.1 (cond (decide (p1.2 = c)) (p1.2 - 1) p1.2)
        | none => none
      | none => none) = some ei' ∧ eiOK ei' g.1 ∧ ei'.length = ei.length := by
  have h1 := ivO_ok h hp
  obtain ⟨e1, a1, a2, a3⟩ := rfn_ok (lo := cond (decide (p.1 = c)) (p.1 + 1) p.1) (hi := p.2) h hx (by
    by_cases hc : p.1 = c
    · rw [decide_eq_true hc]; show p.1 + 1 ≤ _; omega
    · rw [decide_eq_false hc]; exact h1.1) h1.2
  obtain ⟨p1, hp1⟩ := ivO_ex (ei := e1) (a := x) (by rw [a3]; exact hx)
  have h3 := ivO_ok a2 hp1
  obtain ⟨e2, b1, b2, b3⟩ := rfn_ok (lo := p1.1) (hi := cond (decide (p1.2 = c)) (p1.2 - 1) p1.2) a2 (by rw [a3]; exact hx) h3.1 (by
    by_cases hc : p1.2 = c
    · rw [decide_eq_true hc]; show _ ≤ p1.2 - 1; omega
    · rw [decide_eq_false hc]; exact h3.2)
  refine ⟨e2, ?_, b2, b3.trans a3⟩
  rw [a1]
  show (match ivO e1 x with | some p1 => _ | none => none) = _
  rw [hp1]
  exact b1
theorem asNe_ok {ei : List IV} {g : SG} {x y : AV} (h : eiOK ei g.1) (hx : x.2.1 < ei.length) (hy : y.2.1 < ei.length) (hr : dI g x ≠ dI g y) : ∃ ei', asNe ei x y = some ei' ∧ eiOK ei' g.1 ∧ ei'.length = ei.length := by
  obtain ⟨p, hp⟩ := ivO_ex hx
  obtain ⟨q, hq⟩ := ivO_ex hy
  have h1 := ivO_ok h hp
  have h2 := ivO_ok h hq
  unfold asNe
  rw [hp, hq]
  by_cases hc : q.1 = q.2
  · simp only [decide_eq_true hc, cond_true]
    exact trim_ok h hx hp (by omega)
  · simp only [decide_eq_false hc, cond_false]
    by_cases hd : p.1 = p.2
    · simp only [decide_eq_true hd, cond_true]
      exact trim_ok h hy hq (by omega)
    · simp only [decide_eq_false hd, cond_false]
      exact ⟨ei, rfl, h, rfl⟩
def asm (r : Nat) (ei : List IV) (x y : AV) : Option (List IV) := match r with
  | 0 => asEq ei x y
  | 1 => asNe ei x y
  | 2 => asLt ei x y
  | 3 => asLe ei y x
  | 4 => asLt ei y x
  | _ => asLe ei x y
def relP (r : Nat) (a b : Int) : Prop := match r with
  | 0 => a = b
  | 1 => ¬ a = b
  | 2 => a < b
  | 3 => b ≤ a
  | 4 => b < a
  | _ => a ≤ b
theorem asm_ok {r : Nat} {ei : List IV} {g : SG} {x y : AV} (h : eiOK ei g.1) (hx : x.2.1 < ei.length) (hy : y.2.1 < ei.length) (hr : relP r (dI g x) (dI g y)) : ∃ ei', asm r ei x y = some ei' ∧ eiOK ei' g.1 ∧ ei'.length = ei.length := by
  match r with
  | 0 => exact asEq_ok h hx hy hr
  | 1 => exact asNe_ok h hx hy hr
  | 2 => exact asLt_ok h hx hy hr
  | 3 => exact asLe_ok h hy hx hr
  | 4 => exact asLt_ok h hy hx hr
  | r + 5 => exact asLe_ok h hx hy hr
