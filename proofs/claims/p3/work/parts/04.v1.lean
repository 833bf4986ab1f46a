/-! ===== VSE 1: a symbolic executor over intervals: its data and what they mean ===== -/
/-- a value: (0, b, c) the int b's name plus c; (1, b, _) a long's name; (2, k, _) cell k; else null -/
abbrev AV : Type := Nat × Nat × Int
abbrev IV : Type := Int × Int
abbrev DLT : Type := List ((Nat × Nat) × AV)
/-- pc, locals, stack, ints' and longs' intervals by name, known places, compared longs, orders -/
abbrev AS : Type := Nat × List (Nat × AV) × List AV × List IV × List IV × DLT × List (Nat × Nat × Nat) × List (AV × AV)
/-- what the names stand for -/
abbrev SG : Type := (Nat → Int) × (Nat → Int64)
def dI (g : SG) (a : AV) : Int := g.1 a.2.1 + a.2.2
def dn (g : SG) (a : AV) : Value := match a.1 with
  | 0 => .int (iI (dI g a))
  | 1 => .long (g.2 a.2.1)
  | 2 => .ref a.2.1
  | _ => .null
def dnL (g : SG) (l : List (Nat × AV)) : List (Nat × Value) := l.map (fun q => (q.1, dn g q.2))
def dnS (g : SG) (l : List AV) : List Value := l.map (dn g)
def leI (a b : Int) : Bool := decide (a ≤ b)
theorem leI_iff {a b : Int} : leI a b = true ↔ a ≤ b := decide_eq_true_iff
theorem leI_of {a b : Int} (h : leI a b = true) : a ≤ b := leI_iff.mp h
def eiOK (ei : List IV) (f : Nat → Int) : Prop := ∀ b q, ei[b]? = some q → q.1 ≤ f b ∧ f b ≤ q.2
def elOK (el : List IV) (f : Nat → Int64) : Prop := ∀ b q, el[b]? = some q → q.1 ≤ (f b).toInt ∧ (f b).toInt ≤ q.2
/-- the interval of an int -/
def ivO (ei : List IV) (a : AV) : Option IV := match ei[a.2.1]? with
  | some q => some (q.1 + a.2.2, q.2 + a.2.2)
  | none => none
theorem ivO_ok {ei : List IV} {g : SG} {a : AV} {q : IV} (h : eiOK ei g.1) (e : ivO ei a = some q) : q.1 ≤ dI g a ∧ dI g a ≤ q.2 := by
  unfold ivO at e
  cases hb : ei[a.2.1]? with
  | none => rw [hb] at e; cases e
  | some p =>
    rw [hb] at e
    cases e
    have := h _ _ hb
    unfold dI
    exact ⟨by have := this.1; show p.1 + a.2.2 ≤ _; omega, by have := this.2; show _ ≤ p.2 + a.2.2; omega⟩
def rgI (q : IV) : Bool := leI (-2147483648) q.1 && leI q.2 2147483647
theorem rgI_ok {q : IV} {z : Int} (h : rgI q = true) (h1 : q.1 ≤ z) (h2 : z ≤ q.2) : inR z := by
  unfold rgI at h
  rw [Bool.and_eq_true, leI_iff, leI_iff] at h
  exact ⟨by have := h.1; omega, by have := h.2; omega⟩
/-- the interval of an int, within the machine's -/
def ivR (ei : List IV) (a : AV) : Option IV := match ivO ei a with
  | some q => if rgI q then some q else none
  | none => none
theorem ivR_ok {ei : List IV} {g : SG} {a : AV} {q : IV} (h : eiOK ei g.1) (e : ivR ei a = some q) : q.1 ≤ dI g a ∧ dI g a ≤ q.2 ∧ inR (dI g a) := by
  unfold ivR at e
  cases hq : ivO ei a with
  | none => rw [hq] at e; cases e
  | some p =>
    rw [hq] at e
    by_cases hr : rgI p = true
    · simp only [hr, if_true] at e
      cases e
      have := ivO_ok h hq
      exact ⟨this.1, this.2, rgI_ok hr this.1 this.2⟩
    · simp only [hr] at e
      cases e
/-! locals -/
def alk : List (Nat × AV) → Nat → Option AV
  | [], _ => none
  | (j, v) :: t, i => cond (Nat.beq j i) (some v) (alk t i)
def arm1 (i : Nat) : List (Nat × AV) → List (Nat × AV)
  | [] => []
  | (j, v) :: t => cond (Nat.beq j i || (Nat.beq (j + 1) i && Nat.beq v.1 1)) (arm1 i t) ((j, v) :: arm1 i t)
def arm2 (i : Nat) : List (Nat × AV) → List (Nat × AV)
  | [] => []
  | (j, v) :: t => cond (Nat.beq j i || (Nat.beq j (i + 1) || (Nat.beq (j + 1) i && Nat.beq v.1 1))) (arm2 i t) ((j, v) :: arm2 i t)
theorem isC2_dn (g : SG) (a : AV) : isC2 (dn g a) = Nat.beq a.1 1 := by
  obtain ⟨t, b, c⟩ := a
  match t with
  | 0 => rfl
  | 1 => rfl
  | 2 => rfl
  | t + 3 => rfl
theorem alk_dn (g : SG) : ∀ (l : List (Nat × AV)) (i : Nat), lkp (dnL g l) i = (alk l i).map (dn g)
  | [], _ => rfl
  | (j, v) :: t, i => by
    show cond (Nat.beq j i) (some (dn g v)) (lkp (dnL g t) i) = Option.map (dn g) (cond (Nat.beq j i) (some v) (alk t i))
    rw [alk_dn g t i]
    cases Nat.beq j i <;> rfl
theorem alk_some {g : SG} {l : List (Nat × AV)} {i : Nat} {a : AV} (h : alk l i = some a) : lkp (dnL g l) i = some (dn g a) := by rw [alk_dn, h]; rfl
theorem arm1_dn (g : SG) (i : Nat) : ∀ l : List (Nat × AV), lrm1 i (dnL g l) = dnL g (arm1 i l)
  | [] => rfl
  | (j, v) :: t => by
    show cond (Nat.beq j i || (Nat.beq (j + 1) i && isC2 (dn g v))) (lrm1 i (dnL g t)) ((j, dn g v) :: lrm1 i (dnL g t)) = dnL g (cond _ _ _)
    rw [arm1_dn g i t, isC2_dn]
    cases Nat.beq j i <;> cases Nat.beq (j + 1) i <;> cases Nat.beq v.1 1 <;> rfl
theorem arm2_dn (g : SG) (i : Nat) : ∀ l : List (Nat × AV), lrm2 i (dnL g l) = dnL g (arm2 i l)
  | [] => rfl
  | (j, v) :: t => by
    show cond (Nat.beq j i || (Nat.beq j (i + 1) || (Nat.beq (j + 1) i && isC2 (dn g v)))) (lrm2 i (dnL g t)) ((j, dn g v) :: lrm2 i (dnL g t)) = dnL g (cond _ _ _)
    rw [arm2_dn g i t, isC2_dn]
    cases Nat.beq j i <;> cases Nat.beq j (i + 1) <;> cases Nat.beq (j + 1) i <;> cases Nat.beq v.1 1 <;> rfl
theorem als1_dn (g : SG) (i : Nat) (a : AV) (l : List (Nat × AV)) : lst1 i (dn g a) (dnL g l) = dnL g ((i, a) :: arm1 i l) := by
  show (i, dn g a) :: lrm1 i (dnL g l) = _
  rw [arm1_dn]
  rfl
theorem als2_dn (g : SG) (i : Nat) (a : AV) (l : List (Nat × AV)) : lst2 i (dn g a) (dnL g l) = dnL g ((i, a) :: arm2 i l) := by
  show (i, dn g a) :: lrm2 i (dnL g l) = _
  rw [arm2_dn]
  rfl
/-! names in range, more names -/
def scV (nI nL : Nat) (a : AV) : Bool := match a.1 with
  | 0 => Nat.blt a.2.1 nI
  | 1 => Nat.blt a.2.1 nL
  | _ => true
def Ext (nI nL : Nat) (g g' : SG) : Prop := (∀ b, b < nI → g'.1 b = g.1 b) ∧ ∀ b, b < nL → g'.2 b = g.2 b
theorem Ext.rf {nI nL : Nat} {g : SG} : Ext nI nL g g := ⟨fun _ _ => rfl, fun _ _ => rfl⟩
theorem Ext.tr {nI nL mI mL : Nat} {g g' g'' : SG} (h : Ext nI nL g g') (h' : Ext mI mL g' g'') (h1 : nI ≤ mI) (h2 : nL ≤ mL) : Ext nI nL g g'' :=
  ⟨fun b hb => (h'.1 b (Nat.lt_of_lt_of_le hb h1)).trans (h.1 b hb), fun b hb => (h'.2 b (Nat.lt_of_lt_of_le hb h2)).trans (h.2 b hb)⟩
theorem blt_lt {a b : Nat} (h : Nat.blt a b = true) : a < b := Nat.le_of_ble_eq_true h
theorem Ext.vd {nI nL : Nat} {g g' : SG} (h : Ext nI nL g g') {a : AV} (ha : scV nI nL a = true) : dn g' a = dn g a := by
  obtain ⟨t, b, c⟩ := a
  match t with
  | 0 =>
    have := h.1 b (blt_lt ha)
    show Value.int (iI (g'.1 b + c)) = Value.int (iI (g.1 b + c))
    rw [this]
  | 1 =>
    have := h.2 b (blt_lt ha)
    show Value.long (g'.2 b) = Value.long (g.2 b)
    rw [this]
  | 2 => rfl
  | t + 3 => rfl
theorem Ext.vI {nI nL : Nat} {g g' : SG} (h : Ext nI nL g g') {a : AV} (ha : a.2.1 < nI) : dI g' a = dI g a := by
  show g'.1 a.2.1 + a.2.2 = g.1 a.2.1 + a.2.2
  rw [h.1 _ ha]
theorem Ext.vL {nI nL : Nat} {g g' : SG} (h : Ext nI nL g g') {l : List (Nat × AV)} (hl : l.all (fun q => scV nI nL q.2) = true) : dnL g' l = dnL g l :=
  List.map_congr_left (fun q hq => by rw [h.vd (List.all_eq_true.mp hl q hq)])
theorem Ext.vS {nI nL : Nat} {g g' : SG} (h : Ext nI nL g g') {l : List AV} (hl : l.all (scV nI nL) = true) : dnS g' l = dnS g l :=
  List.map_congr_left (fun q hq => h.vd (List.all_eq_true.mp hl q hq))
