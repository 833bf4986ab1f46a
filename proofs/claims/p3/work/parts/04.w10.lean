/-! ===== VSE 10: one state held against another ===== -/
/-- an end: answer, ints' and longs' intervals, places, orders -/
abbrev AL : Type := Option AV × List IV × List IV × DLT × List (AV × AV)
/-- a contract: ints' and longs' intervals, arguments, places ahead, places that may be written, ends, frames and words of locals, the method's number -/
abbrev CT : Type := List IV × List IV × List AV × DLT × List (Nat × Option Nat) × List AL × Nat × Nat × Nat
abbrev cEi (c : CT) : List IV := c.1
abbrev cEl (c : CT) : List IV := c.2.1
abbrev cAr (c : CT) : List AV := c.2.2.1
abbrev cPr (c : CT) : DLT := c.2.2.2.1
abbrev cMd (c : CT) : List (Nat × Option Nat) := c.2.2.2.2.1
abbrev cAl (c : CT) : List AL := c.2.2.2.2.2.1
abbrev cFr (c : CT) : Nat := c.2.2.2.2.2.2.1
abbrev cLo (c : CT) : Nat := c.2.2.2.2.2.2.2.1
abbrev cId (c : CT) : Nat := c.2.2.2.2.2.2.2.2
abbrev aRs (a : AL) : Option AV := a.1
abbrev aEi (a : AL) : List IV := a.2.1
abbrev aEl (a : AL) : List IV := a.2.2.1
abbrev aDl (a : AL) : DLT := a.2.2.2.1
abbrev aGd (a : AL) : List (AV × AV) := a.2.2.2.2
abbrev MD : Type := MethodName × ByteArray × Nat × Option FieldType
def preC (V : VW) (G : GT) (c : CT) (g : SG) (X : XT) : Prop := g.1 0 = 0 ∧ eiOK (cEi c) g.1 ∧ elOK (cEl c) g.2 ∧ dlOK G (cPr c) g X ∧ HG V X ∧ G.2 X
def altP (V : VW) (G : GT) (c : CT) (g : SG) (X : XT) (r : Option Value) (X' : XT) : Prop := ∃ a ∈ cAl c, ∃ g', Ext (cEi c).length (cEl c).length g g' ∧ eiOK (aEi a) g'.1 ∧ elOK (aEl a) g'.2 ∧ r = (aRs a).map (dn g') ∧ dlOK G (aDl a) g' X' ∧ gdOK (aGd a) g' ∧ HG V X' ∧ G.2 X' ∧ FR (cMd c) X X'
def CTR (MT : Nat → MD) (V : VW) (G : GT) (w : WT) (c : CT) : Prop := ∀ g X, preC V G c g X → MetX w (MT (cId c)).1 (MT (cId c)).2.1 (MT (cId c)).2.2.1 (MT (cId c)).2.2.2 (cFr c) (cLo c) ((cAr c).map (dn g)) X (altP V G c g X)
/-- ghosts' intervals -/
def WGi (V : VW) (G : GT) : Prop := ∀ k X q, gho k = true → HG V X → G.2 X → (vgI V)[k - 900]? = some q → q.1 ≤ G.1 (k - 900) X ∧ G.1 (k - 900) X ≤ q.2
/-- unknown places get names -/
def matE (V : VW) : DLT → EV → Option EV
  | [], v => some v
  | ((k, i), p) :: t, v => match adl v.2.2.1 k i with
    | some _ => matE V t v
    | none => cond (gho k) (match (vgI V)[k - 900]? with
        | some q => matE V t (v.1 ++ [q], v.2.1, ((k, i), (0, v.1.length, 0)) :: v.2.2.1, v.2.2.2)
        | none => none) (match p.1 with
        | 0 => cond (Nat.beq (plK V k i) 0) (match gI V k i with
          | some q => matE V t (v.1 ++ [q], v.2.1, ((k, i), (0, v.1.length, 0)) :: v.2.2.1, v.2.2.2)
          | none => none) none
        | 1 => cond (Nat.beq (plK V k i) 1) (match gL V k i with
          | some q => matE V t (v.1, v.2.1 ++ [q], ((k, i), (1, v.2.1.length, 0)) :: v.2.2.1, v.2.2.2)
          | none => none) none
        | _ => none)
def sbA (I : List AV) (L : List Nat) (p : AV) : AV := match p.1 with
  | 0 => match I[p.2.1]? with
    | some a => (0, a.2.1, a.2.2 + p.2.2)
    | none => (9, 0, 0)
  | 1 => match L[p.2.1]? with
    | some b => (1, b, 0)
    | none => (9, 0, 0)
  | _ => p
def eqV (a b : AV) : Bool := Nat.beq a.1 b.1 && (match a.1 with
  | 0 => Nat.beq a.2.1 b.2.1 && decide (a.2.2 = b.2.2)
  | 1 => Nat.beq a.2.1 b.2.1
  | 2 => Nat.beq a.2.1 b.2.1
  | 3 => true
  | _ => false)
def sgO (g : SG) (I : List AV) (L : List Nat) : SG := (fun j => match I[j]? with | some a => dI g a | none => 0, fun j => match L[j]? with | some b => g.2 b | none => 0)
def colI (n : Nat) : List (AV × AV) → List AV
  | [] => []
  | (p, a) :: t => cond (Nat.beq p.1 0 && Nat.ble n p.2.1) (a :: colI n t) (colI n t)
def colL (n : Nat) : List (AV × AV) → List Nat
  | [] => []
  | (p, a) :: t => cond (Nat.beq p.1 1 && Nat.ble n p.2.1) (a.2.1 :: colL n t) (colL n t)
def allI (ei : List IV) : List AV → List IV → Bool
  | [], [] => true
  | a :: t, q :: r => (match ivO ei a with
    | some p => leI q.1 p.1 && leI p.2 q.2
    | none => false) && allI ei t r
  | _, _ => false
def allL (el : List IV) : List Nat → List IV → Bool
  | [], [] => true
  | b :: t, q :: r => (match el[b]? with
    | some p => leI q.1 p.1 && leI p.2 q.2
    | none => false) && allL el t r
  | _, _ => false
def leqB (ei : List IV) (gd : List (AV × AV)) (a b : AV) : Bool := (match ivO ei a, ivO ei b with
  | some p, some q => leI p.2 q.1
  | _, _ => false) || ((Nat.beq a.2.1 b.2.1 && leI a.2.2 b.2.2) || gd.any (fun q => Nat.beq q.1.2.1 a.2.1 && (Nat.beq q.2.2.1 b.2.1 && leI (a.2.2 - q.1.2.2) (b.2.2 - q.2.2.2))))
def mtc (PI : List AV) (PL : List Nat) (ei el : List IV) (gd : List (AV × AV)) (ps : List (AV × AV)) (v : EV) : Option (List AV × List Nat) :=
  cond (ps.all (fun q => eqV (sbA (PI ++ colI PI.length ps) (PL ++ colL PL.length ps) q.1) q.2) && (allI v.1 (PI ++ colI PI.length ps) ei && (allL v.2.1 (PL ++ colL PL.length ps) el && gd.all (fun q => leqB v.1 v.2.2.2.2 (sbA (PI ++ colI PI.length ps) (PL ++ colL PL.length ps) q.1) (sbA (PI ++ colI PI.length ps) (PL ++ colL PL.length ps) q.2) && (Nat.beq (sbA (PI ++ colI PI.length ps) (PL ++ colL PL.length ps) q.1).1 0 && Nat.beq (sbA (PI ++ colI PI.length ps) (PL ++ colL PL.length ps) q.2).1 0)))))
    (some (PI ++ colI PI.length ps, PL ++ colL PL.length ps)) none
/-- the known values of places, beside what they are called -/
def lkD (d : DLT) : DLT → Option (List (AV × AV))
  | [] => some []
  | ((k, i), p) :: t => match adl d k i, lkD d t with
    | some a, some r => some ((p, a) :: r)
    | _, _ => none
section V10
variable {V : VW} {G : GT} {md : List (Nat × Option Nat)} {X0 X : XT} {g : SG}
theorem scV_le {nI nL mI mL : Nat} (h1 : nI ≤ mI) (h2 : nL ≤ mL) {a : AV} (h : scV nI nL a = true) : scV mI mL a = true := by
  obtain ⟨t, b, c⟩ := a
  match t with
  | 0 => exact Nat.ble_eq_true_of_le (Nat.le_trans (Nat.le_of_ble_eq_true h) h1)
  | 1 => exact Nat.ble_eq_true_of_le (Nat.le_trans (Nat.le_of_ble_eq_true h) h2)
  | t + 2 => rfl
theorem blt_le {a b c : Nat} (h : Nat.blt a b = true) (hb : b ≤ c) : Nat.blt a c = true := Nat.ble_eq_true_of_le (Nat.le_trans (Nat.le_of_ble_eq_true h) hb)
theorem scE_up {ei el ei' el' : List IV} {dl ex : DLT} {lk : List (Nat × Nat × Nat)} {gd : List (AV × AV)} (h : scE (ei, el, dl, lk, gd) = true) (h1 : ei.length ≤ ei'.length) (h2 : el.length ≤ el'.length) (hx : ex.all (fun q => scV ei'.length el'.length q.2) = true) : scE (ei', el', ex ++ dl, lk, gd) = true := by
  obtain ⟨s1, s2, s3⟩ := and3 h
  show ((ex ++ dl).all (fun q => scV ei'.length el'.length q.2) && (lk.all (fun q => Nat.blt q.1 ei'.length && (Nat.blt q.2.1 el'.length && Nat.blt q.2.2 el'.length)) && gd.all (fun q => Nat.blt q.1.2.1 ei'.length && Nat.blt q.2.2.1 ei'.length))) = true
  rw [Bool.and_eq_true, Bool.and_eq_true, List.all_append, Bool.and_eq_true]
  refine ⟨⟨hx, List.all_eq_true.mpr (fun q hq => scV_le h1 h2 (List.all_eq_true.mp s1 q hq))⟩, List.all_eq_true.mpr (fun q hq => ?_), List.all_eq_true.mpr (fun q hq => ?_)⟩
  · obtain ⟨a, b, c⟩ := and3 (List.all_eq_true.mp s2 q hq)
    rw [blt_le a h1, blt_le b h2, blt_le c h2]
    rfl
  · have z := List.all_eq_true.mp s3 q hq
    rw [Bool.and_eq_true] at z
    rw [blt_le z.1 h1, blt_le z.2 h1]
    rfl
theorem matE_ok (hW : WD V G) (hI : WGi V G) : ∀ {d : DLT} {v v' : EV} {g : SG}, scE v = true → 0 < v.1.length → Gm V G md X0 v g X → matE V d v = some v' → ∃ g', Ext v.1.length v.2.1.length g g' ∧ Gm V G md X0 v' g' X ∧ scE v' = true ∧ v.1.length ≤ v'.1.length ∧ v.2.1.length ≤ v'.2.1.length
  | [], v, v', g, hs, _, hG, h => by
    cases h
    exact ⟨g, Ext.rf, hG, hs, Nat.le_refl _, Nat.le_refl _⟩
  | ((k, i), p) :: t, v, v', g, hs, hp, hG, h => by
    unfold matE at h
    cases ha : adl v.2.2.1 k i with
    | some a =>
      simp only [ha] at h
      exact matE_ok hW hI hs hp hG h
    | none =>
      simp only [ha] at h
      obtain ⟨ei, el, dl, lk, gd⟩ := v
      have hp : 0 < ei.length := hp
      have stepI : ∀ {q : IV} {z : Int}, q.1 ≤ z → z ≤ q.2 → (∀ g' : SG, g'.1 ei.length = z → locOK G k i (0, ei.length, 0) g' X) → matE V t (ei ++ [q], el, ((k, i), (0, ei.length, 0)) :: dl, lk, gd) = some v' → ∃ g', Ext ei.length el.length g g' ∧ Gm V G md X0 v' g' X ∧ scE v' = true ∧ ei.length ≤ v'.1.length ∧ el.length ≤ v'.2.1.length := by
        intro q z z1 z2 hl h
        obtain ⟨g1, e1, e2, e3⟩ := newI hs hG hp z1 z2
        have hs2 : scE (ei ++ [q], el, [((k, i), (0, ei.length, 0))] ++ dl, lk, gd) = true := scE_up hs (by rw [List.length_append]; omega) (Nat.le_refl _) (by
          show (Nat.blt ei.length (ei ++ [q]).length && true) = true
          rw [Bool.and_true, List.length_append]
          exact Nat.ble_eq_true_of_le (Nat.le_refl _))
        have hG2 : Gm V G md X0 (ei ++ [q], el, ((k, i), (0, ei.length, 0)) :: dl, lk, gd) g1 X := ⟨e3.1, e3.2.1, e3.2.2.1, fun r hr => by
          rcases List.mem_cons.mp hr with rfl | hr
          · exact hl g1 e2
          · exact e3.2.2.2.1 r hr, e3.2.2.2.2⟩
        obtain ⟨g2, f1, f2, f3, f4, f5⟩ := matE_ok hW hI hs2 (by show 0 < (ei ++ [q]).length; rw [List.length_append]; omega) hG2 h
        have f4 : (ei ++ [q]).length ≤ v'.1.length := f4
        rw [List.length_append] at f4
        refine ⟨g2, e1.tr f1 (by show ei.length ≤ (ei ++ [q]).length; rw [List.length_append]; omega) (Nat.le_refl _), f2, f3, by omega, f5⟩
      cases hk : gho k with
      | true =>
        simp only [hk, cond_true] at h
        cases hq : (vgI V)[k - 900]? with
        | none => simp only [hq] at h; cases h
        | some q =>
          simp only [hq] at h
          have hb := hI k X q hk hG.2.2.2.2.2.2.1 hG.2.2.2.2.2.2.2.1 hq
          exact stepI hb.1 hb.2 (fun g' hg => by
            unfold locOK
            rw [hk]
            exact ⟨rfl, by show _ = g'.1 ei.length + 0; rw [hg, Int.add_zero]⟩) h
      | false =>
        simp only [hk, cond_false] at h
        obtain ⟨tg, pb, pc⟩ := p
        match tg, h with
        | 0, h =>
          simp only at h
          cases hpl : Nat.beq (plK V k i) 0 with
          | false => rw [hpl] at h; cases h
          | true =>
            rw [hpl] at h
            simp only [cond_true] at h
            cases hq : gI V k i with
            | none => simp only [hq] at h; cases h
            | some q =>
              simp only [hq] at h
              have hb := hG.2.2.2.2.2.2.1.1 k i q (Nat.eq_of_beq_eq_true hpl) hq
              exact stepI hb.1 hb.2 (fun g' hg => loc_I hk (by show X.1 k i = g'.1 ei.length + 0; rw [hg, Int.add_zero])) h
        | 1, h =>
          simp only at h
          cases hpl : Nat.beq (plK V k i) 1 with
          | false => rw [hpl] at h; cases h
          | true =>
            rw [hpl] at h
            simp only [cond_true] at h
            cases hq : gL V k i with
            | none => simp only [hq] at h; cases h
            | some q =>
              simp only [hq] at h
              have hb := hG.2.2.2.2.2.2.1.2.1 k i q (Nat.eq_of_beq_eq_true hpl) hq
              obtain ⟨g1, e1, e2, e3⟩ := newL hs hG hb.1 hb.2
              have hs2 : scE (ei, el ++ [q], [((k, i), (1, el.length, 0))] ++ dl, lk, gd) = true := scE_up hs (Nat.le_refl _) (by rw [List.length_append]; omega) (by
                show (Nat.blt el.length (el ++ [q]).length && true) = true
                rw [Bool.and_true, List.length_append]
                exact Nat.ble_eq_true_of_le (Nat.le_refl _))
              have hG2 : Gm V G md X0 (ei, el ++ [q], ((k, i), (1, el.length, 0)) :: dl, lk, gd) g1 X := ⟨e3.1, e3.2.1, e3.2.2.1, fun r hr => by
                rcases List.mem_cons.mp hr with rfl | hr
                · exact loc_L hk (by rw [e2])
                · exact e3.2.2.2.1 r hr, e3.2.2.2.2⟩
              obtain ⟨g2, f1, f2, f3, f4, f5⟩ := matE_ok hW hI hs2 hp hG2 h
              have f5 : (el ++ [q]).length ≤ v'.2.1.length := f5
              rw [List.length_append] at f5
              exact ⟨g2, e1.tr f1 (Nat.le_refl _) (by show el.length ≤ (el ++ [q]).length; rw [List.length_append]; omega), f2, f3, f4, by show el.length ≤ _; omega⟩
        | tg + 2, h => cases h
theorem eqV_dI {a b : AV} (h : eqV a b = true) (ha : a.1 = 0) : b.1 = 0 ∧ dI g a = dI g b := by
  obtain ⟨t, x, y⟩ := a
  have ha : t = 0 := ha
  subst ha
  unfold eqV at h
  rw [Bool.and_eq_true] at h
  have h1 : 0 = b.1 := Nat.eq_of_beq_eq_true h.1
  have h2 : (Nat.beq x b.2.1 && decide (y = b.2.2)) = true := h.2
  rw [Bool.and_eq_true, decide_eq_true_iff] at h2
  refine ⟨h1.symm, ?_⟩
  show g.1 x + y = g.1 b.2.1 + b.2.2
  rw [Nat.eq_of_beq_eq_true h2.1, h2.2]
theorem dI_sgO {I : List AV} {L : List Nat} {b : Nat} {c : Int} {a : AV} (h : I[b]? = some a) : dI (sgO g I L) (0, b, c) = dI g (0, a.2.1, a.2.2 + c) := by
  show (match I[b]? with | some a => dI g a | none => 0) + c = g.1 a.2.1 + (a.2.2 + c)
  rw [h]
  show g.1 a.2.1 + a.2.2 + c = _
  rw [Int.add_assoc]
theorem dn_sb {I : List AV} {L : List Nat} {p a : AV} (h : eqV (sbA I L p) a = true) : dn (sgO g I L) p = dn g a := by
  obtain ⟨t, b, c⟩ := p
  match t, h with
  | 0, h =>
    unfold sbA at h
    simp only at h
    cases hI : I[b]? with
    | none =>
      simp only [hI] at h
      have h : (Nat.beq 9 a.1 && false) = true := h
      rw [Bool.and_false] at h
      cases h
    | some q =>
      simp only [hI] at h
      obtain ⟨h1, h2⟩ := eqV_dI (g := g) h rfl
      show Value.int (iI (dI (sgO g I L) (0, b, c))) = _
      rw [dI_sgO hI, h2, dn0 (by rw [h1]; rfl)]
  | 1, h =>
    unfold sbA at h
    simp only at h
    cases hL : L[b]? with
    | none =>
      simp only [hL] at h
      have h : (Nat.beq 9 a.1 && false) = true := h
      rw [Bool.and_false] at h
      cases h
    | some q =>
      simp only [hL] at h
      have h : (Nat.beq 1 a.1 && Nat.beq q a.2.1) = true := h
      rw [Bool.and_eq_true] at h
      have h1 : 1 = a.1 := Nat.eq_of_beq_eq_true h.1
      have h2 := Nat.eq_of_beq_eq_true h.2
      rw [dn1 (g := g) (a := a) (by rw [← h1]; rfl)]
      show Value.long (match L[b]? with | some b => g.2 b | none => 0) = _
      rw [hL, ← h2]
  | 2, h =>
    have h : (Nat.beq 2 a.1 && Nat.beq b a.2.1) = true := h
    rw [Bool.and_eq_true] at h
    have h1 : 2 = a.1 := Nat.eq_of_beq_eq_true h.1
    rw [dn2 (g := g) (a := a) (by rw [← h1]; rfl), ← Nat.eq_of_beq_eq_true h.2]
    rfl
  | 3, h =>
    have h : (Nat.beq 3 a.1 && true) = true := h
    rw [Bool.and_true] at h
    have h1 : 3 = a.1 := Nat.eq_of_beq_eq_true h
    rw [dn3 (g := g) (a := a) (by rw [← h1]; rfl)]
    rfl
  | t + 4, h =>
    have h : (Nat.beq (t + 4) a.1 && false) = true := h
    rw [Bool.and_false] at h
    cases h
/-- a place's value under another reading of the names -/
theorem loc_cg {k i : Nat} {p a : AV} {g0 : SG} (ht : p.1 = a.1) (h0 : p.1 = 0 → dI g0 p = dI g a) (h1 : p.1 = 1 → g0.2 p.2.1 = g.2 a.2.1) (h2 : p.1 = 2 → p.2.1 = a.2.1) (h : locOK G k i a g X) : locOK G k i p g0 X := by
  obtain ⟨t, b, c⟩ := p
  obtain ⟨t', b', c'⟩ := a
  have ht : t = t' := ht
  subst ht
  unfold locOK at h ⊢
  cases hk : gho k with
  | true =>
    rw [hk] at h
    obtain ⟨e1, e2⟩ := h
    exact ⟨e1, e2.trans (h0 e1).symm⟩
  | false =>
    rw [hk] at h
    match t with
    | 0 => exact h.trans (h0 rfl).symm
    | 1 => exact h.trans (h1 rfl).symm
    | 2 => exact h.trans (congrArg some (h2 rfl).symm)
    | t + 3 => exact h
theorem loc_sb {I : List AV} {L : List Nat} {k i : Nat} {p a : AV} (h : eqV (sbA I L p) a = true) (hl : locOK G k i a g X) : locOK G k i p (sgO g I L) X := by
  obtain ⟨t, b, c⟩ := p
  match t, h with
  | 0, h =>
    unfold sbA at h
    simp only at h
    cases hI : I[b]? with
    | none =>
      simp only [hI] at h
      have h : (Nat.beq 9 a.1 && false) = true := h
      rw [Bool.and_false] at h
      cases h
    | some q =>
      simp only [hI] at h
      obtain ⟨h1, h2⟩ := eqV_dI (g := g) h rfl
      exact loc_cg h1.symm (fun _ => by rw [dI_sgO hI]; exact h2) (fun h => absurd h (by show ¬ (0 : Nat) = 1; decide)) (fun h => absurd h (by show ¬ (0 : Nat) = 2; decide)) hl
  | 1, h =>
    unfold sbA at h
    simp only at h
    cases hL : L[b]? with
    | none =>
      simp only [hL] at h
      have h : (Nat.beq 9 a.1 && false) = true := h
      rw [Bool.and_false] at h
      cases h
    | some q =>
      simp only [hL] at h
      have h : (Nat.beq 1 a.1 && Nat.beq q a.2.1) = true := h
      rw [Bool.and_eq_true] at h
      refine loc_cg (Nat.eq_of_beq_eq_true h.1) (fun h => absurd h (by show ¬ (1 : Nat) = 0; decide)) (fun _ => ?_) (fun h => absurd h (by show ¬ (1 : Nat) = 2; decide)) hl
      show (match L[b]? with | some b => g.2 b | none => 0) = _
      rw [hL, ← Nat.eq_of_beq_eq_true h.2]
  | 2, h =>
    have h : (Nat.beq 2 a.1 && Nat.beq b a.2.1) = true := h
    rw [Bool.and_eq_true] at h
    exact loc_cg (Nat.eq_of_beq_eq_true h.1) (fun h => absurd h (by show ¬ (2 : Nat) = 0; decide)) (fun h => absurd h (by show ¬ (2 : Nat) = 1; decide)) (fun _ => Nat.eq_of_beq_eq_true h.2) hl
  | 3, h =>
    have h : (Nat.beq 3 a.1 && true) = true := h
    rw [Bool.and_true] at h
    exact loc_cg (Nat.eq_of_beq_eq_true h) (fun h => absurd h (by show ¬ (3 : Nat) = 0; decide)) (fun h => absurd h (by show ¬ (3 : Nat) = 1; decide)) (fun h => absurd h (by show ¬ (3 : Nat) = 2; decide)) hl
  | t + 4, h =>
    have h : (Nat.beq (t + 4) a.1 && false) = true := h
    rw [Bool.and_false] at h
    cases h
theorem allI_ok {ei : List IV} (he : eiOK ei g.1) : ∀ {I : List AV} {T : List IV}, allI ei I T = true → I.length = T.length ∧ ∀ (j : Nat) (q : IV), T[j]? = some q → ∃ a, I[j]? = some a ∧ a.2.1 < ei.length ∧ q.1 ≤ dI g a ∧ dI g a ≤ q.2
  | [], [], _ => ⟨rfl, fun j q h => by simp at h⟩
  | [], _ :: _, h => by cases h
  | _ :: _, [], h => by cases h
  | a :: t, q :: r, h => by
    unfold allI at h
    rw [Bool.and_eq_true] at h
    obtain ⟨h1, h2⟩ := h
    obtain ⟨h3, h4⟩ := allI_ok he h2
    refine ⟨by rw [List.length_cons, List.length_cons, h3], fun j p hp => ?_⟩
    cases j with
    | succ j => exact h4 j p hp
    | zero =>
      cases hp
      cases hi : ivO ei a with
      | none => rw [hi] at h1; cases h1
      | some z =>
        rw [hi] at h1
        have h1 : (leI q.1 z.1 && leI z.2 q.2) = true := h1
        rw [Bool.and_eq_true, leI_iff, leI_iff] at h1
        have hb := ivO_ok he hi
        refine ⟨a, rfl, ?_, by omega, by omega⟩
        rcases Nat.lt_or_ge a.2.1 ei.length with hl | hl
        · exact hl
        · unfold ivO at hi
          rw [List.getElem?_eq_none hl] at hi
          cases hi
theorem allL_ok {el : List IV} (he : elOK el g.2) : ∀ {L : List Nat} {T : List IV}, allL el L T = true → L.length = T.length ∧ ∀ (j : Nat) (q : IV), T[j]? = some q → ∃ b, L[j]? = some b ∧ b < el.length ∧ q.1 ≤ (g.2 b).toInt ∧ (g.2 b).toInt ≤ q.2
  | [], [], _ => ⟨rfl, fun j q h => by simp at h⟩
  | [], _ :: _, h => by cases h
  | _ :: _, [], h => by cases h
  | b :: t, q :: r, h => by
    unfold allL at h
    rw [Bool.and_eq_true] at h
    obtain ⟨h1, h2⟩ := h
    obtain ⟨h3, h4⟩ := allL_ok he h2
    refine ⟨by rw [List.length_cons, List.length_cons, h3], fun j p hp => ?_⟩
    cases j with
    | succ j => exact h4 j p hp
    | zero =>
      cases hp
      cases hi : el[b]? with
      | none => rw [hi] at h1; cases h1
      | some z =>
        rw [hi] at h1
        have h1 : (leI q.1 z.1 && leI z.2 q.2) = true := h1
        rw [Bool.and_eq_true, leI_iff, leI_iff] at h1
        have hb := he _ _ hi
        refine ⟨b, rfl, ?_, by omega, by omega⟩
        rcases Nat.lt_or_ge b el.length with hl | hl
        · exact hl
        · rw [List.getElem?_eq_none hl] at hi
          cases hi
theorem leqB_ok {ei : List IV} {gd : List (AV × AV)} {a b : AV} (he : eiOK ei g.1) (hg : gdOK gd g) (h : leqB ei gd a b = true) : dI g a ≤ dI g b := by
  unfold leqB at h
  rw [Bool.or_eq_true, Bool.or_eq_true] at h
  rcases h with h | h | h
  · cases hp : ivO ei a with
    | none => rw [hp] at h; cases h
    | some p =>
      cases hq : ivO ei b with
      | none => rw [hp, hq] at h; cases h
      | some q =>
        rw [hp, hq] at h
        have h := leI_of h
        have h1 := ivO_ok he hp
        have h2 := ivO_ok he hq
        omega
  · rw [Bool.and_eq_true, leI_iff] at h
    unfold dI
    rw [Nat.eq_of_beq_eq_true h.1]
    omega
  · obtain ⟨q, hq, h2⟩ := List.any_eq_true.mp h
    obtain ⟨h3, h4, h5⟩ := and3 h2
    rw [leI_iff] at h5
    have h6 := hg q hq
    unfold dI at h6 ⊢
    rw [← Nat.eq_of_beq_eq_true h3, ← Nat.eq_of_beq_eq_true h4]
    omega
theorem mtc_ok {PI : List AV} {PL : List Nat} {ei el : List IV} {gd : List (AV × AV)} {ps : List (AV × AV)} {v : EV} {I : List AV} {L : List Nat} (hG : Gm V G md X0 v g X) (h : mtc PI PL ei el gd ps v = some (I, L)) : I = PI ++ colI PI.length ps ∧ L = PL ++ colL PL.length ps ∧ (∀ q ∈ ps, eqV (sbA I L q.1) q.2 = true) ∧ I.length = ei.length ∧ L.length = el.length ∧ (∀ (j : Nat) a, I[j]? = some a → a.2.1 < v.1.length) ∧ (∀ (j : Nat) b, L[j]? = some b → b < v.2.1.length) ∧ eiOK ei (sgO g I L).1 ∧ elOK el (sgO g I L).2 ∧ gdOK gd (sgO g I L) := by
  unfold mtc at h
  cases hc : (ps.all (fun q => eqV (sbA (PI ++ colI PI.length ps) (PL ++ colL PL.length ps) q.1) q.2) && (allI v.1 (PI ++ colI PI.length ps) ei && (allL v.2.1 (PL ++ colL PL.length ps) el && gd.all (fun q => leqB v.1 v.2.2.2.2 (sbA (PI ++ colI PI.length ps) (PL ++ colL PL.length ps) q.1) (sbA (PI ++ colI PI.length ps) (PL ++ colL PL.length ps) q.2) && (Nat.beq (sbA (PI ++ colI PI.length ps) (PL ++ colL PL.length ps) q.1).1 0 && Nat.beq (sbA (PI ++ colI PI.length ps) (PL ++ colL PL.length ps) q.2).1 0))))) with
  | false => rw [hc] at h; cases h
  | true =>
    rw [hc] at h
    cases h
    obtain ⟨h1, h2, h3⟩ := and3 hc
    rw [Bool.and_eq_true] at h3
    obtain ⟨h3, h4⟩ := h3
    obtain ⟨l1, l2⟩ := allI_ok hG.2.1 h2
    obtain ⟨m1, m2⟩ := allL_ok hG.2.2.1 h3
    refine ⟨rfl, rfl, fun q hq => List.all_eq_true.mp h1 q hq, l1, m1, fun j a ha => ?_, fun j b hb => ?_, fun j q hq => ?_, fun j q hq => ?_, fun q hq => ?_⟩
    · have hj : j < ei.length := by rw [← l1]; exact (List.getElem?_eq_some_iff.mp ha).1
      obtain ⟨a', e1, e2, _⟩ := l2 j _ (List.getElem?_eq_getElem hj)
      rw [ha] at e1
      cases e1
      exact e2
    · have hj : j < el.length := by rw [← m1]; exact (List.getElem?_eq_some_iff.mp hb).1
      obtain ⟨b', e1, e2, _⟩ := m2 j _ (List.getElem?_eq_getElem hj)
      rw [hb] at e1
      cases e1
      exact e2
    · obtain ⟨a, e1, _, e2, e3⟩ := l2 j q hq
      show q.1 ≤ (match (PI ++ colI PI.length ps)[j]? with | some a => dI g a | none => 0) ∧ (match (PI ++ colI PI.length ps)[j]? with | some a => dI g a | none => 0) ≤ q.2
      rw [e1]
      exact ⟨e2, e3⟩
    · obtain ⟨b, e1, _, e2, e3⟩ := m2 j q hq
      show q.1 ≤ Int64.toInt (match (PL ++ colL PL.length ps)[j]? with | some b => g.2 b | none => 0) ∧ Int64.toInt (match (PL ++ colL PL.length ps)[j]? with | some b => g.2 b | none => 0) ≤ q.2
      rw [e1]
      exact ⟨e2, e3⟩
    · have h5 := List.all_eq_true.mp h4 q hq
      obtain ⟨h6, h7, h8⟩ := and3 h5
      have h9 := leqB_ok hG.2.1 hG.2.2.2.2.2.1 h6
      have tr : ∀ p : AV, Nat.beq (sbA (PI ++ colI PI.length ps) (PL ++ colL PL.length ps) p).1 0 = true → dI (sgO g (PI ++ colI PI.length ps) (PL ++ colL PL.length ps)) p = dI g (sbA (PI ++ colI PI.length ps) (PL ++ colL PL.length ps) p) := by
        intro p hp
        obtain ⟨t, b, c⟩ := p
        match t, hp with
        | 0, hp =>
          unfold sbA at hp ⊢
          simp only at hp ⊢
          cases hI : (PI ++ colI PI.length ps)[b]? with
          | none => rw [hI] at hp; cases hp
          | some a => simp only; exact dI_sgO hI
        | 1, hp =>
          unfold sbA at hp
          simp only at hp
          cases hL : (PL ++ colL PL.length ps)[b]? with
          | none => rw [hL] at hp; cases hp
          | some a => rw [hL] at hp; cases hp
        | t + 2, hp => cases hp
      rw [tr q.1 h7, tr q.2 h8]
      exact h9
theorem lkD_ok {d : DLT} : ∀ {D : DLT} {r : List (AV × AV)}, lkD d D = some r → ∀ q ∈ D, ∃ a, (q.2, a) ∈ r ∧ ((q.1.1, q.1.2), a) ∈ d
  | [], r, h, q, hq => by cases hq
  | ((k, i), p) :: t, r, h, q, hq => by
    unfold lkD at h
    cases ha : adl d k i with
    | none => rw [ha] at h; cases h
    | some a =>
      cases hr : lkD d t with
      | none => rw [ha, hr] at h; cases h
      | some r' =>
        rw [ha, hr] at h
        cases h
        rcases List.mem_cons.mp hq with rfl | hq
        · exact ⟨a, List.mem_cons_self, adl_mem ha⟩
        · obtain ⟨b, e1, e2⟩ := lkD_ok hr q hq
          exact ⟨b, List.mem_cons_of_mem _ e1, e2⟩
end V10
