/-! ===== VSE 11: calls by contract ===== -/
def rfAll : List AV → List IV → List IV → Option (List IV)
  | a :: t, q :: r, ei => match rfn ei a q.1 q.2 with
    | some e => rfAll t r e
    | none => none
  | _, _, ei => some ei
def rlAll : List Nat → List IV → List IV → Option (List IV)
  | b :: t, q :: r, el => match rfl_ el b q.1 q.2 with
    | some e => rlAll t r e
    | none => none
  | _, _, el => some el
def prp : List (AV × AV) → List IV → Option (List IV)
  | [], ei => some ei
  | (a, b) :: t, ei => match asLe ei a b with
    | some e => prp t e
    | none => none
/-- a contract's value in the caller's names: old ones by what was given, new ones behind the caller's -/
def m2 (I : List AV) (L : List Nat) (bI bL : Nat) (p : AV) : AV := match p.1 with
  | 0 => match I[p.2.1]? with
    | some a => (0, a.2.1, a.2.2 + p.2.2)
    | none => (0, bI + (p.2.1 - I.length), p.2.2)
  | 1 => match L[p.2.1]? with
    | some b => (1, b, 0)
    | none => (1, bL + (p.2.1 - L.length), 0)
  | _ => p
def covM (md : List (Nat × Option Nat)) (q : Nat × Option Nat) : Bool := match q.2 with
  | none => mdA md q.1
  | some i => inM md q.1 i
/-- an end's orders are the contract's own names' -/
def gdW (c : CT) (a : AL) : Bool := Nat.ble (cEi c).length (aEi a).length && (aGd a).all (fun q => (Nat.beq q.1.1 0 && Nat.blt q.1.2.1 (aEi a).length) && (Nat.beq q.2.1 0 && Nat.blt q.2.2.1 (aEi a).length))
def apA (V : VW) (c : CT) (I : List AV) (L : List Nat) (pc : Nat) (lv : List (Nat × AV)) (rest : List AV) (v : EV) (a : AL) : List SS := match rfAll I (aEi a) v.1, rlAll L (aEl a) v.2.1 with
  | some e, some l => match prp ((aGd a).map (fun q => (m2 I L v.1.length v.2.1.length q.1, m2 I L v.1.length v.2.1.length q.2))) (e ++ (aEi a).drop I.length) with
    | some e2 => [(pc + 3, lv, (match aRs a with | some p => [m2 I L v.1.length v.2.1.length p] | none => []) ++ rest, (e2, l ++ (aEl a).drop L.length, (aDl a).map (fun q => (q.1, m2 I L v.1.length v.2.1.length q.2)) ++ dkill V v.2.2.1 (cMd c), v.2.2.2.1, (aGd a).map (fun q => (m2 I L v.1.length v.2.1.length q.1, m2 I L v.1.length v.2.1.length q.2)) ++ v.2.2.2.2))]
    | none => []
  | _, _ => []
/-- a method that is called: kind, how many values, the receiver's class and slots, locals, the method's number -/
abbrev CE : Type := Nat × Nat × Nat × Nat × Nat × Nat
def rcvO (V : VW) (ce : CE) (As : List AV) : Bool := match ce.1 with
  | 0 => match As with
    | a :: _ => Nat.beq a.1 2 && isO V a.2.1 ce.2.2.1 ce.2.2.2.1
    | [] => false
  | _ => true
def sCl (M : MS) (ce : CE) (c : CT) (pc : Nat) (lv : List (Nat × AV)) (st : List AV) (v : EV) : Option (List SS) :=
  cond (Nat.beq (cId c) ce.2.2.2.2.2 && (Nat.beq (cAr c).length ce.2.1 && (Nat.ble ce.2.1 st.length && ((cMd c).all (covM (mMd M)) && (rcvO (mV M) ce (st.take ce.2.1).reverse && (Nat.ble (catS (st.drop ce.2.1)) 8 && (Nat.ble (cFr c + 1) (mFr M) && Nat.ble (8 + (ce.2.2.2.2.1 + 11) + cLo c) (mLo M))))))))
    (match matE (mV M) (cPr c) v with
    | some v1 => match lkD v1.2.2.1 (cPr c) with
      | some pp => match mtc [(0, 0, 0)] [] (cEi c) (cEl c) [] ((cAr c).zip (st.take ce.2.1).reverse ++ pp) v1 with
        | some (I, L) => some ((cAl c).flatMap (apA (mV M) c I L pc lv (st.drop ce.2.1) v1))
        | none => none
      | none => none
    | none => none) none
def CRl (MT : Nat → MD) (w : WT) (own : String) (idx : Nat) (ce : CE) : Prop := ∀ {E : ET} {cc : ByteArray} {nL : Nat} {ret : Option FieldType} {rm : Room} {pc : Nat}, CX E w cc nL own ret rm → decode cc pc = .ok (tI (0, 0, 20, (idx : Int), (ce.1 : Int), [])) → ∀ {X : XT} {As rest : List Value} {lv : List (Nat × Value)} {fr lo : Nat} {post : Option Value → XT → Prop}, (ce.1 = 0 → ∃ k As', As = .ref k :: As' ∧ k < wN w ∧ wS w k = (0, ce.2.2.1, ce.2.2.2.1)) → MetX w (MT ce.2.2.2.2.2).1 (MT ce.2.2.2.2.2).2.1 (MT ce.2.2.2.2.2).2.2.1 (MT ce.2.2.2.2.2).2.2.2 fr lo As X post → As.length = ce.2.1 → (rest.map fun v => v.category).sum ≤ 8 → fr + 1 ≤ rm.frames ∧ 8 + (ce.2.2.2.2.1 + 11) + lo ≤ rm.locals → (∀ (r : Option Value) (X' : XT), post r X' → Wx E w nL (PX w X') (pc + 3) lv (r.toList ++ rest)) → Wx E w nL (PX w X) pc lv (As.reverse ++ rest)
section V11
variable {E : ET} {w : WT} {nL : Nat} {pc : Nat} {cc : ByteArray} {own : String} {ret : Option FieldType} {rm : Room} {V : VW} {G : GT} {md : List (Nat × Option Nat)} {X0 X : XT} {g : SG} {lvv : List (Nat × Value)} {stv : List Value}
theorem prp_ok : ∀ {gd : List (AV × AV)} {ei : List IV}, eiOK ei g.1 → gdOK gd g → gd.all (fun q => Nat.blt q.1.2.1 ei.length && Nat.blt q.2.2.1 ei.length) = true → ∃ e, prp gd ei = some e ∧ eiOK e g.1 ∧ e.length = ei.length
  | [], ei, he, _, _ => ⟨ei, rfl, he, rfl⟩
  | (a, b) :: t, ei, he, hg, hs => by
    have hs : ((Nat.blt a.2.1 ei.length && Nat.blt b.2.1 ei.length) && t.all (fun q => Nat.blt q.1.2.1 ei.length && Nat.blt q.2.2.1 ei.length)) = true := hs
    rw [Bool.and_eq_true, Bool.and_eq_true] at hs
    obtain ⟨e1, a1, a2, a3⟩ := asLe_ok he (blt_lt hs.1.1) (blt_lt hs.1.2) (hg (a, b) List.mem_cons_self)
    obtain ⟨e2, b1, b2, b3⟩ := prp_ok (gd := t) a2 (fun q hq => hg q (List.mem_cons_of_mem _ hq)) (by rw [a3]; exact hs.2)
    refine ⟨e2, ?_, b2, b3.trans a3⟩
    unfold prp
    rw [a1]
    exact b1
theorem rfAll_ok : ∀ {I : List AV} {T ei : List IV}, eiOK ei g.1 → (∀ (j : Nat) a, I[j]? = some a → a.2.1 < ei.length) → (∀ (j : Nat) a q, I[j]? = some a → T[j]? = some q → q.1 ≤ dI g a ∧ dI g a ≤ q.2) → ∃ e, rfAll I T ei = some e ∧ eiOK e g.1 ∧ e.length = ei.length
  | [], _, ei, he, _, _ => ⟨ei, by unfold rfAll; rfl, he, rfl⟩
  | _ :: _, [], ei, he, _, _ => ⟨ei, by unfold rfAll; rfl, he, rfl⟩
  | a :: t, q :: r, ei, he, hl, hb => by
    have h0 := hb 0 a q rfl rfl
    obtain ⟨e1, a1, a2, a3⟩ := rfn_ok he (hl 0 a rfl) h0.1 h0.2
    obtain ⟨e2, b1, b2, b3⟩ := rfAll_ok (I := t) (T := r) a2 (fun j x hx => by rw [a3]; exact hl (j + 1) x hx) (fun j x y hx hy => hb (j + 1) x y hx hy)
    refine ⟨e2, ?_, b2, b3.trans a3⟩
    unfold rfAll
    rw [a1]
    exact b1
theorem rlAll_ok : ∀ {L : List Nat} {T el : List IV}, elOK el g.2 → (∀ (j : Nat) b, L[j]? = some b → b < el.length) → (∀ (j : Nat) b q, L[j]? = some b → T[j]? = some q → q.1 ≤ (g.2 b).toInt ∧ (g.2 b).toInt ≤ q.2) → ∃ e, rlAll L T el = some e ∧ elOK e g.2 ∧ e.length = el.length
  | [], _, el, he, _, _ => ⟨el, by unfold rlAll; rfl, he, rfl⟩
  | _ :: _, [], el, he, _, _ => ⟨el, by unfold rlAll; rfl, he, rfl⟩
  | b :: t, q :: r, el, he, hl, hb => by
    have h0 := hb 0 b q rfl rfl
    obtain ⟨e1, a1, a2, a3⟩ := rfl_ok he (hl 0 b rfl) h0.1 h0.2
    obtain ⟨e2, b1, b2, b3⟩ := rlAll_ok (L := t) (T := r) a2 (fun j x hx => by rw [a3]; exact hl (j + 1) x hx) (fun j x y hx hy => hb (j + 1) x y hx hy)
    refine ⟨e2, ?_, b2, b3.trans a3⟩
    unfold rlAll
    rw [a1]
    exact b1
/-- names behind a call: the caller's, then the new ones of the callee -/
def sgJ (g g1 : SG) (bI bL nI nG : Nat) : SG := (fun b => if b < bI then g.1 b else g1.1 (nI + (b - bI)), fun b => if b < bL then g.2 b else g1.2 (nG + (b - bL)))
theorem sgJ_ext {g g1 : SG} {bI bL nI nG : Nat} : Ext bI bL g (sgJ g g1 bI bL nI nG) := ⟨fun b hb => if_pos hb, fun b hb => if_pos hb⟩
theorem m2_I {I : List AV} {L : List Nat} {bI bL : Nat} {g1 : SG} (hI : ∀ (j : Nat) a, I[j]? = some a → a.2.1 < bI) (he : Ext I.length L.length (sgO g I L) g1) {p : AV} (hp : p.1 = 0) : (m2 I L bI bL p).1 = 0 ∧ dI (sgJ g g1 bI bL I.length L.length) (m2 I L bI bL p) = dI g1 p := by
  obtain ⟨t, b, c⟩ := p
  have hp : t = 0 := hp
  subst hp
  unfold m2
  simp only
  cases hb : I[b]? with
  | some a =>
    simp only
    refine ⟨trivial, ?_⟩
    have h1 : b < I.length := (List.getElem?_eq_some_iff.mp hb).1
    show (if a.2.1 < bI then g.1 a.2.1 else _) + (a.2.2 + c) = g1.1 b + c
    rw [if_pos (hI b a hb), he.1 b h1]
    show _ = (match I[b]? with | some a => dI g a | none => 0) + c
    rw [hb]
    show g.1 a.2.1 + (a.2.2 + c) = g.1 a.2.1 + a.2.2 + c
    rw [Int.add_assoc]
  | none =>
    simp only
    refine ⟨trivial, ?_⟩
    have h1 : I.length ≤ b := List.getElem?_eq_none_iff.mp hb
    show (if bI + (b - I.length) < bI then _ else g1.1 (I.length + (bI + (b - I.length) - bI))) + c = g1.1 b + c
    rw [if_neg (by omega), show I.length + (bI + (b - I.length) - bI) = b by omega]
theorem m2_L {I : List AV} {L : List Nat} {bI bL : Nat} {g1 : SG} (hL : ∀ (j : Nat) b, L[j]? = some b → b < bL) (he : Ext I.length L.length (sgO g I L) g1) {p : AV} (hp : p.1 = 1) : (m2 I L bI bL p).1 = 1 ∧ (sgJ g g1 bI bL I.length L.length).2 (m2 I L bI bL p).2.1 = g1.2 p.2.1 := by
  obtain ⟨t, b, c⟩ := p
  have hp : t = 1 := hp
  subst hp
  unfold m2
  simp only
  cases hb : L[b]? with
  | some a =>
    simp only
    refine ⟨trivial, ?_⟩
    have h1 : b < L.length := (List.getElem?_eq_some_iff.mp hb).1
    show (if a < bL then g.2 a else _) = g1.2 b
    rw [if_pos (hL b a hb), he.2 b h1]
    show _ = (match L[b]? with | some b => g.2 b | none => 0)
    rw [hb]
  | none =>
    simp only
    refine ⟨trivial, ?_⟩
    have h1 : L.length ≤ b := List.getElem?_eq_none_iff.mp hb
    show (if bL + (b - L.length) < bL then _ else g1.2 (L.length + (bL + (b - L.length) - bL))) = g1.2 b
    rw [if_neg (by omega), show L.length + (bL + (b - L.length) - bL) = b by omega]
theorem m2_dn {I : List AV} {L : List Nat} {bI bL : Nat} {g1 : SG} (hI : ∀ (j : Nat) a, I[j]? = some a → a.2.1 < bI) (hL : ∀ (j : Nat) b, L[j]? = some b → b < bL) (he : Ext I.length L.length (sgO g I L) g1) (p : AV) : dn (sgJ g g1 bI bL I.length L.length) (m2 I L bI bL p) = dn g1 p := by
  obtain ⟨t, b, c⟩ := p
  match t with
  | 0 =>
    obtain ⟨e1, e2⟩ := m2_I (bL := bL) hI he (p := (0, b, c)) rfl
    rw [dn0 (by rw [e1]; rfl), e2]
    rfl
  | 1 =>
    obtain ⟨e1, e2⟩ := m2_L (bI := bI) hL he (p := (1, b, c)) rfl
    rw [dn1 (by rw [e1]; rfl), e2]
    rfl
  | 2 => rfl
  | t + 3 => rfl
theorem m2_loc {I : List AV} {L : List Nat} {bI bL : Nat} {g1 : SG} (hI : ∀ (j : Nat) a, I[j]? = some a → a.2.1 < bI) (hL : ∀ (j : Nat) b, L[j]? = some b → b < bL) (he : Ext I.length L.length (sgO g I L) g1) {k i : Nat} {p : AV} (h : locOK G k i p g1 X) : locOK G k i (m2 I L bI bL p) (sgJ g g1 bI bL I.length L.length) X := by
  obtain ⟨t, b, c⟩ := p
  match t with
  | 0 =>
    obtain ⟨e1, e2⟩ := m2_I (bL := bL) hI he (p := (0, b, c)) rfl
    exact loc_cg e1 (fun _ => e2) (fun h => absurd (e1.symm.trans h) (by decide)) (fun h => absurd (e1.symm.trans h) (by decide)) h
  | 1 =>
    obtain ⟨e1, e2⟩ := m2_L (bI := bI) hL he (p := (1, b, c)) rfl
    exact loc_cg e1 (fun h => absurd (e1.symm.trans h) (by decide)) (fun _ => e2) (fun h => absurd (e1.symm.trans h) (by decide)) h
  | t + 2 => exact loc_cg rfl (fun h => absurd h (by show ¬ t + 2 = 0; omega)) (fun h => absurd h (by show ¬ t + 2 = 1; omega)) (fun _ => rfl) h
theorem covM_ok {cm : List (Nat × Option Nat)} (h : cm.all (covM md) = true) {a b : Nat} (hab : inM cm a b = true) : inM md a b = true := by
  unfold inM at hab
  obtain ⟨q, h1, h2⟩ := List.any_eq_true.mp hab
  have h3 := List.all_eq_true.mp h q h1
  rw [Bool.and_eq_true] at h2
  have h4 := Nat.eq_of_beq_eq_true h2.1
  obtain ⟨q1, q2⟩ := q
  have h4 : q1 = a := h4
  subst h4
  cases q2 with
  | none => exact mdA_in h3
  | some i =>
    have h5 : i = b := Nat.eq_of_beq_eq_true h2.2
    subst h5
    exact h3
theorem drop_at {α : Type} {l : List α} {n b : Nat} {q : α} (h : (l.drop n)[b]? = some q) : l[n + b]? = some q := by
  rw [List.getElem?_drop] at h
  exact h
theorem app_get {α : Type} {e d : List α} {b : Nat} {q : α} (h : (e ++ d)[b]? = some q) : (b < e.length ∧ e[b]? = some q) ∨ (e.length ≤ b ∧ d[b - e.length]? = some q) := by
  rcases Nat.lt_or_ge b e.length with hb | hb
  · rw [List.getElem?_append_left hb] at h
    exact Or.inl ⟨hb, h⟩
  · rw [List.getElem?_append_right hb] at h
    exact Or.inr ⟨hb, h⟩
theorem apA_ok (hW : WD V G) {c : CT} {I : List AV} {L : List Nat} {lv : List (Nat × AV)} {rest : List AV} {v : EV} {a : AL} {X' : XT} {g1 : SG} (hG : Gm V G md X0 v g X) (hs : scE v = true) (hp : 0 < v.1.length) (hI : ∀ (j : Nat) a, I[j]? = some a → a.2.1 < v.1.length) (hL : ∀ (j : Nat) b, L[j]? = some b → b < v.2.1.length) (he : Ext I.length L.length (sgO g I L) g1) (h1 : eiOK (aEi a) g1.1) (h2 : elOK (aEl a) g1.2) (h3 : dlOK G (aDl a) g1 X') (h4 : gdOK (aGd a) g1) (h4b : gdW c a = true) (hIc : I.length = (cEi c).length) (h5 : HG V X') (h6 : G.2 X') (h7 : FR (cMd c) X X') (hm : (cMd c).all (covM md) = true) : ∃ s ∈ apA V c I L pc lv rest v a, s.1 = pc + 3 ∧ s.2.1 = lv ∧ s.2.2.1 = (match aRs a with | some p => [m2 I L v.1.length v.2.1.length p] | none => []) ++ rest ∧ Gm V G md X0 s.2.2.2 (sgJ g g1 v.1.length v.2.1.length I.length L.length) X' := by
  have atI : ∀ (j : Nat) x, I[j]? = some x → g1.1 j = dI g x := by
    intro j x hx
    rw [he.1 j (List.getElem?_eq_some_iff.mp hx).1]
    show (match I[j]? with | some a => dI g a | none => 0) = _
    rw [hx]
  have atL : ∀ (j : Nat) x, L[j]? = some x → g1.2 j = g.2 x := by
    intro j x hx
    rw [he.2 j (List.getElem?_eq_some_iff.mp hx).1]
    show (match L[j]? with | some b => g.2 b | none => 0) = _
    rw [hx]
  obtain ⟨e, e1, e2, e3⟩ := rfAll_ok (I := I) (T := aEi a) hG.2.1 hI (fun j x q hx hq => by rw [← atI j x hx]; exact h1 j q hq)
  obtain ⟨l, l1, l2, l3⟩ := rlAll_ok (L := L) (T := aEl a) hG.2.2.1 hL (fun j x q hx hq => by rw [← atL j x hx]; exact h2 j q hq)
  unfold gdW at h4b
  rw [Bool.and_eq_true] at h4b
  have hlen := Nat.le_of_ble_eq_true h4b.1
  obtain ⟨ei, el, dl, lk, gd⟩ := v
  have hx : Ext ei.length el.length g (sgJ g g1 ei.length el.length I.length L.length) := sgJ_ext
  obtain ⟨s1, s2, s3⟩ := and3 hs
  have e3 : e.length = ei.length := e3
  have hgd : gdOK ((aGd a).map (fun q => (m2 I L ei.length el.length q.1, m2 I L ei.length el.length q.2))) (sgJ g g1 ei.length el.length I.length L.length) := by
    intro q hq
    obtain ⟨r, hr, rfl⟩ := List.mem_map.mp hq
    have hz := List.all_eq_true.mp h4b.2 r hr
    rw [Bool.and_eq_true, Bool.and_eq_true, Bool.and_eq_true] at hz
    rw [(m2_I (bL := el.length) hI he (Nat.eq_of_beq_eq_true hz.1.1)).2, (m2_I (bL := el.length) hI he (Nat.eq_of_beq_eq_true hz.2.1)).2]
    exact h4 r hr
  have heI : eiOK (e ++ (aEi a).drop I.length) (sgJ g g1 ei.length el.length I.length L.length).1 := by
    intro b q hb
    rcases app_get hb with ⟨b1, b2⟩ | ⟨b1, b2⟩
    · rw [hx.1 b (by rw [e3] at b1; exact b1)]
      exact e2 b q b2
    · rw [e3] at b1 b2
      have := h1 _ q (drop_at b2)
      show q.1 ≤ (if b < ei.length then _ else g1.1 (I.length + (b - ei.length))) ∧ (if b < ei.length then _ else g1.1 (I.length + (b - ei.length))) ≤ q.2
      rw [if_neg (by omega)]
      exact this
  have hsc : ((aGd a).map (fun q => (m2 I L ei.length el.length q.1, m2 I L ei.length el.length q.2))).all (fun q => Nat.blt q.1.2.1 (e ++ (aEi a).drop I.length).length && Nat.blt q.2.2.1 (e ++ (aEi a).drop I.length).length) = true := by
    have one : ∀ p : AV, p.1 = 0 → p.2.1 < (aEi a).length → Nat.blt (m2 I L ei.length el.length p).2.1 (e ++ (aEi a).drop I.length).length = true := by
      intro p hp hb
      rw [List.length_append, List.length_drop, e3]
      obtain ⟨t, b, c⟩ := p
      have hp : t = 0 := hp
      subst hp
      unfold m2
      simp only
      cases hbI : I[b]? with
      | some x => exact Nat.ble_eq_true_of_le (Nat.le_trans (hI b x hbI) (Nat.le_add_right _ _))
      | none =>
        have h9 : I.length ≤ b := List.getElem?_eq_none_iff.mp hbI
        have hb : b < (aEi a).length := hb
        exact Nat.ble_eq_true_of_le (by show ei.length + (b - I.length) + 1 ≤ ei.length + ((aEi a).length - I.length); omega)
    refine List.all_eq_true.mpr (fun q hq => ?_)
    obtain ⟨r, hr, rfl⟩ := List.mem_map.mp hq
    have hz := List.all_eq_true.mp h4b.2 r hr
    rw [Bool.and_eq_true, Bool.and_eq_true, Bool.and_eq_true] at hz
    rw [one r.1 (Nat.eq_of_beq_eq_true hz.1.1) (blt_lt hz.1.2), one r.2 (Nat.eq_of_beq_eq_true hz.2.1) (blt_lt hz.2.2)]
    rfl
  obtain ⟨e4, p1, p2, p3⟩ := prp_ok heI hgd hsc
  unfold apA
  rw [e1, l1]
  simp only
  rw [p1]
  refine ⟨_, List.mem_cons_self, rfl, rfl, rfl, ?_⟩
  refine ⟨by rw [hx.1 0 hp]; exact hG.1, p2, fun b q hb => ?_, fun q hq => ?_, fun q hq => ?_, fun q hq => ?_, h5, h6, fun x y hxy => ?_⟩
  · rcases app_get hb with ⟨b1, b2⟩ | ⟨b1, b2⟩
    · rw [hx.2 b (by rw [l3] at b1; exact b1)]
      exact l2 b q b2
    · have l3 : l.length = el.length := l3
      rw [l3] at b1 b2
      have := h2 _ q (drop_at b2)
      show q.1 ≤ Int64.toInt (if b < el.length then _ else g1.2 (L.length + (b - el.length))) ∧ Int64.toInt (if b < el.length then _ else g1.2 (L.length + (b - el.length))) ≤ q.2
      rw [if_neg (by omega)]
      exact this
  · rcases List.mem_append.mp hq with hq | hq
    · obtain ⟨r, hr, rfl⟩ := List.mem_map.mp hq
      exact m2_loc hI hL he (h3 r hr)
    · have hd := dkill_ok (X' := X') hW hG.2.2.2.1 (fun x y h => h7 x y h) q hq
      exact hd.ext hx (List.all_eq_true.mp s1 q (List.mem_filter.mp hq).1)
  · obtain ⟨x, y, z⟩ := and3 (List.all_eq_true.mp s2 q hq)
    rw [hx.1 _ (blt_lt x), hx.2 _ (blt_lt y), hx.2 _ (blt_lt z)]
    exact hG.2.2.2.2.1 q hq
  · rcases List.mem_append.mp hq with hq | hq
    · exact hgd q hq
    · have z := List.all_eq_true.mp s3 q hq
      rw [Bool.and_eq_true] at z
      rw [hx.vI (blt_lt z.1), hx.vI (blt_lt z.2)]
      exact hG.2.2.2.2.2.1 q hq
  · refine (hG.2.2.2.2.2.2.2.2 x y hxy).tr (h7 x y ?_)
    cases hc : inM (cMd c) x y with
    | false => rfl
    | true => rw [covM_ok hm hc] at hxy; cases hxy
theorem zip_all {P : AV → AV → Prop} : ∀ {A B : List AV}, A.length = B.length → (∀ q ∈ A.zip B, P q.1 q.2) → ∀ (f h : AV → Value), (∀ p a, P p a → f p = h a) → A.map f = B.map h
  | [], [], _, _, _, _, _ => rfl
  | a :: A, b :: B, hl, hq, f, h, hp => by
    rw [List.map_cons, List.map_cons, hp a b (hq (a, b) List.mem_cons_self), zip_all (Nat.succ.inj hl) (fun q hm => hq q (List.mem_cons_of_mem _ hm)) f h hp]
  | [], _ :: _, hl, _, _, _, _ => by cases hl
  | _ :: _, [], hl, _, _, _, _ => by cases hl
theorem sCl_ok (C : CX E w cc nL own ret rm) {M : MS} {MT : Nat → MD} (hV : WV (mV M) w) (hW : WD (mV M) G) (hI : WGi (mV M) G) (hR : rm.frames = mFr M ∧ rm.locals = mLo M) {idx : Nat} {ce : CE} {c : CT} (hrule : CRl MT w own idx ce) (hct : CTR MT (mV M) G w c) (hgd : (cAl c).all (gdW c) = true) {lv : List (Nat × AV)} {st : List AV} {v : EV} {L : List SS} (hd : decode cc pc = .ok (tI (0, 0, 20, (idx : Int), (ce.1 : Int), []))) (hsc : scS (pc, lv, st, v) = true) (hG : Gm (mV M) G (mMd M) X0 v g X) (hs : sCl M ce c pc lv st v = some L) (K : ∀ s ∈ L, Kt E w nL (mV M) G (mMd M) X0 v.1.length v.2.1.length g s) : Wx E w nL (PX w X) pc (dnL g lv) (dnS g st) := by
  obtain ⟨ei, el, rr⟩ := v
  obtain ⟨c1, c2, c3, c4⟩ := sc4 hsc
  unfold sCl at hs
  cases hc : (Nat.beq (cId c) ce.2.2.2.2.2 && (Nat.beq (cAr c).length ce.2.1 && (Nat.ble ce.2.1 st.length && ((cMd c).all (covM (mMd M)) && (rcvO (mV M) ce (st.take ce.2.1).reverse && (Nat.ble (catS (st.drop ce.2.1)) 8 && (Nat.ble (cFr c + 1) (mFr M) && Nat.ble (8 + (ce.2.2.2.2.1 + 11) + cLo c) (mLo M)))))))) with
  | false => rw [hc] at hs; cases hs
  | true =>
    rw [hc] at hs
    simp only [cond_true] at hs
    obtain ⟨h1, h2, h3⟩ := and3 hc
    obtain ⟨h3, h4, h5⟩ := and3 h3
    obtain ⟨h5, h6, h7⟩ := and3 h5
    rw [Bool.and_eq_true] at h7
    have h1 := Nat.eq_of_beq_eq_true h1
    have h2 := Nat.eq_of_beq_eq_true h2
    have h3 := Nat.le_of_ble_eq_true h3
    cases hm : matE (mV M) (cPr c) (ei, el, rr) with
    | none => simp only [hm] at hs; cases hs
    | some v1 =>
      simp only [hm] at hs
      cases hk : lkD v1.2.2.1 (cPr c) with
      | none => simp only [hk] at hs; cases hs
      | some pp =>
        simp only [hk] at hs
        cases ht : mtc [(0, 0, 0)] [] (cEi c) (cEl c) [] ((cAr c).zip (st.take ce.2.1).reverse ++ pp) v1 with
        | none => simp only [ht] at hs; cases hs
        | some IL =>
          obtain ⟨I, LL⟩ := IL
          simp only [ht] at hs
          cases hs
          obtain ⟨g1, x1, x2, x3, x4, x5⟩ := matE_ok hW hI c3 c4 hG hm
          obtain ⟨t1, t2, t3, t4, t5, t6, t7, t8, t9, _⟩ := mtc_ok x2 ht
          have hlen : (st.take ce.2.1).reverse.length = ce.2.1 := by rw [List.length_reverse, List.length_take]; omega
          have hargs : (cAr c).map (dn (sgO g1 I LL)) = ((st.take ce.2.1).reverse).map (dn g1) := zip_all (P := fun p a => eqV (sbA I LL p) a = true) (by rw [h2, hlen]) (fun q hq => t3 q (List.mem_append.mpr (Or.inl hq))) _ _ (fun p a h => dn_sb h)
          have hst1 : dnS g1 st = dnS g st := x1.vS c2
          have hlv1 : dnL g1 lv = dnL g lv := x1.vL c1
          have hpre : preC (mV M) G c (sgO g1 I LL) X := by
            refine ⟨?_, t8, t9, fun q hq => ?_, x2.2.2.2.2.2.2.1, x2.2.2.2.2.2.2.2.1⟩
            · show (match I[0]? with | some a => dI g1 a | none => 0) = 0
              rw [t1]
              show dI g1 (0, 0, 0) = 0
              exact dI0 x2.1 0
            · obtain ⟨a, a1, a2⟩ := lkD_ok hk q hq
              exact loc_sb (t3 _ (List.mem_append.mpr (Or.inr a1))) (x2.2.2.2.1 _ a2)
          have hmet := hct _ X hpre
          rw [hargs, h1] at hmet
          have hsplit : dnS g st = (((st.take ce.2.1).reverse).map (dn g1)).reverse ++ dnS g1 (st.drop ce.2.1) := by
            rw [← hst1]
            show st.map (dn g1) = _
            rw [← List.map_reverse, List.reverse_reverse]
            show _ = (st.take ce.2.1).map (dn g1) ++ (st.drop ce.2.1).map (dn g1)
            rw [← List.map_append, List.take_append_drop]
          rw [hsplit]
          refine hrule C hd (fun hz => ?_) hmet (by rw [List.length_map]; exact hlen) (by rw [catS_dn]; exact Nat.le_of_ble_eq_true h6) ⟨by rw [hR.1]; exact Nat.le_of_ble_eq_true h7.1, by rw [hR.2]; exact Nat.le_of_ble_eq_true h7.2⟩ (fun r X' hpost => ?_)
          · unfold rcvO at h5
            rw [hz] at h5
            simp only at h5
            cases hAs : (st.take ce.2.1).reverse with
            | nil => rw [hAs] at h5; cases h5
            | cons a As =>
              rw [hAs] at h5
              simp only at h5
              rw [Bool.and_eq_true] at h5
              obtain ⟨o1, o2⟩ := isO_ok h5.2
              exact ⟨a.2.1, As.map (dn g1), by rw [List.map_cons, dn2 h5.1], by rw [← hV.1]; exact o1, by rw [← hV.2.1]; exact o2⟩
          · obtain ⟨a, ha, g2, y1, y2, y3, y4, y5, y6, y7, y8, y9⟩ := hpost
            have y1 : Ext I.length LL.length (sgO g1 I LL) g2 := by rw [t4, t5]; exact y1
            obtain ⟨s, s1, s2, s3, s4, s5⟩ := apA_ok (pc := pc) (lv := lv) (rest := st.drop ce.2.1) hW x2 x3 (by have x4 : ei.length ≤ v1.1.length := x4; omega) t6 t7 y1 y2 y3 y5 y6 (List.all_eq_true.mp hgd a ha) t4 y7 y8 y9 h4
            have hx : Ext ei.length el.length g (sgJ g1 g2 v1.1.length v1.2.1.length I.length LL.length) := x1.tr sgJ_ext x4 x5
            have hK := K s (List.mem_flatMap.mpr ⟨a, ha, s1⟩) _ X' hx s5
            rw [s2, s3, s4] at hK
            rw [hx.vL c1] at hK
            have e1 : dnS (sgJ g1 g2 v1.1.length v1.2.1.length I.length LL.length) ((match aRs a with | some p => [m2 I LL v1.1.length v1.2.1.length p] | none => []) ++ st.drop ce.2.1) = r.toList ++ dnS g1 (st.drop ce.2.1) := by
              rw [y4]
              show ((match aRs a with | some p => [m2 I LL v1.1.length v1.2.1.length p] | none => []) ++ st.drop ce.2.1).map _ = _
              rw [List.map_append]
              have hdr : (st.drop ce.2.1).all (scV ei.length el.length) = true := List.all_eq_true.mpr (fun x hx => List.all_eq_true.mp c2 x (List.mem_of_mem_drop hx))
              have e2 : (st.drop ce.2.1).map (dn (sgJ g1 g2 v1.1.length v1.2.1.length I.length LL.length)) = dnS g1 (st.drop ce.2.1) := by
                have := hx.vS hdr
                have h8 := x1.vS hdr
                exact this.trans h8.symm
              rw [e2]
              cases aRs a with
              | none => rfl
              | some p =>
                show [dn _ (m2 I LL v1.1.length v1.2.1.length p)] ++ _ = [dn g2 p] ++ _
                rw [m2_dn t6 t7 y1]
            rw [e1] at hK
            exact hK
end V11
