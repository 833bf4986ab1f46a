/-! ===== VSE 7: fields and arrays ===== -/
def adl : DLT → Nat → Nat → Option AV
  | [], _, _ => none
  | (q, a) :: t, k, i => cond (Nat.beq q.1 k && Nat.beq q.2 i) (some a) (adl t k i)
def isRf (a : AV) : Bool := Nat.beq a.1 2 || Nat.beq a.1 3
def rfA (r : Option Nat) : AV := match r with
  | some j => (2, j, 0)
  | none => (3, 0, 0)
/-- a place is read: what is known of it, else a new name -/
def sLo (V : VW) (kd k i : Nat) (pc : Nat) (lv : List (Nat × AV)) (st : List AV) (v : EV) : Option (List SS) := match adl v.2.2.1 k i with
  | some a => match kd with
    | 0 => cond (Nat.beq a.1 0) (o1 (pc, lv, a :: st, v)) none
    | 1 => cond (Nat.beq a.1 1) (o1 (pc, lv, a :: st, v)) none
    | _ => cond (isRf a) (o1 (pc, lv, a :: st, v)) none
  | none => match kd with
    | 0 => match gI V k i with
      | some q => o1 (pc, lv, (0, v.1.length, 0) :: st, (v.1 ++ [q], v.2.1, ((k, i), (0, v.1.length, 0)) :: v.2.2.1, v.2.2.2))
      | none => none
    | 1 => match gL V k i with
      | some q => o1 (pc, lv, (1, v.2.1.length, 0) :: st, (v.1, v.2.1 ++ [q], ((k, i), (1, v.2.1.length, 0)) :: v.2.2.1, v.2.2.2))
      | none => none
    | _ => some ((vGR V k i).map (fun r => ((pc, lv, rfA r :: st, (v.1, v.2.1, ((k, i), rfA r) :: v.2.2.1, v.2.2.2)) : SS)))
def dkill (V : VW) (dl : DLT) (ms : List (Nat × Option Nat)) : DLT := dl.filter (fun q => cond (gho q.1.1) (!(ovl (foot V q.1.1) ms)) (!(inM ms q.1.1 q.1.2)))
def fitI (o : Option IV) (q : IV) : Bool := match o with
  | some p => leI p.1 q.1 && leI q.2 p.2
  | none => true
def okW (M : MS) (k : Nat) : Bool := !((vPr (mV M)).any (Nat.beq k))
def isO (V : VW) (k ci n : Nat) : Bool := Nat.blt k (vN V) && (Nat.beq (vS V k).1 0 && (Nat.beq (vS V k).2.1 ci && Nat.beq (vS V k).2.2 n))
def sGf (M : MS) (idx : Nat) (pc : Nat) (lv : List (Nat × AV)) (st : List AV) (v : EV) : Option (List SS) := match st with
  | x :: st => match fnd (mF M) idx with
    | some (ci, n, i, kd, _) => cond (Nat.beq x.1 2 && (isO (mV M) x.2.1 ci n && (Nat.blt i n && (Nat.beq (vF (mV M) ci i) kd && Nat.ble kd 2)))) (sLo (mV M) kd x.2.1 i (pc + 3) lv st v) none
    | none => none
  | [] => none
def sPf (M : MS) (idx : Nat) (pc : Nat) (lv : List (Nat × AV)) (st : List AV) (v : EV) : Option (List SS) := match st with
  | a :: x :: st => match fnd (mF M) idx with
    | some (ci, n, i, kd, ty) => cond (Nat.beq x.1 2 && (isO (mV M) x.2.1 ci n && (Nat.blt i n && (Nat.beq (vF (mV M) ci i) kd && (inM (mMd M) x.2.1 i && okW M x.2.1)))))
      (cond (match ty with
        | 0 => Nat.beq kd 0 && (Nat.beq a.1 0 && (match ivO v.1 a with
          | some q => fitI (gI (mV M) x.2.1 i) q
          | none => false))
        | 1 => Nat.beq kd 0 && (Nat.beq a.1 0 && (match ivO v.1 a with
          | some q => fitI (gI (mV M) x.2.1 i) q && (leI 0 q.1 && leI q.2 1)
          | none => false))
        | 2 => Nat.beq kd 1 && (Nat.beq a.1 1 && (match v.2.1[a.2.1]? with
          | some q => fitI (gL (mV M) x.2.1 i) q
          | none => false))
        | 3 => Nat.beq kd 2 && (Nat.beq a.1 2 && (vGR (mV M) x.2.1 i).any (fun r => match r with | some j => Nat.beq j a.2.1 | none => false))
        | _ => false) (o1 (pc + 3, lv, st, (v.1, v.2.1, ((x.2.1, i), a) :: dkill (mV M) v.2.2.1 [(x.2.1, some i)], v.2.2.2))) none) none
    | none => none
  | _ => none
def jnG (L : List IV) (a : Nat) : Nat → Option IV
  | 0 => perG L a
  | n + 1 => match jnG L a n, perG L (a + (n + 1)) with
    | some p, some q => some (min p.1 q.1, max p.2 q.2)
    | _, _ => none
def rdG (L : List IV) (a n : Nat) : Option IV := cond (Nat.beq L.length 1) (perG L 0) (jnG L a n)
def alG (L : List IV) (a : Nat) (q : IV) : Nat → Bool
  | 0 => fitI (perG L a) q
  | n + 1 => alG L a q n && fitI (perG L (a + (n + 1))) q
def wrG (L : List IV) (a n : Nat) (q : IV) : Bool := cond (Nat.beq L.length 1) (fitI (perG L 0) q) (alG L a q n)
def isA (V : VW) (k kd : Nat) : Bool := Nat.blt k (vN V) && (Nat.beq (vS V k).1 kd && Nat.ble (vS V k).2.2 2147483647)
def sAl (M : MS) (b : Nat) (pc : Nat) (lv : List (Nat × AV)) (st : List AV) (v : EV) : Option (List SS) := match st with
  | ix :: x :: st => cond (Nat.beq ix.1 0 && Nat.beq x.1 2) (match ivR v.1 ix with
    | some q => cond (leI 0 q.1 && leI (q.2 + 1) ((vS (mV M) x.2.1).2.2 : Int)) (match b with
      | 3 => cond (isA (mV M) x.2.1 2) (cond (decide (q.1 = q.2)) (sLo (mV M) 1 x.2.1 q.1.toNat (pc + 1) lv st v) (match rdG ((vGL (mV M)).getD x.2.1 []) q.1.toNat (q.2 - q.1).toNat with
        | some p => pL (pc + 1) lv st v p
        | none => none)) none
      | 4 => cond (isA (mV M) x.2.1 3) (cond (decide (q.1 = q.2)) (sLo (mV M) 2 x.2.1 q.1.toNat (pc + 1) lv st v) (some ((List.range ((q.2 - q.1).toNat + 1)).flatMap (fun (j : Nat) => opS (rfn v.1 ix (q.1 + (j : Int)) (q.1 + (j : Int))) (fun e => (vGR (mV M) x.2.1 (q.1.toNat + j)).map (fun r => ((pc + 1, lv, rfA r :: st, (e, v.2)) : SS))))))) none
      | _ => cond (isA (mV M) x.2.1 1 && Nat.beq (vT (mV M) x.2.1) b) (cond (decide (q.1 = q.2)) (sLo (mV M) 0 x.2.1 q.1.toNat (pc + 1) lv st v) (match rdG ((vGI (mV M)).getD x.2.1 []) q.1.toNat (q.2 - q.1).toNat with
        | some p => pI (pc + 1) lv st v p
        | none => none)) none) none
    | none => none) none
  | _ => none
def mdA (md : List (Nat × Option Nat)) (k : Nat) : Bool := md.any (fun q => Nat.beq q.1 k && (match q.2 with | none => true | some _ => false))
def asCL (M : MS) (q : IV) (a : AV) (v : EV) (k : Nat) : Bool := isA (mV M) k 2 && (Nat.beq a.1 1 && (match v.2.1[a.2.1]? with
  | some p => wrG ((vGL (mV M)).getD k []) q.1.toNat (q.2 - q.1).toNat p
  | none => false))
def bdB (b : Nat) (p : IV) : Bool := match b with
  | 0 => true
  | 1 => leI (-128) p.1 && leI p.2 127
  | _ => leI 0 p.1 && leI p.2 1
def asCI (M : MS) (b : Nat) (q : IV) (a : AV) (v : EV) (k : Nat) : Bool := isA (mV M) k 1 && (Nat.beq (vT (mV M) k) b && (Nat.beq a.1 0 && (match ivO v.1 a with
  | some p => wrG ((vGI (mV M)).getD k []) q.1.toNat (q.2 - q.1).toNat p && bdB b p
  | none => false)))
def sAs (M : MS) (b : Nat) (pc : Nat) (lv : List (Nat × AV)) (st : List AV) (v : EV) : Option (List SS) := match st with
  | a :: ix :: x :: st => cond (Nat.beq ix.1 0 && (Nat.beq x.1 2 && okW M x.2.1)) (match ivR v.1 ix with
    | some q => cond (leI 0 q.1 && (leI (q.2 + 1) ((vS (mV M) x.2.1).2.2 : Int) && (mdA (mMd M) x.2.1 || (decide (q.1 = q.2) && inM (mMd M) x.2.1 q.1.toNat))))
      (cond (match b with
        | 3 => asCL M q a v x.2.1
        | _ => asCI M b q a v x.2.1)
        (cond (decide (q.1 = q.2)) (o1 (pc + 1, lv, st, (v.1, v.2.1, ((x.2.1, q.1.toNat), a) :: dkill (mV M) v.2.2.1 [(x.2.1, some q.1.toNat)], v.2.2.2))) (o1 (pc + 1, lv, st, (v.1, v.2.1, dkill (mV M) v.2.2.1 [(x.2.1, none)], v.2.2.2)))) none) none
    | none => none) none
  | _ => none
def sLen (M : MS) (pc : Nat) (lv : List (Nat × AV)) (st : List AV) (v : EV) : Option (List SS) := match st with
  | x :: st => cond (Nat.beq x.1 2 && (Nat.blt x.2.1 (vN (mV M)) && (Nat.blt 0 (vS (mV M) x.2.1).1 && Nat.ble (vS (mV M) x.2.1).1 3))) (o1 (pc + 1, lv, (0, 0, ((vS (mV M) x.2.1).2.2 : Int)) :: st, v)) none
  | [] => none
/-- the checker's world is the walk's -/
def WV (V : VW) (w : WT) : Prop := vN V = wN w ∧ vS V = wS w ∧ vF V = wF w ∧ (∀ k, (wS w k).1 = 1 → (vT V k = 0 → wT w k = .int) ∧ (vT V k = 1 → wT w k = .byte) ∧ (vT V k = 2 → wT w k = .boolean)) ∧ (∀ k, (wS w k).1 = 2 → wT w k = .long) ∧ ∀ k, (wS w k).1 = 3 → (∃ S, wT w k = .object S) ∨ ∃ u, wT w k = .array u
def FKs (M : MS) (w : WT) (own : String) : Prop := ∀ q ∈ mF M, FKw w own q.1 q.2.1 q.2.2.1 q.2.2.2.1 q.2.2.2.2.1 ∧ (q.2.2.2.2.2 = 0 → PKw w own q.1 q.2.1 q.2.2.1 q.2.2.2.1 q.2.2.2.2.1 .int) ∧ (q.2.2.2.2.2 = 1 → PKw w own q.1 q.2.1 q.2.2.1 q.2.2.2.1 q.2.2.2.2.1 .boolean) ∧ (q.2.2.2.2.2 = 2 → PKw w own q.1 q.2.1 q.2.2.1 q.2.2.2.1 q.2.2.2.2.1 .long) ∧ (q.2.2.2.2.2 = 3 → ∃ ty, PKw w own q.1 q.2.1 q.2.2.1 q.2.2.2.1 q.2.2.2.2.1 ty ∧ ((∃ S, ty = .object S) ∨ ∃ u, ty = .array u))
section V7
variable {E : ET} {w : WT} {nL : Nat} {pc : Nat} {cc : ByteArray} {own : String} {ret : Option FieldType} {rm : Room} {V : VW} {G : GT} {md : List (Nat × Option Nat)} {X0 X : XT} {g : SG} {lvv : List (Nat × Value)} {stv : List Value}
theorem adl_mem : ∀ {d : DLT} {k i : Nat} {a : AV}, adl d k i = some a → ((k, i), a) ∈ d
  | [], _, _, _, h => by cases h
  | (q, b) :: t, k, i, a, h => by
    unfold adl at h
    cases hb : (Nat.beq q.1 k && Nat.beq q.2 i) with
    | true =>
      rw [hb] at h
      cases h
      rw [Bool.and_eq_true] at hb
      have h1 := Nat.eq_of_beq_eq_true hb.1
      have h2 := Nat.eq_of_beq_eq_true hb.2
      obtain ⟨q1, q2⟩ := q
      subst h1; subst h2
      exact List.mem_cons_self
    | false =>
      rw [hb] at h
      exact List.mem_cons_of_mem _ (adl_mem h)
theorem pl_N {k i : Nat} (hN : vN V ≤ 900) (h : plK V k i ≠ 9) : gho k = false := by
  unfold plK at h
  cases hb : Nat.blt k (vN V) with
  | false => rw [hb] at h; exact absurd rfl h
  | true =>
    have := blt_lt hb
    unfold gho
    cases hc : Nat.ble 900 k with
    | false => rfl
    | true => have := Nat.le_of_ble_eq_true hc; omega
theorem gl_int {k i : Nat} {a : AV} (hk : gho k = false) (h : locOK G k i a g X) (ha : Nat.beq a.1 0 = true) : X.1 k i = dI g a := by
  unfold locOK at h
  rw [hk] at h
  obtain ⟨t, b, c⟩ := a
  have ht : t = 0 := Nat.eq_of_beq_eq_true ha
  subst ht
  exact h
theorem gl_long {k i : Nat} {a : AV} (hk : gho k = false) (h : locOK G k i a g X) (ha : Nat.beq a.1 1 = true) : X.2.1 k i = g.2 a.2.1 := by
  unfold locOK at h
  rw [hk] at h
  obtain ⟨t, b, c⟩ := a
  have ht : t = 1 := Nat.eq_of_beq_eq_true ha
  subst ht
  exact h
theorem gl_ref {k i : Nat} {a : AV} (hk : gho k = false) (h : locOK G k i a g X) (ha : isRf a = true) : dn g a = va_rf (X.2.2 k i) := by
  unfold locOK at h
  rw [hk] at h
  obtain ⟨t, b, c⟩ := a
  unfold isRf at ha
  rw [Bool.or_eq_true] at ha
  rcases ha with ha | ha
  · have ht : t = 2 := Nat.eq_of_beq_eq_true ha
    subst ht
    have h : X.2.2 k i = some b := h
    rw [h]
    rfl
  · have ht : t = 3 := Nat.eq_of_beq_eq_true ha
    subst ht
    have h : X.2.2 k i = none := h
    rw [h]
    rfl
theorem rfA_dn (r : Option Nat) : dn g (rfA r) = va_rf r := by cases r <;> rfl
theorem loc_rfA {k i : Nat} (hk : gho k = false) : locOK G k i (rfA (X.2.2 k i)) g X := by
  unfold locOK
  rw [hk]
  cases h : X.2.2 k i with
  | none => rfl
  | some j => rfl
theorem loc_I {k i : Nat} {b : Nat} {c : Int} (hk : gho k = false) (h : X.1 k i = dI g (0, b, c)) : locOK G k i (0, b, c) g X := by
  unfold locOK
  rw [hk]
  exact h
theorem loc_L {k i : Nat} {b : Nat} {c : Int} (hk : gho k = false) (h : X.2.1 k i = g.2 b) : locOK G k i (1, b, c) g X := by
  unfold locOK
  rw [hk]
  exact h
theorem sLo0 {k i : Nat} (hN : vN V ≤ 900) (hp : plK V k i = 0) {lv : List (Nat × AV)} {st : List AV} {v : EV} {L : List SS} (hl : lv.all (fun q => scV v.1.length v.2.1.length q.2) = true) (ht : st.all (scV v.1.length v.2.1.length) = true) (hsc : scE v = true) (h0 : 0 < v.1.length) (hG : Gm V G md X0 v g X) (hs : sLo V 0 k i pc lv st v = some L) (K : ∀ s ∈ L, Kt E w nL V G md X0 v.1.length v.2.1.length g s) : Wx E w nL (PX w X) pc (dnL g lv) (.int (iI (X.1 k i)) :: dnS g st) := by
  have hk := pl_N hN (i := i) (k := k) (by rw [hp]; decide)
  unfold sLo at hs
  cases ha : adl v.2.2.1 k i with
  | some a =>
    simp only [ha] at hs
    cases h1 : Nat.beq a.1 0 with
    | false => rw [h1] at hs; cases hs
    | true =>
      rw [h1] at hs
      cases hs
      have h2 := gl_int hk (hG.2.2.2.1 _ (adl_mem ha)) h1
      rw [h2, ← dn0 h1]
      exact k1 (K _ List.mem_cons_self) hG
  | none =>
    simp only [ha] at hs
    cases hq : gI V k i with
    | none => simp only [hq] at hs; cases hs
    | some q =>
      simp only [hq] at hs
      cases hs
      obtain ⟨ei, el, dl, lk, gd⟩ := v
      have hb := hG.2.2.2.2.2.2.1.1 k i q hp hq
      obtain ⟨g', e1, e2, e3⟩ := newI hsc hG h0 hb.1 hb.2
      have hK := K _ List.mem_cons_self g' X e1 ⟨e3.1, e3.2.1, e3.2.2.1, fun q hq => by
        rcases List.mem_cons.mp hq with rfl | hq
        · exact loc_I hk (by show X.1 k i = g'.1 ei.length + 0; rw [e2, Int.add_zero])
        · exact e3.2.2.2.1 q hq, e3.2.2.2.2⟩
      have h2 : Wx E w nL (PX w X) pc (dnL g' lv) (dn g' (0, ei.length, 0) :: dnS g' st) := hK
      have e4 : dn g' (0, ei.length, 0) = .int (iI (X.1 k i)) := by
        show Value.int (iI (g'.1 ei.length + 0)) = _
        rw [e2, Int.add_zero]
      rw [e4, e1.vL hl, e1.vS ht] at h2
      exact h2
theorem sLo1 {k i : Nat} (hN : vN V ≤ 900) (hp : plK V k i = 1) {lv : List (Nat × AV)} {st : List AV} {v : EV} {L : List SS} (hl : lv.all (fun q => scV v.1.length v.2.1.length q.2) = true) (ht : st.all (scV v.1.length v.2.1.length) = true) (hsc : scE v = true) (hG : Gm V G md X0 v g X) (hs : sLo V 1 k i pc lv st v = some L) (K : ∀ s ∈ L, Kt E w nL V G md X0 v.1.length v.2.1.length g s) : Wx E w nL (PX w X) pc (dnL g lv) (.long (X.2.1 k i) :: dnS g st) := by
  have hk := pl_N hN (i := i) (k := k) (by rw [hp]; decide)
  unfold sLo at hs
  cases ha : adl v.2.2.1 k i with
  | some a =>
    simp only [ha] at hs
    cases h1 : Nat.beq a.1 1 with
    | false => rw [h1] at hs; cases hs
    | true =>
      rw [h1] at hs
      cases hs
      have h2 := gl_long hk (hG.2.2.2.1 _ (adl_mem ha)) h1
      rw [h2, ← dn1 h1]
      exact k1 (K _ List.mem_cons_self) hG
  | none =>
    simp only [ha] at hs
    cases hq : gL V k i with
    | none => simp only [hq] at hs; cases hs
    | some q =>
      simp only [hq] at hs
      cases hs
      obtain ⟨ei, el, dl, lk, gd⟩ := v
      have hb := hG.2.2.2.2.2.2.1.2.1 k i q hp hq
      obtain ⟨g', e1, e2, e3⟩ := newL hsc hG hb.1 hb.2
      have hK := K _ List.mem_cons_self g' X e1 ⟨e3.1, e3.2.1, e3.2.2.1, fun q hq => by
        rcases List.mem_cons.mp hq with rfl | hq
        · exact loc_L hk (by rw [e2])
        · exact e3.2.2.2.1 q hq, e3.2.2.2.2⟩
      have h2 : Wx E w nL (PX w X) pc (dnL g' lv) (dn g' (1, el.length, 0) :: dnS g' st) := hK
      have e4 : dn g' (1, el.length, 0) = .long (X.2.1 k i) := by
        show Value.long (g'.2 el.length) = _
        rw [e2]
      rw [e4, e1.vL hl, e1.vS ht] at h2
      exact h2
theorem sLo2 {k i kd : Nat} (hN : vN V ≤ 900) (hkd : 2 ≤ kd) (hp : plK V k i = 2) {lv : List (Nat × AV)} {st : List AV} {v : EV} {L : List SS} (hG : Gm V G md X0 v g X) (hs : sLo V kd k i pc lv st v = some L) (K : ∀ s ∈ L, Kt E w nL V G md X0 v.1.length v.2.1.length g s) : Wx E w nL (PX w X) pc (dnL g lv) (va_rf (X.2.2 k i) :: dnS g st) := by
  have hk := pl_N hN (i := i) (k := k) (by rw [hp]; decide)
  match kd, hkd with
  | kd + 2, _ =>
    unfold sLo at hs
    cases ha : adl v.2.2.1 k i with
    | some a =>
      simp only [ha] at hs
      cases h1 : isRf a with
      | false => rw [h1] at hs; cases hs
      | true =>
        rw [h1] at hs
        cases hs
        have h2 := gl_ref hk (hG.2.2.2.1 _ (adl_mem ha)) h1
        rw [← h2]
        exact k1 (K _ List.mem_cons_self) hG
    | none =>
      simp only [ha] at hs
      cases hs
      have hm := hG.2.2.2.2.2.2.1.2.2 k i hp
      have h3 := k1 (X := X) (K _ (List.mem_map.mpr ⟨_, hm, rfl⟩)) ⟨hG.1, hG.2.1, hG.2.2.1, fun q hq => by
        rcases List.mem_cons.mp hq with rfl | hq
        · exact loc_rfA hk
        · exact hG.2.2.2.1 q hq, hG.2.2.2.2⟩
      have h4 : Wx E w nL (PX w X) pc (dnL g lv) (dn g (rfA (X.2.2 k i)) :: dnS g st) := h3
      rw [rfA_dn] at h4
      exact h4
theorem isO_ok {k ci n : Nat} (h : isO V k ci n = true) : k < vN V ∧ vS V k = (0, ci, n) := by
  unfold isO at h
  obtain ⟨h1, h2, h3⟩ := and3 h
  rw [Bool.and_eq_true] at h3
  refine ⟨blt_lt h1, ?_⟩
  rw [← Nat.eq_of_beq_eq_true h3.1, ← Nat.eq_of_beq_eq_true h3.2, ← Nat.eq_of_beq_eq_true h2]
theorem pl_obj {k ci n i : Nat} (hk : k < vN V) (hs : vS V k = (0, ci, n)) (hi : i < n) : plK V k i = vF V ci i := by
  unfold plK
  rw [show Nat.blt k (vN V) = true from Nat.ble_eq_true_of_le hk, hs]
  show cond (Nat.blt i n) (vF V ci i) 9 = _
  rw [show Nat.blt i n = true from Nat.ble_eq_true_of_le hi]
  rfl
theorem pl_arr {k kd q n i : Nat} (hk : k < vN V) (hs : vS V k = (kd + 1, q, n)) (hi : i < n) : plK V k i = kd := by
  unfold plK
  rw [show Nat.blt k (vN V) = true from Nat.ble_eq_true_of_le hk, hs]
  show cond (Nat.blt i n) (kd + 1 - 1) 9 = _
  rw [show Nat.blt i n = true from Nat.ble_eq_true_of_le hi]
  rfl
theorem sGf_ok (C : CX E w cc nL own ret rm) {M : MS} (hV : WV (mV M) w) (hF : FKs M w own) (hN : vN (mV M) ≤ 900) {idx : Nat} {lv : List (Nat × AV)} {st : List AV} {v : EV} {L : List SS} (hd : decode cc pc = .ok (.getfield idx, 3)) (hsc : scS (pc, lv, st, v) = true) (hG : Gm (mV M) G md X0 v g X) (hs : sGf M idx pc lv st v = some L) (K : ∀ s ∈ L, Kt E w nL (mV M) G md X0 v.1.length v.2.1.length g s) : Wx E w nL (PX w X) pc (dnL g lv) (dnS g st) := by
  match st, hs, hsc with
  | [], hs, _ => cases hs
  | x :: st, hs, hsc =>
    have hsc' := hsc
    obtain ⟨ei, el, rr⟩ := v
    obtain ⟨c1, c2, c3, c4⟩ := sc4 hsc
    have c2t : st.all (scV ei.length el.length) = true := by
      have h : (scV ei.length el.length x && st.all (scV ei.length el.length)) = true := c2
      rw [Bool.and_eq_true] at h
      exact h.2
    unfold sGf at hs
    simp only at hs
    cases hf : fnd (mF M) idx with
    | none => simp only [hf] at hs; cases hs
    | some fd =>
      obtain ⟨ci, n, i, kd, ty⟩ := fd
      simp only [hf] at hs
      cases hc : (Nat.beq x.1 2 && (isO (mV M) x.2.1 ci n && (Nat.blt i n && (Nat.beq (vF (mV M) ci i) kd && Nat.ble kd 2)))) with
      | false => rw [hc] at hs; cases hs
      | true =>
        rw [hc] at hs
        simp only [cond_true] at hs
        obtain ⟨h1, h2, h3⟩ := and3 hc
        obtain ⟨h4, h5, h6⟩ := and3 h3
        obtain ⟨hk, hsh⟩ := isO_ok h2
        have hi := blt_lt h4
        have h5 := Nat.eq_of_beq_eq_true h5
        have hpl := pl_obj hk hsh hi
        rw [h5] at hpl
        have hfk := (hF _ (fnd_mem hf)).1
        have hk' : x.2.1 < wN w := by rw [← hV.1]; exact hk
        have hsh' : wS w x.2.1 = (0, ci, n) := by rw [← hV.2.1]; exact hsh
        show Wx E w nL (PX w X) pc (dnL g lv) (dn g x :: dnS g st)
        rw [dn2 h1]
        match kd, h6, hs, hpl, hfk with
        | 0, _, hs, hpl, hfk => exact x_getI C hfk hk' hsh' hd (sLo0 hN hpl c1 c2t c3 c4 hG hs K)
        | 1, _, hs, hpl, hfk => exact x_getL C hfk hk' hsh' hd (sLo1 hN hpl c1 c2t c3 hG hs K)
        | 2, _, hs, hpl, hfk => exact x_getR C hfk hk' hsh' rfl hd (sLo2 hN (Nat.le_refl 2) hpl hG hs K)
        | kd + 3, h6, _, _, _ => exact absurd (Nat.le_of_ble_eq_true h6) (by omega)
/-! writes -/
theorem HG.upI {k i : Nat} {z : Int} (h : HG V X) (hz : ∀ q, gI V k i = some q → q.1 ≤ z ∧ z ≤ q.2) : HG V (upI X k i z) := by
  refine ⟨fun a b q hp hq => ?_, h.2.1, h.2.2⟩
  show q.1 ≤ cond (Nat.beq a k && Nat.beq b i) z (X.1 a b) ∧ cond (Nat.beq a k && Nat.beq b i) z (X.1 a b) ≤ q.2
  cases hb : (Nat.beq a k && Nat.beq b i) with
  | false => exact h.1 a b q hp hq
  | true =>
    rw [Bool.and_eq_true] at hb
    have h1 := Nat.eq_of_beq_eq_true hb.1
    have h2 := Nat.eq_of_beq_eq_true hb.2
    subst h1; subst h2
    exact hz q hq
theorem HG.upL {k i : Nat} {z : Int64} (h : HG V X) (hz : ∀ q, gL V k i = some q → q.1 ≤ z.toInt ∧ z.toInt ≤ q.2) : HG V (upL X k i z) := by
  refine ⟨h.1, fun a b q hp hq => ?_, h.2.2⟩
  show q.1 ≤ (cond (Nat.beq a k && Nat.beq b i) z (X.2.1 a b)).toInt ∧ (cond (Nat.beq a k && Nat.beq b i) z (X.2.1 a b)).toInt ≤ q.2
  cases hb : (Nat.beq a k && Nat.beq b i) with
  | false => exact h.2.1 a b q hp hq
  | true =>
    rw [Bool.and_eq_true] at hb
    have h1 := Nat.eq_of_beq_eq_true hb.1
    have h2 := Nat.eq_of_beq_eq_true hb.2
    subst h1; subst h2
    exact hz q hq
theorem HG.upR {k i : Nat} {z : Option Nat} (h : HG V X) (hz : z ∈ vGR V k i) : HG V (upR X k i z) := by
  refine ⟨h.1, h.2.1, fun a b hp => ?_⟩
  show cond (Nat.beq a k && Nat.beq b i) z (X.2.2 a b) ∈ vGR V a b
  cases hb : (Nat.beq a k && Nat.beq b i) with
  | false => exact h.2.2 a b hp
  | true =>
    rw [Bool.and_eq_true] at hb
    have h1 := Nat.eq_of_beq_eq_true hb.1
    have h2 := Nat.eq_of_beq_eq_true hb.2
    subst h1; subst h2
    exact hz
theorem inM_one {k i a b : Nat} (h : inM [(k, some i)] a b = false) : (Nat.beq a k && Nat.beq b i) = false := by
  unfold inM at h
  have h : ((Nat.beq k a && Nat.beq i b) || false) = false := h
  rw [Bool.or_false] at h
  cases hb : (Nat.beq a k && Nat.beq b i) with
  | false => rfl
  | true =>
    rw [Bool.and_eq_true] at hb
    have h1 := Nat.eq_of_beq_eq_true hb.1
    have h2 := Nat.eq_of_beq_eq_true hb.2
    subst h1; subst h2
    rw [beq_self, beq_self] at h
    cases h
theorem same_upI {k i a b : Nat} {z : Int} (h : inM [(k, some i)] a b = false) : sameAt a b X (upI X k i z) := ⟨by show cond (Nat.beq a k && Nat.beq b i) z (X.1 a b) = _; rw [inM_one h]; rfl, rfl, rfl⟩
theorem same_upL {k i a b : Nat} {z : Int64} (h : inM [(k, some i)] a b = false) : sameAt a b X (upL X k i z) := ⟨rfl, by show cond (Nat.beq a k && Nat.beq b i) z (X.2.1 a b) = _; rw [inM_one h]; rfl, rfl⟩
theorem same_upR {k i a b : Nat} {z : Option Nat} (h : inM [(k, some i)] a b = false) : sameAt a b X (upR X k i z) := ⟨rfl, rfl, by show cond (Nat.beq a k && Nat.beq b i) z (X.2.2 a b) = _; rw [inM_one h]; rfl⟩
theorem ovl_no {a b : List (Nat × Option Nat)} (h : ovl a b = false) {i j : Nat} (ha : inM a i j = true) : inM b i j = false := by
  cases hb : inM b i j with
  | false => rfl
  | true =>
    unfold inM at ha hb
    obtain ⟨p, hp, hp2⟩ := List.any_eq_true.mp ha
    obtain ⟨q, hq, hq2⟩ := List.any_eq_true.mp hb
    have : ovl a b = true := by
      unfold ovl
      refine List.any_eq_true.mpr ⟨p, hp, List.any_eq_true.mpr ⟨q, hq, ?_⟩⟩
      rw [Bool.and_eq_true] at hp2 hq2
      have h1 := Nat.eq_of_beq_eq_true hp2.1
      have h2 := Nat.eq_of_beq_eq_true hq2.1
      rw [h1, h2, beq_self]
      obtain ⟨p1, p2⟩ := p
      obtain ⟨q1, q2⟩ := q
      cases p2 with
      | none => rfl
      | some x =>
        cases q2 with
        | none => rfl
        | some y =>
          have h3 : x = j := Nat.eq_of_beq_eq_true hp2.2
          have h4 : y = j := Nat.eq_of_beq_eq_true hq2.2
          subst h3; subst h4
          show (true && Nat.beq y y) = true
          rw [beq_self]
          rfl
    rw [h] at this
    cases this
theorem dkill_ok {ms : List (Nat × Option Nat)} {d : DLT} {X' : XT} (hW : WD V G) (h : dlOK G d g X) (hs : ∀ a b, inM ms a b = false → sameAt a b X X') : dlOK G (dkill V d ms) g X' := by
  intro q hq
  obtain ⟨hq1, hq2⟩ := List.mem_filter.mp hq
  have h1 := h q hq1
  unfold locOK at h1 ⊢
  cases hk : gho q.1.1 with
  | true =>
    rw [hk] at h1 hq2
    have hq2 : (!(ovl (foot V q.1.1) ms)) = true := hq2
    have ho : ovl (foot V q.1.1) ms = false := by cases hz : ovl (foot V q.1.1) ms with | false => rfl | true => rw [hz] at hq2; cases hq2
    refine ⟨h1.1, ?_⟩
    rw [hW.1 q.1.1 X X' hk (fun i j hij => hs i j (ovl_no ho hij))]
    exact h1.2
  | false =>
    rw [hk] at h1 hq2
    have hq2 : (!(inM ms q.1.1 q.1.2)) = true := hq2
    have ho : inM ms q.1.1 q.1.2 = false := by cases hz : inM ms q.1.1 q.1.2 with | false => rfl | true => rw [hz] at hq2; cases hq2
    obtain ⟨s1, s2, s3⟩ := hs _ _ ho
    obtain ⟨⟨k, i⟩, t, b, c⟩ := q
    match t with
    | 0 => exact s1.trans h1
    | 1 => exact s2.trans h1
    | 2 => exact s3.trans h1
    | t + 3 => exact s3.trans h1
theorem Gm.wr {v : EV} {ms : List (Nat × Option Nat)} {X' : XT} {ex : DLT} (hW : WD V G) (h : Gm V G md X0 v g X) (hH : HG V X') (hs : ∀ a b, inM ms a b = false → sameAt a b X X') (hm : ∀ a b, inM ms a b = true → inM md a b = true) (hp : ∀ a b, inM ms a b = true → (vPr V).any (Nat.beq a) = false) (hx : dlOK G ex g X') : Gm V G md X0 (v.1, v.2.1, ex ++ dkill V v.2.2.1 ms, v.2.2.2) g X' := by
  obtain ⟨k0, k1, k2, k3, k4, k5, k6, k7, k8⟩ := h
  refine ⟨k0, k1, k2, fun q hq => ?_, k4, k5, hH, hW.2.1 X X' (fun a b hab => hs a b ?_) k7, fun a b hab => ?_⟩
  · rcases List.mem_append.mp hq with hq | hq
    · exact hx q hq
    · exact dkill_ok hW k3 hs q hq
  · cases hc : inM ms a b with
    | false => rfl
    | true => rw [hp a b hc] at hab; cases hab
  · refine (k8 a b hab).tr (hs a b ?_)
    cases hc : inM ms a b with
    | false => rfl
    | true => rw [hm a b hc] at hab; cases hab
theorem inM_1 {k i a b : Nat} (h : inM [(k, some i)] a b = true) : a = k ∧ b = i := by
  have h : ((Nat.beq k a && Nat.beq i b) || false) = true := h
  rw [Bool.or_false, Bool.and_eq_true] at h
  exact ⟨(Nat.eq_of_beq_eq_true h.1).symm, (Nat.eq_of_beq_eq_true h.2).symm⟩
theorem inM_all {k a b : Nat} (h : inM [(k, none)] a b = true) : a = k := by
  have h : ((Nat.beq k a && true) || false) = true := h
  rw [Bool.or_false, Bool.and_true] at h
  exact (Nat.eq_of_beq_eq_true h).symm
theorem okW_ok {M : MS} {k : Nat} (h : okW M k = true) : (vPr (mV M)).any (Nat.beq k) = false := by
  unfold okW at h
  cases hz : (vPr (mV M)).any (Nat.beq k) with
  | false => rfl
  | true => rw [hz] at h; cases h
theorem fitI_ok {o : Option IV} {q : IV} {z : Int} (h : fitI o q = true) (h1 : q.1 ≤ z) (h2 : z ≤ q.2) : ∀ p, o = some p → p.1 ≤ z ∧ z ≤ p.2 := by
  intro p hp
  subst hp
  unfold fitI at h
  rw [Bool.and_eq_true, leI_iff, leI_iff] at h
  exact ⟨by omega, by omega⟩
theorem narZ {z : Int} (h : 0 ≤ z ∧ z ≤ 1) : narrow .boolean (.int (iI z)) = .int (iI z) ∧ fits .boolean (.int (iI z)) = true := by
  have : z = 0 ∨ z = 1 := by omega
  rcases this with rfl | rfl
  · exact ⟨by decide, by decide⟩
  · exact ⟨by decide, by decide⟩
theorem x_putZ (C : CX E w cc nL own ret rm) {k ci n i idx : Nat} {z : Int} (hz : 0 ≤ z ∧ z ≤ 1) (hF : PKw w own idx ci n i 0 .boolean) (hk : k < wN w) (hs : wS w k = (0, ci, n)) (hd : decode cc pc = .ok (.putfield idx, 3)) (kk : Wx E w nL (PX w (upI X k i z)) (pc + 3) lvv stv) : Wx E w nL (PX w X) pc lvv (.int (iI z) :: .ref k :: stv) := by
  obtain ⟨p, l, e, R, s, m, args, below, meth, c, A0, k0, n0, QQ⟩ := E
  intro H locs ls hP hS hl
  obtain ⟨Cn, T, ty0, h1, h2, h3, h4, h5, h6, h7, h8, h9, h10⟩ := hF
  have he := wsX_at (X := X) hk
  rw [ceX_obj hs] at he
  refine va_put (v := .int (iI z)) (ty := .boolean) C.1 C.2.1 C.2.2.2.2.1 h4 ty0 h7 h8 C.2.2.2.1 C.2.2.2.2.2.1.K0 hP (C.2.2.2.2.2.1.DA C.2.2.2.2.2.2.2.2.2.1 X) hS k he h1 i h2 (C.2.2.2.2.1 _ h5) (fun x hx => by rw [h6] at hx; exact hx) h9 (by rw [h7 i h2, h10]) (narZ hz).1 (narZ hz).2 (by simpa using h2) hd (fun H1 locs1 q1 q2 q3 => kk H1 locs1 ls ?_ q3 hl)
  rw [ce_upI hs h3, ← ceX_obj (X := upI X k i z) hs, wsX_set hk upI_o] at q1
  exact q1
theorem wr1_ok (hW : WD V G) {v : EV} {k i : Nat} {a : AV} {X' : XT} (hN : k < vN V) (h : Gm V G md X0 v g X) (hH : HG V X') (hs : ∀ x y, inM [(k, some i)] x y = false → sameAt x y X X') (hm : inM md k i = true) (hp : (vPr V).any (Nat.beq k) = false) (hl : locOK G k i a g X') : Gm V G md X0 (v.1, v.2.1, ((k, i), a) :: dkill V v.2.2.1 [(k, some i)], v.2.2.2) g X' := by
  refine Gm.wr (ex := [((k, i), a)]) hW h hH hs (fun x y hxy => ?_) (fun x y hxy => ?_) (fun q hq => ?_)
  · obtain ⟨rfl, rfl⟩ := inM_1 hxy; exact hm
  · obtain ⟨rfl, rfl⟩ := inM_1 hxy; exact hp
  · rcases List.mem_cons.mp hq with rfl | hq
    · exact hl
    · cases hq
theorem gho_N {k : Nat} (hW : WD V G) (hk : k < vN V) : gho k = false := by
  have := hW.2.2
  unfold gho
  cases hc : Nat.ble 900 k with
  | false => rfl
  | true => have := Nat.le_of_ble_eq_true hc; omega
theorem at_upI {k i : Nat} {z : Int} : (upI X k i z).1 k i = z := by
  show cond (Nat.beq k k && Nat.beq i i) z (X.1 k i) = z
  rw [beq_self, beq_self]; rfl
theorem at_upL {k i : Nat} {z : Int64} : (upL X k i z).2.1 k i = z := by
  show cond (Nat.beq k k && Nat.beq i i) z (X.2.1 k i) = z
  rw [beq_self, beq_self]; rfl
theorem at_upR {k i : Nat} {z : Option Nat} : (upR X k i z).2.2 k i = z := by
  show cond (Nat.beq k k && Nat.beq i i) z (X.2.2 k i) = z
  rw [beq_self, beq_self]; rfl
theorem loc_upI {k i : Nat} {a : AV} (hk : gho k = false) (ha : Nat.beq a.1 0 = true) : locOK G k i a g (upI X k i (dI g a)) := by
  obtain ⟨t, b, c⟩ := a
  have ht : t = 0 := Nat.eq_of_beq_eq_true ha
  subst ht
  exact loc_I hk at_upI
theorem loc_upL {k i : Nat} {a : AV} (hk : gho k = false) (ha : Nat.beq a.1 1 = true) : locOK G k i a g (upL X k i (g.2 a.2.1)) := by
  obtain ⟨t, b, c⟩ := a
  have ht : t = 1 := Nat.eq_of_beq_eq_true ha
  subst ht
  exact loc_L hk at_upL
theorem loc_upR {k i : Nat} {a : AV} (hk : gho k = false) (ha : Nat.beq a.1 2 = true) : locOK G k i a g (upR X k i (some a.2.1)) := by
  obtain ⟨t, b, c⟩ := a
  have ht : t = 2 := Nat.eq_of_beq_eq_true ha
  subst ht
  unfold locOK
  rw [hk]
  exact at_upR
theorem sPf_ok (C : CX E w cc nL own ret rm) {M : MS} (hV : WV (mV M) w) (hF : FKs M w own) (hW : WD (mV M) G) {idx : Nat} {lv : List (Nat × AV)} {st : List AV} {v : EV} {L : List SS} (hd : decode cc pc = .ok (.putfield idx, 3)) (hG : Gm (mV M) G (mMd M) X0 v g X) (hs : sPf M idx pc lv st v = some L) (K : ∀ s ∈ L, Kt E w nL (mV M) G (mMd M) X0 v.1.length v.2.1.length g s) : Wx E w nL (PX w X) pc (dnL g lv) (dnS g st) := by
  match st, hs with
  | [], hs => cases hs
  | [_], hs => cases hs
  | a :: x :: st, hs =>
    unfold sPf at hs
    simp only at hs
    cases hf : fnd (mF M) idx with
    | none => simp only [hf] at hs; cases hs
    | some fd =>
      obtain ⟨ci, n, i, kd, ty⟩ := fd
      simp only [hf] at hs
      cases hc : (Nat.beq x.1 2 && (isO (mV M) x.2.1 ci n && (Nat.blt i n && (Nat.beq (vF (mV M) ci i) kd && (inM (mMd M) x.2.1 i && okW M x.2.1))))) with
      | false => rw [hc] at hs; cases hs
      | true =>
        rw [hc] at hs
        simp only [cond_true] at hs
        obtain ⟨h1, h2, h3⟩ := and3 hc
        obtain ⟨h4, h5, h6⟩ := and3 h3
        rw [Bool.and_eq_true] at h6
        obtain ⟨hk, hsh⟩ := isO_ok h2
        have hi := blt_lt h4
        have h5 := Nat.eq_of_beq_eq_true h5
        have hFF := hF _ (fnd_mem hf)
        have hk' : x.2.1 < wN w := by rw [← hV.1]; exact hk
        have hsh' : wS w x.2.1 = (0, ci, n) := by rw [← hV.2.1]; exact hsh
        have hgo := gho_N hW hk
        have hpr := okW_ok h6.2
        show Wx E w nL (PX w X) pc (dnL g lv) (dn g a :: dn g x :: dnS g st)
        rw [dn2 h1]
        match ty, hs, hFF with
        | 0, hs, hFF =>
          cases hq : (Nat.beq kd 0 && (Nat.beq a.1 0 && (match ivO v.1 a with | some q => fitI (gI (mV M) x.2.1 i) q | none => false))) with
          | false => simp only [hq, cond_false] at hs; cases hs
          | true =>
            simp only [hq, cond_true] at hs
            cases hs
            obtain ⟨g1, g2, g3⟩ := and3 hq
            have g1 := Nat.eq_of_beq_eq_true g1
            subst g1
            cases hiv : ivO v.1 a with
            | none => simp only [hiv] at g3; cases g3
            | some q =>
              simp only [hiv] at g3
              have hb := ivO_ok hG.2.1 hiv
              rw [dn0 g2]
              exact x_putI C (hFF.2.1 rfl) hk' hsh' hd (k1 (K _ List.mem_cons_self) (wr1_ok hW hk hG (hG.2.2.2.2.2.2.1.upI (fitI_ok g3 hb.1 hb.2)) (fun _ _ h => same_upI h) h6.1 hpr (loc_upI hgo g2)))
        | 1, hs, hFF =>
          cases hq : (Nat.beq kd 0 && (Nat.beq a.1 0 && (match ivO v.1 a with | some q => fitI (gI (mV M) x.2.1 i) q && (leI 0 q.1 && leI q.2 1) | none => false))) with
          | false => simp only [hq, cond_false] at hs; cases hs
          | true =>
            simp only [hq, cond_true] at hs
            cases hs
            obtain ⟨g1, g2, g3⟩ := and3 hq
            have g1 := Nat.eq_of_beq_eq_true g1
            subst g1
            cases hiv : ivO v.1 a with
            | none => simp only [hiv] at g3; cases g3
            | some q =>
              simp only [hiv] at g3
              obtain ⟨g4, g5, g6⟩ := and3 g3
              have hb := ivO_ok hG.2.1 hiv
              rw [dn0 g2]
              exact x_putZ C ⟨by have := leI_of g5; omega, by have := leI_of g6; omega⟩ (hFF.2.2.1 rfl) hk' hsh' hd (k1 (K _ List.mem_cons_self) (wr1_ok hW hk hG (hG.2.2.2.2.2.2.1.upI (fitI_ok g4 hb.1 hb.2)) (fun _ _ h => same_upI h) h6.1 hpr (loc_upI hgo g2)))
        | 2, hs, hFF =>
          cases hq : (Nat.beq kd 1 && (Nat.beq a.1 1 && (match v.2.1[a.2.1]? with | some q => fitI (gL (mV M) x.2.1 i) q | none => false))) with
          | false => simp only [hq, cond_false] at hs; cases hs
          | true =>
            simp only [hq, cond_true] at hs
            cases hs
            obtain ⟨g1, g2, g3⟩ := and3 hq
            have g1 := Nat.eq_of_beq_eq_true g1
            subst g1
            cases hiv : v.2.1[a.2.1]? with
            | none => simp only [hiv] at g3; cases g3
            | some q =>
              simp only [hiv] at g3
              have hb := hG.2.2.1 _ _ hiv
              rw [dn1 g2]
              exact x_putL C (hFF.2.2.2.1 rfl) hk' hsh' hd (k1 (K _ List.mem_cons_self) (wr1_ok hW hk hG (hG.2.2.2.2.2.2.1.upL (fitI_ok g3 hb.1 hb.2)) (fun _ _ h => same_upL h) h6.1 hpr (loc_upL hgo g2)))
        | 3, hs, hFF =>
          cases hq : (Nat.beq kd 2 && (Nat.beq a.1 2 && (vGR (mV M) x.2.1 i).any (fun r => match r with | some j => Nat.beq j a.2.1 | none => false))) with
          | false => simp only [hq, cond_false] at hs; cases hs
          | true =>
            simp only [hq, cond_true] at hs
            cases hs
            obtain ⟨g1, g2, g3⟩ := and3 hq
            have g1 := Nat.eq_of_beq_eq_true g1
            subst g1
            obtain ⟨r, hr1, hr2⟩ := List.any_eq_true.mp g3
            have hr3 : r = some a.2.1 := by
              cases r with
              | none => cases hr2
              | some j => rw [Nat.eq_of_beq_eq_true hr2]
            rw [hr3] at hr1
            obtain ⟨ty, hty, ho⟩ := hFF.2.2.2.2 rfl
            rw [dn2 g2]
            exact x_putR C hty ho hk' hsh' hd (k1 (K _ List.mem_cons_self) (wr1_ok hW hk hG (hG.2.2.2.2.2.2.1.upR hr1) (fun _ _ h => same_upR h) h6.1 hpr (loc_upR hgo g2)))
        | ty + 4, hs, _ => cases hs
end V7
