/-! ===== VSE 12: the walk of a whole method ===== -/
abbrev ME : Type := List (Int × AV) × Int
/-- a loop's head: locals, stack, intervals, places, orders, measure -/
abbrev LB : Type := List (Nat × AV) × List AV × List IV × List IV × DLT × List (AV × AV) × ME
abbrev bLv (B : LB) : List (Nat × AV) := B.1
abbrev bSt (B : LB) : List AV := B.2.1
abbrev bEi (B : LB) : List IV := B.2.2.1
abbrev bEl (B : LB) : List IV := B.2.2.2.1
abbrev bDl (B : LB) : DLT := B.2.2.2.2.1
abbrev bGd (B : LB) : List (AV × AV) := B.2.2.2.2.2.1
abbrev bMe (B : LB) : ME := B.2.2.2.2.2.2
def mvT (g : SG) : List (Int × AV) → Int
  | [] => 0
  | (k, a) :: t => k * dI g a + mvT g t
def mvl (g : SG) (m : ME) : Int := mvT g m.1 + m.2
def addT (s : Nat) (k : Int) : List (Nat × Int) → List (Nat × Int)
  | [] => [(s, k)]
  | (t, j) :: r => cond (Nat.beq t s) ((t, j + k) :: r) ((t, j) :: addT s k r)
def linT : List (Int × AV) → List (Nat × Int) → Int → List (Nat × Int) × Int
  | [], l, c => (l, c)
  | (k, a) :: t, l, c => linT t (addT a.2.1 k l) (c + k * a.2.2)
def ubT (ei : List IV) : List (Nat × Int) → Option Int
  | [] => some 0
  | (s, k) :: t => match ei[s]?, ubT ei t with
    | some q, some u => some (cond (leI 0 k) (k * q.2) (k * q.1) + u)
    | _, _ => none
/-- the sum of terms is at most c -/
def ubB (ei : List IV) (m : List (Int × AV)) (c : Int) : Bool := match ubT ei (linT m [] 0).1 with
  | some u => leI (u + (linT m [] 0).2) c
  | none => false
def ngT (m : List (Int × AV)) : List (Int × AV) := m.map (fun q => (-q.1, q.2))
def rigI (n : Nat) : List AV := (List.range n).map (fun j => (0, j, 0))
def lvP (lv : List (Nat × AV)) : List (Nat × AV) → Option (List (AV × AV))
  | [] => some []
  | (i, p) :: t => match alk lv i, lvP lv t with
    | some a, some r => some ((p, a) :: r)
    | _, _ => none
def lbM (V : VW) (nI nG : Nat) (bnd : Option ME) (lv : List (Nat × AV)) (st : List AV) (v : EV) (B : LB) : Bool := match prp v.2.2.2.2 v.1 with
  | none => true
  | some e => match matE V (bDl B) (e, v.2) with
    | none => false
    | some v1 => match lkD v1.2.2.1 (bDl B), lvP lv (bLv B) with
      | some pp, some lp => Nat.beq (bSt B).length st.length && (match mtc (rigI nI) (List.range nG) (bEi B) (bEl B) (bGd B) (lp ++ ((bSt B).zip st ++ pp)) v1 with
        | some (I, L) => (bMe B).1.all (fun q => Nat.beq q.2.1 0 && Nat.blt q.2.2.1 I.length) && (match bnd with
          | none => true
          | some m0 => ubB v1.1 ((bMe B).1.map (fun q => (q.1, sbA I L q.2)) ++ ngT m0.1) (m0.2 - (bMe B).2 - 1))
        | none => false)
      | _, _ => false
def rtP (r s : Option AV) : Option (List (AV × AV)) := match r, s with
  | none, none => some []
  | some p, some a => some [(p, a)]
  | _, _ => none
def altM (V : VW) (nI nG : Nat) (res : Option AV) (v : EV) (a : AL) : Bool := match matE V (aDl a) v with
  | none => false
  | some v1 => match lkD v1.2.2.1 (aDl a), rtP (aRs a) res with
    | some pp, some rp => match mtc (rigI nI) (List.range nG) (aEi a) (aEl a) (aGd a) (rp ++ pp) v1 with
      | some _ => true
      | none => false
    | _, _ => false
/-- what the walk of a method is given: statics, code, calls by number, contracts by place, Math and arraycopy by number, splits, loops' heads, the contract, the answer's kind -/
abbrev SP : Type := MS × List (Nat × IN) × List (Nat × CE) × List (Nat × List CT) × List (Nat × Nat) × List (Nat × (Nat × Nat × Nat)) × List (Nat × List LB) × CT × Nat
abbrev pM (P : SP) : MS := P.1
abbrev pCd (P : SP) : List (Nat × IN) := P.2.1
abbrev pCe (P : SP) : List (Nat × CE) := P.2.2.1
abbrev pCt (P : SP) : List (Nat × List CT) := P.2.2.2.1
abbrev pMt (P : SP) : List (Nat × Nat) := P.2.2.2.2.1
abbrev pFk (P : SP) : List (Nat × (Nat × Nat × Nat)) := P.2.2.2.2.2.1
abbrev pLb (P : SP) : List (Nat × List LB) := P.2.2.2.2.2.2.1
abbrev pC0 (P : SP) : CT := P.2.2.2.2.2.2.2.1
abbrev pRt (P : SP) : Nat := P.2.2.2.2.2.2.2.2
def rtM (P : SP) (b : Nat) (st : List AV) (v : EV) : Bool := match b, st with
  | 0, [] => Nat.beq (pRt P) 0 && (cAl (pC0 P)).any (altM (mV (pM P)) (cEi (pC0 P)).length (cEl (pC0 P)).length none v)
  | 1, [a] => Nat.beq a.1 0 && ((Nat.beq (pRt P) 1 || (Nat.beq (pRt P) 2 && (match ivO v.1 a with
    | some q => leI 0 q.1 && leI q.2 1
    | none => false))) && (cAl (pC0 P)).any (altM (mV (pM P)) (cEi (pC0 P)).length (cEl (pC0 P)).length (some a) v))
  | 2, [a] => Nat.beq a.1 1 && (Nat.beq (pRt P) 3 && (cAl (pC0 P)).any (altM (mV (pM P)) (cEi (pC0 P)).length (cEl (pC0 P)).length (some a) v))
  | 3, [a] => isRf a && (Nat.beq (pRt P) 4 && (cAl (pC0 P)).any (altM (mV (pM P)) (cEi (pC0 P)).length (cEl (pC0 P)).length (some a) v))
  | _, _ => false
def fsC (M : MS) (ce : CE) (pc : Nat) (lv : List (Nat × AV)) (st : List AV) (v : EV) : List CT → Option (List SS)
  | [] => none
  | c :: t => match cond ((cAl c).all (gdW c)) (sCl M ce c pc lv st v) none with
    | some L => some L
    | none => fsC M ce pc lv st v t
def stp (P : SP) (e : IN) (pc : Nat) (lv : List (Nat × AV)) (st : List AV) (v : EV) : Option (List SS) := match e with
  | (_, _, k, a, b, sw) => match k with
    | 0 => sC (pM P) e pc lv st v
    | 1 => sCL (pM P) e pc lv st v
    | 2 => sLd e pc lv st v
    | 3 => sSt (pM P) e pc lv st v
    | 4 => sInc (pM P) e pc lv st v
    | 5 => sBin b.toNat pc lv st v
    | 6 => sBinL b.toNat pc lv st v
    | 7 => sShf b.toNat pc lv st v
    | 8 => sUn b.toNat pc lv st v
    | 9 => sMsc b.toNat pc lv st v
    | 10 => sGo a pc lv st v
    | 11 => sNul b.toNat a pc lv st v
    | 12 => sIf b.toNat a pc lv st v
    | 13 => sIc b.toNat a pc lv st v
    | 14 => sGf (pM P) a.toNat pc lv st v
    | 15 => sPf (pM P) a.toNat pc lv st v
    | 16 => cond (Nat.ble b.toNat 4) (sAl (pM P) b.toNat pc lv st v) none
    | 17 => cond (Nat.ble b.toNat 3) (sAs (pM P) b.toNat pc lv st v) none
    | 18 => sLen (pM P) pc lv st v
    | 19 => sSw a sw pc lv st v
    | 20 => match fnd (pCe P) a.toNat, fnd (pCt P) pc with
      | some ce, some cs => cond (Nat.beq ce.1 b.toNat) (fsC (pM P) ce pc lv st v cs) none
      | _, _ => none
    | 21 => match fnd (pMt P) a.toNat with
      | some o => cond (Nat.ble o 1) (sMm (pM P) o pc lv st v) none
      | none => none
    | 22 => match fnd (pMt P) a.toNat with
      | some o => cond (Nat.beq o 2) (sCp (pM P) b.toNat pc lv st v) none
      | none => none
    | 24 => sTb a b sw pc lv st v
    | _ => none
def fkA (kd i j : Nat) (lv : List (Nat × AV)) (st : List AV) (v : EV) : Option AV := match kd with
  | 0 => alk lv i
  | 1 => st[i]?
  | _ => adl v.2.2.1 i j
def fkL (V : VW) (f : Nat × Nat × Nat) (pc : Nat) (lv : List (Nat × AV)) (st : List AV) (v : EV) : Option (List SS) := match (match f.1 with
    | 2 => matE V [((f.2.1, f.2.2), (0, 0, 0))] v
    | _ => some v) with
  | none => none
  | some v1 => match fkA f.1 f.2.1 f.2.2 lv st v1 with
    | none => none
    | some a => match ivO v1.1 a with
      | none => none
      | some q => cond (Nat.beq a.1 0 && (leI (q.1 + 1) q.2 && leI (q.2 - q.1) 64)) (some ((List.range ((q.2 - q.1).toNat + 1)).flatMap (fun (j : Nat) => opS (rfn v1.1 a (q.1 + (j : Int)) (q.1 + (j : Int))) (fun e => [(pc, lv, st, (e, v1.2))])))) none
def lbO (P : SP) (bnd : Option ME) (en : Bool) (s : SS) : Bool := cond en false (match fnd (pLb P) s.1 with
  | some l => l.any (lbM (mV (pM P)) (cEi (pC0 P)).length (cEl (pC0 P)).length bnd s.2.1 s.2.2.1 s.2.2.2)
  | none => false)
def fkO (P : SP) (s : SS) : Option (List SS) := match fnd (pFk P) s.1 with
  | some f => fkL (mV (pM P)) f s.1 s.2.1 s.2.2.1 s.2.2.2
  | none => none
def inE (P : SP) (s : SS) (rec : SS → Bool) (e : IN) : Bool := cond (Nat.beq e.2.2.1 23) (rtM P e.2.2.2.2.1.toNat s.2.2.1 s.2.2.2) (match stp P e s.1 s.2.1 s.2.2.1 s.2.2.2 with
  | some L => L.all rec
  | none => false)
def inO (P : SP) (s : SS) (rec : SS → Bool) : Bool := match fnd (pCd P) s.1 with
  | none => false
  | some e => inE P s rec e
def fiO (P : SP) (s : SS) (rec : Bool → SS → Bool) : Bool := match fkO P s with
  | some L => L.all (rec true)
  | none => inO P s (rec false)
def sxB (P : SP) (nB nG : Nat) (bnd : Option ME) (rec : Bool → SS → Bool) (en : Bool) (s : SS) : Bool := scS s && (Nat.ble nB s.2.2.2.1.length && (Nat.ble nG s.2.2.2.2.1.length && (lbO P bnd en s || fiO P s rec)))
def sx (P : SP) (nB nG : Nat) (bnd : Option ME) : Nat → Bool → SS → Bool
  | 0, _, _ => false
  | n + 1, en, s => sxB P nB nG bnd (sx P nB nG bnd n) en s
def alvA : Nat → List AV → List (Nat × AV)
  | _, [] => []
  | i, a :: t => (i, a) :: alvA (cond (Nat.beq a.1 1) (i + 2) (i + 1)) t
def chk (P : SP) (F : Nat) : Bool :=
  sx P (cEi (pC0 P)).length (cEl (pC0 P)).length none F false (0, alvA 0 (cAr (pC0 P)), [], (cEi (pC0 P), cEl (pC0 P), cPr (pC0 P), [], [])) &&
  ((pLb P).all (fun q => q.2.all (fun B => Nat.ble (cEi (pC0 P)).length (bEi B).length && (Nat.ble (cEl (pC0 P)).length (bEl B).length && ((bMe B).1.all (fun q => Nat.beq q.2.1 0 && Nat.blt q.2.2.1 (bEi B).length) && (ubB (bEi B) (ngT (bMe B).1) (bMe B).2 && sx P (bEi B).length (bEl B).length (some (bMe B)) F true (q.1, bLv B, bSt B, (bEi B, bEl B, bDl B, [], bGd B))))))) &&
  (Nat.blt 0 (cEi (pC0 P)).length && (mMd (pM P) == cMd (pC0 P))))
section V12
variable {E : ET} {w : WT} {nL : Nat} {pc : Nat} {cc : ByteArray} {own : String} {ret : Option FieldType} {rm : Room} {V : VW} {G : GT} {md : List (Nat × Option Nat)} {X0 X : XT} {g : SG} {lvv : List (Nat × Value)} {stv : List Value}
def lvT (g : SG) : List (Nat × Int) → Int
  | [] => 0
  | (s, k) :: t => k * g.1 s + lvT g t
theorem addT_ok (g : SG) (s : Nat) (k : Int) : ∀ l, lvT g (addT s k l) = lvT g l + k * g.1 s
  | [] => by show k * g.1 s + 0 = 0 + k * g.1 s; omega
  | (t, j) :: r => by
    unfold addT
    cases hb : Nat.beq t s with
    | true =>
      have := Nat.eq_of_beq_eq_true hb
      subst this
      show (j + k) * g.1 t + lvT g r = j * g.1 t + lvT g r + k * g.1 t
      rw [Int.add_mul]
      omega
    | false =>
      show j * g.1 t + lvT g (addT s k r) = j * g.1 t + lvT g r + k * g.1 s
      rw [addT_ok g s k r]
      omega
theorem linT_ok (g : SG) : ∀ (m : List (Int × AV)) (l : List (Nat × Int)) (c : Int), lvT g (linT m l c).1 + (linT m l c).2 = mvT g m + lvT g l + c
  | [], l, c => by show lvT g l + c = 0 + lvT g l + c; omega
  | (k, a) :: t, l, c => by
    show lvT g (linT t (addT a.2.1 k l) (c + k * a.2.2)).1 + (linT t (addT a.2.1 k l) (c + k * a.2.2)).2 = k * dI g a + mvT g t + lvT g l + c
    rw [linT_ok g t, addT_ok]
    unfold dI
    rw [Int.mul_add]
    omega
theorem ubT_ok {ei : List IV} (he : eiOK ei g.1) : ∀ {l : List (Nat × Int)} {u : Int}, ubT ei l = some u → lvT g l ≤ u
  | [], u, h => by cases h; exact Int.le_refl _
  | (s, k) :: t, u, h => by
    unfold ubT at h
    cases hq : ei[s]? with
    | none => rw [hq] at h; cases h
    | some q =>
      cases hu : ubT ei t with
      | none => rw [hq, hu] at h; cases h
      | some u' =>
        rw [hq, hu] at h
        cases h
        have h1 := ubT_ok he hu
        have h2 := he s q hq
        show k * g.1 s + lvT g t ≤ cond (leI 0 k) (k * q.2) (k * q.1) + u'
        have h3 : k * g.1 s ≤ cond (leI 0 k) (k * q.2) (k * q.1) := by
          cases hk : leI 0 k with
          | true => exact Int.mul_le_mul_of_nonneg_left h2.2 (leI_of hk)
          | false =>
            have : ¬ 0 ≤ k := fun q => by rw [leI_iff.mpr q] at hk; cases hk
            exact Int.mul_le_mul_of_nonpos_left (by omega) h2.1
        omega
theorem ubB_ok {ei : List IV} {m : List (Int × AV)} {c : Int} (he : eiOK ei g.1) (h : ubB ei m c = true) : mvT g m ≤ c := by
  unfold ubB at h
  cases hu : ubT ei (linT m [] 0).1 with
  | none => rw [hu] at h; cases h
  | some u =>
    rw [hu] at h
    have h := leI_of h
    have h1 := ubT_ok he hu
    have h2 := linT_ok g m [] 0
    have h3 : lvT g [] = 0 := rfl
    omega
theorem mvT_app (g : SG) : ∀ (a b : List (Int × AV)), mvT g (a ++ b) = mvT g a + mvT g b
  | [], b => by show mvT g b = 0 + mvT g b; omega
  | (k, x) :: t, b => by
    show k * dI g x + mvT g (t ++ b) = k * dI g x + mvT g t + mvT g b
    rw [mvT_app g t b]
    omega
theorem mvT_ng (g : SG) : ∀ (a : List (Int × AV)), mvT g (ngT a) = - mvT g a
  | [] => rfl
  | (k, x) :: t => by
    show -k * dI g x + mvT g (ngT t) = -(k * dI g x + mvT g t)
    rw [mvT_ng g t, Int.neg_mul]
    omega
theorem mvT_sc {nI nG : Nat} {g g' : SG} (hx : Ext nI nG g g') : ∀ {m : List (Int × AV)}, m.all (fun q => Nat.beq q.2.1 0 && Nat.blt q.2.2.1 nI) = true → mvT g' m = mvT g m
  | [], _ => rfl
  | (k, a) :: t, h => by
    have h : ((Nat.beq a.1 0 && Nat.blt a.2.1 nI) && t.all (fun q => Nat.beq q.2.1 0 && Nat.blt q.2.2.1 nI)) = true := h
    rw [Bool.and_eq_true, Bool.and_eq_true] at h
    show k * dI g' a + mvT g' t = k * dI g a + mvT g t
    rw [hx.vI (blt_lt h.1.2), mvT_sc hx h.2]
theorem rigI_at {n j : Nat} (h : j < n) (t : List AV) : (rigI n ++ t)[j]? = some (0, j, 0) := by
  have hl : (rigI n).length = n := by unfold rigI; rw [List.length_map, List.length_range]
  rw [List.getElem?_append_left (by rw [hl]; exact h)]
  unfold rigI
  rw [List.getElem?_map, List.getElem?_range h]
  rfl
theorem rng_at {n j : Nat} (h : j < n) (t : List Nat) : (List.range n ++ t)[j]? = some j := by
  rw [List.getElem?_append_left (by rw [List.length_range]; exact h), List.getElem?_range h]
theorem sgO_rig {nI nG : Nat} {I : List AV} {L : List Nat} {ti : List AV} {tl : List Nat} (hI : I = rigI nI ++ ti) (hL : L = List.range nG ++ tl) : Ext nI nG g (sgO g I L) := by
  refine ⟨fun b hb => ?_, fun b hb => ?_⟩
  · show (match I[b]? with | some a => dI g a | none => 0) = g.1 b
    rw [hI, rigI_at hb]
    show g.1 b + 0 = g.1 b
    rw [Int.add_zero]
  · show (match L[b]? with | some a => g.2 a | none => 0) = g.2 b
    rw [hL, rng_at hb]
theorem lvP_ok {lv : List (Nat × AV)} : ∀ {l : List (Nat × AV)} {r : List (AV × AV)} {I : List AV} {L : List Nat}, lvP lv l = some r → (∀ q ∈ r, eqV (sbA I L q.1) q.2 = true) → lpick (dnL g lv) (l.map (fun q => q.1)) = dnL (sgO g I L) l
  | [], r, I, L, h, _ => rfl
  | (i, p) :: t, r, I, L, h, hq => by
    unfold lvP at h
    cases ha : alk lv i with
    | none => rw [ha] at h; cases h
    | some a =>
      cases hr : lvP lv t with
      | none => rw [ha, hr] at h; cases h
      | some r' =>
        rw [ha, hr] at h
        cases h
        have ih := lvP_ok hr (fun q hm => hq q (List.mem_cons_of_mem _ hm))
        unfold lpick at ih ⊢
        show List.filterMap _ (i :: t.map (fun q => q.1)) = (i, dn (sgO g I L) p) :: dnL (sgO g I L) t
        rw [← ih, List.filterMap_cons, alk_some (g := g) ha, dn_sb (g := g) (hq (p, a) List.mem_cons_self)]
        rfl
theorem mvT_sb {I : List AV} {L : List Nat} : ∀ {m : List (Int × AV)}, m.all (fun q => Nat.beq q.2.1 0 && Nat.blt q.2.2.1 I.length) = true → mvT g (m.map (fun q => (q.1, sbA I L q.2))) = mvT (sgO g I L) m
  | [], _ => rfl
  | (k, a) :: t, h => by
    have h : ((Nat.beq a.1 0 && Nat.blt a.2.1 I.length) && t.all (fun q => Nat.beq q.2.1 0 && Nat.blt q.2.2.1 I.length)) = true := h
    rw [Bool.and_eq_true, Bool.and_eq_true] at h
    have e1 : dI g (sbA I L a) = dI (sgO g I L) a := by
      obtain ⟨x, b, c⟩ := a
      have hx : x = 0 := Nat.eq_of_beq_eq_true h.1.1
      subst hx
      have hlt : b < I.length := blt_lt h.1.2
      have hb : I[b]? = some (I[b]'hlt) := List.getElem?_eq_getElem hlt
      rw [dI_sgO hb]
      unfold sbA
      simp only [hb]
    show k * dI g (sbA I L a) + mvT g (t.map _) = k * dI (sgO g I L) a + mvT (sgO g I L) t
    rw [e1, mvT_sb h.2]
theorem lbM_ok (hW : WD V G) (hI : WGi V G) {nI nG : Nat} {bnd : Option ME} {lv : List (Nat × AV)} {st : List AV} {v : EV} {B : LB} (hn : 0 < nI) (hp : 0 < v.1.length) (hsv : lv.all (fun q => scV v.1.length v.2.1.length q.2) = true) (hst : st.all (scV v.1.length v.2.1.length) = true) (hs : scE v = true) (hG : Gm V G md X0 v g X) (h : lbM V nI nG bnd lv st v B = true) (hb : ∀ m, bnd = some m → m.1.all (fun q => Nat.beq q.2.1 0 && Nat.blt q.2.2.1 v.1.length) = true) (hnI : nI ≤ v.1.length) (hnG : nG ≤ v.2.1.length)
    (K : ∀ g1, Ext nI nG g g1 → Gm V G md X0 (bEi B, bEl B, bDl B, [], bGd B) g1 X → (∀ m, bnd = some m → mvl g1 (bMe B) < mvl g m) → Wx E w nL (PX w X) pc (dnL g1 (bLv B)) (dnS g1 (bSt B))) : Wx E w nL (PX w X) pc (dnL g lv) (dnS g st) := by
  unfold lbM at h
  obtain ⟨s1, s2, s3⟩ := and3 hs
  obtain ⟨e, e1, e2, e3⟩ := prp_ok hG.2.1 hG.2.2.2.2.2.1 s3
  rw [e1] at h
  simp only at h
  have hG1 : Gm V G md X0 (e, v.2) g X := hG.rei e2
  have hs1 : scE (e, v.2) = true := by
    obtain ⟨ei, el, dl, lk, gd⟩ := v
    have := scE_up (ei' := e) (el' := el) (ex := []) hs (by rw [e3]; exact Nat.le_refl _) (Nat.le_refl _) rfl
    exact this
  cases hm : matE V (bDl B) (e, v.2) with
  | none => rw [hm] at h; cases h
  | some v1 =>
    rw [hm] at h
    simp only at h
    obtain ⟨g1, x1, x2, x3, x4, x5⟩ := matE_ok hW hI hs1 (by rw [e3]; exact hp) hG1 hm
    have x1 : Ext v.1.length v.2.1.length g g1 := ⟨fun b hb => x1.1 b (by show b < e.length; rw [e3]; exact hb), x1.2⟩
    cases hk : lkD v1.2.2.1 (bDl B) with
    | none => rw [hk] at h; cases h
    | some pp =>
      cases hl : lvP lv (bLv B) with
      | none => rw [hk, hl] at h; cases h
      | some lp =>
        rw [hk, hl] at h
        simp only at h
        rw [Bool.and_eq_true] at h
        obtain ⟨h1, h2⟩ := h
        cases ht : mtc (rigI nI) (List.range nG) (bEi B) (bEl B) (bGd B) (lp ++ ((bSt B).zip st ++ pp)) v1 with
        | none => rw [ht] at h2; cases h2
        | some IL =>
          obtain ⟨I, L⟩ := IL
          rw [ht] at h2
          simp only at h2
          rw [Bool.and_eq_true] at h2
          obtain ⟨h2, h3⟩ := h2
          obtain ⟨t1, t2, t3, t4, t5, t6, t7, t8, t9, t10⟩ := mtc_ok x2 ht
          have hrig : Ext nI nG g1 (sgO g1 I L) := sgO_rig t1 t2
          have hext : Ext nI nG g (sgO g1 I L) := Ext.tr ⟨fun b hb => x1.1 b (Nat.lt_of_lt_of_le hb hnI), fun b hb => x1.2 b (Nat.lt_of_lt_of_le hb hnG)⟩ hrig (Nat.le_refl _) (Nat.le_refl _)
          have hK := K (sgO g1 I L) hext ⟨by rw [hext.1 0 hn]; exact hG.1, t8, t9, fun q hq => by
            obtain ⟨a, a1, a2⟩ := lkD_ok hk q hq
            exact loc_sb (t3 _ (List.mem_append.mpr (Or.inr (List.mem_append.mpr (Or.inr a1))))) (x2.2.2.2.1 _ a2), (fun q hq => by cases hq), t10, x2.2.2.2.2.2.2⟩ (fun m hm => by
            rw [hm] at h3
            have h4 := ubB_ok x2.2.1 h3
            rw [mvT_app, mvT_ng, mvT_sb h2, mvT_sc x1 (hb m hm)] at h4
            show mvT (sgO g1 I L) (bMe B).1 + (bMe B).2 < mvT g m.1 + m.2
            omega)
          rw [← x1.vL hsv, ← x1.vS hst]
          refine Wx_pick ((bLv B).map (fun q => q.1)) ?_
          rw [lvP_ok (g := g1) (I := I) (L := L) hl (fun q hq => t3 q (List.mem_append.mpr (Or.inl hq)))]
          have e4 : dnS g1 st = dnS (sgO g1 I L) (bSt B) := (zip_all (P := fun p a => eqV (sbA I L p) a = true) (Nat.eq_of_beq_eq_true h1) (fun q hq => t3 q (List.mem_append.mpr (Or.inr (List.mem_append.mpr (Or.inl hq))))) _ _ (fun p a h => dn_sb h)).symm
          rw [e4]
          exact hK
theorem altM_ok (hW : WD V G) (hI : WGi V G) {c0 : CT} {g0 : SG} {res : Option AV} {v : EV} {a : AL} (ha : a ∈ cAl c0) (hn : 0 < (cEi c0).length) (hx : Ext (cEi c0).length (cEl c0).length g0 g) (hp : 0 < v.1.length) (hs : scE v = true) (hr : ∀ r, res = some r → scV v.1.length v.2.1.length r = true) (hG : Gm V G (cMd c0) X0 v g X) (h : altM V (cEi c0).length (cEl c0).length res v a = true) (hnI : (cEi c0).length ≤ v.1.length) (hnG : (cEl c0).length ≤ v.2.1.length) : altP V G c0 g0 X0 (res.map (dn g)) X := by
  unfold altM at h
  cases hm : matE V (aDl a) v with
  | none => rw [hm] at h; cases h
  | some v1 =>
    rw [hm] at h
    simp only at h
    obtain ⟨g1, x1, x2, x3, x4, x5⟩ := matE_ok hW hI hs hp hG hm
    cases hk : lkD v1.2.2.1 (aDl a) with
    | none => rw [hk] at h; cases h
    | some pp =>
      cases hl : rtP (aRs a) res with
      | none => rw [hk, hl] at h; cases h
      | some rp =>
        rw [hk, hl] at h
        simp only at h
        cases ht : mtc (rigI (cEi c0).length) (List.range (cEl c0).length) (aEi a) (aEl a) (aGd a) (rp ++ pp) v1 with
        | none => rw [ht] at h; cases h
        | some IL =>
          obtain ⟨I, L⟩ := IL
          obtain ⟨t1, t2, t3, t4, t5, t6, t7, t8, t9, t10⟩ := mtc_ok x2 ht
          have hrig : Ext (cEi c0).length (cEl c0).length g1 (sgO g1 I L) := sgO_rig t1 t2
          have hx1 : Ext (cEi c0).length (cEl c0).length g0 g1 := hx.tr ⟨fun b hb => x1.1 b (Nat.lt_of_lt_of_le hb hnI), fun b hb => x1.2 b (Nat.lt_of_lt_of_le hb hnG)⟩ (Nat.le_refl _) (Nat.le_refl _)
          refine ⟨a, ha, sgO g1 I L, hx1.tr hrig (Nat.le_refl _) (Nat.le_refl _), t8, t9, ?_, fun q hq => ?_, t10, x2.2.2.2.2.2.2.1, x2.2.2.2.2.2.2.2.1, x2.2.2.2.2.2.2.2.2⟩
          · cases hres : res with
            | none =>
              rw [hres] at hl
              cases har : aRs a with
              | none => rfl
              | some p => rw [har] at hl; cases hl
            | some r =>
              rw [hres] at hl
              cases har : aRs a with
              | none => rw [har] at hl; cases hl
              | some p =>
                rw [har] at hl
                cases hl
                have h5 := dn_sb (g := g1) (t3 (p, r) List.mem_cons_self)
                show some (dn g r) = some (dn (sgO g1 I L) p)
                rw [h5, x1.vd (hr r hres)]
          · obtain ⟨b, b1, b2⟩ := lkD_ok hk q hq
            exact loc_sb (t3 _ (List.mem_append.mpr (Or.inr b1))) (x2.2.2.2.1 _ b2)
theorem fkL_ok (hW : WD V G) (hI : WGi V G) {f : Nat × Nat × Nat} {lv : List (Nat × AV)} {st : List AV} {v : EV} {L : List SS} (hsc : scS (pc, lv, st, v) = true) (hG : Gm V G md X0 v g X) (hs : fkL V f pc lv st v = some L) (K : ∀ s ∈ L, Kt E w nL V G md X0 v.1.length v.2.1.length g s) : Wx E w nL (PX w X) pc (dnL g lv) (dnS g st) := by
  obtain ⟨ei, el, rr⟩ := v
  obtain ⟨c1, c2, c3, c4⟩ := sc4 hsc
  unfold fkL at hs
  have body : ∀ {v1 : EV} {g1 : SG}, Ext ei.length el.length g g1 → Gm V G md X0 v1 g1 X → (match fkA f.1 f.2.1 f.2.2 lv st v1 with
    | none => none
    | some a => match ivO v1.1 a with
      | none => none
      | some q => cond (Nat.beq a.1 0 && (leI (q.1 + 1) q.2 && leI (q.2 - q.1) 64)) (some ((List.range ((q.2 - q.1).toNat + 1)).flatMap (fun (j : Nat) => opS (rfn v1.1 a (q.1 + (j : Int)) (q.1 + (j : Int))) (fun e => [((pc, lv, st, (e, v1.2)) : SS)])))) none) = some L → Wx E w nL (PX w X) pc (dnL g lv) (dnS g st) := by
    intro v1 g1 hx hG1 h
    cases ha : fkA f.1 f.2.1 f.2.2 lv st v1 with
    | none => rw [ha] at h; cases h
    | some a =>
      rw [ha] at h
      simp only at h
      cases hq : ivO v1.1 a with
      | none => rw [hq] at h; cases h
      | some q =>
        rw [hq] at h
        simp only at h
        cases hc : (Nat.beq a.1 0 && (leI (q.1 + 1) q.2 && leI (q.2 - q.1) 64)) with
        | false => rw [hc] at h; cases h
        | true =>
          rw [hc] at h
          cases h
          have hb := ivO_ok hG1.2.1 hq
          have hl : a.2.1 < v1.1.length := by
            rcases Nat.lt_or_ge a.2.1 v1.1.length with hl | hl
            · exact hl
            · unfold ivO at hq
              rw [List.getElem?_eq_none hl] at hq
              cases hq
          obtain ⟨e', a4, a5, _⟩ := rfn_ok (a := a) (lo := dI g1 a) (hi := dI g1 a) hG1.2.1 hl (Int.le_refl _) (Int.le_refl _)
          have hj : q.1 + (((dI g1 a - q.1).toNat : Nat) : Int) = dI g1 a := by omega
          have hK := K (pc, lv, st, (e', v1.2)) (List.mem_flatMap.mpr ⟨(dI g1 a - q.1).toNat, List.mem_range.mpr (by omega), by
            rw [hj, a4]
            exact List.mem_cons_self⟩) g1 X hx (hG1.rei a5)
          have hK : Wx E w nL (PX w X) pc (dnL g1 lv) (dnS g1 st) := hK
          rw [hx.vL c1, hx.vS c2] at hK
          exact hK
  match hf : f.1, hs with
  | 2, hs =>
    cases hm : matE V [((f.2.1, f.2.2), (0, 0, 0))] (ei, el, rr) with
    | none => simp only [hm] at hs; cases hs
    | some v1 =>
      simp only [hm] at hs
      obtain ⟨g1, x1, x2, _⟩ := matE_ok hW hI c3 c4 hG hm
      exact body x1 x2 (by rw [hf]; exact hs)
  | 0, hs => exact body Ext.rf hG (by rw [hf]; exact hs)
  | 1, hs => exact body Ext.rf hG (by rw [hf]; exact hs)
  | n + 3, hs => exact body Ext.rf hG (by rw [hf]; exact hs)
end V12
