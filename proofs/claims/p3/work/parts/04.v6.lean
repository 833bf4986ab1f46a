/-! ===== VSE 6: branches, switches, splits ===== -/
def opS (o : Option (List IV)) (f : List IV → List SS) : List SS := match o with
  | some e => f e
  | none => []
def neg6 (r : Nat) : Nat := match r with
  | 0 => 1
  | 1 => 0
  | 2 => 3
  | 3 => 2
  | 4 => 5
  | _ => 4
/-- longs' intervals where a comparison of two came out (not) even -/
def lkR (eqq : Bool) (el : List IV) (lk : List (Nat × Nat × Nat)) (s : Nat) : Option (List IV) := match fnd lk s with
  | none => some el
  | some (a, b) => match el[a]?, el[b]? with
    | some p, some q => cond eqq (match rfl_ el a q.1 q.2 with
        | some e1 => rfl_ e1 b p.1 p.2
        | none => none) (cond (decide (q.1 = q.2) && decide (p.1 = q.1)) (rfl_ el a (p.1 + 1) p.2) (some el))
    | _, _ => some el
def tgI (pc : Nat) (off : Int) : Nat := ((pc : Int) + off).toNat
def sGo (a : Int) (pc : Nat) (lv : List (Nat × AV)) (st : List AV) (v : EV) : Option (List SS) := cond (leI 0 ((pc : Int) + a)) (o1 (tgI pc a, lv, st, v)) none
def sNul (o : Nat) (a : Int) (pc : Nat) (lv : List (Nat × AV)) (st : List AV) (v : EV) : Option (List SS) := match st with
  | x :: st => cond (leI 0 ((pc : Int) + a)) (cond (Nat.beq x.1 3) (o1 (cond (Nat.beq o 0) (tgI pc a) (pc + 3), lv, st, v)) (cond (Nat.beq x.1 2) (o1 (cond (Nat.beq o 0) (pc + 3) (tgI pc a), lv, st, v)) none)) none
  | [] => none
/-- with the longs behind a comparison -/
def lkS (r : Nat) (x : AV) (v : EV) (f : EV → SS) (e : List IV) : List SS := cond (Nat.ble r 1 && decide (x.2.2 = 0)) (match lkR (Nat.beq r 0) v.2.1 v.2.2.2.1 x.2.1 with
  | some l => [f (e, l, v.2.2)]
  | none => []) [f (e, v.2)]
def sIf (r : Nat) (a : Int) (pc : Nat) (lv : List (Nat × AV)) (st : List AV) (v : EV) : Option (List SS) := match st with
  | x :: st => cond (leI 0 ((pc : Int) + a) && (Nat.ble r 5 && Nat.beq x.1 0)) (match ivR v.1 x with
    | some _ => some (opS (asm r v.1 x (0, 0, 0)) (lkS r x v (fun v' => (tgI pc a, lv, st, v'))) ++ opS (asm (neg6 r) v.1 x (0, 0, 0)) (lkS (neg6 r) x v (fun v' => (pc + 3, lv, st, v'))))
    | none => none) none
  | [] => none
def sIc (r : Nat) (a : Int) (pc : Nat) (lv : List (Nat × AV)) (st : List AV) (v : EV) : Option (List SS) := match st with
  | y :: x :: st => cond (leI 0 ((pc : Int) + a) && (Nat.ble r 5 && (Nat.beq x.1 0 && Nat.beq y.1 0))) (match ivR v.1 x, ivR v.1 y with
    | some _, some _ => some (opS (asm r v.1 x y) (fun e => [(tgI pc a, lv, st, (e, v.2))]) ++ opS (asm (neg6 r) v.1 x y) (fun e => [(pc + 3, lv, st, (e, v.2))]))
    | _, _ => none) none
  | _ => none
def swS (d : Int) (x : AV) (f : Int → List IV → SS) : List (Int × Int) → List IV → List SS
  | [], e => [f d e]
  | (a, o) :: t, e => opS (asEq e x (0, 0, a)) (fun e' => [f o e']) ++ opS (asNe e x (0, 0, a)) (fun e' => swS d x f t e')
def sSw (a : Int) (sw : List (Int × Int)) (pc : Nat) (lv : List (Nat × AV)) (st : List AV) (v : EV) : Option (List SS) := match st with
  | x :: st => cond (Nat.beq x.1 0 && (leI 0 ((pc : Int) + a) && (sw.all (fun q => leI 0 ((pc : Int) + q.2)) && (sw.zip (sw.drop 1)).all (fun (a, next) => a.1 < next.1)))) (match ivR v.1 x with
    | some _ => some (swS a x (fun o e => (tgI pc o, lv, st, (e, v.2))) sw v.1)
    | none => none) none
  | [] => none
section V6
variable {E : ET} {w : WT} {nL : Nat} {PH : Heap → Prop} {pc : Nat} {cc : ByteArray} {own : String} {ret : Option FieldType} {rm : Room} {V : VW} {G : GT} {md : List (Nat × Option Nat)} {X0 X : XT} {g : SG} {lvv : List (Nat × Value)} {stv : List Value}
theorem tgI_eq {off : Int} (h : leI 0 ((pc : Int) + off) = true) : (pc : Int) + off = ((tgI pc off : Nat) : Int) := by
  unfold tgI
  rw [Int.toNat_of_nonneg (leI_of h)]
theorem Gm.rei {v : EV} {e : List IV} (h : Gm V G md X0 v g X) (he : eiOK e g.1) : Gm V G md X0 (e, v.2) g X := ⟨h.1, he, h.2.2⟩
theorem Gm.rel {v : EV} {e l : List IV} (h : Gm V G md X0 v g X) (he : eiOK e g.1) (hl : elOK l g.2) : Gm V G md X0 (e, l, v.2.2) g X := ⟨h.1, he, hl, h.2.2.2⟩
theorem lkR_ok {eqq : Bool} {v : EV} {s : Nat} (h : Gm V G md X0 v g X) (hs : scE v = true) (hr : inR (g.1 s)) (hz : if eqq = true then g.1 s = 0 else ¬ g.1 s = 0) : ∃ l, lkR eqq v.2.1 v.2.2.2.1 s = some l ∧ elOK l g.2 := by
  unfold lkR
  cases hf : fnd v.2.2.2.1 s with
  | none => exact ⟨_, rfl, h.2.2.1⟩
  | some ab =>
    obtain ⟨a, b⟩ := ab
    have hm := fnd_mem hf
    have hk := h.2.2.2.2.1 _ hm
    obtain ⟨_, s2, _⟩ := and3 hs
    obtain ⟨_, s3, s4⟩ := and3 (List.all_eq_true.mp s2 _ hm)
    have la : a < v.2.1.length := blt_lt s3
    have lb : b < v.2.1.length := blt_lt s4
    have pa := List.getElem?_eq_getElem la
    have pb := List.getElem?_eq_getElem lb
    have qa := h.2.2.1 _ _ pa
    have qb := h.2.2.1 _ _ pb
    have ci := lcmp_iff (x := g.2 a) (y := g.2 b) hr hk
    show ∃ l, (match v.2.1[a]?, v.2.1[b]? with
      | some p, some q => cond eqq (match rfl_ v.2.1 a q.1 q.2 with
          | some e1 => rfl_ e1 b p.1 p.2
          | none => none) (cond (decide (q.1 = q.2) && decide (p.1 = q.1)) (rfl_ v.2.1 a (p.1 + 1) p.2) (some v.2.1))
      | _, _ => some v.2.1) = some l ∧ elOK l g.2
    rw [pa, pb]
    cases eqq with
    | true =>
      have hz : g.1 s = 0 := hz
      have hab := ci.1.mp hz
      obtain ⟨e1, a1, a2, a3⟩ := rfl_ok (lo := v.2.1[b].1) (hi := v.2.1[b].2) h.2.2.1 la (by rw [hab]; exact qb.1) (by rw [hab]; exact qb.2)
      obtain ⟨e2, b1, b2, _⟩ := rfl_ok (lo := v.2.1[a].1) (hi := v.2.1[a].2) a2 (by rw [a3]; exact lb) (by rw [← hab]; exact qa.1) (by rw [← hab]; exact qa.2)
      refine ⟨e2, ?_, b2⟩
      show (match rfl_ v.2.1 a v.2.1[b].1 v.2.1[b].2 with | some e1 => rfl_ e1 b v.2.1[a].1 v.2.1[a].2 | none => none) = _
      rw [a1]
      exact b1
    | false =>
      have hz : ¬ g.1 s = 0 := hz
      show ∃ l, cond (decide (v.2.1[b].1 = v.2.1[b].2) && decide (v.2.1[a].1 = v.2.1[b].1)) (rfl_ v.2.1 a (v.2.1[a].1 + 1) v.2.1[a].2) (some v.2.1) = some l ∧ elOK l g.2
      cases hc : (decide (v.2.1[b].1 = v.2.1[b].2) && decide (v.2.1[a].1 = v.2.1[b].1)) with
      | false => exact ⟨_, rfl, h.2.2.1⟩
      | true =>
        rw [Bool.and_eq_true, decide_eq_true_iff, decide_eq_true_iff] at hc
        have hne : ¬ (g.2 a).toInt = (g.2 b).toInt := fun q => hz (ci.1.mpr (Int64.toInt_inj.mp q))
        obtain ⟨e1, a1, a2, _⟩ := rfl_ok (lo := v.2.1[a].1 + 1) (hi := v.2.1[a].2) h.2.2.1 la (by omega) qa.2
        exact ⟨e1, a1, a2⟩
theorem lkS_ok {r : Nat} {x : AV} {v : EV} {f : EV → SS} {e : List IV} {P : Prop} (hv : ∀ v', (f v').2.2.2 = v') (h : Gm V G md X0 v g X) (hs : scE v = true) (he : eiOK e g.1) (hi : inR (dI g x)) (hr : relP r (dI g x) 0) {nI nG : Nat} {pc' : Nat} {lv' : List (Nat × AV)} {st' : List AV} (hf : ∀ v', (f v').1 = pc' ∧ (f v').2.1 = lv' ∧ (f v').2.2.1 = st') (K : ∀ s ∈ lkS r x v f e, Kt E w nL V G md X0 nI nG g s) : Wx E w nL (PX w X) pc' (dnL g lv') (dnS g st') := by
  have fin : ∀ v', Kt E w nL V G md X0 nI nG g (f v') → Gm V G md X0 v' g X → Wx E w nL (PX w X) pc' (dnL g lv') (dnS g st') := by
    intro v' K hG
    have := k1 K (by rw [hv]; exact hG)
    rw [(hf v').1, (hf v').2.1, (hf v').2.2] at this
    exact this
  unfold lkS at K
  cases hc : (Nat.ble r 1 && decide (x.2.2 = 0)) with
  | false =>
    rw [hc] at K
    exact fin _ (K _ List.mem_cons_self) (h.rei he)
  | true =>
    rw [hc] at K
    rw [Bool.and_eq_true, decide_eq_true_iff] at hc
    have hx : dI g x = g.1 x.2.1 := by unfold dI; rw [hc.2, Int.add_zero]
    rw [hx] at hi hr
    have hz : if (Nat.beq r 0) = true then g.1 x.2.1 = 0 else ¬ g.1 x.2.1 = 0 := by
      match r, Nat.le_of_ble_eq_true hc.1 with
      | 0, _ => exact hr
      | 1, _ => exact hr
    obtain ⟨l, e1, e2⟩ := lkR_ok (eqq := Nat.beq r 0) h hs hi hz
    simp only [cond_true, e1] at K
    exact fin _ (K _ List.mem_cons_self) (h.rel he e2)
theorem relP_neg {r : Nat} {a b : Int} (hr : Nat.ble r 5 = true) (h : ¬ relP r a b) : relP (neg6 r) a b := by
  match r, Nat.le_of_ble_eq_true hr with
  | 0, _ => exact h
  | 1, _ => exact Classical.not_not.mp h
  | 2, _ => exact Int.not_lt.mp h
  | 3, _ => exact Int.not_le.mp h
  | 4, _ => exact Int.not_lt.mp h
  | 5, _ => exact Int.not_le.mp h
theorem x_ifR (C : CX E w cc nL own ret rm) {r : Nat} {a : Int} {off : Int} {tgt : Nat} (hr : Nat.ble r 5 = true) (hd : decode cc pc = .ok (.ifCond (condI r) off, 3)) (ht : (pc : Int) + off = (tgt : Int)) (ra : inR a) (kt : relP r a 0 → Wx E w nL PH tgt lvv stv) (kf : ¬ relP r a 0 → Wx E w nL PH (pc + 3) lvv stv) : Wx E w nL PH pc lvv (.int (iI a) :: stv) := by
  match r, Nat.le_of_ble_eq_true hr with
  | 0, _ => exact x_if_eq C hd ht ra kt kf
  | 1, _ => exact x_if_ne C hd ht ra kt (fun h => kf (fun q => q h))
  | 2, _ => exact x_if_lt C hd ht ra kt kf
  | 3, _ => exact x_if_ge C hd ht ra kt kf
  | 4, _ => exact x_if_gt C hd ht ra kt kf
  | 5, _ => exact x_if_le C hd ht ra kt kf
theorem x_icR (C : CX E w cc nL own ret rm) {r : Nat} {a b : Int} {off : Int} {tgt : Nat} (hr : Nat.ble r 5 = true) (hd : decode cc pc = .ok (.if_icmp (condI r) off, 3)) (ht : (pc : Int) + off = (tgt : Int)) (ra : inR a) (rb : inR b) (kt : relP r a b → Wx E w nL PH tgt lvv stv) (kf : ¬ relP r a b → Wx E w nL PH (pc + 3) lvv stv) : Wx E w nL PH pc lvv (.int (iI b) :: .int (iI a) :: stv) := by
  match r, Nat.le_of_ble_eq_true hr with
  | 0, _ => exact x_icmp_eq C hd ht ra rb kt kf
  | 1, _ => exact x_icmp_ne C hd ht ra rb kt (fun h => kf (fun q => q h))
  | 2, _ => exact x_icmp_lt C hd ht ra rb kt kf
  | 3, _ => exact x_icmp_ge C hd ht ra rb kt kf
  | 4, _ => exact x_icmp_gt C hd ht ra rb kt kf
  | 5, _ => exact x_icmp_le C hd ht ra rb kt kf
theorem dI0 (h : g.1 0 = 0) (a : Int) : dI g (0, 0, a) = a := by
  show g.1 0 + a = a
  rw [h, Int.zero_add]
theorem sGo_ok (C : CX E w cc nL own ret rm) {a : Int} {lv : List (Nat × AV)} {st : List AV} {v : EV} {L : List SS} (hd : decode cc pc = .ok (.goto a, 3)) (hG : Gm V G md X0 v g X) (hs : sGo a pc lv st v = some L) (K : ∀ s ∈ L, Kt E w nL V G md X0 v.1.length v.2.1.length g s) : Wx E w nL (PX w X) pc (dnL g lv) (dnS g st) := by
  unfold sGo at hs
  cases hc : leI 0 ((pc : Int) + a) with
  | false => simp only [hc, cond_false] at hs; cases hs
  | true =>
    simp only [hc, cond_true] at hs
    cases hs
    exact x_goto C hd (tgI_eq hc) (k1 (K _ List.mem_cons_self) hG)
theorem sNul_ok (C : CX E w cc nL own ret rm) {a b : Int} {ln pc0 : Nat} {sw : List (Int × Int)} {lv : List (Nat × AV)} {st : List AV} {v : EV} {L : List SS} (hd : decode cc pc = .ok (tI (pc0, ln, 11, a, b, sw))) (hG : Gm V G md X0 v g X) (hs : sNul b.toNat a pc lv st v = some L) (K : ∀ s ∈ L, Kt E w nL V G md X0 v.1.length v.2.1.length g s) : Wx E w nL (PX w X) pc (dnL g lv) (dnS g st) := by
  match st, hs with
  | [], hs => cases hs
  | x :: st, hs =>
    unfold sNul at hs
    simp only at hs
    cases hc : leI 0 ((pc : Int) + a) with
    | false => simp only [hc, cond_false] at hs; cases hs
    | true =>
      simp only [hc, cond_true] at hs
      show Wx E w nL (PX w X) pc (dnL g lv) (dn g x :: dnS g st)
      cases h3 : Nat.beq x.1 3 with
      | true =>
        simp only [h3, cond_true] at hs
        cases hs
        have hK : Wx E w nL (PX w X) (cond (Nat.beq b.toNat 0) (tgI pc a) (pc + 3)) (dnL g lv) (dnS g st) := k1 (K _ List.mem_cons_self) hG
        rw [dn3 h3]
        match hb : b.toNat with
        | 0 =>
          simp only [tI, hb] at hd
          rw [hb] at hK
          exact x_ifnullN C hd (tgI_eq hc) hK
        | n + 1 =>
          simp only [tI, hb] at hd
          rw [hb] at hK
          exact x_ifnonnullN C hd hK
      | false =>
        simp only [h3, cond_false] at hs
        cases h2 : Nat.beq x.1 2 with
        | false => simp only [h2, cond_false] at hs; cases hs
        | true =>
          simp only [h2, cond_true] at hs
          cases hs
          have hK : Wx E w nL (PX w X) (cond (Nat.beq b.toNat 0) (pc + 3) (tgI pc a)) (dnL g lv) (dnS g st) := k1 (K _ List.mem_cons_self) hG
          rw [dn2 h2]
          match hb : b.toNat with
          | 0 =>
            simp only [tI, hb] at hd
            rw [hb] at hK
            exact x_ifnullR C hd hK
          | n + 1 =>
            simp only [tI, hb] at hd
            rw [hb] at hK
            exact x_ifnonnullR C hd (tgI_eq hc) hK
theorem lt_of_ivR {ei : List IV} {a : AV} {q : IV} (h : ivR ei a = some q) : a.2.1 < ei.length := by
  rcases Nat.lt_or_ge a.2.1 ei.length with h1 | h1
  · exact h1
  · unfold ivR ivO at h
    rw [List.getElem?_eq_none h1] at h
    cases h
theorem sIf_ok (C : CX E w cc nL own ret rm) {r : Nat} {a : Int} {lv : List (Nat × AV)} {st : List AV} {v : EV} {L : List SS} (hd : decode cc pc = .ok (.ifCond (condI r) a, 3)) (hsc : scS (pc, lv, st, v) = true) (hG : Gm V G md X0 v g X) (hs : sIf r a pc lv st v = some L) (K : ∀ s ∈ L, Kt E w nL V G md X0 v.1.length v.2.1.length g s) : Wx E w nL (PX w X) pc (dnL g lv) (dnS g st) := by
  obtain ⟨ei, el, rr⟩ := v
  obtain ⟨c1, c2, c3, c4⟩ := sc4 hsc
  match st, hs with
  | [], hs => cases hs
  | x :: st, hs =>
    unfold sIf at hs
    simp only at hs
    cases hc : (leI 0 ((pc : Int) + a) && (Nat.ble r 5 && Nat.beq x.1 0)) with
    | false => simp only [hc, cond_false] at hs; cases hs
    | true =>
      simp only [hc, cond_true] at hs
      obtain ⟨h1, h2, h3⟩ := and3 hc
      cases hp : ivR ei x with
      | none => simp only [hp] at hs; cases hs
      | some p =>
        simp only [hp] at hs
        cases hs
        have hx := ivD (v := (ei, el, rr)) hG hp
        have lx := lt_of_ivR hp
        have e0 := dI0 hG.1 0
        show Wx E w nL (PX w X) pc (dnL g lv) (dn g x :: dnS g st)
        rw [dn0 h3]
        refine x_ifR C h2 hd (tgI_eq h1) hx.2.2 (fun hr => ?_) (fun hr => ?_)
        · obtain ⟨e, a1, a2, _⟩ := asm_ok (r := r) (x := x) (y := (0, 0, 0)) hG.2.1 lx c4 (by rw [e0]; exact hr)
          refine lkS_ok (P := True) (r := r) (x := x) (v := (ei, el, rr)) (f := fun v' => (tgI pc a, lv, st, v')) (e := e) (fun _ => rfl) hG c3 a2 hx.2.2 hr (fun _ => ⟨rfl, rfl, rfl⟩) (fun s hm => K s (List.mem_append.mpr (Or.inl ?_)))
          show s ∈ opS (asm r ei x (0, 0, 0)) _
          have a1' : asm r ei x (0, 0, 0) = some e := a1
          rw [a1']
          exact hm
        · have hr := relP_neg h2 hr
          obtain ⟨e, a1, a2, _⟩ := asm_ok (r := neg6 r) (x := x) (y := (0, 0, 0)) hG.2.1 lx c4 (by rw [e0]; exact hr)
          refine lkS_ok (P := True) (r := neg6 r) (x := x) (v := (ei, el, rr)) (f := fun v' => (pc + 3, lv, st, v')) (e := e) (fun _ => rfl) hG c3 a2 hx.2.2 hr (fun _ => ⟨rfl, rfl, rfl⟩) (fun s hm => K s (List.mem_append.mpr (Or.inr ?_)))
          show s ∈ opS (asm (neg6 r) ei x (0, 0, 0)) _
          have a1' : asm (neg6 r) ei x (0, 0, 0) = some e := a1
          rw [a1']
          exact hm
theorem sIc_ok (C : CX E w cc nL own ret rm) {r : Nat} {a : Int} {lv : List (Nat × AV)} {st : List AV} {v : EV} {L : List SS} (hd : decode cc pc = .ok (.if_icmp (condI r) a, 3)) (hsc : scS (pc, lv, st, v) = true) (hG : Gm V G md X0 v g X) (hs : sIc r a pc lv st v = some L) (K : ∀ s ∈ L, Kt E w nL V G md X0 v.1.length v.2.1.length g s) : Wx E w nL (PX w X) pc (dnL g lv) (dnS g st) := by
  obtain ⟨ei, el, rr⟩ := v
  obtain ⟨c1, c2, c3, c4⟩ := sc4 hsc
  match st, hs with
  | [], hs => cases hs
  | [_], hs => cases hs
  | y :: x :: st, hs =>
    unfold sIc at hs
    simp only at hs
    cases hc : (leI 0 ((pc : Int) + a) && (Nat.ble r 5 && (Nat.beq x.1 0 && Nat.beq y.1 0))) with
    | false => simp only [hc, cond_false] at hs; cases hs
    | true =>
      simp only [hc, cond_true] at hs
      obtain ⟨h1, h2, h3⟩ := and3 hc
      rw [Bool.and_eq_true] at h3
      cases hp : ivR ei x with
      | none => simp only [hp] at hs; cases hs
      | some p =>
        cases hq : ivR ei y with
        | none => simp only [hp, hq] at hs; cases hs
        | some q =>
          simp only [hp, hq] at hs
          cases hs
          have hx := ivD (v := (ei, el, rr)) hG hp
          have hy := ivD (v := (ei, el, rr)) hG hq
          show Wx E w nL (PX w X) pc (dnL g lv) (dn g y :: dn g x :: dnS g st)
          rw [dn0 h3.1, dn0 h3.2]
          refine x_icR C h2 hd (tgI_eq h1) hx.2.2 hy.2.2 (fun hr => ?_) (fun hr => ?_)
          · obtain ⟨e, a1, a2, _⟩ := asm_ok (r := r) (x := x) (y := y) hG.2.1 (lt_of_ivR hp) (lt_of_ivR hq) hr
            refine k1 (s := (tgI pc a, lv, st, (e, el, rr))) (K _ (List.mem_append.mpr (Or.inl ?_))) (hG.rei a2)
            show _ ∈ opS (asm r ei x y) _
            have a1' : asm r ei x y = some e := a1
            rw [a1']
            exact List.mem_cons_self
          · have hr := relP_neg h2 hr
            obtain ⟨e, a1, a2, _⟩ := asm_ok (r := neg6 r) (x := x) (y := y) hG.2.1 (lt_of_ivR hp) (lt_of_ivR hq) hr
            refine k1 (s := (pc + 3, lv, st, (e, el, rr))) (K _ (List.mem_append.mpr (Or.inr ?_))) (hG.rei a2)
            show _ ∈ opS (asm (neg6 r) ei x y) _
            have a1' : asm (neg6 r) ei x y = some e := a1
            rw [a1']
            exact List.mem_cons_self
theorem swS_ok {d : Int} {x : AV} {f : Int → List IV → SS} (h0 : g.1 0 = 0) : ∀ (sw : List (Int × Int)) (e : List IV), eiOK e g.1 → x.2.1 < e.length → 0 < e.length → ∃ e', f (Op.lookupswitch.offset sw d (dI g x)) e' ∈ swS d x f sw e ∧ eiOK e' g.1
  | [], e, he, _, _ => ⟨e, List.mem_cons_self, he⟩
  | (a, o) :: t, e, he, hx, hp => by
    rw [Op.lookupswitch.offset_cons]
    unfold swS
    by_cases ha : a = dI g x
    · rw [if_pos ha]
      obtain ⟨e', a1, a2, _⟩ := asEq_ok (x := x) (y := (0, 0, a)) he hx hp (by rw [dI0 h0]; exact ha.symm)
      refine ⟨e', List.mem_append.mpr (Or.inl ?_), a2⟩
      rw [a1]
      exact List.mem_cons_self
    · rw [if_neg ha]
      obtain ⟨e1, a1, a2, a3⟩ := asNe_ok (x := x) (y := (0, 0, a)) he hx hp (by rw [dI0 h0]; exact fun q => ha q.symm)
      obtain ⟨e', b1, b2⟩ := swS_ok (f := f) h0 t e1 a2 (by rw [a3]; exact hx) (by rw [a3]; exact hp)
      refine ⟨e', List.mem_append.mpr (Or.inr ?_), b2⟩
      rw [a1]
      exact b1
theorem off_all {P : Int → Prop} {d : Int} (hd : P d) : ∀ {sw : List (Int × Int)} {k : Int}, (∀ q ∈ sw, P q.2) → P (Op.lookupswitch.offset sw d k)
  | [], _, _ => hd
  | (a, o) :: t, k, h => by
    rw [Op.lookupswitch.offset_cons]
    by_cases ha : a = k
    · rw [if_pos ha]; exact h _ List.mem_cons_self
    · rw [if_neg ha]; exact off_all hd (fun q hq => h q (List.mem_cons_of_mem _ hq))
theorem sSw_ok (C : CX E w cc nL own ret rm) {a : Int} {ln : Nat} {sw : List (Int × Int)} {lv : List (Nat × AV)} {st : List AV} {v : EV} {L : List SS} (hd : decode cc pc = .ok (.lookupswitch a sw.toArray, ln)) (hsc : scS (pc, lv, st, v) = true) (hG : Gm V G md X0 v g X) (hs : sSw a sw pc lv st v = some L) (K : ∀ s ∈ L, Kt E w nL V G md X0 v.1.length v.2.1.length g s) : Wx E w nL (PX w X) pc (dnL g lv) (dnS g st) := by
  obtain ⟨ei, el, rr⟩ := v
  obtain ⟨c1, c2, c3, c4⟩ := sc4 hsc
  match st, hs with
  | [], hs => cases hs
  | x :: st, hs =>
    unfold sSw at hs
    simp only at hs
    cases hc : (Nat.beq x.1 0 && (leI 0 ((pc : Int) + a) && (sw.all (fun q => leI 0 ((pc : Int) + q.2)) && (sw.zip (sw.drop 1)).all (fun (a, next) => a.1 < next.1)))) with
    | false => simp only [hc, cond_false] at hs; cases hs
    | true =>
      simp only [hc, cond_true] at hs
      obtain ⟨h1, h2, h3⟩ := and3 hc
      rw [Bool.and_eq_true] at h3
      cases hp : ivR ei x with
      | none => simp only [hp] at hs; cases hs
      | some p =>
        simp only [hp] at hs
        cases hs
        have hx := ivD (v := (ei, el, rr)) hG hp
        obtain ⟨e', b1, b2⟩ := swS_ok (d := a) (x := x) (f := fun o e => ((tgI pc o, lv, st, (e, el, rr)) : SS)) hG.1 sw ei hG.2.1 (lt_of_ivR hp) c4
        have hp0 : leI 0 ((pc : Int) + Op.lookupswitch.offset sw a (dI g x)) = true := off_all (P := fun o => leI 0 ((pc : Int) + o) = true) h2 (fun q hq => List.all_eq_true.mp h3.1 q hq)
        show Wx E w nL (PX w X) pc (dnL g lv) (dn g x :: dnS g st)
        rw [dn0 h1]
        exact x_lookup C hd h3.2 hx.2.2 rfl (tgI_eq hp0) (k1 (K _ b1) (hG.rei b2))
/-- a table's pairs: from lo on, one by one -/
def tbO : Int → List (Int × Int) → Bool
  | _, [] => true
  | lo, (x, _) :: t => decide (x = lo) && tbO (lo + 1) t
def sTb (a b : Int) (sw : List (Int × Int)) (pc : Nat) (lv : List (Nat × AV)) (st : List AV) (v : EV) : Option (List SS) := match st with
  | x :: st => cond (Nat.beq x.1 0 && (leI 0 ((pc : Int) + a) && (sw.all (fun q => leI 0 ((pc : Int) + q.2)) && tbO b sw))) (match ivR v.1 x with
    | some _ => some (swS a x (fun o e => (tgI pc o, lv, st, (e, v.2))) sw v.1)
    | none => none) none
  | [] => none
theorem tbO_out {d : Int} : ∀ {sw : List (Int × Int)} {lo x : Int}, tbO lo sw = true → (x < lo ∨ lo + (sw.length : Int) - 1 < x) → Op.lookupswitch.offset sw d x = d
  | [], _, _, _, _ => rfl
  | (y, o) :: t, lo, x, h, hx => by
    unfold tbO at h
    rw [Bool.and_eq_true, decide_eq_true_iff] at h
    rw [Op.lookupswitch.offset_cons, if_neg (by rw [h.1]; rw [List.length_cons] at hx; omega)]
    exact tbO_out h.2 (by rw [List.length_cons] at hx; omega)
theorem tbO_in {d : Int} : ∀ {sw : List (Int × Int)} {lo x : Int}, tbO lo sw = true → lo ≤ x → x < lo + (sw.length : Int) → (sw.map (fun q => q.2))[(x - lo).toNat]? = some (Op.lookupswitch.offset sw d x)
  | [], lo, x, _, h1, h2 => by exfalso; rw [List.length_nil] at h2; omega
  | (y, o) :: t, lo, x, h, h1, h2 => by
    unfold tbO at h
    rw [Bool.and_eq_true, decide_eq_true_iff] at h
    rw [Op.lookupswitch.offset_cons]
    by_cases hx : lo = x
    · rw [if_pos (by rw [h.1]; exact hx), show (x - lo).toNat = 0 by omega]
      rfl
    · rw [if_neg (by rw [h.1]; exact hx), show (x - lo).toNat = (x - (lo + 1)).toNat + 1 by omega]
      exact tbO_in h.2 (by omega) (by rw [List.length_cons] at h2; omega)
theorem sTb_ok (C : CX E w cc nL own ret rm) {a b : Int} {ln : Nat} {sw : List (Int × Int)} {lv : List (Nat × AV)} {st : List AV} {v : EV} {L : List SS} (hd : decode cc pc = .ok (.tableswitch a b (b + (sw.length : Int) - 1) (sw.map (fun q => q.2)).toArray, ln)) (hsc : scS (pc, lv, st, v) = true) (hG : Gm V G md X0 v g X) (hs : sTb a b sw pc lv st v = some L) (K : ∀ s ∈ L, Kt E w nL V G md X0 v.1.length v.2.1.length g s) : Wx E w nL (PX w X) pc (dnL g lv) (dnS g st) := by
  obtain ⟨ei, el, rr⟩ := v
  obtain ⟨c1, c2, c3, c4⟩ := sc4 hsc
  match st, hs with
  | [], hs => cases hs
  | x :: st, hs =>
    unfold sTb at hs
    simp only at hs
    cases hc : (Nat.beq x.1 0 && (leI 0 ((pc : Int) + a) && (sw.all (fun q => leI 0 ((pc : Int) + q.2)) && tbO b sw))) with
    | false => simp only [hc, cond_false] at hs; cases hs
    | true =>
      simp only [hc, cond_true] at hs
      obtain ⟨h1, h2, h3⟩ := and3 hc
      rw [Bool.and_eq_true] at h3
      cases hp : ivR ei x with
      | none => simp only [hp] at hs; cases hs
      | some p =>
        simp only [hp] at hs
        cases hs
        have hx := ivD (v := (ei, el, rr)) hG hp
        obtain ⟨e', b1, b2⟩ := swS_ok (d := a) (x := x) (f := fun o e => ((tgI pc o, lv, st, (e, el, rr)) : SS)) hG.1 sw ei hG.2.1 (lt_of_ivR hp) c4
        have hp0 : leI 0 ((pc : Int) + Op.lookupswitch.offset sw a (dI g x)) = true := off_all (P := fun o => leI 0 ((pc : Int) + o) = true) h2 (fun q hq => List.all_eq_true.mp h3.1 q hq)
        have hK := k1 (K _ b1) (hG.rei b2)
        show Wx E w nL (PX w X) pc (dnL g lv) (dn g x :: dnS g st)
        rw [dn0 h1]
        have hi : (iI (dI g x)).toInt = dI g x := iI_toInt hx.2.2
        by_cases ho : dI g x < b ∨ b + (sw.length : Int) - 1 < dI g x
        · have e0 := tbO_out (d := a) h3.2 ho
          rw [e0] at hK hp0
          obtain ⟨p, l, e, R, s, m, args, below, meth, c, A0, k0, n0, QQ⟩ := E
          intro H locs ls hP hS hl
          exact lv_tableOut C.1 C.2.1 hd (by rw [hi]; exact ho) (tgI_eq hp0) (hK H locs ls hP hS hl)
        · have e0 := tbO_in (d := a) (x := dI g x) h3.2 (by omega) (by omega)
          obtain ⟨p, l, e, R, s, m, args, below, meth, c, A0, k0, n0, QQ⟩ := E
          intro H locs ls hP hS hl
          exact lv_tableIn C.1 C.2.1 hd (by rw [hi]; omega) (by rw [hi]; omega) (by rw [hi, List.getElem?_toArray]; exact e0) (tgI_eq hp0) (hK H locs ls hP hS hl)
end V6
