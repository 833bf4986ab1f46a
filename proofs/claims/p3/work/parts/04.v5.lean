/-! ===== VSE 5: arithmetic, branches ===== -/
def okB (o : Nat) : Bool := Nat.ble o 11 && !(Nat.beq o 5)
section V5
variable {E : ET} {w : WT} {nL : Nat} {PH : Heap → Prop} {pc : Nat} {cc : ByteArray} {own : String} {ret : Option FieldType} {rm : Room} {V : VW} {G : GT} {md : List (Nat × Option Nat)} {X0 X : XT} {g : SG} {lvv : List (Nat × Value)} {stv : List Value}
theorem x_bin (C : CX E w cc nL own ret rm) {o : Nat} {x y : Int32} (ho : okB o = true) (hd : decode cc pc = .ok (binI o, 1)) (hz : o = 3 ∨ o = 4 → 0 ≤ x.toInt ∧ 0 < y.toInt) (kk : Wx E w nL PH (pc + 1) lvv (.int (bI o x y) :: stv)) : Wx E w nL PH pc lvv (.int y :: .int x :: stv) := by
  have ex := iI_of x
  have ey := iI_of y
  have rx := inR_toInt x
  have ry := inR_toInt y
  match o with
  | 0 =>
    rw [← ex, ← ey]
    refine x_iadd C hd ?_
    rw [← iI_add, ex, ey]; exact kk
  | 1 =>
    rw [← ex, ← ey]
    refine x_isub C hd ?_
    rw [← iI_sub, ex, ey]; exact kk
  | 2 =>
    rw [← ex, ← ey]
    refine x_imul C hd ?_
    rw [← iI_mul, ex, ey]; exact kk
  | 3 =>
    have h := hz (Or.inl rfl)
    rw [← ex, ← ey]
    refine x_idiv C hd h.1 h.2 rx ry ?_
    rw [← iI_div h.1 h.2 rx ry, ex, ey]; exact kk
  | 4 =>
    have h := hz (Or.inr rfl)
    rw [← ex, ← ey]
    refine x_irem C hd h.1 h.2 rx ry ?_
    rw [← iI_rem h.1 h.2 rx ry, ex, ey]; exact kk
  | 6 => exact x_iand C hd kk
  | 7 => exact x_ior C hd kk
  | 8 => exact x_ixor C hd kk
  | 9 => exact x_ishl C hd kk
  | 10 => exact x_ishr C hd kk
  | 11 => exact x_iushr C hd kk
  | 5 => exact absurd ho (by decide)
  | o + 12 => exact absurd ho (by unfold okB; rw [Bool.and_eq_true]; intro h; have := Nat.le_of_ble_eq_true h.1; omega)
theorem x_binL (C : CX E w cc nL own ret rm) {o : Nat} {x y : Int64} (ho : Nat.ble o 5 = true) (hd : decode cc pc = .ok (binL o, 1)) (kk : Wx E w nL PH (pc + 1) lvv (.long (bL o x y) :: stv)) : Wx E w nL PH pc lvv (.long y :: .long x :: stv) := by
  match o with
  | 0 => exact x_ladd C hd kk
  | 1 => exact x_lsub C hd kk
  | 2 => exact x_lmul C hd kk
  | 3 => exact x_land C hd kk
  | 4 => exact x_lor C hd kk
  | 5 => exact x_lxor C hd kk
  | o + 6 => exact absurd (Nat.le_of_ble_eq_true ho) (by omega)
theorem x_shfL (C : CX E w cc nL own ret rm) {o : Nat} {x : Int64} {y : Int32} (ho : Nat.ble o 2 = true) (hd : decode cc pc = .ok (shfL o, 1)) (kk : Wx E w nL PH (pc + 1) lvv (.long (shL o x y) :: stv)) : Wx E w nL PH pc lvv (.int y :: .long x :: stv) := by
  match o with
  | 0 => exact x_lshl C hd kk
  | 1 => exact x_lshr C hd kk
  | 2 => exact x_lushr C hd kk
  | o + 3 => exact absurd (Nat.le_of_ble_eq_true ho) (by omega)
theorem x_unI (C : CX E w cc nL own ret rm) {o : Nat} {x : Int32} (ho : Nat.ble o 2 = true) (hd : decode cc pc = .ok (unI o, 1)) (kk : Wx E w nL PH (pc + 1) lvv (.int (uI o x) :: stv)) : Wx E w nL PH pc lvv (.int x :: stv) := by
  match o with
  | 0 =>
    rw [← iI_of x]
    refine x_ineg C hd ?_
    rw [← iI_neg, iI_of]; exact kk
  | 1 => exact x_i2b C hd kk
  | 2 => exact x_i2c C hd kk
  | o + 3 => exact absurd (Nat.le_of_ble_eq_true ho) (by omega)
/-! steps -/
def pI (pc : Nat) (lv : List (Nat × AV)) (st : List AV) (v : EV) (q : IV) : Option (List SS) := o1 (pc, lv, (0, v.1.length, 0) :: st, (v.1 ++ [q], v.2))
def pL (pc : Nat) (lv : List (Nat × AV)) (st : List AV) (v : EV) (q : IV) : Option (List SS) := o1 (pc, lv, (1, v.2.1.length, 0) :: st, (v.1, v.2.1 ++ [q], v.2.2))
def sInc (M : MS) (e : IN) (pc : Nat) (lv : List (Nat × AV)) (st : List AV) (v : EV) : Option (List SS) := match e with
  | (_, _, _, i, n, _) => match alk lv i.toNat with
    | some a => cond (Nat.beq a.1 0 && Nat.blt i.toNat (mNL M)) (match ivO v.1 a with
      | some q => cond (rgI (q.1 + n, q.2 + n)) (o1 (pc + 3, (i.toNat, (0, a.2.1, a.2.2 + n)) :: arm1 i.toNat lv, st, v)) (o1 (pc + 3, (i.toNat, (0, v.1.length, 0)) :: arm1 i.toNat lv, st, (v.1 ++ [fullI], v.2)))
      | none => none) none
    | none => none
def sBin (o : Nat) (pc : Nat) (lv : List (Nat × AV)) (st : List AV) (v : EV) : Option (List SS) := match st with
  | y :: x :: st => cond (okB o && (Nat.beq y.1 0 && Nat.beq x.1 0)) (match ivR v.1 x, ivR v.1 y with
    | some p, some q => match bQ o p q with
      | some r => cond (Nat.ble o 1 && (decide (q.1 = q.2) && rgI (cond (Nat.beq o 0) (p.1 + q.1, p.2 + q.2) (p.1 - q.2, p.2 - q.1)))) (o1 (pc + 1, lv, (0, x.2.1, x.2.2 + cond (Nat.beq o 0) q.1 (- q.1)) :: st, v))
          (cond (Nat.beq o 0 && (decide (p.1 = p.2) && rgI (p.1 + q.1, p.2 + q.2))) (o1 (pc + 1, lv, (0, y.2.1, y.2.2 + p.1) :: st, v)) (pI (pc + 1) lv st v r))
      | none => none
    | _, _ => none) none
  | _ => none
def sBinL (o : Nat) (pc : Nat) (lv : List (Nat × AV)) (st : List AV) (v : EV) : Option (List SS) := match st with
  | y :: x :: st => cond (Nat.ble o 5 && (Nat.beq y.1 1 && Nat.beq x.1 1)) (match v.2.1[x.2.1]?, v.2.1[y.2.1]? with
    | some p, some q => pL (pc + 1) lv st v (lQ o p q)
    | _, _ => none) none
  | _ => none
def sShf (o : Nat) (pc : Nat) (lv : List (Nat × AV)) (st : List AV) (v : EV) : Option (List SS) := match st with
  | y :: x :: st => cond (Nat.ble o 2 && (Nat.beq y.1 0 && Nat.beq x.1 1)) (match v.2.1[x.2.1]?, ivR v.1 y with
    | some p, some q => pL (pc + 1) lv st v (hQ o p q)
    | _, _ => none) none
  | _ => none
def sUn (o : Nat) (pc : Nat) (lv : List (Nat × AV)) (st : List AV) (v : EV) : Option (List SS) := match st with
  | x :: st => cond (Nat.ble o 2 && Nat.beq x.1 0) (match ivR v.1 x with
    | some p => pI (pc + 1) lv st v (uQ o p)
    | none => none) none
  | _ => none
def sMsc (o : Nat) (pc : Nat) (lv : List (Nat × AV)) (st : List AV) (v : EV) : Option (List SS) := match o, st with
  | 0, x :: st => cond (Nat.beq x.1 0) (match ivR v.1 x with
    | some p => pL (pc + 1) lv st v p
    | none => none) none
  | 1, x :: st => cond (Nat.beq x.1 1) (match v.2.1[x.2.1]? with
    | some p => pI (pc + 1) lv st v (l2iQ p)
    | none => none) none
  | 2, y :: x :: st => cond (Nat.beq y.1 1 && Nat.beq x.1 1) (o1 (pc + 1, lv, (0, v.1.length, 0) :: st, (v.1 ++ [(-1, 1)], v.2.1, v.2.2.1, (v.1.length, x.2.1, y.2.1) :: v.2.2.2.1, v.2.2.2.2))) none
  | 3, x :: st => cond (!(Nat.beq x.1 1)) (o1 (pc + 1, lv, x :: x :: st, v)) none
  | 4, x :: st => cond (Nat.beq x.1 1) (o1 (pc + 1, lv, x :: x :: st, v)) (match st with
    | y :: st => cond (!(Nat.beq y.1 1)) (o1 (pc + 1, lv, x :: y :: x :: y :: st, v)) none
    | [] => none)
  | 5, x :: st => cond (!(Nat.beq x.1 1)) (o1 (pc + 1, lv, st, v)) none
  | 6, st => o1 (pc + 1, lv, (3, 0, 0) :: st, v)
  | _, _ => none
theorem ivD {v : EV} {a : AV} {q : IV} (h : Gm V G md X0 v g X) (e : ivR v.1 a = some q) : q.1 ≤ dI g a ∧ dI g a ≤ q.2 ∧ inR (dI g a) := ivR_ok h.2.1 e
theorem ivX {v : EV} {a : AV} {q : IV} (h : Gm V G md X0 v g X) (e : ivR v.1 a = some q) : q.1 ≤ (iI (dI g a)).toInt ∧ (iI (dI g a)).toInt ≤ q.2 := by
  obtain ⟨h1, h2, h3⟩ := ivD h e
  rw [iI_toInt h3]
  exact ⟨h1, h2⟩
theorem sInc_ok (C : CX E w cc nL own ret rm) {M : MS} (hM : mNL M = nL) {i n : Int} {ln pc0 : Nat} {sw : List (Int × Int)} {lv : List (Nat × AV)} {st : List AV} {ei el : List IV} {r : DLT × List (Nat × Nat × Nat) × List (AV × AV)} {L : List SS} (hd : decode cc pc = .ok (tI (pc0, ln, 4, i, n, sw))) (hsc : scS (pc, lv, st, (ei, el, r)) = true) (hG : Gm V G md X0 (ei, el, r) g X) (hs : sInc M (pc0, ln, 4, i, n, sw) pc lv st (ei, el, r) = some L) (K : ∀ s ∈ L, Kt E w nL V G md X0 ei.length el.length g s) : Wx E w nL (PX w X) pc (dnL g lv) (dnS g st) := by
  obtain ⟨c1, c2, c3, c4⟩ := sc4 hsc
  unfold sInc at hs
  simp only at hs
  cases ha : alk lv i.toNat with
  | none => simp only [ha] at hs; cases hs
  | some a =>
    simp only [ha] at hs
    cases hc : (Nat.beq a.1 0 && Nat.blt i.toNat (mNL M)) with
    | false => simp only [hc, cond_false] at hs; cases hs
    | true =>
      simp only [hc, cond_true] at hs
      rw [Bool.and_eq_true] at hc
      have hk := alk_some (g := g) ha
      rw [dn0 hc.1] at hk
      have hn := blt_lt hc.2
      rw [hM] at hn
      cases hq : ivO ei a with
      | none => simp only [hq] at hs; cases hs
      | some q =>
        simp only [hq] at hs
        have hd2 : decode cc pc = .ok (.iinc i.toNat n, 3) := hd
        cases hr : rgI (q.1 + n, q.2 + n) with
        | true =>
          simp only [hr, cond_true] at hs
          cases hs
          refine x_iinc C hd2 hk hn ?_ (k1 (K _ List.mem_cons_self) hG)
          have e1 : Value.int (iI (dI g a + n)) = dn g (0, a.2.1, a.2.2 + n) := by
            show _ = Value.int (iI (g.1 a.2.1 + (a.2.2 + n)))
            unfold dI
            rw [Int.add_assoc]
          rw [e1, als1_dn]
        | false =>
          simp only [hr, cond_false] at hs
          cases hs
          obtain ⟨dl, lk, gd⟩ := r
          have hf := fullI_ok (iI (dI g a + n))
          obtain ⟨g', e1, e2, e3⟩ := newI c3 hG c4 hf.1 hf.2
          have hK := K _ List.mem_cons_self g' X e1 e3
          have h2 : Wx E w nL (PX w X) (pc + 3) (dnL g' ((i.toNat, (0, ei.length, 0)) :: arm1 i.toNat lv)) (dnS g' st) := hK
          rw [e1.vS c2] at h2
          refine x_iinc C hd2 hk hn ?_ h2
          have e4 : Value.int (iI (dI g a + n)) = dn g' (0, ei.length, 0) := by
            show _ = Value.int (iI (g'.1 ei.length + 0))
            rw [e2, Int.add_zero, iI_of]
          rw [e4, ← e1.vL c1, als1_dn]
theorem sBin_ok (C : CX E w cc nL own ret rm) {o : Nat} {lv : List (Nat × AV)} {st : List AV} {ei el : List IV} {r : DLT × List (Nat × Nat × Nat) × List (AV × AV)} {L : List SS} (hd : decode cc pc = .ok (binI o, 1)) (hsc : scS (pc, lv, st, (ei, el, r)) = true) (hG : Gm V G md X0 (ei, el, r) g X) (hs : sBin o pc lv st (ei, el, r) = some L) (K : ∀ s ∈ L, Kt E w nL V G md X0 ei.length el.length g s) : Wx E w nL (PX w X) pc (dnL g lv) (dnS g st) := by
  obtain ⟨c1, c2, c3, c4⟩ := sc4 hsc
  match st, hs, c2 with
  | [], hs, _ => cases hs
  | [_], hs, _ => cases hs
  | y :: x :: st, hs, c2 =>
    unfold sBin at hs
    cases hc : (okB o && (Nat.beq y.1 0 && Nat.beq x.1 0)) with
    | false => simp only [hc, cond_false] at hs; cases hs
    | true =>
      simp only [hc, cond_true] at hs
      obtain ⟨ho, hy, hx⟩ := and3 hc
      cases hp : ivR ei x with
      | none => simp only [hp] at hs; cases hs
      | some p =>
        cases hq : ivR ei y with
        | none => simp only [hp, hq] at hs; cases hs
        | some q =>
          simp only [hp, hq] at hs
          cases hb : bQ o p q with
          | none => simp only [hb] at hs; cases hs
          | some rq =>
            simp only [hb] at hs
            have dx := ivD (v := (ei, el, r)) hG hp
            have dy := ivD (v := (ei, el, r)) hG hq
            have ix := ivX (v := (ei, el, r)) hG hp
            have iy := ivX (v := (ei, el, r)) hG hq
            have c2t : st.all (scV ei.length el.length) = true := (and3 c2).2.2
            show Wx E w nL (PX w X) pc (dnL g lv) (dn g y :: dn g x :: dnS g st)
            rw [dn0 hy, dn0 hx]
            refine x_bin C ho hd (fun hz => ?_) ?_
            · rw [iI_toInt dx.2.2, iI_toInt dy.2.2]
              rcases hz with rfl | rfl
              all_goals
                cases hcz : (leI 0 p.1 && leI 1 q.1) with
                | false => unfold bQ at hb; simp only [hcz, cond_false] at hb; cases hb
                | true =>
                  rw [Bool.and_eq_true, leI_iff, leI_iff] at hcz
                  exact ⟨by omega, by omega⟩
            · cases h1 : (Nat.ble o 1 && (decide (q.1 = q.2) && rgI (cond (Nat.beq o 0) (p.1 + q.1, p.2 + q.2) (p.1 - q.2, p.2 - q.1)))) with
              | true =>
                simp only [h1, cond_true] at hs
                cases hs
                obtain ⟨h2, h3, h4⟩ := and3 h1
                have h3 := of_decide_eq_true h3
                have hK := k1 (K _ List.mem_cons_self) hG
                have h5 : Wx E w nL (PX w X) (pc + 1) (dnL g lv) (dn g (0, x.2.1, x.2.2 + cond (Nat.beq o 0) q.1 (- q.1)) :: dnS g st) := hK
                have e1 : dn g (0, x.2.1, x.2.2 + cond (Nat.beq o 0) q.1 (- q.1)) = .int (bI o (iI (dI g x)) (iI (dI g y))) := by
                  have hyq : dI g y = q.1 := by omega
                  match o, Nat.le_of_ble_eq_true h2 with
                  | 0, _ =>
                    show Value.int (iI (g.1 x.2.1 + (x.2.2 + q.1))) = Value.int (iI (dI g x) + iI (dI g y))
                    rw [iI_add, hyq]
                    unfold dI
                    rw [Int.add_assoc]
                  | 1, _ =>
                    show Value.int (iI (g.1 x.2.1 + (x.2.2 + -q.1))) = Value.int (iI (dI g x) - iI (dI g y))
                    rw [iI_sub, hyq]
                    unfold dI
                    congr 2
                    omega
                rw [← e1]
                exact h5
              | false =>
                simp only [h1, cond_false] at hs
                cases h2 : (Nat.beq o 0 && (decide (p.1 = p.2) && rgI (p.1 + q.1, p.2 + q.2))) with
                | true =>
                  simp only [h2, cond_true] at hs
                  cases hs
                  obtain ⟨h3, h4, h5⟩ := and3 h2
                  have h4 := of_decide_eq_true h4
                  have h3 := Nat.eq_of_beq_eq_true h3
                  subst h3
                  have hK := k1 (K _ List.mem_cons_self) hG
                  have h6 : Wx E w nL (PX w X) (pc + 1) (dnL g lv) (dn g (0, y.2.1, y.2.2 + p.1) :: dnS g st) := hK
                  have e1 : dn g (0, y.2.1, y.2.2 + p.1) = .int (bI 0 (iI (dI g x)) (iI (dI g y))) := by
                    have hxp : dI g x = p.1 := by omega
                    show Value.int (iI (g.1 y.2.1 + (y.2.2 + p.1))) = Value.int (iI (dI g x) + iI (dI g y))
                    rw [iI_add, hxp]
                    unfold dI
                    congr 2
                    omega
                  rw [← e1]
                  exact h6
                | false =>
                  simp only [h2, cond_false] at hs
                  cases hs
                  exact kI (K _ List.mem_cons_self) c1 c2t c3 c4 hG (bQ_ok ix iy hb)
theorem sBinL_ok (C : CX E w cc nL own ret rm) {o : Nat} {lv : List (Nat × AV)} {st : List AV} {ei el : List IV} {r : DLT × List (Nat × Nat × Nat) × List (AV × AV)} {L : List SS} (hd : decode cc pc = .ok (binL o, 1)) (hsc : scS (pc, lv, st, (ei, el, r)) = true) (hG : Gm V G md X0 (ei, el, r) g X) (hs : sBinL o pc lv st (ei, el, r) = some L) (K : ∀ s ∈ L, Kt E w nL V G md X0 ei.length el.length g s) : Wx E w nL (PX w X) pc (dnL g lv) (dnS g st) := by
  obtain ⟨c1, c2, c3, c4⟩ := sc4 hsc
  match st, hs, c2 with
  | [], hs, _ => cases hs
  | [_], hs, _ => cases hs
  | y :: x :: st, hs, c2 =>
    unfold sBinL at hs
    cases hc : (Nat.ble o 5 && (Nat.beq y.1 1 && Nat.beq x.1 1)) with
    | false => simp only [hc, cond_false] at hs; cases hs
    | true =>
      simp only [hc, cond_true] at hs
      obtain ⟨ho, hy, hx⟩ := and3 hc
      cases hp : el[x.2.1]? with
      | none => simp only [hp] at hs; cases hs
      | some p =>
        cases hq : el[y.2.1]? with
        | none => simp only [hp, hq] at hs; cases hs
        | some q =>
          simp only [hp, hq] at hs
          cases hs
          show Wx E w nL (PX w X) pc (dnL g lv) (dn g y :: dn g x :: dnS g st)
          rw [dn1 hy, dn1 hx]
          exact x_binL C ho hd (kL (K _ List.mem_cons_self) c1 (and3 c2).2.2 c3 hG (lQ_ok (hG.2.2.1 _ _ hp) (hG.2.2.1 _ _ hq)))
theorem sShf_ok (C : CX E w cc nL own ret rm) {o : Nat} {lv : List (Nat × AV)} {st : List AV} {ei el : List IV} {r : DLT × List (Nat × Nat × Nat) × List (AV × AV)} {L : List SS} (hd : decode cc pc = .ok (shfL o, 1)) (hsc : scS (pc, lv, st, (ei, el, r)) = true) (hG : Gm V G md X0 (ei, el, r) g X) (hs : sShf o pc lv st (ei, el, r) = some L) (K : ∀ s ∈ L, Kt E w nL V G md X0 ei.length el.length g s) : Wx E w nL (PX w X) pc (dnL g lv) (dnS g st) := by
  obtain ⟨c1, c2, c3, c4⟩ := sc4 hsc
  match st, hs, c2 with
  | [], hs, _ => cases hs
  | [_], hs, _ => cases hs
  | y :: x :: st, hs, c2 =>
    unfold sShf at hs
    cases hc : (Nat.ble o 2 && (Nat.beq y.1 0 && Nat.beq x.1 1)) with
    | false => simp only [hc, cond_false] at hs; cases hs
    | true =>
      simp only [hc, cond_true] at hs
      obtain ⟨ho, hy, hx⟩ := and3 hc
      cases hp : el[x.2.1]? with
      | none => simp only [hp] at hs; cases hs
      | some p =>
        cases hq : ivR ei y with
        | none => simp only [hp, hq] at hs; cases hs
        | some q =>
          simp only [hp, hq] at hs
          cases hs
          show Wx E w nL (PX w X) pc (dnL g lv) (dn g y :: dn g x :: dnS g st)
          rw [dn0 hy, dn1 hx]
          exact x_shfL C ho hd (kL (K _ List.mem_cons_self) c1 (and3 c2).2.2 c3 hG (hQ_ok (hG.2.2.1 _ _ hp) (ivX (v := (ei, el, r)) hG hq)))
theorem sUn_ok (C : CX E w cc nL own ret rm) {o : Nat} {lv : List (Nat × AV)} {st : List AV} {ei el : List IV} {r : DLT × List (Nat × Nat × Nat) × List (AV × AV)} {L : List SS} (hd : decode cc pc = .ok (unI o, 1)) (hsc : scS (pc, lv, st, (ei, el, r)) = true) (hG : Gm V G md X0 (ei, el, r) g X) (hs : sUn o pc lv st (ei, el, r) = some L) (K : ∀ s ∈ L, Kt E w nL V G md X0 ei.length el.length g s) : Wx E w nL (PX w X) pc (dnL g lv) (dnS g st) := by
  obtain ⟨c1, c2, c3, c4⟩ := sc4 hsc
  match st, hs, c2 with
  | [], hs, _ => cases hs
  | x :: st, hs, c2 =>
    unfold sUn at hs
    cases hc : (Nat.ble o 2 && Nat.beq x.1 0) with
    | false => simp only [hc, cond_false] at hs; cases hs
    | true =>
      simp only [hc, cond_true] at hs
      rw [Bool.and_eq_true] at hc
      cases hp : ivR ei x with
      | none => simp only [hp] at hs; cases hs
      | some p =>
        simp only [hp] at hs
        cases hs
        show Wx E w nL (PX w X) pc (dnL g lv) (dn g x :: dnS g st)
        rw [dn0 hc.2]
        have c2 : (scV ei.length el.length x && st.all (scV ei.length el.length)) = true := c2
        rw [Bool.and_eq_true] at c2
        exact x_unI C hc.1 hd (kI (K _ List.mem_cons_self) c1 c2.2 c3 c4 hG (uQ_ok (ivX (v := (ei, el, r)) hG hp)))
theorem cat1 {a : AV} (h : (!(Nat.beq a.1 1)) = true) : (dn g a).category = 1 := by
  obtain ⟨t, b, c⟩ := a
  match t with
  | 0 => rfl
  | 1 => exact absurd h (by show ¬ (!(Nat.beq 1 1)) = true; decide)
  | 2 => rfl
  | t + 3 => rfl
theorem sMsc_ok (C : CX E w cc nL own ret rm) {b a : Int} {ln pc0 : Nat} {sw : List (Int × Int)} {lv : List (Nat × AV)} {st : List AV} {ei el : List IV} {r : DLT × List (Nat × Nat × Nat) × List (AV × AV)} {L : List SS} (hd : decode cc pc = .ok (tI (pc0, ln, 9, a, b, sw))) (hsc : scS (pc, lv, st, (ei, el, r)) = true) (hG : Gm V G md X0 (ei, el, r) g X) (hs : sMsc b.toNat pc lv st (ei, el, r) = some L) (K : ∀ s ∈ L, Kt E w nL V G md X0 ei.length el.length g s) : Wx E w nL (PX w X) pc (dnL g lv) (dnS g st) := by
  obtain ⟨c1, c2, c3, c4⟩ := sc4 hsc
  have tl : ∀ {x : AV} {t : List AV}, (x :: t).all (scV ei.length el.length) = true → t.all (scV ei.length el.length) = true := fun h => by
    have h : (scV ei.length el.length _ && _) = true := h
    rw [Bool.and_eq_true] at h
    exact h.2
  match hb : b.toNat, st, hs, c2 with
  | 0, [], hs, _ => cases hs
  | 0, x :: st, hs, c2 =>
    simp only [tI, hb] at hd
    simp only [hb, sMsc] at hs
    cases hx : Nat.beq x.1 0 with
    | false => simp only [hx, cond_false] at hs; cases hs
    | true =>
      simp only [hx, cond_true] at hs
      cases hp : ivR ei x with
      | none => simp only [hp] at hs; cases hs
      | some p =>
        simp only [hp] at hs
        cases hs
        show Wx E w nL (PX w X) pc (dnL g lv) (dn g x :: dnS g st)
        rw [dn0 hx]
        refine x_i2l C hd (kL (K _ List.mem_cons_self) c1 (tl c2) c3 hG ?_)
        rw [i2l_ok]
        exact ivX (v := (ei, el, r)) hG hp
  | 1, [], hs, _ => cases hs
  | 1, x :: st, hs, c2 =>
    simp only [tI, hb] at hd
    simp only [hb, sMsc] at hs
    cases hx : Nat.beq x.1 1 with
    | false => simp only [hx, cond_false] at hs; cases hs
    | true =>
      simp only [hx, cond_true] at hs
      cases hp : el[x.2.1]? with
      | none => simp only [hp] at hs; cases hs
      | some p =>
        simp only [hp] at hs
        cases hs
        show Wx E w nL (PX w X) pc (dnL g lv) (dn g x :: dnS g st)
        rw [dn1 hx]
        exact x_l2i C hd (kI (K _ List.mem_cons_self) c1 (tl c2) c3 c4 hG (l2i_ok (hG.2.2.1 _ _ hp)))
  | 2, [], hs, _ => cases hs
  | 2, [_], hs, _ => cases hs
  | 2, y :: x :: st, hs, c2 =>
    simp only [tI, hb] at hd
    simp only [hb, sMsc] at hs
    cases hc : (Nat.beq y.1 1 && Nat.beq x.1 1) with
    | false => simp only [hc, cond_false] at hs; cases hs
    | true =>
      simp only [hc, cond_true] at hs
      rw [Bool.and_eq_true] at hc
      cases hs
      show Wx E w nL (PX w X) pc (dnL g lv) (dn g y :: dn g x :: dnS g st)
      rw [dn1 hc.1, dn1 hc.2]
      refine x_lcmp C hd ?_
      obtain ⟨dl, lk, gd⟩ := r
      have hf := cmp_bd (g.2 x.2.1) (g.2 y.2.1)
      obtain ⟨g', e1, e2, e3⟩ := newI (q := (-1, 1)) c3 hG c4 hf.1 hf.2
      have sy : scV ei.length el.length y = true ∧ scV ei.length el.length x = true ∧ _ := and3 c2
      have by_ : y.2.1 < el.length := by
        have := sy.1
        obtain ⟨t, b', c⟩ := y
        have ht : t = 1 := Nat.eq_of_beq_eq_true hc.1
        subst ht
        exact blt_lt this
      have bx_ : x.2.1 < el.length := by
        have := sy.2.1
        obtain ⟨t, b', c⟩ := x
        have ht : t = 1 := Nat.eq_of_beq_eq_true hc.2
        subst ht
        exact blt_lt this
      have hK := K _ List.mem_cons_self g' X e1 ⟨e3.1, e3.2.1, e3.2.2.1, e3.2.2.2.1, fun q hq => by
        rcases List.mem_cons.mp hq with rfl | hq
        · show iI (g'.1 ei.length) = lg_cmp (g'.2 x.2.1) (g'.2 y.2.1)
          rw [e2, iI_of, e1.2 _ bx_, e1.2 _ by_]
        · exact e3.2.2.2.2.1 q hq, e3.2.2.2.2.2⟩
      have h2 : Wx E w nL (PX w X) (pc + 1) (dnL g' lv) (dn g' (0, ei.length, 0) :: dnS g' st) := hK
      have e4 : dn g' (0, ei.length, 0) = .int (lg_cmp (g.2 x.2.1) (g.2 y.2.1)) := by
        show Value.int (iI (g'.1 ei.length + 0)) = _
        rw [e2, Int.add_zero, iI_of]
      rw [e4, e1.vL c1, e1.vS (tl (tl c2))] at h2
      exact h2
  | 3, [], hs, _ => cases hs
  | 3, x :: st, hs, c2 =>
    simp only [tI, hb] at hd
    simp only [hb, sMsc] at hs
    cases hx : (!(Nat.beq x.1 1)) with
    | false => simp only [hx, cond_false] at hs; cases hs
    | true =>
      simp only [hx, cond_true] at hs
      cases hs
      exact x_dup C hd (cat1 hx) (k1 (K _ List.mem_cons_self) hG)
  | 4, [], hs, _ => cases hs
  | 4, x :: st, hs, c2 =>
    simp only [tI, hb] at hd
    simp only [hb, sMsc] at hs
    cases hx : Nat.beq x.1 1 with
    | true =>
      simp only [hx, cond_true] at hs
      cases hs
      have hK : Wx E w nL (PX w X) (pc + 1) (dnL g lv) (dn g x :: dn g x :: dnS g st) := k1 (K _ List.mem_cons_self) hG
      show Wx E w nL (PX w X) pc (dnL g lv) (dn g x :: dnS g st)
      rw [dn1 hx] at hK ⊢
      exact x_dup2_2 C hd rfl hK
    | false =>
      simp only [hx, cond_false] at hs
      match st, hs with
      | [], hs => cases hs
      | y :: st, hs =>
        cases hy : (!(Nat.beq y.1 1)) with
        | false => simp only [hy, cond_false] at hs; cases hs
        | true =>
          simp only [hy, cond_true] at hs
          cases hs
          exact x_dup2_11 C hd (cat1 (by rw [hx]; rfl)) (cat1 hy) (k1 (K _ List.mem_cons_self) hG)
  | 5, [], hs, _ => cases hs
  | 5, x :: st, hs, c2 =>
    simp only [tI, hb] at hd
    simp only [hb, sMsc] at hs
    cases hx : (!(Nat.beq x.1 1)) with
    | false => simp only [hx, cond_false] at hs; cases hs
    | true =>
      simp only [hx, cond_true] at hs
      cases hs
      exact x_pop C hd (cat1 hx) (k1 (K _ List.mem_cons_self) hG)
  | 6, st, hs, _ =>
    simp only [tI, hb] at hd
    simp only [hb, sMsc] at hs
    cases hs
    exact x_null C hd (k1 (K _ List.mem_cons_self) hG)
  | n + 7, [], hs, _ => cases hs
  | n + 7, _ :: _, hs, _ => cases hs
end V5
