/-! ===== VSE 9: Math.min, Math.max, System.arraycopy ===== -/
def catA (a : AV) : Nat := cond (Nat.beq a.1 1) 2 1
def catS (st : List AV) : Nat := (st.map catA).sum
def sMm (M : MS) (o : Nat) (pc : Nat) (lv : List (Nat × AV)) (st : List AV) (v : EV) : Option (List SS) := match st with
  | y :: x :: st => cond (Nat.beq y.1 0 && (Nat.beq x.1 0 && (Nat.ble 1 (mFr M) && Nat.ble (catS st + 13) (mLo M)))) (match ivR v.1 x, ivR v.1 y with
    | some p, some q => pI (pc + 3) lv st v (match o with
      | 0 => (min p.1 q.1, min p.2 q.2)
      | _ => (max p.1 q.1, max p.2 q.2))
    | _, _ => none) none
  | _ => none
/-- n places of one list of intervals lie in another's -/
def subG (A B : List IV) : Nat → Bool
  | 0 => true
  | n + 1 => subG A B n && (match perG A n with
    | some q => fitI (perG B n) q
    | none => false)
def subGG (A B : List IV) (n : Nat) : Bool := cond (Nat.beq A.length 1 && Nat.beq B.length 1) (subG A B 1) (subG A B n)
def isZ (ei : List IV) (a : AV) (z : Int) : Bool := Nat.beq a.1 0 && (match ivO ei a with
  | some q => decide (q.1 = z) && decide (q.2 = z)
  | none => false)
def sCp (M : MS) (o : Nat) (pc : Nat) (lv : List (Nat × AV)) (st : List AV) (v : EV) : Option (List SS) := match st with
  | n :: dp :: k1 :: sp :: k0 :: st => match ivO v.1 n with
    | some q => cond (Nat.beq k0.1 2 && (Nat.beq k1.1 2 && okW M k1.2.1)) (cond (isZ v.1 sp 0 && (isZ v.1 dp 0 && (isZ v.1 n q.1 && leI 0 q.1)))
        (cond (leI q.1 ((vS (mV M) k0.2.1).2.2 : Int) && (leI q.1 ((vS (mV M) k1.2.1).2.2 : Int) && (mdA (mMd M) k1.2.1 && (Nat.ble 1 (mFr M) && Nat.ble (catS st + 111) (mLo M)))))
          (cond (match o with
            | 0 => isA (mV M) k0.2.1 1 && (isA (mV M) k1.2.1 1 && (Nat.beq (vT (mV M) k0.2.1) 0 && (Nat.beq (vT (mV M) k1.2.1) 0 && subGG ((vGI (mV M)).getD k0.2.1 []) ((vGI (mV M)).getD k1.2.1 []) q.1.toNat)))
            | _ => isA (mV M) k0.2.1 2 && (isA (mV M) k1.2.1 2 && subGG ((vGL (mV M)).getD k0.2.1 []) ((vGL (mV M)).getD k1.2.1 []) q.1.toNat))
          (o1 (pc + 3, lv, st, (v.1, v.2.1, dkill (mV M) v.2.2.1 [(k1.2.1, none)], v.2.2.2))) none) none) none) none
    | none => none
  | _ => none
/-- what a call of Math (0, 1) or arraycopy (2) asks of the tables -/
def MKw (own : String) (idx : Nat) (o : Nat) : Prop := match o with
  | 0 => Cond.methodLink own idx Lib.Math.min.name ∈ lw_g ∧ Cond.static Lib.Math.min.name ∈ lw_g ∧ Cond.initialized "java/lang/Math" ∈ lw_g ∧ Cond.code Lib.Math.min.name Lib.Math.min.code 2 (some .int) ∈ lw_g
  | 1 => Cond.methodLink own idx Lib.Math.max.name ∈ lw_g ∧ Cond.static Lib.Math.max.name ∈ lw_g ∧ Cond.initialized "java/lang/Math" ∈ lw_g ∧ Cond.code Lib.Math.max.name Lib.Math.max.code 2 (some .int) ∈ lw_g
  | _ => CPw own idx
section V9
variable {E : ET} {w : WT} {nL : Nat} {pc : Nat} {cc : ByteArray} {own : String} {ret : Option FieldType} {rm : Room} {V : VW} {G : GT} {md : List (Nat × Option Nat)} {X0 X : XT} {g : SG} {lvv : List (Nat × Value)} {stv : List Value}
theorem catA_dn (a : AV) : (dn g a).category = catA a := by
  obtain ⟨t, b, c⟩ := a
  match t with
  | 0 => rfl
  | 1 => rfl
  | 2 => rfl
  | t + 3 => rfl
theorem catS_dn (st : List AV) : ((dnS g st).map fun v => v.category).sum = catS st := by
  unfold dnS catS
  rw [List.map_map]
  congr 1
  exact List.map_congr_left (fun a _ => catA_dn a)
theorem sMm_ok (C : CX E w cc nL own ret rm) {M : MS} (hR : rm.frames = mFr M ∧ rm.locals = mLo M) {o idx : Nat} (ho : Nat.ble o 1 = true) (hK : MKw own idx o) {lv : List (Nat × AV)} {st : List AV} {v : EV} {L : List SS} (hd : decode cc pc = .ok (.invokestatic idx, 3)) (hsc : scS (pc, lv, st, v) = true) (hG : Gm V G md X0 v g X) (hs : sMm M o pc lv st v = some L) (K : ∀ s ∈ L, Kt E w nL V G md X0 v.1.length v.2.1.length g s) : Wx E w nL (PX w X) pc (dnL g lv) (dnS g st) := by
  match st, hs, hsc with
  | [], hs, _ => cases hs
  | [_], hs, _ => cases hs
  | y :: x :: st, hs, hsc =>
    obtain ⟨ei, el, rr⟩ := v
    obtain ⟨c1, c2, c3, c4⟩ := sc4 hsc
    have c2t := two_tl c2
    unfold sMm at hs
    simp only at hs
    cases hc : (Nat.beq y.1 0 && (Nat.beq x.1 0 && (Nat.ble 1 (mFr M) && Nat.ble (catS st + 13) (mLo M)))) with
    | false => rw [hc] at hs; cases hs
    | true =>
      rw [hc] at hs
      simp only [cond_true] at hs
      obtain ⟨h1, h2, h3⟩ := and3 hc
      rw [Bool.and_eq_true] at h3
      have hf : 1 ≤ rm.frames := by rw [hR.1]; exact Nat.le_of_ble_eq_true h3.1
      have hlo : ((dnS g st).map fun v => v.category).sum + 13 ≤ rm.locals := by rw [hR.2, catS_dn]; exact Nat.le_of_ble_eq_true h3.2
      cases hp : ivR ei x with
      | none => simp only [hp] at hs; cases hs
      | some p =>
        cases hq : ivR ei y with
        | none => simp only [hp, hq] at hs; cases hs
        | some q =>
          simp only [hp, hq] at hs
          have dx := ivD (v := (ei, el, rr)) hG hp
          have dy := ivD (v := (ei, el, rr)) hG hq
          cases hs
          show Wx E w nL (PX w X) pc (dnL g lv) (dn g y :: dn g x :: dnS g st)
          rw [dn0 h1, dn0 h2]
          match o, ho, hK, K with
          | 0, _, hK, K =>
            refine x_mmin C dx.2.2 dy.2.2 hK.1 hK.2.1 hK.2.2.1 hK.2.2.2 hf hlo hd (fun z hz => kZ (K _ List.mem_cons_self) c1 c2t c3 c4 hG ?_)
            show min p.1 q.1 ≤ z ∧ z ≤ min p.2 q.2
            rcases hz with ⟨a, b⟩ | ⟨a, b⟩
            · exact ⟨by omega, by omega⟩
            · exact ⟨by omega, by omega⟩
          | 1, _, hK, K =>
            refine x_mmax C dx.2.2 dy.2.2 hK.1 hK.2.1 hK.2.2.1 hK.2.2.2 hf hlo hd (fun z hz => kZ (K _ List.mem_cons_self) c1 c2t c3 c4 hG ?_)
            show max p.1 q.1 ≤ z ∧ z ≤ max p.2 q.2
            rcases hz with ⟨a, b⟩ | ⟨a, b⟩
            · exact ⟨by omega, by omega⟩
            · exact ⟨by omega, by omega⟩
          | n + 2, h, _, _ => exact absurd (Nat.le_of_ble_eq_true h) (by omega)
theorem subG_ok {A B : List IV} : ∀ {n : Nat}, subG A B n = true → ∀ i, i < n → ∃ q, perG A i = some q ∧ fitI (perG B i) q = true
  | 0, _, i, hi => absurd hi (Nat.not_lt_zero i)
  | n + 1, h, i, hi => by
    unfold subG at h
    rw [Bool.and_eq_true] at h
    by_cases hn : i = n
    · subst hn
      cases hq : perG A i with
      | none => rw [hq] at h; exact absurd h.2 Bool.false_ne_true
      | some q => rw [hq] at h; exact ⟨q, rfl, h.2⟩
    · exact subG_ok h.1 i (by omega)
theorem subGG_ok {A B : List IV} {n : Nat} (h : subGG A B n = true) (i : Nat) (hi : i < n) : ∃ q, perG A i = some q ∧ fitI (perG B i) q = true := by
  unfold subGG at h
  cases hb : (Nat.beq A.length 1 && Nat.beq B.length 1) with
  | true =>
    rw [hb] at h
    rw [Bool.and_eq_true] at hb
    obtain ⟨q, e1, e2⟩ := subG_ok (n := 1) h 0 (by decide)
    exact ⟨q, by rw [per1 hb.1 i 0]; exact e1, by rw [per1 hb.2 i 0]; exact e2⟩
  | false =>
    rw [hb] at h
    exact subG_ok h i hi
theorem isZ_ok {ei : List IV} {a : AV} {z : Int} (h : isZ ei a z = true) (he : eiOK ei g.1) : dn g a = .int (iI z) := by
  unfold isZ at h
  rw [Bool.and_eq_true] at h
  cases hq : ivO ei a with
  | none => rw [hq] at h; exact absurd h.2 Bool.false_ne_true
  | some q =>
    rw [hq] at h
    have h2 : (decide (q.1 = z) && decide (q.2 = z)) = true := h.2
    rw [Bool.and_eq_true, decide_eq_true_iff, decide_eq_true_iff] at h2
    have := ivO_ok he hq
    rw [dn0 h.1]
    congr 2
    omega
theorem inM_none_self {k i : Nat} (h : inM [(k, none)] k i = false) : False := by
  have h : (Nat.beq k k && true || false) = false := h
  rw [beq_self] at h
  cases h
theorem same_cpI {k0 k1 n a b : Nat} (h : inM [(k1, none)] a b = false) : sameAt a b X (cpI X k0 k1 0 0 n) := by
  refine ⟨?_, rfl, rfl⟩
  show cond (Nat.beq a k1) _ (X.1 a b) = _
  cases hc : Nat.beq a k1 with
  | false => rfl
  | true => rw [Nat.eq_of_beq_eq_true hc] at h; exact (inM_none_self h).elim
theorem same_cpL {k0 k1 n a b : Nat} (h : inM [(k1, none)] a b = false) : sameAt a b X (cpL X k0 k1 0 0 n) := by
  refine ⟨rfl, ?_, rfl⟩
  show cond (Nat.beq a k1) _ (X.2.1 a b) = _
  cases hc : Nat.beq a k1 with
  | false => rfl
  | true => rw [Nat.eq_of_beq_eq_true hc] at h; exact (inM_none_self h).elim
theorem HG.cpI {k0 k1 n q0 : Nat} (h : HG V X) (h0 : k0 < vN V) (hs : vS V k0 = (1, q0, (vS V k0).2.2)) (hn : n ≤ (vS V k0).2.2) (hg : subGG ((vGI V).getD k0 []) ((vGI V).getD k1 []) n = true) : HG V (cpI X k0 k1 0 0 n) := by
  refine ⟨fun a b q hp hq => ?_, h.2.1, h.2.2⟩
  show q.1 ≤ cond (Nat.beq a k1) (va_cpy (X.1 k0) (X.1 k1) 0 0 n b) (X.1 a b) ∧ cond (Nat.beq a k1) (va_cpy (X.1 k0) (X.1 k1) 0 0 n b) (X.1 a b) ≤ q.2
  cases hc : Nat.beq a k1 with
  | false => exact h.1 a b q hp hq
  | true =>
    have := Nat.eq_of_beq_eq_true hc
    subst this
    show q.1 ≤ va_cpy (X.1 k0) (X.1 a) 0 0 n b ∧ va_cpy (X.1 k0) (X.1 a) 0 0 n b ≤ q.2
    unfold va_cpy
    by_cases hb : 0 ≤ b ∧ b < 0 + n
    · rw [if_pos hb]
      obtain ⟨p, e1, e2⟩ := subGG_ok hg b (by omega)
      have h1 := h.1 k0 b p (pl_arr h0 hs (by omega)) e1
      have h2 := fitI_ok e2 h1.1 h1.2 q hq
      rw [show 0 + (b - 0) = b by omega]
      exact h2
    · rw [if_neg hb]
      exact h.1 a b q hp hq
theorem HG.cpL {k0 k1 n q0 : Nat} (h : HG V X) (h0 : k0 < vN V) (hs : vS V k0 = (2, q0, (vS V k0).2.2)) (hn : n ≤ (vS V k0).2.2) (hg : subGG ((vGL V).getD k0 []) ((vGL V).getD k1 []) n = true) : HG V (cpL X k0 k1 0 0 n) := by
  refine ⟨h.1, fun a b q hp hq => ?_, h.2.2⟩
  show q.1 ≤ (cond (Nat.beq a k1) (va_cpy (X.2.1 k0) (X.2.1 k1) 0 0 n b) (X.2.1 a b)).toInt ∧ (cond (Nat.beq a k1) (va_cpy (X.2.1 k0) (X.2.1 k1) 0 0 n b) (X.2.1 a b)).toInt ≤ q.2
  cases hc : Nat.beq a k1 with
  | false => exact h.2.1 a b q hp hq
  | true =>
    have := Nat.eq_of_beq_eq_true hc
    subst this
    show q.1 ≤ (va_cpy (X.2.1 k0) (X.2.1 a) 0 0 n b).toInt ∧ (va_cpy (X.2.1 k0) (X.2.1 a) 0 0 n b).toInt ≤ q.2
    unfold va_cpy
    by_cases hb : 0 ≤ b ∧ b < 0 + n
    · rw [if_pos hb]
      obtain ⟨p, e1, e2⟩ := subGG_ok hg b (by omega)
      have h1 := h.2.1 k0 b p (pl_arr h0 hs (by omega)) e1
      have h2 := fitI_ok e2 h1.1 h1.2 q hq
      rw [show 0 + (b - 0) = b by omega]
      exact h2
    · rw [if_neg hb]
      exact h.2.1 a b q hp hq
theorem nfw : nativeFrameWords "java/lang/System" "arraycopy" 5 + 11 ≤ 111 := by decide
theorem sCp_ok (C : CX E w cc nL own ret rm) {M : MS} (hV : WV (mV M) w) (hW : WD (mV M) G) (hR : rm.frames = mFr M ∧ rm.locals = mLo M) {o idx : Nat} (hK : CPw own idx) {lv : List (Nat × AV)} {st : List AV} {v : EV} {L : List SS} (hd : decode cc pc = .ok (.invokestatic idx, 3)) (hG : Gm (mV M) G (mMd M) X0 v g X) (hs : sCp M o pc lv st v = some L) (K : ∀ s ∈ L, Kt E w nL (mV M) G (mMd M) X0 v.1.length v.2.1.length g s) : Wx E w nL (PX w X) pc (dnL g lv) (dnS g st) := by
  match st, hs with
  | [], hs => cases hs
  | [_], hs => cases hs
  | [_, _], hs => cases hs
  | [_, _, _], hs => cases hs
  | [_, _, _, _], hs => cases hs
  | n :: dp :: k1' :: sp :: k0 :: st, hs =>
    unfold sCp at hs
    simp only at hs
    cases hq : ivO v.1 n with
    | none => simp only [hq] at hs; cases hs
    | some q =>
      simp only [hq] at hs
      cases hc : (Nat.beq k0.1 2 && (Nat.beq k1'.1 2 && okW M k1'.2.1)) with
      | false => rw [hc] at hs; cases hs
      | true =>
        rw [hc] at hs
        simp only [cond_true] at hs
        obtain ⟨h1, h2, h3⟩ := and3 hc
        cases hz : (isZ v.1 sp 0 && (isZ v.1 dp 0 && (isZ v.1 n q.1 && leI 0 q.1))) with
        | false => rw [hz] at hs; cases hs
        | true =>
          rw [hz] at hs
          simp only [cond_true] at hs
          obtain ⟨z1, z2, z3⟩ := and3 hz
          rw [Bool.and_eq_true, leI_iff] at z3
          cases hb : (leI q.1 ((vS (mV M) k0.2.1).2.2 : Int) && (leI q.1 ((vS (mV M) k1'.2.1).2.2 : Int) && (mdA (mMd M) k1'.2.1 && (Nat.ble 1 (mFr M) && Nat.ble (catS st + 111) (mLo M))))) with
          | false => rw [hb] at hs; cases hs
          | true =>
            rw [hb] at hs
            simp only [cond_true] at hs
            obtain ⟨b1, b2, b3⟩ := and3 hb
            obtain ⟨b3, b4, b5⟩ := and3 b3
            rw [leI_iff] at b1 b2
            have hf : 1 ≤ rm.frames := by rw [hR.1]; exact Nat.le_of_ble_eq_true b4
            have hlo : ((dnS g st).map fun v => v.category).sum + (nativeFrameWords "java/lang/System" "arraycopy" 5 + 11) ≤ rm.locals := by
              rw [hR.2, catS_dn]
              have := Nat.le_of_ble_eq_true b5
              have := nfw
              omega
            have hpr := okW_ok h3
            show Wx E w nL (PX w X) pc (dnL g lv) (dn g n :: dn g dp :: dn g k1' :: dn g sp :: dn g k0 :: dnS g st)
            rw [isZ_ok z1 hG.2.1, isZ_ok z2 hG.2.1, isZ_ok z3.1 hG.2.1, dn2 h1, dn2 h2]
            have ha : (2 : Nat) ≠ 0 := by decide
            match o, hs, K with
            | 0, hs, K =>
              simp only at hs
              cases hi : (isA (mV M) k0.2.1 1 && (isA (mV M) k1'.2.1 1 && (Nat.beq (vT (mV M) k0.2.1) 0 && (Nat.beq (vT (mV M) k1'.2.1) 0 && subGG ((vGI (mV M)).getD k0.2.1 []) ((vGI (mV M)).getD k1'.2.1 []) q.1.toNat)))) with
              | false => rw [hi] at hs; cases hs
              | true =>
                rw [hi] at hs
                cases hs
                obtain ⟨i1, i2, i3⟩ := and3 hi
                obtain ⟨i3, i4, i5⟩ := and3 i3
                obtain ⟨a1, a2, a3⟩ := isA_ok i1
                obtain ⟨d1, d2, d3⟩ := isA_ok i2
                have s0 : wS w k0.2.1 = (1, (vS (mV M) k0.2.1).2.1, (vS (mV M) k0.2.1).2.2) := by rw [← hV.2.1]; exact a2
                have s1 : wS w k1'.2.1 = (1, (vS (mV M) k1'.2.1).2.1, (vS (mV M) k1'.2.1).2.2) := by rw [← hV.2.1]; exact d2
                exact x_cpyI C hK (by rw [← hV.1]; exact a1) s0 ((hV.2.2.2.1 _ (by rw [s0])).1 (Nat.eq_of_beq_eq_true i3)) (by rw [← hV.1]; exact d1) s1 ((hV.2.2.2.1 _ (by rw [s1])).1 (Nat.eq_of_beq_eq_true i4)) rfl (Int.le_refl _) (Int.le_refl _) z3.2 (by omega) (by omega) a3 d3 hf hlo hd (k1 (s := (pc + 3, lv, st, (v.1, v.2.1, dkill (mV M) v.2.2.1 [(k1'.2.1, none)], v.2.2.2))) (K _ List.mem_cons_self) (wrA_ok hW hG (hG.2.2.2.2.2.2.1.cpI a1 a2 (by omega) i5) (fun _ _ h => same_cpI h) b3 hpr))
            | o + 1, hs, K =>
              simp only at hs
              cases hi : (isA (mV M) k0.2.1 2 && (isA (mV M) k1'.2.1 2 && subGG ((vGL (mV M)).getD k0.2.1 []) ((vGL (mV M)).getD k1'.2.1 []) q.1.toNat)) with
              | false => rw [hi] at hs; cases hs
              | true =>
                rw [hi] at hs
                cases hs
                obtain ⟨i1, i2, i5⟩ := and3 hi
                obtain ⟨a1, a2, a3⟩ := isA_ok i1
                obtain ⟨d1, d2, d3⟩ := isA_ok i2
                have s0 : wS w k0.2.1 = (2, (vS (mV M) k0.2.1).2.1, (vS (mV M) k0.2.1).2.2) := by rw [← hV.2.1]; exact a2
                have s1 : wS w k1'.2.1 = (2, (vS (mV M) k1'.2.1).2.1, (vS (mV M) k1'.2.1).2.2) := by rw [← hV.2.1]; exact d2
                exact x_cpyL C hK (by rw [← hV.1]; exact a1) s0 (hV.2.2.2.2.1 _ (by rw [s0])) (by rw [← hV.1]; exact d1) s1 (hV.2.2.2.2.1 _ (by rw [s1])) (Int.le_refl _) (Int.le_refl _) z3.2 (by omega) (by omega) a3 d3 hf hlo hd (k1 (s := (pc + 3, lv, st, (v.1, v.2.1, dkill (mV M) v.2.2.1 [(k1'.2.1, none)], v.2.2.2))) (K _ List.mem_cons_self) (wrA_ok hW hG (hG.2.2.2.2.2.2.1.cpL a1 a2 (by omega) i5) (fun _ _ h => same_cpL h) b3 hpr))
end V9
