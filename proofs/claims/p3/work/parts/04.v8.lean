/-! ===== VSE 8: arrays ===== -/
section V8
variable {E : ET} {w : WT} {nL : Nat} {pc : Nat} {cc : ByteArray} {own : String} {ret : Option FieldType} {rm : Room} {V : VW} {G : GT} {md : List (Nat × Option Nat)} {X0 X : XT} {g : SG} {lvv : List (Nat × Value)} {stv : List Value}
theorem kZ {lv : List (Nat × AV)} {st : List AV} {ei el : List IV} {r : DLT × List (Nat × Nat × Nat) × List (AV × AV)} {q : IV} (K : Kt E w nL V G md X0 ei.length el.length g (pc, lv, (0, ei.length, 0) :: st, (ei ++ [q], el, r))) (hl : lv.all (fun q => scV ei.length el.length q.2) = true) (ht : st.all (scV ei.length el.length) = true) (hs : scE (ei, el, r) = true) (hp : 0 < ei.length) (h : Gm V G md X0 (ei, el, r) g X) {z : Int} (hx : q.1 ≤ z ∧ z ≤ q.2) : Wx E w nL (PX w X) pc (dnL g lv) (.int (iI z) :: dnS g st) := by
  obtain ⟨dl, lk, gd⟩ := r
  obtain ⟨g', e1, e2, e3⟩ := newI hs h hp hx.1 hx.2
  have h2 : Wx E w nL (PX w X) pc (dnL g' lv) (dn g' (0, ei.length, 0) :: dnS g' st) := K g' X e1 e3
  have e4 : dn g' (0, ei.length, 0) = .int (iI z) := by
    show Value.int (iI (g'.1 ei.length + 0)) = _
    rw [e2, Int.add_zero]
  rw [e4, e1.vL hl, e1.vS ht] at h2
  exact h2
theorem x_aaldA (C : CX E w cc nL own ret rm) {k q n : Nat} {z : Int} {u : FieldType} {r : Option Nat} (hk : k < wN w) (hs : wS w k = (3, q, n)) (ht : wT w k = .array u) (hn : n ≤ 2147483647) (h0 : 0 ≤ z) (h1 : z < n) (hr : X.2.2 k z.toNat = r) (hd : decode cc pc = .ok (.aaload, 1)) (kk : Wx E w nL (PX w X) (pc + 1) lvv (va_rf r :: stv)) : Wx E w nL (PX w X) pc lvv (.int (iI z) :: .ref k :: stv) := by
  obtain ⟨p, l, e, R, s, m, args, below, meth, c, A0, k0, n0, QQ⟩ := E
  intro H locs ls hP hS hl
  have he := wsX_at (X := X) hk
  rw [ceX_arrR hs] at he
  have hK := C.2.2.2.2.2.1.K1 hk (by rw [hs]; show (3 : Nat) ≠ 0; decide)
  have hin : vp_in (iI z) n := iI_in h0 h1 hn
  have hlt : (iI z).toNatClampNeg < n := Nat.not_le.mp fun q => hin (Or.inr q)
  have hty : [(wY w k, wT w k)][0]? = some (wY w k, FieldType.array u) := by rw [ht]; rfl
  refine W.aald (v := va_rf (cond (Nat.blt (iI z).toNatClampNeg n) ((X.2.2 k (iI z).toNatClampNeg).map (wA w)) none)) (ty := .array u) C.1 C.2.1 (hP k _ he) ((hK.2 0 _ hty).1 n (fun j => va_rf (cond (Nat.blt j n) ((X.2.2 k j).map (wA w)) none))) rfl (fun q => by cases q) (by show ¬ (iI z < 0 ∨ (arrV _ _ _).slots.size ≤ _); rw [arrV_size]; exact hin) (by show (arrV _ _ _).slots[_]? = _; rw [arrV_read _ _ hlt]) rfl rfl hd ?_
  subst hr
  have hb : Nat.blt z.toNat n = true := Nat.ble_eq_true_of_le (by omega)
  rw [iI_nat ⟨by omega, by omega⟩]
  simp only [hb]
  show W p l e R s m args below meth c H locs k0 n0 QQ (F0 m (pc + 1) ls (va_rf ((X.2.2 k z.toNat).map (wA w)) :: stv.map (czV w)))
  rw [← czV_rf]
  exact kk H locs ls hP hS hl
theorem isA_ok {k kd : Nat} (h : isA V k kd = true) : k < vN V ∧ vS V k = (kd, (vS V k).2.1, (vS V k).2.2) ∧ (vS V k).2.2 ≤ 2147483647 := by
  unfold isA at h
  obtain ⟨h1, h2, h3⟩ := and3 h
  refine ⟨blt_lt h1, ?_, Nat.le_of_ble_eq_true h3⟩
  rw [← Nat.eq_of_beq_eq_true h2]
theorem jnG_ok {L : List IV} {a : Nat} : ∀ {n : Nat} {p : IV}, jnG L a n = some p → ∀ j, j ≤ n → ∃ q, perG L (a + j) = some q ∧ p.1 ≤ q.1 ∧ q.2 ≤ p.2
  | 0, p, h, j, hj => by
    have : j = 0 := by omega
    subst this
    exact ⟨p, h, Int.le_refl _, Int.le_refl _⟩
  | n + 1, p, h, j, hj => by
    unfold jnG at h
    cases h1 : jnG L a n with
    | none => rw [h1] at h; cases h
    | some p1 =>
      cases h2 : perG L (a + (n + 1)) with
      | none => rw [h1, h2] at h; cases h
      | some p2 =>
        rw [h1, h2] at h
        cases h
        by_cases hn : j = n + 1
        · subst hn
          exact ⟨p2, h2, by show min p1.1 p2.1 ≤ _; omega, by show _ ≤ max p1.2 p2.2; omega⟩
        · obtain ⟨q, e1, e2, e3⟩ := jnG_ok h1 j (by omega)
          exact ⟨q, e1, by show min p1.1 p2.1 ≤ _; omega, by show _ ≤ max p1.2 p2.2; omega⟩
theorem per1 {L : List IV} (h : Nat.beq L.length 1 = true) (i j : Nat) : perG L i = perG L j := by
  unfold perG
  rw [Nat.eq_of_beq_eq_true h, Nat.mod_one, Nat.mod_one]
theorem rdG_ok {L : List IV} {a n : Nat} {p : IV} (h : rdG L a n = some p) : ∀ i, a ≤ i → i ≤ a + n → ∃ q, perG L i = some q ∧ p.1 ≤ q.1 ∧ q.2 ≤ p.2 := by
  intro i h1 h2
  unfold rdG at h
  cases hb : Nat.beq L.length 1 with
  | true =>
    rw [hb] at h
    have h : perG L 0 = some p := h
    exact ⟨p, by rw [per1 hb i 0]; exact h, Int.le_refl _, Int.le_refl _⟩
  | false =>
    rw [hb] at h
    obtain ⟨q, e1, e2⟩ := jnG_ok h (i - a) (by omega)
    rw [show a + (i - a) = i by omega] at e1
    exact ⟨q, e1, e2⟩
theorem alG_ok {L : List IV} {a : Nat} {q : IV} : ∀ {n : Nat}, alG L a q n = true → ∀ j, j ≤ n → fitI (perG L (a + j)) q = true
  | 0, h, j, hj => by
    have : j = 0 := by omega
    subst this
    exact h
  | n + 1, h, j, hj => by
    unfold alG at h
    rw [Bool.and_eq_true] at h
    by_cases hn : j = n + 1
    · subst hn; exact h.2
    · exact alG_ok h.1 j (by omega)
theorem wrG_ok {L : List IV} {a n : Nat} {q : IV} (h : wrG L a n q = true) : ∀ i, a ≤ i → i ≤ a + n → fitI (perG L i) q = true := by
  intro i h1 h2
  unfold wrG at h
  cases hb : Nat.beq L.length 1 with
  | true =>
    rw [hb] at h
    rw [per1 hb i 0]
    exact h
  | false =>
    rw [hb] at h
    have := alG_ok h (i - a) (by omega)
    rw [show a + (i - a) = i by omega] at this
    exact this
theorem two_tl {x y : AV} {t : List AV} {nI nG : Nat} (h : (x :: y :: t).all (scV nI nG) = true) : t.all (scV nI nG) = true := (and3 h).2.2
theorem sAl_ok (C : CX E w cc nL own ret rm) {M : MS} (hV : WV (mV M) w) (hN : vN (mV M) ≤ 900) {a b : Int} {ln pc0 : Nat} {sw : List (Int × Int)} {lv : List (Nat × AV)} {st : List AV} {v : EV} {L : List SS} (hb2 : Nat.ble b.toNat 4 = true) (hd : decode cc pc = .ok (tI (pc0, ln, 16, a, b, sw))) (hsc : scS (pc, lv, st, v) = true) (hG : Gm (mV M) G md X0 v g X) (hs : sAl M b.toNat pc lv st v = some L) (K : ∀ s ∈ L, Kt E w nL (mV M) G md X0 v.1.length v.2.1.length g s) : Wx E w nL (PX w X) pc (dnL g lv) (dnS g st) := by
  match st, hs, hsc with
  | [], hs, _ => cases hs
  | [_], hs, _ => cases hs
  | ix :: x :: st, hs, hsc =>
    obtain ⟨ei, el, rr⟩ := v
    obtain ⟨c1, c2, c3, c4⟩ := sc4 hsc
    have c2t := two_tl c2
    unfold sAl at hs
    simp only at hs
    cases hc : (Nat.beq ix.1 0 && Nat.beq x.1 2) with
    | false => rw [hc] at hs; cases hs
    | true =>
      rw [hc] at hs
      simp only [cond_true] at hs
      rw [Bool.and_eq_true] at hc
      cases hq : ivR ei ix with
      | none => simp only [hq] at hs; cases hs
      | some q =>
        simp only [hq] at hs
        cases hr : (leI 0 q.1 && leI (q.2 + 1) ((vS (mV M) x.2.1).2.2 : Int)) with
        | false => rw [hr] at hs; cases hs
        | true =>
          rw [hr] at hs
          simp only [cond_true] at hs
          rw [Bool.and_eq_true, leI_iff, leI_iff] at hr
          have hiv := ivD (v := (ei, el, rr)) hG hq
          have z0 : 0 ≤ dI g ix := by omega
          have z1 : dI g ix < ((vS (mV M) x.2.1).2.2 : Int) := by omega
          have zn : (dI g ix).toNat < (vS (mV M) x.2.1).2.2 := by omega
          have zr1 : q.1.toNat ≤ (dI g ix).toNat := by omega
          have zr2 : (dI g ix).toNat ≤ q.1.toNat + (q.2 - q.1).toNat := by omega
          show Wx E w nL (PX w X) pc (dnL g lv) (dn g ix :: dn g x :: dnS g st)
          rw [dn0 hc.1, dn2 hc.2]
          have ints : ∀ bb, cond (isA (mV M) x.2.1 1 && Nat.beq (vT (mV M) x.2.1) bb) (cond (decide (q.1 = q.2)) (sLo (mV M) 0 x.2.1 q.1.toNat (pc + 1) lv st (ei, el, rr)) (match rdG ((vGI (mV M)).getD x.2.1 []) q.1.toNat (q.2 - q.1).toNat with | some p => pI (pc + 1) lv st (ei, el, rr) p | none => none)) none = some L → (wS w x.2.1 = (1, (vS (mV M) x.2.1).2.1, (vS (mV M) x.2.1).2.2) ∧ x.2.1 < wN w ∧ vT (mV M) x.2.1 = bb ∧ (vS (mV M) x.2.1).2.2 ≤ 2147483647) ∧ Wx E w nL (PX w X) (pc + 1) (dnL g lv) (.int (iI (X.1 x.2.1 (dI g ix).toNat)) :: dnS g st) := by
            intro bb h
            cases hA : (isA (mV M) x.2.1 1 && Nat.beq (vT (mV M) x.2.1) bb) with
            | false => rw [hA] at h; cases h
            | true =>
              rw [hA] at h
              simp only [cond_true] at h
              rw [Bool.and_eq_true] at hA
              obtain ⟨a1, a2, a3⟩ := isA_ok hA.1
              have hpl : plK (mV M) x.2.1 (dI g ix).toNat = 0 := pl_arr a1 a2 zn
              refine ⟨⟨by rw [← hV.2.1]; exact a2, by rw [← hV.1]; exact a1, Nat.eq_of_beq_eq_true hA.2, a3⟩, ?_⟩
              by_cases he : q.1 = q.2
              · simp only [decide_eq_true he, cond_true] at h
                have hz : (dI g ix).toNat = q.1.toNat := by omega
                rw [hz] at hpl ⊢
                exact sLo0 hN hpl c1 c2t c3 c4 hG h K
              · simp only [decide_eq_false he, cond_false] at h
                cases hg : rdG ((vGI (mV M)).getD x.2.1 []) q.1.toNat (q.2 - q.1).toNat with
                | none => simp only [hg] at h; cases h
                | some p =>
                  simp only [hg] at h
                  cases h
                  obtain ⟨qq, e1, e2, e3⟩ := rdG_ok hg _ zr1 zr2
                  have hH := hG.2.2.2.2.2.2.1.1 _ _ qq hpl e1
                  exact kZ (K _ List.mem_cons_self) c1 c2t c3 c4 hG ⟨by omega, by omega⟩
          match hb : b.toNat, hb2, hs with
          | 0, _, hs =>
            simp only [tI, hb] at hd
            obtain ⟨⟨i1, i2, i3, i4⟩, i5⟩ := ints 0 hs
            exact x_iald C i2 i1 ((hV.2.2.2.1 _ (by rw [i1])).1 i3) i4 z0 z1 hd i5
          | 1, _, hs =>
            simp only [tI, hb] at hd
            obtain ⟨⟨i1, i2, i3, i4⟩, i5⟩ := ints 1 hs
            exact x_bald C i2 i1 ((hV.2.2.2.1 _ (by rw [i1])).2.1 i3) i4 z0 z1 hd i5
          | 2, _, hs =>
            simp only [tI, hb] at hd
            obtain ⟨⟨i1, i2, i3, i4⟩, i5⟩ := ints 2 hs
            exact x_zald C i2 i1 ((hV.2.2.2.1 _ (by rw [i1])).2.2 i3) i4 z0 z1 hd i5
          | 3, _, hs =>
            simp only [tI, hb] at hd
            simp only at hs
            cases hA : isA (mV M) x.2.1 2 with
            | false => rw [hA] at hs; cases hs
            | true =>
              rw [hA] at hs
              simp only [cond_true] at hs
              obtain ⟨a1, a2, a3⟩ := isA_ok hA
              have hpl : plK (mV M) x.2.1 (dI g ix).toNat = 1 := pl_arr a1 a2 zn
              have i1 : wS w x.2.1 = (2, (vS (mV M) x.2.1).2.1, (vS (mV M) x.2.1).2.2) := by rw [← hV.2.1]; exact a2
              refine x_lald C (by rw [← hV.1]; exact a1) i1 (hV.2.2.2.2.1 _ (by rw [i1])) a3 z0 z1 hd ?_
              by_cases he : q.1 = q.2
              · simp only [decide_eq_true he, cond_true] at hs
                have hz : (dI g ix).toNat = q.1.toNat := by omega
                rw [hz] at hpl ⊢
                exact sLo1 hN hpl c1 c2t c3 hG hs K
              · simp only [decide_eq_false he, cond_false] at hs
                cases hg : rdG ((vGL (mV M)).getD x.2.1 []) q.1.toNat (q.2 - q.1).toNat with
                | none => simp only [hg] at hs; cases hs
                | some p =>
                  simp only [hg] at hs
                  cases hs
                  obtain ⟨qq, e1, e2, e3⟩ := rdG_ok hg _ zr1 zr2
                  have hH := hG.2.2.2.2.2.2.1.2.1 _ _ qq hpl e1
                  exact kL (K _ List.mem_cons_self) c1 c2t c3 hG ⟨by omega, by omega⟩
          | 4, _, hs =>
            simp only [tI, hb] at hd
            simp only at hs
            cases hA : isA (mV M) x.2.1 3 with
            | false => rw [hA] at hs; cases hs
            | true =>
              rw [hA] at hs
              simp only [cond_true] at hs
              obtain ⟨a1, a2, a3⟩ := isA_ok hA
              have hpl : plK (mV M) x.2.1 (dI g ix).toNat = 2 := pl_arr a1 a2 zn
              have i1 : wS w x.2.1 = (3, (vS (mV M) x.2.1).2.1, (vS (mV M) x.2.1).2.2) := by rw [← hV.2.1]; exact a2
              have hk' : x.2.1 < wN w := by rw [← hV.1]; exact a1
              have fin : Wx E w nL (PX w X) (pc + 1) (dnL g lv) (va_rf (X.2.2 x.2.1 (dI g ix).toNat) :: dnS g st) := by
                by_cases he : q.1 = q.2
                · simp only [decide_eq_true he, cond_true] at hs
                  have hz : (dI g ix).toNat = q.1.toNat := by omega
                  rw [hz] at hpl ⊢
                  exact sLo2 hN (Nat.le_refl 2) hpl hG hs K
                · simp only [decide_eq_false he, cond_false] at hs
                  cases hs
                  have hm := hG.2.2.2.2.2.2.1.2.2 _ _ hpl
                  have hj : q.1 + (((dI g ix).toNat - q.1.toNat : Nat) : Int) = dI g ix := by omega
                  obtain ⟨e', a4, a5, _⟩ := rfn_ok (a := ix) (lo := dI g ix) (hi := dI g ix) hG.2.1 (lt_of_ivR hq) (Int.le_refl _) (Int.le_refl _)
                  have h3 := k1 (X := X) (K (pc + 1, lv, rfA (X.2.2 x.2.1 (dI g ix).toNat) :: st, (e', el, rr)) (List.mem_flatMap.mpr ⟨(dI g ix).toNat - q.1.toNat, List.mem_range.mpr (by omega), by
                    rw [hj]
                    have a4' : rfn ei ix (dI g ix) (dI g ix) = some e' := a4
                    rw [a4']
                    show _ ∈ List.map _ _
                    rw [show q.1.toNat + ((dI g ix).toNat - q.1.toNat) = (dI g ix).toNat by omega]
                    exact List.mem_map.mpr ⟨_, hm, rfl⟩⟩)) (hG.rei a5)
                  have h4 : Wx E w nL (PX w X) (pc + 1) (dnL g lv) (dn g (rfA (X.2.2 x.2.1 (dI g ix).toNat)) :: dnS g st) := h3
                  rw [rfA_dn] at h4
                  exact h4
              rcases hV.2.2.2.2.2 x.2.1 (by rw [i1]) with ⟨S, hS⟩ | ⟨u, hu⟩
              · exact x_aald C hk' i1 hS a3 z0 z1 rfl hd fin
              · exact x_aaldA C hk' i1 hu a3 z0 z1 rfl hd fin
          | n + 5, h, _ => exact absurd (Nat.le_of_ble_eq_true h) (by omega)
theorem mdA_ok {k a b : Nat} (h : mdA md k = true) (hab : inM [(k, none)] a b = true) : inM md a b = true := by
  have := inM_all hab
  subst this
  unfold mdA at h
  obtain ⟨q, h1, h2⟩ := List.any_eq_true.mp h
  refine List.any_eq_true.mpr ⟨q, h1, ?_⟩
  obtain ⟨q1, q2⟩ := q
  cases q2 with
  | none => exact h2
  | some j =>
    have h2 : (Nat.beq q1 a && false) = true := h2
    rw [Bool.and_false] at h2
    cases h2
theorem mdA_in {k i : Nat} (h : mdA md k = true) : inM md k i = true := mdA_ok h (by show (Nat.beq k k && true || false) = true; rw [beq_self]; rfl)
theorem wrA_ok (hW : WD V G) {v : EV} {k : Nat} {X' : XT} (h : Gm V G md X0 v g X) (hH : HG V X') (hs : ∀ x y, inM [(k, none)] x y = false → sameAt x y X X') (hm : mdA md k = true) (hp : (vPr V).any (Nat.beq k) = false) : Gm V G md X0 (v.1, v.2.1, dkill V v.2.2.1 [(k, none)], v.2.2.2) g X' :=
  Gm.wr (ex := []) hW h hH hs (fun _ _ hxy => mdA_ok hm hxy) (fun x y hxy => by rw [inM_all hxy]; exact hp) (fun q hq => by cases hq)
theorem noA {k i a b : Nat} (h : inM [(k, none)] a b = false) : inM [(k, some i)] a b = false := by
  cases hc : inM [(k, some i)] a b with
  | false => rfl
  | true =>
    obtain ⟨rfl, rfl⟩ := inM_1 hc
    have : inM [(a, none)] a b = true := by show (Nat.beq a a && true || false) = true; rw [beq_self]; rfl
    rw [this] at h
    cases h
theorem sAs_ok (C : CX E w cc nL own ret rm) {M : MS} (hV : WV (mV M) w) (hW : WD (mV M) G) {a b : Int} {ln pc0 : Nat} {sw : List (Int × Int)} {lv : List (Nat × AV)} {st : List AV} {v : EV} {L : List SS} (hb2 : Nat.ble b.toNat 3 = true) (hd : decode cc pc = .ok (tI (pc0, ln, 17, a, b, sw))) (hG : Gm (mV M) G (mMd M) X0 v g X) (hs : sAs M b.toNat pc lv st v = some L) (K : ∀ s ∈ L, Kt E w nL (mV M) G (mMd M) X0 v.1.length v.2.1.length g s) : Wx E w nL (PX w X) pc (dnL g lv) (dnS g st) := by
  match st, hs with
  | [], hs => cases hs
  | [_], hs => cases hs
  | [_, _], hs => cases hs
  | y :: ix :: x :: st, hs =>
    unfold sAs at hs
    simp only at hs
    cases hc : (Nat.beq ix.1 0 && (Nat.beq x.1 2 && okW M x.2.1)) with
    | false => rw [hc] at hs; cases hs
    | true =>
      rw [hc] at hs
      simp only [cond_true] at hs
      obtain ⟨h1, h2, h3⟩ := and3 hc
      have hpr := okW_ok h3
      cases hq : ivR v.1 ix with
      | none => simp only [hq] at hs; cases hs
      | some q =>
        simp only [hq] at hs
        cases hr : (leI 0 q.1 && (leI (q.2 + 1) ((vS (mV M) x.2.1).2.2 : Int) && (mdA (mMd M) x.2.1 || (decide (q.1 = q.2) && inM (mMd M) x.2.1 q.1.toNat)))) with
        | false => rw [hr] at hs; cases hs
        | true =>
          rw [hr] at hs
          simp only [cond_true] at hs
          obtain ⟨r1, r2, r3⟩ := and3 hr
          rw [leI_iff] at r1 r2
          have hiv := ivD (v := v) hG hq
          have z0 : 0 ≤ dI g ix := by omega
          have z1 : dI g ix < ((vS (mV M) x.2.1).2.2 : Int) := by omega
          have zn : (dI g ix).toNat < (vS (mV M) x.2.1).2.2 := by omega
          have zr1 : q.1.toNat ≤ (dI g ix).toNat := by omega
          have zr2 : (dI g ix).toNat ≤ q.1.toNat + (q.2 - q.1).toNat := by omega
          show Wx E w nL (PX w X) pc (dnL g lv) (dn g y :: dn g ix :: dn g x :: dnS g st)
          rw [dn0 h1, dn2 h2]
          -- what a write at the place leaves
          have fin : ∀ {X' : XT}, x.2.1 < vN (mV M) → HG (mV M) X' → (∀ a b, inM [(x.2.1, some (dI g ix).toNat)] a b = false → sameAt a b X X') → locOK G x.2.1 (dI g ix).toNat y g X' → cond (decide (q.1 = q.2)) (o1 (pc + 1, lv, st, (v.1, v.2.1, ((x.2.1, q.1.toNat), y) :: dkill (mV M) v.2.2.1 [(x.2.1, some q.1.toNat)], v.2.2.2))) (o1 (pc + 1, lv, st, (v.1, v.2.1, dkill (mV M) v.2.2.1 [(x.2.1, none)], v.2.2.2))) = some L → Wx E w nL (PX w X') (pc + 1) (dnL g lv) (dnS g st) := by
            intro X' hk hH hsame hloc h
            by_cases he : q.1 = q.2
            · simp only [decide_eq_true he, cond_true] at h
              cases h
              have hz : (dI g ix).toNat = q.1.toNat := by omega
              rw [hz] at hsame hloc
              have hin : inM (mMd M) x.2.1 q.1.toNat = true := by
                rw [Bool.or_eq_true] at r3
                rcases r3 with r3 | r3
                · exact mdA_in r3
                · rw [Bool.and_eq_true] at r3; exact r3.2
              exact k1 (s := (pc + 1, lv, st, (v.1, v.2.1, ((x.2.1, q.1.toNat), y) :: dkill (mV M) v.2.2.1 [(x.2.1, some q.1.toNat)], v.2.2.2))) (K _ List.mem_cons_self) (wr1_ok hW hk hG hH hsame hin hpr hloc)
            · simp only [decide_eq_false he, cond_false] at h
              cases h
              have hin : mdA (mMd M) x.2.1 = true := by
                rw [decide_eq_false he, Bool.false_and, Bool.or_false] at r3
                exact r3
              exact k1 (s := (pc + 1, lv, st, (v.1, v.2.1, dkill (mV M) v.2.2.1 [(x.2.1, none)], v.2.2.2))) (K _ List.mem_cons_self) (wrA_ok hW hG hH (fun a b hab => hsame a b (noA hab)) hin hpr)
          have ints : ∀ bb, asCI M bb q y v x.2.1 = true → (wS w x.2.1 = (1, (vS (mV M) x.2.1).2.1, (vS (mV M) x.2.1).2.2) ∧ x.2.1 < wN w ∧ vT (mV M) x.2.1 = bb ∧ (vS (mV M) x.2.1).2.2 ≤ 2147483647) ∧ dn g y = .int (iI (dI g y)) ∧ x.2.1 < vN (mV M) ∧ HG (mV M) (upI X x.2.1 (dI g ix).toNat (dI g y)) ∧ locOK G x.2.1 (dI g ix).toNat y g (upI X x.2.1 (dI g ix).toNat (dI g y)) ∧ (bb = 1 → -128 ≤ dI g y ∧ dI g y ≤ 127) ∧ (bb = 2 → dI g y = 0 ∨ dI g y = 1) := by
            intro bb h
            obtain ⟨g1, g2, g3⟩ := and3 h
            rw [Bool.and_eq_true] at g3
            obtain ⟨a1, a2, a3⟩ := isA_ok g1
            cases hy : ivO v.1 y with
            | none => simp only [hy] at g3; exact absurd g3.2 (by decide)
            | some p =>
              simp only [hy] at g3
              obtain ⟨g4, g5⟩ := g3
              rw [Bool.and_eq_true] at g5
              have hb := ivO_ok hG.2.1 hy
              refine ⟨⟨by rw [← hV.2.1]; exact a2, by rw [← hV.1]; exact a1, Nat.eq_of_beq_eq_true g2, a3⟩, dn0 g4, a1, hG.2.2.2.2.2.2.1.upI (fitI_ok (wrG_ok g5.1 _ zr1 zr2) hb.1 hb.2), loc_upI (gho_N hW a1) g4, fun h1 => ?_, fun h2 => ?_⟩
              · subst h1
                have g6 : (leI _ p.1 && leI p.2 _) = true := g5.2
                rw [Bool.and_eq_true, leI_iff, leI_iff] at g6
                exact ⟨by omega, by omega⟩
              · subst h2
                have g6 : (leI _ p.1 && leI p.2 _) = true := g5.2
                rw [Bool.and_eq_true, leI_iff, leI_iff] at g6
                omega
          match hb : b.toNat, hb2, hs with
          | 0, _, hs =>
            simp only [tI, hb] at hd
            have hs : cond (asCI M 0 q y v x.2.1) _ none = some L := hs
            cases hh : asCI M 0 q y v x.2.1 with
            | false => rw [hh] at hs; cases hs
            | true =>
              rw [hh] at hs
              obtain ⟨⟨i1, i2, i3, i4⟩, i5, i6, i7, i8, _, _⟩ := ints 0 hh
              rw [i5]
              exact x_iast C i2 i1 ((hV.2.2.2.1 _ (by rw [i1])).1 i3) i4 z0 z1 hd (fin i6 i7 (fun _ _ h => same_upI h) i8 hs)
          | 1, _, hs =>
            simp only [tI, hb] at hd
            have hs : cond (asCI M 1 q y v x.2.1) _ none = some L := hs
            cases hh : asCI M 1 q y v x.2.1 with
            | false => rw [hh] at hs; cases hs
            | true =>
              rw [hh] at hs
              obtain ⟨⟨i1, i2, i3, i4⟩, i5, i6, i7, i8, i9, _⟩ := ints 1 hh
              rw [i5]
              exact x_bast C i2 i1 ((hV.2.2.2.1 _ (by rw [i1])).2.1 i3) i4 z0 z1 (i9 rfl) hd (fin i6 i7 (fun _ _ h => same_upI h) i8 hs)
          | 2, _, hs =>
            simp only [tI, hb] at hd
            have hs : cond (asCI M 2 q y v x.2.1) _ none = some L := hs
            cases hh : asCI M 2 q y v x.2.1 with
            | false => rw [hh] at hs; cases hs
            | true =>
              rw [hh] at hs
              obtain ⟨⟨i1, i2, i3, i4⟩, i5, i6, i7, i8, _, i9⟩ := ints 2 hh
              rw [i5]
              exact x_zast C i2 i1 ((hV.2.2.2.1 _ (by rw [i1])).2.2 i3) i4 z0 z1 (i9 rfl) hd (fin i6 i7 (fun _ _ h => same_upI h) i8 hs)
          | 3, _, hs =>
            simp only [tI, hb] at hd
            have hs : cond (asCL M q y v x.2.1) _ none = some L := hs
            cases hh : asCL M q y v x.2.1 with
            | false => rw [hh] at hs; cases hs
            | true =>
              rw [hh] at hs
              obtain ⟨g1, g2, g3⟩ := and3 hh
              obtain ⟨a1, a2, a3⟩ := isA_ok g1
              cases hy : v.2.1[y.2.1]? with
              | none => simp only [hy] at g3; cases g3
              | some p =>
                simp only [hy] at g3
                have hb := hG.2.2.1 _ _ hy
                have i1 : wS w x.2.1 = (2, (vS (mV M) x.2.1).2.1, (vS (mV M) x.2.1).2.2) := by rw [← hV.2.1]; exact a2
                rw [dn1 g2]
                exact x_last C (by rw [← hV.1]; exact a1) i1 (hV.2.2.2.2.1 _ (by rw [i1])) a3 z0 z1 hd (fin a1 (hG.2.2.2.2.2.2.1.upL (fitI_ok (wrG_ok g3 _ zr1 zr2) hb.1 hb.2)) (fun _ _ h => same_upL h) (loc_upL (gho_N hW a1) g2) hs)
          | n + 4, h, _ => exact absurd (Nat.le_of_ble_eq_true h) (by omega)
theorem sLen_ok (C : CX E w cc nL own ret rm) {M : MS} (hV : WV (mV M) w) {lv : List (Nat × AV)} {st : List AV} {v : EV} {L : List SS} (hd : decode cc pc = .ok (.arraylength, 1)) (hG : Gm (mV M) G md X0 v g X) (hs : sLen M pc lv st v = some L) (K : ∀ s ∈ L, Kt E w nL (mV M) G md X0 v.1.length v.2.1.length g s) : Wx E w nL (PX w X) pc (dnL g lv) (dnS g st) := by
  match st, hs with
  | [], hs => cases hs
  | x :: st, hs =>
    unfold sLen at hs
    simp only at hs
    cases hc : (Nat.beq x.1 2 && (Nat.blt x.2.1 (vN (mV M)) && (Nat.blt 0 (vS (mV M) x.2.1).1 && Nat.ble (vS (mV M) x.2.1).1 3))) with
    | false => rw [hc] at hs; cases hs
    | true =>
      rw [hc] at hs
      cases hs
      obtain ⟨h1, h2, h3⟩ := and3 hc
      rw [Bool.and_eq_true] at h3
      have h4 := blt_lt h3.1
      have h5 := Nat.le_of_ble_eq_true h3.2
      show Wx E w nL (PX w X) pc (dnL g lv) (dn g x :: dnS g st)
      rw [dn2 h1]
      refine x_alen (kd := (vS (mV M) x.2.1).1 - 1) (q := (vS (mV M) x.2.1).2.1) (n := (vS (mV M) x.2.1).2.2) C (by rw [← hV.1]; exact blt_lt h2) ?_ (by omega) hd ?_
      · rw [← hV.2.1]
        rw [show (vS (mV M) x.2.1).1 - 1 + 1 = (vS (mV M) x.2.1).1 by omega]
      · have hK := k1 (K _ List.mem_cons_self) hG
        have h6 : Wx E w nL (PX w X) (pc + 1) (dnL g lv) (dn g (0, 0, ((vS (mV M) x.2.1).2.2 : Int)) :: dnS g st) := hK
        have e0 : dn g (0, 0, ((vS (mV M) x.2.1).2.2 : Int)) = .int (iI ((vS (mV M) x.2.1).2.2 : Int)) := by
          show Value.int (iI (g.1 0 + _)) = _
          rw [hG.1, Int.zero_add]
        rw [e0] at h6
        exact h6
end V8
