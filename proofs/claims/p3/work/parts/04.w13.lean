/-! ===== VSE 13: a checked method keeps its contract ===== -/
/-- what the walk's tables rest on -/
def SPok (MT : Nat → MD) (w : WT) (G : GT) (P : SP) (cc : ByteArray) (nL : Nat) (own : String) (ret : Option FieldType) : Prop :=
  WV (mV (pM P)) w ∧ WD (mV (pM P)) G ∧ WGi (mV (pM P)) G ∧ FKs (pM P) w own ∧ CNW own (pM P) ∧ mNL (pM P) = nL ∧
  (∀ q ∈ pCd P, decode cc q.1 = .ok (tI q.2)) ∧ (∀ q ∈ pCe P, CRl MT w own q.1 q.2) ∧ (∀ q ∈ pCt P, ∀ c ∈ q.2, CTR MT (mV (pM P)) G w c) ∧
  (∀ q ∈ pMt P, MKw own q.1 q.2) ∧ (match pRt P with
    | 0 => ret = none
    | 1 => ret = some .int
    | 2 => ret = some .boolean
    | 3 => ret = some .long
    | _ => ∃ S, ret = some (.object S))
section V13
variable {E : ET} {w : WT} {nL : Nat} {pc : Nat} {cc : ByteArray} {own : String} {ret : Option FieldType} {rm : Room} {V : VW} {G : GT} {md : List (Nat × Option Nat)} {X0 X : XT} {g : SG} {lvv : List (Nat × Value)} {stv : List Value} {MT : Nat → MD} {P : SP}
theorem tI20 {a b : Int} {ln pc0 : Nat} {sw : List (Int × Int)} {n : Nat} (hn : n = b.toNat) : tI (0, 0, 20, ((a.toNat : Nat) : Int), (n : Int), []) = tI (pc0, ln, 20, a, b, sw) := by
  cases n with
  | zero => simp only [tI, ← hn, Int.toNat_natCast]
  | succ n => simp only [tI, ← hn, Int.toNat_natCast]
theorem fsC_ok {ce : CE} {lv : List (Nat × AV)} {st : List AV} {v : EV} {L : List SS} {M : MS} : ∀ {cs : List CT}, fsC M ce pc lv st v cs = some L → ∃ c ∈ cs, (cAl c).all (gdW c) = true ∧ sCl M ce c pc lv st v = some L
  | [], h => by cases h
  | c :: t, h => by
    unfold fsC at h
    cases hg : (cAl c).all (gdW c) with
    | false =>
      rw [hg] at h
      obtain ⟨c', h1, h2⟩ := fsC_ok (cs := t) h
      exact ⟨c', List.mem_cons_of_mem _ h1, h2⟩
    | true =>
      rw [hg] at h
      cases hs : sCl M ce c pc lv st v with
      | none =>
        simp only [cond_true, hs] at h
        obtain ⟨c', h1, h2⟩ := fsC_ok (cs := t) h
        exact ⟨c', List.mem_cons_of_mem _ h1, h2⟩
      | some L' =>
        simp only [cond_true, hs] at h
        cases h
        exact ⟨c, List.mem_cons_self, hg, hs⟩
theorem stp_ok (C : CX E w cc nL own ret rm) (hP : SPok MT w G P cc nL own ret) (hR : rm.frames = mFr (pM P) ∧ rm.locals = mLo (pM P)) {e : IN} {lv : List (Nat × AV)} {st : List AV} {v : EV} {L : List SS} (hd : decode cc pc = .ok (tI e)) (hsc : scS (pc, lv, st, v) = true) (hG : Gm (mV (pM P)) G (mMd (pM P)) X0 v g X) (hs : stp P e pc lv st v = some L) (K : ∀ s ∈ L, Kt E w nL (mV (pM P)) G (mMd (pM P)) X0 v.1.length v.2.1.length g s) : Wx E w nL (PX w X) pc (dnL g lv) (dnS g st) := by
  obtain ⟨hV, hW, hI, hF, hC, hM, hcd, hce, hct, hmt, hrt⟩ := hP
  obtain ⟨pc0, ln, k, a, b, sw⟩ := e
  unfold stp at hs
  match k, hd, hs with
  | 0, hd, hs => exact sC_ok C hC hd hG hs K
  | 1, hd, hs => obtain ⟨ei, el, rr⟩ := v; exact sCL_ok C hC hd hsc hG hs K
  | 2, hd, hs => exact sLd_ok C hd hG hs K
  | 3, hd, hs => exact sSt_ok C hM hd hG hs K
  | 4, hd, hs => obtain ⟨ei, el, rr⟩ := v; exact sInc_ok C hM hd hsc hG hs K
  | 5, hd, hs => obtain ⟨ei, el, rr⟩ := v; exact sBin_ok C hd hsc hG hs K
  | 6, hd, hs => obtain ⟨ei, el, rr⟩ := v; exact sBinL_ok C hd hsc hG hs K
  | 7, hd, hs => obtain ⟨ei, el, rr⟩ := v; exact sShf_ok C hd hsc hG hs K
  | 8, hd, hs => obtain ⟨ei, el, rr⟩ := v; exact sUn_ok C hd hsc hG hs K
  | 9, hd, hs => obtain ⟨ei, el, rr⟩ := v; exact sMsc_ok C hd hsc hG hs K
  | 10, hd, hs => exact sGo_ok C hd hG hs K
  | 11, hd, hs => exact sNul_ok C hd hG hs K
  | 12, hd, hs => exact sIf_ok C hd hsc hG hs K
  | 13, hd, hs => exact sIc_ok C hd hsc hG hs K
  | 14, hd, hs => exact sGf_ok C hV hF hW.2.2 hd hsc hG hs K
  | 15, hd, hs => exact sPf_ok C hV hF hW hd hG hs K
  | 16, hd, hs =>
    cases hb : Nat.ble b.toNat 4 with
    | false => simp only [hb, cond_false] at hs; cases hs
    | true => simp only [hb, cond_true] at hs; exact sAl_ok C hV hW.2.2 hb hd hsc hG hs K
  | 17, hd, hs =>
    cases hb : Nat.ble b.toNat 3 with
    | false => simp only [hb, cond_false] at hs; cases hs
    | true => simp only [hb, cond_true] at hs; exact sAs_ok C hV hW hb hd hG hs K
  | 18, hd, hs => exact sLen_ok C hV hd hG hs K
  | 19, hd, hs => exact sSw_ok C hd hsc hG hs K
  | 20, hd, hs =>
    simp only at hs
    cases h1 : fnd (pCe P) a.toNat with
    | none => simp only [h1] at hs; cases hs
    | some ce =>
      cases h2 : fnd (pCt P) pc with
      | none => simp only [h1, h2] at hs; cases hs
      | some cs =>
        simp only [h1, h2] at hs
        cases h3 : Nat.beq ce.1 b.toNat with
        | false => simp only [h3, cond_false] at hs; cases hs
        | true =>
          simp only [h3, cond_true] at hs
          obtain ⟨c, c1, c2, c3⟩ := fsC_ok hs
          exact sCl_ok C hV hW hI hR (hce _ (fnd_mem h1)) (hct _ (fnd_mem h2) c c1) c2 (by rw [tI20 (pc0 := pc0) (ln := ln) (sw := sw) (Nat.eq_of_beq_eq_true h3)]; exact hd) hsc hG c3 K
  | 21, hd, hs =>
    simp only at hs
    cases h1 : fnd (pMt P) a.toNat with
    | none => simp only [h1] at hs; cases hs
    | some o =>
      simp only [h1] at hs
      cases h2 : Nat.ble o 1 with
      | false => simp only [h2, cond_false] at hs; cases hs
      | true => simp only [h2, cond_true] at hs; exact sMm_ok C hR h2 (hmt _ (fnd_mem h1)) hd hsc hG hs K
  | 22, hd, hs =>
    simp only at hs
    cases h1 : fnd (pMt P) a.toNat with
    | none => simp only [h1] at hs; cases hs
    | some o =>
      simp only [h1] at hs
      cases h2 : Nat.beq o 2 with
      | false => simp only [h2, cond_false] at hs; cases hs
      | true =>
        simp only [h2, cond_true] at hs
        have h3 := hmt _ (fnd_mem h1)
        have h4 : o = 2 := Nat.eq_of_beq_eq_true h2
        subst h4
        exact sCp_ok C hV hW hR h3 hd hG hs K
  | 23, _, hs => cases hs
  | 24, hd, hs => exact sTb_ok C hd hsc hG hs K
  | k + 25, _, hs => cases hs
theorem rtM_ok (C : CX E w cc nL own ret rm) (hP : SPok MT w G P cc nL own ret) {g0 : SG} (hE : EQ E w (altP (mV (pM P)) G (pC0 P) g0 X0)) (hn : 0 < (cEi (pC0 P)).length) (hx : Ext (cEi (pC0 P)).length (cEl (pC0 P)).length g0 g) {a b : Int} {ln pc0 : Nat} {sw : List (Int × Int)} {lv : List (Nat × AV)} {st : List AV} {v : EV} (hd : decode cc pc = .ok (tI (pc0, ln, 23, a, b, sw))) (hsc : scS (pc, lv, st, v) = true) (hG : Gm (mV (pM P)) G (cMd (pC0 P)) X0 v g X) (h : rtM P b.toNat st v = true) (hnI : (cEi (pC0 P)).length ≤ v.1.length) (hnG : (cEl (pC0 P)).length ≤ v.2.1.length) : Wx E w nL (PX w X) pc (dnL g lv) (dnS g st) := by
  obtain ⟨hV, hW, hI, hF, hC, hM, hcd, hce, hct, hmt, hrt⟩ := hP
  obtain ⟨ei, el, rr⟩ := v
  obtain ⟨c1, c2, c3, c4⟩ := sc4 hsc
  have al : ∀ {res : Option AV}, (∀ r, res = some r → scV ei.length el.length r = true) → (cAl (pC0 P)).any (altM (mV (pM P)) (cEi (pC0 P)).length (cEl (pC0 P)).length res (ei, el, rr)) = true → altP (mV (pM P)) G (pC0 P) g0 X0 (res.map (dn g)) X := by
    intro res hr h
    obtain ⟨q, hq, h1⟩ := List.any_eq_true.mp h
    exact altM_ok hW hI hq hn hx c4 c3 hr hG h1 hnI hnG
  unfold rtM at h
  match hb : b.toNat, st, h, c2 with
  | 0, [], h, _ =>
    simp only [tI, hb] at hd
    simp only at h
    rw [Bool.and_eq_true] at h
    have h1 := Nat.eq_of_beq_eq_true h.1
    rw [h1] at hrt
    have hrt : ret = none := hrt
    subst hrt
    exact x_vret C hE hd (al (fun r hr => by cases hr) h.2)
  | 1, [x], h, c2 =>
    simp only [tI, hb] at hd
    simp only at h
    obtain ⟨h1, h2, h3⟩ := and3 h
    have hx1 : scV ei.length el.length x = true := by
      have c2 : (scV ei.length el.length x && true) = true := c2
      rw [Bool.and_true] at c2
      exact c2
    have hq := al (res := some x) (fun r hr => by cases hr; exact hx1) h3
    show Wx E w nL (PX w X) pc (dnL g lv) [dn g x]
    have hq : altP (mV (pM P)) G (pC0 P) g0 X0 (some (dn g x)) X := hq
    rw [dn0 h1] at hq ⊢
    rw [Bool.or_eq_true] at h2
    rcases h2 with h2 | h2
    · rw [Nat.eq_of_beq_eq_true h2] at hrt
      have hrt : ret = some .int := hrt
      subst hrt
      exact x_iret C hE hd hq
    · rw [Bool.and_eq_true] at h2
      rw [Nat.eq_of_beq_eq_true h2.1] at hrt
      have hrt : ret = some .boolean := hrt
      subst hrt
      cases hi : ivO ei x with
      | none => rw [hi] at h2; exact absurd h2.2 Bool.false_ne_true
      | some q =>
        rw [hi] at h2
        have h4 : (leI 0 q.1 && leI q.2 1) = true := h2.2
        rw [Bool.and_eq_true, leI_iff, leI_iff] at h4
        have h5 := ivO_ok hG.2.1 hi
        exact x_zret C hE (by omega) hd hq
  | 2, [x], h, c2 =>
    simp only [tI, hb] at hd
    simp only at h
    obtain ⟨h1, h2, h3⟩ := and3 h
    have hx1 : scV ei.length el.length x = true := by
      have c2 : (scV ei.length el.length x && true) = true := c2
      rw [Bool.and_true] at c2
      exact c2
    have hq := al (res := some x) (fun r hr => by cases hr; exact hx1) h3
    show Wx E w nL (PX w X) pc (dnL g lv) [dn g x]
    have hq : altP (mV (pM P)) G (pC0 P) g0 X0 (some (dn g x)) X := hq
    rw [dn1 h1] at hq ⊢
    rw [Nat.eq_of_beq_eq_true h2] at hrt
    have hrt : ret = some .long := hrt
    subst hrt
    exact x_lret C hE hd hq
  | 3, [x], h, c2 =>
    simp only [tI, hb] at hd
    simp only at h
    obtain ⟨h1, h2, h3⟩ := and3 h
    have hx1 : scV ei.length el.length x = true := by
      have c2 : (scV ei.length el.length x && true) = true := c2
      rw [Bool.and_true] at c2
      exact c2
    have hq := al (res := some x) (fun r hr => by cases hr; exact hx1) h3
    show Wx E w nL (PX w X) pc (dnL g lv) [dn g x]
    have hq : altP (mV (pM P)) G (pC0 P) g0 X0 (some (dn g x)) X := hq
    rw [Nat.eq_of_beq_eq_true h2] at hrt
    obtain ⟨S, hrt⟩ := (hrt : ∃ S, ret = some (.object S))
    subst hrt
    unfold isRf at h1
    rw [Bool.or_eq_true] at h1
    rcases h1 with h1 | h1
    · rw [dn2 h1] at hq ⊢
      exact x_aret (r := some x.2.1) C hE hd hq
    · rw [dn3 h1] at hq ⊢
      exact x_aret (r := none) C hE hd hq
theorem sx_ok (C : CX E w cc nL own ret rm) (hP : SPok MT w G P cc nL own ret) (hR : rm.frames = mFr (pM P) ∧ rm.locals = mLo (pM P)) (hmd : mMd (pM P) = cMd (pC0 P)) {g0 gB : SG} (hE : EQ E w (altP (mV (pM P)) G (pC0 P) g0 X0)) (hn : 0 < (cEi (pC0 P)).length) {nB nG : Nat} (hB : Ext (cEi (pC0 P)).length (cEl (pC0 P)).length g0 gB) (hnB : (cEi (pC0 P)).length ≤ nB) (hnG : (cEl (pC0 P)).length ≤ nG) {bnd : Option ME} (hb : ∀ m, bnd = some m → m.1.all (fun q => Nat.beq q.2.1 0 && Nat.blt q.2.2.1 nB) = true)
    (hlab : ∀ pc l, (pc, l) ∈ pLb P → ∀ B ∈ l, ∀ g1 X1, Ext (cEi (pC0 P)).length (cEl (pC0 P)).length g0 g1 → Gm (mV (pM P)) G (mMd (pM P)) X0 (bEi B, bEl B, bDl B, [], bGd B) g1 X1 → (∀ m, bnd = some m → mvl g1 (bMe B) < mvl gB m) → Wx E w nL (PX w X1) pc (dnL g1 (bLv B)) (dnS g1 (bSt B))) :
    ∀ (n : Nat) (en : Bool) (s : SS), sx P nB nG bnd n en s = true → ∀ g X, Ext nB nG gB g → Gm (mV (pM P)) G (mMd (pM P)) X0 s.2.2.2 g X → Wx E w nL (PX w X) s.1 (dnL g s.2.1) (dnS g s.2.2.1) := by
  intro n
  induction n with
  | zero => intro en s h; cases h
  | succ n ih =>
    intro en s h g X hg hG
    have h : sxB P nB nG bnd (sx P nB nG bnd n) en s = true := h
    unfold sxB at h
    obtain ⟨h1, h2, h3⟩ := and3 h
    rw [Bool.and_eq_true] at h3
    obtain ⟨h3, h4⟩ := h3
    have h2 := Nat.le_of_ble_eq_true h2
    have h3 := Nat.le_of_ble_eq_true h3
    obtain ⟨pc, lv, st, ei, el, rr⟩ := s
    obtain ⟨c1, c2, c3, c4⟩ := sc4 h1
    have hg0 : Ext (cEi (pC0 P)).length (cEl (pC0 P)).length g0 g := hB.tr hg hnB hnG
    have hnI' : (cEi (pC0 P)).length ≤ ei.length := Nat.le_trans hnB h2
    have hnG' : (cEl (pC0 P)).length ≤ el.length := Nat.le_trans hnG h3
    -- the rest of the walk from a later state
    have next : ∀ {en : Bool} {L : List SS}, L.all (sx P nB nG bnd n en) = true → ∀ s ∈ L, Kt E w nL (mV (pM P)) G (mMd (pM P)) X0 ei.length el.length g s := by
      intro en L hL s hs g' X' hx hG'
      exact ih en s (List.all_eq_true.mp hL s hs) g' X' (hg.tr hx h2 h3) hG'
    rw [Bool.or_eq_true] at h4
    rcases h4 with h4 | h4
    · cases en with
      | true => cases h4
      | false =>
        unfold lbO at h4
        simp only [cond_false] at h4
        cases hl : fnd (pLb P) pc with
        | none => rw [hl] at h4; cases h4
        | some l =>
          rw [hl] at h4
          simp only at h4
          obtain ⟨B, hBm, h5⟩ := List.any_eq_true.mp h4
          refine lbM_ok hP.2.1 hP.2.2.1 hn c4 c1 c2 c3 hG h5 (fun m hm => List.all_eq_true.mpr (fun q hq => ?_)) hnI' hnG' (fun g1 e1 e2 e3 => hlab pc l (fnd_mem hl) B hBm g1 X (hg0.tr e1 (Nat.le_refl _) (Nat.le_refl _)) e2 (fun m hm => ?_))
          · have h6 := List.all_eq_true.mp (hb m hm) q hq
            rw [Bool.and_eq_true] at h6
            rw [h6.1, blt_le h6.2 h2]
            rfl
          · have h7 := e3 m hm
            have h8 : mvl g m = mvl gB m := by
              show mvT g m.1 + m.2 = mvT gB m.1 + m.2
              rw [mvT_sc hg (hb m hm)]
            rw [h8] at h7
            exact h7
    · unfold fiO at h4
      cases hf : fkO P (pc, lv, st, ei, el, rr) with
      | some L =>
        rw [hf] at h4
        simp only at h4
        unfold fkO at hf
        cases hk : fnd (pFk P) pc with
        | none => simp only [hk] at hf; cases hf
        | some f =>
          simp only [hk] at hf
          exact fkL_ok hP.2.1 hP.2.2.1 h1 hG hf (next h4)
      | none =>
        rw [hf] at h4
        simp only at h4
        unfold inO at h4
        cases hc : fnd (pCd P) pc with
        | none => simp only [hc] at h4; cases h4
        | some e =>
          simp only [hc] at h4
          have hd := hP.2.2.2.2.2.2.1 _ (fnd_mem hc)
          obtain ⟨pc0, ln, k, a, b, sw⟩ := e
          have hd : decode cc pc = .ok (tI (pc0, ln, k, a, b, sw)) := hd
          unfold inE at h4
          cases hk : Nat.beq k 23 with
          | true =>
            simp only [hk, cond_true] at h4
            have hk := Nat.eq_of_beq_eq_true hk
            subst hk
            exact rtM_ok C hP hE hn hg0 hd h1 (by rw [← hmd]; exact hG) h4 hnI' hnG'
          | false =>
            simp only [hk, cond_false] at h4
            cases hs : stp P (pc0, ln, k, a, b, sw) pc lv st (ei, el, rr) with
            | none => rw [hs] at h4; cases h4
            | some L =>
              rw [hs] at h4
              exact stp_ok C hP hR hd h1 hG hs (next (en := false) h4)
theorem alvA_dn (g : SG) : ∀ (l : List AV) (i : Nat), lv_args i (l.map (dn g)) = dnL g (alvA i l)
  | [], _ => rfl
  | a :: t, i => by
    show (i, dn g a) :: lv_args (if (dn g a).category = 2 then i + 2 else i + 1) (t.map (dn g)) = (i, dn g a) :: dnL g (alvA (cond (Nat.beq a.1 1) (i + 2) (i + 1)) t)
    have hc : (if (dn g a).category = 2 then i + 2 else i + 1) = cond (Nat.beq a.1 1) (i + 2) (i + 1) := by
      rw [catA_dn]
      unfold catA
      cases Nat.beq a.1 1 <;> rfl
    rw [hc, alvA_dn g t]
def wdA (l : List AV) : Nat := (l.map catA).sum
theorem wdA_ok (g : SG) : ∀ l : List AV, (lg_sl (l.map (dn g))).length = wdA l
  | [] => rfl
  | a :: t => by
    show ((if (dn g a).category = 2 then [Slot.val (dn g a), .second] else [Slot.val (dn g a)]) ++ lg_sl (t.map (dn g))).length = catA a + wdA t
    rw [List.length_append, wdA_ok g t, catA_dn]
    unfold catA
    cases Nat.beq a.1 1 <;> rfl
theorem mth_ok {w : WT} {G : GT} {P : SP} {F : Nat} {own : String} (h : chk P F = true) (hP : SPok MT w G P (MT (cId (pC0 P))).2.1 (MT (cId (pC0 P))).2.2.1 own (MT (cId (pC0 P))).2.2.2) (hr : cFr (pC0 P) = mFr (pM P) ∧ cLo (pC0 P) = mLo (pM P)) (hy : plainName (MT (cId (pC0 P))).1.cls = true) (hown : (MT (cId (pC0 P))).1.cls = own) (hw : Nat.ble (wdA (cAr (pC0 P))) (mNL (pM P)) = true) : CTR MT (mV (pM P)) G w (pC0 P) := by
  unfold chk at h
  obtain ⟨h1, h2, h3⟩ := and3 h
  rw [Bool.and_eq_true] at h3
  have hn := blt_lt h3.1
  have hmd : mMd (pM P) = cMd (pC0 P) := eq_of_beq h3.2
  intro g0 X0 hpre
  refine MetX.mk hy hown (by rw [wdA_ok, ← hP.2.2.2.2.2.1]; exact Nat.le_of_ble_eq_true hw) (fun E C hE => ?_)
  have hG0 : Gm (mV (pM P)) G (mMd (pM P)) X0 (cEi (pC0 P), cEl (pC0 P), cPr (pC0 P), [], []) g0 X0 := ⟨hpre.1, hpre.2.1, hpre.2.2.1, hpre.2.2.2.1, (fun q hq => by cases hq), (fun q hq => by cases hq), hpre.2.2.2.2.1, hpre.2.2.2.2.2, fun _ _ _ => sameAt.rf⟩
  have hR : (({ frames := cFr (pC0 P), cells := 0, slots := 0, locals := cLo (pC0 P) } : Room).frames = mFr (pM P) ∧ ({ frames := cFr (pC0 P), cells := 0, slots := 0, locals := cLo (pC0 P) } : Room).locals = mLo (pM P)) := hr
  have lab : ∀ N : Nat, ∀ pc l, (pc, l) ∈ pLb P → ∀ B ∈ l, ∀ g1 X1, Ext (cEi (pC0 P)).length (cEl (pC0 P)).length g0 g1 → Gm (mV (pM P)) G (mMd (pM P)) X0 (bEi B, bEl B, bDl B, [], bGd B) g1 X1 → mvl g1 (bMe B) < (N : Int) → Wx E w (MT (cId (pC0 P))).2.2.1 (PX w X1) pc (dnL g1 (bLv B)) (dnS g1 (bSt B)) := by
    intro N
    induction N with
    | zero =>
      intro pc l hl B hB g1 X1 hx hG hm
      obtain ⟨_, _, a3⟩ := and3 (List.all_eq_true.mp (List.all_eq_true.mp h2 (pc, l) hl) B hB)
      obtain ⟨a3, a4, _⟩ := and3 a3
      have h4 := ubB_ok hG.2.1 a4
      rw [mvT_ng] at h4
      have h5 : mvl g1 (bMe B) = mvT g1 (bMe B).1 + (bMe B).2 := rfl
      omega
    | succ N ih =>
      intro pc l hl B hB g1 X1 hx hG hm
      obtain ⟨a1, a2, a3⟩ := and3 (List.all_eq_true.mp (List.all_eq_true.mp h2 (pc, l) hl) B hB)
      obtain ⟨a3, a4, a5⟩ := and3 a3
      exact sx_ok C hP hR hmd hE hn (gB := g1) hx (Nat.le_of_ble_eq_true a1) (Nat.le_of_ble_eq_true a2) (bnd := some (bMe B)) (fun m hm => by cases hm; exact a3) (fun pc' l' hl' B' hB' g2 X2 hx2 hG2 hm2 => ih pc' l' hl' B' hB' g2 X2 hx2 hG2 (by have := hm2 _ rfl; omega)) F true (pc, bLv B, bSt B, (bEi B, bEl B, bDl B, [], bGd B)) a5 g1 X1 Ext.rf hG
  rw [alvA_dn]
  exact sx_ok C hP hR hmd hE hn (gB := g0) Ext.rf (Nat.le_refl _) (Nat.le_refl _) (bnd := none) (fun m hm => by cases hm) (fun pc l hl B hB g1 X1 hx hG _ => lab ((mvl g1 (bMe B)).toNat + 1) pc l hl B hB g1 X1 hx hG (by omega)) F false (0, alvA 0 (cAr (pC0 P)), [], (cEi (pC0 P), cEl (pC0 P), cPr (pC0 P), [], [])) h1 g0 X0 Ext.rf hG0
end V13
