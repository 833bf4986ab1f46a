/-! ===== VSE 4: instructions as data, constants, locals, arithmetic ===== -/
/-- pc, length (of a switch), kind, two numbers, a switch's pairs -/
abbrev IN : Type := Nat × Nat × Nat × Int × Int × List (Int × Int)
/-- pc, locals, stack, what is known -/
abbrev SS : Type := Nat × List (Nat × AV) × List AV × EV
/-- the world's data, fields by number (class, slots, place, kind, type), ints' and longs' constants by number, places that may be written, how many locals, frames and words of locals that the calls have -/
abbrev MS : Type := VW × List (Nat × (Nat × Nat × Nat × Nat × Nat)) × List (Nat × Int) × List (Nat × Int) × List (Nat × Option Nat) × Nat × Nat × Nat
abbrev mV (M : MS) : VW := M.1
abbrev mF (M : MS) : List (Nat × (Nat × Nat × Nat × Nat × Nat)) := M.2.1
abbrev mC (M : MS) : List (Nat × Int) := M.2.2.1
abbrev mCL (M : MS) : List (Nat × Int) := M.2.2.2.1
abbrev mMd (M : MS) : List (Nat × Option Nat) := M.2.2.2.2.1
abbrev mNL (M : MS) : Nat := M.2.2.2.2.2.1
abbrev mFr (M : MS) : Nat := M.2.2.2.2.2.2.1
abbrev mLo (M : MS) : Nat := M.2.2.2.2.2.2.2
def fnd {α : Type} : List (Nat × α) → Nat → Option α
  | [], _ => none
  | (j, v) :: t, i => cond (Nat.beq j i) (some v) (fnd t i)
theorem fnd_mem {α : Type} : ∀ {l : List (Nat × α)} {i : Nat} {v : α}, fnd l i = some v → (i, v) ∈ l
  | [], _, _, h => by cases h
  | (j, u) :: t, i, v, h => by
    unfold fnd at h
    cases hb : Nat.beq j i with
    | true =>
      rw [hb] at h
      have := Nat.eq_of_beq_eq_true hb
      subst this
      cases h
      exact List.mem_cons_self
    | false =>
      rw [hb] at h
      exact List.mem_cons_of_mem _ (fnd_mem h)
def binI (o : Nat) : Instr := match o with
  | 0 => .iadd
  | 1 => .isub
  | 2 => .imul
  | 3 => .idiv
  | 4 => .irem
  | 6 => .iand
  | 7 => .ior
  | 8 => .ixor
  | 9 => .ishl
  | 10 => .ishr
  | 11 => .iushr
  | _ => .nop
def binL (o : Nat) : Instr := match o with
  | 0 => .ladd
  | 1 => .lsub
  | 2 => .lmul
  | 3 => .land
  | 4 => .lor
  | 5 => .lxor
  | _ => .nop
def shfL (o : Nat) : Instr := match o with
  | 0 => .lshl
  | 1 => .lshr
  | 2 => .lushr
  | _ => .nop
def unI (o : Nat) : Instr := match o with
  | 0 => .ineg
  | 1 => .i2b
  | 2 => .i2c
  | _ => .nop
def fin4 (a : Nat) : Fin 4 := ⟨a % 4, Nat.mod_lt _ (by decide)⟩
def fin2 (a : Nat) : Fin 2 := ⟨a % 2, Nat.mod_lt _ (by decide)⟩
def condI (r : Nat) : ClassFile.Cond := match r with
  | 0 => .eq
  | 1 => .ne
  | 2 => .lt
  | 3 => .ge
  | 4 => .gt
  | _ => .le
/-- the instruction that is meant -/
def tI (e : IN) : Instr × Nat := match e with
  | (_, ln, k, a, b, sw) => match k, b.toNat with
    | 0, 0 => (.iconst a, 1)
    | 0, 1 => (.bipush a, 2)
    | 0, 2 => (.sipush a, 3)
    | 0, 3 => (.ldc ln, 2)
    | 0, _ => (.ldc_w ln, 3)
    | 1, 0 => (.lconst (fin2 a.toNat), 1)
    | 1, _ => (.ldc2_w ln, 3)
    | 2, 0 => (.iload_n (fin4 a.toNat), 1)
    | 2, 1 => (.iload a.toNat, 2)
    | 2, 2 => (.lload_n (fin4 a.toNat), 1)
    | 2, 3 => (.lload a.toNat, 2)
    | 2, 4 => (.aload_n (fin4 a.toNat), 1)
    | 2, _ => (.aload a.toNat, 2)
    | 3, 0 => (.istore_n (fin4 a.toNat), 1)
    | 3, 1 => (.istore a.toNat, 2)
    | 3, 2 => (.lstore_n (fin4 a.toNat), 1)
    | 3, 3 => (.lstore a.toNat, 2)
    | 3, 4 => (.astore_n (fin4 a.toNat), 1)
    | 3, _ => (.astore a.toNat, 2)
    | 4, _ => (.iinc a.toNat b, 3)
    | 5, o => (binI o, 1)
    | 6, o => (binL o, 1)
    | 7, o => (shfL o, 1)
    | 8, o => (unI o, 1)
    | 9, 0 => (.i2l, 1)
    | 9, 1 => (.l2i, 1)
    | 9, 2 => (.lcmp, 1)
    | 9, 3 => (.dup, 1)
    | 9, 4 => (.dup2, 1)
    | 9, 5 => (.pop, 1)
    | 9, _ => (.aconst_null, 1)
    | 10, _ => (.goto a, 3)
    | 11, 0 => (.ifnull a, 3)
    | 11, _ => (.ifnonnull a, 3)
    | 12, r => (.ifCond (condI r) a, 3)
    | 13, r => (.if_icmp (condI r) a, 3)
    | 14, _ => (.getfield a.toNat, 3)
    | 15, _ => (.putfield a.toNat, 3)
    | 16, 0 => (.iaload, 1)
    | 16, 1 => (.baload, 1)
    | 16, 2 => (.baload, 1)
    | 16, 3 => (.laload, 1)
    | 16, _ => (.aaload, 1)
    | 17, 0 => (.iastore, 1)
    | 17, 1 => (.bastore, 1)
    | 17, 2 => (.bastore, 1)
    | 17, _ => (.lastore, 1)
    | 18, _ => (.arraylength, 1)
    | 19, _ => (.lookupswitch a sw.toArray, ln)
    | 20, 0 => (.invokevirtual a.toNat, 3)
    | 20, _ => (.invokestatic a.toNat, 3)
    | 21, _ => (.invokestatic a.toNat, 3)
    | 22, _ => (.invokestatic a.toNat, 3)
    | 23, 0 => (.return_, 1)
    | 23, 1 => (.ireturn, 1)
    | 23, 2 => (.lreturn, 1)
    | 23, _ => (.areturn, 1)
    | 24, _ => (.tableswitch a b (b + (sw.length : Int) - 1) (sw.map (fun q => q.2)).toArray, ln)
    | _, _ => (.nop, 0)
def o1 (s : SS) : Option (List SS) := some [s]
def scS (s : SS) : Bool := s.2.1.all (fun q => scV s.2.2.2.1.length s.2.2.2.2.1.length q.2) && (s.2.2.1.all (scV s.2.2.2.1.length s.2.2.2.2.1.length) && (scE s.2.2.2 && Nat.blt 0 s.2.2.2.1.length))
def Kt (E : ET) (w : WT) (nL : Nat) (V : VW) (G : GT) (md : List (Nat × Option Nat)) (X0 : XT) (nI nG : Nat) (g : SG) (s : SS) : Prop := ∀ g' X', Ext nI nG g g' → Gm V G md X0 s.2.2.2 g' X' → Wx E w nL (PX w X') s.1 (dnL g' s.2.1) (dnS g' s.2.2.1)
section V4
variable {E : ET} {w : WT} {nL : Nat} {PH : Heap → Prop} {pc : Nat} {cc : ByteArray} {own : String} {ret : Option FieldType} {rm : Room} {V : VW} {G : GT} {md : List (Nat × Option Nat)} {X0 X : XT} {g : SG}
theorem sc4 {lv : List (Nat × AV)} {st : List AV} {ei el : List IV} {r : DLT × List (Nat × Nat × Nat) × List (AV × AV)} {pc : Nat} (h : scS (pc, lv, st, (ei, el, r)) = true) : lv.all (fun q => scV ei.length el.length q.2) = true ∧ st.all (scV ei.length el.length) = true ∧ scE (ei, el, r) = true ∧ 0 < ei.length := by
  obtain ⟨a, b, c⟩ := and3 h
  rw [Bool.and_eq_true] at c
  exact ⟨a, b, c.1, blt_lt c.2⟩
theorem k1 {nI nG : Nat} {s : SS} (K : Kt E w nL V G md X0 nI nG g s) (h : Gm V G md X0 s.2.2.2 g X) : Wx E w nL (PX w X) s.1 (dnL g s.2.1) (dnS g s.2.2.1) := K g X Ext.rf h
theorem kI {lv : List (Nat × AV)} {st : List AV} {ei el : List IV} {r : DLT × List (Nat × Nat × Nat) × List (AV × AV)} {q : IV} (K : Kt E w nL V G md X0 ei.length el.length g (pc, lv, (0, ei.length, 0) :: st, (ei ++ [q], el, r))) (hl : lv.all (fun q => scV ei.length el.length q.2) = true) (ht : st.all (scV ei.length el.length) = true) (hs : scE (ei, el, r) = true) (hp : 0 < ei.length) (h : Gm V G md X0 (ei, el, r) g X) {x : Int32} (hx : q.1 ≤ x.toInt ∧ x.toInt ≤ q.2) : Wx E w nL (PX w X) pc (dnL g lv) (.int x :: dnS g st) := by
  obtain ⟨dl, lk, gd⟩ := r
  obtain ⟨g', e1, e2, e3⟩ := newI hs h hp hx.1 hx.2
  have := K g' X e1 e3
  have e4 : dnS g' ((0, ei.length, 0) :: st) = .int x :: dnS g st := by
    show dn g' (0, ei.length, 0) :: dnS g' st = _
    rw [e1.vS ht]
    congr 1
    show Value.int (iI (g'.1 ei.length + 0)) = _
    rw [e2, Int.add_zero, iI_of]
  have e5 : dnL g' lv = dnL g lv := e1.vL hl
  have h2 : Wx E w nL (PX w X) pc (dnL g' lv) (dnS g' ((0, ei.length, 0) :: st)) := this
  rw [e4, e5] at h2
  exact h2
theorem kL {lv : List (Nat × AV)} {st : List AV} {ei el : List IV} {r : DLT × List (Nat × Nat × Nat) × List (AV × AV)} {q : IV} (K : Kt E w nL V G md X0 ei.length el.length g (pc, lv, (1, el.length, 0) :: st, (ei, el ++ [q], r))) (hl : lv.all (fun q => scV ei.length el.length q.2) = true) (ht : st.all (scV ei.length el.length) = true) (hs : scE (ei, el, r) = true) (h : Gm V G md X0 (ei, el, r) g X) {x : Int64} (hx : q.1 ≤ x.toInt ∧ x.toInt ≤ q.2) : Wx E w nL (PX w X) pc (dnL g lv) (.long x :: dnS g st) := by
  obtain ⟨dl, lk, gd⟩ := r
  obtain ⟨g', e1, e2, e3⟩ := newL hs h hx.1 hx.2
  have := K g' X e1 e3
  have e4 : dnS g' ((1, el.length, 0) :: st) = .long x :: dnS g st := by
    show dn g' (1, el.length, 0) :: dnS g' st = _
    rw [e1.vS ht]
    congr 1
    show Value.long (g'.2 el.length) = _
    rw [e2]
  have e5 : dnL g' lv = dnL g lv := e1.vL hl
  have h2 : Wx E w nL (PX w X) pc (dnL g' lv) (dnS g' ((1, el.length, 0) :: st)) := this
  rw [e4, e5] at h2
  exact h2
theorem dn0 {a : AV} (h : Nat.beq a.1 0 = true) : dn g a = .int (iI (dI g a)) := by
  obtain ⟨t, b, c⟩ := a
  have := Nat.eq_of_beq_eq_true h
  have h0 : t = 0 := this
  subst h0
  rfl
theorem dn1 {a : AV} (h : Nat.beq a.1 1 = true) : dn g a = .long (g.2 a.2.1) := by
  obtain ⟨t, b, c⟩ := a
  have := Nat.eq_of_beq_eq_true h
  have h0 : t = 1 := this
  subst h0
  rfl
theorem dn2 {a : AV} (h : Nat.beq a.1 2 = true) : dn g a = .ref a.2.1 := by
  obtain ⟨t, b, c⟩ := a
  have := Nat.eq_of_beq_eq_true h
  have h0 : t = 2 := this
  subst h0
  rfl
theorem dn3 {a : AV} (h : Nat.beq a.1 3 = true) : dn g a = .null := by
  obtain ⟨t, b, c⟩ := a
  have := Nat.eq_of_beq_eq_true h
  have h0 : t = 3 := this
  subst h0
  rfl
theorem x_ldcw {lvv : List (Nat × Value)} {stv : List Value} (C : CX E w cc nL own ret rm) {idx : Nat} {z : Int} (hd : decode cc pc = .ok (.ldc_w idx, 3)) (hc : Cond.constant own idx (iI z) ∈ lw_g) (kk : Wx E w nL PH (pc + 3) lvv (.int (iI z) :: stv)) : Wx E w nL PH pc lvv stv := by
  obtain ⟨p, l, e, R, s, m, args, below, meth, c, A0, k0, n0, QQ⟩ := E
  intro H locs ls hP hS hl
  exact lv_ldcw C.1 C.2.1 C.2.2.2.1 (C.2.2.2.2.1 _ hc) hd (kk H locs ls hP hS hl)
/-! constants -/
def sC (M : MS) (e : IN) (pc : Nat) (lv : List (Nat × AV)) (st : List AV) (v : EV) : Option (List SS) := match e with
  | (_, ln, _, a, b, _) => match b.toNat with
    | 0 => o1 (pc + 1, lv, (0, 0, a) :: st, v)
    | 1 => cond (leI (-128) a && leI a 127) (o1 (pc + 2, lv, (0, 0, a) :: st, v)) none
    | 2 => cond (leI (-32768) a && leI a 32767) (o1 (pc + 3, lv, (0, 0, a) :: st, v)) none
    | 3 => match fnd (mC M) ln with
      | some n => cond (decide (n = a)) (o1 (pc + 2, lv, (0, 0, a) :: st, v)) none
      | none => none
    | _ => match fnd (mC M) ln with
      | some n => cond (decide (n = a)) (o1 (pc + 3, lv, (0, 0, a) :: st, v)) none
      | none => none
def sCL (M : MS) (e : IN) (pc : Nat) (lv : List (Nat × AV)) (st : List AV) (v : EV) : Option (List SS) := match e with
  | (_, ln, _, a, b, _) => match b.toNat with
    | 0 => cond (leI 0 a && leI a 1) (o1 (pc + 1, lv, (1, v.2.1.length, 0) :: st, (v.1, v.2.1 ++ [(a, a)], v.2.2))) none
    | _ => match fnd (mCL M) ln with
      | some n => cond (decide (n = a) && (leI fullL.1 a && leI a fullL.2)) (o1 (pc + 3, lv, (1, v.2.1.length, 0) :: st, (v.1, v.2.1 ++ [(a, a)], v.2.2))) none
      | none => none
def CNW (own : String) (M : MS) : Prop := (∀ q ∈ mC M, Cond.constant own q.1 (iI q.2) ∈ lw_g) ∧ ∀ q ∈ mCL M, Cond.constantLong own q.1 (Int64.ofInt q.2) ∈ lw_g
theorem sC_ok (C : CX E w cc nL own ret rm) {M : MS} (hC : CNW own M) {a b : Int} {ln pc0 : Nat} {sw : List (Int × Int)} {lv : List (Nat × AV)} {st : List AV} {v : EV} {L : List SS} (hd : decode cc pc = .ok (tI (pc0, ln, 0, a, b, sw))) (hG : Gm V G md X0 v g X) (hs : sC M (pc0, ln, 0, a, b, sw) pc lv st v = some L) (K : ∀ s ∈ L, Kt E w nL V G md X0 v.1.length v.2.1.length g s) : Wx E w nL (PX w X) pc (dnL g lv) (dnS g st) := by
  have e0 : dn g (0, 0, a) = .int (iI a) := by
    show Value.int (iI (g.1 0 + a)) = _
    rw [hG.1, Int.zero_add]
  unfold sC at hs
  have fin : ∀ n, (o1 (pc + n, lv, (0, 0, a) :: st, v) = some L) → Wx E w nL (PX w X) (pc + n) (dnL g lv) (.int (iI a) :: dnS g st) := by
    intro n h
    cases h
    have h2 := k1 (K _ List.mem_cons_self) hG
    have h3 : Wx E w nL (PX w X) (pc + n) (dnL g lv) (dn g (0, 0, a) :: dnS g st) := h2
    rw [e0] at h3
    exact h3
  match hb : b.toNat with
  | 0 =>
    simp only [hb] at hs
    simp only [tI, hb] at hd
    exact x_iconst C hd (fin 1 hs)
  | 1 =>
    simp only [hb] at hs
    simp only [tI, hb] at hd
    cases hc : (leI (-128) a && leI a 127) with
    | false => rw [hc] at hs; cases hs
    | true =>
      rw [hc] at hs
      rw [Bool.and_eq_true, leI_iff, leI_iff] at hc
      exact x_bipush C hd hc (fin 2 hs)
  | 2 =>
    simp only [hb] at hs
    simp only [tI, hb] at hd
    cases hc : (leI (-32768) a && leI a 32767) with
    | false => rw [hc] at hs; cases hs
    | true =>
      rw [hc] at hs
      rw [Bool.and_eq_true, leI_iff, leI_iff] at hc
      exact x_sipush C hd hc (fin 3 hs)
  | 3 =>
    simp only [hb] at hs
    simp only [tI, hb] at hd
    cases hf : fnd (mC M) ln with
    | none => rw [hf] at hs; cases hs
    | some n =>
      rw [hf] at hs
      by_cases hn : n = a
      · subst hn
        simp only [decide_true, cond_true] at hs
        exact x_ldc C hd (hC.1 _ (fnd_mem hf)) (fin 2 hs)
      · simp only [decide_eq_false hn, cond_false] at hs
        cases hs
  | k + 4 =>
    simp only [hb] at hs
    simp only [tI, hb] at hd
    cases hf : fnd (mC M) ln with
    | none => rw [hf] at hs; cases hs
    | some n =>
      rw [hf] at hs
      by_cases hn : n = a
      · subst hn
        simp only [decide_true, cond_true] at hs
        exact x_ldcw C hd (hC.1 _ (fnd_mem hf)) (fin 3 hs)
      · simp only [decide_eq_false hn, cond_false] at hs
        cases hs
theorem i64_of {a : Int} (h1 : fullL.1 ≤ a) (h2 : a ≤ fullL.2) : (Int64.ofInt a).toInt = a := Int64.toInt_ofInt_of_le (by have : -9223372036854775808 ≤ a := h1; omega) (by have : a ≤ 9223372036854775807 := h2; omega)
theorem sCL_ok (C : CX E w cc nL own ret rm) {M : MS} (hC : CNW own M) {a b : Int} {ln pc0 : Nat} {sw : List (Int × Int)} {lv : List (Nat × AV)} {st : List AV} {ei el : List IV} {r : DLT × List (Nat × Nat × Nat) × List (AV × AV)} {L : List SS} (hd : decode cc pc = .ok (tI (pc0, ln, 1, a, b, sw))) (hsc : scS (pc, lv, st, (ei, el, r)) = true) (hG : Gm V G md X0 (ei, el, r) g X) (hs : sCL M (pc0, ln, 1, a, b, sw) pc lv st (ei, el, r) = some L) (K : ∀ s ∈ L, Kt E w nL V G md X0 ei.length el.length g s) : Wx E w nL (PX w X) pc (dnL g lv) (dnS g st) := by
  obtain ⟨c1, c2, c3, c4⟩ := sc4 hsc
  unfold sCL at hs
  match hb : b.toNat with
  | 0 =>
    simp only [hb] at hs
    simp only [tI, hb] at hd
    cases hc : (leI 0 a && leI a 1) with
    | false => rw [hc] at hs; cases hs
    | true =>
      rw [hc] at hs
      rw [Bool.and_eq_true, leI_iff, leI_iff] at hc
      cases hs
      refine x_lconst C hd (kL (K _ List.mem_cons_self) c1 c2 c3 hG ?_)
      have h01 : a = 0 ∨ a = 1 := by omega
      rcases h01 with rfl | rfl
      · exact ⟨by decide, by decide⟩
      · exact ⟨by decide, by decide⟩
  | n + 1 =>
    simp only [hb] at hs
    simp only [tI, hb] at hd
    cases hf : fnd (mCL M) ln with
    | none => rw [hf] at hs; cases hs
    | some n =>
      rw [hf] at hs
      cases hc : (decide (n = a) && (leI fullL.1 a && leI a fullL.2)) with
      | false => simp only [hc, cond_false] at hs; cases hs
      | true =>
        simp only [hc, cond_true] at hs
        obtain ⟨h1, h2, h3⟩ := and3 hc
        rw [leI_iff] at h2 h3
        have h1 := of_decide_eq_true h1
        subst h1
        cases hs
        refine x_ldc2 C hd (hC.2 _ (fnd_mem hf)) (kL (K _ List.mem_cons_self) c1 c2 c3 hG ?_)
        rw [i64_of h2 h3]
        exact ⟨Int.le_refl _, Int.le_refl _⟩
/-! locals -/
def tagK (b : Nat) (a : AV) : Bool := cond (Nat.ble b 1) (Nat.beq a.1 0) (cond (Nat.ble b 3) (Nat.beq a.1 1) (Nat.beq a.1 2 || Nat.beq a.1 3))
def wdK (b : Nat) : Nat := cond (Nat.beq b 0 || (Nat.beq b 2 || Nat.beq b 4)) 1 2
def sLd (e : IN) (pc : Nat) (lv : List (Nat × AV)) (st : List AV) (v : EV) : Option (List SS) := match e with
  | (_, _, _, i, b, _) => match alk lv i.toNat with
    | some a => cond (tagK b.toNat a && (Nat.ble b.toNat 5 && (Nat.beq (wdK b.toNat) 2 || Nat.blt i.toNat 4))) (o1 (pc + wdK b.toNat, lv, a :: st, v)) none
    | none => none
def sSt (M : MS) (e : IN) (pc : Nat) (lv : List (Nat × AV)) (st : List AV) (v : EV) : Option (List SS) := match e, st with
  | (_, _, _, i, b, _), a :: st' => cond (tagK b.toNat a && (Nat.ble b.toNat 5 && ((Nat.beq (wdK b.toNat) 2 || Nat.blt i.toNat 4) && Nat.blt (i.toNat + cond (Nat.beq a.1 1) 1 0) (mNL M)))) (o1 (pc + wdK b.toNat, (i.toNat, a) :: cond (Nat.beq a.1 1) (arm2 i.toNat lv) (arm1 i.toNat lv), st', v)) none
  | _, _ => none
theorem or_tf {a b : Bool} (h : (a || b) = true) (hb : b = false) : a = true := by rw [hb, Bool.or_false] at h; exact h
theorem fin4_eq {i : Nat} (h : i < 4) : ((fin4 i : Fin 4) : Nat) = i := Nat.mod_eq_of_lt h
theorem sLd_ok (C : CX E w cc nL own ret rm) {i b : Int} {ln pc0 : Nat} {sw : List (Int × Int)} {lv : List (Nat × AV)} {st : List AV} {v : EV} {L : List SS} (hd : decode cc pc = .ok (tI (pc0, ln, 2, i, b, sw))) (hG : Gm V G md X0 v g X) (hs : sLd (pc0, ln, 2, i, b, sw) pc lv st v = some L) (K : ∀ s ∈ L, Kt E w nL V G md X0 v.1.length v.2.1.length g s) : Wx E w nL (PX w X) pc (dnL g lv) (dnS g st) := by
  unfold sLd at hs
  cases ha : alk lv i.toNat with
  | none => simp only [ha] at hs; cases hs
  | some a =>
    simp only [ha] at hs
    cases hc : (tagK b.toNat a && (Nat.ble b.toNat 5 && (Nat.beq (wdK b.toNat) 2 || Nat.blt i.toNat 4))) with
    | false => rw [hc] at hs; cases hs
    | true =>
      rw [hc] at hs
      cases hs
      obtain ⟨h1, h2, h3⟩ := and3 hc
      have hk := alk_some (g := g) ha
      have hK : Wx E w nL (PX w X) (pc + wdK b.toNat) (dnL g lv) (dn g a :: dnS g st) := k1 (K _ List.mem_cons_self) hG
      match hb : b.toNat with
      | 0 =>
        rw [hb] at h1 h2 h3 hK
        simp only [tI, hb] at hd
        have h4 : i.toNat < 4 := blt_lt h3
        rw [dn0 h1] at hk hK
        exact x_iload_n C hd (fin4_eq h4) hk hK
      | 1 =>
        rw [hb] at h1 h2 h3 hK
        simp only [tI, hb] at hd
        rw [dn0 h1] at hk hK
        exact x_iload C hd hk hK
      | 2 =>
        rw [hb] at h1 h2 h3 hK
        simp only [tI, hb] at hd
        have h4 : i.toNat < 4 := blt_lt h3
        rw [dn1 h1] at hk hK
        exact x_lload_n C hd (fin4_eq h4) hk hK
      | 3 =>
        rw [hb] at h1 h2 h3 hK
        simp only [tI, hb] at hd
        rw [dn1 h1] at hk hK
        exact x_lload C hd hk hK
      | 4 =>
        rw [hb] at h1 h2 h3 hK
        simp only [tI, hb] at hd
        have h4 : i.toNat < 4 := blt_lt h3
        cases h5 : Nat.beq a.1 2 with
        | true => rw [dn2 h5] at hk hK; exact x_aload_n C hd (fin4_eq h4) hk hK
        | false =>
          have h6 : Nat.beq a.1 3 = true := by
            have h7 : (Nat.beq a.1 2 || Nat.beq a.1 3) = true := h1
            rw [h5] at h7
            exact h7
          rw [dn3 h6] at hk hK
          exact x_aload_nN C hd (fin4_eq h4) hk hK
      | 5 =>
        rw [hb] at h1 h2 h3 hK
        simp only [tI, hb] at hd
        cases h5 : Nat.beq a.1 2 with
        | true => rw [dn2 h5] at hk hK; exact x_aload C hd hk hK
        | false =>
          have h6 : Nat.beq a.1 3 = true := by
            have h7 : (Nat.beq a.1 2 || Nat.beq a.1 3) = true := h1
            rw [h5] at h7
            exact h7
          rw [dn3 h6] at hk hK
          exact x_aloadN C hd hk hK
      | n + 6 => exact absurd h2 (by rw [hb]; intro h; have := Nat.le_of_ble_eq_true h; omega)
theorem sSt_ok (C : CX E w cc nL own ret rm) {M : MS} (hM : mNL M = nL) {i b : Int} {ln pc0 : Nat} {sw : List (Int × Int)} {lv : List (Nat × AV)} {st : List AV} {v : EV} {L : List SS} (hd : decode cc pc = .ok (tI (pc0, ln, 3, i, b, sw))) (hG : Gm V G md X0 v g X) (hs : sSt M (pc0, ln, 3, i, b, sw) pc lv st v = some L) (K : ∀ s ∈ L, Kt E w nL V G md X0 v.1.length v.2.1.length g s) : Wx E w nL (PX w X) pc (dnL g lv) (dnS g st) := by
  cases st with
  | nil => cases hs
  | cons a st =>
    unfold sSt at hs
    simp only at hs
    cases hc : (tagK b.toNat a && (Nat.ble b.toNat 5 && ((Nat.beq (wdK b.toNat) 2 || Nat.blt i.toNat 4) && Nat.blt (i.toNat + cond (Nat.beq a.1 1) 1 0) (mNL M)))) with
    | false => rw [hc] at hs; cases hs
    | true =>
      rw [hc] at hs
      cases hs
      obtain ⟨h1, h2, h3⟩ := and3 hc
      rw [Bool.and_eq_true] at h3
      obtain ⟨h3, hn⟩ := h3
      have hn := blt_lt hn
      rw [hM] at hn
      have hK : Wx E w nL (PX w X) (pc + wdK b.toNat) (dnL g ((i.toNat, a) :: cond (Nat.beq a.1 1) (arm2 i.toNat lv) (arm1 i.toNat lv))) (dnS g st) := k1 (K _ List.mem_cons_self) hG
      show Wx E w nL (PX w X) pc (dnL g lv) (dn g a :: dnS g st)
      have e1 : Nat.beq a.1 1 = false → lst1 i.toNat (dn g a) (dnL g lv) = dnL g ((i.toNat, a) :: cond (Nat.beq a.1 1) (arm2 i.toNat lv) (arm1 i.toNat lv)) := fun h => by rw [h, als1_dn]; rfl
      have e2 : Nat.beq a.1 1 = true → lst2 i.toNat (dn g a) (dnL g lv) = dnL g ((i.toNat, a) :: cond (Nat.beq a.1 1) (arm2 i.toNat lv) (arm1 i.toNat lv)) := fun h => by rw [h, als2_dn]; rfl
      have t0 : Nat.beq a.1 0 = true → Nat.beq a.1 1 = false := fun h => by rw [Nat.eq_of_beq_eq_true h]; rfl
      have t2 : Nat.beq a.1 2 = true → Nat.beq a.1 1 = false := fun h => by rw [Nat.eq_of_beq_eq_true h]; rfl
      have t3 : Nat.beq a.1 3 = true → Nat.beq a.1 1 = false := fun h => by rw [Nat.eq_of_beq_eq_true h]; rfl
      match hb : b.toNat with
      | 0 =>
        rw [hb] at h1 h2 h3 hK
        simp only [tI, hb] at hd
        have h4 : i.toNat < 4 := blt_lt h3
        have e1 := e1 (t0 h1)
        rw [t0 h1] at hn
        rw [dn0 h1] at e1 ⊢
        exact x_istore_n C hd (fin4_eq h4) hn e1 hK
      | 1 =>
        rw [hb] at h1 h2 h3 hK
        simp only [tI, hb] at hd
        have e1 := e1 (t0 h1)
        rw [t0 h1] at hn
        rw [dn0 h1] at e1 ⊢
        exact x_istore C hd hn e1 hK
      | 2 =>
        rw [hb] at h1 h2 h3 hK
        simp only [tI, hb] at hd
        have h4 : i.toNat < 4 := blt_lt h3
        have e2 := e2 h1
        have h1' : Nat.beq a.1 1 = true := h1
        rw [h1'] at hn
        rw [dn1 h1] at e2 ⊢
        exact x_lstore_n C hd (fin4_eq h4) hn e2 hK
      | 3 =>
        rw [hb] at h1 h2 h3 hK
        simp only [tI, hb] at hd
        have e2 := e2 h1
        have h1' : Nat.beq a.1 1 = true := h1
        rw [h1'] at hn
        rw [dn1 h1] at e2 ⊢
        exact x_lstore C hd hn e2 hK
      | 4 =>
        rw [hb] at h1 h2 h3 hK
        simp only [tI, hb] at hd
        have h4 : i.toNat < 4 := blt_lt h3
        cases h5 : Nat.beq a.1 2 with
        | true =>
          have e1 := e1 (t2 h5)
          rw [t2 h5] at hn
          rw [dn2 h5] at e1 ⊢
          exact x_astore_n C hd (fin4_eq h4) hn e1 hK
        | false =>
          have h6 : Nat.beq a.1 3 = true := by
            have h7 : (Nat.beq a.1 2 || Nat.beq a.1 3) = true := h1
            rw [h5] at h7
            exact h7
          have e1 := e1 (t3 h6)
          rw [t3 h6] at hn
          rw [dn3 h6] at e1 ⊢
          exact x_astore_nN C hd (fin4_eq h4) hn e1 hK
      | 5 =>
        rw [hb] at h1 h2 h3 hK
        simp only [tI, hb] at hd
        cases h5 : Nat.beq a.1 2 with
        | true =>
          have e1 := e1 (t2 h5)
          rw [t2 h5] at hn
          rw [dn2 h5] at e1 ⊢
          exact x_astore C hd hn e1 hK
        | false =>
          have h6 : Nat.beq a.1 3 = true := by
            have h7 : (Nat.beq a.1 2 || Nat.beq a.1 3) = true := h1
            rw [h5] at h7
            exact h7
          have e1 := e1 (t3 h6)
          rw [t3 h6] at hn
          rw [dn3 h6] at e1 ⊢
          exact x_astoreN C hd hn e1 hK
      | n + 6 => exact absurd h2 (by rw [hb]; intro h; have := Nat.le_of_ble_eq_true h; omega)
end V4
