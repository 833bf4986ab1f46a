/-! ===== ENGINE 4: the walk over a world of fixed shape ===== -/
/-- the tables' words that a callee may ask again -/
def lw_g : List Cond := lw_tbl.filter goodWord
theorem lw_gi {x : Cond} (i : Nat) (h : lw_tbl[i]? = some x) (hg : goodWord x = true) : x ∈ lw_g := List.mem_filter.mpr ⟨List.mem_of_getElem? h, hg⟩
/-- a method's run: program .. code, what it may write, cells and slots made so far, what it must come to -/
abbrev ET : Type := Program × Launch × Env × Room × State × MethodId × Array Value × List Frame × Method × Code × (Nat → Prop) × Nat × Nat × (State → Prop)
abbrev PX (w : WT) (X : XT) : Heap → Prop := fun H => va_P (wD w) (wC w) (wsX w X) H
def QX (A0 : Nat → Prop) (w : WT) (Qp : Option Value → XT → Prop) : Array Value → State → Outcome → State → Prop := fun _ st oc t => (∃ (r : Option Value) (X' : XT), oc = .returned (r.map (czV w)) ∧ Qp r X' ∧ PX w X' t.heap) ∧ va_F A0 st t
def Wx (E : ET) (w : WT) (nL : Nat) (PH : Heap → Prop) (pc : Nat) (lv : List (Nat × Value)) (st : List Value) : Prop := match E with
  | (p, l, e, R, s, m, args, below, meth, c, A0, k0, n0, QQ) => ∀ (H : Heap) (locs : List Loc) (ls : Array Slot), PH H → va_S A0 s.heap H locs → lv_has ls nL (lvC w lv) → W p l e R s m args below meth c H locs k0 n0 QQ (F0 m pc ls (st.map (czV w)))
def CX (E : ET) (w : WT) (cc : ByteArray) (nL : Nat) (own : String) (ret : Option FieldType) (rm : Room) : Prop := match E with
  | (p, _, _, R, s, m, args, _, meth, c, A0, k0, n0, _) => p.tables.exec = Jvm.exec ∧ c.code = cc ∧ c.maxLocals = nL ∧ s.vm.findClass own = some m.cls ∧ (∀ x ∈ lw_g, x.before args s = true) ∧ FxW w s ∧ meth.sig.returnType = ret ∧ meth.locks = false ∧ R = rm ∧ (∀ q, AW w q → A0 q) ∧ k0 ≤ R.cells ∧ n0 ≤ R.slots
/-- the run must come to a return with Qp -/
def EQ (E : ET) (w : WT) (Qp : Option Value → XT → Prop) : Prop := match E with
  | (_, _, _, _, s, _, args, below, _, _, A0, k0, n0, QQ) => QQ = MQ below (QX A0 w Qp) args s k0 n0 A0
/-- a field's own rows in the tables -/
def FKw (w : WT) (own : String) (idx ci n i fk : Nat) : Prop := ∃ (C : String) (T : u_T), (wC w)[ci]? = some (C, T, n) ∧ i < n ∧ wF w ci i = fk ∧ (∀ x ∈ u_ws C T n, x ∈ lw_g) ∧ Cond.fieldLink own idx C (T i).2.1 (T i).2.2.1 ∈ lw_g ∧ (T i).1 = C
def PKw (w : WT) (own : String) (idx ci n i fk : Nat) (ty : FieldType) : Prop := ∃ (C : String) (T : u_T) (ty0 : Nat → FieldType), (wC w)[ci]? = some (C, T, n) ∧ i < n ∧ wF w ci i = fk ∧ (∀ x ∈ u_ws C T n, x ∈ lw_g) ∧ Cond.fieldLink own idx C (T i).2.1 (T i).2.2.1 ∈ lw_g ∧ (T i).1 = C ∧ (∀ k, k < n → parseFieldDescriptor (T k).2.2.1 = some (ty0 k)) ∧ (∀ a, a < n → ∀ b, b < n → a ≠ b → (T a).2.1 ≠ (T b).2.1) ∧ (T i).2.2.2 = false ∧ ty0 i = ty
section XR
variable {E : ET} {w : WT} {nL : Nat} {PH : Heap → Prop} {pc : Nat} {lv : List (Nat × Value)} {st : List Value} {cc : ByteArray} {own : String} {ret : Option FieldType} {rm : Room}
theorem Wx_pick (is : List Nat) (k : Wx E w nL PH pc (lpick lv is) st) : Wx E w nL PH pc lv st := by
  obtain ⟨p, l, e, R, s, m, args, below, meth, c, A0, k0, n0, QQ⟩ := E
  intro H locs ls hP hS hl
  exact k H locs ls hP hS (lpick_has hl is)
theorem Wx_lv {lv' : List (Nat × Value)} (h : lv = lv') (k : Wx E w nL PH pc lv' st) : Wx E w nL PH pc lv st := h ▸ k
theorem x_topi {x : Int32} (k : ∀ z : Int, inR z → iI z = x → Wx E w nL PH pc lv (.int (iI z) :: st)) : Wx E w nL PH pc lv (.int x :: st) := by
  have h := k x.toInt (inR_toInt x) (iI_of x)
  rwa [iI_of] at h
theorem x_gen {z : Int} (k : ∀ y : Int, y = z → Wx E w nL PH pc lv (.int (iI y) :: st)) : Wx E w nL PH pc lv (.int (iI z) :: st) := k z rfl
theorem x_genL {z : Int64} (k : ∀ y : Int64, y = z → Wx E w nL PH pc lv (.long y :: st)) : Wx E w nL PH pc lv (.long z :: st) := k z rfl
theorem x_eq {a b : Int} (h : a = b) (k : Wx E w nL PH pc lv (.int (iI b) :: st)) : Wx E w nL PH pc lv (.int (iI a) :: st) := h ▸ k
theorem x_iconst (C : CX E w cc nL own ret rm) {n : Int} (hd : decode cc pc = .ok (.iconst n, 1)) (kk : Wx E w nL PH (pc + 1) lv (.int (iI n) :: st)) : Wx E w nL PH pc lv (st) := by
  obtain ⟨p, l, e, R, s, m, args, below, meth, c, A0, k0, n0, QQ⟩ := E
  intro H locs ls hP hS hl
  exact lv_iconst C.1 C.2.1 hd rfl (kk H locs ls hP hS hl)
theorem x_bipush (C : CX E w cc nL own ret rm) {n : Int} (hd : decode cc pc = .ok (.bipush n, 2)) (hn : Int8.minValue.toInt ≤ n ∧ n ≤ Int8.maxValue.toInt) (kk : Wx E w nL PH (pc + 2) lv (.int (iI n) :: st)) : Wx E w nL PH pc lv (st) := by
  obtain ⟨p, l, e, R, s, m, args, below, meth, c, A0, k0, n0, QQ⟩ := E
  intro H locs ls hP hS hl
  exact lv_bipush C.1 C.2.1 hd (Int8.toInt32_ofInt hn.1 hn.2) (kk H locs ls hP hS hl)
theorem x_sipush (C : CX E w cc nL own ret rm) {n : Int} (hd : decode cc pc = .ok (.sipush n, 3)) (hn : Int16.minValue.toInt ≤ n ∧ n ≤ Int16.maxValue.toInt) (kk : Wx E w nL PH (pc + 3) lv (.int (iI n) :: st)) : Wx E w nL PH pc lv (st) := by
  obtain ⟨p, l, e, R, s, m, args, below, meth, c, A0, k0, n0, QQ⟩ := E
  intro H locs ls hP hS hl
  exact lv_sipush C.1 C.2.1 hd (Int16.toInt32_ofInt hn.1 hn.2) (kk H locs ls hP hS hl)
theorem x_lconst (C : CX E w cc nL own ret rm) {n : Fin 2} (hd : decode cc pc = .ok (.lconst n, 1)) (kk : Wx E w nL PH (pc + 1) lv (.long (Int64.ofNat n) :: st)) : Wx E w nL PH pc lv (st) := by
  obtain ⟨p, l, e, R, s, m, args, below, meth, c, A0, k0, n0, QQ⟩ := E
  intro H locs ls hP hS hl
  exact lv_lconst C.1 C.2.1 hd rfl (kk H locs ls hP hS hl)
theorem x_ldc (C : CX E w cc nL own ret rm) {idx : Nat} {z : Int} (hd : decode cc pc = .ok (.ldc idx, 2)) (hc : Cond.constant own idx (iI z) ∈ lw_g) (kk : Wx E w nL PH (pc + 2) lv (.int (iI z) :: st)) : Wx E w nL PH pc lv (st) := by
  obtain ⟨p, l, e, R, s, m, args, below, meth, c, A0, k0, n0, QQ⟩ := E
  intro H locs ls hP hS hl
  exact lv_ldc C.1 C.2.1 C.2.2.2.1 (C.2.2.2.2.1 _ hc) hd (kk H locs ls hP hS hl)
theorem x_ldc2 (C : CX E w cc nL own ret rm) {idx : Nat} {v : Int64} (hd : decode cc pc = .ok (.ldc2_w idx, 3)) (hc : Cond.constantLong own idx v ∈ lw_g) (kk : Wx E w nL PH (pc + 3) lv (.long v :: st)) : Wx E w nL PH pc lv (st) := by
  obtain ⟨p, l, e, R, s, m, args, below, meth, c, A0, k0, n0, QQ⟩ := E
  intro H locs ls hP hS hl
  exact lv_ldc2 C.1 C.2.1 C.2.2.2.1 (C.2.2.2.2.1 _ hc) hd (kk H locs ls hP hS hl)
theorem x_iload_n (C : CX E w cc nL own ret rm) {k : Fin 4} {i : Nat} {x : Int32} (hd : decode cc pc = .ok (.iload_n k, 1)) (hi : (k : Nat) = i) (hx : lkp lv i = some (.int x)) (kk : Wx E w nL PH (pc + 1) lv (.int x :: st)) : Wx E w nL PH pc lv (st) := by
  obtain ⟨p, l, e, R, s, m, args, below, meth, c, A0, k0, n0, QQ⟩ := E
  intro H locs ls hP hS hl
  exact lv_iload_n C.1 C.2.1 hd hi (lkp_at hl hx) (kk H locs ls hP hS hl)
theorem x_iload (C : CX E w cc nL own ret rm) {i : Nat} {x : Int32} (hd : decode cc pc = .ok (.iload i, 2)) (hx : lkp lv i = some (.int x)) (kk : Wx E w nL PH (pc + 2) lv (.int x :: st)) : Wx E w nL PH pc lv (st) := by
  obtain ⟨p, l, e, R, s, m, args, below, meth, c, A0, k0, n0, QQ⟩ := E
  intro H locs ls hP hS hl
  exact lv_iload C.1 C.2.1 hd (lkp_at hl hx) (kk H locs ls hP hS hl)
theorem x_lload_n (C : CX E w cc nL own ret rm) {k : Fin 4} {i : Nat} {x : Int64} (hd : decode cc pc = .ok (.lload_n k, 1)) (hi : (k : Nat) = i) (hx : lkp lv i = some (.long x)) (kk : Wx E w nL PH (pc + 1) lv (.long x :: st)) : Wx E w nL PH pc lv (st) := by
  obtain ⟨p, l, e, R, s, m, args, below, meth, c, A0, k0, n0, QQ⟩ := E
  intro H locs ls hP hS hl
  exact lv_lload_n C.1 C.2.1 hd hi (lkp_at hl hx) (kk H locs ls hP hS hl)
theorem x_lload (C : CX E w cc nL own ret rm) {i : Nat} {x : Int64} (hd : decode cc pc = .ok (.lload i, 2)) (hx : lkp lv i = some (.long x)) (kk : Wx E w nL PH (pc + 2) lv (.long x :: st)) : Wx E w nL PH pc lv (st) := by
  obtain ⟨p, l, e, R, s, m, args, below, meth, c, A0, k0, n0, QQ⟩ := E
  intro H locs ls hP hS hl
  exact lv_lload C.1 C.2.1 hd (lkp_at hl hx) (kk H locs ls hP hS hl)
theorem x_aload_n (C : CX E w cc nL own ret rm) {k : Fin 4} {i : Nat} {x : Nat} (hd : decode cc pc = .ok (.aload_n k, 1)) (hi : (k : Nat) = i) (hx : lkp lv i = some (.ref x)) (kk : Wx E w nL PH (pc + 1) lv (.ref x :: st)) : Wx E w nL PH pc lv (st) := by
  obtain ⟨p, l, e, R, s, m, args, below, meth, c, A0, k0, n0, QQ⟩ := E
  intro H locs ls hP hS hl
  exact lv_aload_n C.1 C.2.1 hd hi (lkp_at hl hx) (kk H locs ls hP hS hl)
theorem x_aload (C : CX E w cc nL own ret rm) {i : Nat} {x : Nat} (hd : decode cc pc = .ok (.aload i, 2)) (hx : lkp lv i = some (.ref x)) (kk : Wx E w nL PH (pc + 2) lv (.ref x :: st)) : Wx E w nL PH pc lv (st) := by
  obtain ⟨p, l, e, R, s, m, args, below, meth, c, A0, k0, n0, QQ⟩ := E
  intro H locs ls hP hS hl
  exact lv_aload C.1 C.2.1 hd (lkp_at hl hx) (kk H locs ls hP hS hl)
theorem x_aload_nN (C : CX E w cc nL own ret rm) {k : Fin 4} {i : Nat} (hd : decode cc pc = .ok (.aload_n k, 1)) (hi : (k : Nat) = i) (hx : lkp lv i = some .null) (kk : Wx E w nL PH (pc + 1) lv (.null :: st)) : Wx E w nL PH pc lv (st) := by
  obtain ⟨p, l, e, R, s, m, args, below, meth, c, A0, k0, n0, QQ⟩ := E
  intro H locs ls hP hS hl
  exact lv_aload_nN C.1 C.2.1 hd hi (lkp_at hl hx) (kk H locs ls hP hS hl)
theorem x_aloadN (C : CX E w cc nL own ret rm) {i : Nat} (hd : decode cc pc = .ok (.aload i, 2)) (hx : lkp lv i = some .null) (kk : Wx E w nL PH (pc + 2) lv (.null :: st)) : Wx E w nL PH pc lv (st) := by
  obtain ⟨p, l, e, R, s, m, args, below, meth, c, A0, k0, n0, QQ⟩ := E
  intro H locs ls hP hS hl
  exact lv_aloadN C.1 C.2.1 hd (lkp_at hl hx) (kk H locs ls hP hS hl)
theorem x_istore_n (C : CX E w cc nL own ret rm) {k : Fin 4} {i : Nat} {x : Int32} {lv' : List (Nat × Value)} (hd : decode cc pc = .ok (.istore_n k, 1)) (hi : (k : Nat) = i) (hn : i < nL) (hv : lst1 i (.int x) lv = lv') (kk : Wx E w nL PH (pc + 1) lv' (st)) : Wx E w nL PH pc lv (.int x :: st) := by
  obtain ⟨p, l, e, R, s, m, args, below, meth, c, A0, k0, n0, QQ⟩ := E
  intro H locs ls hP hS hl
  subst hv
  exact lv_istore_n (lv' := lvC w (lst1 i (.int x) lv)) C.1 C.2.1 hd hi hl hn (by rw [lrm1_eq]; rfl) (fun ls' hl' => kk H locs ls' hP hS hl')
theorem x_istore (C : CX E w cc nL own ret rm) {i : Nat} {x : Int32} {lv' : List (Nat × Value)} (hd : decode cc pc = .ok (.istore i, 2)) (hn : i < nL) (hv : lst1 i (.int x) lv = lv') (kk : Wx E w nL PH (pc + 2) lv' (st)) : Wx E w nL PH pc lv (.int x :: st) := by
  obtain ⟨p, l, e, R, s, m, args, below, meth, c, A0, k0, n0, QQ⟩ := E
  intro H locs ls hP hS hl
  subst hv
  exact lv_istore (lv' := lvC w (lst1 i (.int x) lv)) C.1 C.2.1 hd hl hn (by rw [lrm1_eq]; rfl) (fun ls' hl' => kk H locs ls' hP hS hl')
theorem x_lstore_n (C : CX E w cc nL own ret rm) {k : Fin 4} {i : Nat} {x : Int64} {lv' : List (Nat × Value)} (hd : decode cc pc = .ok (.lstore_n k, 1)) (hi : (k : Nat) = i) (hn : i + 1 < nL) (hv : lst2 i (.long x) lv = lv') (kk : Wx E w nL PH (pc + 1) lv' (st)) : Wx E w nL PH pc lv (.long x :: st) := by
  obtain ⟨p, l, e, R, s, m, args, below, meth, c, A0, k0, n0, QQ⟩ := E
  intro H locs ls hP hS hl
  subst hv
  exact lv_lstore_n (lv' := lvC w (lst2 i (.long x) lv)) C.1 C.2.1 hd hi hl hn (by rw [lrm2_eq]; rfl) (fun ls' hl' => kk H locs ls' hP hS hl')
theorem x_lstore (C : CX E w cc nL own ret rm) {i : Nat} {x : Int64} {lv' : List (Nat × Value)} (hd : decode cc pc = .ok (.lstore i, 2)) (hn : i + 1 < nL) (hv : lst2 i (.long x) lv = lv') (kk : Wx E w nL PH (pc + 2) lv' (st)) : Wx E w nL PH pc lv (.long x :: st) := by
  obtain ⟨p, l, e, R, s, m, args, below, meth, c, A0, k0, n0, QQ⟩ := E
  intro H locs ls hP hS hl
  subst hv
  exact lv_lstore (lv' := lvC w (lst2 i (.long x) lv)) C.1 C.2.1 hd hl hn (by rw [lrm2_eq]; rfl) (fun ls' hl' => kk H locs ls' hP hS hl')
theorem x_astore_n (C : CX E w cc nL own ret rm) {k : Fin 4} {i : Nat} {x : Nat} {lv' : List (Nat × Value)} (hd : decode cc pc = .ok (.astore_n k, 1)) (hi : (k : Nat) = i) (hn : i < nL) (hv : lst1 i (.ref x) lv = lv') (kk : Wx E w nL PH (pc + 1) lv' (st)) : Wx E w nL PH pc lv (.ref x :: st) := by
  obtain ⟨p, l, e, R, s, m, args, below, meth, c, A0, k0, n0, QQ⟩ := E
  intro H locs ls hP hS hl
  subst hv
  exact lv_astore_n (lv' := lvC w (lst1 i (.ref x) lv)) C.1 C.2.1 hd hi hl hn (by rw [lrm1_eq]; rfl) (fun ls' hl' => kk H locs ls' hP hS hl')
theorem x_astore (C : CX E w cc nL own ret rm) {i : Nat} {x : Nat} {lv' : List (Nat × Value)} (hd : decode cc pc = .ok (.astore i, 2)) (hn : i < nL) (hv : lst1 i (.ref x) lv = lv') (kk : Wx E w nL PH (pc + 2) lv' (st)) : Wx E w nL PH pc lv (.ref x :: st) := by
  obtain ⟨p, l, e, R, s, m, args, below, meth, c, A0, k0, n0, QQ⟩ := E
  intro H locs ls hP hS hl
  subst hv
  exact lv_astore (lv' := lvC w (lst1 i (.ref x) lv)) C.1 C.2.1 hd hl hn (by rw [lrm1_eq]; rfl) (fun ls' hl' => kk H locs ls' hP hS hl')
theorem x_astore_nN (C : CX E w cc nL own ret rm) {k : Fin 4} {i : Nat} {lv' : List (Nat × Value)} (hd : decode cc pc = .ok (.astore_n k, 1)) (hi : (k : Nat) = i) (hn : i < nL) (hv : lst1 i .null lv = lv') (kk : Wx E w nL PH (pc + 1) lv' (st)) : Wx E w nL PH pc lv (.null :: st) := by
  obtain ⟨p, l, e, R, s, m, args, below, meth, c, A0, k0, n0, QQ⟩ := E
  intro H locs ls hP hS hl
  subst hv
  exact lv_astore_nN (lv' := lvC w (lst1 i .null lv)) C.1 C.2.1 hd hi hl hn (by rw [lrm1_eq]; rfl) (fun ls' hl' => kk H locs ls' hP hS hl')
theorem x_astoreN (C : CX E w cc nL own ret rm) {i : Nat} {lv' : List (Nat × Value)} (hd : decode cc pc = .ok (.astore i, 2)) (hn : i < nL) (hv : lst1 i .null lv = lv') (kk : Wx E w nL PH (pc + 2) lv' (st)) : Wx E w nL PH pc lv (.null :: st) := by
  obtain ⟨p, l, e, R, s, m, args, below, meth, c, A0, k0, n0, QQ⟩ := E
  intro H locs ls hP hS hl
  subst hv
  exact lv_astoreN (lv' := lvC w (lst1 i .null lv)) C.1 C.2.1 hd hl hn (by rw [lrm1_eq]; rfl) (fun ls' hl' => kk H locs ls' hP hS hl')
theorem x_iinc (C : CX E w cc nL own ret rm) {i : Nat} {n z : Int} {lv' : List (Nat × Value)} (hd : decode cc pc = .ok (.iinc i n, 3)) (hx : lkp lv i = some (.int (iI z))) (hn : i < nL) (hv : lst1 i (.int (iI (z + n))) lv = lv') (kk : Wx E w nL PH (pc + 3) lv' (st)) : Wx E w nL PH pc lv (st) := by
  obtain ⟨p, l, e, R, s, m, args, below, meth, c, A0, k0, n0, QQ⟩ := E
  intro H locs ls hP hS hl
  subst hv
  obtain ⟨k, hk⟩ := List.getElem?_of_mem (List.mem_map.mpr ⟨(i, .int (iI z)), lkp_mem hx, rfl⟩ : (i, czV w (.int (iI z))) ∈ lvC w lv)
  exact lv_iinc (v := iI (z + n)) (lv' := lvC w (lst1 i (.int (iI (z + n))) lv)) C.1 C.2.1 hd hl (k := k) hk (iI_add z n) hn (by rw [lrm1_eq]; rfl) (fun ls' hl' => kk H locs ls' hP hS hl')
theorem x_iadd (C : CX E w cc nL own ret rm) {a b : Int} (hd : decode cc pc = .ok (.iadd, 1)) (kk : Wx E w nL PH (pc + 1) lv (.int (iI (a + b)) :: st)) : Wx E w nL PH pc lv (.int (iI b) :: .int (iI a) :: st) := by
  obtain ⟨p, l, e, R, s, m, args, below, meth, c, A0, k0, n0, QQ⟩ := E
  intro H locs ls hP hS hl
  refine lv_iadd C.1 C.2.1 hd ?_
  rw [iI_add]
  exact kk H locs ls hP hS hl
theorem x_isub (C : CX E w cc nL own ret rm) {a b : Int} (hd : decode cc pc = .ok (.isub, 1)) (kk : Wx E w nL PH (pc + 1) lv (.int (iI (a - b)) :: st)) : Wx E w nL PH pc lv (.int (iI b) :: .int (iI a) :: st) := by
  obtain ⟨p, l, e, R, s, m, args, below, meth, c, A0, k0, n0, QQ⟩ := E
  intro H locs ls hP hS hl
  refine lv_isub C.1 C.2.1 hd ?_
  rw [iI_sub]
  exact kk H locs ls hP hS hl
theorem x_imul (C : CX E w cc nL own ret rm) {a b : Int} (hd : decode cc pc = .ok (.imul, 1)) (kk : Wx E w nL PH (pc + 1) lv (.int (iI (a * b)) :: st)) : Wx E w nL PH pc lv (.int (iI b) :: .int (iI a) :: st) := by
  obtain ⟨p, l, e, R, s, m, args, below, meth, c, A0, k0, n0, QQ⟩ := E
  intro H locs ls hP hS hl
  refine lv_imul C.1 C.2.1 hd ?_
  rw [iI_mul]
  exact kk H locs ls hP hS hl
theorem x_ineg (C : CX E w cc nL own ret rm) {a : Int} (hd : decode cc pc = .ok (.ineg, 1)) (kk : Wx E w nL PH (pc + 1) lv (.int (iI (-a)) :: st)) : Wx E w nL PH pc lv (.int (iI a) :: st) := by
  obtain ⟨p, l, e, R, s, m, args, below, meth, c, A0, k0, n0, QQ⟩ := E
  intro H locs ls hP hS hl
  refine lv_ineg C.1 C.2.1 hd ?_
  rw [iI_neg]
  exact kk H locs ls hP hS hl
theorem x_idiv (C : CX E w cc nL own ret rm) {a b : Int} (hd : decode cc pc = .ok (.idiv, 1)) (ha : 0 ≤ a) (hb : 0 < b) (ra : inR a) (rb : inR b) (kk : Wx E w nL PH (pc + 1) lv (.int (iI (a / b)) :: st)) : Wx E w nL PH pc lv (.int (iI b) :: .int (iI a) :: st) := by
  obtain ⟨p, l, e, R, s, m, args, below, meth, c, A0, k0, n0, QQ⟩ := E
  intro H locs ls hP hS hl
  refine lv_idiv C.1 C.2.1 hd (iI_ne0 (by omega) rb) ?_
  rw [iI_div ha hb ra rb]
  exact kk H locs ls hP hS hl
theorem x_irem (C : CX E w cc nL own ret rm) {a b : Int} (hd : decode cc pc = .ok (.irem, 1)) (ha : 0 ≤ a) (hb : 0 < b) (ra : inR a) (rb : inR b) (kk : Wx E w nL PH (pc + 1) lv (.int (iI (a % b)) :: st)) : Wx E w nL PH pc lv (.int (iI b) :: .int (iI a) :: st) := by
  obtain ⟨p, l, e, R, s, m, args, below, meth, c, A0, k0, n0, QQ⟩ := E
  intro H locs ls hP hS hl
  refine lv_irem C.1 C.2.1 hd (iI_ne0 (by omega) rb) ?_
  rw [iI_rem ha hb ra rb]
  exact kk H locs ls hP hS hl
theorem x_iand (C : CX E w cc nL own ret rm) {x y : Int32} (hd : decode cc pc = .ok (.iand, 1)) (kk : Wx E w nL PH (pc + 1) lv (.int (x &&& y) :: st)) : Wx E w nL PH pc lv (.int y :: .int x :: st) := by
  obtain ⟨p, l, e, R, s, m, args, below, meth, c, A0, k0, n0, QQ⟩ := E
  intro H locs ls hP hS hl
  exact lv_iand C.1 C.2.1 hd (kk H locs ls hP hS hl)
theorem x_ior (C : CX E w cc nL own ret rm) {x y : Int32} (hd : decode cc pc = .ok (.ior, 1)) (kk : Wx E w nL PH (pc + 1) lv (.int (x ||| y) :: st)) : Wx E w nL PH pc lv (.int y :: .int x :: st) := by
  obtain ⟨p, l, e, R, s, m, args, below, meth, c, A0, k0, n0, QQ⟩ := E
  intro H locs ls hP hS hl
  exact lv_ior C.1 C.2.1 hd (kk H locs ls hP hS hl)
theorem x_ixor (C : CX E w cc nL own ret rm) {x y : Int32} (hd : decode cc pc = .ok (.ixor, 1)) (kk : Wx E w nL PH (pc + 1) lv (.int (x ^^^ y) :: st)) : Wx E w nL PH pc lv (.int y :: .int x :: st) := by
  obtain ⟨p, l, e, R, s, m, args, below, meth, c, A0, k0, n0, QQ⟩ := E
  intro H locs ls hP hS hl
  exact lv_ixor C.1 C.2.1 hd (kk H locs ls hP hS hl)
theorem x_ishl (C : CX E w cc nL own ret rm) {x y : Int32} (hd : decode cc pc = .ok (.ishl, 1)) (kk : Wx E w nL PH (pc + 1) lv (.int (x <<< (y &&& 31)) :: st)) : Wx E w nL PH pc lv (.int y :: .int x :: st) := by
  obtain ⟨p, l, e, R, s, m, args, below, meth, c, A0, k0, n0, QQ⟩ := E
  intro H locs ls hP hS hl
  exact lv_ishl C.1 C.2.1 hd (kk H locs ls hP hS hl)
theorem x_ishr (C : CX E w cc nL own ret rm) {x y : Int32} (hd : decode cc pc = .ok (.ishr, 1)) (kk : Wx E w nL PH (pc + 1) lv (.int (x >>> (y &&& 31)) :: st)) : Wx E w nL PH pc lv (.int y :: .int x :: st) := by
  obtain ⟨p, l, e, R, s, m, args, below, meth, c, A0, k0, n0, QQ⟩ := E
  intro H locs ls hP hS hl
  exact lv_ishr C.1 C.2.1 hd (kk H locs ls hP hS hl)
theorem x_iushr (C : CX E w cc nL own ret rm) {x y : Int32} (hd : decode cc pc = .ok (.iushr, 1)) (kk : Wx E w nL PH (pc + 1) lv (.int ((x.toUInt32 >>> (y.toUInt32 &&& Int32.toUInt32 31)).toInt32) :: st)) : Wx E w nL PH pc lv (.int y :: .int x :: st) := by
  obtain ⟨p, l, e, R, s, m, args, below, meth, c, A0, k0, n0, QQ⟩ := E
  intro H locs ls hP hS hl
  exact lv_iushr C.1 C.2.1 hd rfl (kk H locs ls hP hS hl)
theorem x_ladd (C : CX E w cc nL own ret rm) {x y : Int64} (hd : decode cc pc = .ok (.ladd, 1)) (kk : Wx E w nL PH (pc + 1) lv (.long (x + y) :: st)) : Wx E w nL PH pc lv (.long y :: .long x :: st) := by
  obtain ⟨p, l, e, R, s, m, args, below, meth, c, A0, k0, n0, QQ⟩ := E
  intro H locs ls hP hS hl
  exact lv_ladd C.1 C.2.1 hd (kk H locs ls hP hS hl)
theorem x_lsub (C : CX E w cc nL own ret rm) {x y : Int64} (hd : decode cc pc = .ok (.lsub, 1)) (kk : Wx E w nL PH (pc + 1) lv (.long (x - y) :: st)) : Wx E w nL PH pc lv (.long y :: .long x :: st) := by
  obtain ⟨p, l, e, R, s, m, args, below, meth, c, A0, k0, n0, QQ⟩ := E
  intro H locs ls hP hS hl
  exact lv_lsub C.1 C.2.1 hd (kk H locs ls hP hS hl)
theorem x_lmul (C : CX E w cc nL own ret rm) {x y : Int64} (hd : decode cc pc = .ok (.lmul, 1)) (kk : Wx E w nL PH (pc + 1) lv (.long (x * y) :: st)) : Wx E w nL PH pc lv (.long y :: .long x :: st) := by
  obtain ⟨p, l, e, R, s, m, args, below, meth, c, A0, k0, n0, QQ⟩ := E
  intro H locs ls hP hS hl
  exact lv_lmul C.1 C.2.1 hd (kk H locs ls hP hS hl)
theorem x_land (C : CX E w cc nL own ret rm) {x y : Int64} (hd : decode cc pc = .ok (.land, 1)) (kk : Wx E w nL PH (pc + 1) lv (.long (x &&& y) :: st)) : Wx E w nL PH pc lv (.long y :: .long x :: st) := by
  obtain ⟨p, l, e, R, s, m, args, below, meth, c, A0, k0, n0, QQ⟩ := E
  intro H locs ls hP hS hl
  exact lv_land C.1 C.2.1 hd (kk H locs ls hP hS hl)
theorem x_lor (C : CX E w cc nL own ret rm) {x y : Int64} (hd : decode cc pc = .ok (.lor, 1)) (kk : Wx E w nL PH (pc + 1) lv (.long (x ||| y) :: st)) : Wx E w nL PH pc lv (.long y :: .long x :: st) := by
  obtain ⟨p, l, e, R, s, m, args, below, meth, c, A0, k0, n0, QQ⟩ := E
  intro H locs ls hP hS hl
  exact lv_lor C.1 C.2.1 hd (kk H locs ls hP hS hl)
theorem x_lxor (C : CX E w cc nL own ret rm) {x y : Int64} (hd : decode cc pc = .ok (.lxor, 1)) (kk : Wx E w nL PH (pc + 1) lv (.long (x ^^^ y) :: st)) : Wx E w nL PH pc lv (.long y :: .long x :: st) := by
  obtain ⟨p, l, e, R, s, m, args, below, meth, c, A0, k0, n0, QQ⟩ := E
  intro H locs ls hP hS hl
  exact lv_lxor C.1 C.2.1 hd (kk H locs ls hP hS hl)
theorem x_lshl (C : CX E w cc nL own ret rm) {x : Int64} {y : Int32} (hd : decode cc pc = .ok (.lshl, 1)) (kk : Wx E w nL PH (pc + 1) lv (.long (x <<< (y.toInt64 &&& 63)) :: st)) : Wx E w nL PH pc lv (.int y :: .long x :: st) := by
  obtain ⟨p, l, e, R, s, m, args, below, meth, c, A0, k0, n0, QQ⟩ := E
  intro H locs ls hP hS hl
  exact lv_lshl C.1 C.2.1 hd rfl (kk H locs ls hP hS hl)
theorem x_lshr (C : CX E w cc nL own ret rm) {x : Int64} {y : Int32} (hd : decode cc pc = .ok (.lshr, 1)) (kk : Wx E w nL PH (pc + 1) lv (.long (x >>> (y.toInt64 &&& 63)) :: st)) : Wx E w nL PH pc lv (.int y :: .long x :: st) := by
  obtain ⟨p, l, e, R, s, m, args, below, meth, c, A0, k0, n0, QQ⟩ := E
  intro H locs ls hP hS hl
  exact lv_lshr C.1 C.2.1 hd rfl (kk H locs ls hP hS hl)
theorem x_lushr (C : CX E w cc nL own ret rm) {x : Int64} {y : Int32} (hd : decode cc pc = .ok (.lushr, 1)) (kk : Wx E w nL PH (pc + 1) lv (.long ((x.toUInt64 >>> (y.toInt64.toUInt64 &&& Int64.toUInt64 63)).toInt64) :: st)) : Wx E w nL PH pc lv (.int y :: .long x :: st) := by
  obtain ⟨p, l, e, R, s, m, args, below, meth, c, A0, k0, n0, QQ⟩ := E
  intro H locs ls hP hS hl
  exact lv_lushr C.1 C.2.1 hd rfl (kk H locs ls hP hS hl)
theorem x_i2l (C : CX E w cc nL own ret rm) {x : Int32} (hd : decode cc pc = .ok (.i2l, 1)) (kk : Wx E w nL PH (pc + 1) lv (.long x.toInt64 :: st)) : Wx E w nL PH pc lv (.int x :: st) := by
  obtain ⟨p, l, e, R, s, m, args, below, meth, c, A0, k0, n0, QQ⟩ := E
  intro H locs ls hP hS hl
  exact lv_i2l C.1 C.2.1 hd rfl (kk H locs ls hP hS hl)
theorem x_l2i (C : CX E w cc nL own ret rm) {x : Int64} (hd : decode cc pc = .ok (.l2i, 1)) (kk : Wx E w nL PH (pc + 1) lv (.int x.toInt32 :: st)) : Wx E w nL PH pc lv (.long x :: st) := by
  obtain ⟨p, l, e, R, s, m, args, below, meth, c, A0, k0, n0, QQ⟩ := E
  intro H locs ls hP hS hl
  exact lv_l2i C.1 C.2.1 hd rfl (kk H locs ls hP hS hl)
theorem x_i2b (C : CX E w cc nL own ret rm) {x : Int32} (hd : decode cc pc = .ok (.i2b, 1)) (kk : Wx E w nL PH (pc + 1) lv (.int x.toInt8.toInt32 :: st)) : Wx E w nL PH pc lv (.int x :: st) := by
  obtain ⟨p, l, e, R, s, m, args, below, meth, c, A0, k0, n0, QQ⟩ := E
  intro H locs ls hP hS hl
  exact lv_i2b C.1 C.2.1 hd rfl (kk H locs ls hP hS hl)
theorem x_i2c (C : CX E w cc nL own ret rm) {x : Int32} (hd : decode cc pc = .ok (.i2c, 1)) (kk : Wx E w nL PH (pc + 1) lv (.int (x.toUInt32 % 65536).toInt32 :: st)) : Wx E w nL PH pc lv (.int x :: st) := by
  obtain ⟨p, l, e, R, s, m, args, below, meth, c, A0, k0, n0, QQ⟩ := E
  intro H locs ls hP hS hl
  exact lv_i2c C.1 C.2.1 hd rfl (kk H locs ls hP hS hl)
theorem x_lcmp (C : CX E w cc nL own ret rm) {x y : Int64} (hd : decode cc pc = .ok (.lcmp, 1)) (kk : Wx E w nL PH (pc + 1) lv (.int (lg_cmp x y) :: st)) : Wx E w nL PH pc lv (.long y :: .long x :: st) := by
  obtain ⟨p, l, e, R, s, m, args, below, meth, c, A0, k0, n0, QQ⟩ := E
  intro H locs ls hP hS hl
  exact W.lcmp C.1 C.2.1 hd (kk H locs ls hP hS hl)
theorem x_dup (C : CX E w cc nL own ret rm) {v : Value} (hd : decode cc pc = .ok (.dup, 1)) (hv : v.category = 1) (kk : Wx E w nL PH (pc + 1) lv (v :: v :: st)) : Wx E w nL PH pc lv (v :: st) := by
  obtain ⟨p, l, e, R, s, m, args, below, meth, c, A0, k0, n0, QQ⟩ := E
  intro H locs ls hP hS hl
  exact lv_dup C.1 C.2.1 hd (by rw [czV_cat]; exact hv) (kk H locs ls hP hS hl)
theorem x_pop (C : CX E w cc nL own ret rm) {v : Value} (hd : decode cc pc = .ok (.pop, 1)) (hv : v.category = 1) (kk : Wx E w nL PH (pc + 1) lv (st)) : Wx E w nL PH pc lv (v :: st) := by
  obtain ⟨p, l, e, R, s, m, args, below, meth, c, A0, k0, n0, QQ⟩ := E
  intro H locs ls hP hS hl
  exact lv_pop C.1 C.2.1 hd (by rw [czV_cat]; exact hv) (kk H locs ls hP hS hl)
theorem x_dup2_11 (C : CX E w cc nL own ret rm) {v u : Value} (hd : decode cc pc = .ok (.dup2, 1)) (hv : v.category = 1) (hu : u.category = 1) (kk : Wx E w nL PH (pc + 1) lv (v :: u :: v :: u :: st)) : Wx E w nL PH pc lv (v :: u :: st) := by
  obtain ⟨p, l, e, R, s, m, args, below, meth, c, A0, k0, n0, QQ⟩ := E
  intro H locs ls hP hS hl
  exact lv_dup2_11 C.1 C.2.1 hd (by rw [czV_cat]; exact hv) (by rw [czV_cat]; exact hu) (kk H locs ls hP hS hl)
theorem x_dup2_2 (C : CX E w cc nL own ret rm) {v : Value} (hd : decode cc pc = .ok (.dup2, 1)) (hv : v.category = 2) (kk : Wx E w nL PH (pc + 1) lv (v :: v :: st)) : Wx E w nL PH pc lv (v :: st) := by
  obtain ⟨p, l, e, R, s, m, args, below, meth, c, A0, k0, n0, QQ⟩ := E
  intro H locs ls hP hS hl
  exact lv_dup2_2 C.1 C.2.1 hd (by rw [czV_cat]; exact hv) (kk H locs ls hP hS hl)
theorem x_null (C : CX E w cc nL own ret rm) (hd : decode cc pc = .ok (.aconst_null, 1)) (kk : Wx E w nL PH (pc + 1) lv (.null :: st)) : Wx E w nL PH pc lv (st) := by
  obtain ⟨p, l, e, R, s, m, args, below, meth, c, A0, k0, n0, QQ⟩ := E
  intro H locs ls hP hS hl
  exact lv_null C.1 C.2.1 hd (kk H locs ls hP hS hl)
theorem x_goto (C : CX E w cc nL own ret rm) {off : Int} {tgt : Nat} (hd : decode cc pc = .ok (.goto off, 3)) (ht : (pc : Int) + off = (tgt : Int)) (kk : Wx E w nL PH tgt lv (st)) : Wx E w nL PH pc lv (st) := by
  obtain ⟨p, l, e, R, s, m, args, below, meth, c, A0, k0, n0, QQ⟩ := E
  intro H locs ls hP hS hl
  exact lv_goto C.1 C.2.1 hd ht (kk H locs ls hP hS hl)
theorem x_ifnullR (C : CX E w cc nL own ret rm) {x : Nat} {off : Int} (hd : decode cc pc = .ok (.ifnull off, 3)) (kk : Wx E w nL PH (pc + 3) lv (st)) : Wx E w nL PH pc lv (.ref x :: st) := by
  obtain ⟨p, l, e, R, s, m, args, below, meth, c, A0, k0, n0, QQ⟩ := E
  intro H locs ls hP hS hl
  exact lv_ifnull C.1 C.2.1 hd (kk H locs ls hP hS hl)
theorem x_ifnullN (C : CX E w cc nL own ret rm) {off : Int} {tgt : Nat} (hd : decode cc pc = .ok (.ifnull off, 3)) (ht : (pc : Int) + off = (tgt : Int)) (kk : Wx E w nL PH tgt lv (st)) : Wx E w nL PH pc lv (.null :: st) := by
  obtain ⟨p, l, e, R, s, m, args, below, meth, c, A0, k0, n0, QQ⟩ := E
  intro H locs ls hP hS hl
  exact lv_ifnullN C.1 C.2.1 hd ht (kk H locs ls hP hS hl)
theorem x_ifnonnullR (C : CX E w cc nL own ret rm) {x : Nat} {off : Int} {tgt : Nat} (hd : decode cc pc = .ok (.ifnonnull off, 3)) (ht : (pc : Int) + off = (tgt : Int)) (kk : Wx E w nL PH tgt lv (st)) : Wx E w nL PH pc lv (.ref x :: st) := by
  obtain ⟨p, l, e, R, s, m, args, below, meth, c, A0, k0, n0, QQ⟩ := E
  intro H locs ls hP hS hl
  exact lv_ifnonnull C.1 C.2.1 hd ht (kk H locs ls hP hS hl)
theorem x_ifnonnullN (C : CX E w cc nL own ret rm) {off : Int} (hd : decode cc pc = .ok (.ifnonnull off, 3)) (kk : Wx E w nL PH (pc + 3) lv (st)) : Wx E w nL PH pc lv (.null :: st) := by
  obtain ⟨p, l, e, R, s, m, args, below, meth, c, A0, k0, n0, QQ⟩ := E
  intro H locs ls hP hS hl
  exact lv_ifnonnullN C.1 C.2.1 hd (kk H locs ls hP hS hl)
theorem x_if_eq (C : CX E w cc nL own ret rm) {a : Int} {off : Int} {tgt : Nat} (hd : decode cc pc = .ok (.ifCond .eq off, 3)) (ht : (pc : Int) + off = (tgt : Int)) (ra : inR a) (kt : a = 0 → Wx E w nL PH tgt lv (st)) (kf : ¬ (a = 0) → Wx E w nL PH (pc + 3) lv (st)) : Wx E w nL PH pc lv (.int (iI a) :: st) := by
  obtain ⟨p, l, e, R, s, m, args, below, meth, c, A0, k0, n0, QQ⟩ := E
  intro H locs ls hP hS hl
  exact lv_if_eq C.1 C.2.1 hd ht (fun h => kt ((iI_eq ra inR_0).mp h) H locs ls hP hS hl) (fun h => kf (fun q => h ((iI_eq ra inR_0).mpr q)) H locs ls hP hS hl)
theorem x_icmp_eq (C : CX E w cc nL own ret rm) {a b : Int} {off : Int} {tgt : Nat} (hd : decode cc pc = .ok (.if_icmp .eq off, 3)) (ht : (pc : Int) + off = (tgt : Int)) (ra : inR a) (rb : inR b) (kt : a = b → Wx E w nL PH tgt lv (st)) (kf : ¬ (a = b) → Wx E w nL PH (pc + 3) lv (st)) : Wx E w nL PH pc lv (.int (iI b) :: .int (iI a) :: st) := by
  obtain ⟨p, l, e, R, s, m, args, below, meth, c, A0, k0, n0, QQ⟩ := E
  intro H locs ls hP hS hl
  exact lv_icmp_eq C.1 C.2.1 hd ht (fun h => kt ((iI_eq ra rb).mp h) H locs ls hP hS hl) (fun h => kf (fun q => h ((iI_eq ra rb).mpr q)) H locs ls hP hS hl)
theorem x_if_ne (C : CX E w cc nL own ret rm) {a : Int} {off : Int} {tgt : Nat} (hd : decode cc pc = .ok (.ifCond .ne off, 3)) (ht : (pc : Int) + off = (tgt : Int)) (ra : inR a) (kt : ¬ a = 0 → Wx E w nL PH tgt lv (st)) (kf : a = 0 → Wx E w nL PH (pc + 3) lv (st)) : Wx E w nL PH pc lv (.int (iI a) :: st) := by
  obtain ⟨p, l, e, R, s, m, args, below, meth, c, A0, k0, n0, QQ⟩ := E
  intro H locs ls hP hS hl
  exact lv_if_ne C.1 C.2.1 hd ht (fun h => kt (fun q => h ((iI_eq ra inR_0).mpr q)) H locs ls hP hS hl) (fun h => kf ((iI_eq ra inR_0).mp h) H locs ls hP hS hl)
theorem x_icmp_ne (C : CX E w cc nL own ret rm) {a b : Int} {off : Int} {tgt : Nat} (hd : decode cc pc = .ok (.if_icmp .ne off, 3)) (ht : (pc : Int) + off = (tgt : Int)) (ra : inR a) (rb : inR b) (kt : ¬ a = b → Wx E w nL PH tgt lv (st)) (kf : a = b → Wx E w nL PH (pc + 3) lv (st)) : Wx E w nL PH pc lv (.int (iI b) :: .int (iI a) :: st) := by
  obtain ⟨p, l, e, R, s, m, args, below, meth, c, A0, k0, n0, QQ⟩ := E
  intro H locs ls hP hS hl
  exact lv_icmp_ne C.1 C.2.1 hd ht (fun h => kt (fun q => h ((iI_eq ra rb).mpr q)) H locs ls hP hS hl) (fun h => kf ((iI_eq ra rb).mp h) H locs ls hP hS hl)
theorem x_if_lt (C : CX E w cc nL own ret rm) {a : Int} {off : Int} {tgt : Nat} (hd : decode cc pc = .ok (.ifCond .lt off, 3)) (ht : (pc : Int) + off = (tgt : Int)) (ra : inR a) (kt : a < 0 → Wx E w nL PH tgt lv (st)) (kf : ¬ (a < 0) → Wx E w nL PH (pc + 3) lv (st)) : Wx E w nL PH pc lv (.int (iI a) :: st) := by
  obtain ⟨p, l, e, R, s, m, args, below, meth, c, A0, k0, n0, QQ⟩ := E
  intro H locs ls hP hS hl
  exact lv_if_lt C.1 C.2.1 hd ht (fun h => kt ((iI_lt ra inR_0).mp h) H locs ls hP hS hl) (fun h => kf (fun q => h ((iI_lt ra inR_0).mpr q)) H locs ls hP hS hl)
theorem x_icmp_lt (C : CX E w cc nL own ret rm) {a b : Int} {off : Int} {tgt : Nat} (hd : decode cc pc = .ok (.if_icmp .lt off, 3)) (ht : (pc : Int) + off = (tgt : Int)) (ra : inR a) (rb : inR b) (kt : a < b → Wx E w nL PH tgt lv (st)) (kf : ¬ (a < b) → Wx E w nL PH (pc + 3) lv (st)) : Wx E w nL PH pc lv (.int (iI b) :: .int (iI a) :: st) := by
  obtain ⟨p, l, e, R, s, m, args, below, meth, c, A0, k0, n0, QQ⟩ := E
  intro H locs ls hP hS hl
  exact lv_icmp_lt C.1 C.2.1 hd ht (fun h => kt ((iI_lt ra rb).mp h) H locs ls hP hS hl) (fun h => kf (fun q => h ((iI_lt ra rb).mpr q)) H locs ls hP hS hl)
theorem x_if_ge (C : CX E w cc nL own ret rm) {a : Int} {off : Int} {tgt : Nat} (hd : decode cc pc = .ok (.ifCond .ge off, 3)) (ht : (pc : Int) + off = (tgt : Int)) (ra : inR a) (kt : 0 ≤ a → Wx E w nL PH tgt lv (st)) (kf : ¬ (0 ≤ a) → Wx E w nL PH (pc + 3) lv (st)) : Wx E w nL PH pc lv (.int (iI a) :: st) := by
  obtain ⟨p, l, e, R, s, m, args, below, meth, c, A0, k0, n0, QQ⟩ := E
  intro H locs ls hP hS hl
  exact lv_if_ge C.1 C.2.1 hd ht (fun h => kt ((iI_le inR_0 ra).mp h) H locs ls hP hS hl) (fun h => kf (fun q => h ((iI_le inR_0 ra).mpr q)) H locs ls hP hS hl)
theorem x_icmp_ge (C : CX E w cc nL own ret rm) {a b : Int} {off : Int} {tgt : Nat} (hd : decode cc pc = .ok (.if_icmp .ge off, 3)) (ht : (pc : Int) + off = (tgt : Int)) (ra : inR a) (rb : inR b) (kt : b ≤ a → Wx E w nL PH tgt lv (st)) (kf : ¬ (b ≤ a) → Wx E w nL PH (pc + 3) lv (st)) : Wx E w nL PH pc lv (.int (iI b) :: .int (iI a) :: st) := by
  obtain ⟨p, l, e, R, s, m, args, below, meth, c, A0, k0, n0, QQ⟩ := E
  intro H locs ls hP hS hl
  exact lv_icmp_ge C.1 C.2.1 hd ht (fun h => kt ((iI_le rb ra).mp h) H locs ls hP hS hl) (fun h => kf (fun q => h ((iI_le rb ra).mpr q)) H locs ls hP hS hl)
theorem x_if_gt (C : CX E w cc nL own ret rm) {a : Int} {off : Int} {tgt : Nat} (hd : decode cc pc = .ok (.ifCond .gt off, 3)) (ht : (pc : Int) + off = (tgt : Int)) (ra : inR a) (kt : 0 < a → Wx E w nL PH tgt lv (st)) (kf : ¬ (0 < a) → Wx E w nL PH (pc + 3) lv (st)) : Wx E w nL PH pc lv (.int (iI a) :: st) := by
  obtain ⟨p, l, e, R, s, m, args, below, meth, c, A0, k0, n0, QQ⟩ := E
  intro H locs ls hP hS hl
  exact lv_if_gt C.1 C.2.1 hd ht (fun h => kt ((iI_lt inR_0 ra).mp h) H locs ls hP hS hl) (fun h => kf (fun q => h ((iI_lt inR_0 ra).mpr q)) H locs ls hP hS hl)
theorem x_icmp_gt (C : CX E w cc nL own ret rm) {a b : Int} {off : Int} {tgt : Nat} (hd : decode cc pc = .ok (.if_icmp .gt off, 3)) (ht : (pc : Int) + off = (tgt : Int)) (ra : inR a) (rb : inR b) (kt : b < a → Wx E w nL PH tgt lv (st)) (kf : ¬ (b < a) → Wx E w nL PH (pc + 3) lv (st)) : Wx E w nL PH pc lv (.int (iI b) :: .int (iI a) :: st) := by
  obtain ⟨p, l, e, R, s, m, args, below, meth, c, A0, k0, n0, QQ⟩ := E
  intro H locs ls hP hS hl
  exact lv_icmp_gt C.1 C.2.1 hd ht (fun h => kt ((iI_lt rb ra).mp h) H locs ls hP hS hl) (fun h => kf (fun q => h ((iI_lt rb ra).mpr q)) H locs ls hP hS hl)
theorem x_if_le (C : CX E w cc nL own ret rm) {a : Int} {off : Int} {tgt : Nat} (hd : decode cc pc = .ok (.ifCond .le off, 3)) (ht : (pc : Int) + off = (tgt : Int)) (ra : inR a) (kt : a ≤ 0 → Wx E w nL PH tgt lv (st)) (kf : ¬ (a ≤ 0) → Wx E w nL PH (pc + 3) lv (st)) : Wx E w nL PH pc lv (.int (iI a) :: st) := by
  obtain ⟨p, l, e, R, s, m, args, below, meth, c, A0, k0, n0, QQ⟩ := E
  intro H locs ls hP hS hl
  exact lv_if_le C.1 C.2.1 hd ht (fun h => kt ((iI_le ra inR_0).mp h) H locs ls hP hS hl) (fun h => kf (fun q => h ((iI_le ra inR_0).mpr q)) H locs ls hP hS hl)
theorem x_icmp_le (C : CX E w cc nL own ret rm) {a b : Int} {off : Int} {tgt : Nat} (hd : decode cc pc = .ok (.if_icmp .le off, 3)) (ht : (pc : Int) + off = (tgt : Int)) (ra : inR a) (rb : inR b) (kt : a ≤ b → Wx E w nL PH tgt lv (st)) (kf : ¬ (a ≤ b) → Wx E w nL PH (pc + 3) lv (st)) : Wx E w nL PH pc lv (.int (iI b) :: .int (iI a) :: st) := by
  obtain ⟨p, l, e, R, s, m, args, below, meth, c, A0, k0, n0, QQ⟩ := E
  intro H locs ls hP hS hl
  exact lv_icmp_le C.1 C.2.1 hd ht (fun h => kt ((iI_le ra rb).mp h) H locs ls hP hS hl) (fun h => kf (fun q => h ((iI_le ra rb).mpr q)) H locs ls hP hS hl)
end XR
