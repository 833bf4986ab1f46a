/-! ===== ENGINE 1: whole numbers behind the machine's ints ===== -/
def iI (z : Int) : Int32 := Int32.ofInt z
def inR (z : Int) : Prop := -2147483648 ≤ z ∧ z ≤ 2147483647
theorem iI_toInt {z : Int} (h : inR z) : (iI z).toInt = z := Int32.toInt_ofInt_of_le (by have := h.1; omega) (by have := h.2; omega)
theorem iI_of (x : Int32) : iI x.toInt = x := Int32.ofInt_toInt x
theorem inR_toInt (x : Int32) : inR x.toInt := ⟨by have := Int32.le_toInt x; omega, by have := Int32.toInt_lt x; omega⟩
theorem iI_add (a b : Int) : iI a + iI b = iI (a + b) := (Int32.ofInt_add a b).symm
theorem iI_sub (a b : Int) : iI a - iI b = iI (a - b) := (Int32.ofInt_sub a b).symm
theorem iI_mul (a b : Int) : iI a * iI b = iI (a * b) := (Int32.ofInt_mul a b).symm
theorem iI_neg (a : Int) : - iI a = iI (-a) := (Int32.ofInt_neg a).symm
theorem iI_lt {a b : Int} (ha : inR a) (hb : inR b) : iI a < iI b ↔ a < b := by rw [Int32.lt_iff_toInt_lt, iI_toInt ha, iI_toInt hb]
theorem iI_le {a b : Int} (ha : inR a) (hb : inR b) : iI a ≤ iI b ↔ a ≤ b := by rw [Int32.le_iff_toInt_le, iI_toInt ha, iI_toInt hb]
theorem iI_eq {a b : Int} (ha : inR a) (hb : inR b) : iI a = iI b ↔ a = b := ⟨fun h => by have h1 := congrArg Int32.toInt h; rwa [iI_toInt ha, iI_toInt hb] at h1, fun h => h ▸ rfl⟩
theorem iI_zero : iI 0 = 0 := rfl
theorem inR_0 : inR 0 := ⟨by decide, by decide⟩
theorem iI_nat {z : Int} (h : inR z) : (iI z).toNatClampNeg = z.toNat := by
  show (iI z).toInt.toNat = z.toNat
  rw [iI_toInt h]
theorem iI_in {z : Int} {n : Nat} (h0 : 0 ≤ z) (h1 : z < n) (hn : n ≤ 2147483647) : vp_in (iI z) n := by
  have hr : inR z := ⟨by omega, by omega⟩
  exact vp_in_iff.mpr ⟨by rw [iI_toInt hr]; exact h0, by rw [iI_toInt hr]; exact h1⟩
theorem iI_div {a b : Int} (ha : 0 ≤ a) (hb : 0 < b) (ra : inR a) (rb : inR b) : iI a / iI b = iI (a / b) := by
  apply Int32.toInt_inj.mp
  have h1 : iI b ≠ -1 := by
    intro h
    have := congrArg Int32.toInt h
    rw [iI_toInt rb] at this
    have h2 : (-1 : Int32).toInt = -1 := by decide
    omega
  have hd0 : 0 ≤ a / b := Int.ediv_nonneg ha (by omega)
  have hd1 : a / b ≤ a := Int.ediv_le_self b ha
  rw [Int32.toInt_div_of_ne_right _ _ h1, iI_toInt ra, iI_toInt rb, iI_toInt ⟨by have := ra.1; omega, by have := ra.2; omega⟩, Int.tdiv_eq_ediv_of_nonneg ha]
theorem iI_ne0 {b : Int} (hb : ¬ b = 0) (rb : inR b) : ¬ iI b = 0 := fun h => hb ((iI_eq rb inR_0).mp h)
theorem iI_rem {a b : Int} (ha : 0 ≤ a) (hb : 0 < b) (ra : inR a) (rb : inR b) : iI a - iI a / iI b * iI b = iI (a % b) := by
  rw [iI_div ha hb ra rb, iI_mul, iI_sub]
  congr 1
  have := Int.emod_add_mul_ediv a b
  rw [Int.mul_comm] at this
  omega
/-! ===== ENGINE 2: a world of fixed shape, its contents by cell and place ===== -/
abbrev XT : Type := (Nat → Nat → Int) × (Nat → Nat → Int64) × (Nat → Nat → Option Nat)
/-- class numbers and slots; classes; how many cells; their shapes (kind, class, length); kinds of fields; addresses; array classes, element types -/
abbrev WT : Type := va_G × List vw_C × Nat × (Nat → Nat × Nat × Nat) × (Nat → Nat → Nat) × (Nat → Nat) × (Nat → ClassId) × (Nat → FieldType)
abbrev wD (w : WT) : va_G := w.1
abbrev wC (w : WT) : List vw_C := w.2.1
abbrev wN (w : WT) : Nat := w.2.2.1
abbrev wS (w : WT) : Nat → Nat × Nat × Nat := w.2.2.2.1
abbrev wF (w : WT) : Nat → Nat → Nat := w.2.2.2.2.1
abbrev wA (w : WT) : Nat → Nat := w.2.2.2.2.2.1
abbrev wY (w : WT) : Nat → ClassId := w.2.2.2.2.2.2.1
abbrev wT (w : WT) : Nat → FieldType := w.2.2.2.2.2.2.2
/-- a value with cells by their numbers, as the machine has it -/
def czV (w : WT) (v : Value) : Value := match v with
  | .ref k => .ref (wA w k)
  | v => v
theorem czV_cat (w : WT) (v : Value) : (czV w v).category = v.category := by cases v <;> rfl
theorem czV_rf (w : WT) (r : Option Nat) : czV w (va_rf r) = va_rf (r.map (wA w)) := by cases r <;> rfl
def fvK (kd : Nat) (a : Int) (b : Int64) (c : Value) : Value := match kd with
  | 0 => .int (iI a)
  | 1 => .long b
  | _ => c
def fvX (w : WT) (X : XT) (k i : Nat) : Value := fvK (wF w (wS w k).2.1 i) (X.1 k i) (X.2.1 k i) (va_rf ((X.2.2 k i).map (wA w)))
def ceK (kd ci n : Nat) (c : ClassId) (fs : List Value) (fi : Nat → Int32) (fl : Nat → Int64) (fr : Nat → Option Nat) : va_E := match kd with
  | 0 => .inr (ci, fs)
  | 1 => .inl (c, n, .inl fi)
  | 2 => .inl (c, n, .inr (.inl fl))
  | _ => .inl (c, n, .inr (.inr (.inr (.inr fr))))
def ceX (w : WT) (X : XT) (k : Nat) : va_E := ceK (wS w k).1 (wS w k).2.1 (wS w k).2.2 (wY w k) ((List.range (wS w k).2.2).map (fvX w X k)) (fun i => iI (X.1 k i)) (fun i => X.2.1 k i) (fun i => cond (Nat.blt i (wS w k).2.2) ((X.2.2 k i).map (wA w)) none)
def wsX (w : WT) (X : XT) : va_W := (List.range (wN w)).map (fun k => (wA w k, ceX w X k))
theorem wsX_at {w : WT} {X : XT} {k : Nat} (hk : k < wN w) : (wsX w X)[k]? = some (wA w k, ceX w X k) := by
  unfold wsX
  rw [List.getElem?_map, List.getElem?_range hk]
  rfl
theorem wsX_len {w : WT} {X : XT} : (wsX w X).length = wN w := by simp [wsX]
theorem wsX_inv {w : WT} {X : XT} {k : Nat} {q : Nat × va_E} (h : (wsX w X)[k]? = some q) : k < wN w ∧ q = (wA w k, ceX w X k) := by
  have hk : k < wN w := by rw [← wsX_len (w := w) (X := X)]; exact (List.getElem?_eq_some_iff.mp h).1
  rw [wsX_at hk] at h
  exact ⟨hk, (Option.some.inj h).symm⟩
theorem wsX_set {w : WT} {X X' : XT} {k : Nat} (hk : k < wN w) (ho : ∀ j, j ≠ k → ceX w X' j = ceX w X j) : (wsX w X).set k (wA w k, ceX w X' k) = wsX w X' := by
  apply List.ext_getElem?
  intro j
  by_cases hj : j = k
  · subst hj
    rw [List.getElem?_set_self (by rw [wsX_len]; exact hk), wsX_at hk]
  · rw [List.getElem?_set_ne (Ne.symm hj)]
    by_cases hl : j < wN w
    · rw [wsX_at hl, wsX_at hl, ho j hj]
    · rw [List.getElem?_eq_none (by rw [wsX_len]; omega), List.getElem?_eq_none (by rw [wsX_len]; omega)]
def upI (X : XT) (k i : Nat) (z : Int) : XT := (fun a b => cond (Nat.beq a k && Nat.beq b i) z (X.1 a b), X.2)
def upL (X : XT) (k i : Nat) (z : Int64) : XT := (X.1, fun a b => cond (Nat.beq a k && Nat.beq b i) z (X.2.1 a b), X.2.2)
def upR (X : XT) (k i : Nat) (z : Option Nat) : XT := (X.1, X.2.1, fun a b => cond (Nat.beq a k && Nat.beq b i) z (X.2.2 a b))
theorem beq_ne {a b : Nat} (h : a ≠ b) : Nat.beq a b = false := by
  cases hb : Nat.beq a b with
  | false => rfl
  | true => exact absurd (Nat.eq_of_beq_eq_true hb) h
theorem beq_self (a : Nat) : Nat.beq a a = true := Nat.beq_refl a
theorem upI_o {w : WT} {X : XT} {k i : Nat} {z : Int} : ∀ j, j ≠ k → ceX w (upI X k i z) j = ceX w X j := by
  intro j hj
  have h1 : ∀ b, (upI X k i z).1 j b = X.1 j b := fun b => by
    show cond (Nat.beq j k && Nat.beq b i) z (X.1 j b) = X.1 j b
    rw [beq_ne hj]; rfl
  have h2 : fvX w (upI X k i z) j = fvX w X j := by
    funext b
    unfold fvX
    rw [h1 b]
    rfl
  unfold ceX
  rw [h2]
  simp only [h1]
  rfl
theorem upL_o {w : WT} {X : XT} {k i : Nat} {z : Int64} : ∀ j, j ≠ k → ceX w (upL X k i z) j = ceX w X j := by
  intro j hj
  have h1 : ∀ b, (upL X k i z).2.1 j b = X.2.1 j b := fun b => by
    show cond (Nat.beq j k && Nat.beq b i) z (X.2.1 j b) = X.2.1 j b
    rw [beq_ne hj]; rfl
  have h2 : fvX w (upL X k i z) j = fvX w X j := by
    funext b
    unfold fvX
    rw [h1 b]
    rfl
  unfold ceX
  rw [h2]
  simp only [h1]
  rfl
theorem upR_o {w : WT} {X : XT} {k i : Nat} {z : Option Nat} : ∀ j, j ≠ k → ceX w (upR X k i z) j = ceX w X j := by
  intro j hj
  have h1 : ∀ b, (upR X k i z).2.2 j b = X.2.2 j b := fun b => by
    show cond (Nat.beq j k && Nat.beq b i) z (X.2.2 j b) = X.2.2 j b
    rw [beq_ne hj]; rfl
  have h2 : fvX w (upR X k i z) j = fvX w X j := by
    funext b
    unfold fvX
    rw [h1 b]
    rfl
  unfold ceX
  rw [h2]
  simp only [h1]
  rfl
theorem upI_s (X : XT) (k i : Nat) (z : Int) (b : Nat) : (upI X k i z).1 k b = if b = i then z else X.1 k b := by
  show cond (Nat.beq k k && Nat.beq b i) z (X.1 k b) = _
  rw [beq_self]
  by_cases h : b = i
  · subst h; rw [beq_self]; simp
  · rw [beq_ne h]; simp [h]
theorem upL_s (X : XT) (k i : Nat) (z : Int64) (b : Nat) : (upL X k i z).2.1 k b = if b = i then z else X.2.1 k b := by
  show cond (Nat.beq k k && Nat.beq b i) z (X.2.1 k b) = _
  rw [beq_self]
  by_cases h : b = i
  · subst h; rw [beq_self]; simp
  · rw [beq_ne h]; simp [h]
theorem upR_s (X : XT) (k i : Nat) (z : Option Nat) (b : Nat) : (upR X k i z).2.2 k b = if b = i then z else X.2.2 k b := by
  show cond (Nat.beq k k && Nat.beq b i) z (X.2.2 k b) = _
  rw [beq_self]
  by_cases h : b = i
  · subst h; rw [beq_self]; simp
  · rw [beq_ne h]; simp [h]
theorem map_set {α : Type} (f g : Nat → α) (n i : Nat) (v : α) (hg : ∀ b, g b = if b = i then v else f b) : ((List.range n).map f).set i v = (List.range n).map g := by
  apply List.ext_getElem?
  intro j
  by_cases hl : j < n
  · by_cases hj : j = i
    · subst hj
      rw [List.getElem?_set_self (by simpa using hl), List.getElem?_map, List.getElem?_range hl]
      simp [hg]
    · rw [List.getElem?_set_ne (Ne.symm hj), List.getElem?_map, List.getElem?_map, List.getElem?_range hl]
      simp [hg, hj]
  · rw [List.getElem?_eq_none (by simp; omega), List.getElem?_eq_none (by simp; omega)]
/-- what is fixed of a world at a state: the tables of its classes and arrays, its addresses apart -/
def lw_nl : List (String × Nat × MethodName × String) := lw_tbl.filterMap (fun c => match c with
  | .methodLinkNest a i y h => some (a, i, y, h)
  | _ => none)
def lw_oc : List String := lw_tbl.filterMap (fun c => match c with
  | .arrayOver (.object C) => some C
  | _ => none)
def lw_oa : List FieldType := lw_tbl.filterMap (fun c => match c with
  | .arrayOver (.array t) => some t
  | _ => none)
def FNW (s : State) : Prop := (∀ q ∈ lw_nl, va_Nw (.methodLinkNest q.1 q.2.1 q.2.2.1 q.2.2.2) s) ∧ (∀ C ∈ lw_oc, va_AO C s) ∧ (∀ t ∈ lw_oa, (Cond.arrayOver (.array t)).before #[] s = true)
theorem FNW.warm {u U : State} (hW : u.WarmedH U.vm) (h : FNW u) : FNW U := ⟨fun q hq => va_Nw.warmM hW (h.1 q hq), fun C hC => va_AO.moved hW.alike (h.2.1 C hC), fun t ht => over_moved hW.alike (h.2.2 t ht)⟩
theorem FNW.same {u U : State} (hv : u.vm = U.vm) (h : FNW u) : FNW U := by
  have hA : u.vm.Alike U.vm := hv ▸ Vm.Alike.refl u.vm
  exact ⟨fun q hq => va_Nw.same rfl hv (h.1 q hq), fun C hC => va_AO.moved hA (h.2.1 C hC), fun t ht => over_moved hA (h.2.2 t ht)⟩
def FxW (w : WT) (s : State) : Prop := (∀ (c : Nat) (q : vw_C), (wC w)[c]? = some q → u_Kn s q.1 q.2.1 q.2.2 ((wD w).1 c) ((wD w).2 c)) ∧ (∀ k, k < wN w → (wS w k).1 ≠ 0 → ArrOfT s (wY w k) (wT w k) ∧ va_RA s (wY w k) (wT w k)) ∧ (∀ i j, i < wN w → j < wN w → wA w i = wA w j → i = j) ∧ FNW s
def AW (w : WT) : Nat → Prop := fun q => ∃ k, k < wN w ∧ q = wA w k
theorem FxW.warm {w : WT} {u U : State} (hW : u.WarmedH U.vm) (h : FxW w u) : FxW w U := ⟨fun c q hq => u_Kn_moved hW.alike (h.1 c q hq), fun k hk hs => ⟨arrOfT_moved hW.alike (h.2.1 k hk hs).1, (h.2.1 k hk hs).2.moved hW.alike⟩, h.2.2.1, h.2.2.2.warm hW⟩
theorem FxW.same {w : WT} {u U : State} (hv : u.vm = U.vm) (h : FxW w u) : FxW w U := by
  have hA : u.vm.Alike U.vm := hv ▸ Vm.Alike.refl u.vm
  exact ⟨fun c q hq => u_Kn_moved hA (h.1 c q hq), fun k hk hs => ⟨arrOfT_moved hA (h.2.1 k hk hs).1, (h.2.1 k hk hs).2.moved hA⟩, h.2.2.1, h.2.2.2.same hv⟩
theorem FxW.K0 {w : WT} {s : State} (h : FxW w s) : va_K (wD w) (wC w) [] s := ⟨h.1, fun k q hk => by simp at hk⟩
theorem FxW.K1 {w : WT} {s : State} (h : FxW w s) {k : Nat} (hk : k < wN w) (hs : (wS w k).1 ≠ 0) : va_K (wD w) (wC w) [(wY w k, wT w k)] s := by
  refine ⟨h.1, fun j q hj => ?_⟩
  cases j with
  | zero => cases hj; exact h.2.1 k hk hs
  | succ j => simp at hj
theorem FxW.D {w : WT} {s : State} (h : FxW w s) (X : XT) : va_D (AW w) (wsX w X) := by
  refine ⟨fun i j a b hi hj hab => ?_, fun k q hk => ?_⟩
  · obtain ⟨h1, rfl⟩ := wsX_inv hi
    obtain ⟨h2, rfl⟩ := wsX_inv hj
    exact h.2.2.1 i j h1 h2 hab
  · obtain ⟨h1, rfl⟩ := wsX_inv hk
    exact ⟨k, h1, rfl⟩
theorem FxW.DA {w : WT} {s : State} {A0 : Nat → Prop} (h : FxW w s) (hA : ∀ q, AW w q → A0 q) (X : XT) : va_D A0 (wsX w X) := (h.D X).weaken (fun _ q _ hq => hA q.1 hq)
/-! ===== ENGINE 3: locals as a list by place ===== -/
def isC2 (v : Value) : Bool := match v with
  | .long _ => true
  | .double _ => true
  | _ => false
theorem isC2_cat (v : Value) : isC2 v = (v.category == 2) := by cases v <;> rfl
def lkp : List (Nat × Value) → Nat → Option Value
  | [], _ => none
  | (j, v) :: t, i => cond (Nat.beq j i) (some v) (lkp t i)
def lrm1 (i : Nat) : List (Nat × Value) → List (Nat × Value)
  | [] => []
  | (j, v) :: t => cond (Nat.beq j i || (Nat.beq (j + 1) i && isC2 v)) (lrm1 i t) ((j, v) :: lrm1 i t)
def lrm2 (i : Nat) : List (Nat × Value) → List (Nat × Value)
  | [] => []
  | (j, v) :: t => cond (Nat.beq j i || (Nat.beq j (i + 1) || (Nat.beq (j + 1) i && isC2 v))) (lrm2 i t) ((j, v) :: lrm2 i t)
def lst1 (i : Nat) (v : Value) (l : List (Nat × Value)) : List (Nat × Value) := (i, v) :: lrm1 i l
def lst2 (i : Nat) (v : Value) (l : List (Nat × Value)) : List (Nat × Value) := (i, v) :: lrm2 i l
def lvC (w : WT) (l : List (Nat × Value)) : List (Nat × Value) := l.map (fun q => (q.1, czV w q.2))
theorem lkp_mem : ∀ {l : List (Nat × Value)} {i : Nat} {v : Value}, lkp l i = some v → (i, v) ∈ l
  | [], _, _, h => by cases h
  | (j, u) :: t, i, v, h => by
    unfold lkp at h
    cases hb : Nat.beq j i with
    | true =>
      rw [hb] at h
      have := Nat.eq_of_beq_eq_true hb
      subst this
      cases h
      exact List.mem_cons_self
    | false =>
      rw [hb] at h
      exact List.mem_cons_of_mem _ (lkp_mem h)
theorem lkp_at {w : WT} {ls : Array Slot} {nL : Nat} {l : List (Nat × Value)} {i : Nat} {v : Value} (h : lv_has ls nL (lvC w l)) (hk : lkp l i = some v) : ls[i]? = some (.val (czV w v)) :=
  h.2.2 (i, czV w v) (List.mem_map.mpr ⟨(i, v), lkp_mem hk, rfl⟩)
theorem beq_iff (a b : Nat) : (a == b) = Nat.beq a b := by
  by_cases h : a = b
  · subst h; rw [beq_self]; exact beq_self_eq_true a
  · rw [beq_ne h]; exact beq_eq_false_iff_ne.mpr h
theorem lrm1_eq (w : WT) (i : Nat) : ∀ l : List (Nat × Value), (lvC w l).filter (fun q => !(q.1 == i) && !(q.1 + 1 == i && q.2.category == 2)) = lvC w (lrm1 i l)
  | [] => rfl
  | (j, v) :: t => by
    have ih := lrm1_eq w i t
    show List.filter _ ((j, czV w v) :: lvC w t) = lvC w (cond (Nat.beq j i || (Nat.beq (j + 1) i && isC2 v)) (lrm1 i t) ((j, v) :: lrm1 i t))
    rw [List.filter_cons]
    simp only [beq_iff, czV_cat] at ih ⊢
    rw [ih, isC2_cat, beq_iff v.category 2]
    cases Nat.beq j i <;> cases Nat.beq (j + 1) i <;> cases Nat.beq v.category 2 <;> rfl
theorem lrm2_eq (w : WT) (i : Nat) : ∀ l : List (Nat × Value), (lvC w l).filter (fun q => !(q.1 == i) && (!(q.1 == i + 1) && !(q.1 + 1 == i && q.2.category == 2))) = lvC w (lrm2 i l)
  | [] => rfl
  | (j, v) :: t => by
    have ih := lrm2_eq w i t
    show List.filter _ ((j, czV w v) :: lvC w t) = lvC w (cond (Nat.beq j i || (Nat.beq j (i + 1) || (Nat.beq (j + 1) i && isC2 v))) (lrm2 i t) ((j, v) :: lrm2 i t))
    rw [List.filter_cons]
    simp only [beq_iff, czV_cat] at ih ⊢
    rw [ih, isC2_cat, beq_iff v.category 2]
    cases Nat.beq j i <;> cases Nat.beq j (i + 1) <;> cases Nat.beq (j + 1) i <;> cases Nat.beq v.category 2 <;> rfl
def lpick (l : List (Nat × Value)) (is : List Nat) : List (Nat × Value) := is.filterMap (fun i => (lkp l i).map (fun v => (i, v)))
theorem lpick_has {w : WT} {ls : Array Slot} {nL : Nat} {l : List (Nat × Value)} (h : lv_has ls nL (lvC w l)) (is : List Nat) : lv_has ls nL (lvC w (lpick l is)) := by
  refine ⟨h.1, h.2.1, fun q hq => ?_⟩
  obtain ⟨⟨i, v⟩, h1, rfl⟩ := List.mem_map.mp hq
  obtain ⟨j, -, h2⟩ := List.mem_filterMap.mp h1
  cases hk : lkp l j with
  | none => rw [hk] at h2; cases h2
  | some u =>
    rw [hk] at h2
    cases h2
    exact lkp_at h hk
