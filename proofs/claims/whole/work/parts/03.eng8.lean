/-! ===== ENGINE 10: final fields, stores of references, constructors' contracts ===== -/
def PFw (w : WT) (own : String) (idx ci n i fk : Nat) (ty : FieldType) : Prop := ∃ (C : String) (T : u_T) (ty0 : Nat → FieldType), (wC w)[ci]? = some (C, T, n) ∧ i < n ∧ wF w ci i = fk ∧ (∀ x ∈ u_ws C T n, x ∈ lw_g) ∧ Cond.fieldLink own idx C (T i).2.1 (T i).2.2.1 ∈ lw_g ∧ (T i).1 = C ∧ C = own ∧ (∀ k, k < n → parseFieldDescriptor (T k).2.2.1 = some (ty0 k)) ∧ (∀ a, a < n → ∀ b, b < n → a ≠ b → (T a).2.1 ≠ (T b).2.1) ∧ (T i).2.2.2 = true ∧ ty0 i = ty
theorem ar_upR (w : WT) (X : XT) (k i n : Nat) (z : Nat) (hi : i < n) : va_up (fun b => cond (Nat.blt b n) ((X.2.2 k b).map (wA w)) none) i (some (wA w z)) = fun b => cond (Nat.blt b n) (((upR X k i (some z)).2.2 k b).map (wA w)) none := by
  funext b
  rw [upR_s]
  unfold va_up
  by_cases h : b = i
  · subst h
    have hb : Nat.blt b n = true := Nat.ble_eq_true_of_le hi
    simp [hb]
  · simp [h]
section XF
variable {E : ET} {w : WT} {Qp : Option Value → XT → Prop} {nL : Nat} {X : XT} {PH : Heap → Prop} {pc : Nat} {lv : List (Nat × Value)} {st : List Value} {cc : ByteArray} {own : String} {ret : Option FieldType} {rm : Room}
theorem x_putF (C : CX E w cc nL own ret rm) (hI : INIT E) {k ci n i idx j : Nat} {ty : FieldType} (hF : PFw w own idx ci n i 2 ty) (hty : (∃ q, ty = .object q) ∨ ∃ q, ty = .array q) (hk : k < wN w) (hs : wS w k = (0, ci, n)) (hd : decode cc pc = .ok (.putfield idx, 3)) (kk : Wx E w nL (PX w (upR X k i (some j))) (pc + 3) lv st) : Wx E w nL (PX w X) pc lv (.ref j :: .ref k :: st) := by
  obtain ⟨p, l, e, R, s, m, args, below, meth, c, A0, k0, n0, QQ⟩ := E
  intro H locs ls hP hS hl
  obtain ⟨Cn, T, ty0, h1, h2, h3, h4, h5, h6, h6b, h7, h8, h9, h10⟩ := hF
  have he := wsX_at (X := X) hk
  rw [ceX_obj hs] at he
  have hn : narrow ty (.ref (wA w j)) = .ref (wA w j) := by rcases hty with ⟨q, rfl⟩ | ⟨q, rfl⟩ <;> rfl
  have hf : fits ty (.ref (wA w j)) = true := by rcases hty with ⟨q, rfl⟩ | ⟨q, rfl⟩ <;> rfl
  refine va_putF (v := .ref (wA w j)) (ty := ty) C.1 C.2.1 C.2.2.2.2.1 h4 ty0 h7 h8 C.2.2.2.1 C.2.2.2.2.2.1.K0 hP (C.2.2.2.2.2.1.DA C.2.2.2.2.2.2.2.2.2.1 X) hS k he h1 i h2 (C.2.2.2.2.1 _ h5) (fun x hx => by rw [h6] at hx; exact hx) h9 hI (by rw [h6, h6b]) (by rw [h7 i h2, h10]) hn hf (by simpa using h2) hd (fun H1 locs1 q1 q2 q3 => kk H1 locs1 ls ?_ q3 hl)
  have e1 : Value.ref (wA w j) = va_rf ((some j).map (wA w)) := rfl
  rw [e1, ce_upR hs h3, ← ceX_obj (X := upR X k i (some j)) hs, wsX_set hk upR_o] at q1
  exact q1
theorem x_putN (C : CX E w cc nL own ret rm) (hI : INIT E) {k ci n i idx : Nat} {ty : FieldType} (hF : PFw w own idx ci n i 2 ty) (hty : (∃ q, ty = .object q) ∨ ∃ q, ty = .array q) (hk : k < wN w) (hs : wS w k = (0, ci, n)) (hd : decode cc pc = .ok (.putfield idx, 3)) (kk : Wx E w nL (PX w (upR X k i none)) (pc + 3) lv st) : Wx E w nL (PX w X) pc lv (.null :: .ref k :: st) := by
  obtain ⟨p, l, e, R, s, m, args, below, meth, c, A0, k0, n0, QQ⟩ := E
  intro H locs ls hP hS hl
  obtain ⟨Cn, T, ty0, h1, h2, h3, h4, h5, h6, h6b, h7, h8, h9, h10⟩ := hF
  have he := wsX_at (X := X) hk
  rw [ceX_obj hs] at he
  have hn : narrow ty .null = .null := by rcases hty with ⟨q, rfl⟩ | ⟨q, rfl⟩ <;> rfl
  have hf : fits ty .null = true := by rcases hty with ⟨q, rfl⟩ | ⟨q, rfl⟩ <;> rfl
  refine va_putF (v := .null) (ty := ty) C.1 C.2.1 C.2.2.2.2.1 h4 ty0 h7 h8 C.2.2.2.1 C.2.2.2.2.2.1.K0 hP (C.2.2.2.2.2.1.DA C.2.2.2.2.2.2.2.2.2.1 X) hS k he h1 i h2 (C.2.2.2.2.1 _ h5) (fun x hx => by rw [h6] at hx; exact hx) h9 hI (by rw [h6, h6b]) (by rw [h7 i h2, h10]) hn hf (by simpa using h2) hd (fun H1 locs1 q1 q2 q3 => kk H1 locs1 ls ?_ q3 hl)
  have e1 : Value.null = va_rf ((none : Option Nat).map (wA w)) := rfl
  rw [e1, ce_upR hs h3, ← ceX_obj (X := upR X k i none) hs, wsX_set hk upR_o] at q1
  exact q1
theorem x_aast (C : CX E w cc nL own ret rm) {k q n j ci nn : Nat} {z : Int} {Cn : String} {T : u_T} (hk : k < wN w) (hs : wS w k = (3, q, n)) (ht : wT w k = .object Cn) (hj : j < wN w) (hsj : wS w j = (0, ci, nn)) (hcl : (wC w)[ci]? = some (Cn, T, nn)) (hn : n ≤ 2147483647) (h0 : 0 ≤ z) (h1 : z < n) (hd : decode cc pc = .ok (.aastore, 1)) (kk : Wx E w nL (PX w (upR X k z.toNat (some j))) (pc + 1) lv st) : Wx E w nL (PX w X) pc lv (.ref j :: .int (iI z) :: .ref k :: st) := by
  obtain ⟨p, l, e, R, s, m, args, below, meth, c, A0, k0, n0, QQ⟩ := E
  intro H locs ls hP hS hl
  have he := wsX_at (X := X) hk
  rw [ceX_arrR hs] at he
  have hej := wsX_at (X := X) hj
  rw [ceX_obj hsj] at hej
  refine va_astq (r := (Cn, T, nn)) C.1 C.2.1 (C.2.2.2.2.2.1.K1 hk (by rw [hs]; show (3 : Nat) ≠ 0; decide)) hP (C.2.2.2.2.2.1.DA C.2.2.2.2.2.2.2.2.2.1 X) hS k 0 j ci he (by rw [ht]; rfl) hej hcl (iI_in h0 h1 hn) hd (fun H1 locs1 q1 q2 q3 => kk H1 locs1 ls ?_ q3 hl)
  rw [iI_nat ⟨by omega, by omega⟩, ar_upR w X k z.toNat n j (by omega), ← ceX_arrR (X := upR X k z.toNat (some j)) hs, wsX_set hk upR_o] at q1
  exact q1
/-- contents that differ in cell k alone, and there not where it is seen -/
def SB (k : Nat) (X Y : XT) : Prop := ∀ j, j ≠ k → (∀ i, X.1 j i = Y.1 j i) ∧ (∀ i, X.2.1 j i = Y.2.1 j i) ∧ ∀ i, X.2.2 j i = Y.2.2 j i
theorem SB_dz {k : Nat} {X : XT} : SB k (dz k X) X := fun _ h => dz_o h
theorem SB_upR {k i : Nat} {v : Option Nat} {X Y : XT} (h : SB k X Y) : SB k (upR X k i v) Y := fun j hj => ⟨(h j hj).1, (h j hj).2.1, fun b => by
  show cond (Nat.beq j k && Nat.beq b i) v (X.2.2 j b) = _
  rw [beq_ne hj]; exact (h j hj).2.2 b⟩
theorem SB_upI {k i : Nat} {v : Int} {X Y : XT} (h : SB k X Y) : SB k (upI X k i v) Y := fun j hj => ⟨fun b => by
  show cond (Nat.beq j k && Nat.beq b i) v (X.1 j b) = _
  rw [beq_ne hj]; exact (h j hj).1 b, (h j hj).2.1, (h j hj).2.2⟩
/-- objects and arrays of references: contents compared place by place -/
def eqb (n k : Nat) (X Y : XT) : Bool := (List.range n).all (fun i => decide (X.1 k i = Y.1 k i) && (decide (X.2.1 k i = Y.2.1 k i) && decide (X.2.2 k i = Y.2.2 k i)))
theorem PX_same {w : WT} {X Y : XT} {k kd q n : Nat} (hsb : SB k X Y) (hs : wS w k = (kd, q, n)) (hkd : kd = 0 ∨ kd = 3) (he : eqb n k X Y = true) {H : Heap} (h : PX w X H) : PX w Y H := by
  have e1 : wsX w X = wsX w Y := by
    unfold wsX
    apply List.map_congr_left
    intro j _
    congr 1
    by_cases hj : j = k
    · subst hj
      have hp : ∀ i, i < n → X.1 j i = Y.1 j i ∧ X.2.1 j i = Y.2.1 j i ∧ X.2.2 j i = Y.2.2 j i := fun i hi => by
        have := List.all_eq_true.mp he i (List.mem_range.mpr hi)
        simp only [Bool.and_eq_true, decide_eq_true_eq] at this
        exact this
      rcases hkd with rfl | rfl
      · rw [ceX_obj hs, ceX_obj hs]
        congr 2
        apply List.map_congr_left
        intro i hi
        have := hp i (List.mem_range.mp hi)
        unfold fvX
        rw [this.1, this.2.1, this.2.2]
      · rw [ceX_arrR hs, ceX_arrR hs]
        congr 6
        funext i
        cases hb : Nat.blt i n with
        | false => rfl
        | true => rw [(hp i (Nat.le_of_ble_eq_true hb)).2.2]
    · have h3 := hsb j hj
      have hf : fvX w X j = fvX w Y j := by
        funext i
        unfold fvX
        rw [h3.1, h3.2.1, h3.2.2]
      unfold ceX
      rw [hf]
      simp only [h3.1, h3.2.1, h3.2.2]
  rw [show PX w Y H = va_P (wD w) (wC w) (wsX w Y) H from rfl, ← e1]
  exact h
/-- arrays of numbers: contents the same -/
theorem PX_num {w : WT} {X Y : XT} {k : Nat} (hsb : SB k X Y) (h1 : ∀ i, X.1 k i = Y.1 k i) (h2 : ∀ i, X.2.1 k i = Y.2.1 k i) (h3 : ∀ i, X.2.2 k i = Y.2.2 k i) {H : Heap} (h : PX w X H) : PX w Y H := by
  have e1 : wsX w X = wsX w Y := by
    unfold wsX
    apply List.map_congr_left
    intro j _
    congr 1
    have hj : (∀ i, X.1 j i = Y.1 j i) ∧ (∀ i, X.2.1 j i = Y.2.1 j i) ∧ ∀ i, X.2.2 j i = Y.2.2 j i := by
      by_cases hj : j = k
      · subst hj; exact ⟨h1, h2, h3⟩
      · exact hsb j hj
    have hf : fvX w X j = fvX w Y j := by
      funext i
      unfold fvX
      rw [hj.1, hj.2.1, hj.2.2]
    unfold ceX
    rw [hf]
    simp only [hj.1, hj.2.1, hj.2.2]
  rw [show PX w Y H = va_P (wD w) (wC w) (wsX w Y) H from rfl, ← e1]
  exact h
theorem Wx_PH {PH' : Heap → Prop} (h : ∀ H, PH H → PH' H) (k : Wx E w nL PH' pc lv st) : Wx E w nL PH pc lv st := by
  obtain ⟨p, l, e, R, s, m, args, below, meth, c, A0, k0, n0, QQ⟩ := E
  intro H locs ls hP hS hl
  exact k H locs ls (h H hP) hS hl
end XF
/-- a world at a stage of its making: the first n cells of a shape -/
def GW (mk : Nat → (Nat → Nat) → (Nat → ClassId) → WT) : Prop := ∀ n ad cA, wN (mk n ad cA) = n ∧ wA (mk n ad cA) = ad ∧ wY (mk n ad cA) = cA
def QG (mk : Nat → (Nat → Nat) → (Nat → ClassId) → WT) (n n' : Nat) (ad : Nat → Nat) (A0 : Nat → Prop) (Y : XT) : Array Value → State → Outcome → State → Prop := fun _ st oc t =>
  (∃ (ad' : Nat → Nat) (cA' : Nat → ClassId), oc = .returned none ∧ (∀ k, k < n → ad' k = ad k) ∧ PX (mk n' ad' cA') Y t.heap ∧ FxW (mk n' ad' cA') t ∧ (∀ q, AW (mk n' ad' cA') q → A0 q)) ∧ va_F A0 st t
def A0G (w : WT) (sz : Nat) : Nat → Prop := fun q => AW w q ∨ sz ≤ q
/-- a constructor's contract: from a stage to a later one -/
def MetG (mk : Nat → (Nat → Nat) → (Nat → ClassId) → WT) (y : MethodName) (b : ByteArray) (mL fr lo mc ms : Nat) (av : List Value) (n n' : Nat) (X Y : XT) : Prop :=
  ∀ (l : Launch) (sz : Nat) (ad : Nat → Nat) (cA : Nat → ClassId), Met l y (Cond.code y b mL none :: lw_g) { frames := fr, cells := mc, slots := ms, locals := lo } (va_Pc (av.map (czV (mk n ad cA))) (fun U => U.heap.size = sz ∧ PX (mk n ad cA) X U.heap ∧ FxW (mk n ad cA) U)) (QG mk n n' ad (A0G (mk n ad cA) sz) Y) mc ms (A0G (mk n ad cA) sz)
def EG (E : ET) (mk : Nat → (Nat → Nat) → (Nat → ClassId) → WT) (n n' : Nat) (ad : Nat → Nat) (Y : XT) : Prop := match E with
  | (_, _, _, _, s, _, args, below, _, _, A0, k0, n0, QQ) => QQ = MQ below (QG mk n n' ad A0 Y) args s k0 n0 A0
