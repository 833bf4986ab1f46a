/-! ===== ENGINE 10: final fields, stores of references, constructors' contracts ===== -/
def PFw (w : WT) (own : String) (idx ci n i fk : Nat) (ty : FieldType) : Prop := ∃ (C : String) (T : u_T) (ty0 : Nat → FieldType), (wC w)[ci]? = some (C, T, n) ∧ i < n ∧ wF w ci i = fk ∧ (∀ x ∈ u_ws C T n, x ∈ lw_g) ∧ Cond.fieldLink own idx C (T i).2.1 (T i).2.2.1 ∈ lw_g ∧ (T i).1 = C ∧ C = own ∧ (∀ k, k < n → parseFieldDescriptor (T k).2.2.1 = some (ty0 k)) ∧ (∀ a, a < n → ∀ b, b < n → a ≠ b → (T a).2.1 ≠ (T b).2.1) ∧ (T i).2.2.2 = true ∧ ty0 i = ty
theorem ar_upR (w : WT) (X : XT) (k i n : Nat) (z : Nat) (hi : i < n) : va_up (fun b => cond (Nat.blt b n) ((X.2.2 k b).map (wA w)) none) i (some (wA w z)) = fun b => cond (Nat.blt b n) (((upR X k i (some z)).2.2 k b).map (wA w)) none := by
  funext b
  rw [upR_s]
  unfold va_up
  by_cases h : b = i
  · subst h
    have hb : Nat.blt b n = true := Nat.ble_eq_true_of_le hi
    simp [hb]
  · simp [h]
section XF
variable {E : ET} {w : WT} {Qp : Option Value → XT → Prop} {nL : Nat} {X : XT} {PH : Heap → Prop} {pc : Nat} {lv : List (Nat × Value)} {st : List Value} {cc : ByteArray} {own : String} {ret : Option FieldType} {rm : Room}
theorem x_putF (C : CX E w cc nL own ret rm) (hI : INIT E) {k ci n i idx j : Nat} {ty : FieldType} (hF : PFw w own idx ci n i 2 ty) (hty : (∃ q, ty = .object q) ∨ ∃ q, ty = .array q) (hk : k < wN w) (hs : wS w k = (0, ci, n)) (hd : decode cc pc = .ok (.putfield idx, 3)) (kk : Wx E w nL (PX w (upR X k i (some j))) (pc + 3) lv st) : Wx E w nL (PX w X) pc lv (.ref j :: .ref k :: st) := by
  obtain ⟨p, l, e, R, s, m, args, below, meth, c, A0, k0, n0, QQ⟩ := E
  intro H locs ls hP hS hl
  obtain ⟨Cn, T, ty0, h1, h2, h3, h4, h5, h6, h6b, h7, h8, h9, h10⟩ := hF
  have he := wsX_at (X := X) hk
  rw [ceX_obj hs] at he
  have hn : narrow ty (.ref (wA w j)) = .ref (wA w j) := by rcases hty with ⟨q, rfl⟩ | ⟨q, rfl⟩ <;> rfl
  have hf : fits ty (.ref (wA w j)) = true := by rcases hty with ⟨q, rfl⟩ | ⟨q, rfl⟩ <;> rfl
  refine va_putF (v := .ref (wA w j)) (ty := ty) C.1 C.2.1 C.2.2.2.2.1 h4 ty0 h7 h8 C.2.2.2.1 C.2.2.2.2.2.1.K0 hP (C.2.2.2.2.2.1.DA C.2.2.2.2.2.2.2.2.2.1 X) hS k he h1 i h2 (C.2.2.2.2.1 _ h5) (fun x hx => by rw [h6] at hx; exact hx) h9 hI (by rw [h6, h6b]) (by rw [h7 i h2, h10]) hn hf (by simpa using h2) hd (fun H1 locs1 q1 q2 q3 => kk H1 locs1 ls ?_ q3 hl)
  have e1 : Value.ref (wA w j) = va_rf ((some j).map (wA w)) := rfl
  rw [e1, ce_upR hs h3, ← ceX_obj (X := upR X k i (some j)) hs, wsX_set hk upR_o] at q1
  exact q1
theorem x_putN (C : CX E w cc nL own ret rm) (hI : INIT E) {k ci n i idx : Nat} {ty : FieldType} (hF : PFw w own idx ci n i 2 ty) (hty : (∃ q, ty = .object q) ∨ ∃ q, ty = .array q) (hk : k < wN w) (hs : wS w k = (0, ci, n)) (hd : decode cc pc = .ok (.putfield idx, 3)) (kk : Wx E w nL (PX w (upR X k i none)) (pc + 3) lv st) : Wx E w nL (PX w X) pc lv (.null :: .ref k :: st) := by
  obtain ⟨p, l, e, R, s, m, args, below, meth, c, A0, k0, n0, QQ⟩ := E
  intro H locs ls hP hS hl
  obtain ⟨Cn, T, ty0, h1, h2, h3, h4, h5, h6, h6b, h7, h8, h9, h10⟩ := hF
  have he := wsX_at (X := X) hk
  rw [ceX_obj hs] at he
  have hn : narrow ty .null = .null := by rcases hty with ⟨q, rfl⟩ | ⟨q, rfl⟩ <;> rfl
  have hf : fits ty .null = true := by rcases hty with ⟨q, rfl⟩ | ⟨q, rfl⟩ <;> rfl
  refine va_putF (v := .null) (ty := ty) C.1 C.2.1 C.2.2.2.2.1 h4 ty0 h7 h8 C.2.2.2.1 C.2.2.2.2.2.1.K0 hP (C.2.2.2.2.2.1.DA C.2.2.2.2.2.2.2.2.2.1 X) hS k he h1 i h2 (C.2.2.2.2.1 _ h5) (fun x hx => by rw [h6] at hx; exact hx) h9 hI (by rw [h6, h6b]) (by rw [h7 i h2, h10]) hn hf (by simpa using h2) hd (fun H1 locs1 q1 q2 q3 => kk H1 locs1 ls ?_ q3 hl)
  have e1 : Value.null = va_rf ((none : Option Nat).map (wA w)) := rfl
  rw [e1, ce_upR hs h3, ← ceX_obj (X := upR X k i none) hs, wsX_set hk upR_o] at q1
  exact q1
theorem x_aast (C : CX E w cc nL own ret rm) {k q n j ci nn : Nat} {z : Int} {Cn : String} {T : u_T} (hk : k < wN w) (hs : wS w k = (3, q, n)) (ht : wT w k = .object Cn) (hj : j < wN w) (hsj : wS w j = (0, ci, nn)) (hcl : (wC w)[ci]? = some (Cn, T, nn)) (hn : n ≤ 2147483647) (h0 : 0 ≤ z) (h1 : z < n) (hd : decode cc pc = .ok (.aastore, 1)) (kk : Wx E w nL (PX w (upR X k z.toNat (some j))) (pc + 1) lv st) : Wx E w nL (PX w X) pc lv (.ref j :: .int (iI z) :: .ref k :: st) := by
  obtain ⟨p, l, e, R, s, m, args, below, meth, c, A0, k0, n0, QQ⟩ := E
  intro H locs ls hP hS hl
  have he := wsX_at (X := X) hk
  rw [ceX_arrR hs] at he
  have hej := wsX_at (X := X) hj
  rw [ceX_obj hsj] at hej
  refine va_astq (r := (Cn, T, nn)) C.1 C.2.1 (C.2.2.2.2.2.1.K1 hk (by rw [hs]; show (3 : Nat) ≠ 0; decide)) hP (C.2.2.2.2.2.1.DA C.2.2.2.2.2.2.2.2.2.1 X) hS k 0 j ci he (by rw [ht]; rfl) hej hcl (iI_in h0 h1 hn) hd (fun H1 locs1 q1 q2 q3 => kk H1 locs1 ls ?_ q3 hl)
  rw [iI_nat ⟨by omega, by omega⟩, ar_upR w X k z.toNat n j (by omega), ← ceX_arrR (X := upR X k z.toNat (some j)) hs, wsX_set hk upR_o] at q1
  exact q1
/-- contents that differ in cell k alone, and there not where it is seen -/
def SB (k : Nat) (X Y : XT) : Prop := ∀ j, j ≠ k → (∀ i, X.1 j i = Y.1 j i) ∧ (∀ i, X.2.1 j i = Y.2.1 j i) ∧ ∀ i, X.2.2 j i = Y.2.2 j i
theorem SB_dz {k : Nat} {X : XT} : SB k (dz k X) X := fun _ h => dz_o h
theorem SB_upR {k i : Nat} {v : Option Nat} {X Y : XT} (h : SB k X Y) : SB k (upR X k i v) Y := fun j hj => ⟨(h j hj).1, (h j hj).2.1, fun b => by
  show cond (Nat.beq j k && Nat.beq b i) v (X.2.2 j b) = _
  rw [beq_ne hj]; exact (h j hj).2.2 b⟩
theorem SB_upI {k i : Nat} {v : Int} {X Y : XT} (h : SB k X Y) : SB k (upI X k i v) Y := fun j hj => ⟨fun b => by
  show cond (Nat.beq j k && Nat.beq b i) v (X.1 j b) = _
  rw [beq_ne hj]; exact (h j hj).1 b, (h j hj).2.1, (h j hj).2.2⟩
/-- objects and arrays of references: contents compared place by place -/
def eqb (n k : Nat) (X Y : XT) : Bool := (List.range n).all (fun i => decide (X.1 k i = Y.1 k i) && (decide (X.2.1 k i = Y.2.1 k i) && decide (X.2.2 k i = Y.2.2 k i)))
theorem PX_same {w : WT} {X Y : XT} {k kd q n : Nat} (hsb : SB k X Y) (hs : wS w k = (kd, q, n)) (hkd : kd = 0 ∨ kd = 3) (he : eqb n k X Y = true) {H : Heap} (h : PX w X H) : PX w Y H := by
  have e1 : wsX w X = wsX w Y := by
    unfold wsX
    apply List.map_congr_left
    intro j _
    congr 1
    by_cases hj : j = k
    · subst hj
      have hp : ∀ i, i < n → X.1 j i = Y.1 j i ∧ X.2.1 j i = Y.2.1 j i ∧ X.2.2 j i = Y.2.2 j i := fun i hi => by
        have := List.all_eq_true.mp he i (List.mem_range.mpr hi)
        simp only [Bool.and_eq_true, decide_eq_true_eq] at this
        exact this
      rcases hkd with rfl | rfl
      · rw [ceX_obj hs, ceX_obj hs]
        congr 2
        apply List.map_congr_left
        intro i hi
        have := hp i (List.mem_range.mp hi)
        unfold fvX
        rw [this.1, this.2.1, this.2.2]
      · rw [ceX_arrR hs, ceX_arrR hs]
        have e2 : (fun i => cond (Nat.blt i n) ((X.2.2 j i).map (wA w)) none) = (fun i => cond (Nat.blt i n) ((Y.2.2 j i).map (wA w)) none) := by
          funext i
          cases hb : Nat.blt i n with
          | false => rfl
          | true => rw [(hp i (Nat.le_of_ble_eq_true hb)).2.2]
        rw [e2]
    · have h3 := hsb j hj
      have hf : fvX w X j = fvX w Y j := by
        funext i
        unfold fvX
        rw [h3.1, h3.2.1, h3.2.2]
      unfold ceX
      rw [hf]
      simp only [h3.1, h3.2.1, h3.2.2]
  rw [show PX w Y H = va_P (wD w) (wC w) (wsX w Y) H from rfl, ← e1]
  exact h
/-- arrays of numbers: contents the same -/
theorem PX_num {w : WT} {X Y : XT} {k : Nat} (hsb : SB k X Y) (h1 : ∀ i, X.1 k i = Y.1 k i) (h2 : ∀ i, X.2.1 k i = Y.2.1 k i) (h3 : ∀ i, X.2.2 k i = Y.2.2 k i) {H : Heap} (h : PX w X H) : PX w Y H := by
  have e1 : wsX w X = wsX w Y := by
    unfold wsX
    apply List.map_congr_left
    intro j _
    congr 1
    have hj : (∀ i, X.1 j i = Y.1 j i) ∧ (∀ i, X.2.1 j i = Y.2.1 j i) ∧ ∀ i, X.2.2 j i = Y.2.2 j i := by
      by_cases hj : j = k
      · subst hj; exact ⟨h1, h2, h3⟩
      · exact hsb j hj
    have hf : fvX w X j = fvX w Y j := by
      funext i
      unfold fvX
      rw [hj.1, hj.2.1, hj.2.2]
    unfold ceX
    rw [hf]
    simp only [hj.1, hj.2.1, hj.2.2]
  rw [show PX w Y H = va_P (wD w) (wC w) (wsX w Y) H from rfl, ← e1]
  exact h
theorem Wx_PH {PH' : Heap → Prop} (h : ∀ H, PH H → PH' H) (k : Wx E w nL PH' pc lv st) : Wx E w nL PH pc lv st := by
  obtain ⟨p, l, e, R, s, m, args, below, meth, c, A0, k0, n0, QQ⟩ := E
  intro H locs ls hP hS hl
  exact k H locs ls (h H hP) hS hl
end XF
/-- a world at a stage of its making: the first n cells of a shape -/
abbrev BT : Type := va_G × List vw_C × (Nat → Nat × Nat × Nat) × (Nat → Nat → Nat) × (Nat → FieldType)
abbrev mkW (B : BT) (n : Nat) (ad : Nat → Nat) (cA : Nat → ClassId) : WT := (B.1, B.2.1, n, B.2.2.1, B.2.2.2.1, ad, cA, B.2.2.2.2)
def QG (B : BT) (n n' : Nat) (ad : Nat → Nat) (A0 : Nat → Prop) (Y : XT) : Array Value → State → Outcome → State → Prop := fun _ st oc t =>
  (∃ (ad' : Nat → Nat) (cA' : Nat → ClassId), oc = .returned none ∧ (∀ k, k < n → ad' k = ad k) ∧ PX (mkW B n' ad' cA') Y t.heap ∧ FxW (mkW B n' ad' cA') t ∧ (∀ q, AW (mkW B n' ad' cA') q → A0 q)) ∧ va_F A0 st t
def A0G (w : WT) (sz : Nat) : Nat → Prop := fun q => AW w q ∨ sz ≤ q
/-- a constructor's contract: from a stage to a later one -/
def MetG (B : BT) (y : MethodName) (b : ByteArray) (mL fr lo mc ms : Nat) (av : List Value) (n n' : Nat) (X Y : XT) : Prop :=
  ∀ (l : Launch) (sz : Nat) (ad : Nat → Nat) (cA : Nat → ClassId), Met l y (Cond.code y b mL none :: lw_g) { frames := fr, cells := mc, slots := ms, locals := lo } (va_Pc (av.map (czV (mkW B n ad cA))) (fun U => U.heap.size = sz ∧ PX (mkW B n ad cA) X U.heap ∧ FxW (mkW B n ad cA) U)) (QG B n n' ad (A0G (mkW B n ad cA) sz) Y) mc ms (A0G (mkW B n ad cA) sz)
def EG (E : ET) (B : BT) (n n' : Nat) (ad : Nat → Nat) (Y : XT) (mc ms : Nat) : Prop := match E with
  | (_, _, _, _, s, _, args, below, _, _, A0, _, _, QQ) => QQ = MQ below (QG B n n' ad A0 Y) args s mc ms A0
theorem EG.k {E : ET} {B : BT} {n n' : Nat} {ad : Nat → Nat} {Y : XT} {mc ms a b : Nat} (h : EG E B n n' ad Y mc ms) : EG (Ek E a b) B n n' ad Y mc ms := by obtain ⟨p, l, e, R, s, m, args, below, meth, c, A0, k0, n0, QQ⟩ := E; exact h
theorem eK.k {E : ET} {a b : Nat} : eK (Ek E a b) = a := by obtain ⟨p, l, e, R, s, m, args, below, meth, c, A0, k0, n0, QQ⟩ := E; rfl
theorem eN.k {E : ET} {a b : Nat} : eN (Ek E a b) = b := by obtain ⟨p, l, e, R, s, m, args, below, meth, c, A0, k0, n0, QQ⟩ := E; rfl
theorem had_up {w : WT} {q : Nat} {c : ClassId} {n : Nat} {ad : Nat → Nat} (h : ∀ k, k < n → wA w k = ad k) (hn : n ≤ wN w) : ∀ k, k < n → wA (wup w q c) k = ad k := fun k hk => by
  show cond (Nat.beq k (wN w)) q (wA w k) = ad k
  rw [beq_ne (by omega)]
  exact h k hk
theorem czV_ag {w w' : WT} {N : Nat} (h : ∀ k, k < N → wA w' k = wA w k) {v : Value} (hv : rokV N v = true) : czV w' v = czV w v := by
  cases v with
  | ref k => exact congrArg Value.ref (h k (Nat.le_of_ble_eq_true hv))
  | _ => rfl
theorem lvC_ag {w w' : WT} {N : Nat} (h : ∀ k, k < N → wA w' k = wA w k) : ∀ {l : List (Nat × Value)}, l.all (fun x => rokV N x.2) = true → lvC w' l = lvC w l
  | [], _ => rfl
  | (i, v) :: t, hl => by
    simp only [List.all_cons, Bool.and_eq_true] at hl
    show (i, czV w' v) :: lvC w' t = (i, czV w v) :: lvC w t
    rw [czV_ag h hl.1, lvC_ag h hl.2]
theorem st_ag {w w' : WT} {N : Nat} (h : ∀ k, k < N → wA w' k = wA w k) : ∀ {l : List Value}, l.all (rokV N) = true → l.map (czV w') = l.map (czV w)
  | [], _ => rfl
  | v :: t, hl => by
    simp only [List.all_cons, Bool.and_eq_true] at hl
    show czV w' v :: t.map _ = czV w v :: t.map _
    rw [czV_ag h hl.1, st_ag h hl.2]
theorem FxW.back {B : BT} {n n' : Nat} {w : WT} {ad' : Nat → Nat} {cA' : Nat → ClassId} {s t : State} (hvm : s.vm.Alike t.vm) (hB : wD w = B.1 ∧ wC w = B.2.1) (hF : FxW w s) (h : FxW (mkW B n' ad' cA') t) : FxW (mkW B n' ad' cA') s :=
  ⟨fun c q hq => by have := hF.1 c q (by rw [hB.2]; exact hq); rw [hB.1] at this; exact this, fun k hk hs => ⟨arrOfT_moved hvm.symm (h.2.1 k hk hs).1, (h.2.1 k hk hs).2.moved hvm.symm⟩, h.2.2.1, hF.2.2.2⟩
theorem CKB.G {R : Room} {s : State} {args : Array Value} {own : String} {idx : Nat} {y : MethodName} {b : ByteArray} {mL : Nat} {rt : Option FieldType} {n fr lo mc ms : Nat} (h : CKB own idx y b mL rt n) (hts : ∀ x ∈ lw_g, x.before args s = true) (hR : fr + 1 ≤ R.frames ∧ 8 + (mL + 11) + lo ≤ R.locals) : CallB R s args own idx y b mL rt (Cond.code y b mL rt :: lw_g) { frames := fr, cells := mc, slots := ms, locals := lo } mc ms n := by
  refine ⟨rfl, rfl, hR.1, hR.2, pay_in hts (lw_goodIn h.1), List.mem_cons_self, hts _ h.1, hts _ h.2.1, h.2.2.1, fun sig hs => ?_, hts _ h.2.2.2.2⟩
  have h2 := h.2.2.2.1
  rw [hs] at h2
  exact (Option.some.inj h2).symm
theorem blind_G {w : WT} {av : List Value} {X : XT} {sz : Nat} : FrameBlind (va_Pc (av.map (czV w)) (fun U => U.heap.size = sz ∧ PX w X U.heap ∧ FxW w U)) :=
  fun a U g mk h => ⟨h.1, h.2.1, h.2.2.1, FxW.same (u := U) (U := U.calling g mk a) rfl h.2.2.2⟩
/-- a call of a nest mate's constructor -/
def CKI (own : String) (idx : Nat) (y : MethodName) (host : String) (b : ByteArray) (mL : Nat) (n : Nat) : Prop := Cond.code y b mL none ∈ lw_g ∧ Cond.initialized y.cls ∈ lw_g ∧ (y.cls ≠ "java/lang/invoke/MethodHandle" ∧ y.cls ≠ "java/lang/invoke/VarHandle") ∧ (parseMethodDescriptor y.desc).map (fun d => d.parameters.length) = some n ∧ (own, idx, y, host) ∈ lw_nl
section XI
variable {E : ET} {w : WT} {nL : Nat} {X Y : XT} {pc : Nat} {lv : List (Nat × Value)} {st : List Value} {cc : ByteArray} {own : String} {ret : Option FieldType} {rm : Room} {B : BT}
theorem x_vretG (C : CX E w cc nL own none rm) {n n' mc ms : Nat} {ad ad' : Nat → Nat} {cA' : Nat → ClassId} (hw : w = mkW B n' ad' cA') (hE : EG E B n n' ad Y mc ms) (hk : eK E = mc) (hn : eN E = ms) (had : ∀ k, k < n → ad' k = ad k) (hd : decode cc pc = .ok (.return_, 1)) : Wx E w nL (PX w Y) pc lv [] := by
  obtain ⟨p, l, e, R, s, m, args, below, meth, c, A0, k0, n0, QQ⟩ := E
  intro H locs ls hP hS hl
  have hE : QQ = _ := hE
  have hk : k0 = mc := hk
  have hn : n0 = ms := hn
  subst hk
  subst hn
  subst hw
  rw [hE]
  exact W.vret C.1 C.2.1 C.2.2.2.2.2.2.1 (fun t ht hW => ⟨⟨ad', cA', rfl, had, by rw [ht]; exact hP, C.2.2.2.2.2.1.warm hW, C.2.2.2.2.2.2.2.2.2.1⟩, hS.F ht⟩) hS.2.2 hd C.2.2.2.2.2.2.2.1
theorem x_callG (C : CX E w cc nL own ret rm) (hG : GA E) {n n' mL fr lo mc ms a b' k idx na : Nat} {y : MethodName} {b : ByteArray} {host : String} {As rest : List Value} {ad : Nat → Nat} {cA : Nat → ClassId} (hw : w = mkW B n ad cA) (M : MetG B y b mL fr lo mc ms (.ref k :: As) n n' X Y) (hc : CKB own idx y b mL none na ∨ CKI own idx y host b mL na) (hi : Cond.instanceMethod y ∈ lw_g) (hy : y.name = "<init>")
    (hst : st = As.reverse ++ .ref k :: rest) (hna : As.length = na) (hsum : (rest.map fun v => v.category).sum ≤ 8) (hR : fr + 1 ≤ rm.frames ∧ 8 + (mL + 11) + lo ≤ rm.locals) (hlv : lv.all (fun x => rokV n x.2) = true) (hre : rest.all (rokV n) = true) (ha : eK E + mc = a) (hbb : eN E + ms = b') (hra : a ≤ rm.cells) (hrb : b' ≤ rm.slots) (hd : decode cc pc = .ok (.invokespecial idx, 3))
    (kk : ∀ (ad' : Nat → Nat) (cA' : Nat → ClassId), CX (Ek E a b') (mkW B n' ad' cA') cc nL own ret rm → (∀ k, k < n → ad' k = ad k) → Wx (Ek E a b') (mkW B n' ad' cA') nL (PX (mkW B n' ad' cA') Y) (pc + 3) lv rest) : Wx E w nL (PX w X) pc lv st := by
  obtain ⟨p, l, e, R, s, m, args, below, meth, c, A0, k0, n0, QQ⟩ := E
  intro H locs ls hP hS hl
  obtain ⟨hx, hb, hml, hown, hts, hF, hret, hlk, hRm, hA, hk0, hn0⟩ := id C
  have hRm : R = rm := hRm
  subst hRm
  subst hst
  subst hw
  have ha : k0 + mc = a := ha
  have hbb : n0 + ms = b' := hbb
  subst ha
  subst hbb
  have hM := M l H.size ad cA
  have hPc : ∀ U : State, U.heap = H → s.WarmedH U.vm → va_Pc ((.ref k :: As).map (czV (mkW B n ad cA))) (fun U => U.heap.size = H.size ∧ PX (mkW B n ad cA) X U.heap ∧ FxW (mkW B n ad cA) U) (Value.ref (wA (mkW B n ad cA) k) :: As.map (czV (mkW B n ad cA))).toArray U := fun U hU hW => ⟨by simp [czV], by rw [hU], by rw [hU]; exact hP, hF.warm hW⟩
  have hrun : va_Run p l e R s m args below meth c H locs k0 n0 mc ms (F0 m pc ls ((As.reverse ++ .ref k :: rest).map (czV (mkW B n ad cA)))) (rest.map (czV (mkW B n ad cA))) (QG B n n' ad (A0G (mkW B n ad cA) H.size) Y (Value.ref (wA (mkW B n ad cA) k) :: As.map (czV (mkW B n ad cA))).toArray) (A0G (mkW B n ad cA) H.size) := by
    rcases hc with hc | hc
    · exact va_runI (n := na) (As := As.map (czV (mkW B n ad cA))) (rest := rest.map (czV (mkW B n ad cA))) ⟨hx, hb, hml, hown, hts⟩ hM ⟨hc.G hts hR, hy, hts _ hi⟩ ⟨blind_G, hPc⟩ rfl (by rw [List.length_map]; exact hna) hl.1 (by simp [czV, List.map_reverse]) (lv_room (by rw [cat_cz]; exact hsum)) hd ⟨hra, hrb⟩
    · refine va_runIN (n := na) (As := As.map (czV (mkW B n ad cA))) (rest := rest.map (czV (mkW B n ad cA))) ⟨hx, hb, hml, hown, hts⟩ hM ⟨⟨⟨rfl, rfl, hR.1, hR.2, pay_in hts (lw_goodIn hc.1), List.mem_cons_self⟩, hts _ hc.1, hts _ hc.2.1, hc.2.2.1, fun sig hs => ?_, va_Nw.use rfl (hF.2.2.2.1 _ hc.2.2.2.2)⟩, hy, hts _ hi⟩ ⟨blind_G, hPc⟩ rfl (by rw [List.length_map]; exact hna) hl.1 (by simp [czV, List.map_reverse]) (lv_room (by rw [cat_cz]; exact hsum)) hd ⟨hra, hrb⟩
      have h2 := hc.2.2.2.1
      rw [hs] at h2
      exact (Option.some.inj h2).symm
  intro T hT Xs
  obtain ⟨v, st₀, t, T', L, h0, X', hL, e1, e2, ⟨⟨ad', cA', hv, hadk, hPY, hFY, hAY⟩, hz, hk⟩, stp⟩ := hrun T hT Xs
  cases hv
  rw [h0] at hz hk
  have hAll : ∀ q, A0G (mkW B n ad cA) H.size q → A0 q := by
    rintro q (h | h)
    · exact hA q h
    · exact hG q (Nat.le_trans hS.1 h)
  have hC : CX (p, l, e, R, s, m, args, below, meth, c, A0, k0 + mc, n0 + ms, QQ) (mkW B n' ad' cA') cc nL own ret R :=
    ⟨hx, hb, hml, hown, hts, FxW.back (n := n) (w := mkW B n ad cA) (by rw [← e2]; exact X'.warmed.alike) ⟨rfl, rfl⟩ hF hFY, hret, hlk, rfl, fun q h => hAll q (hAY q h), hra, hrb⟩
  have hlv' : lvC (mkW B n' ad' cA') lv = lvC (mkW B n ad cA) lv := lvC_ag hadk hlv
  have hre' : rest.map (czV (mkW B n' ad' cA')) = rest.map (czV (mkW B n ad cA)) := st_ag hadk hre
  obtain ⟨t2, a1, b1⟩ := kk ad' cA' hC hadk T'.heap (locs ++ L) ls (by rw [e1]; exact hPY) ⟨Nat.le_trans hS.1 (by rw [e1]; exact hz), fun q h1 h2 => by rw [e1, hk q (Nat.lt_of_lt_of_le h1 hS.1) (fun z => h2 (hAll q z))]; exact hS.2.1 q h1 h2, fun q hq => by
      rcases List.mem_append.mp hq with h | h
      · exact hS.2.2 q h
      · exact hAll _ (hL q h)⟩ (by rw [hlv']; exact hl) T' rfl X'
  rw [hre'] at a1
  exact ⟨t2, stp t2 a1, b1⟩
end XI
theorem MetG.mk {B : BT} {y : MethodName} {b : ByteArray} {mL fr lo mc ms : Nat} {av : List Value} {n n' : Nat} {X Y : XT} {own : String} (hy : plainName y.cls = true) (hown : y.cls = own) (hin : y.name = "<init>") (hlen : (lg_sl av).length ≤ mL)
    (body : ∀ (E : ET) (ad : Nat → Nat) (cA : Nat → ClassId), CX E (mkW B n ad cA) b mL own none { frames := fr, cells := mc, slots := ms, locals := lo } → GA E → INIT E → EG E B n n' ad Y mc ms → eK E = 0 → eN E = 0 → Wx E (mkW B n ad cA) mL (PX (mkW B n ad cA) X) 0 (lv_args 0 av) []) : MetG B y b mL fr lo mc ms av n n' X Y := by
  intro l sz ad cA
  refine Met.ofW (cc := b) (maxL := mL) (ret := none) hy rfl ?_
  intro p e s m args below meth c s₁ BL hml hv
  obtain ⟨rfl, hsz, hP, hF⟩ := hv
  subst hsz
  have hts := atoms_spec (ws := Cond.code y b mL none :: lw_g) BL.pre
  have K := body (p, l, e, { frames := fr, cells := mc, slots := ms, locals := lo }, s, m, (av.map (czV (mkW B n ad cA))).toArray, below, meth, c, A0G (mkW B n ad cA) s.heap.size, 0, 0, MQ below (QG B n n' ad (A0G (mkW B n ad cA) s.heap.size) Y) (av.map (czV (mkW B n ad cA))).toArray s mc ms (A0G (mkW B n ad cA) s.heap.size)) ad cA
    ⟨BL.exec, BL.bytes, hml, by rw [← hown]; exact findClass_of_methodNamed BL.named, fun x hx => hts x (List.mem_cons_of_mem _ hx), hF, BL.returns, BL.notSynchronized, rfl, fun _ h => Or.inl h, Nat.zero_le _, Nat.zero_le _⟩ (fun q h => Or.inr h) (((name_of_methodNamed BL.named BL.method).1).trans hin) rfl rfl rfl
  rw [lg_entry_eq]
  have hl := lv_entry (av.map (czV (mkW B n ad cA))) (n := mL) (by rw [lg_sl_cz]; exact hlen)
  rw [lv_args_cz] at hl
  exact K s.heap [] _ hP va_S.rf hl
/-! ===== ENGINE 11: contents compared, over cells that were written ===== -/
def inL (L : List Nat) (k : Nat) : Bool := L.any (fun x => Nat.beq x k)
def SL (L : List Nat) (X Y : XT) : Prop := ∀ j, inL L j = false → (∀ i, X.1 j i = Y.1 j i) ∧ (∀ i, X.2.1 j i = Y.2.1 j i) ∧ ∀ i, X.2.2 j i = Y.2.2 j i
theorem inL_ne {L : List Nat} {j k : Nat} (hk : inL L k = true) (hj : inL L j = false) : j ≠ k := fun h => by rw [h, hk] at hj; cases hj
theorem SL_rf {L : List Nat} {X : XT} : SL L X X := fun _ _ => ⟨fun _ => rfl, fun _ => rfl, fun _ => rfl⟩
theorem SL_dz {L : List Nat} {k : Nat} {X Y : XT} (hk : inL L k = true) (h : SL L X Y) : SL L (dz k X) Y := fun j hj => by
  have a := dz_o (X := X) (inL_ne hk hj)
  have b := h j hj
  exact ⟨fun i => (a.1 i).trans (b.1 i), fun i => (a.2.1 i).trans (b.2.1 i), fun i => (a.2.2 i).trans (b.2.2 i)⟩
theorem SL_upR {L : List Nat} {k i : Nat} {v : Option Nat} {X Y : XT} (hk : inL L k = true) (h : SL L X Y) : SL L (upR X k i v) Y := fun j hj => ⟨(h j hj).1, (h j hj).2.1, fun b => by
  show cond (Nat.beq j k && Nat.beq b i) v (X.2.2 j b) = _
  rw [beq_ne (inL_ne hk hj)]; exact (h j hj).2.2 b⟩
theorem SL_upI {L : List Nat} {k i : Nat} {v : Int} {X Y : XT} (hk : inL L k = true) (h : SL L X Y) : SL L (upI X k i v) Y := fun j hj => ⟨fun b => by
  show cond (Nat.beq j k && Nat.beq b i) v (X.1 j b) = _
  rw [beq_ne (inL_ne hk hj)]; exact (h j hj).1 b, (h j hj).2.1, (h j hj).2.2⟩
def chkS (sh : Nat → Nat × Nat × Nat) (L : List Nat) (X Y : XT) : Bool := L.all (fun k => (Nat.beq (sh k).1 0 || Nat.beq (sh k).1 3) && eqb (sh k).2.2 k X Y)
theorem PX_many {w : WT} {X Y : XT} {sh : Nat → Nat × Nat × Nat} (L : List Nat) (hsh : wS w = sh) (hsl : SL L X Y) (he : chkS sh L X Y = true) {H : Heap} (h : PX w X H) : PX w Y H := by
  have e1 : wsX w X = wsX w Y := by
    unfold wsX
    apply List.map_congr_left
    intro j _
    congr 1
    cases hj : inL L j with
    | true =>
      obtain ⟨k, hk, hkj⟩ := List.any_eq_true.mp hj
      have hkj := Nat.eq_of_beq_eq_true hkj
      subst hkj
      have h1 := List.all_eq_true.mp he k hk
      simp only [Bool.and_eq_true, Bool.or_eq_true] at h1
      have hp : ∀ i, i < (sh k).2.2 → X.1 k i = Y.1 k i ∧ X.2.1 k i = Y.2.1 k i ∧ X.2.2 k i = Y.2.2 k i := fun i hi => by
        have := List.all_eq_true.mp h1.2 i (List.mem_range.mpr hi)
        simp only [Bool.and_eq_true, decide_eq_true_eq] at this
        exact this
      have hs : wS w k = sh k := by rw [hsh]
      rcases h1.1 with h0 | h0
      · have h0 := Nat.eq_of_beq_eq_true h0
        have hs' : wS w k = (0, (sh k).2.1, (sh k).2.2) := by rw [hs, ← h0]
        rw [ceX_obj hs', ceX_obj hs']
        congr 2
        apply List.map_congr_left
        intro i hi
        have := hp i (List.mem_range.mp hi)
        unfold fvX
        rw [this.1, this.2.1, this.2.2]
      · have h0 := Nat.eq_of_beq_eq_true h0
        have hs' : wS w k = (3, (sh k).2.1, (sh k).2.2) := by rw [hs, ← h0]
        rw [ceX_arrR hs', ceX_arrR hs']
        have e2 : (fun i => cond (Nat.blt i (sh k).2.2) ((X.2.2 k i).map (wA w)) none) = (fun i => cond (Nat.blt i (sh k).2.2) ((Y.2.2 k i).map (wA w)) none) := by
          funext i
          cases hb : Nat.blt i (sh k).2.2 with
          | false => rfl
          | true => rw [(hp i (Nat.le_of_ble_eq_true hb)).2.2]
        rw [e2]
    | false =>
      have h3 := hsl j hj
      have hf : fvX w X j = fvX w Y j := by
        funext i
        unfold fvX
        rw [h3.1, h3.2.1, h3.2.2]
      unfold ceX
      rw [hf]
      simp only [h3.1, h3.2.1, h3.2.2]
  rw [show PX w Y H = va_P (wD w) (wC w) (wsX w Y) H from rfl, ← e1]
  exact h
def rbS (N : Nat) (sh : Nat → Nat × Nat × Nat) (X : XT) : Bool := (List.range N).all (fun k => cond (Nat.beq (sh k).1 1 || Nat.beq (sh k).1 2) true ((List.range (sh k).2.2).all (fun i => match X.2.2 k i with | none => true | some j => Nat.blt j N)))
theorem rbX_S {w : WT} {X : XT} (N : Nat) (sh : Nat → Nat × Nat × Nat) (hN : wN w = N) (hs : wS w = sh) (h : rbS N sh X = true) : rbX w X = true := by
  subst hN
  subst hs
  exact h
