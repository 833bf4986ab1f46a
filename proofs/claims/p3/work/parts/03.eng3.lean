/-! ===== ENGINE 5: cells ===== -/
theorem ceX_obj {w : WT} {X : XT} {k ci n : Nat} (hs : wS w k = (0, ci, n)) : ceX w X k = .inr (ci, (List.range n).map (fvX w X k)) := by unfold ceX; rw [hs]; rfl
theorem ceX_arrI {w : WT} {X : XT} {k q n : Nat} (hs : wS w k = (1, q, n)) : ceX w X k = .inl (wY w k, n, .inl (fun i => iI (X.1 k i))) := by unfold ceX; rw [hs]; rfl
theorem ceX_arrL {w : WT} {X : XT} {k q n : Nat} (hs : wS w k = (2, q, n)) : ceX w X k = .inl (wY w k, n, .inr (.inl (fun i => X.2.1 k i))) := by unfold ceX; rw [hs]; rfl
theorem ceX_arrR {w : WT} {X : XT} {k q n : Nat} (hs : wS w k = (3, q, n)) : ceX w X k = .inl (wY w k, n, .inr (.inr (.inr (.inr (fun i => cond (Nat.blt i n) ((X.2.2 k i).map (wA w)) none))))) := by unfold ceX; rw [hs]; rfl
theorem fvX_I {w : WT} {X : XT} {k ci n i : Nat} (hs : wS w k = (0, ci, n)) (hf : wF w ci i = 0) : fvX w X k i = .int (iI (X.1 k i)) := by unfold fvX; rw [hs]; show fvK (wF w ci i) _ _ _ = _; rw [hf]; rfl
theorem fvX_L {w : WT} {X : XT} {k ci n i : Nat} (hs : wS w k = (0, ci, n)) (hf : wF w ci i = 1) : fvX w X k i = .long (X.2.1 k i) := by unfold fvX; rw [hs]; show fvK (wF w ci i) _ _ _ = _; rw [hf]; rfl
theorem fvX_R {w : WT} {X : XT} {k ci n i : Nat} (hs : wS w k = (0, ci, n)) (hf : wF w ci i = 2) : fvX w X k i = va_rf ((X.2.2 k i).map (wA w)) := by unfold fvX; rw [hs]; show fvK (wF w ci i) _ _ _ = _; rw [hf]; rfl
theorem rg_at {α : Type} (f : Nat → α) {n i : Nat} (h : i < n) : ((List.range n).map f)[i]? = some (f i) := by rw [List.getElem?_map, List.getElem?_range h]; rfl
theorem ce_upI {w : WT} {X : XT} {k ci n i : Nat} {z : Int} (hs : wS w k = (0, ci, n)) (hf : wF w ci i = 0) : ((List.range n).map (fvX w X k)).set i (.int (iI z)) = (List.range n).map (fvX w (upI X k i z) k) := by
  refine map_set _ _ _ _ _ (fun b => ?_)
  by_cases h : b = i
  · subst h
    rw [fvX_I hs hf, upI_s]
    simp
  · rw [if_neg h]
    unfold fvX
    rw [upI_s, if_neg h]
    rfl
theorem ce_upL {w : WT} {X : XT} {k ci n i : Nat} {z : Int64} (hs : wS w k = (0, ci, n)) (hf : wF w ci i = 1) : ((List.range n).map (fvX w X k)).set i (.long z) = (List.range n).map (fvX w (upL X k i z) k) := by
  refine map_set _ _ _ _ _ (fun b => ?_)
  by_cases h : b = i
  · subst h
    rw [fvX_L hs hf, upL_s]
    simp
  · rw [if_neg h]
    unfold fvX
    rw [upL_s, if_neg h]
    rfl
theorem ce_upR {w : WT} {X : XT} {k ci n i : Nat} {z : Option Nat} (hs : wS w k = (0, ci, n)) (hf : wF w ci i = 2) : ((List.range n).map (fvX w X k)).set i (va_rf (z.map (wA w))) = (List.range n).map (fvX w (upR X k i z) k) := by
  refine map_set _ _ _ _ _ (fun b => ?_)
  by_cases h : b = i
  · subst h
    rw [fvX_R hs hf, upR_s]
    simp
  · rw [if_neg h]
    unfold fvX
    rw [upR_s, if_neg h]
    rfl
theorem ar_upI (X : XT) (k i : Nat) (z : Int) : upd (fun b => iI (X.1 k b)) i (iI z) = fun b => iI ((upI X k i z).1 k b) := by
  funext b
  rw [upI_s]
  unfold upd
  by_cases h : b = i <;> simp [h]
theorem ar_upL (X : XT) (k i : Nat) (z : Int64) : vp_updL (fun b => X.2.1 k b) i z = fun b => (upL X k i z).2.1 k b := by
  funext b
  rw [upL_s]
  unfold vp_updL
  by_cases h : b = i <;> simp [h]
section XH
variable {E : ET} {w : WT} {Qp : Option Value → XT → Prop} {nL : Nat} {X : XT} {pc : Nat} {lv : List (Nat × Value)} {st : List Value} {cc : ByteArray} {own : String} {ret : Option FieldType} {rm : Room}
theorem x_getI (C : CX E w cc nL own ret rm) {k ci n i idx : Nat} (hF : FKw w own idx ci n i 0) (hk : k < wN w) (hs : wS w k = (0, ci, n)) (hd : decode cc pc = .ok (.getfield idx, 3)) (kk : Wx E w nL (PX w X) (pc + 3) lv (.int (iI (X.1 k i)) :: st)) : Wx E w nL (PX w X) pc lv (.ref k :: st) := by
  obtain ⟨p, l, e, R, s, m, args, below, meth, c, A0, k0, n0, QQ⟩ := E
  intro H locs ls hP hS hl
  obtain ⟨Cn, T, h1, h2, h3, h4, h5, h6⟩ := hF
  have he := wsX_at (X := X) hk
  rw [ceX_obj hs] at he
  exact va_get C.1 C.2.1 C.2.2.2.2.1 h4 C.2.2.2.1 C.2.2.2.2.2.1.K0 hP k he h1 i h2 (C.2.2.2.2.1 _ h5) (fun x hx => by rw [h6] at hx; exact hx) (rg_at _ h2) hd (by rw [fvX_I hs h3]; exact kk H locs ls hP hS hl)
theorem x_getL (C : CX E w cc nL own ret rm) {k ci n i idx : Nat} (hF : FKw w own idx ci n i 1) (hk : k < wN w) (hs : wS w k = (0, ci, n)) (hd : decode cc pc = .ok (.getfield idx, 3)) (kk : Wx E w nL (PX w X) (pc + 3) lv (.long (X.2.1 k i) :: st)) : Wx E w nL (PX w X) pc lv (.ref k :: st) := by
  obtain ⟨p, l, e, R, s, m, args, below, meth, c, A0, k0, n0, QQ⟩ := E
  intro H locs ls hP hS hl
  obtain ⟨Cn, T, h1, h2, h3, h4, h5, h6⟩ := hF
  have he := wsX_at (X := X) hk
  rw [ceX_obj hs] at he
  exact va_get C.1 C.2.1 C.2.2.2.2.1 h4 C.2.2.2.1 C.2.2.2.2.2.1.K0 hP k he h1 i h2 (C.2.2.2.2.1 _ h5) (fun x hx => by rw [h6] at hx; exact hx) (rg_at _ h2) hd (by rw [fvX_L hs h3]; exact kk H locs ls hP hS hl)
theorem x_getR (C : CX E w cc nL own ret rm) {k ci n i idx : Nat} {r : Option Nat} (hF : FKw w own idx ci n i 2) (hk : k < wN w) (hs : wS w k = (0, ci, n)) (hr : X.2.2 k i = r) (hd : decode cc pc = .ok (.getfield idx, 3)) (kk : Wx E w nL (PX w X) (pc + 3) lv (va_rf r :: st)) : Wx E w nL (PX w X) pc lv (.ref k :: st) := by
  obtain ⟨p, l, e, R, s, m, args, below, meth, c, A0, k0, n0, QQ⟩ := E
  intro H locs ls hP hS hl
  obtain ⟨Cn, T, h1, h2, h3, h4, h5, h6⟩ := hF
  have he := wsX_at (X := X) hk
  rw [ceX_obj hs] at he
  subst hr
  exact va_get C.1 C.2.1 C.2.2.2.2.1 h4 C.2.2.2.1 C.2.2.2.2.2.1.K0 hP k he h1 i h2 (C.2.2.2.2.1 _ h5) (fun x hx => by rw [h6] at hx; exact hx) (rg_at _ h2) hd (by rw [fvX_R hs h3, ← czV_rf]; exact kk H locs ls hP hS hl)
theorem x_getRs (C : CX E w cc nL own ret rm) {k ci n i idx r : Nat} (hF : FKw w own idx ci n i 2) (hk : k < wN w) (hs : wS w k = (0, ci, n)) (hr : X.2.2 k i = some r) (hd : decode cc pc = .ok (.getfield idx, 3)) (kk : Wx E w nL (PX w X) (pc + 3) lv (.ref r :: st)) : Wx E w nL (PX w X) pc lv (.ref k :: st) := x_getR C hF hk hs hr hd kk
theorem x_putI (C : CX E w cc nL own ret rm) {k ci n i idx : Nat} {z : Int} (hF : PKw w own idx ci n i 0 .int) (hk : k < wN w) (hs : wS w k = (0, ci, n)) (hd : decode cc pc = .ok (.putfield idx, 3)) (kk : Wx E w nL (PX w (upI X k i z)) (pc + 3) lv st) : Wx E w nL (PX w X) pc lv (.int (iI z) :: .ref k :: st) := by
  obtain ⟨p, l, e, R, s, m, args, below, meth, c, A0, k0, n0, QQ⟩ := E
  intro H locs ls hP hS hl
  obtain ⟨Cn, T, ty0, h1, h2, h3, h4, h5, h6, h7, h8, h9, h10⟩ := hF
  have he := wsX_at (X := X) hk
  rw [ceX_obj hs] at he
  refine va_put (v := .int (iI z)) (ty := .int) C.1 C.2.1 C.2.2.2.2.1 h4 ty0 h7 h8 C.2.2.2.1 C.2.2.2.2.2.1.K0 hP (C.2.2.2.2.2.1.DA C.2.2.2.2.2.2.2.2.2.1 X) hS k he h1 i h2 (C.2.2.2.2.1 _ h5) (fun x hx => by rw [h6] at hx; exact hx) h9 (by rw [h7 i h2, h10]) rfl rfl (by simpa using h2) hd (fun H1 locs1 q1 q2 q3 => kk H1 locs1 ls ?_ q3 hl)
  rw [ce_upI hs h3, ← ceX_obj (X := upI X k i z) hs, wsX_set hk upI_o] at q1
  exact q1
theorem x_putL (C : CX E w cc nL own ret rm) {k ci n i idx : Nat} {z : Int64} (hF : PKw w own idx ci n i 1 .long) (hk : k < wN w) (hs : wS w k = (0, ci, n)) (hd : decode cc pc = .ok (.putfield idx, 3)) (kk : Wx E w nL (PX w (upL X k i z)) (pc + 3) lv st) : Wx E w nL (PX w X) pc lv (.long z :: .ref k :: st) := by
  obtain ⟨p, l, e, R, s, m, args, below, meth, c, A0, k0, n0, QQ⟩ := E
  intro H locs ls hP hS hl
  obtain ⟨Cn, T, ty0, h1, h2, h3, h4, h5, h6, h7, h8, h9, h10⟩ := hF
  have he := wsX_at (X := X) hk
  rw [ceX_obj hs] at he
  refine va_put (v := .long z) (ty := .long) C.1 C.2.1 C.2.2.2.2.1 h4 ty0 h7 h8 C.2.2.2.1 C.2.2.2.2.2.1.K0 hP (C.2.2.2.2.2.1.DA C.2.2.2.2.2.2.2.2.2.1 X) hS k he h1 i h2 (C.2.2.2.2.1 _ h5) (fun x hx => by rw [h6] at hx; exact hx) h9 (by rw [h7 i h2, h10]) rfl rfl (by simpa using h2) hd (fun H1 locs1 q1 q2 q3 => kk H1 locs1 ls ?_ q3 hl)
  rw [ce_upL hs h3, ← ceX_obj (X := upL X k i z) hs, wsX_set hk upL_o] at q1
  exact q1
theorem x_putR (C : CX E w cc nL own ret rm) {k ci n i idx j : Nat} {ty : FieldType} (hF : PKw w own idx ci n i 2 ty) (hty : (∃ q, ty = .object q) ∨ ∃ q, ty = .array q) (hk : k < wN w) (hs : wS w k = (0, ci, n)) (hd : decode cc pc = .ok (.putfield idx, 3)) (kk : Wx E w nL (PX w (upR X k i (some j))) (pc + 3) lv st) : Wx E w nL (PX w X) pc lv (.ref j :: .ref k :: st) := by
  obtain ⟨p, l, e, R, s, m, args, below, meth, c, A0, k0, n0, QQ⟩ := E
  intro H locs ls hP hS hl
  obtain ⟨Cn, T, ty0, h1, h2, h3, h4, h5, h6, h7, h8, h9, h10⟩ := hF
  have he := wsX_at (X := X) hk
  rw [ceX_obj hs] at he
  have hn : narrow ty (.ref (wA w j)) = .ref (wA w j) := by rcases hty with ⟨q, rfl⟩ | ⟨q, rfl⟩ <;> rfl
  have hf : fits ty (.ref (wA w j)) = true := by rcases hty with ⟨q, rfl⟩ | ⟨q, rfl⟩ <;> rfl
  refine va_put (v := .ref (wA w j)) (ty := ty) C.1 C.2.1 C.2.2.2.2.1 h4 ty0 h7 h8 C.2.2.2.1 C.2.2.2.2.2.1.K0 hP (C.2.2.2.2.2.1.DA C.2.2.2.2.2.2.2.2.2.1 X) hS k he h1 i h2 (C.2.2.2.2.1 _ h5) (fun x hx => by rw [h6] at hx; exact hx) h9 (by rw [h7 i h2, h10]) hn hf (by simpa using h2) hd (fun H1 locs1 q1 q2 q3 => kk H1 locs1 ls ?_ q3 hl)
  have e1 : Value.ref (wA w j) = va_rf ((some j).map (wA w)) := rfl
  rw [e1, ce_upR hs h3, ← ceX_obj (X := upR X k i (some j)) hs, wsX_set hk upR_o] at q1
  exact q1
theorem x_iald (C : CX E w cc nL own ret rm) {k q n : Nat} {z : Int} (hk : k < wN w) (hs : wS w k = (1, q, n)) (ht : wT w k = .int) (hn : n ≤ 2147483647) (h0 : 0 ≤ z) (h1 : z < n) (hd : decode cc pc = .ok (.iaload, 1)) (kk : Wx E w nL (PX w X) (pc + 1) lv (.int (iI (X.1 k z.toNat)) :: st)) : Wx E w nL (PX w X) pc lv (.int (iI z) :: .ref k :: st) := by
  obtain ⟨p, l, e, R, s, m, args, below, meth, c, A0, k0, n0, QQ⟩ := E
  intro H locs ls hP hS hl
  have he := wsX_at (X := X) hk
  rw [ceX_arrI hs] at he
  refine va_iald C.1 C.2.1 (C.2.2.2.2.2.1.K1 hk (by rw [hs]; show (1 : Nat) ≠ 0; decide)) hP k 0 he (by rw [ht]; rfl) (iI_in h0 h1 hn) hd ?_
  rw [iI_nat ⟨by omega, by omega⟩]
  exact kk H locs ls hP hS hl
theorem x_bald (C : CX E w cc nL own ret rm) {k q n : Nat} {z : Int} (hk : k < wN w) (hs : wS w k = (1, q, n)) (ht : wT w k = .byte) (hn : n ≤ 2147483647) (h0 : 0 ≤ z) (h1 : z < n) (hd : decode cc pc = .ok (.baload, 1)) (kk : Wx E w nL (PX w X) (pc + 1) lv (.int (iI (X.1 k z.toNat)) :: st)) : Wx E w nL (PX w X) pc lv (.int (iI z) :: .ref k :: st) := by
  obtain ⟨p, l, e, R, s, m, args, below, meth, c, A0, k0, n0, QQ⟩ := E
  intro H locs ls hP hS hl
  have he := wsX_at (X := X) hk
  rw [ceX_arrI hs] at he
  refine va_bald C.1 C.2.1 (C.2.2.2.2.2.1.K1 hk (by rw [hs]; show (1 : Nat) ≠ 0; decide)) hP k 0 he (by rw [ht]; rfl) (iI_in h0 h1 hn) hd ?_
  rw [iI_nat ⟨by omega, by omega⟩]
  exact kk H locs ls hP hS hl
theorem x_zald (C : CX E w cc nL own ret rm) {k q n : Nat} {z : Int} (hk : k < wN w) (hs : wS w k = (1, q, n)) (ht : wT w k = .boolean) (hn : n ≤ 2147483647) (h0 : 0 ≤ z) (h1 : z < n) (hd : decode cc pc = .ok (.baload, 1)) (kk : Wx E w nL (PX w X) (pc + 1) lv (.int (iI (X.1 k z.toNat)) :: st)) : Wx E w nL (PX w X) pc lv (.int (iI z) :: .ref k :: st) := by
  obtain ⟨p, l, e, R, s, m, args, below, meth, c, A0, k0, n0, QQ⟩ := E
  intro H locs ls hP hS hl
  have he := wsX_at (X := X) hk
  rw [ceX_arrI hs] at he
  refine va_zald C.1 C.2.1 (C.2.2.2.2.2.1.K1 hk (by rw [hs]; show (1 : Nat) ≠ 0; decide)) hP k 0 he (by rw [ht]; rfl) (iI_in h0 h1 hn) hd ?_
  rw [iI_nat ⟨by omega, by omega⟩]
  exact kk H locs ls hP hS hl
theorem x_lald (C : CX E w cc nL own ret rm) {k q n : Nat} {z : Int} (hk : k < wN w) (hs : wS w k = (2, q, n)) (ht : wT w k = .long) (hn : n ≤ 2147483647) (h0 : 0 ≤ z) (h1 : z < n) (hd : decode cc pc = .ok (.laload, 1)) (kk : Wx E w nL (PX w X) (pc + 1) lv (.long (X.2.1 k z.toNat) :: st)) : Wx E w nL (PX w X) pc lv (.int (iI z) :: .ref k :: st) := by
  obtain ⟨p, l, e, R, s, m, args, below, meth, c, A0, k0, n0, QQ⟩ := E
  intro H locs ls hP hS hl
  have he := wsX_at (X := X) hk
  rw [ceX_arrL hs] at he
  refine va_lald C.1 C.2.1 (C.2.2.2.2.2.1.K1 hk (by rw [hs]; show (2 : Nat) ≠ 0; decide)) hP k 0 he (by rw [ht]; rfl) (iI_in h0 h1 hn) hd ?_
  rw [iI_nat ⟨by omega, by omega⟩]
  exact kk H locs ls hP hS hl
theorem x_aald (C : CX E w cc nL own ret rm) {k q n : Nat} {z : Int} {S : String} {r : Option Nat} (hk : k < wN w) (hs : wS w k = (3, q, n)) (ht : wT w k = .object S) (hn : n ≤ 2147483647) (h0 : 0 ≤ z) (h1 : z < n) (hr : X.2.2 k z.toNat = r) (hd : decode cc pc = .ok (.aaload, 1)) (kk : Wx E w nL (PX w X) (pc + 1) lv (va_rf r :: st)) : Wx E w nL (PX w X) pc lv (.int (iI z) :: .ref k :: st) := by
  obtain ⟨p, l, e, R, s, m, args, below, meth, c, A0, k0, n0, QQ⟩ := E
  intro H locs ls hP hS hl
  have he := wsX_at (X := X) hk
  rw [ceX_arrR hs] at he
  refine va_aldq C.1 C.2.1 (C.2.2.2.2.2.1.K1 hk (by rw [hs]; show (3 : Nat) ≠ 0; decide)) hP k 0 he (by rw [ht]; rfl) (iI_in h0 h1 hn) hd ?_
  subst hr
  have hb : Nat.blt z.toNat n = true := Nat.ble_eq_true_of_le (by omega)
  rw [iI_nat ⟨by omega, by omega⟩]
  simp only [hb]
  show W p l e R s m args below meth c H locs k0 n0 QQ (F0 m (pc + 1) ls (va_rf ((X.2.2 k z.toNat).map (wA w)) :: st.map (czV w)))
  rw [← czV_rf]
  exact kk H locs ls hP hS hl
theorem x_iast (C : CX E w cc nL own ret rm) {k q n : Nat} {z v : Int} (hk : k < wN w) (hs : wS w k = (1, q, n)) (ht : wT w k = .int) (hn : n ≤ 2147483647) (h0 : 0 ≤ z) (h1 : z < n) (hd : decode cc pc = .ok (.iastore, 1)) (kk : Wx E w nL (PX w (upI X k z.toNat v)) (pc + 1) lv st) : Wx E w nL (PX w X) pc lv (.int (iI v) :: .int (iI z) :: .ref k :: st) := by
  obtain ⟨p, l, e, R, s, m, args, below, meth, c, A0, k0, n0, QQ⟩ := E
  intro H locs ls hP hS hl
  have he := wsX_at (X := X) hk
  rw [ceX_arrI hs] at he
  refine va_iast C.1 C.2.1 (C.2.2.2.2.2.1.K1 hk (by rw [hs]; show (1 : Nat) ≠ 0; decide)) hP (C.2.2.2.2.2.1.DA C.2.2.2.2.2.2.2.2.2.1 X) hS k 0 he (by rw [ht]; rfl) (iI_in h0 h1 hn) hd (fun H1 locs1 q1 q2 q3 => kk H1 locs1 ls ?_ q3 hl)
  rw [iI_nat ⟨by omega, by omega⟩, ar_upI, ← ceX_arrI (X := upI X k z.toNat v) hs, wsX_set hk upI_o] at q1
  exact q1
theorem nar_b {v : Int} (h : -128 ≤ v ∧ v ≤ 127) : vp_nar .byte (iI v) = iI v := by
  rw [vp_nar_byte]
  have h1 : (iI v).toInt8 = Int8.ofInt v := by unfold iI; exact Int32.toInt8_ofInt
  rw [h1]
  exact Int8.toInt32_ofInt h.1 h.2
theorem nar_z {v : Int} (h : v = 0 ∨ v = 1) : vp_nar .boolean (iI v) = iI v := by rcases h with rfl | rfl <;> decide
theorem x_bast (C : CX E w cc nL own ret rm) {k q n : Nat} {z v : Int} (hk : k < wN w) (hs : wS w k = (1, q, n)) (ht : wT w k = .byte) (hn : n ≤ 2147483647) (h0 : 0 ≤ z) (h1 : z < n) (hv : -128 ≤ v ∧ v ≤ 127) (hd : decode cc pc = .ok (.bastore, 1)) (kk : Wx E w nL (PX w (upI X k z.toNat v)) (pc + 1) lv st) : Wx E w nL (PX w X) pc lv (.int (iI v) :: .int (iI z) :: .ref k :: st) := by
  obtain ⟨p, l, e, R, s, m, args, below, meth, c, A0, k0, n0, QQ⟩ := E
  intro H locs ls hP hS hl
  have he := wsX_at (X := X) hk
  rw [ceX_arrI hs] at he
  refine va_bast C.1 C.2.1 (C.2.2.2.2.2.1.K1 hk (by rw [hs]; show (1 : Nat) ≠ 0; decide)) hP (C.2.2.2.2.2.1.DA C.2.2.2.2.2.2.2.2.2.1 X) hS k 0 he (by rw [ht]; rfl) (iI_in h0 h1 hn) hd (fun H1 locs1 q1 q2 q3 => kk H1 locs1 ls ?_ q3 hl)
  rw [nar_b hv, iI_nat ⟨by omega, by omega⟩, ar_upI, ← ceX_arrI (X := upI X k z.toNat v) hs, wsX_set hk upI_o] at q1
  exact q1
theorem x_zast (C : CX E w cc nL own ret rm) {k q n : Nat} {z v : Int} (hk : k < wN w) (hs : wS w k = (1, q, n)) (ht : wT w k = .boolean) (hn : n ≤ 2147483647) (h0 : 0 ≤ z) (h1 : z < n) (hv : v = 0 ∨ v = 1) (hd : decode cc pc = .ok (.bastore, 1)) (kk : Wx E w nL (PX w (upI X k z.toNat v)) (pc + 1) lv st) : Wx E w nL (PX w X) pc lv (.int (iI v) :: .int (iI z) :: .ref k :: st) := by
  obtain ⟨p, l, e, R, s, m, args, below, meth, c, A0, k0, n0, QQ⟩ := E
  intro H locs ls hP hS hl
  have he := wsX_at (X := X) hk
  rw [ceX_arrI hs] at he
  refine va_zast C.1 C.2.1 (C.2.2.2.2.2.1.K1 hk (by rw [hs]; show (1 : Nat) ≠ 0; decide)) hP (C.2.2.2.2.2.1.DA C.2.2.2.2.2.2.2.2.2.1 X) hS k 0 he (by rw [ht]; rfl) (iI_in h0 h1 hn) hd (fun H1 locs1 q1 q2 q3 => kk H1 locs1 ls ?_ q3 hl)
  rw [nar_z hv, iI_nat ⟨by omega, by omega⟩, ar_upI, ← ceX_arrI (X := upI X k z.toNat v) hs, wsX_set hk upI_o] at q1
  exact q1
theorem x_last (C : CX E w cc nL own ret rm) {k q n : Nat} {z : Int} {v : Int64} (hk : k < wN w) (hs : wS w k = (2, q, n)) (ht : wT w k = .long) (hn : n ≤ 2147483647) (h0 : 0 ≤ z) (h1 : z < n) (hd : decode cc pc = .ok (.lastore, 1)) (kk : Wx E w nL (PX w (upL X k z.toNat v)) (pc + 1) lv st) : Wx E w nL (PX w X) pc lv (.long v :: .int (iI z) :: .ref k :: st) := by
  obtain ⟨p, l, e, R, s, m, args, below, meth, c, A0, k0, n0, QQ⟩ := E
  intro H locs ls hP hS hl
  have he := wsX_at (X := X) hk
  rw [ceX_arrL hs] at he
  refine va_last C.1 C.2.1 (C.2.2.2.2.2.1.K1 hk (by rw [hs]; show (2 : Nat) ≠ 0; decide)) hP (C.2.2.2.2.2.1.DA C.2.2.2.2.2.2.2.2.2.1 X) hS k 0 he (by rw [ht]; rfl) (iI_in h0 h1 hn) hd (fun H1 locs1 q1 q2 q3 => kk H1 locs1 ls ?_ q3 hl)
  rw [iI_nat ⟨by omega, by omega⟩, ar_upL, ← ceX_arrL (X := upL X k z.toNat v) hs, wsX_set hk upL_o] at q1
  exact q1
-- ends
theorem x_iret (C : CX E w cc nL own (some .int) rm) (hE : EQ E w Qp) {x : Int32} (hd : decode cc pc = .ok (.ireturn, 1)) (hq : Qp (some (.int x)) X) : Wx E w nL (PX w X) pc lv [.int x] := by
  obtain ⟨p, l, e, R, s, m, args, below, meth, c, A0, k0, n0, QQ⟩ := E
  intro H locs ls hP hS hl
  have hE : QQ = _ := hE
  rw [hE]
  exact W.iret C.1 C.2.1 C.2.2.2.2.2.2.1 (fun t ht hW => ⟨⟨some (.int x), X, rfl, hq, by rw [ht]; exact hP⟩, hS.F ht⟩) hS.2.2 hd C.2.2.2.2.2.2.2.1
theorem x_zret (C : CX E w cc nL own (some .boolean) rm) (hE : EQ E w Qp) {v : Int} (hv : v = 0 ∨ v = 1) (hd : decode cc pc = .ok (.ireturn, 1)) (hq : Qp (some (.int (iI v))) X) : Wx E w nL (PX w X) pc lv [.int (iI v)] := by
  obtain ⟨p, l, e, R, s, m, args, below, meth, c, A0, k0, n0, QQ⟩ := E
  intro H locs ls hP hS hl
  have hE : QQ = _ := hE
  rw [hE]
  exact W.zret C.1 C.2.1 C.2.2.2.2.2.2.1 (by rcases hv with rfl | rfl <;> rfl) (fun t ht hW => ⟨⟨some (.int (iI v)), X, rfl, hq, by rw [ht]; exact hP⟩, hS.F ht⟩) hS.2.2 hd C.2.2.2.2.2.2.2.1
theorem x_lret (C : CX E w cc nL own (some .long) rm) (hE : EQ E w Qp) {x : Int64} (hd : decode cc pc = .ok (.lreturn, 1)) (hq : Qp (some (.long x)) X) : Wx E w nL (PX w X) pc lv [.long x] := by
  obtain ⟨p, l, e, R, s, m, args, below, meth, c, A0, k0, n0, QQ⟩ := E
  intro H locs ls hP hS hl
  have hE : QQ = _ := hE
  rw [hE]
  exact W.lret C.1 C.2.1 C.2.2.2.2.2.2.1 (fun t ht hW => ⟨⟨some (.long x), X, rfl, hq, by rw [ht]; exact hP⟩, hS.F ht⟩) hS.2.2 hd C.2.2.2.2.2.2.2.1
theorem x_vret (C : CX E w cc nL own none rm) (hE : EQ E w Qp) (hd : decode cc pc = .ok (.return_, 1)) (hq : Qp none X) : Wx E w nL (PX w X) pc lv [] := by
  obtain ⟨p, l, e, R, s, m, args, below, meth, c, A0, k0, n0, QQ⟩ := E
  intro H locs ls hP hS hl
  have hE : QQ = _ := hE
  rw [hE]
  exact W.vret C.1 C.2.1 C.2.2.2.2.2.2.1 (fun t ht hW => ⟨⟨none, X, rfl, hq, by rw [ht]; exact hP⟩, hS.F ht⟩) hS.2.2 hd C.2.2.2.2.2.2.2.1
theorem x_aret {S : String} (C : CX E w cc nL own (some (.object S)) rm) (hE : EQ E w Qp) {r : Option Nat} (hd : decode cc pc = .ok (.areturn, 1)) (hq : Qp (some (va_rf r)) X) : Wx E w nL (PX w X) pc lv [va_rf r] := by
  obtain ⟨p, l, e, R, s, m, args, below, meth, c, A0, k0, n0, QQ⟩ := E
  intro H locs ls hP hS hl
  have hE : QQ = _ := hE
  rw [hE]
  have hv : czV w (va_rf r) = .null ∨ ∃ a, czV w (va_rf r) = .ref a := by
    cases r with
    | none => exact Or.inl rfl
    | some a => exact Or.inr ⟨_, rfl⟩
  exact W.aret C.1 C.2.1 C.2.2.2.2.2.2.1 (Or.inl ⟨_, rfl⟩) hv (fun t ht hW => ⟨⟨some (va_rf r), X, rfl, hq, by rw [ht]; exact hP⟩, hS.F ht⟩) hS.2.2 hd C.2.2.2.2.2.2.2.1
end XH
