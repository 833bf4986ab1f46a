/-! ===== VSE 16: what hand-made walks read and write ===== -/
theorem HG.rF {V : VW} {X : XT} (h : HG V X) {k i : Nat} {p : IV} (h1 : plK V k i = 0) (h2 : gI V k i = some p) : p.1 ≤ X.1 k i ∧ X.1 k i ≤ p.2 := h.1 k i p h1 h2
theorem plK_a {V : VW} {k i q t n : Nat} (hk : k < vN V) (hs : vS V k = (q + 1, t, n)) (hi : i < n) : plK V k i = q := by
  unfold plK
  have h1 : Nat.blt k (vN V) = true := Nat.blt_eq.mpr hk
  have h2 : Nat.blt i n = true := Nat.blt_eq.mpr hi
  rw [h1, hs]
  show cond (Nat.blt i n) (cond (Nat.beq (q + 1) 0) _ (q + 1 - 1)) 9 = q
  rw [h2]
  rfl
theorem HG.rA {V : VW} {X : XT} (h : HG V X) {k t n i : Nat} {p : IV} (hk : k < vN V) (hs : vS V k = (1, t, n)) (hp : rdG ((vGI V).getD k []) 0 (n - 1) = some p) (hi : i < n) : p.1 ≤ X.1 k i ∧ X.1 k i ≤ p.2 := by
  obtain ⟨q, h1, h2, h3⟩ := rdG_ok hp i (Nat.zero_le _) (by omega)
  have := h.1 k i q (plK_a hk hs hi) h1
  exact ⟨Int.le_trans h2 this.1, Int.le_trans this.2 h3⟩
theorem HG.rR {V : VW} {X : XT} (h : HG V X) {k i : Nat} {r : Option Nat} (h1 : plK V k i = 2) (h2 : vGR V k i = [r]) : X.2.2 k i = r := by
  have := h.2.2 k i h1
  rw [h2] at this
  exact List.mem_singleton.mp this
theorem res_v {u z : Int} (h : u = z) : some (Value.int (iI u)) = some (Value.int (iI (z + 0))) := by rw [h, Int.add_zero]
theorem x_gX {E : ET} {w : WT} {nL pc : Nat} {lv : List (Nat × Value)} {st : List Value} {X : XT} (k : ∀ Y : XT, Y = X → Wx E w nL (PX w Y) pc lv st) : Wx E w nL (PX w X) pc lv st := k X rfl
theorem upI_at {X : XT} {k i : Nat} {z : Int} : (upI X k i z).1 k i = z := by
  show cond (Nat.beq k k && Nat.beq i i) z (X.1 k i) = z
  rw [Nat.beq_refl, Nat.beq_refl]
  rfl
theorem upI_ne {X : XT} {k i b : Nat} {z : Int} (h : b ≠ i) : (upI X k i z).1 k b = X.1 k b := by
  show cond (Nat.beq k k && Nat.beq b i) z (X.1 k b) = X.1 k b
  rw [show Nat.beq b i = false by
    cases q : Nat.beq b i with
    | false => rfl
    | true => exact absurd (Nat.eq_of_beq_eq_true q) h, Bool.and_false]
  rfl
theorem hg_wF {V : VW} {X : XT} (h : HG V X) {k i : Nat} {z : Int} {p : IV} (h1 : gI V k i = some p) (hz : p.1 ≤ z ∧ z ≤ p.2) : HG V (upI X k i z) := h.upI (fun q hq => by
  rw [h1] at hq
  cases hq
  exact hz)
theorem hg_wA {V : VW} {X : XT} (h : HG V X) {k n i : Nat} {z : Int} {p : IV} (hp : wrG ((vGI V).getD k []) 0 (n - 1) p = true) (hi : i < n) (hz : p.1 ≤ z ∧ z ≤ p.2) : HG V (upI X k i z) := h.upI (fun q hq => by
  have t := wrG_ok hp i (Nat.zero_le _) (by omega)
  have hq' : perG ((vGI V).getD k []) i = some q := hq
  rw [hq'] at t
  unfold fitI at t
  rw [Bool.and_eq_true, leI_iff, leI_iff] at t
  exact ⟨Int.le_trans t.1 hz.1, Int.le_trans hz.2 t.2⟩)
theorem yw_bd {x y w h : Int} (x0 : 0 ≤ x) (x1 : x ≤ w - 1) (y0 : 0 ≤ y) (y1 : y ≤ h - 1) (hw : w ≤ 6) (hh : h ≤ 6) : 0 ≤ y * w + x ∧ y * w + x ≤ 35 := by
  rcases (show y = 0 ∨ y = 1 ∨ y = 2 ∨ y = 3 ∨ y = 4 ∨ y = 5 by omega) with rfl | rfl | rfl | rfl | rfl | rfl <;> omega
theorem md_bd {p w : Int} (p0 : 0 ≤ p) (hw : 0 < w) : 0 ≤ p % w ∧ p % w < w ∧ 0 ≤ p / w ∧ p / w ≤ p := ⟨Int.emod_nonneg _ (by omega), Int.emod_lt_of_pos _ hw, Int.ediv_nonneg p0 (by omega), Int.ediv_le_self _ p0⟩
theorem iI_div1 {b : Int} (hb : 2 ≤ b) (rb : inR b) : iI (-1) / iI b = iI 0 := by
  have h1 : iI b ≠ -1 := fun h => by
    have := congrArg Int32.toInt h
    rw [iI_toInt rb] at this
    rw [show (-1 : Int32).toInt = -1 from rfl] at this
    omega
  refine Int32.toInt_inj.mp ?_
  rw [Int32.toInt_div_of_ne_right _ _ h1, iI_toInt rb, iI_toInt (show inR (-1) from ⟨by decide, by decide⟩), iI_toInt (show inR 0 from ⟨by decide, by decide⟩)]
  show Int.tdiv (-1) b = 0
  rw [Int.neg_tdiv, Int.tdiv_eq_ediv_of_nonneg (by omega), Int.ediv_eq_zero_of_lt (by omega) (by omega)]
  rfl
theorem iI_rem1 {b : Int} (hb : 2 ≤ b) (rb : inR b) : iI (-1) - iI (-1) / iI b * iI b = iI (-1) := by
  rw [iI_div1 hb rb, iI_mul, iI_sub]
  congr 1
  omega
theorem x_idiv1 {E : ET} {w : WT} {cc : ByteArray} {nL : Nat} {own : String} {ret : Option FieldType} {rm : Room} {pc : Nat} {PH : Heap → Prop} {lv : List (Nat × Value)} {st : List Value} (C : CX E w cc nL own ret rm) {b : Int} (hd : decode cc pc = .ok (.idiv, 1)) (hb : 2 ≤ b) (rb : inR b) (kk : Wx E w nL PH (pc + 1) lv (.int (iI 0) :: st)) : Wx E w nL PH pc lv (.int (iI b) :: .int (iI (-1)) :: st) := by
  obtain ⟨p, l, e, R, s, m, args, below, meth, c, A0, k0, n0, QQ⟩ := E
  intro H locs ls hP hS hl
  refine lv_idiv C.1 C.2.1 hd (iI_ne0 (by omega) rb) ?_
  rw [iI_div1 hb rb]
  exact kk H locs ls hP hS hl
theorem x_irem1 {E : ET} {w : WT} {cc : ByteArray} {nL : Nat} {own : String} {ret : Option FieldType} {rm : Room} {pc : Nat} {PH : Heap → Prop} {lv : List (Nat × Value)} {st : List Value} (C : CX E w cc nL own ret rm) {b : Int} (hd : decode cc pc = .ok (.irem, 1)) (hb : 2 ≤ b) (rb : inR b) (kk : Wx E w nL PH (pc + 1) lv (.int (iI (-1)) :: st)) : Wx E w nL PH pc lv (.int (iI b) :: .int (iI (-1)) :: st) := by
  obtain ⟨p, l, e, R, s, m, args, below, meth, c, A0, k0, n0, QQ⟩ := E
  intro H locs ls hP hS hl
  refine lv_irem C.1 C.2.1 hd (iI_ne0 (by omega) rb) ?_
  rw [iI_rem1 hb rb]
  exact kk H locs ls hP hS hl
theorem hg_cp {V : VW} {X : XT} {k t m a b : Nat} (h : HG V X) (hk : k < vN V) (hs : vS V k = (1, t, m)) (ha : a < m) (he : a % ((vGI V).getD k []).length = b % ((vGI V).getD k []).length) : HG V (upI X k b (X.1 k a)) := h.upI (fun q hq => h.1 k a q (plK_a hk hs ha) (by
  unfold gI perG at *
  rw [he]
  exact hq))
