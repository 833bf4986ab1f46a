/-! ===== longs in their intervals, what a call changed, steps on the board ===== -/
theorem l64 (z : Int64) : -9223372036854775808 ≤ z.toInt ∧ z.toInt ≤ 9223372036854775807 := ⟨by have := Int64.le_toInt z; omega, by have := Int64.toInt_lt z; omega⟩
abbrev m36 (z : Int64) : Prop := 0 ≤ z.toInt ∧ z.toInt ≤ 68719476735
theorem m36_iff {z : Int64} : m36 z ↔ ∀ i, 36 ≤ i → tb z i = false := by
  have hc : z.toInt = if 2 * z.toBitVec.toNat < 2 ^ 64 then (z.toBitVec.toNat : Int) else (z.toBitVec.toNat : Int) - ((2 ^ 64 : Nat) : Int) := BitVec.toInt_eq_toNat_cond _
  have hb := z.toBitVec.isLt
  have e64 : (2 : Nat) ^ 64 = 18446744073709551616 := by decide
  rw [e64] at hc hb
  constructor
  · intro h i hi
    have h : 0 ≤ z.toInt ∧ z.toInt ≤ 68719476735 := h
    show z.toBitVec.getLsbD i = false
    rw [← BitVec.testBit_toNat]
    apply Nat.testBit_lt_two_pow
    have h1 : z.toBitVec.toNat < 2 ^ 36 := by
      show _ < 68719476736
      split at hc <;> omega
    exact Nat.lt_of_lt_of_le h1 (Nat.pow_le_pow_right (by decide) hi)
  · intro h
    have h1 : z.toBitVec.toNat < 2 ^ 36 := Nat.lt_pow_two_of_testBit _ (fun i hi => by
      rw [BitVec.testBit_toNat]
      exact h i hi)
    have e36 : (2 : Nat) ^ 36 = 68719476736 := by decide
    rw [e36] at h1
    show 0 ≤ z.toInt ∧ z.toInt ≤ 68719476735
    split at hc <;> omega
theorem m36_0 : m36 0 := by decide
theorem m36_or {y z : Int64} (hy : m36 y) (hz : m36 z) : m36 (y ||| z) := m36_iff.mpr (fun i hi => by rw [tb_or, m36_iff.mp hy i hi, m36_iff.mp hz i hi]; rfl)
theorem m36_and {y z : Int64} (hy : m36 y) : m36 (y &&& z) := m36_iff.mpr (fun i hi => by rw [tb_and, m36_iff.mp hy i hi]; rfl)
theorem m36_bit {f : Int} (h0 : 0 ≤ f) (h1 : f ≤ 35) : m36 ((1 : Int64) <<< ((iI f).toInt64 &&& 63)) := m36_iff.mpr (fun i hi => by rw [tb_bit]; exact decide_eq_false (by omega))
theorem hg_wLF {V : VW} {X : XT} (h : HG V X) {k i : Nat} {z : Int64} {p : IV} (h1 : gL V k i = some p) (hz : p.1 ≤ z.toInt ∧ z.toInt ≤ p.2) : HG V (upL X k i z) := h.upL (fun q hq => by
  rw [h1] at hq
  cases hq
  exact hz)
theorem hg_wLA {V : VW} {X : XT} (h : HG V X) {k n i : Nat} {z : Int64} {p : IV} (hp : wrG ((vGL V).getD k []) 0 (n - 1) p = true) (hi : i < n) (hz : p.1 ≤ z.toInt ∧ z.toInt ≤ p.2) : HG V (upL X k i z) := h.upL (fun q hq => by
  have t := wrG_ok hp i (Nat.zero_le _) (by omega)
  have hq' : perG ((vGL V).getD k []) i = some q := hq
  rw [hq'] at t
  unfold fitI at t
  rw [Bool.and_eq_true, leI_iff, leI_iff] at t
  exact ⟨Int.le_trans t.1 hz.1, Int.le_trans hz.2 t.2⟩)
theorem HG.rLF {V : VW} {X : XT} (h : HG V X) {k i : Nat} {p : IV} (h1 : plK V k i = 1) (h2 : gL V k i = some p) : p.1 ≤ (X.2.1 k i).toInt ∧ (X.2.1 k i).toInt ≤ p.2 := h.2.1 k i p h1 h2
theorem HG.rLA {V : VW} {X : XT} (h : HG V X) {k t n i : Nat} {p : IV} (hk : k < vN V) (hs : vS V k = (2, t, n)) (hp : rdG ((vGL V).getD k []) 0 (n - 1) = some p) (hi : i < n) : p.1 ≤ (X.2.1 k i).toInt ∧ (X.2.1 k i).toInt ≤ p.2 := by
  obtain ⟨q, h1, h2, h3⟩ := rdG_ok hp i (Nat.zero_le _) (by omega)
  have := h.2.1 k i q (plK_a hk hs hi) h1
  exact ⟨Int.le_trans h2 this.1, Int.le_trans this.2 h3⟩
theorem FR.tr {md cm : List (Nat × Option Nat)} {X0 Y Z : XT} (h : FR md X0 Y) (h' : FR cm Y Z) (hc : cm.all (covM md) = true) : FR md X0 Z := fun a b hab => (h a b hab).tr (h' a b (by
  cases hq : inM cm a b with
  | false => rfl
  | true =>
    rw [covM_ok hc hq] at hab
    cases hab))
theorem upL_at {X : XT} {k i : Nat} {z : Int64} : (upL X k i z).2.1 k i = z := by
  show cond (Nat.beq k k && Nat.beq i i) z (X.2.1 k i) = z
  rw [Nat.beq_refl, Nat.beq_refl]
  rfl
theorem upL_ne {X : XT} {k i b : Nat} {z : Int64} (h : b ≠ i) : (upL X k i z).2.1 k b = X.2.1 k b := by
  show cond (Nat.beq k k && Nat.beq b i) z (X.2.1 k b) = X.2.1 k b
  rw [beq_ne h, Bool.and_false]
  rfl
theorem upI_nc {X : XT} {k i a b : Nat} {z : Int} (h : a ≠ k) : (upI X k i z).1 a b = X.1 a b := by
  show cond (Nat.beq a k && Nat.beq b i) z (X.1 a b) = X.1 a b
  rw [beq_ne h]
  rfl
theorem upL_nc {X : XT} {k i a b : Nat} {z : Int64} (h : a ≠ k) : (upL X k i z).2.1 a b = X.2.1 a b := by
  show cond (Nat.beq a k && Nat.beq b i) z (X.2.1 a b) = X.2.1 a b
  rw [beq_ne h]
  rfl
theorem upL_1 {X : XT} {k i : Nat} {z : Int64} : (upL X k i z).1 = X.1 := rfl
theorem upI_2 {X : XT} {k i : Nat} {z : Int} : (upI X k i z).2 = X.2 := rfl
/-! steps -/
def nxX (W p d : Int) : Int := p % W + (if d = 1 then 1 else if d = 3 then -1 else 0)
def nxY (W p d : Int) : Int := p / W + (if d = 2 then 1 else if d = 0 then -1 else 0)
def nxtI (W H p d : Int) : Int := if 0 ≤ nxX W p d ∧ nxX W p d ≤ W - 1 ∧ 0 ≤ nxY W p d ∧ nxY W p d ≤ H - 1 then nxY W p d * W + nxX W p d else -1
theorem nxt_y {W H p d x y w : Int} (hx : x = nxX W p d) (hy : y = nxY W p d) (hw : w = W) (c : 0 ≤ x ∧ x ≤ W - 1 ∧ 0 ≤ y ∧ y ≤ H - 1) : y * w + x = nxtI W H p d := by
  subst hx hy hw
  unfold nxtI
  rw [if_pos c]
theorem nxt_n {W H p d x y : Int} (hx : x = nxX W p d) (hy : y = nxY W p d) (c : ¬ (0 ≤ x ∧ x ≤ W - 1 ∧ 0 ≤ y ∧ y ≤ H - 1)) : -1 = nxtI W H p d := by
  subst hx hy
  unfold nxtI
  rw [if_neg c]
theorem nxt_c {W H p d : Int} (h : nxtI W H p d ≠ -1) : (0 ≤ nxX W p d ∧ nxX W p d ≤ W - 1 ∧ 0 ≤ nxY W p d ∧ nxY W p d ≤ H - 1) ∧ nxtI W H p d = nxY W p d * W + nxX W p d := by
  unfold nxtI at h ⊢
  split
  · rename_i c
    exact ⟨c, rfl⟩
  · rename_i c
    rw [if_neg c] at h
    exact absurd rfl h
theorem nxt_bd {W H p d : Int} (hW : 2 ≤ W ∧ W ≤ 6) (hH : 2 ≤ H ∧ H ≤ 6) : nxtI W H p d = -1 ∨ (0 ≤ nxtI W H p d ∧ nxtI W H p d ≤ 35) := by
  by_cases h : nxtI W H p d = -1
  · exact Or.inl h
  · obtain ⟨c, e⟩ := nxt_c h
    rw [e]
    exact Or.inr (yw_bd (h := H) c.1 c.2.1 c.2.2.1 c.2.2.2 hW.2 hH.2)
def rkI (W H d p : Int) : Int := if d = 0 then p / W else if d = 1 then W - 1 - p % W else if d = 2 then (if p / W ≤ H - 1 then H - 1 - p / W else 0) else p % W
theorem rk_nn {W H d p : Int} (hW : 2 ≤ W ∧ W ≤ 6) (p0 : 0 ≤ p) (p1 : p ≤ 35) : 0 ≤ rkI W H d p := by
  have m := md_bd (p := p) (w := W) p0 (by omega)
  unfold rkI
  split
  · omega
  split
  · omega
  split
  · split <;> omega
  · omega
theorem rk_dec {W H d p : Int} (hW : 2 ≤ W ∧ W ≤ 6) (p0 : 0 ≤ p) (p1 : p ≤ 35) (d0 : 0 ≤ d) (d1 : d ≤ 3) (h : nxtI W H p d ≠ -1) : rkI W H d (nxtI W H p d) < rkI W H d p := by
  obtain ⟨c, e⟩ := nxt_c h
  rw [e]
  clear e h
  unfold nxX nxY at *
  unfold rkI
  rcases (show d = 0 ∨ d = 1 ∨ d = 2 ∨ d = 3 by omega) with rfl | rfl | rfl | rfl <;> rcases (show W = 2 ∨ W = 3 ∨ W = 4 ∨ W = 5 ∨ W = 6 by omega) with rfl | rfl | rfl | rfl | rfl <;> simp at c ⊢ <;> omega
theorem rk_bd {W H d p : Int} (hW : 2 ≤ W ∧ W ≤ 6) (hH : 2 ≤ H ∧ H ≤ 6) (p0 : 0 ≤ p) (p1 : p ≤ 35) (d0 : 0 ≤ d) (d1 : d ≤ 3) (h : nxtI W H p d ≠ -1) : rkI W H d p ≤ 6 := by
  obtain ⟨c, e⟩ := nxt_c h
  clear e h
  unfold nxX nxY at *
  unfold rkI
  rcases (show d = 0 ∨ d = 1 ∨ d = 2 ∨ d = 3 by omega) with rfl | rfl | rfl | rfl <;> rcases (show W = 2 ∨ W = 3 ∨ W = 4 ∨ W = 5 ∨ W = 6 by omega) with rfl | rfl | rfl | rfl | rfl <;> simp at c ⊢ <;> omega
