/-! ===== the class: lemmas of its contracts by hand ===== -/
theorem m36_all {n : Int} (h : 0 ≤ n ∧ n ≤ 36) : m36 (((1 : Int64) <<< ((iI n).toInt64 &&& 63)) - 1) := by
  have t : ∀ k : Nat, k ≤ 36 → m36 (((1 : Int64) <<< ((iI (k : Int)).toInt64 &&& 63)) - 1) := by decide +kernel
  have e : n = ((n.toNat : Nat) : Int) := by omega
  rw [e]
  exact t n.toNat (by omega)
theorem wh_36 {w h : Int} (w0 : 0 ≤ w) (w1 : w ≤ 6) (h0 : 0 ≤ h) (h1 : h ≤ 6) : 0 ≤ w * h ∧ w * h ≤ 36 := by
  rcases (show w = 0 ∨ w = 1 ∨ w = 2 ∨ w = 3 ∨ w = 4 ∨ w = 5 ∨ w = 6 by omega) with rfl | rfl | rfl | rfl | rfl | rfl | rfl <;> omega
theorem any_beq {l : List Nat} {k : Nat} (h : l.any (Nat.beq k) = true) : k ∈ l := by
  obtain ⟨x, hx, e⟩ := List.any_eq_true.mp h
  rw [Nat.eq_of_beq_eq_true e]
  exact hx
theorem inM_no {md : List (Nat × Option Nat)} {k i : Nat} (h : md.all (fun q => !Nat.beq q.1 k) = true) : inM md k i = false := by
  unfold inM
  rw [List.any_eq_false]
  intro q hq
  have := List.all_eq_true.mp h q hq
  rw [Bool.not_eq_true'] at this
  rw [this]
  exact fun h => Bool.noConfusion (show false = true from h)
theorem nprX {md : List (Nat × Option Nat)} (h : (vPr vX).all (fun p => md.all (fun q => !Nat.beq q.1 p)) = true) {k i : Nat} (hp : (vPr vX).any (Nat.beq k) = true) : inM md k i = false :=
  inM_no (List.all_eq_true.mp h k (any_beq hp))
theorem noM {md : List (Nat × Option Nat)} {c : Nat × Nat} (h : tb8.all (fun p => (Nat.beq p.1 c.1 && Nat.beq p.2 c.2) || (md.all (fun q => !Nat.beq q.1 p.1) && md.all (fun q => !Nat.beq q.1 p.2))) = true) : ∀ p ∈ tb8, p ≠ c → ∀ i, inM md p.1 i = false ∧ inM md p.2 i = false := by
  intro p hp hne i
  have t := List.all_eq_true.mp h p hp
  rw [Bool.or_eq_true, Bool.and_eq_true, Bool.and_eq_true] at t
  rcases t with ⟨a, b⟩ | ⟨a, b⟩
  · exact absurd (Prod.ext (Nat.eq_of_beq_eq_true a) (Nat.eq_of_beq_eq_true b)) hne
  · exact ⟨inM_no a, inM_no b⟩
theorem cpI_o1 {X : XT} {k0 k1 sp dp n a b : Nat} (h : a ≠ k1) : (cpI X k0 k1 sp dp n).1 a b = X.1 a b := by
  show cond (Nat.beq a k1) _ (X.1 a b) = X.1 a b
  rw [beq_ne h]
  rfl
theorem cpI_r {X : XT} {k0 k1 j : Nat} {n : Int} (h : j < n.toNat) : (cpI X k0 k1 (Int.toNat 0) (Int.toNat 0) n.toNat).1 k1 j = X.1 k0 j := by
  rw [cpI_s]
  unfold va_cpy
  rw [if_pos ⟨Nat.zero_le _, by show j < 0 + n.toNat; omega⟩]
  show X.1 k0 (0 + (j - 0)) = X.1 k0 j
  rw [Nat.sub_zero, Nat.zero_add]
theorem FR.cpI {md : List (Nat × Option Nat)} {X0 X : XT} {k0 k1 sp dp n : Nat} (h : FR md X0 X) (hm : ∀ i, inM md k1 i = true) : FR md X0 (cpI X k0 k1 sp dp n) := fun a b hab =>
  (h a b hab).tr ⟨cpI_o1 (fun e => by
    subst e
    rw [hm b] at hab
    cases hab), rfl, rfl⟩
