/-! ===== words as longs, sorts of tokens ===== -/
def wP (b : Nat → Int) (s : Nat) : Nat → Int64
  | 0 => 0
  | j + 1 => (wP b s j <<< ((iI 8).toInt64 &&& 63)) ||| (iI (b (s + j))).toInt64
def wdT (b : Nat → Int) (N s : Nat) : Int64 := if 8 < tE b N s - s then 0 else wP b s (tE b N s - s)
def sK (k : Int) : Int := if k = 5 then 0 else if k = 4 then 1 else if k = 1 then 2 else if k = 2 then 3 else 4
theorem sK_5 {k : Int} (h0 : 1 ≤ k) (h1 : k ≤ 5) : sK k = 0 ↔ k = 5 := by
  unfold sK
  (repeat' split) <;> omega
theorem sK_3 {k : Int} (h0 : 1 ≤ k) (h1 : k ≤ 5) : sK k = 3 ↔ k = 2 := by
  unfold sK
  (repeat' split) <;> omega
theorem sK_2 {k : Int} (h0 : 1 ≤ k) (h1 : k ≤ 5) : sK k = 2 ↔ k = 1 := by
  unfold sK
  (repeat' split) <;> omega
theorem sK_4 {k : Int} (h0 : 1 ≤ k) (h1 : k ≤ 5) : sK k = 4 ↔ k = 3 := by
  unfold sK
  (repeat' split) <;> omega
theorem and255m {v z : Int} (h0 : -128 ≤ v) (h1 : v ≤ 127) (rz : inR z) (e : iI z = iI v &&& iI 255) : z = v % 256 := by
  have t : ∀ k : Nat, k < 256 → iI ((k : Int) - 128) &&& iI 255 = iI (((k : Int) - 128) % 256) := by decide +kernel
  have ev : v = (((v + 128).toNat : Nat) : Int) - 128 := by omega
  have h := t (v + 128).toNat (by omega)
  rw [← ev] at h
  rw [h] at e
  exact (iI_eq rz ⟨by omega, by omega⟩).mp e
theorem sgl_bd {b : Nat → Int} {N s i : Nat} (h : tK b N s = 1) (h0 : s ≤ i) (h1 : i < tE b N s) : 97 ≤ b i ∧ b i ≤ 122 := by
  have t := tK_1 h
  exact kOf_let ((tE_in b N s i (.inl t.1) h0 h1).trans t.1)
theorem kOf_0 {c : Int} : kOf c = 0 ↔ c = 10 ∨ c = 32 := by
  unfold kOf
  (repeat' split) <;> omega
theorem kOf_1 {c : Int} : kOf c = 1 ↔ 97 ≤ c ∧ c ≤ 122 := by
  unfold kOf
  (repeat' split) <;> omega
theorem kOf_2 {c : Int} : kOf c = 2 ↔ 48 ≤ c ∧ c ≤ 57 := by
  unfold kOf
  (repeat' split) <;> omega
theorem kOf_3 {c : Int} : kOf c = 3 ↔ c = 59 := by
  unfold kOf
  (repeat' split) <;> omega
