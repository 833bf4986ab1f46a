/-! ===== a RULE's long: its length, its signs ===== -/
def qN (c : Nat → Int) : Nat → Nat
  | 0 => 0
  | j + 1 => qN c j + 1 + (c j).toNat * 16 ^ (j + 1)
theorem p16 : ∀ k : Nat, 0 < 16 ^ k
  | 0 => by decide
  | k + 1 => by
    have := p16 k
    rw [Nat.pow_succ]
    omega
theorem qN_e {x j : Nat} : x * 16 ^ (j + 1) = 16 * (x * 16 ^ j) := by
  rw [Nat.pow_succ, ← Nat.mul_assoc, Nat.mul_comm]
theorem qN_bd {c : Nat → Int} : ∀ j, j ≤ 9 → (∀ i, i < j → 0 ≤ c i ∧ c i ≤ 10) → qN c j < 16 ^ (j + 1) ∧ qN c j % 16 = j
  | 0, _, _ => ⟨show (0 : Nat) < 16 ^ 1 by decide, rfl⟩
  | j + 1, h, hc => by
    have t := qN_bd (c := c) j (by omega) (fun i hi => hc i (by omega))
    have c1 := hc j (by omega)
    have m : (c j).toNat * 16 ^ (j + 1) ≤ 10 * 16 ^ (j + 1) := Nat.mul_le_mul_right _ (by omega)
    have p : 16 ^ (j + 1 + 1) = 16 * 16 ^ (j + 1) := by rw [Nat.pow_succ, Nat.mul_comm]
    refine ⟨?_, ?_⟩
    · show qN c j + 1 + (c j).toNat * 16 ^ (j + 1) < 16 ^ (j + 1 + 1)
      rw [p]
      have t1 := t.1
      generalize (c j).toNat * 16 ^ (j + 1) = q at m ⊢
      generalize 16 ^ (j + 1) = P at m t1 ⊢
      omega
    · show (qN c j + 1 + (c j).toNat * 16 ^ (j + 1)) % 16 = j + 1
      rw [qN_e]
      have t2 := t.2
      generalize (c j).toNat * 16 ^ j = q
      omega
theorem qN_at {c : Nat → Int} : ∀ j, j ≤ 9 → (∀ i, i < j → 0 ≤ c i ∧ c i ≤ 10) → ∀ k, k < j → qN c j / 16 / 16 ^ k % 16 = (c k).toNat
  | 0, _, _, k, hk => absurd hk (Nat.not_lt_zero k)
  | j + 1, h, hc, k, hk => by
    have b := qN_bd (c := c) j (by omega) (fun i hi => hc i (by omega))
    have ih := qN_at (c := c) j (by omega) (fun i hi => hc i (by omega))
    have c1 := hc j (by omega)
    have e : qN c (j + 1) / 16 = qN c j / 16 + (c j).toNat * 16 ^ j := by
      show (qN c j + 1 + (c j).toNat * 16 ^ (j + 1)) / 16 = _
      rw [qN_e]
      have t2 := b.2
      generalize (c j).toNat * 16 ^ j = q
      omega
    rw [e]
    by_cases kj : k = j
    · subst kj
      have lt : qN c k / 16 < 16 ^ k := by
        have t1 := b.1
        rw [Nat.pow_succ] at t1
        generalize 16 ^ k = P at t1 ⊢
        omega
      rw [Nat.add_mul_div_right _ _ (p16 k), Nat.div_eq_of_lt lt, Nat.zero_add, Nat.mod_eq_of_lt (by omega)]
    · have t := ih k (by omega)
      obtain ⟨d, rfl⟩ : ∃ d, j = k + 1 + d := ⟨j - (k + 1), by omega⟩
      have e2 : (c (k + 1 + d)).toNat * 16 ^ (k + 1 + d) = ((c (k + 1 + d)).toNat * 16 ^ d * 16) * 16 ^ k := by
        rw [Nat.pow_add, Nat.pow_succ]
        generalize 16 ^ k = a
        generalize 16 ^ d = b
        generalize (c (k + 1 + d)).toNat = x
        rw [Nat.mul_comm (a * 16) b, Nat.mul_comm a 16, ← Nat.mul_assoc, ← Nat.mul_assoc]
      rw [e2, Nat.add_mul_div_right _ _ (p16 k), Nat.add_mul_mod_self_right]
      exact t
theorem lenL_N {r : Int64} {n j : Nat} (t : r.toBitVec.toNat = n) (hm : n % 16 = j) : lenL r = (j : Int) := by
  have e1 : (r &&& 15).toBitVec.toNat = j := by
    rw [Int64.toBitVec_and, BitVec.toNat_and, show (15 : Int64).toBitVec.toNat = 2 ^ 4 - 1 by decide, Nat.and_two_pow_sub_one_eq_mod, t]
    exact hm
  have e2 : (r &&& 15).toInt = (j : Int) := by
    show (r &&& 15).toBitVec.toInt = _
    rw [BitVec.toInt_eq_toNat_cond, e1, if_pos (by omega)]
  have e3 : ((j : Int)).bmod 4294967296 = (j : Int) := by
    rw [Int.bmod_eq_emod]
    split <;> omega
  unfold lenL
  rw [Int64.toInt_toInt32, e2]
  exact e3
theorem wsL_N {r : Int64} {g : Int} {n j : Nat} (t : r.toBitVec.toNat = n) (j8 : j ≤ 8) (hn : n < 16 ^ (j + 1)) (hm : n % 16 = j) (g0 : 0 ≤ g ∧ g ≤ 10) : (wsL r g).toBitVec.toNat = n + 1 + g.toNat * 16 ^ (j + 1) := by
  have gN : ((iI g).toInt64).toBitVec.toNat = g.toNat := by
    rcases (show g = 0 ∨ g = 1 ∨ g = 2 ∨ g = 3 ∨ g = 4 ∨ g = 5 ∨ g = 6 ∨ g = 7 ∨ g = 8 ∨ g = 9 ∨ g = 10 by omega) with rfl | rfl | rfl | rfl | rfl | rfl | rfl | rfl | rfl | rfl | rfl <;> decide
  have sh : (((iI (4 * (j : Int) + 4)).toInt64 &&& 63).toBitVec.smod 64).toNat = 4 * j + 4 := by
    clear hn hm
    rcases (show j = 0 ∨ j = 1 ∨ j = 2 ∨ j = 3 ∨ j = 4 ∨ j = 5 ∨ j = 6 ∨ j = 7 ∨ j = 8 by omega) with rfl | rfl | rfl | rfl | rfl | rfl | rfl | rfl | rfl <;> decide
  have pw : 2 ^ (4 * j + 4) = 16 ^ (j + 1) := by rw [show 4 * j + 4 = 4 * (j + 1) by omega, Nat.pow_mul]
  have pl : 16 ^ (j + 1) ≤ 16 ^ 9 := Nat.pow_le_pow_right (by decide) (by omega)
  have pl : 16 ^ (j + 1) ≤ 68719476736 := pl
  have m : g.toNat * 16 ^ (j + 1) ≤ 10 * 16 ^ (j + 1) := Nat.mul_le_mul_right _ (by omega)
  have m2 : g.toNat * 16 ^ (j + 1) < 2 ^ 64 := by
    generalize g.toNat * 16 ^ (j + 1) = q at m ⊢
    generalize 16 ^ (j + 1) = P at m pl
    omega
  unfold wsL
  rw [lenL_N t hm, Int64.toBitVec_add, BitVec.toNat_add, Int64.toBitVec_or, BitVec.toNat_or, Int64.toBitVec_shiftLeft, t, BitVec.shiftLeft_eq', sh, BitVec.toNat_shiftLeft, gN, Nat.shiftLeft_eq, pw, Nat.mod_eq_of_lt m2]
  have orr : n ||| g.toNat * 16 ^ (j + 1) = n + g.toNat * 16 ^ (j + 1) := by
    have q := Nat.two_pow_add_eq_or_of_lt (i := 4 * j + 4) (b := n) (by rw [pw]; exact hn) g.toNat
    rw [pw] at q
    rw [Nat.or_comm, Nat.mul_comm, ← q, Nat.add_comm]
  rw [orr, show (1 : Int64).toBitVec.toNat = 1 by decide]
  have m3 : n + g.toNat * 16 ^ (j + 1) + 1 < 2 ^ 64 := by
    generalize g.toNat * 16 ^ (j + 1) = q at m ⊢
    generalize 16 ^ (j + 1) = P at m pl hn
    omega
  rw [Nat.mod_eq_of_lt m3]
  omega
theorem rQ_N {c : Nat → Int} : ∀ j, j ≤ 9 → (∀ i, i < j → 0 ≤ c i ∧ c i ≤ 10) → (rQ c j).toBitVec.toNat = qN c j
  | 0, _, _ => rfl
  | j + 1, h, hc => by
    have t := rQ_N (c := c) j (by omega) (fun i hi => hc i (by omega))
    have b := qN_bd (c := c) j (by omega) (fun i hi => hc i (by omega))
    exact wsL_N t (by omega) b.1 b.2 (hc j (by omega))
/-- the length of a RULE's long is its row's first int -/
theorem RLM.len {r : Int64} {a : Nat → Int} (h : RLM r a) : lenL r = a 0 ∧ 0 ≤ a 0 ∧ a 0 ≤ 9 := by
  obtain ⟨c, j, h1, rfl, h3, h4⟩ := h
  have hc : ∀ i, i < j → 0 ≤ c i ∧ c i ≤ 10 := fun i hi => (h4 i hi).2
  exact ⟨(lenL_N (rQ_N j h1 hc) (qN_bd j h1 hc).2).trans h3.symm, by omega, by omega⟩
theorem sgL_N {r z : Int64} {n k : Nat} {u : Int} (t : r.toBitVec.toNat = n) (k8 : k ≤ 8) (ez : z = (r.toUInt64 >>> ((iI (4 * (k : Int) + 4)).toInt64.toUInt64 &&& Int64.toUInt64 63)).toInt64) (ru : inR u) (eu : iI u = z.toInt32 &&& iI 15) : u = ((n / 16 / 16 ^ k % 16 : Nat) : Int) := by
  have sh : ((iI (4 * (k : Int) + 4)).toInt64.toUInt64 &&& Int64.toUInt64 63).toNat % 64 = 4 * k + 4 := by
    rcases (show k = 0 ∨ k = 1 ∨ k = 2 ∨ k = 3 ∨ k = 4 ∨ k = 5 ∨ k = 6 ∨ k = 7 ∨ k = 8 by omega) with rfl | rfl | rfl | rfl | rfl | rfl | rfl | rfl | rfl <;> decide
  have z1 : z.toBitVec.toNat = n >>> (4 * k + 4) := by
    rw [ez]
    show (r.toUInt64 >>> ((iI (4 * (k : Int) + 4)).toInt64.toUInt64 &&& Int64.toUInt64 63)).toNat = _
    rw [UInt64.toNat_shiftRight, sh, ← t]
    rfl
  have pw : 2 ^ (4 * k + 4) = 16 * 16 ^ k := by rw [show 4 * k + 4 = 4 * (k + 1) by omega, Nat.pow_mul, Nat.pow_succ, Nat.mul_comm]
  rw [Nat.shiftRight_eq_div_pow, pw, ← Nat.div_div_eq_div_mul] at z1
  have u1 := bvI (iI u)
  rw [iI_toInt ru] at u1
  have u2 : (iI u).toBitVec.toNat = n / 16 / 16 ^ k % 16 := by
    rw [eu, Int32.toBitVec_and, BitVec.toNat_and, show (iI 15).toBitVec.toNat = 2 ^ 4 - 1 by decide, Nat.and_two_pow_sub_one_eq_mod, Int64.toBitVec_toInt32, BitVec.signExtend_eq_setWidth_of_le _ (by decide), BitVec.toNat_setWidth, z1]
    omega
  generalize n / 16 / 16 ^ k % 16 = q at u2 ⊢
  have q16 : (iI u).toBitVec.toNat < 16 := by
    rw [eu, Int32.toBitVec_and, BitVec.toNat_and, show (iI 15).toBitVec.toNat = 2 ^ 4 - 1 by decide, Nat.and_two_pow_sub_one_eq_mod]
    exact Nat.mod_lt _ (by decide)
  omega
theorem RLM.sg {r z : Int64} {a : Nat → Int} {k : Nat} {u : Int} (h : RLM r a) (hk : (k : Int) < a 0) (ez : z = (r.toUInt64 >>> ((iI (4 * (k : Int) + 4)).toInt64.toUInt64 &&& Int64.toUInt64 63)).toInt64) (ru : inR u) (eu : iI u = z.toInt32 &&& iI 15) : u = a (k + 1) := by
  obtain ⟨c, j, h1, rfl, h3, h4⟩ := h
  have hc : ∀ i, i < j → 0 ≤ c i ∧ c i ≤ 10 := fun i hi => (h4 i hi).2
  have kj : k < j := by omega
  have t := sgL_N (rQ_N j h1 hc) (by omega) ez ru eu
  rw [qN_at j h1 hc k kj] at t
  have c1 := h4 k kj
  rw [c1.1, t]
  omega
