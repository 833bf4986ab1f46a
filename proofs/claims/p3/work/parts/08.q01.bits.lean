/-! ===== bits of longs ===== -/
def tb (z : Int64) (i : Nat) : Bool := z.toBitVec.getLsbD i
def zB (b : Bool) : Int := cond b 1 0
theorem zB_01 (b : Bool) : 0 ≤ zB b ∧ zB b ≤ 1 := by cases b <;> decide
theorem zB_t {b : Bool} (h : b = true) : 1 = zB b := by rw [h]; rfl
theorem zB_f {b : Bool} (h : b = false) : 0 = zB b := by rw [h]; rfl
theorem tb_ext {y z : Int64} (h : ∀ i, i < 64 → tb y i = tb z i) : y = z := Int64.toBitVec_inj.mp (BitVec.eq_of_getLsbD_eq h)
theorem tb_ge (z : Int64) {i : Nat} (h : 64 ≤ i) : tb z i = false := BitVec.getLsbD_of_ge _ _ h
theorem tb_and (y z : Int64) (i : Nat) : tb (y &&& z) i = (tb y i && tb z i) := by
  unfold tb
  rw [Int64.toBitVec_and, BitVec.getLsbD_and]
theorem tb_or (y z : Int64) (i : Nat) : tb (y ||| z) i = (tb y i || tb z i) := by
  unfold tb
  rw [Int64.toBitVec_or, BitVec.getLsbD_or]
theorem tb_xor (y z : Int64) (i : Nat) : tb (y ^^^ z) i = (tb y i != tb z i) := by
  unfold tb
  rw [Int64.toBitVec_xor, BitVec.getLsbD_xor]
theorem tb_0 (i : Nat) : tb 0 i = false := by
  show (0#64).getLsbD i = false
  exact BitVec.getLsbD_zero
theorem tb_m1 {i : Nat} (h : i < 64) : tb (-1) i = true := by
  have : ∀ i, i < 64 → tb (-1) i = true := by decide +kernel
  exact this i h
theorem tb_not (y : Int64) {i : Nat} (h : i < 64) : tb (y ^^^ (-1)) i = !tb y i := by
  rw [tb_xor, tb_m1 h]
  cases tb y i <;> rfl
theorem sh_A (x : Int32) : (x.toInt64 &&& 63 : Int64).toBitVec = BitVec.ofNat 64 (x.toBitVec.toNat % 64) := by
  apply BitVec.eq_of_getLsbD_eq
  intro i hi
  have h63 : ∀ i, i < 64 → (63 : Int64).toBitVec.getLsbD i = decide (i < 6) := by decide +kernel
  rw [Int64.toBitVec_and, BitVec.getLsbD_and, h63 i hi, Int32.toBitVec_toInt64, BitVec.getLsbD_ofNat, show (64 : Nat) = 2 ^ 6 from rfl, Nat.testBit_mod_two_pow]
  by_cases h6 : i < 6
  · rw [BitVec.getLsbD_signExtend]
    simp [h6, show i < 64 by omega, show i < 32 by omega, BitVec.testBit_toNat]
  · simp [h6]
theorem sh_B : ∀ n, n < 64 → (BitVec.ofNat 64 n).smod 64 = BitVec.ofNat 64 n := by decide +kernel
theorem sh_S (x : Int32) : (x.toInt64 &&& 63 : Int64).toBitVec.smod 64 = BitVec.ofNat 64 (x.toBitVec.toNat % 64) := by
  rw [sh_A, sh_B _ (Nat.mod_lt _ (by decide))]
theorem amt (i : Int) : (iI i).toBitVec.toNat % 64 = (i % 64).toNat := by
  show (BitVec.ofInt 32 i).toNat % 64 = _
  rw [BitVec.toNat_ofInt]
  show (i % 4294967296).toNat % 64 = _
  omega
theorem ofN {n : Nat} (h : n < 64) : (BitVec.ofNat 64 n).toNat = n := by
  rw [BitVec.toNat_ofNat]
  exact Nat.mod_eq_of_lt (by omega)
theorem m64 (i : Int) : (i % 64).toNat < 64 := by omega
theorem tb_shl (z : Int64) (i : Int) (j : Nat) : tb (z <<< ((iI i).toInt64 &&& 63)) j = (decide (j < 64) && (!decide (j < (i % 64).toNat) && tb z (j - (i % 64).toNat))) := by
  show (z.toBitVec <<< ((iI i).toInt64 &&& 63 : Int64).toBitVec.smod 64).getLsbD j = _
  rw [sh_S, amt, BitVec.shiftLeft_eq', BitVec.getLsbD_shiftLeft, ofN (m64 i)]
  rw [Bool.and_assoc]
  rfl
theorem tb_bit (i : Int) (j : Nat) : tb ((1 : Int64) <<< ((iI i).toInt64 &&& 63)) j = decide (j = (i % 64).toNat) := by
  rw [tb_shl]
  have h1 : ∀ k, tb 1 k = decide (k = 0) := by
    intro k
    by_cases hk : k < 64
    · have : ∀ k, k < 64 → tb 1 k = decide (k = 0) := by decide +kernel
      exact this k hk
    · rw [tb_ge 1 (by omega)]
      exact (decide_eq_false (by omega)).symm
  rw [h1]
  have hm := m64 i
  rw [Bool.eq_iff_iff]
  simp only [Bool.and_eq_true, decide_eq_true_eq, Bool.not_eq_true', decide_eq_false_iff_not]
  omega
theorem tb_ushr (z : Int64) (i : Int) (j : Nat) : tb ((z.toUInt64 >>> ((iI i).toInt64.toUInt64 &&& Int64.toUInt64 63)).toInt64) j = tb z ((i % 64).toNat + j) := by
  show (z.toBitVec >>> (((iI i).toInt64 &&& 63 : Int64).toBitVec % 64#64)).getLsbD j = z.toBitVec.getLsbD _
  rw [sh_A, amt]
  have hm := m64 i
  have e : (BitVec.ofNat 64 (i % 64).toNat % 64#64) = BitVec.ofNat 64 (i % 64).toNat := by
    apply BitVec.eq_of_toNat_eq
    rw [BitVec.toNat_umod, ofN hm]
    show _ % 64 = _
    exact Nat.mod_eq_of_lt hm
  rw [e, BitVec.ushiftRight_eq', BitVec.getLsbD_ushiftRight, ofN hm]
theorem tb_shr (z : Int64) (i : Int) (j : Nat) (h : (i % 64).toNat + j < 64) : tb (z >>> ((iI i).toInt64 &&& 63)) j = tb z ((i % 64).toNat + j) := by
  show (BitVec.sshiftRight' z.toBitVec (((iI i).toInt64 &&& 63 : Int64).toBitVec.smod 64)).getLsbD j = z.toBitVec.getLsbD _
  rw [sh_S, amt, BitVec.sshiftRight_eq', BitVec.getLsbD_sshiftRight, ofN (m64 i)]
  have : j < 64 := by omega
  simp [h, show ¬ 64 ≤ j by omega]
theorem and1 (z : Int64) : z &&& 1 = if tb z 0 then 1 else 0 := by
  apply tb_ext
  intro i hi
  have h1 : ∀ k, k < 64 → tb 1 k = decide (k = 0) := by decide +kernel
  rw [tb_and, h1 i hi]
  by_cases h0 : i = 0
  · subst h0
    cases h : tb z 0
    · simp [tb_0]
    · simp [h1 0 (by omega)]
  · cases h : tb z 0
    · simp [h0, tb_0]
    · simp [h0, h1 i hi]
theorem has_iff {z : Int64} {i : Int} : ((z >>> ((iI i).toInt64 &&& 63)) &&& 1 = 1) ↔ tb z (i % 64).toNat = true := by
  rw [and1, tb_shr z i 0 (by have := m64 i; omega), Nat.add_zero]
  cases tb z (i % 64).toNat
  · simp
  · simp
theorem hasU_iff {z : Int64} {i : Int} : ((z.toUInt64 >>> ((iI i).toInt64.toUInt64 &&& Int64.toUInt64 63)).toInt64 &&& 1 = 0) ↔ tb z (i % 64).toNat = false := by
  rw [and1, tb_ushr z i 0, Nat.add_zero]
  cases tb z (i % 64).toNat
  · simp
  · simp
