/-! ===== VSE 3: intervals of results ===== -/
def fullI : IV := (-2147483648, 2147483647)
def fullL : IV := (-9223372036854775808, 9223372036854775807)
theorem fullI_ok (x : Int32) : fullI.1 ≤ x.toInt ∧ x.toInt ≤ fullI.2 := ⟨by show -2147483648 ≤ _; have := Int32.le_toInt x; omega, by show _ ≤ 2147483647; have := Int32.toInt_lt x; omega⟩
theorem fullL_ok (x : Int64) : fullL.1 ≤ x.toInt ∧ x.toInt ≤ fullL.2 := ⟨by show -9223372036854775808 ≤ _; have := Int64.le_toInt x; omega, by show _ ≤ 9223372036854775807; have := Int64.toInt_lt x; omega⟩
def ushr32 (x y : Int32) : Int32 := (x.toUInt32 >>> (y.toUInt32 &&& Int32.toUInt32 31)).toInt32
/-- ints: 0 +, 1 -, 2 *, 3 /, 4 %, 6 and, 7 or, 8 xor, 9 <<, 10 >>, else >>> -/
def bI (o : Nat) (x y : Int32) : Int32 := match o with
  | 0 => x + y
  | 1 => x - y
  | 2 => x * y
  | 3 => x / y
  | 4 => x - x / y * y
  | 6 => x &&& y
  | 7 => x ||| y
  | 8 => x ^^^ y
  | 9 => x <<< (y &&& 31)
  | 10 => x >>> (y &&& 31)
  | _ => ushr32 x y
def inrI (q : IV) : IV := cond (rgI q) q fullI
def bQ (o : Nat) (p q : IV) : Option IV := match o with
  | 0 => some (inrI (p.1 + q.1, p.2 + q.2))
  | 1 => some (inrI (p.1 - q.2, p.2 - q.1))
  | 2 => some (cond (leI 0 p.1 && leI 0 q.1) (inrI (p.1 * q.1, p.2 * q.2)) fullI)
  | 3 => cond (leI 0 p.1 && leI 1 q.1) (some (cond (decide (q.1 = q.2)) (p.1 / q.1, p.2 / q.1) (0, p.2))) none
  | 4 => cond (leI 0 p.1 && leI 1 q.1) (some (0, min p.2 (q.2 - 1))) none
  | 6 => some (cond (decide (q.1 = q.2) && leI 0 q.1) (0, q.1) fullI)
  | 11 => some (cond (decide (q.1 = 16) && decide (q.2 = 16)) (0, 65535) fullI)
  | _ => some fullI
theorem toInt_iI {z : Int} (x : Int32) (h : x = iI z) (r : inR z) : x.toInt = z := by rw [h, iI_toInt r]
theorem inrI_ok {q : IV} {x : Int32} {z : Int} (hx : x = iI z) (h1 : q.1 ≤ z) (h2 : z ≤ q.2) : (inrI q).1 ≤ x.toInt ∧ x.toInt ≤ (inrI q).2 := by
  unfold inrI
  cases hr : rgI q with
  | true =>
    have := toInt_iI x hx (rgI_ok hr h1 h2)
    rw [this]
    exact ⟨h1, h2⟩
  | false => exact fullI_ok x
theorem mul_nn {a b c d : Int} (ha : 0 ≤ a) (hc : 0 ≤ c) (h1 : a ≤ b) (h2 : c ≤ d) : a * c ≤ b * d :=
  Int.le_trans (Int.mul_le_mul_of_nonneg_right h1 hc) (Int.mul_le_mul_of_nonneg_left h2 (Int.le_trans ha h1))
theorem bQ_ok {o : Nat} {p q r : IV} {x y : Int32} (hx : p.1 ≤ x.toInt ∧ x.toInt ≤ p.2) (hy : q.1 ≤ y.toInt ∧ y.toInt ≤ q.2) (h : bQ o p q = some r) : r.1 ≤ (bI o x y).toInt ∧ (bI o x y).toInt ≤ r.2 := by
  have ex := iI_of x
  have ey := iI_of y
  have rx := inR_toInt x
  have ry := inR_toInt y
  match o with
  | 0 =>
    cases h
    exact inrI_ok (z := x.toInt + y.toInt) (by rw [← iI_add, ex, ey]; rfl) (by show p.1 + q.1 ≤ _; omega) (by show _ ≤ p.2 + q.2; omega)
  | 1 =>
    cases h
    exact inrI_ok (z := x.toInt - y.toInt) (by rw [← iI_sub, ex, ey]; rfl) (by show p.1 - q.2 ≤ _; omega) (by show _ ≤ p.2 - q.1; omega)
  | 2 =>
    unfold bQ at h
    cases hc : (leI 0 p.1 && leI 0 q.1) with
    | false => rw [hc] at h; cases h; exact fullI_ok _
    | true =>
      rw [hc] at h
      cases h
      rw [Bool.and_eq_true, leI_iff, leI_iff] at hc
      exact inrI_ok (z := x.toInt * y.toInt) (by rw [← iI_mul, ex, ey]; rfl) (mul_nn hc.1 hc.2 hx.1 hy.1) (mul_nn (by omega) (by omega) hx.2 hy.2)
  | 3 =>
    unfold bQ at h
    cases hc : (leI 0 p.1 && leI 1 q.1) with
    | false => rw [hc] at h; cases h
    | true =>
      rw [hc] at h
      rw [Bool.and_eq_true, leI_iff, leI_iff] at hc
      have e : (bI 3 x y) = iI (x.toInt / y.toInt) := by
        show x / y = _
        rw [← iI_div (by omega) (by omega) rx ry, ex, ey]
      have d0 : 0 ≤ x.toInt / y.toInt := Int.ediv_nonneg (by omega) (by omega)
      have d1 : x.toInt / y.toInt ≤ x.toInt := Int.ediv_le_self _ (by omega)
      have e2 := toInt_iI _ e ⟨by have := rx.1; omega, by have := rx.2; omega⟩
      rw [e2]
      by_cases hq : q.1 = q.2
      · simp only [decide_eq_true hq, cond_true] at h
        cases h
        have : y.toInt = q.1 := by omega
        rw [this]
        exact ⟨Int.ediv_le_ediv (by omega) hx.1, Int.ediv_le_ediv (by omega) hx.2⟩
      · simp only [decide_eq_false hq, cond_true, cond_false] at h
        cases h
        exact ⟨d0, by show _ ≤ p.2; omega⟩
  | 4 =>
    unfold bQ at h
    cases hc : (leI 0 p.1 && leI 1 q.1) with
    | false => rw [hc] at h; cases h
    | true =>
      rw [hc] at h
      cases h
      rw [Bool.and_eq_true, leI_iff, leI_iff] at hc
      have e : (bI 4 x y) = iI (x.toInt % y.toInt) := by
        show x - x / y * y = _
        rw [← iI_rem (by omega) (by omega) rx ry, ex, ey]
      have m0 := Int.emod_nonneg x.toInt (b := y.toInt) (by omega)
      have m1 := Int.emod_lt_of_pos x.toInt (b := y.toInt) (by omega)
      have m2 : x.toInt % y.toInt ≤ x.toInt := by
        have := Int.emod_add_mul_ediv x.toInt y.toInt
        have d0 : 0 ≤ y.toInt * (x.toInt / y.toInt) := Int.mul_nonneg (by omega) (Int.ediv_nonneg (by omega) (by omega))
        omega
      have e2 := toInt_iI _ e ⟨by have := rx.1; omega, by have := rx.2; omega⟩
      rw [e2]
      exact ⟨m0, by show _ ≤ min p.2 (q.2 - 1); omega⟩
  | 6 =>
    unfold bQ at h
    cases hc : (decide (q.1 = q.2) && leI 0 q.1) with
    | false => rw [hc] at h; cases h; exact fullI_ok _
    | true =>
      rw [hc] at h
      cases h
      rw [Bool.and_eq_true, leI_iff, decide_eq_true_iff] at hc
      have hyq : y = iI q.1 := by rw [← ey]; congr 1; omega
      have := and_bd (m := q.1) (z := (x &&& y).toInt) (x := x) hc.2 (by have := ry.2; omega) (inR_toInt _) (by rw [iI_of, hyq])
      exact this
  | 11 =>
    unfold bQ at h
    cases hc : (decide (q.1 = 16) && decide (q.2 = 16)) with
    | false => rw [hc] at h; cases h; exact fullI_ok _
    | true =>
      rw [hc] at h
      cases h
      rw [Bool.and_eq_true, decide_eq_true_iff, decide_eq_true_iff] at hc
      have hyq : y = iI 16 := by rw [← ey]; congr 1; omega
      exact ushr16_bd (z := (bI 11 x y).toInt) (x := x) (inR_toInt _) (by rw [iI_of, hyq]; rfl)
  | 5 => cases h; exact fullI_ok _
  | 7 => cases h; exact fullI_ok _
  | 8 => cases h; exact fullI_ok _
  | 9 => cases h; exact fullI_ok _
  | 10 => cases h; exact fullI_ok _
  | o + 12 => cases h; exact fullI_ok _
/-! longs -/
def ushr64 (x : Int64) (y : Int32) : Int64 := (x.toUInt64 >>> (y.toInt64.toUInt64 &&& Int64.toUInt64 63)).toInt64
def bL (o : Nat) (x y : Int64) : Int64 := match o with
  | 0 => x + y
  | 1 => x - y
  | 2 => x * y
  | 3 => x &&& y
  | 4 => x ||| y
  | _ => x ^^^ y
def pw1 (h : Int) : Int := ((2 ^ (h.toNat.log2 + 1) - 1 : Nat) : Int)
def lQ (o : Nat) (p q : IV) : IV := match o with
  | 3 => cond (leI 0 q.1) (cond (leI 0 p.1) (0, min p.2 q.2) (0, q.2)) (cond (leI 0 p.1) (0, p.2) fullL)
  | 4 => cond (leI 0 p.1 && leI 0 q.1) (0, pw1 (max p.2 q.2)) fullL
  | _ => fullL
theorem n64 (x : Int64) : (2 * x.toBitVec.toNat < 18446744073709551616 ∧ x.toInt = (x.toBitVec.toNat : Int)) ∨ (¬ 2 * x.toBitVec.toNat < 18446744073709551616 ∧ x.toInt = (x.toBitVec.toNat : Int) - 18446744073709551616) := by
  have h : x.toInt = x.toBitVec.toInt := rfl
  rw [h, BitVec.toInt_eq_toNat_cond]
  by_cases hc : 2 * x.toBitVec.toNat < 2 ^ 64
  · exact Or.inl ⟨hc, by rw [if_pos hc]⟩
  · exact Or.inr ⟨hc, by rw [if_neg hc]; rfl⟩
theorem nn64 {x : Int64} (h : 0 ≤ x.toInt) : x.toInt = (x.toBitVec.toNat : Int) ∧ 2 * x.toBitVec.toNat < 18446744073709551616 := by
  have hb := x.toBitVec.isLt
  rcases n64 x with ⟨a, b⟩ | ⟨a, b⟩
  · exact ⟨b, a⟩
  · exfalso
    have : x.toBitVec.toNat < 18446744073709551616 := hb
    omega
theorem of64 {x : Int64} {n : Nat} (h : x.toBitVec.toNat = n) (hn : 2 * n < 18446744073709551616) : x.toInt = (n : Int) := by
  rcases n64 x with ⟨a, b⟩ | ⟨a, b⟩
  · rw [b, h]
  · exfalso; omega
theorem and64 {x y : Int64} (h : 0 ≤ y.toInt) : 0 ≤ (x &&& y).toInt ∧ (x &&& y).toInt ≤ y.toInt := by
  obtain ⟨e, l⟩ := nn64 h
  have h1 : (x &&& y).toBitVec.toNat = x.toBitVec.toNat &&& y.toBitVec.toNat := by
    rw [Int64.toBitVec_and, BitVec.toNat_and]
  have h2 : x.toBitVec.toNat &&& y.toBitVec.toNat ≤ y.toBitVec.toNat := Nat.and_le_right
  have h3 := of64 h1 (by omega)
  rw [h3, e]
  omega
theorem lQ_ok {o : Nat} {p q : IV} {x y : Int64} (hx : p.1 ≤ x.toInt ∧ x.toInt ≤ p.2) (hy : q.1 ≤ y.toInt ∧ y.toInt ≤ q.2) : (lQ o p q).1 ≤ (bL o x y).toInt ∧ (bL o x y).toInt ≤ (lQ o p q).2 := by
  match o with
  | 3 =>
    unfold lQ
    cases hq : leI 0 q.1 with
    | true =>
      have h1 := and64 (x := x) (y := y) (by have := leI_of hq; omega)
      cases hp : leI 0 p.1 with
      | true =>
        have h2 := and64 (x := y) (y := x) (by have := leI_of hp; omega)
        have e : (y &&& x) = (x &&& y) := Int64.and_comm y x
        rw [e] at h2
        exact ⟨h1.1, by show (x &&& y).toInt ≤ min p.2 q.2; omega⟩
      | false => exact ⟨h1.1, by show (x &&& y).toInt ≤ q.2; omega⟩
    | false =>
      cases hp : leI 0 p.1 with
      | true =>
        have h2 := and64 (x := y) (y := x) (by have := leI_of hp; omega)
        have e : (y &&& x) = (x &&& y) := Int64.and_comm y x
        rw [e] at h2
        exact ⟨h2.1, by show (x &&& y).toInt ≤ p.2; omega⟩
      | false => exact fullL_ok _
  | 4 =>
    unfold lQ
    cases hc : (leI 0 p.1 && leI 0 q.1) with
    | false => exact fullL_ok _
    | true =>
      rw [Bool.and_eq_true, leI_iff, leI_iff] at hc
      obtain ⟨ex, lx⟩ := nn64 (x := x) (by omega)
      obtain ⟨ey, ly⟩ := nn64 (x := y) (by omega)
      have h1 : (x ||| y).toBitVec.toNat = x.toBitVec.toNat ||| y.toBitVec.toNat := by
        rw [Int64.toBitVec_or, BitVec.toNat_or]
      have b1 : x.toBitVec.toNat ||| y.toBitVec.toNat < 2 ^ 63 := Nat.or_lt_two_pow (by omega) (by omega)
      have hm : (max p.2 q.2).toNat < 2 ^ ((max p.2 q.2).toNat.log2 + 1) := Nat.lt_log2_self
      have b2 : x.toBitVec.toNat ||| y.toBitVec.toNat < 2 ^ ((max p.2 q.2).toNat.log2 + 1) := Nat.or_lt_two_pow (by omega) (by omega)
      have h3 := of64 h1 (by omega)
      show 0 ≤ (x ||| y).toInt ∧ (x ||| y).toInt ≤ pw1 (max p.2 q.2)
      rw [h3]
      unfold pw1
      exact ⟨by omega, by omega⟩
  | 0 => exact fullL_ok _
  | 1 => exact fullL_ok _
  | 2 => exact fullL_ok _
  | o + 5 => exact fullL_ok _
/-- shifts of longs: 0 <<, 1 >>, else >>> -/
def shL (o : Nat) (x : Int64) (y : Int32) : Int64 := match o with
  | 0 => x <<< (y.toInt64 &&& 63)
  | 1 => x >>> (y.toInt64 &&& 63)
  | _ => ushr64 x y
def hQ (o : Nat) (p q : IV) : IV := match o with
  | 0 => cond (decide (p.1 = 1) && (decide (p.2 = 1) && (leI 0 q.1 && leI q.2 62))) (1, ((2 ^ q.2.toNat : Nat) : Int)) fullL
  | 1 => fullL
  | _ => cond (decide (q.1 = q.2) && (leI 1 q.1 && leI q.1 63)) (0, ((2 ^ (64 - q.1.toNat) - 1 : Nat) : Int)) fullL
theorem shl_one : ∀ n : Fin 63, ((1 : Int64) <<< ((iI (n.val : Int)).toInt64 &&& 63)).toInt = ((2 ^ n.val : Nat) : Int) := by decide +kernel
theorem ush_amt : ∀ n : Fin 64, ((iI (n.val : Int)).toInt64.toUInt64 &&& Int64.toUInt64 63).toNat = n.val := by decide +kernel
theorem hQ_ok {o : Nat} {p q : IV} {x : Int64} {y : Int32} (hx : p.1 ≤ x.toInt ∧ x.toInt ≤ p.2) (hy : q.1 ≤ y.toInt ∧ y.toInt ≤ q.2) : (hQ o p q).1 ≤ (shL o x y).toInt ∧ (shL o x y).toInt ≤ (hQ o p q).2 := by
  have ey := iI_of y
  match o with
  | 0 =>
    unfold hQ
    cases hc : (decide (p.1 = 1) && (decide (p.2 = 1) && (leI 0 q.1 && leI q.2 62))) with
    | false => exact fullL_ok _
    | true =>
      rw [Bool.and_eq_true, Bool.and_eq_true, Bool.and_eq_true, leI_iff, leI_iff, decide_eq_true_iff, decide_eq_true_iff] at hc
      obtain ⟨c1, c2, c3, c4⟩ := hc
      have hx1 : x = 1 := Int64.toInt_inj.mp (by show x.toInt = 1; omega)
      have hy1 : y = iI ((y.toInt.toNat : Nat) : Int) := by rw [Int.toNat_of_nonneg (by omega)]; exact ey.symm
      have h1 := shl_one ⟨y.toInt.toNat, by omega⟩
      show 1 ≤ (x <<< (y.toInt64 &&& 63)).toInt ∧ (x <<< (y.toInt64 &&& 63)).toInt ≤ _
      rw [hx1, hy1, h1]
      have h2 : 2 ^ y.toInt.toNat ≤ 2 ^ q.2.toNat := Nat.pow_le_pow_right (by decide) (by omega)
      have h3 : 1 ≤ 2 ^ y.toInt.toNat := Nat.one_le_two_pow
      exact ⟨by show (1 : Int) ≤ ((2 ^ y.toInt.toNat : Nat) : Int); omega, by show ((2 ^ y.toInt.toNat : Nat) : Int) ≤ ((2 ^ q.2.toNat : Nat) : Int); omega⟩
  | 1 => exact fullL_ok _
  | o + 2 =>
    unfold hQ
    cases hc : (decide (q.1 = q.2) && (leI 1 q.1 && leI q.1 63)) with
    | false => exact fullL_ok _
    | true =>
      rw [Bool.and_eq_true, Bool.and_eq_true, leI_iff, leI_iff, decide_eq_true_iff] at hc
      obtain ⟨c1, c2, c3⟩ := hc
      have hy0 : y.toInt = q.1 := by omega
      have hy1 : y = iI ((q.1.toNat : Nat) : Int) := by rw [Int.toNat_of_nonneg (by omega), ← hy0]; exact ey.symm
      have h1 := ush_amt ⟨q.1.toNat, by omega⟩
      have h2 : (shL (o + 2) x y).toBitVec.toNat = x.toUInt64.toNat >>> q.1.toNat := by
        show ((x.toUInt64 >>> (y.toInt64.toUInt64 &&& Int64.toUInt64 63)).toNat) = _
        rw [UInt64.toNat_shiftRight, hy1, h1]
        congr 1
        exact Nat.mod_eq_of_lt (show q.1.toNat < 64 by omega)
      have h3 : x.toUInt64.toNat < 2 ^ 64 := x.toUInt64.toNat_lt
      have h4 : x.toUInt64.toNat >>> q.1.toNat < 2 ^ (64 - q.1.toNat) := by
        rw [Nat.shiftRight_eq_div_pow]
        apply Nat.div_lt_of_lt_mul
        rw [← Nat.pow_add]
        have : q.1.toNat + (64 - q.1.toNat) = 64 := by omega
        rw [this]
        exact h3
      have h5 : 2 ^ (64 - q.1.toNat) ≤ 2 ^ 63 := Nat.pow_le_pow_right (by decide) (by omega)
      have h6 := of64 h2 (by omega)
      rw [h6]
      exact ⟨by show (0 : Int) ≤ _; omega, by show _ ≤ ((2 ^ (64 - q.1.toNat) - 1 : Nat) : Int); omega⟩
/-! one operand: 0 neg, 1 i2b, 2 i2c -/
def uI (o : Nat) (x : Int32) : Int32 := match o with
  | 0 => -x
  | 1 => x.toInt8.toInt32
  | _ => (x.toUInt32 % 65536).toInt32
def uQ (o : Nat) (p : IV) : IV := match o with
  | 0 => inrI (-p.2, -p.1)
  | 1 => (-128, 127)
  | _ => (0, 65535)
theorem uQ_ok {o : Nat} {p : IV} {x : Int32} (hx : p.1 ≤ x.toInt ∧ x.toInt ≤ p.2) : (uQ o p).1 ≤ (uI o x).toInt ∧ (uI o x).toInt ≤ (uQ o p).2 := by
  match o with
  | 0 => exact inrI_ok (z := -x.toInt) (by rw [← iI_neg, iI_of]; rfl) (by show -p.2 ≤ _; omega) (by show _ ≤ -p.1; omega)
  | 1 => exact i2b_bd (z := (uI 1 x).toInt) (x := x) (inR_toInt _) (by rw [iI_of]; rfl)
  | o + 2 => exact i2c_bd (z := (uI (o + 2) x).toInt) (x := x) (inR_toInt _) (by rw [iI_of]; rfl)
theorem i2l_ok (x : Int32) : x.toInt64.toInt = x.toInt := Int32.toInt_toInt64 x
def l2iQ (p : IV) : IV := inrI p
theorem l2i_ok {p : IV} {x : Int64} (hx : p.1 ≤ x.toInt ∧ x.toInt ≤ p.2) : (l2iQ p).1 ≤ x.toInt32.toInt ∧ x.toInt32.toInt ≤ (l2iQ p).2 := by
  have h : x.toInt32 = iI x.toInt := by
    apply Int32.toInt_inj.mp
    show x.toInt32.toInt = (Int32.ofInt x.toInt).toInt
    rw [Int64.toInt_toInt32, Int32.toInt_ofInt]
  exact inrI_ok h hx.1 hx.2
theorem cmp_bd (x y : Int64) : -1 ≤ (lg_cmp x y).toInt ∧ (lg_cmp x y).toInt ≤ 1 := by
  unfold lg_cmp
  split
  · decide
  · split <;> decide
