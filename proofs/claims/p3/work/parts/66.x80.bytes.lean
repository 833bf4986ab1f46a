/-! ===== the bytes of a number ===== -/
def byF (n : Int) (t : Nat) : Int := if t = 0 then n / 16777216 % 256 else if t = 1 then n / 65536 % 256 else if t = 2 then n / 256 % 256 else n % 256
theorem byF_0 (n : Int) : byF n 0 = n / 16777216 % 256 := rfl
theorem rb_0 {n z v : Int} (rn : inR n) (rz : inR z) (rv : inR v) (ez : iI z = iI n >>> (iI 24 &&& 31)) (ev : iI v = (iI z).toInt8.toInt32) : v % 256 = n / 16777216 % 256 := by
  have e1 : (iI n >>> (iI 24 &&& 31)).toInt = (iI n).toInt >>> 24 := by
    show ((iI n >>> (iI 24 &&& 31)).toBitVec).toInt = _
    rw [Int32.toBitVec_shiftRight, BitVec.toInt_sshiftRight', show ((iI 24 &&& 31).toBitVec.smod 32).toNat = 24 by decide]
    rfl
  rw [← ez, iI_toInt rz, iI_toInt rn, Int.shiftRight_eq_div_pow] at e1
  have e1 : z = n / 16777216 := e1
  have e2 : ((iI z).toInt8.toInt32).toInt = (iI z).toInt.bmod (2 ^ 8) := by rw [Int8.toInt_toInt32, Int32.toInt_toInt8]
  rw [← ev, iI_toInt rv, iI_toInt rz] at e2
  have e2 : v = z.bmod 256 := e2
  rw [Int.bmod_eq_emod] at e2
  split at e2 <;> omega
theorem ub_0 {n z v : Int} (rn : inR n) (rz : inR z) (rv : inR v) (ez : iI z = ((iI n).toUInt32 >>> ((iI 24).toUInt32 &&& Int32.toUInt32 31)).toInt32) (ev : iI v = iI z &&& iI 255) : v = n / 16777216 % 256 := by
  have e1 : (iI 24).toUInt32 &&& Int32.toUInt32 31 = 24 := by decide
  rw [e1] at ez
  have t2 : (((iI n).toUInt32 >>> 24).toInt32).toBitVec.toNat = (iI n).toUInt32.toNat >>> 24 := UInt32.toNat_shiftRight _ _
  rw [Nat.shiftRight_eq_div_pow, show (iI n).toUInt32.toNat = (iI n).toBitVec.toNat from rfl, ← ez] at t2
  have n1 := bvI (iI n)
  rw [iI_toInt rn] at n1
  have z1 := bvI (iI z)
  rw [iI_toInt rz] at z1
  have v1 := bvI (iI v)
  rw [iI_toInt rv] at v1
  have ww : (iI v).toBitVec.toNat = (iI z).toBitVec.toNat % 256 := by
    rw [ev, Int32.toBitVec_and, BitVec.toNat_and, show (iI 255).toBitVec.toNat = 2 ^ 8 - 1 by decide]
    exact Nat.and_two_pow_sub_one_eq_mod _ 8
  omega
theorem byF_1 (n : Int) : byF n 1 = n / 65536 % 256 := rfl
theorem rb_1 {n z v : Int} (rn : inR n) (rz : inR z) (rv : inR v) (ez : iI z = iI n >>> (iI 16 &&& 31)) (ev : iI v = (iI z).toInt8.toInt32) : v % 256 = n / 65536 % 256 := by
  have e1 : (iI n >>> (iI 16 &&& 31)).toInt = (iI n).toInt >>> 16 := by
    show ((iI n >>> (iI 16 &&& 31)).toBitVec).toInt = _
    rw [Int32.toBitVec_shiftRight, BitVec.toInt_sshiftRight', show ((iI 16 &&& 31).toBitVec.smod 32).toNat = 16 by decide]
    rfl
  rw [← ez, iI_toInt rz, iI_toInt rn, Int.shiftRight_eq_div_pow] at e1
  have e1 : z = n / 65536 := e1
  have e2 : ((iI z).toInt8.toInt32).toInt = (iI z).toInt.bmod (2 ^ 8) := by rw [Int8.toInt_toInt32, Int32.toInt_toInt8]
  rw [← ev, iI_toInt rv, iI_toInt rz] at e2
  have e2 : v = z.bmod 256 := e2
  rw [Int.bmod_eq_emod] at e2
  split at e2 <;> omega
theorem ub_1 {n z v : Int} (rn : inR n) (rz : inR z) (rv : inR v) (ez : iI z = ((iI n).toUInt32 >>> ((iI 16).toUInt32 &&& Int32.toUInt32 31)).toInt32) (ev : iI v = iI z &&& iI 255) : v = n / 65536 % 256 := by
  have e1 : (iI 16).toUInt32 &&& Int32.toUInt32 31 = 16 := by decide
  rw [e1] at ez
  have t2 : (((iI n).toUInt32 >>> 16).toInt32).toBitVec.toNat = (iI n).toUInt32.toNat >>> 16 := UInt32.toNat_shiftRight _ _
  rw [Nat.shiftRight_eq_div_pow, show (iI n).toUInt32.toNat = (iI n).toBitVec.toNat from rfl, ← ez] at t2
  have n1 := bvI (iI n)
  rw [iI_toInt rn] at n1
  have z1 := bvI (iI z)
  rw [iI_toInt rz] at z1
  have v1 := bvI (iI v)
  rw [iI_toInt rv] at v1
  have ww : (iI v).toBitVec.toNat = (iI z).toBitVec.toNat % 256 := by
    rw [ev, Int32.toBitVec_and, BitVec.toNat_and, show (iI 255).toBitVec.toNat = 2 ^ 8 - 1 by decide]
    exact Nat.and_two_pow_sub_one_eq_mod _ 8
  omega
theorem byF_2 (n : Int) : byF n 2 = n / 256 % 256 := rfl
theorem rb_2 {n z v : Int} (rn : inR n) (rz : inR z) (rv : inR v) (ez : iI z = iI n >>> (iI 8 &&& 31)) (ev : iI v = (iI z).toInt8.toInt32) : v % 256 = n / 256 % 256 := by
  have e1 : (iI n >>> (iI 8 &&& 31)).toInt = (iI n).toInt >>> 8 := by
    show ((iI n >>> (iI 8 &&& 31)).toBitVec).toInt = _
    rw [Int32.toBitVec_shiftRight, BitVec.toInt_sshiftRight', show ((iI 8 &&& 31).toBitVec.smod 32).toNat = 8 by decide]
    rfl
  rw [← ez, iI_toInt rz, iI_toInt rn, Int.shiftRight_eq_div_pow] at e1
  have e1 : z = n / 256 := e1
  have e2 : ((iI z).toInt8.toInt32).toInt = (iI z).toInt.bmod (2 ^ 8) := by rw [Int8.toInt_toInt32, Int32.toInt_toInt8]
  rw [← ev, iI_toInt rv, iI_toInt rz] at e2
  have e2 : v = z.bmod 256 := e2
  rw [Int.bmod_eq_emod] at e2
  split at e2 <;> omega
theorem ub_2 {n z v : Int} (rn : inR n) (rz : inR z) (rv : inR v) (ez : iI z = ((iI n).toUInt32 >>> ((iI 8).toUInt32 &&& Int32.toUInt32 31)).toInt32) (ev : iI v = iI z &&& iI 255) : v = n / 256 % 256 := by
  have e1 : (iI 8).toUInt32 &&& Int32.toUInt32 31 = 8 := by decide
  rw [e1] at ez
  have t2 : (((iI n).toUInt32 >>> 8).toInt32).toBitVec.toNat = (iI n).toUInt32.toNat >>> 8 := UInt32.toNat_shiftRight _ _
  rw [Nat.shiftRight_eq_div_pow, show (iI n).toUInt32.toNat = (iI n).toBitVec.toNat from rfl, ← ez] at t2
  have n1 := bvI (iI n)
  rw [iI_toInt rn] at n1
  have z1 := bvI (iI z)
  rw [iI_toInt rz] at z1
  have v1 := bvI (iI v)
  rw [iI_toInt rv] at v1
  have ww : (iI v).toBitVec.toNat = (iI z).toBitVec.toNat % 256 := by
    rw [ev, Int32.toBitVec_and, BitVec.toNat_and, show (iI 255).toBitVec.toNat = 2 ^ 8 - 1 by decide]
    exact Nat.and_two_pow_sub_one_eq_mod _ 8
  omega
theorem byF_3 (n : Int) : byF n 3 = n % 256 := rfl
theorem rb_3 {n z v : Int} (rn : inR n) (rz : inR z) (rv : inR v) (ez : iI z = iI n >>> (iI 0 &&& 31)) (ev : iI v = (iI z).toInt8.toInt32) : v % 256 = n % 256 := by
  have e1 : (iI n >>> (iI 0 &&& 31)).toInt = (iI n).toInt >>> 0 := by
    show ((iI n >>> (iI 0 &&& 31)).toBitVec).toInt = _
    rw [Int32.toBitVec_shiftRight, BitVec.toInt_sshiftRight', show ((iI 0 &&& 31).toBitVec.smod 32).toNat = 0 by decide]
    rfl
  rw [← ez, iI_toInt rz, iI_toInt rn, Int.shiftRight_eq_div_pow] at e1
  have e1 : z = n / 1 := e1
  have e2 : ((iI z).toInt8.toInt32).toInt = (iI z).toInt.bmod (2 ^ 8) := by rw [Int8.toInt_toInt32, Int32.toInt_toInt8]
  rw [← ev, iI_toInt rv, iI_toInt rz] at e2
  have e2 : v = z.bmod 256 := e2
  rw [Int.bmod_eq_emod] at e2
  split at e2 <;> omega
theorem ub_3 {n z v : Int} (rn : inR n) (rz : inR z) (rv : inR v) (ez : iI z = ((iI n).toUInt32 >>> ((iI 0).toUInt32 &&& Int32.toUInt32 31)).toInt32) (ev : iI v = iI z &&& iI 255) : v = n % 256 := by
  have e1 : (iI 0).toUInt32 &&& Int32.toUInt32 31 = 0 := by decide
  rw [e1] at ez
  have t2 : (((iI n).toUInt32 >>> 0).toInt32).toBitVec.toNat = (iI n).toUInt32.toNat >>> 0 := UInt32.toNat_shiftRight _ _
  rw [Nat.shiftRight_eq_div_pow, show (iI n).toUInt32.toNat = (iI n).toBitVec.toNat from rfl, ← ez] at t2
  have n1 := bvI (iI n)
  rw [iI_toInt rn] at n1
  have z1 := bvI (iI z)
  rw [iI_toInt rz] at z1
  have v1 := bvI (iI v)
  rw [iI_toInt rv] at v1
  have ww : (iI v).toBitVec.toNat = (iI z).toBitVec.toNat % 256 := by
    rw [ev, Int32.toBitVec_and, BitVec.toNat_and, show (iI 255).toBitVec.toNat = 2 ^ 8 - 1 by decide]
    exact Nat.and_two_pow_sub_one_eq_mod _ 8
  omega
