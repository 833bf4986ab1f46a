/-! ===== ENGINE 7: small helps ===== -/
theorem nlt {a b : Nat} (h : Nat.ble (a + 1) b = true) : a < b := Nat.le_of_ble_eq_true h
theorem nle {a b : Nat} (h : Nat.ble a b = true) : a ≤ b := Nat.le_of_ble_eq_true h
theorem Wx_st {E : ET} {w : WT} {nL : Nat} {PH : Heap → Prop} {pc : Nat} {lv : List (Nat × Value)} {st st' : List Value} (h : st = st') (k : Wx E w nL PH pc lv st') : Wx E w nL PH pc lv st := h ▸ k
theorem bvI (x : Int32) : (2 * x.toBitVec.toNat < 4294967296 ∧ x.toInt = (x.toBitVec.toNat : Int)) ∨ (¬ 2 * x.toBitVec.toNat < 4294967296 ∧ x.toInt = (x.toBitVec.toNat : Int) - 4294967296) := by
  have t : x.toInt = _ := BitVec.toInt_eq_toNat_cond x.toBitVec
  by_cases h : 2 * x.toBitVec.toNat < 2 ^ 32
  · rw [if_pos h] at t
    exact Or.inl ⟨h, t⟩
  · rw [if_neg h] at t
    exact Or.inr ⟨h, t⟩
theorem and_bd {m z : Int} {x : Int32} (h0 : 0 ≤ m) (h1 : m ≤ 2147483647) (rz : -2147483648 ≤ z ∧ z ≤ 2147483647) (e : iI z = x &&& iI m) : 0 ≤ z ∧ z ≤ m := by
  have e0 : z = (x &&& iI m).toInt := by rw [← e, iI_toInt rz]
  have hb : (x &&& iI m).toBitVec.toNat ≤ (iI m).toBitVec.toNat := by
    rw [Int32.toBitVec_and, BitVec.toNat_and]
    exact Nat.and_le_right
  have t1 := bvI (x &&& iI m)
  have t2 := bvI (iI m)
  rw [iI_toInt ⟨by omega, h1⟩] at t2
  omega
theorem ushr16_bd {z : Int} {x : Int32} (rz : -2147483648 ≤ z ∧ z ≤ 2147483647) (e : iI z = (x.toUInt32 >>> ((iI 16).toUInt32 &&& Int32.toUInt32 31)).toInt32) : 0 ≤ z ∧ z ≤ 65535 := by
  have e0 : z = ((x.toUInt32 >>> ((iI 16).toUInt32 &&& Int32.toUInt32 31)).toInt32).toInt := by rw [← e, iI_toInt rz]
  have e1 : (iI 16).toUInt32 &&& Int32.toUInt32 31 = 16 := by decide
  rw [e1] at e0
  have t1 := bvI ((x.toUInt32 >>> 16).toInt32)
  have t2 : ((x.toUInt32 >>> 16).toInt32).toBitVec.toNat = x.toUInt32.toNat >>> 16 := UInt32.toNat_shiftRight _ _
  rw [Nat.shiftRight_eq_div_pow] at t2
  have t3 : x.toUInt32.toNat < 4294967296 := x.toUInt32.toNat_lt
  omega
theorem i2b_bd {z : Int} {x : Int32} (rz : -2147483648 ≤ z ∧ z ≤ 2147483647) (e : iI z = x.toInt8.toInt32) : -128 ≤ z ∧ z ≤ 127 := by
  have e0 : z = (x.toInt8.toInt32).toInt := by rw [← e, iI_toInt rz]
  rw [Int8.toInt_toInt32] at e0
  have := Int8.le_toInt x.toInt8
  have := Int8.toInt_lt x.toInt8
  omega
theorem i2c_bd {z : Int} {x : Int32} (rz : -2147483648 ≤ z ∧ z ≤ 2147483647) (e : iI z = (x.toUInt32 % 65536).toInt32) : 0 ≤ z ∧ z ≤ 65535 := by
  have e0 : z = ((x.toUInt32 % 65536).toInt32).toInt := by rw [← e, iI_toInt rz]
  have t1 := bvI ((x.toUInt32 % 65536).toInt32)
  have t2 : ((x.toUInt32 % 65536).toInt32).toBitVec.toNat = x.toUInt32.toNat % 65536 := UInt32.toNat_mod _ _
  omega
theorem lcmp_iff {x y : Int64} {z : Int} (rz : inR z) (e : iI z = lg_cmp x y) : (z = 0 ↔ x = y) ∧ (z < 0 ↔ x < y) := by
  have e0 : z = (lg_cmp x y).toInt := by rw [← e, iI_toInt rz]
  have n1 : (1 : Int32).toInt = 1 := by decide
  have n0 : (0 : Int32).toInt = 0 := by decide
  have nm : (-1 : Int32).toInt = -1 := by decide
  unfold lg_cmp at e0
  rw [← Int64.toInt_inj, Int64.lt_iff_toInt_lt]
  by_cases h1 : x > y
  · rw [if_pos h1, n1] at e0
    have h2 : y.toInt < x.toInt := Int64.lt_iff_toInt_lt.mp h1
    omega
  · rw [if_neg h1] at e0
    have h2 : ¬ y.toInt < x.toInt := fun h => h1 (Int64.lt_iff_toInt_lt.mpr h)
    by_cases h3 : x = y
    · rw [if_pos h3, n0] at e0
      have h4 : x.toInt = y.toInt := by rw [h3]
      omega
    · rw [if_neg h3, nm] at e0
      have h4 : ¬ x.toInt = y.toInt := fun h => h3 (Int64.toInt_inj.mp h)
      omega
theorem x_lookup {E : ET} {w : WT} {nL : Nat} {PH : Heap → Prop} {pc : Nat} {lv : List (Nat × Value)} {st : List Value} {cc : ByteArray} {own : String} {ret : Option FieldType} {rm : Room} (C : CX E w cc nL own ret rm) {a dflt off : Int} {ps : Array (Int × Int)} {len tgt : Nat} (hd : decode cc pc = .ok (.lookupswitch dflt ps, len)) (hp : (ps.toList.zip (ps.toList.drop 1)).all (fun (a, next) => a.1 < next.1) = true) (ra : inR a) (ho : Op.lookupswitch.offset ps.toList dflt a = off) (ht : (pc : Int) + off = (tgt : Int)) (kk : Wx E w nL PH tgt lv st) : Wx E w nL PH pc lv (.int (iI a) :: st) := by
  obtain ⟨p, l, e, R, s, m, args, below, meth, c, A0, k0, n0, QQ⟩ := E
  intro H locs ls hP hS hl
  exact lv_lookup C.1 C.2.1 hd hp (by rw [iI_toInt ra]; exact ho) ht (kk H locs ls hP hS hl)
theorem x_eqL {E : ET} {w : WT} {nL : Nat} {PH : Heap → Prop} {pc : Nat} {lv : List (Nat × Value)} {st : List Value} {a b : Int64} (h : a = b) (k : Wx E w nL PH pc lv (.long b :: st)) : Wx E w nL PH pc lv (.long a :: st) := h ▸ k
theorem x_eqi {E : ET} {w : WT} {nL : Nat} {PH : Heap → Prop} {pc : Nat} {lv : List (Nat × Value)} {st : List Value} {x : Int32} {z : Int} (h : x = iI z) (k : Wx E w nL PH pc lv (.int (iI z) :: st)) : Wx E w nL PH pc lv (.int x :: st) := h ▸ k
