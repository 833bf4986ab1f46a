/-! ===== the paths' bookkeeping ===== -/
def bdC (a b n : Nat) (B : Int) (X : XT) : Prop := ∀ k : Nat, k < n → X.1 a k ≠ 0 → X.1 b k ≤ B
theorem bdC.mono {a b n : Nat} {B C : Int} {X : XT} (h : bdC a b n B X) (hc : B ≤ C) : bdC a b n C X := fun k hk hn => Int.le_trans (h k hk hn) hc
theorem bdC.cg {a b n : Nat} {B : Int} {X Y : XT} (h : bdC a b n B X) (h1 : ∀ k, Y.1 a k = X.1 a k) (h2 : ∀ k, Y.1 b k = X.1 b k) : bdC a b n B Y := fun k hk hn => by
  rw [h2]
  rw [h1] at hn
  exact h k hk hn
theorem bdC.up {a b n : Nat} {B : Int} {X Y : XT} {z : Nat} (h : bdC a b n B X) (h1 : ∀ k, k ≠ z → Y.1 a k = X.1 a k ∧ Y.1 b k = X.1 b k) (hz : Y.1 b z ≤ B) : bdC a b n B Y := fun k hk hn => by
  by_cases e : k = z
  · subst e
    exact hz
  · rw [(h1 k e).2]
    rw [(h1 k e).1] at hn
    exact h k hk hn
abbrev mdCT : List (Nat × Option Nat) := [(27, none), (30, none), (33, none)]
abbrev mdEC : List (Nat × Option Nat) := [(35, none), (36, none), (37, none)]
abbrev mdPT : List (Nat × Option Nat) := [(27, none), (30, none), (33, none), (35, none), (36, none), (37, none)]
def PTH (B C : Int) (X : XT) : Prop := bdC 27 30 180 B X ∧ bdC 26 29 180 C X
theorem PTH.ct {B C : Int} {X Y : XT} {z : Nat} (h : PTH B C X) (hF : FR mdCT X Y) (h1 : ∀ k, k ≠ z → Y.1 27 k = X.1 27 k ∧ Y.1 30 k = X.1 30 k) (hz : Y.1 30 z ≤ B) : PTH B C Y :=
  ⟨h.1.up h1 hz, h.2.cg (fun k => (hF 26 k rfl).1) (fun k => (hF 29 k rfl).1)⟩
theorem PTH.ec {B C : Int} {X Y : XT} (h : PTH B C X) (hF : FR mdEC X Y) : PTH B C Y :=
  ⟨h.1.cg (fun k => (hF 27 k rfl).1) (fun k => (hF 30 k rfl).1), h.2.cg (fun k => (hF 26 k rfl).1) (fun k => (hF 29 k rfl).1)⟩
theorem PTH.mono {B B' C C' : Int} {X : XT} (h : PTH B C X) (hb : B ≤ B') (hc : C ≤ C') : PTH B' C' X := ⟨h.1.mono hb, h.2.mono hc⟩
theorem Int.toNat_lt_of {z : Int} {n : Nat} (h : 0 ≤ z) (h1 : z < n) : z.toNat < n := by omega
/-! how many bits -/
def pcN (z : Int64) : Nat → Int
  | 0 => 0
  | n + 1 => pcN z n + zB (tb z n)
theorem pcN_bd (z : Int64) : ∀ n : Nat, 0 ≤ pcN z n ∧ pcN z n ≤ n
  | 0 => ⟨Int.le_refl _, Int.le_refl _⟩
  | n + 1 => by
    have h := pcN_bd z n
    have h1 := zB_01 (tb z n)
    show 0 ≤ pcN z n + zB (tb z n) ∧ pcN z n + zB (tb z n) ≤ ((n + 1 : Nat) : Int)
    omega
theorem pcN_S {z : Int64} {i : Int} (h0 : 0 ≤ i) (h1 : i < 64) : pcN z (i + 1).toNat = pcN z i.toNat + zB (tb z (i % 64).toNat) := by
  rw [show (i + 1).toNat = i.toNat + 1 by omega, show (i % 64).toNat = i.toNat by omega]
  rfl
theorem pcN_0 {z : Int64} : ∀ n : Nat, pcN z n = 0 → ∀ i, i < n → tb z i = false
  | 0, _, i, hi => by omega
  | n + 1, h, i, hi => by
    have h0 := pcN_bd z n
    have h1 := zB_01 (tb z n)
    have h2 : pcN z n + zB (tb z n) = 0 := h
    by_cases e : i = n
    · subst e
      cases q : tb z i with
      | false => rfl
      | true =>
        rw [q] at h2 h1
        have : zB true = 1 := rfl
        omega
    · exact pcN_0 n (by omega) i (by omega)
theorem pcN_pos {z : Int64} (h : m36 z) (hz : z ≠ 0) : 1 ≤ pcN z 36 := by
  have hb := (pcN_bd z 36).1
  by_cases q : pcN z 36 = 0
  · refine absurd (tb_ext (fun i _ => ?_)) hz
    rw [tb_0]
    by_cases hi : i < 36
    · exact pcN_0 36 q i hi
    · exact m36_iff.mp h i (by omega)
  · omega
/-! the shifted product as a place -/
theorem shr50 {x : Int64} {z : Int} (rz : inR z) (e : iI z = ((x.toUInt64 >>> ((iI 50).toInt64.toUInt64 &&& Int64.toUInt64 63)).toInt64).toInt32) : 0 ≤ z ∧ z ≤ 16383 := by
  have e1 := congrArg Int32.toBitVec e
  have hk : ∀ j, 14 ≤ j → tb ((x.toUInt64 >>> ((iI 50).toInt64.toUInt64 &&& Int64.toUInt64 63)).toInt64) j = false := by
    intro j hj
    rw [tb_ushr]
    exact tb_ge _ (by show 64 ≤ (50 % 64 : Int).toNat + j; omega)
  have hb : ∀ j, 14 ≤ j → (iI z).toBitVec.getLsbD j = false := by
    intro j hj
    rw [e1, Int64.toBitVec_toInt32]
    by_cases h32 : j < 32
    · have := hk j hj
      unfold tb at this
      rw [BitVec.getLsbD_signExtend, if_pos (show j < 64 by omega), this, Bool.and_false]
    · exact BitVec.getLsbD_of_ge _ _ (by omega)
  have h1 : (iI z).toBitVec.toNat < 2 ^ 14 := Nat.lt_pow_two_of_testBit _ (fun j hj => by
    rw [BitVec.testBit_toNat]
    exact hb j hj)
  have e2 := bvI (iI z)
  rw [iI_toInt rz] at e2
  have : (2 : Nat) ^ 14 = 16384 := by decide
  omega

/-! known places -/
theorem knM_up {X Y : XT} {a : Nat} (h : ∀ i, i ≠ a → Y.1 41 i = X.1 41 i) : ∀ n : Nat, knM Y n ≤ knM X n + (if a < n then 1 else 0)
  | 0 => by simp [knM]
  | n + 1 => by
    have ih := knM_up h n
    show knM Y n + (if Y.1 41 n = 0 then 0 else 1) ≤ knM X n + (if X.1 41 n = 0 then 0 else 1) + (if a < n + 1 then 1 else 0)
    by_cases e : n = a
    · subst e
      rw [if_neg (Nat.lt_irrefl n)] at ih
      rw [if_pos (Nat.lt_succ_self n)]
      split <;> split <;> omega
    · rw [h n e]
      by_cases c : a < n
      · rw [if_pos c] at ih
        rw [if_pos (show a < n + 1 by omega)]
        split <;> omega
      · rw [if_neg c] at ih
        rw [if_neg (show ¬ a < n + 1 by omega)]
        split <;> omega
theorem knM_free {X : XT} (n : Nat) (h : knM X n < n) : ∃ i, i < n ∧ X.1 41 i = 0 := by
  induction n with
  | zero =>
    have : knM X 0 = 0 := rfl
    omega
  | succ n ih =>
    by_cases e : X.1 41 n = 0
    · exact ⟨n, Nat.lt_succ_self n, e⟩
    · have h' : knM X (n + 1) = knM X n + (if X.1 41 n = 0 then 0 else 1) := rfl
      rw [if_neg e] at h'
      obtain ⟨i, hi, hz⟩ := ih (by omega)
      exact ⟨i, Nat.lt_succ_of_lt hi, hz⟩
theorem knM_z {X : XT} : ∀ n : Nat, (∀ i, i < n → X.1 41 i = 0) → knM X n = 0
  | 0, _ => rfl
  | n + 1, h => by
    show knM X n + (if X.1 41 n = 0 then 0 else 1) = 0
    rw [knM_z n (fun i hi => h i (by omega)), if_pos (h n (by omega))]
    rfl
theorem knA_up {X Y : XT} {a : Nat} (h : ∀ i, i ≠ a → Y.1 41 i = X.1 41 i) : knA Y ≤ knA X + 1 := by
  rw [knA_eq, knA_eq]
  have := knM_up h 16384
  split at this <;> omega
theorem PTH_1000 {X : XT} (hH : HG vM X) : PTH 1000 1000 X :=
  ⟨fun k hk _ => (hH.rA (k := 30) (n := 180) (p := (0, 1000)) (nlt rfl) rfl (by decide +kernel) hk).2, fun k hk _ => (hH.rA (k := 29) (n := 180) (p := (0, 1000)) (nlt rfl) rfl (by decide +kernel) hk).2⟩
