/-! ===== what a tape says, on: no number, whole texts ===== -/
theorem tn_m1 {b : Nat → Int} {N s : Nat} (h : tnV b N s = -1) (hs : s ≤ N) : tK b N s ≠ 2 := fun k => by
  unfold tnV at h
  rw [if_pos k] at h
  have := tV_bd k hs
  omega
theorem tnS_n {b : Nat → Int} {N s : Nat} (k : tK b N s ≠ 2) : tnS b N s = s := if_neg k
theorem tnF_n {b : Nat → Int} {N s : Nat} {lo hi : Int} {F : Int × Int} (k : tK b N s ≠ 2) : tnF b N lo hi s F = F := if_neg k
noncomputable def bRun (b : Nat → Int) (N : Nat) : Nat → Nat → Int × Int → BC → Bool × Nat × (Int × Int) × BC
  | 0, s, F, B => (true, s, F, B)
  | m + 1, s, F, B => if tK b N s = 5 then (true, s, F, B) else (if (bLine b N s F B).1 = true then bRun b N m (bLine b N s F B).2.1 (bLine b N s F B).2.2.1 (bLine b N s F B).2.2.2 else bLine b N s F B)
theorem bRun_E {b : Nat → Int} {N m s : Nat} {F : Int × Int} {B : BC} (h : tK b N s = 5) : bRun b N m s F B = (true, s, F, B) := by
  cases m with
  | zero => rfl
  | succ m => exact if_pos h
theorem bRun_y {b : Nat → Int} {N m s : Nat} {F : Int × Int} {B : BC} (h : tK b N s ≠ 5) (h1 : (bLine b N s F B).1 = true) : bRun b N (m + 1) s F B = bRun b N m (bLine b N s F B).2.1 (bLine b N s F B).2.2.1 (bLine b N s F B).2.2.2 := (if_neg h).trans (if_pos h1)
theorem bRun_n {b : Nat → Int} {N m s : Nat} {F : Int × Int} {B : BC} (h : tK b N s ≠ 5) (h1 : (bLine b N s F B).1 = false) : bRun b N (m + 1) s F B = bLine b N s F B := (if_neg h).trans (if_neg (by rw [h1]; decide))
noncomputable def gRun (b : Nat → Int) (N : Nat) : Nat → Nat → Int × Int → GC → Bool × Nat × (Int × Int) × GC
  | 0, s, F, G => (true, s, F, G)
  | m + 1, s, F, G => if tK b N s = 5 then (true, s, F, G) else (if (gLine b N s F G).1 = true then gRun b N m (gLine b N s F G).2.1 (gLine b N s F G).2.2.1 (gLine b N s F G).2.2.2 else gLine b N s F G)
theorem gRun_E {b : Nat → Int} {N m s : Nat} {F : Int × Int} {G : GC} (h : tK b N s = 5) : gRun b N m s F G = (true, s, F, G) := by
  cases m with
  | zero => rfl
  | succ m => exact if_pos h
theorem gRun_y {b : Nat → Int} {N m s : Nat} {F : Int × Int} {G : GC} (h : tK b N s ≠ 5) (h1 : (gLine b N s F G).1 = true) : gRun b N (m + 1) s F G = gRun b N m (gLine b N s F G).2.1 (gLine b N s F G).2.2.1 (gLine b N s F G).2.2.2 := (if_neg h).trans (if_pos h1)
theorem gRun_n {b : Nat → Int} {N m s : Nat} {F : Int × Int} {G : GC} (h : tK b N s ≠ 5) (h1 : (gLine b N s F G).1 = false) : gRun b N (m + 1) s F G = gLine b N s F G := (if_neg h).trans (if_neg (by rw [h1]; decide))
def bst (B : BC) : BC := (B.1, B.2.1, B.2.2.1, B.2.2.2.1 &&& (B.2.2.1 ^^^ (-1)), B.2.2.2.2)
def alL (B : BC) : Int64 := bitI (B.1 * B.2.1) - 1
/-- men from the j-th on stand on free FIELDS of their own -/
def sdL (all : Int64) (fl : Nat → Int) : Nat → Nat → Int64 → Bool
  | 0, _, _ => true
  | m + 1, j, t => if (bitI (fl j) &&& all) &&& (t ^^^ (-1)) = 0 then false else sdL all fl m (j + 1) (t ||| bitI (fl j))
def bSound (B : BC) : Bool := if (B.2.2.1 ||| B.2.2.2.1) &&& (alL B ^^^ (-1)) ≠ 0 then false else sdL (alL B) B.2.2.2.2.2.2 B.2.2.2.2.1.toNat 0 (B.2.2.1 ||| B.2.2.2.1)
