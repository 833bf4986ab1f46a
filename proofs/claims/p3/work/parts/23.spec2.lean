/-! ===== what a tape says, on: signs, lines ===== -/
def sgF (c : Int) : Int := if c = 110 then 0 else if c = 101 then 1 else if c = 115 then 2 else if c = 119 then 3 else if c = 97 then 4 else if c = 116 then 5 else if c = 120 then 6 else if c = 117 then 7 else if c = 98 then 8 else if c = 103 then 9 else if c = 113 then 10 else -1
theorem sgF_bd (c : Int) : -1 ≤ sgF c ∧ sgF c ≤ 10 := by
  unfold sgF
  (repeat' split) <;> omega
theorem ixS_sg {c u : Int} (h : ixS 6 c u) : u = sgF c := by
  rcases h with ⟨rfl, h⟩ | ⟨u0, u1, u2, -⟩
  · have g : ∀ j : Nat, j < 11 → sBy 6 j ≠ c := fun j hj => h j (by show (j : Int) < ((11 : Nat) : Int); omega)
    have e0 : sBy 6 0 = 110 := by decide
    have e1 : sBy 6 1 = 101 := by decide
    have e2 : sBy 6 2 = 115 := by decide
    have e3 : sBy 6 3 = 119 := by decide
    have e4 : sBy 6 4 = 97 := by decide
    have e5 : sBy 6 5 = 116 := by decide
    have e6 : sBy 6 6 = 120 := by decide
    have e7 : sBy 6 7 = 117 := by decide
    have e8 : sBy 6 8 = 98 := by decide
    have e9 : sBy 6 9 = 103 := by decide
    have e10 : sBy 6 10 = 113 := by decide
    have := g 0 (by omega); have := g 1 (by omega); have := g 2 (by omega); have := g 3 (by omega); have := g 4 (by omega); have := g 5 (by omega); have := g 6 (by omega); have := g 7 (by omega); have := g 8 (by omega); have := g 9 (by omega); have := g 10 (by omega)
    unfold sgF
    rw [if_neg (by omega), if_neg (by omega), if_neg (by omega), if_neg (by omega), if_neg (by omega), if_neg (by omega), if_neg (by omega), if_neg (by omega), if_neg (by omega), if_neg (by omega), if_neg (by omega)]
  · have u1 : u < 11 := u1
    rcases (show u = 0 ∨ u = 1 ∨ u = 2 ∨ u = 3 ∨ u = 4 ∨ u = 5 ∨ u = 6 ∨ u = 7 ∨ u = 8 ∨ u = 9 ∨ u = 10 by omega) with rfl | rfl | rfl | rfl | rfl | rfl | rfl | rfl | rfl | rfl | rfl <;> rw [← u2] <;> decide
def lenL (r : Int64) : Int := (r &&& 15).toInt32.toInt
def wsL (r : Int64) (g : Int) : Int64 := (r ||| ((iI g).toInt64 <<< ((iI (4 * lenL r + 4)).toInt64 &&& 63))) + 1
/-- j signs from s on: the RULE, whether a q is among them -/
def rP (b : Nat → Int) (s : Nat) : Nat → Int64 × Bool
  | 0 => (0, false)
  | j + 1 => (wsL (rP b s j).1 (sgF (b (s + j))), (rP b s j).2 || decide (sgF (b (s + j)) = 10))
def rOK (b : Nat → Int) (s j : Nat) : Prop := ∀ i, i < j → 0 ≤ sgF (b (s + i)) ∧ (sgF (b (s + i)) = 10 → (rP b s i).2 = false)
/-- a RULE stands at s -/
def tr (b : Nat → Int) (N s : Nat) : Prop := tK b N s = 1 ∧ tE b N s ≤ s + 9 ∧ rOK b s (tE b N s - s)
def rV (b : Nat → Int) (N s : Nat) : Int64 := (rP b s (tE b N s - s)).1
def bitI (v : Int) : Int64 := (1 : Int64) <<< ((iI v).toInt64 &&& 63)
/-- FIELDS from s on -/
def rF (b : Nat → Int) (N : Nat) : Nat → Nat → Int × Int → Int64 → Nat × (Int × Int) × Int64
  | 0, s, F, w => (s, F, w)
  | m + 1, s, F, w => if tK b N s = 2 then rF b N m (nx b N s) (tnF b N 0 35 s F) (w ||| bitI (tV b N s)) else (s, F, w)
theorem rF_S {b : Nat → Int} {N m s : Nat} {F : Int × Int} {w : Int64} (h : tK b N s = 2) : rF b N (m + 1) s F w = rF b N m (nx b N s) (tnF b N 0 35 s F) (w ||| bitI (tV b N s)) := if_pos h
theorem rF_E {b : Nat → Int} {N m s : Nat} {F : Int × Int} {w : Int64} (h : tK b N s ≠ 2) : rF b N m s F w = (s, F, w) := by
  cases m with
  | zero => rfl
  | succ m => exact if_neg h
theorem rF_bd {b : Nat → Int} {N : Nat} : ∀ (m s : Nat) (F : Int × Int) (w : Int64), s ≤ N → s ≤ (rF b N m s F w).1 ∧ (rF b N m s F w).1 ≤ N
  | 0, s, F, w, h => ⟨Nat.le_refl s, h⟩
  | m + 1, s, F, w, h => by
    by_cases q : tK b N s = 2
    · rw [rF_S q]
      have h1 := nx_bd b N s h
      have h2 := rF_bd (b := b) (N := N) m (nx b N s) (tnF b N 0 35 s F) (w ||| bitI (tV b N s)) h1.2.1
      omega
    · rw [rF_E q]
      exact ⟨Nat.le_refl s, h⟩
abbrev BC : Type := Int × Int × Int64 × Int64 × Int × (Nat → Int) × (Nat → Int)
abbrev GC : Type := Int × (Nat → Int64) × (Nat → Int)
def upF (f : Nat → Int) (k v : Int) : Nat → Int := fun j => if (j : Int) = k then v else f j
def upJ (f : Nat → Int64) (k : Int) (v : Int64) : Nat → Int64 := fun j => if (j : Int) = k then v else f j
def bsz (B : BC) (w h : Int) : BC := (w, h, B.2.2)
def bwl (B : BC) (f : Int64) : BC := (B.1, B.2.1, B.2.2.1 ||| f, B.2.2.2)
def bpt (B : BC) (f : Int64) : BC := (B.1, B.2.1, B.2.2.1, B.2.2.2.1 ||| f, B.2.2.2.2)
def bmn (B : BC) (s f : Int) : BC := if B.2.2.2.2.1 < 6 then (B.1, B.2.1, B.2.2.1, B.2.2.2.1, B.2.2.2.2.1 + 1, upF B.2.2.2.2.2.1 B.2.2.2.2.1 s, upF B.2.2.2.2.2.2 B.2.2.2.2.1 f) else B
def gmv (G : GC) (r : Int64) (f : Int) : GC := if G.1 < 30 then (G.1 + 1, upJ G.2.1 G.1 r, upF G.2.2 G.1 f) else G
/-- the mark behind a line that is fine so far -/
def finB (b : Nat → Int) (N : Nat) (ok : Prop) (d : Decidable ok) (s : Nat) (F : Int × Int) (B : BC) : Bool × Nat × (Int × Int) × BC := if ok ∧ tK b N s = 3 then (true, nx b N s, F, B) else (false, s, F, B)
noncomputable def bLine (b : Nat → Int) (N s : Nat) (F : Int × Int) (B : BC) : Bool × Nat × (Int × Int) × BC :=
  @ite _ (isW b N 0 s) (Classical.propDecidable _)
    (finB b N (tnV b N (nx b N s) ≠ -1 ∧ tnV b N (tnS b N (nx b N s)) ≠ -1) inferInstance (tnS b N (tnS b N (nx b N s))) (tnF b N 2 6 (tnS b N (nx b N s)) (tnF b N 2 6 (nx b N s) F)) (bsz B (tnV b N (nx b N s)) (tnV b N (tnS b N (nx b N s)))))
    (@ite _ (isW b N 1 s) (Classical.propDecidable _)
      (finB b N (tnV b N (nx b N s) ≠ -1 ∧ tnV b N (tnS b N (nx b N s)) ≠ -1) inferInstance (tnS b N (tnS b N (nx b N s))) (tnF b N 0 35 (tnS b N (nx b N s)) (tnF b N 0 1 (nx b N s) (if B.2.2.2.2.1 = 6 then ntF F 3 s else F))) (bmn B (tnV b N (nx b N s)) (tnV b N (tnS b N (nx b N s)))))
      (@ite _ (isW b N 2 s) (Classical.propDecidable _)
        (finB b N ((rF b N 600 (nx b N s) F 0).2.2 ≠ 0) inferInstance (rF b N 600 (nx b N s) F 0).1 (rF b N 600 (nx b N s) F 0).2.1 (bwl B (rF b N 600 (nx b N s) F 0).2.2))
        (@ite _ (isW b N 3 s) (Classical.propDecidable _)
          (finB b N ((rF b N 600 (nx b N s) F 0).2.2 ≠ 0) inferInstance (rF b N 600 (nx b N s) F 0).1 (rF b N 600 (nx b N s) F 0).2.1 (bpt B (rF b N 600 (nx b N s) F 0).2.2))
          (false, s, F, B))))
theorem bL_0 {b : Nat → Int} {N s : Nat} {F : Int × Int} {B : BC} (h : isW b N 0 s) : bLine b N s F B = finB b N (tnV b N (nx b N s) ≠ -1 ∧ tnV b N (tnS b N (nx b N s)) ≠ -1) inferInstance (tnS b N (tnS b N (nx b N s))) (tnF b N 2 6 (tnS b N (nx b N s)) (tnF b N 2 6 (nx b N s) F)) (bsz B (tnV b N (nx b N s)) (tnV b N (tnS b N (nx b N s)))) := if_pos h
theorem bL_1 {b : Nat → Int} {N s : Nat} {F : Int × Int} {B : BC} (h0 : ¬ isW b N 0 s) (h : isW b N 1 s) : bLine b N s F B = finB b N (tnV b N (nx b N s) ≠ -1 ∧ tnV b N (tnS b N (nx b N s)) ≠ -1) inferInstance (tnS b N (tnS b N (nx b N s))) (tnF b N 0 35 (tnS b N (nx b N s)) (tnF b N 0 1 (nx b N s) (if B.2.2.2.2.1 = 6 then ntF F 3 s else F))) (bmn B (tnV b N (nx b N s)) (tnV b N (tnS b N (nx b N s)))) := (if_neg h0).trans (if_pos h)
theorem bL_2 {b : Nat → Int} {N s : Nat} {F : Int × Int} {B : BC} (h0 : ¬ isW b N 0 s) (h1 : ¬ isW b N 1 s) (h : isW b N 2 s) : bLine b N s F B = finB b N ((rF b N 600 (nx b N s) F 0).2.2 ≠ 0) inferInstance (rF b N 600 (nx b N s) F 0).1 (rF b N 600 (nx b N s) F 0).2.1 (bwl B (rF b N 600 (nx b N s) F 0).2.2) := (if_neg h0).trans ((if_neg h1).trans (if_pos h))
theorem bL_3 {b : Nat → Int} {N s : Nat} {F : Int × Int} {B : BC} (h0 : ¬ isW b N 0 s) (h1 : ¬ isW b N 1 s) (h2 : ¬ isW b N 2 s) (h : isW b N 3 s) : bLine b N s F B = finB b N ((rF b N 600 (nx b N s) F 0).2.2 ≠ 0) inferInstance (rF b N 600 (nx b N s) F 0).1 (rF b N 600 (nx b N s) F 0).2.1 (bpt B (rF b N 600 (nx b N s) F 0).2.2) := (if_neg h0).trans ((if_neg h1).trans ((if_neg h2).trans (if_pos h)))
theorem bL_4 {b : Nat → Int} {N s : Nat} {F : Int × Int} {B : BC} (h0 : ¬ isW b N 0 s) (h1 : ¬ isW b N 1 s) (h2 : ¬ isW b N 2 s) (h3 : ¬ isW b N 3 s) : bLine b N s F B = (false, s, F, B) := (if_neg h0).trans ((if_neg h1).trans ((if_neg h2).trans (if_neg h3)))
theorem finB_y {b : Nat → Int} {N : Nat} {ok : Prop} {d : Decidable ok} {s : Nat} {F : Int × Int} {B : BC} (h : ok) (h3 : tK b N s = 3) : finB b N ok d s F B = (true, nx b N s, F, B) := if_pos ⟨h, h3⟩
theorem finB_n {b : Nat → Int} {N : Nat} {ok : Prop} {d : Decidable ok} {s : Nat} {F : Int × Int} {B : BC} (h : ¬ ok ∨ tK b N s ≠ 3) : finB b N ok d s F B = (false, s, F, B) := if_neg (fun q => h.elim (fun g => g q.1) (fun g => g q.2))
def finG (b : Nat → Int) (N s : Nat) (F : Int × Int) (G : GC) : Bool × Nat × (Int × Int) × GC := if tK b N s = 3 then (true, nx b N s, F, G) else (false, s, F, G)
noncomputable def gLine (b : Nat → Int) (N s : Nat) (F : Int × Int) (G : GC) : Bool × Nat × (Int × Int) × GC :=
  @ite _ (isW b N 4 s) (Classical.propDecidable _)
    (@ite _ (tr b N (nx b N s)) (Classical.propDecidable _)
      (@ite _ (isW b N 5 (nx b N (nx b N s))) (Classical.propDecidable _)
        (if tnV b N (nx b N (nx b N (nx b N s))) = -1 then (false, nx b N (nx b N (nx b N s)), (if G.1 = 30 then ntF F 3 s else F), G)
        else finG b N (tnS b N (nx b N (nx b N (nx b N s)))) (tnF b N 0 35 (nx b N (nx b N (nx b N s))) (if G.1 = 30 then ntF F 3 s else F)) (gmv G (rV b N (nx b N s)) (tnV b N (nx b N (nx b N (nx b N s))))))
        (finG b N (nx b N (nx b N s)) (if G.1 = 30 then ntF F 3 s else F) (gmv G (rV b N (nx b N s)) (-1))))
      (false, nx b N s, (if G.1 = 30 then ntF F 3 s else F), G))
    (false, s, F, G)
theorem gL_no {b : Nat → Int} {N s : Nat} {F : Int × Int} {G : GC} (h : ¬ isW b N 4 s) : gLine b N s F G = (false, s, F, G) := if_neg h
theorem gL_nr {b : Nat → Int} {N s : Nat} {F : Int × Int} {G : GC} (h : isW b N 4 s) (h1 : ¬ tr b N (nx b N s)) : gLine b N s F G = (false, nx b N s, (if G.1 = 30 then ntF F 3 s else F), G) := (if_pos h).trans (if_neg h1)
theorem gL_gn {b : Nat → Int} {N s : Nat} {F : Int × Int} {G : GC} (h : isW b N 4 s) (h1 : tr b N (nx b N s)) (h2 : isW b N 5 (nx b N (nx b N s))) (h3 : tnV b N (nx b N (nx b N (nx b N s))) = -1) : gLine b N s F G = (false, nx b N (nx b N (nx b N s)), (if G.1 = 30 then ntF F 3 s else F), G) := (if_pos h).trans ((if_pos h1).trans ((if_pos h2).trans (if_pos h3)))
theorem gL_gy {b : Nat → Int} {N s : Nat} {F : Int × Int} {G : GC} (h : isW b N 4 s) (h1 : tr b N (nx b N s)) (h2 : isW b N 5 (nx b N (nx b N s))) (h3 : ¬ tnV b N (nx b N (nx b N (nx b N s))) = -1) : gLine b N s F G = finG b N (tnS b N (nx b N (nx b N (nx b N s)))) (tnF b N 0 35 (nx b N (nx b N (nx b N s))) (if G.1 = 30 then ntF F 3 s else F)) (gmv G (rV b N (nx b N s)) (tnV b N (nx b N (nx b N (nx b N s))))) := (if_pos h).trans ((if_pos h1).trans ((if_pos h2).trans (if_neg h3)))
theorem gL_y {b : Nat → Int} {N s : Nat} {F : Int × Int} {G : GC} (h : isW b N 4 s) (h1 : tr b N (nx b N s)) (h2 : ¬ isW b N 5 (nx b N (nx b N s))) : gLine b N s F G = finG b N (nx b N (nx b N s)) (if G.1 = 30 then ntF F 3 s else F) (gmv G (rV b N (nx b N s)) (-1)) := (if_pos h).trans ((if_pos h1).trans (if_neg h2))
theorem finG_y {b : Nat → Int} {N s : Nat} {F : Int × Int} {G : GC} (h3 : tK b N s = 3) : finG b N s F G = (true, nx b N s, F, G) := if_pos h3
theorem finG_n {b : Nat → Int} {N s : Nat} {F : Int × Int} {G : GC} (h3 : tK b N s ≠ 3) : finG b N s F G = (false, s, F, G) := if_neg h3
theorem len_bd {r : Int64} {z : Int} (rz : inR z) (e : iI z = (r &&& 15).toInt32) : z = lenL r ∧ 0 ≤ z ∧ z ≤ 15 := by
  have e1 : z = lenL r := by
    unfold lenL
    rw [← e, iI_toInt rz]
  have hk : ∀ j, 4 ≤ j → (iI z).toBitVec.getLsbD j = false := by
    intro j hj
    rw [e, Int64.toBitVec_toInt32]
    by_cases h32 : j < 32
    · have h15 : ∀ j, j < 32 → 4 ≤ j → tb 15 j = false := by decide +kernel
      have t : tb (r &&& 15) j = false := by
        rw [tb_and, h15 j h32 hj, Bool.and_false]
      unfold tb at t
      rw [BitVec.getLsbD_signExtend, if_pos (show j < 64 by omega), t, Bool.and_false]
    · exact BitVec.getLsbD_of_ge _ _ (by omega)
  have h1 : (iI z).toBitVec.toNat < 2 ^ 4 := Nat.lt_pow_two_of_testBit _ (fun j hj => by
    rw [BitVec.testBit_toNat]
    exact hk j hj)
  have e2 := bvI (iI z)
  rw [iI_toInt rz] at e2
  have : (2 : Nat) ^ 4 = 16 := by decide
  exact ⟨e1, by omega, by omega⟩
