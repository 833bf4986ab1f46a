/-! ===== whole texts ===== -/
theorem finB_B {b : Nat → Int} {N : Nat} {ok : Prop} {d : Decidable ok} {s : Nat} {F : Int × Int} {B : BC} : (finB b N ok d s F B).2.2.2 = B := by
  unfold finB
  split <;> rfl
theorem bmn_mb {B : BC} {f p : Int} (h : 0 ≤ B.2.2.2.2.1 ∧ B.2.2.2.2.1 ≤ 6) : 0 ≤ (bmn B f p).2.2.2.2.1 ∧ (bmn B f p).2.2.2.2.1 ≤ 6 := by
  unfold bmn
  split
  · show 0 ≤ B.2.2.2.2.1 + 1 ∧ B.2.2.2.2.1 + 1 ≤ 6
    omega
  · exact h
theorem bLine_mb {b : Nat → Int} {N s : Nat} {F : Int × Int} {B : BC} (h : 0 ≤ B.2.2.2.2.1 ∧ B.2.2.2.2.1 ≤ 6) : 0 ≤ (bLine b N s F B).2.2.2.2.2.2.2.1 ∧ (bLine b N s F B).2.2.2.2.2.2.2.1 ≤ 6 := by
  by_cases w0 : isW b N 0 s
  · rw [bL_0 w0, finB_B]
    exact h
  by_cases w1 : isW b N 1 s
  · rw [bL_1 w0 w1, finB_B]
    exact bmn_mb h
  by_cases w2 : isW b N 2 s
  · rw [bL_2 w0 w1 w2, finB_B]
    exact h
  by_cases w3 : isW b N 3 s
  · rw [bL_3 w0 w1 w2 w3, finB_B]
    exact h
  rw [bL_4 w0 w1 w2 w3]
  exact h
theorem finG_G {b : Nat → Int} {N s : Nat} {F : Int × Int} {G : GC} : (finG b N s F G).2.2.2 = G := by
  unfold finG
  split <;> rfl
theorem gmv_mb {G : GC} {r : Int64} {p : Int} (h : 0 ≤ G.1 ∧ G.1 ≤ 30) : 0 ≤ (gmv G r p).1 ∧ (gmv G r p).1 ≤ 30 := by
  unfold gmv
  split
  · show 0 ≤ G.1 + 1 ∧ G.1 + 1 ≤ 30
    omega
  · exact h
theorem gLine_mb {b : Nat → Int} {N s : Nat} {F : Int × Int} {G : GC} (h : 0 ≤ G.1 ∧ G.1 ≤ 30) : 0 ≤ (gLine b N s F G).2.2.2.1 ∧ (gLine b N s F G).2.2.2.1 ≤ 30 := by
  by_cases w4 : isW b N 4 s
  · by_cases r : tr b N (nx b N s)
    · by_cases w5 : isW b N 5 (nx b N (nx b N s))
      · by_cases v : tnV b N (nx b N (nx b N (nx b N s))) = -1
        · rw [gL_gn w4 r w5 v]
          exact h
        · rw [gL_gy w4 r w5 v, finG_G]
          exact gmv_mb h
      · rw [gL_y w4 r w5, finG_G]
        exact gmv_mb h
    · rw [gL_nr w4 r]
      exact h
  · rw [gL_no w4]
    exact h
/-- the fault of a BOARD's text, of what reading it line by line gave -/
def fB (N : Nat) (r : Bool × Nat × (Int × Int) × BC) : Int × Int := if r.1 = false then (1, (r.2.1 : Int)) else if r.2.2.1.1 = 0 ∧ bSound (bst r.2.2.2) = false then (4, (N : Int)) else r.2.2.1
def fG (r : Bool × Nat × (Int × Int) × GC) : Int × Int := if r.1 = false then (1, (r.2.1 : Int)) else r.2.2.1
noncomputable def fR (b : Nat → Int) (N : Nat) : Int × Int := @ite _ (tr b N (tS b N 0)) (Classical.propDecidable _) (if tK b N (nx b N (tS b N 0)) = 5 then (0, -1) else (1, (nx b N (tS b N 0) : Int))) (1, (tS b N 0 : Int))
theorem fB_n {N s : Nat} {o : Bool} {F : Int × Int} {B : BC} (h : o = false) : fB N (o, s, F, B) = (1, (s : Int)) := if_pos h
theorem fB_f {N s : Nat} {o : Bool} {F : Int × Int} {B : BC} (h : o = true) (hf : F.1 ≠ 0 ∨ bSound (bst B) = true) : fB N (o, s, F, B) = F := (if_neg (show ¬ o = false by rw [h]; decide)).trans (if_neg (fun q => hf.elim (fun g => g q.1) (fun g => by have := q.2; rw [show bSound (bst (o, s, F, B).2.2.2) = true from g] at this; cases this)))
theorem fB_4 {N s : Nat} {o : Bool} {F : Int × Int} {B : BC} (h : o = true) (hf : F.1 = 0) (hs : bSound (bst B) = false) : fB N (o, s, F, B) = (4, (N : Int)) := (if_neg (show ¬ o = false by rw [h]; decide)).trans (if_pos ⟨hf, hs⟩)
theorem fG_n {s : Nat} {o : Bool} {F : Int × Int} {G : GC} (h : o = false) : fG (o, s, F, G) = (1, (s : Int)) := if_pos h
theorem fG_y {s : Nat} {o : Bool} {F : Int × Int} {G : GC} (h : o = true) : fG (o, s, F, G) = F := if_neg (show ¬ o = false by rw [h]; decide)
theorem fR_n {b : Nat → Int} {N : Nat} (h : ¬ tr b N (tS b N 0)) : fR b N = (1, (tS b N 0 : Int)) := if_neg h
theorem fR_5 {b : Nat → Int} {N : Nat} (h : tr b N (tS b N 0)) (h5 : tK b N (nx b N (tS b N 0)) = 5) : fR b N = (0, -1) := (if_pos h).trans (if_pos h5)
theorem fR_x {b : Nat → Int} {N : Nat} (h : tr b N (tS b N 0)) (h5 : tK b N (nx b N (tS b N 0)) ≠ 5) : fR b N = (1, (nx b N (tS b N 0) : Int)) := (if_pos h).trans (if_neg h5)
theorem ob_f {o : Bool} (h : zB o = 0) : o = false := by
  cases o with
  | false => rfl
  | true => exact absurd h (by decide)
theorem ob_t {o : Bool} (h : zB o ≠ 0) : o = true := by
  cases o with
  | false => exact absurd rfl h
  | true => rfl
theorem FR.upR {md : List (Nat × Option Nat)} {X0 X : XT} {k i : Nat} {z : Option Nat} (h : FR md X0 X) (hm : inM md k i = true) : FR md X0 (upR X k i z) := fun a b hab => (h a b hab).tr (same_upR (by
  cases hc : inM [(k, some i)] a b with
  | false => rfl
  | true =>
    obtain ⟨rfl, rfl⟩ := inM_1 hc
    rw [hm] at hab
    cases hab))
theorem upR_1 {X : XT} {k i : Nat} {z : Option Nat} : (upR X k i z).1 = X.1 := rfl
theorem upR_at {X : XT} {k i : Nat} {z : Option Nat} : (upR X k i z).2.2 k i = z := by
  show cond (Nat.beq k k && Nat.beq i i) z (X.2.2 k i) = z
  rw [Nat.beq_refl, Nat.beq_refl]
  rfl
