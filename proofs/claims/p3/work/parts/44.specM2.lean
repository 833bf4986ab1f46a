/-! ===== what the reference holds of a RULE that was read ===== -/
def gtm (g v : Int) : Int := if v > g then v else g
def RSM (b : Nat → Int) (N s : Nat) (X : XT) : Prop := X.1 10 0 = ((tE b N s - s : Nat) : Int) ∧ ∀ j, j < tE b N s - s → X.1 10 (j + 1) = sgF (b (s + j))
theorem RSM.fr {b : Nat → Int} {N s : Nat} {md : List (Nat × Option Nat)} {X Y : XT} (h : RSM b N s X) (hF : FR md X Y) (ho : ovl [(10, none)] md = false) : RSM b N s Y :=
  ⟨by rw [(hF _ _ (ovl_no ho rfl)).1]; exact h.1, fun j hj => by rw [(hF _ _ (ovl_no ho rfl)).1]; exact h.2 j hj⟩
