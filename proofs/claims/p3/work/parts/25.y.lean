/-! ===== more words ===== -/
theorem zB_or {a : Bool} {g : Int} : zB (a || decide (g = 10)) = if zB a ≠ 0 ∨ g = 10 then 1 else 0 := by
  cases a with
  | true =>
    rw [if_pos (.inl (by decide))]
    rfl
  | false =>
    by_cases h : g = 10
    · rw [if_pos (.inr h), decide_eq_true h]
      rfl
    · rw [if_neg (fun q => q.elim (fun z => z rfl) h), decide_eq_false h]
      rfl
