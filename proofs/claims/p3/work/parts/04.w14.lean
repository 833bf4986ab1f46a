/-! ===== VSE 14: tables' facts in the checker's words ===== -/
theorem fa_nil {α : Type} {p : α → Prop} : ∀ q ∈ ([] : List α), p q := fun _ h => by cases h
theorem fa_cons {α : Type} {p : α → Prop} {a : α} {l : List α} (h : p a) (t : ∀ q ∈ l, p q) : ∀ q ∈ a :: l, p q := fun q hq => by
  rcases List.mem_cons.mp hq with rfl | hq
  · exact h
  · exact t q hq
theorem CRl_V {MT : Nat → MD} {w : WT} {own Cn : String} {T : u_T} {idx n ci nn mL mid : Nat} {y : MethodName} {b : ByteArray} {rt : Option FieldType} (hw : CKB own idx y b mL rt n) (hi : Cond.instanceMethod y ∈ lw_g) (hse : Cond.selects Cn y y ∈ lw_g) (hcl : (wC w)[ci]? = some (Cn, T, nn)) (hm : MT mid = (y, b, mL, rt)) : CRl MT w own idx (0, n + 1, ci, nn, mL, mid) := by
  intro E cc nL ret rm pc C hd X As rest lv fr lo post h0 M hl hs hR kk
  obtain ⟨k, As', rfl, hk, hsh⟩ := h0 rfl
  rw [hm] at M
  exact x_callV C M hw hi hse hk hsh hcl (by simp [List.reverse_cons]) (Nat.succ.inj hl) hs hR hd kk
theorem CRl_S {MT : Nat → MD} {w : WT} {own : String} {idx n mL mid : Nat} {y : MethodName} {b : ByteArray} {rt : Option FieldType} (hw : CKB own idx y b mL rt n) (hi : Cond.static y ∈ lw_g) (hm : MT mid = (y, b, mL, rt)) : CRl MT w own idx (1, n, 0, 0, mL, mid) := by
  intro E cc nL ret rm pc C hd X As rest lv fr lo post _ M hl hs hR kk
  rw [hm] at M
  exact x_callS C M hw hi rfl hl hs hR hd kk
theorem CRl_N {MT : Nat → MD} {w : WT} {own host : String} {idx n mL mid : Nat} {y : MethodName} {b : ByteArray} {rt : Option FieldType} (hw : CKN own idx y host b mL rt n) (hm : MT mid = (y, b, mL, rt)) : CRl MT w own idx (1, n, 0, 0, mL, mid) := by
  intro E cc nL ret rm pc C hd X As rest lv fr lo post _ M hl hs hR kk
  rw [hm] at M
  exact x_callSN C M hw rfl hl hs hR hd kk
