/-! ===== games as the reference holds them while it reads ===== -/
def rQ (c : Nat → Int) : Nat → Int64
  | 0 => 0
  | j + 1 => wsL (rQ c j) (c j)
theorem rP_Q {b : Nat → Int} {s : Nat} : ∀ j, (rP b s j).1 = rQ (fun i => sgF (b (s + i))) j
  | 0 => rfl
  | j + 1 => by
    show wsL (rP b s j).1 _ = wsL (rQ _ j) _
    rw [rP_Q j]
/-- a RULE's row of ints and its long -/
def RLM (r : Int64) (a : Nat → Int) : Prop := ∃ (c : Nat → Int) (j : Nat), j ≤ 9 ∧ r = rQ c j ∧ a 0 = (j : Int) ∧ ∀ i, i < j → a (i + 1) = c i ∧ 0 ≤ c i ∧ c i ≤ 10
theorem RLM_of {b : Nat → Int} {N s : Nat} {X : XT} (h : tr b N s) (m : RSM b N s X) : RLM (rV b N s) (fun i => X.1 10 i) :=
  ⟨fun i => sgF (b (s + i)), tE b N s - s, by have := h.2.1; omega, rP_Q _, m.1, fun i hi => ⟨m.2 i hi, (h.2.2 i hi).1, (sgF_bd _).2⟩⟩
theorem RLM.cg {r : Int64} {a a1 : Nat → Int} (h : RLM r a) (e : ∀ i, i < 10 → a1 i = a i) : RLM r a1 := by
  obtain ⟨c, j, h1, h2, h3, h4⟩ := h
  exact ⟨c, j, h1, h2, by rw [e 0 (by omega)]; exact h3, fun i hi => by rw [e (i + 1) (by omega)]; exact h4 i hi⟩
def GDM (G : GC) (X : XT) : Prop := X.1 9 0 = G.1 ∧ (0 ≤ G.1 ∧ G.1 ≤ 30) ∧ ∀ k, k < 30 → X.1 9 (1 + 11 * k) = G.2.2 k ∧ RLM (G.2.1 k) (fun i => X.1 9 (2 + 11 * k + i)) ∧ ∀ i, i < 10 → 0 ≤ X.1 9 (2 + 11 * k + i) ∧ X.1 9 (2 + 11 * k + i) ≤ 10
theorem GDM.fr {G : GC} {md : List (Nat × Option Nat)} {X Y : XT} (h : GDM G X) (hF : FR md X Y) (ho : ovl [(9, none)] md = false) : GDM G Y := by
  have e : ∀ i, Y.1 9 i = X.1 9 i := fun i => (hF _ _ (ovl_no ho rfl)).1
  unfold GDM
  rw [e 0]
  refine ⟨h.1, h.2.1, fun k hk => ?_⟩
  have q := h.2.2 k hk
  exact ⟨by rw [e]; exact q.1, q.2.1.cg (fun i _ => e _), fun i hi => by rw [e]; exact q.2.2 i hi⟩
def LPG (b : Nat → Int) (N s : Nat) (F : Int × Int) (G : GC) (X1 : XT) (u : Int) : Prop := ∃ (s1 : Nat) (F1 : Int × Int) (G1 : GC), TKM b N s1 X1 ∧ FLM F1 X1 ∧ FO F1 s1 ∧ ((u = 1 ∧ nx b N s ≤ s1 ∧ gLine b N s F G = (if tK b N s1 = 3 then (true, nx b N s1, F1, G1) else (false, s1, F1, G1)) ∧ GDM G1 X1) ∨ (u = 0 ∧ X1.1 0 15 = (s1 : Int) ∧ gLine b N s F G = (false, s1, F1, G1)))
theorem finG_ok {b : Nat → Int} {N s : Nat} {F : Int × Int} {G : GC} : finG b N s F G = if tK b N s = 3 then (true, nx b N s, F, G) else (false, s, F, G) := rfl
