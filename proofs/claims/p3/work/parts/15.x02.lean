/-! ===== the NEXT man of a side: of m men, s their sides, a their fields, w who went last ===== -/
def SNT (s a : Nat → Int) (q : Int) (k : Nat) : Prop := s k = q ∧ a k ≠ -1
def NMT (m : Int) (s a : Nat → Int) (w q u : Int) : Prop := (u = -1 ∧ ∀ k : Nat, (k : Int) < m → ¬ SNT s a q k) ∨ (0 ≤ u ∧ u < m ∧ SNT s a q u.toNat ∧ ((w < u ∧ ∀ k : Nat, w < (k : Int) → (k : Int) < u → ¬ SNT s a q k) ∨ (u ≤ w ∧ (∀ k : Nat, (k : Int) < u → ¬ SNT s a q k) ∧ ∀ k : Nat, w < (k : Int) → (k : Int) < m → ¬ SNT s a q k)))
def LST (m : Int) (s a : Nat → Int) (q i l : Int) : Prop := (l = -1 ∧ ∀ k : Nat, i < (k : Int) → (k : Int) < m → ¬ SNT s a q k) ∨ (i < l ∧ l < m ∧ 0 ≤ l ∧ SNT s a q l.toNat ∧ ∀ k : Nat, i < (k : Int) → (k : Int) < l → ¬ SNT s a q k)
def BHD (s a : Nat → Int) (q w i : Int) : Prop := ∀ k : Nat, w < (k : Int) → (k : Int) < i → ¬ SNT s a q k
theorem lst_b {m q i l : Int} {s a : Nat → Int} (h : LST m s a q i l) : l = -1 ∨ (i < l ∧ l < m ∧ 0 ≤ l) := h.elim (fun t => .inl t.1) (fun t => .inr ⟨t.1, t.2.1, t.2.2.1⟩)
theorem lst_0 {m q i : Int} {s a : Nat → Int} (h : m ≤ i + 1) : LST m s a q i (-1) := .inl ⟨rfl, fun k k0 k1 => by exfalso; omega⟩
theorem lst_y {m q i l : Int} {s a : Nat → Int} (i0 : 0 ≤ i) (i1 : i < m) (_ : LST m s a q i l) (t : SNT s a q i.toNat) : LST m s a q (i + (-1)) i := .inr ⟨by omega, i1, i0, t, fun k k0 k1 => by exfalso; omega⟩
theorem lst_n {m q i l : Int} {s a : Nat → Int} (i0 : 0 ≤ i) (h : LST m s a q i l) (t : ¬ SNT s a q i.toNat) : LST m s a q (i + (-1)) l := by
  have f : ∀ k : Nat, i + (-1) < (k : Int) → i < (k : Int) ∨ k = i.toNat := fun k hk => by omega
  rcases h with ⟨h1, h2⟩ | ⟨h1, h2, h3, h4, h5⟩
  · refine .inl ⟨h1, fun k k0 k1 => ?_⟩
    rcases f k k0 with q | q
    · exact h2 k q k1
    · rw [q]
      exact t
  · refine .inr ⟨by omega, h2, h3, h4, fun k k0 k1 => ?_⟩
    rcases f k k0 with q | q
    · exact h5 k q k1
    · rw [q]
      exact t
theorem bhd_0 {q w i : Int} {s a : Nat → Int} (h : i ≤ w + 1) : BHD s a q w i := fun k k0 k1 => by exfalso; omega
theorem bhd_n {q w i : Int} {s a : Nat → Int} (i0 : 0 ≤ i) (h : BHD s a q w i) (t : ¬ SNT s a q i.toNat) : BHD s a q w (i + 1) := fun k k0 k1 => by
  rcases (show (k : Int) < i ∨ k = i.toNat by omega) with g | g
  · exact h k k0 g
  · rw [g]
    exact t
theorem nmt_i {m q w i : Int} {s a : Nat → Int} (i0 : 0 ≤ i) (i1 : i < m) (iw : w < i) (h : BHD s a q w i) (t : SNT s a q i.toNat) : NMT m s a w q i := .inr ⟨i0, i1, t, .inl ⟨iw, h⟩⟩
theorem nmt_l {m q w i l : Int} {s a : Nat → Int} (hl : LST m s a q (-1) l) (h : BHD s a q w i) (im : m ≤ i) : NMT m s a w q l := by
  rcases hl with ⟨h1, h2⟩ | ⟨h1, h2, h3, h4, h5⟩
  · exact .inl ⟨h1, fun k k1 => h2 k (by omega) k1⟩
  · refine .inr ⟨h3, h2, h4, .inr ⟨?_, fun k k1 => h5 k (by omega) k1, fun k k0 k1 => h k k0 (by omega)⟩⟩
    rcases (show w < l ∨ l ≤ w by omega) with g | g
    · exact absurd h4 (h l.toNat (by omega) (by omega))
    · exact g
theorem nmt_c {m q w u : Int} {s a : Nat → Int} (h : NMT m s a w q u) : u = -1 ∨ (0 ≤ u ∧ u < m ∧ s u.toNat = q) := h.elim (fun t => .inl t.1) (fun t => .inr ⟨t.1, t.2.1, t.2.2.1.1⟩)
theorem nmt_u {m q w u v : Int} {s a : Nat → Int} (h : NMT m s a w q u) (g : NMT m s a w q v) : u = v := by
  rcases h with ⟨h1, h2⟩ | ⟨h1, h2, h3, h4⟩ <;> rcases g with ⟨g1, g2⟩ | ⟨g1, g2, g3, g4⟩
  · omega
  · exact absurd g3 (h2 v.toNat (by omega))
  · exact absurd h3 (g2 u.toNat (by omega))
  · rcases Int.lt_trichotomy u v with e | e | e
    · exfalso
      rcases g4 with ⟨a1, a2⟩ | ⟨a1, a2, a3⟩
      · rcases h4 with ⟨b1, b2⟩ | ⟨b1, b2, b3⟩
        · exact a2 u.toNat (by omega) (by omega) h3
        · exact b3 v.toNat (by omega) (by omega) g3
      · exact a2 u.toNat (by omega) h3
    · exact e
    · exfalso
      rcases h4 with ⟨a1, a2⟩ | ⟨a1, a2, a3⟩
      · rcases g4 with ⟨b1, b2⟩ | ⟨b1, b2, b3⟩
        · exact a2 v.toNat (by omega) (by omega) g3
        · exact b3 u.toNat (by omega) (by omega) h3
      · exact a2 v.toNat (by omega) g3
