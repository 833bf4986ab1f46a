/-! ===== sound boards ===== -/
theorem tb_all {n : Int} (h0 : 0 ≤ n) (h1 : n ≤ 36) {f : Nat} (hf : f < 64) : tb (bitI n - 1) f = decide ((f : Int) < n) := by
  have t : ∀ k : Nat, k < 37 → ∀ f, f < 64 → tb (bitI (k : Int) - 1) f = decide (f < k) := by decide +kernel
  have e := t n.toNat (by omega) f hf
  rw [show ((n.toNat : Nat) : Int) = n by omega] at e
  rw [e, Bool.eq_iff_iff, decide_eq_true_eq, decide_eq_true_eq]
  omega
theorem z_iff {z : Int64} : z = 0 ↔ ∀ i, i < 64 → tb z i = false := ⟨fun h i _ => by rw [h]; exact tb_0 i, fun h => tb_ext (fun i hi => by rw [h i hi, tb_0])⟩
theorem sd_c {n v : Int} {t : Int64} (n0 : 0 ≤ n) (n1 : n ≤ 36) (v0 : 0 ≤ v) (v1 : v ≤ 35) : (bitI v &&& (bitI n - 1)) &&& (t ^^^ (-1)) = 0 ↔ ¬ (v < n ∧ tb t v.toNat = false) := by
  rw [z_iff]
  constructor
  · intro h g
    have q := h v.toNat (by omega)
    rw [tb_and, tb_and, tb_bitI v0 v1, tb_all n0 n1 (by omega), tb_not t (by omega), g.2, decide_eq_true (by omega), decide_eq_true (by omega)] at q
    cases q
  · intro h i hi
    rw [tb_and, tb_and, tb_bitI v0 v1, tb_all n0 n1 hi, tb_not t hi]
    by_cases e : (i : Int) = v
    · rw [decide_eq_true e]
      by_cases g : v < n
      · rw [decide_eq_true (by omega)]
        have e2 : i = v.toNat := by omega
        cases q : tb t i with
        | true => rfl
        | false => exact absurd ⟨g, by rw [← e2]; exact q⟩ h
      · rw [decide_eq_false (by omega)]
        rfl
    · rw [decide_eq_false e]
      rfl
theorem sdL_iff {n : Int} {fl : Nat → Int} (n0 : 0 ≤ n) (n1 : n ≤ 36) : ∀ (m j : Nat) (t : Int64), (∀ k, j ≤ k → k < j + m → 0 ≤ fl k ∧ fl k ≤ 35) → (sdL (bitI n - 1) fl m j t = true ↔ ∀ k, j ≤ k → k < j + m → fl k < n ∧ tb t (fl k).toNat = false ∧ ∀ i, j ≤ i → i < k → fl i ≠ fl k)
  | 0, j, t, _ => ⟨fun _ k a c => absurd c (by omega), fun _ => rfl⟩
  | m + 1, j, t, hb => by
    have bj := hb j (Nat.le_refl j) (by omega)
    show (if (bitI (fl j) &&& (bitI n - 1)) &&& (t ^^^ (-1)) = 0 then false else sdL (bitI n - 1) fl m (j + 1) (t ||| bitI (fl j))) = true ↔ _
    by_cases c : (bitI (fl j) &&& (bitI n - 1)) &&& (t ^^^ (-1)) = 0
    · rw [if_pos c]
      refine ⟨fun h => absurd h (by decide), fun h => ?_⟩
      have q := h j (Nat.le_refl j) (by omega)
      exact absurd ⟨q.1, q.2.1⟩ ((sd_c n0 n1 bj.1 bj.2).mp c)
    · rw [if_neg c, sdL_iff n0 n1 m (j + 1) (t ||| bitI (fl j)) (fun k a d => hb k (by omega) (by omega))]
      have gj : fl j < n ∧ tb t (fl j).toNat = false := Classical.byContradiction (fun q => c ((sd_c n0 n1 bj.1 bj.2).mpr q))
      constructor
      · intro h k a d
        by_cases e : k = j
        · subst e
          exact ⟨gj.1, gj.2, fun i a1 a2 => absurd a1 (by omega)⟩
        · have q := h k (by omega) (by omega)
          have bk := hb k a d
          have q2 := q.2.1
          rw [tb_or, tb_bitI bj.1 bj.2, Bool.or_eq_false_iff, decide_eq_false_iff_not] at q2
          refine ⟨q.1, q2.1, fun i a1 a2 => ?_⟩
          by_cases ei : i = j
          · subst ei
            have := q2.2
            omega
          · exact q.2.2 i (by omega) a2
      · intro h k a d
        have q := h k (by omega) (by omega)
        have bk := hb k (by omega) (by omega)
        refine ⟨q.1, ?_, fun i a1 a2 => q.2.2 i (by omega) a2⟩
        rw [tb_or, tb_bitI bj.1 bj.2, q.2.1, Bool.false_or]
        have := q.2.2 j (Nat.le_refl j) (by omega)
        exact decide_eq_false (by omega)
theorem wh_bd {w h : Int} (w0 : 2 ≤ w) (w1 : w ≤ 6) (h0 : 2 ≤ h) (h1 : h ≤ 6) : 4 ≤ w * h ∧ w * h ≤ 36 := by
  rcases (show w = 2 ∨ w = 3 ∨ w = 4 ∨ w = 5 ∨ w = 6 by omega) with rfl | rfl | rfl | rfl | rfl <;> omega
theorem grF_0 {w p : Int64} {f : Nat} : grF w p f = 0 ↔ tb w f = false ∧ tb p f = false := by
  unfold grF
  cases tb w f <;> cases tb p f <;> simp
/-- the reference's words for a sound board -/
theorem bSound_iff {B : BC} {g : Int} (wf : WFB B) (hg : gOK B g) : bSound (bst B) = true ↔ g < B.1 * B.2.1 ∧ ∀ k : Nat, (k : Int) < B.2.2.2.2.1 → grF B.2.2.1 B.2.2.2.1 (B.2.2.2.2.2.2 k).toNat = 0 ∧ ∀ i, i < k → B.2.2.2.2.2.2 i ≠ B.2.2.2.2.2.2 k := by
  have nb := wh_bd wf.1.1 wf.1.2 wf.2.1.1 wf.2.1.2
  have m0 := wf.2.2.1.1
  have eo : ∀ f, f < 64 → tb ((bst B).2.2.1 ||| (bst B).2.2.2.1) f = (tb B.2.2.1 f || tb B.2.2.2.1 f) := fun f hf => by
    show tb (B.2.2.1 ||| (B.2.2.2.1 &&& (B.2.2.1 ^^^ (-1)))) f = _
    rw [tb_or, tb_and, tb_not _ hf]
    cases tb B.2.2.1 f <;> cases tb B.2.2.2.1 f <;> rfl
  have ea : alL (bst B) = bitI (B.1 * B.2.1) - 1 := rfl
  have h1 : ((bst B).2.2.1 ||| (bst B).2.2.2.1) &&& (alL (bst B) ^^^ (-1)) = 0 ↔ ∀ f : Nat, (tb B.2.2.1 f = true ∨ tb B.2.2.2.1 f = true) → (f : Int) < B.1 * B.2.1 := by
    rw [z_iff, ea]
    constructor
    · intro h f hf
      by_cases h64 : f < 64
      · have q := h f h64
        rw [tb_and, eo f h64, tb_not _ h64, tb_all (by omega) nb.2 h64, Bool.or_eq_true .. |>.mpr hf, Bool.true_and, Bool.not_eq_false', decide_eq_true_eq] at q
        exact q
      · rw [tb_ge _ (by omega), tb_ge _ (by omega)] at hf
        exact absurd hf (by decide)
    · intro h f hf
      rw [tb_and, eo f hf, tb_not _ hf, tb_all (by omega) nb.2 hf]
      cases q : (tb B.2.2.1 f || tb B.2.2.2.1 f) with
      | false => rfl
      | true =>
        rw [decide_eq_true (h f (Bool.or_eq_true .. |>.mp q))]
        rfl
  have hb : ∀ k, 0 ≤ k → k < 0 + B.2.2.2.2.1.toNat → 0 ≤ B.2.2.2.2.2.2 k ∧ B.2.2.2.2.2.2 k ≤ 35 := fun k _ d => (wf.2.2.2 k (by omega)).2
  have h2 := sdL_iff (n := B.1 * B.2.1) (fl := B.2.2.2.2.2.2) (by omega) nb.2 B.2.2.2.2.1.toNat 0 ((bst B).2.2.1 ||| (bst B).2.2.2.1) hb
  have es : bSound (bst B) = (if ((bst B).2.2.1 ||| (bst B).2.2.2.1) &&& (alL (bst B) ^^^ (-1)) ≠ 0 then false else sdL (bitI (B.1 * B.2.1) - 1) B.2.2.2.2.2.2 B.2.2.2.2.1.toNat 0 ((bst B).2.2.1 ||| (bst B).2.2.2.1)) := rfl
  have eg : ∀ k : Nat, (k : Int) < B.2.2.2.2.1 → (tb ((bst B).2.2.1 ||| (bst B).2.2.2.1) (B.2.2.2.2.2.2 k).toNat = false ↔ grF B.2.2.1 B.2.2.2.1 (B.2.2.2.2.2.2 k).toNat = 0) := fun k hk => by
    have := (wf.2.2.2 k hk).2
    rw [eo _ (by omega), grF_0, Bool.or_eq_false_iff]
  rw [es]
  by_cases c : ((bst B).2.2.1 ||| (bst B).2.2.2.1) &&& (alL (bst B) ^^^ (-1)) = 0
  · rw [if_neg (fun q => q c), h2]
    have c1 := h1.mp c
    constructor
    · intro h
      refine ⟨?_, fun k hk => ?_⟩
      · rcases hg.2.2.1 with q | ⟨f, q1, q2⟩ | ⟨j, q1, q2⟩
        · omega
        · rw [← q1]
          exact c1 f q2
        · have := (h j (Nat.zero_le j) (by omega)).1
          omega
      · have q := h k (Nat.zero_le k) (by omega)
        exact ⟨(eg k hk).mp q.2.1, fun i hi => q.2.2 i (Nat.zero_le i) hi⟩
    · intro h k _ d
      have q := h.2 k (by omega)
      have l := hg.2.1 k (by omega)
      exact ⟨by omega, (eg k (by omega)).mpr q.1, fun i _ hi => q.2 i hi⟩
  · rw [if_pos c]
    refine ⟨fun h => absurd h (by decide), fun h => absurd (h1.mpr (fun f hf => ?_)) c⟩
    have := hg.1 f hf
    omega
