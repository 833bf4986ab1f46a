/-! ===== what a tape says: tokens, texts ===== -/
def kOf (c : Int) : Int := if c = 10 ∨ c = 32 then 0 else if 97 ≤ c ∧ c ≤ 122 then 1 else if 48 ≤ c ∧ c ≤ 57 then 2 else if c = 59 then 3 else 4
theorem kOf_bd (c : Int) : 0 ≤ kOf c ∧ kOf c ≤ 4 := by
  unfold kOf
  (repeat' split) <;> omega
/-- as far as P holds, f places at most -/
def runTo (P : Nat → Bool) : Nat → Nat → Nat
  | 0, p => p
  | f + 1, p => cond (P p) (runTo P f (p + 1)) p
theorem runTo_eq {P : Nat → Bool} : ∀ (f p q : Nat), p ≤ q → q ≤ p + f → (∀ i, p ≤ i → i < q → P i = true) → (q = p + f ∨ P q = false) → runTo P f p = q
  | 0, p, q, h1, h2, _, _ => by
    show p = q
    omega
  | f + 1, p, q, h1, h2, h3, h4 => by
    show cond (P p) (runTo P f (p + 1)) p = q
    by_cases e : p = q
    · subst e
      rcases h4 with h4 | h4
      · omega
      · rw [h4]
        rfl
    · rw [h3 p (Nat.le_refl p) (by omega)]
      exact runTo_eq f (p + 1) q (by omega) (by omega) (fun i a c => h3 i (by omega) c) (h4.elim (fun h => .inl (by omega)) .inr)
theorem runTo_bd {P : Nat → Bool} : ∀ (f p : Nat), p ≤ runTo P f p ∧ runTo P f p ≤ p + f ∧ (∀ i, p ≤ i → i < runTo P f p → P i = true) ∧ (runTo P f p = p + f ∨ P (runTo P f p) = false)
  | 0, p => ⟨Nat.le_refl p, Nat.le_refl p, fun i a c => absurd (show i < p from c) (by omega), .inl rfl⟩
  | f + 1, p => by
    show p ≤ cond (P p) (runTo P f (p + 1)) p ∧ cond (P p) (runTo P f (p + 1)) p ≤ p + (f + 1) ∧ (∀ i, p ≤ i → i < cond (P p) (runTo P f (p + 1)) p → P i = true) ∧ (cond (P p) (runTo P f (p + 1)) p = p + (f + 1) ∨ P (cond (P p) (runTo P f (p + 1)) p) = false)
    have h := runTo_bd (P := P) f (p + 1)
    cases hp : P p with
    | false => exact ⟨Nat.le_refl p, Nat.le_add_right _ _, fun i a c => absurd (show i < p from c) (by omega), .inr hp⟩
    | true =>
      refine ⟨by show p ≤ runTo P f (p + 1); omega, by show runTo P f (p + 1) ≤ _; omega, fun i a c => ?_, ?_⟩
      · by_cases e : i = p
        · rw [e]; exact hp
        · exact h.2.2.1 i (by omega) c
      · rcases h.2.2.2 with q | q
        · exact .inl (by show runTo P f (p + 1) = _; omega)
        · exact .inr q
def isK (b : Nat → Int) (k : Int) (i : Nat) : Bool := decide (kOf (b i) = k)
/-- the next token's first place -/
def tS (b : Nat → Int) (n p : Nat) : Nat := runTo (isK b 0) (n - p) p
/-- the kind of what begins at s, before rows of digits are measured -/
def tC (b : Nat → Int) (n s : Nat) : Int := if s < n then kOf (b s) else 5
/-- behind the token that begins at s -/
def tE (b : Nat → Int) (n s : Nat) : Nat := if s < n then (if tC b n s = 1 ∨ tC b n s = 2 then runTo (isK b (tC b n s)) (n - (s + 1)) (s + 1) else s + 1) else s
def tK (b : Nat → Int) (n s : Nat) : Int := if tC b n s = 2 ∧ s + 2 < tE b n s then 4 else tC b n s
/-- j digits from s on -/
def vP (b : Nat → Int) (s : Nat) : Nat → Int
  | 0 => 0
  | j + 1 => 10 * vP b s j + b (s + j) - 48
def tV (b : Nat → Int) (n s : Nat) : Int := if tK b n s = 2 then vP b s (tE b n s - s) else 0
/-- the next token behind the one that begins at s -/
def nx (b : Nat → Int) (n s : Nat) : Nat := tS b n (tE b n s)
theorem tS_bd (b : Nat → Int) (n p : Nat) (h : p ≤ n) : p ≤ tS b n p ∧ tS b n p ≤ n := by
  have := runTo_bd (P := isK b 0) (n - p) p
  unfold tS
  omega
theorem tS_nb (b : Nat → Int) (n p : Nat) (h : p ≤ n) : tC b n (tS b n p) ≠ 0 := by
  have t := runTo_bd (P := isK b 0) (n - p) p
  have e : tS b n p = runTo (isK b 0) (n - p) p := rfl
  unfold tC
  split
  · rcases t.2.2.2 with q | q
    · omega
    · rw [← e] at q
      exact of_decide_eq_false q
  · decide
theorem tE_bd (b : Nat → Int) (n s : Nat) (h : s ≤ n) : s ≤ tE b n s ∧ tE b n s ≤ n ∧ (s < n → s < tE b n s) := by
  unfold tE
  split
  · split
    · have := runTo_bd (P := isK b (tC b n s)) (n - (s + 1)) (s + 1)
      omega
    · omega
  · omega
theorem tE_in (b : Nat → Int) (n s i : Nat) (hc : tC b n s = 1 ∨ tC b n s = 2) (h0 : s ≤ i) (h1 : i < tE b n s) : kOf (b i) = tC b n s := by
  have hs : s < n := by
    by_cases q : s < n
    · exact q
    · unfold tC at hc
      rw [if_neg q] at hc
      omega
  unfold tE at h1
  rw [if_pos hs, if_pos hc] at h1
  by_cases e : i = s
  · subst e
    unfold tC
    rw [if_pos hs]
  · have := (runTo_bd (P := isK b (tC b n s)) (n - (s + 1)) (s + 1)).2.2.1 i (by omega) h1
    exact of_decide_eq_true this
theorem tK_bd (b : Nat → Int) (n s : Nat) : 0 ≤ tK b n s ∧ tK b n s ≤ 5 := by
  unfold tK tC
  have := kOf_bd (b s)
  (repeat' split) <;> omega
theorem tK_lt {b : Nat → Int} {n s : Nat} (h : tK b n s ≠ 5) (hs : s ≤ n) : s < n := by
  by_cases q : s < n
  · exact q
  · exact absurd (by unfold tK tC; rw [if_neg q, if_neg (by omega)]) h
theorem nx_bd (b : Nat → Int) (n s : Nat) (h : s ≤ n) : s ≤ nx b n s ∧ nx b n s ≤ n ∧ (s < n → s < nx b n s) := by
  have h1 := tE_bd b n s h
  have h2 := tS_bd b n (tE b n s) h1.2.1
  unfold nx
  omega
theorem kOf_dig {c : Int} (h : kOf c = 2) : 48 ≤ c ∧ c ≤ 57 := by
  unfold kOf at h
  split at h
  · omega
  split at h
  · omega
  split at h
  · assumption
  split at h <;> omega
theorem kOf_let {c : Int} (h : kOf c = 1) : 97 ≤ c ∧ c ≤ 122 := by
  unfold kOf at h
  split at h
  · omega
  split at h
  · assumption
  split at h
  · omega
  split at h <;> omega
theorem tK_2 {b : Nat → Int} {n s : Nat} (h : tK b n s = 2) : tC b n s = 2 ∧ tE b n s ≤ s + 2 ∧ s < n := by
  unfold tK at h
  split at h
  · omega
  · rename_i c
    have hs : s < n := by
      by_cases q : s < n
      · exact q
      · unfold tC at h
        rw [if_neg q] at h
        omega
    exact ⟨h, by omega, hs⟩
theorem tK_1 {b : Nat → Int} {n s : Nat} (h : tK b n s = 1) : tC b n s = 1 ∧ s < n := by
  unfold tK at h
  split at h
  · omega
  · have hs : s < n := by
      by_cases q : s < n
      · exact q
      · unfold tC at h
        rw [if_neg q] at h
        omega
    exact ⟨h, hs⟩
theorem vP_bd {b : Nat → Int} {s : Nat} (h : ∀ i, s ≤ i → i < s + 2 → True) (h0 : 48 ≤ b s ∧ b s ≤ 57) : 0 ≤ vP b s 1 ∧ vP b s 1 ≤ 9 := by
  show 0 ≤ 10 * 0 + b (s + 0) - 48 ∧ 10 * 0 + b (s + 0) - 48 ≤ 9
  rw [Nat.add_zero]
  omega
theorem tV_bd {b : Nat → Int} {n s : Nat} (h : tK b n s = 2) (hn : s ≤ n) : 0 ≤ tV b n s ∧ tV b n s ≤ 99 := by
  obtain ⟨h1, h2, h3⟩ := tK_2 h
  have h4 := (tE_bd b n s hn).2.2 h3
  unfold tV
  rw [if_pos h]
  have d0 := kOf_dig ((tE_in b n s s (.inr h1) (Nat.le_refl s) h4).trans h1)
  rcases (show tE b n s = s + 1 ∨ tE b n s = s + 2 by omega) with e | e
  · rw [e, show s + 1 - s = 1 by omega]
    show 0 ≤ 10 * 0 + b (s + 0) - 48 ∧ 10 * 0 + b (s + 0) - 48 ≤ 99
    rw [Nat.add_zero]
    omega
  · have d1 := kOf_dig ((tE_in b n s (s + 1) (.inr h1) (by omega) (by omega)).trans h1)
    rw [e, show s + 2 - s = 2 by omega]
    show 0 ≤ 10 * (10 * 0 + b (s + 0) - 48) + b (s + 1) - 48 ∧ 10 * (10 * 0 + b (s + 0) - 48) + b (s + 1) - 48 ≤ 99
    rw [Nat.add_zero]
    omega
/-! faults: the first is kept -/
def ntF (F : Int × Int) (f p : Int) : Int × Int := if F.1 = 0 then (f, p) else F
/-- a NUMBER is taken at s: its value (-1: it is none), the next token, the fault -/
def tnV (b : Nat → Int) (n s : Nat) : Int := if tK b n s = 2 then tV b n s else -1
def tnS (b : Nat → Int) (n s : Nat) : Nat := if tK b n s = 2 then nx b n s else s
def tnF (b : Nat → Int) (n : Nat) (lo hi : Int) (s : Nat) (F : Int × Int) : Int × Int := if tK b n s = 2 then (if tV b n s < lo ∨ hi < tV b n s then ntF F 2 s else F) else F
theorem tnS_bd (b : Nat → Int) (n s : Nat) (h : s ≤ n) : s ≤ tnS b n s ∧ tnS b n s ≤ n := by
  unfold tnS
  have := nx_bd b n s h
  split <;> omega
/-! words -/
def isW (b : Nat → Int) (n i s : Nat) : Prop := tK b n s = 1 ∧ (tE b n s : Int) - s = (tzL.getD i 0 : Nat) ∧ ∀ k : Nat, (k : Int) < ((tzL.getD i 0 : Nat) : Int) → b (s + k) = sBy i k
