/-! ===== words as longs say which word it is ===== -/
theorem hg_wB {V : VW} {X : XT} (h : HG V X) {k a n i : Nat} {z : Int} {p : IV} (hp : wrG ((vGI V).getD k []) a n p = true) (h0 : a ≤ i) (h1 : i ≤ a + n) (hz : p.1 ≤ z ∧ z ≤ p.2) : HG V (upI X k i z) := h.upI (fun q hq => by
  have t := wrG_ok hp i h0 h1
  have hq' : perG ((vGI V).getD k []) i = some q := hq
  rw [hq'] at t
  unfold fitI at t
  rw [Bool.and_eq_true, leI_iff, leI_iff] at t
  exact ⟨Int.le_trans t.1 hz.1, Int.le_trans hz.2 t.2⟩)
def letC (v : Int) : Prop := 97 ≤ v ∧ v ≤ 122
theorem lb_hi {v : Int} (h : letC v) : ∀ i, i < 64 → 8 ≤ i → tb ((iI v).toInt64) i = false := by
  have t : ∀ k : Nat, k < 26 → ∀ i, i < 64 → 8 ≤ i → tb ((iI (97 + (k : Int))).toInt64) i = false := by decide +kernel
  have e : v = 97 + (((v - 97).toNat : Nat) : Int) := by have := h.1; omega
  rw [e]
  exact t _ (by have := h.1; have := h.2; omega)
theorem lb_inj {v w : Int} (hv : letC v) (hw : letC w) (h : ∀ i, i < 8 → tb ((iI v).toInt64) i = tb ((iI w).toInt64) i) : v = w := by
  have t : ∀ k : Nat, k < 26 → ∀ l : Nat, l < 26 → (∀ i, i < 8 → tb ((iI (97 + (k : Int))).toInt64) i = tb ((iI (97 + (l : Int))).toInt64) i) → k = l := by decide +kernel
  have e1 : v = 97 + (((v - 97).toNat : Nat) : Int) := by have := hv.1; omega
  have e2 : w = 97 + (((w - 97).toNat : Nat) : Int) := by have := hw.1; omega
  have q := t (v - 97).toNat (by have := hv.1; have := hv.2; omega) (w - 97).toNat (by have := hw.1; have := hw.2; omega) (by rw [← e1, ← e2]; exact h)
  have := hv.1
  have := hw.1
  omega
theorem lb_64 {v : Int} (h : letC v) : tb ((iI v).toInt64) 6 = true := by
  have t : ∀ k : Nat, k < 26 → tb ((iI (97 + (k : Int))).toInt64) 6 = true := by decide +kernel
  have e : v = 97 + (((v - 97).toNat : Nat) : Int) := by have := h.1; omega
  rw [e]
  exact t _ (by have := h.1; have := h.2; omega)
theorem wP_tb {b : Nat → Int} {s j i : Nat} (hi : i < 64) : tb (wP b s (j + 1)) i = ((!decide (i < 8) && tb (wP b s j) (i - 8)) || tb ((iI (b (s + j))).toInt64) i) := by
  show tb ((wP b s j <<< ((iI 8).toInt64 &&& 63)) ||| (iI (b (s + j))).toInt64) i = _
  rw [tb_or, tb_shl, decide_eq_true hi, Bool.true_and]
  rfl
theorem wP_hi {b : Nat → Int} {s : Nat} : ∀ n, (∀ i, i < n → letC (b (s + i))) → ∀ i, 8 * n ≤ i → tb (wP b s n) i = false
  | 0, _, i, _ => tb_0 i
  | n + 1, h, i, hi => by
    by_cases q : i < 64
    · rw [wP_tb q, decide_eq_false (by omega), wP_hi n (fun j hj => h j (by omega)) (i - 8) (by omega), lb_hi (h n (by omega)) i q (by omega)]
      rfl
    · exact tb_ge _ (by omega)
theorem wP_inj {b c : Nat → Int} {s t : Nat} : ∀ n m, n ≤ 8 → m ≤ 8 → (∀ i, i < n → letC (b (s + i))) → (∀ i, i < m → letC (c (t + i))) → wP b s n = wP c t m → n = m ∧ ∀ k, k < n → b (s + k) = c (t + k)
  | 0, 0, _, _, _, _, _ => ⟨rfl, fun k hk => absurd hk (by omega)⟩
  | 0, m + 1, _, _, _, hc, h => by
    have q := congrArg (fun z => tb z 6) h
    have q : tb 0 6 = tb (wP c t (m + 1)) 6 := q
    rw [tb_0, wP_tb (by omega), lb_64 (hc m (by omega)), Bool.or_true] at q
    cases q
  | n + 1, 0, _, _, hb, _, h => by
    have q := congrArg (fun z => tb z 6) h
    have q : tb (wP b s (n + 1)) 6 = tb 0 6 := q
    rw [tb_0, wP_tb (by omega), lb_64 (hb n (by omega)), Bool.or_true] at q
    cases q
  | n + 1, m + 1, hn, hm, hb, hc, h => by
    have hq : ∀ i, i < 64 → tb (wP b s (n + 1)) i = tb (wP c t (m + 1)) i := fun i _ => by rw [h]
    have el : b (s + n) = c (t + m) := lb_inj (hb n (by omega)) (hc m (by omega)) (fun i hi => by
      have q := hq i (by omega)
      rw [wP_tb (by omega), wP_tb (by omega), decide_eq_true hi] at q
      exact q)
    have eh : wP b s n = wP c t m := tb_ext (fun i hi => by
      by_cases g : i < 56
      · have q := hq (i + 8) (by omega)
        rw [wP_tb (by omega), wP_tb (by omega), decide_eq_false (by omega), lb_hi (hb n (by omega)) (i + 8) (by omega) (by omega), lb_hi (hc m (by omega)) (i + 8) (by omega) (by omega), Nat.add_sub_cancel, Bool.or_false, Bool.or_false] at q
        exact q
      · rw [wP_hi n (fun j hj => hb j (by omega)) i (by omega), wP_hi m (fun j hj => hc j (by omega)) i (by omega)])
    have r := wP_inj n m (by omega) (by omega) (fun i hi => hb i (by omega)) (fun i hi => hc i (by omega)) eh
    refine ⟨by omega, fun k hk => ?_⟩
    by_cases g : k = n
    · rw [g, el, r.1]
    · exact r.2 k (by omega)
theorem wP_cg {b c : Nat → Int} {s t : Nat} : ∀ n, (∀ k, k < n → b (s + k) = c (t + k)) → wP b s n = wP c t n
  | 0, _ => rfl
  | n + 1, h => by
    show (wP b s n <<< ((iI 8).toInt64 &&& 63)) ||| (iI (b (s + n))).toInt64 = (wP c t n <<< ((iI 8).toInt64 &&& 63)) ||| (iI (c (t + n))).toInt64
    rw [wP_cg n (fun k hk => h k (by omega)), h n (by omega)]
/-- the long of the word at s; 0 where none stands -/
def wW (b : Nat → Int) (N s : Nat) : Int64 := if tK b N s = 1 then wdT b N s else 0
theorem isW_iff {b : Nat → Int} {N s i : Nat} {K : Int64} (hK : K = wP (sBy i) 0 (tzL.getD i 0)) (h0 : K ≠ 0) (h8 : tzL.getD i 0 ≤ 8) (hl : ∀ k, k < tzL.getD i 0 → letC (sBy i (0 + k))) : wW b N s = K ↔ isW b N i s := by
  unfold wW isW
  by_cases k1 : tK b N s = 1
  · have kt := tK_1 k1
    have te := (tE_bd b N s (by omega)).1
    rw [if_pos k1]
    unfold wdT
    by_cases h9 : 8 < tE b N s - s
    · rw [if_pos h9]
      exact ⟨fun g => absurd g.symm h0, fun g => by
        have := g.2.1
        omega⟩
    · rw [if_neg h9, hK]
      constructor
      · intro g
        have r := wP_inj _ _ (by omega) h8 (fun j hj => sgl_bd k1 (by omega) (by omega)) hl g
        exact ⟨k1, by omega, fun k hk => by
          have := r.2 k (by omega)
          rw [Nat.zero_add] at this
          exact this⟩
      · intro g
        have e : tE b N s - s = tzL.getD i 0 := by
          have := g.2.1
          omega
        rw [e]
        exact wP_cg _ (fun k hk => by
          rw [Nat.zero_add]
          exact g.2.2 k (by omega))
  · rw [if_neg k1]
    exact ⟨fun g => absurd g.symm h0, fun g => absurd g.1 k1⟩
theorem isW_0 {b : Nat → Int} {N s : Nat} : wW b N s = 1936292453 ↔ isW b N 0 s := isW_iff (by decide +kernel) (by decide +kernel) (by decide) (by unfold letC; decide +kernel)
theorem isW_1 {b : Nat → Int} {N s : Nat} : wW b N s = 7168366 ↔ isW b N 1 s := isW_iff (by decide +kernel) (by decide +kernel) (by decide) (by unfold letC; decide +kernel)
theorem isW_2 {b : Nat → Int} {N s : Nat} : wW b N s = 2002873452 ↔ isW b N 2 s := isW_iff (by decide +kernel) (by decide +kernel) (by decide) (by unfold letC; decide +kernel)
theorem isW_3 {b : Nat → Int} {N s : Nat} : wW b N s = 7367028 ↔ isW b N 3 s := isW_iff (by decide +kernel) (by decide +kernel) (by decide) (by unfold letC; decide +kernel)
theorem isW_4 {b : Nat → Int} {N s : Nat} : wW b N s = 7561593 ↔ isW b N 4 s := isW_iff (by decide +kernel) (by decide +kernel) (by decide) (by unfold letC; decide +kernel)
theorem isW_5 {b : Nat → Int} {N s : Nat} : wW b N s = 26479 ↔ isW b N 5 s := isW_iff (by decide +kernel) (by decide +kernel) (by decide) (by unfold letC; decide +kernel)
theorem wW_1 {b : Nat → Int} {N s : Nat} (h : tK b N s = 1) : wW b N s = wdT b N s := if_pos h
theorem wW_0 {b : Nat → Int} {N s : Nat} (h : tK b N s ≠ 1) : wW b N s = 0 := if_neg h
/-- a letter's byte, of a place whose rest is a letter -/
theorem let_b {v c : Int} (h0 : -128 ≤ v) (h1 : v ≤ 127) (e : v % 256 = c) (hc : letC c) : v = c := by
  have := hc.1
  have := hc.2
  omega
