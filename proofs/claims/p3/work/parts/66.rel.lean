/-! ===== lengths and images ===== -/
abbrev LX1 : List (Nat × Option Nat) := [(1, some 0), (104, some 0), (122, some 0), (140, some 0), (20, some 0), (20, some 1), (20, some 2)]
abbrev LM1 : List (Nat × Option Nat) := [(2, some 0), (2, some 1), (2, some 2), (2, some 3), (48, some 0), (48, some 1), (48, some 2)]
def RL1 (X Y : XT) : Prop := X.1 1 0 = Y.1 2 0 ∧ X.1 104 0 = Y.1 2 1 ∧ X.1 122 0 = Y.1 2 2 ∧ X.1 140 0 = Y.1 2 3 ∧ X.1 20 0 = Y.1 48 0 ∧ X.1 20 1 = Y.1 48 1 ∧ X.1 20 2 = Y.1 48 2
theorem rl_fr {mx my : List (Nat × Option Nat)} {X Y X1 Y1 : XT} (h : RL1 X Y) (hx : FR mx X X1) (hy : FR my Y Y1) (ox : ovl LX1 mx = false) (oy : ovl LM1 my = false) : RL1 X1 Y1 := by
  obtain ⟨e0, e1, e2, e3, e4, e5, e6⟩ := h
  exact ⟨by rw [(hx 1 0 (ovl_no ox rfl)).1, (hy 2 0 (ovl_no oy rfl)).1]; exact e0, by rw [(hx 104 0 (ovl_no ox rfl)).1, (hy 2 1 (ovl_no oy rfl)).1]; exact e1, by rw [(hx 122 0 (ovl_no ox rfl)).1, (hy 2 2 (ovl_no oy rfl)).1]; exact e2, by rw [(hx 140 0 (ovl_no ox rfl)).1, (hy 2 3 (ovl_no oy rfl)).1]; exact e3, by rw [(hx 20 0 (ovl_no ox rfl)).1, (hy 48 0 (ovl_no oy rfl)).1]; exact e4, by rw [(hx 20 1 (ovl_no ox rfl)).1, (hy 48 1 (ovl_no oy rfl)).1]; exact e5, by rw [(hx 20 2 (ovl_no ox rfl)).1, (hy 48 2 (ovl_no oy rfl)).1]; exact e6⟩
def tb8o (md : List (Nat × Option Nat)) : Bool := tb8.all (fun q => !(ovl [(q.1, none), (q.2, none)] md))
theorem menok_fr {md : List (Nat × Option Nat)} {X Y : XT} (h : MENOK X) (hF : FR md X Y) (ho : tb8o md = true) : MENOK Y := by
  intro q hq j hj
  have o := List.all_eq_true.mp ho q hq
  have o : ovl [(q.1, none), (q.2, none)] md = false := by
    cases e : ovl [(q.1, none), (q.2, none)] md with
    | false => rfl
    | true => rw [e] at o; cases o
  have i1 : ∀ i, inM [(q.1, none), (q.2, none)] q.1 i = true := fun i => by
    show (Nat.beq q.1 q.1 && true || _) = true
    rw [Nat.beq_refl]
    rfl
  have i2 : ∀ i, inM [(q.1, none), (q.2, none)] q.2 i = true := fun i => by
    show (Nat.beq q.1 q.2 && true || (Nat.beq q.2 q.2 && true || false)) = true
    rw [Nat.beq_refl]
    simp
  rw [(hF q.1 _ (ovl_no o (i1 _))).1] at hj
  rw [(hF q.2 _ (ovl_no o (i2 _))).1]
  exact h q hq j hj
theorem menok_b0 {X X1 : XT} {B : BC} (h : MENOK X) (hF : FR mdT00 X X1) (tb : TBk 7 8 9 B X1) (wf : WFB B) : MENOK X1 := by
  intro q hq j hj
  simp only [tb8, List.mem_cons, List.not_mem_nil, or_false] at hq
  rcases hq with rfl | rfl | rfl | rfl | rfl | rfl | rfl | rfl
  · have hj : (j : Int) < X1.1 7 4 := hj
    have hj2 : (j : Int) < B.2.2.2.2.1 := by rw [← tb.2.2.2.2.1]; exact hj
    have t := tb.2.2.2.2.2 j hj2
    have w := (wf.2.2.2 j hj2).2
    show 0 ≤ X1.1 9 j ∧ X1.1 9 j ≤ 35
    rw [t.2]
    exact w
  · have hj : (j : Int) < X1.1 10 4 := hj
    rw [(hF 10 4 rfl).1] at hj
    show 0 ≤ X1.1 12 j ∧ X1.1 12 j ≤ 35
    rw [(hF 12 j rfl).1]
    exact h (10, 12) (by decide) j hj
  · have hj : (j : Int) < X1.1 110 4 := hj
    rw [(hF 110 4 rfl).1] at hj
    show 0 ≤ X1.1 112 j ∧ X1.1 112 j ≤ 35
    rw [(hF 112 j rfl).1]
    exact h (110, 112) (by decide) j hj
  · have hj : (j : Int) < X1.1 113 4 := hj
    rw [(hF 113 4 rfl).1] at hj
    show 0 ≤ X1.1 115 j ∧ X1.1 115 j ≤ 35
    rw [(hF 115 j rfl).1]
    exact h (113, 115) (by decide) j hj
  · have hj : (j : Int) < X1.1 128 4 := hj
    rw [(hF 128 4 rfl).1] at hj
    show 0 ≤ X1.1 130 j ∧ X1.1 130 j ≤ 35
    rw [(hF 130 j rfl).1]
    exact h (128, 130) (by decide) j hj
  · have hj : (j : Int) < X1.1 131 4 := hj
    rw [(hF 131 4 rfl).1] at hj
    show 0 ≤ X1.1 133 j ∧ X1.1 133 j ≤ 35
    rw [(hF 133 j rfl).1]
    exact h (131, 133) (by decide) j hj
  · have hj : (j : Int) < X1.1 146 4 := hj
    rw [(hF 146 4 rfl).1] at hj
    show 0 ≤ X1.1 148 j ∧ X1.1 148 j ≤ 35
    rw [(hF 148 j rfl).1]
    exact h (146, 148) (by decide) j hj
  · have hj : (j : Int) < X1.1 149 4 := hj
    rw [(hF 149 4 rfl).1] at hj
    show 0 ≤ X1.1 151 j ∧ X1.1 151 j ≤ 35
    rw [(hF 151 j rfl).1]
    exact h (149, 151) (by decide) j hj
theorem menok_b1 {X X1 : XT} {B : BC} (h : MENOK X) (hF : FR mdT01 X X1) (tb : TBk 10 11 12 B X1) (wf : WFB B) : MENOK X1 := by
  intro q hq j hj
  simp only [tb8, List.mem_cons, List.not_mem_nil, or_false] at hq
  rcases hq with rfl | rfl | rfl | rfl | rfl | rfl | rfl | rfl
  · have hj : (j : Int) < X1.1 7 4 := hj
    rw [(hF 7 4 rfl).1] at hj
    show 0 ≤ X1.1 9 j ∧ X1.1 9 j ≤ 35
    rw [(hF 9 j rfl).1]
    exact h (7, 9) (by decide) j hj
  · have hj : (j : Int) < X1.1 10 4 := hj
    have hj2 : (j : Int) < B.2.2.2.2.1 := by rw [← tb.2.2.2.2.1]; exact hj
    have t := tb.2.2.2.2.2 j hj2
    have w := (wf.2.2.2 j hj2).2
    show 0 ≤ X1.1 12 j ∧ X1.1 12 j ≤ 35
    rw [t.2]
    exact w
  · have hj : (j : Int) < X1.1 110 4 := hj
    rw [(hF 110 4 rfl).1] at hj
    show 0 ≤ X1.1 112 j ∧ X1.1 112 j ≤ 35
    rw [(hF 112 j rfl).1]
    exact h (110, 112) (by decide) j hj
  · have hj : (j : Int) < X1.1 113 4 := hj
    rw [(hF 113 4 rfl).1] at hj
    show 0 ≤ X1.1 115 j ∧ X1.1 115 j ≤ 35
    rw [(hF 115 j rfl).1]
    exact h (113, 115) (by decide) j hj
  · have hj : (j : Int) < X1.1 128 4 := hj
    rw [(hF 128 4 rfl).1] at hj
    show 0 ≤ X1.1 130 j ∧ X1.1 130 j ≤ 35
    rw [(hF 130 j rfl).1]
    exact h (128, 130) (by decide) j hj
  · have hj : (j : Int) < X1.1 131 4 := hj
    rw [(hF 131 4 rfl).1] at hj
    show 0 ≤ X1.1 133 j ∧ X1.1 133 j ≤ 35
    rw [(hF 133 j rfl).1]
    exact h (131, 133) (by decide) j hj
  · have hj : (j : Int) < X1.1 146 4 := hj
    rw [(hF 146 4 rfl).1] at hj
    show 0 ≤ X1.1 148 j ∧ X1.1 148 j ≤ 35
    rw [(hF 148 j rfl).1]
    exact h (146, 148) (by decide) j hj
  · have hj : (j : Int) < X1.1 149 4 := hj
    rw [(hF 149 4 rfl).1] at hj
    show 0 ≤ X1.1 151 j ∧ X1.1 151 j ≤ 35
    rw [(hF 151 j rfl).1]
    exact h (149, 151) (by decide) j hj
theorem menok_txp {b : Nat → Int} {N : Nat} {X X1 : XT} {st at_ u : Int} (h : MENOK X) (t : TXP b N X X1 st at_ u) : MENOK X1 := by
  obtain ⟨-, t1⟩ := t
  rcases t1 with ⟨-, -, hF, -⟩ | ⟨-, -, ⟨-, -, hF⟩ | ⟨f0, ⟨rfl, -, hF, -, tb⟩ | ⟨rfl, -, hF, -, tb⟩ | ⟨-, -, hF, -, -⟩ | ⟨-, -, hF, -, -⟩ | ⟨-, -, hF, -, -⟩ | ⟨-, -, hF, -, -⟩ | ⟨-, -, hF, -, -⟩⟩⟩
  · exact menok_fr h hF rfl
  · exact menok_fr h hF rfl
  · exact menok_b0 h hF tb (txB_wf f0)
  · exact menok_b1 h hF tb (txB_wf f0)
  · exact menok_fr h hF rfl
  · exact menok_fr h hF rfl
  · exact menok_fr h hF rfl
  · exact menok_fr h hF rfl
  · exact menok_fr h hF rfl
theorem txp_l {b : Nat → Int} {N : Nat} {X X1 : XT} {st at_ u : Int} (t : TXP b N X X1 st at_ u) : X1.1 1 0 = 0 ∧ X1.1 104 0 = X.1 104 0 ∧ X1.1 122 0 = X.1 122 0 ∧ X1.1 140 0 = X.1 140 0 ∧ X1.1 20 0 = X.1 20 0 ∧ X1.1 20 1 = X.1 20 1 ∧ X1.1 20 2 = X.1 20 2 := by
  obtain ⟨t0, t1⟩ := t
  rcases t1 with ⟨-, -, hF, -⟩ | ⟨-, -, ⟨-, -, hF⟩ | ⟨-, ⟨-, -, hF, -, -⟩ | ⟨-, -, hF, -, -⟩ | ⟨-, -, hF, -, -⟩ | ⟨-, -, hF, -, -⟩ | ⟨-, -, hF, -, -⟩ | ⟨-, -, hF, -, -⟩ | ⟨-, -, hF, -, -⟩⟩⟩
  · exact ⟨t0, (hF 104 0 rfl).1, (hF 122 0 rfl).1, (hF 140 0 rfl).1, (hF 20 0 rfl).1, (hF 20 1 rfl).1, (hF 20 2 rfl).1⟩
  · exact ⟨t0, (hF 104 0 rfl).1, (hF 122 0 rfl).1, (hF 140 0 rfl).1, (hF 20 0 rfl).1, (hF 20 1 rfl).1, (hF 20 2 rfl).1⟩
  · exact ⟨t0, (hF 104 0 rfl).1, (hF 122 0 rfl).1, (hF 140 0 rfl).1, (hF 20 0 rfl).1, (hF 20 1 rfl).1, (hF 20 2 rfl).1⟩
  · exact ⟨t0, (hF 104 0 rfl).1, (hF 122 0 rfl).1, (hF 140 0 rfl).1, (hF 20 0 rfl).1, (hF 20 1 rfl).1, (hF 20 2 rfl).1⟩
  · exact ⟨t0, (hF 104 0 rfl).1, (hF 122 0 rfl).1, (hF 140 0 rfl).1, (hF 20 0 rfl).1, (hF 20 1 rfl).1, (hF 20 2 rfl).1⟩
  · exact ⟨t0, (hF 104 0 rfl).1, (hF 122 0 rfl).1, (hF 140 0 rfl).1, (hF 20 0 rfl).1, (hF 20 1 rfl).1, (hF 20 2 rfl).1⟩
  · exact ⟨t0, (hF 104 0 rfl).1, (hF 122 0 rfl).1, (hF 140 0 rfl).1, (hF 20 0 rfl).1, (hF 20 1 rfl).1, (hF 20 2 rfl).1⟩
  · exact ⟨t0, (hF 104 0 rfl).1, (hF 122 0 rfl).1, (hF 140 0 rfl).1, (hF 20 0 rfl).1, (hF 20 1 rfl).1, (hF 20 2 rfl).1⟩
  · exact ⟨t0, (hF 104 0 rfl).1, (hF 122 0 rfl).1, (hF 140 0 rfl).1, (hF 20 0 rfl).1, (hF 20 1 rfl).1, (hF 20 2 rfl).1⟩
theorem txm_l {b : Nat → Int} {N : Nat} {X X1 : XT} {st at_ u : Int} (t : TXM b N X X1 st at_ u) : X1.1 2 0 = 0 ∧ X1.1 2 1 = X.1 2 1 ∧ X1.1 2 2 = X.1 2 2 ∧ X1.1 2 3 = X.1 2 3 ∧ X1.1 48 0 = X.1 48 0 ∧ X1.1 48 1 = X.1 48 1 ∧ X1.1 48 2 = X.1 48 2 := by
  obtain ⟨t0, t1⟩ := t
  rcases t1 with ⟨-, -, hF, -⟩ | ⟨-, -, ⟨-, -, hF⟩ | ⟨-, m, -, -, ⟨-, -, hF, -, -⟩ | ⟨-, -, hF, -, -⟩ | ⟨-, -, hF, -, -⟩⟩⟩
  · exact ⟨t0, (hF 2 1 rfl).1, (hF 2 2 rfl).1, (hF 2 3 rfl).1, (hF 48 0 rfl).1, (hF 48 1 rfl).1, (hF 48 2 rfl).1⟩
  · exact ⟨t0, (hF 2 1 rfl).1, (hF 2 2 rfl).1, (hF 2 3 rfl).1, (hF 48 0 rfl).1, (hF 48 1 rfl).1, (hF 48 2 rfl).1⟩
  · exact ⟨t0, (hF 2 1 rfl).1, (hF 2 2 rfl).1, (hF 2 3 rfl).1, (hF 48 0 rfl).1, (hF 48 1 rfl).1, (hF 48 2 rfl).1⟩
  · exact ⟨t0, (hF 2 1 rfl).1, (hF 2 2 rfl).1, (hF 2 3 rfl).1, (hF 48 0 rfl).1, (hF 48 1 rfl).1, (hF 48 2 rfl).1⟩
  · exact ⟨t0, (hF 2 1 rfl).1, (hF 2 2 rfl).1, (hF 2 3 rfl).1, (hF 48 0 rfl).1, (hF 48 1 rfl).1, (hF 48 2 rfl).1⟩
theorem bok_txm {b : Nat → Int} {N : Nat} {X X1 : XT} {st at_ u : Int} (h : BOK X) (t : TXM b N X X1 st at_ u) : BOK X1 := by
  obtain ⟨-, t1⟩ := t
  rcases t1 with ⟨-, -, hF, -⟩ | ⟨-, -, ⟨-, -, hF⟩ | ⟨f0, m, -, cn, ⟨rfl, hm, hF, kp, br⟩ | ⟨-, hm, hF, -, -⟩ | ⟨-, hm, hF, -, -⟩⟩⟩
  · exact bok_fr h hF rfl
  · exact bok_fr h hF rfl
  · have wf := txB_wf f0
    have cn : (at_ = -1 ∧ X.1 5 0 = (m : Int) ∧ X1.1 5 0 = (m : Int) + 1) ∨ (at_ = (m : Int) ∧ (m : Int) < X.1 5 0 ∧ X1.1 5 0 = X.1 5 0) := cn
    intro s hs k hk hj
    by_cases s0 : s = 0
    · subst s0
      have hj : (k : Int) < X1.1 5 0 := hj
      by_cases km : k = m
      · subst km
        have w0 : X1.1 6 (51 * k + 0) = (txB b N).1 := br.1
        have w1 : X1.1 6 (51 * k + 1) = (txB b N).2.1 := br.2.1
        rw [show 102 * 0 + 51 * k = 51 * k + 0 by omega, show 51 * k + 0 + 1 = 51 * k + 1 by omega, w0, w1]
        exact ⟨wf.1, wf.2.1⟩
      · have t := h 0 (by omega) k hk (show (k : Int) < X.1 5 0 by omega)
        rw [kp (102 * 0 + 51 * k) (by omega), kp (102 * 0 + 51 * k + 1) (by omega)]
        exact t
    · have hq : X1.1 5 (3 * s) = X.1 5 (3 * s) := by
        rcases (show s = 1 ∨ s = 2 ∨ s = 3 by omega) with rfl | rfl | rfl
        · exact (hF 5 3 rfl).1
        · exact (hF 5 6 rfl).1
        · exact (hF 5 9 rfl).1
      rw [hq] at hj
      rw [kp (102 * s + 51 * k) (by omega), kp (102 * s + 51 * k + 1) (by omega)]
      exact h s hs k hk hj
  · intro s hs k hk hj
    have hq : X1.1 5 (3 * s) = X.1 5 (3 * s) := by
      rcases (show s = 0 ∨ s = 1 ∨ s = 2 ∨ s = 3 by omega) with rfl | rfl | rfl | rfl
      · exact (hF 5 0 rfl).1
      · exact (hF 5 3 rfl).1
      · exact (hF 5 6 rfl).1
      · exact (hF 5 9 rfl).1
    rw [hq] at hj
    rw [(hF 6 _ rfl).1, (hF 6 _ rfl).1]
    exact h s hs k hk hj
  · intro s hs k hk hj
    have hq : X1.1 5 (3 * s) = X.1 5 (3 * s) := by
      rcases (show s = 0 ∨ s = 1 ∨ s = 2 ∨ s = 3 by omega) with rfl | rfl | rfl | rfl
      · exact (hF 5 0 rfl).1
      · exact (hF 5 3 rfl).1
      · exact (hF 5 6 rfl).1
      · exact (hF 5 9 rfl).1
    rw [hq] at hj
    rw [(hF 6 _ rfl).1, (hF 6 _ rfl).1]
    exact h s hs k hk hj
theorem menok_0 : MENOK x0X := by
  intro q hq j hj
  simp only [tb8, List.mem_cons, List.not_mem_nil, or_false] at hq
  rcases hq with rfl | rfl | rfl | rfl | rfl | rfl | rfl | rfl
  · exact absurd (show (j : Int) < 0 from hj) (by omega)
  · exact absurd (show (j : Int) < 0 from hj) (by omega)
  · exact absurd (show (j : Int) < 0 from hj) (by omega)
  · exact absurd (show (j : Int) < 0 from hj) (by omega)
  · exact absurd (show (j : Int) < 0 from hj) (by omega)
  · exact absurd (show (j : Int) < 0 from hj) (by omega)
  · exact absurd (show (j : Int) < 0 from hj) (by omega)
  · exact absurd (show (j : Int) < 0 from hj) (by omega)
theorem bok_0 : BOK x0M := by
  intro s hs k hk hj
  have e : x0M.1 5 (3 * s) = 0 := rfl
  rw [e] at hj
  omega
theorem rl_0 : RL1 x0X x0M := ⟨rfl, rfl, rfl, rfl, rfl, rfl, rfl⟩
/-! ===== fresh objects: every place within its interval ===== -/
def okI (o : Option IV) (v : Int) : Bool := match o with
  | some q => decide (q.1 ≤ v) && decide (v ≤ q.2)
  | none => true
def zq (b : Bool) (q : IV) : Bool := (decide (q.1 ≤ 0) && decide (0 ≤ q.2)) && cond b (decide (q.1 ≤ -1)) true
def zk (V : VW) (X : XT) (ex : Nat → Bool) (k : Nat) : Bool := cond (Nat.beq (vS V k).1 0) ((List.range (vS V k).2.2).all (fun i => cond (Nat.beq (plK V k i) 0) (okI (gI V k i) (X.1 k i)) (cond (Nat.beq (plK V k i) 1) (okI (gL V k i) 0) true))) (((vGI V).getD k []).all (zq (ex k)) && ((vGL V).getD k []).all (zq false))
theorem plK_lt {V : VW} {k i t : Nat} (h : plK V k i = t) (ht : t < 9) : k < vN V ∧ i < (vS V k).2.2 := by
  unfold plK at h
  cases a : Nat.blt k (vN V) with
  | false =>
    rw [a] at h
    have h : 9 = t := h
    omega
  | true =>
    cases c : Nat.blt i (vS V k).2.2 with
    | false =>
      rw [a, c] at h
      have h : 9 = t := h
      omega
    | true => exact ⟨Nat.le_of_ble_eq_true a, Nat.le_of_ble_eq_true c⟩
theorem per_in {L : List IV} {i : Nat} {q : IV} (h : perG L i = some q) : q ∈ L := List.mem_of_getElem? h
theorem zq_ok {b : Bool} {q : IV} (h : zq b q = true) : (q.1 ≤ 0 ∧ 0 ≤ q.2) ∧ (b = true → q.1 ≤ -1) := by
  unfold zq at h
  rw [Bool.and_eq_true, Bool.and_eq_true, decide_eq_true_iff, decide_eq_true_iff] at h
  refine ⟨h.1, fun e => ?_⟩
  have t := h.2
  rw [e] at t
  have t : decide (q.1 ≤ -1) = true := t
  exact of_decide_eq_true t
theorem okI_ok {o : Option IV} {v : Int} {q : IV} (h : okI o v = true) (hq : o = some q) : q.1 ≤ v ∧ v ≤ q.2 := by
  rw [hq] at h
  have h : (decide (q.1 ≤ v) && decide (v ≤ q.2)) = true := h
  rw [Bool.and_eq_true, decide_eq_true_iff, decide_eq_true_iff] at h
  exact h
theorem hg_z {V : VW} {X : XT} {ex : Nat → Bool} (hz : (List.range (vN V)).all (zk V X ex) = true) (h1 : ∀ k i, (vS V k).1 ≠ 0 → X.1 k i = 0 ∨ (X.1 k i = -1 ∧ ex k = true)) (h2 : ∀ k i, X.2.1 k i = 0) (hr : ∀ k i, plK V k i = 2 → X.2.2 k i ∈ vGR V k i) : HG V X := by
  refine ⟨fun k i q hp hq => ?_, fun k i q hp hq => ?_, hr⟩
  · obtain ⟨kN, iN⟩ := plK_lt hp (by omega)
    have z := List.all_eq_true.mp hz k (List.mem_range.mpr kN)
    unfold zk at z
    cases e : Nat.beq (vS V k).1 0 with
    | true =>
      rw [e] at z
      have z := List.all_eq_true.mp (show ((List.range (vS V k).2.2).all _) = true from z) i (List.mem_range.mpr iN)
      rw [hp] at z
      exact okI_ok (show okI (gI V k i) (X.1 k i) = true from z) hq
    | false =>
      rw [e] at z
      have z : (((vGI V).getD k []).all (zq (ex k)) && ((vGL V).getD k []).all (zq false)) = true := z
      rw [Bool.and_eq_true] at z
      have y := zq_ok (List.all_eq_true.mp z.1 q (per_in hq))
      rcases h1 k i (fun h => by rw [h] at e; cases e) with h | ⟨h, hx⟩
      · rw [h]; exact y.1
      · rw [h]; exact ⟨y.2 hx, by have := y.1.2; omega⟩
  · obtain ⟨kN, iN⟩ := plK_lt hp (by omega)
    rw [h2]
    have z := List.all_eq_true.mp hz k (List.mem_range.mpr kN)
    unfold zk at z
    cases e : Nat.beq (vS V k).1 0 with
    | true =>
      rw [e] at z
      have z := List.all_eq_true.mp (show ((List.range (vS V k).2.2).all _) = true from z) i (List.mem_range.mpr iN)
      rw [hp] at z
      exact okI_ok (show okI (gL V k i) 0 = true from z) hq
    | false =>
      rw [e] at z
      have z : (((vGI V).getD k []).all (zq (ex k)) && ((vGL V).getD k []).all (zq false)) = true := z
      rw [Bool.and_eq_true] at z
      exact (zq_ok (List.all_eq_true.mp z.2 q (per_in hq))).1
set_option maxRecDepth 100000 in
theorem hg_0M : HG vM x0M := hg_z (ex := fun k => Nat.beq k 4) (by decide +kernel) (fun k i _ => by
  show cond (Nat.beq k 4 && Nat.beq i 0) (-1 : Int) 0 = 0 ∨ (cond (Nat.beq k 4 && Nat.beq i 0) (-1 : Int) 0 = -1 ∧ Nat.beq k 4 = true)
  cases a : Nat.beq k 4 <;> cases b : Nat.beq i 0
  · exact .inl rfl
  · exact .inl rfl
  · exact .inl rfl
  · exact .inr ⟨rfl, rfl⟩) (fun _ _ => rfl) (fun k i _ => List.mem_singleton.mpr rfl)
def excL : List (Nat × Nat) := [(21, 5), (39, 0), (92, 0), (95, 0), (98, 0), (101, 0)]
def m1L : List (Nat × Nat) := [(1, 2), (49, 3), (48, 3), (62, 3), (65, 3), (68, 3), (71, 3), (74, 3), (104, 2), (122, 2), (140, 2)]
theorem any_in {l : List (Nat × Nat)} {k i : Nat} (h : l.any (fun q => Nat.beq q.1 k && Nat.beq q.2 i) = true) : (k, i) ∈ l := by
  obtain ⟨q, hq, e⟩ := List.any_eq_true.mp h
  rw [Bool.and_eq_true] at e
  have h1 := Nat.eq_of_beq_eq_true e.1
  have h2 := Nat.eq_of_beq_eq_true e.2
  obtain ⟨a, b⟩ := q
  have h1 : a = k := h1
  have h2 : b = i := h2
  subst h1
  subst h2
  exact hq
set_option maxRecDepth 100000 in
theorem excL_ok : ∀ q ∈ excL, rX q.1 q.2 ∈ grX q.1 q.2 := by decide +kernel
set_option maxRecDepth 100000 in
theorem m1L_ok : ∀ q ∈ m1L, (vS vX q.1).1 = 0 := by decide +kernel
set_option maxRecDepth 100000 in
theorem hg_0X : HG vX x0X := hg_z (ex := fun _ => false) (by decide +kernel) (fun k i h => by
  show cond (m1X k i) (-1 : Int) 0 = 0 ∨ _
  cases a : m1X k i with
  | false => exact .inl rfl
  | true => exact absurd (m1L_ok (k, i) (any_in a)) h) (fun _ _ => rfl) (fun k i _ => by
  show rX k i ∈ grX k i
  cases a : excX k i with
  | false =>
    unfold grX
    rw [a]
    exact List.mem_singleton.mpr rfl
  | true => exact excL_ok (k, i) (any_in a))
