/-! ===== rows of boards, of games: what may be stored ===== -/
def BRW (a : Nat → Int) (B : BC) : Prop := a 0 = B.1 ∧ a 1 = B.2.1 ∧ a 2 = B.2.2.2.2.1 ∧ (∀ j : Nat, j < 6 → a (3 + 2 * j) = B.2.2.2.2.2.1 j ∧ a (4 + 2 * j) = B.2.2.2.2.2.2 j) ∧ ∀ f : Nat, f < 36 → a (15 + f) = grF B.2.2.1 B.2.2.2.1 f
theorem BRW_of {F : Int × Int} {B : BC} {X : XT} (h : BDM F B X) (f0 : F.1 = 0) : BRW (fun i => X.1 9 i) B := ⟨h.1, h.2.1, h.2.2.1, h.2.2.2.1, (h.2.2.2.2.1 f0).1⟩
theorem grF_st {w p : Int64} {f : Nat} (hf : f < 64) : grF w (p &&& (w ^^^ (-1))) f = grF w p f := by
  unfold grF
  rw [tb_and, tb_not w hf]
  cases tb w f <;> cases tb p f <;> rfl
theorem BRW.st {a : Nat → Int} {B : BC} (h : BRW a B) : BRW a (bst B) := ⟨h.1, h.2.1, h.2.2.1, h.2.2.2.1, fun f hf => by
  show _ = grF B.2.2.1 (B.2.2.2.1 &&& (B.2.2.1 ^^^ (-1))) f
  rw [grF_st (by omega)]
  exact h.2.2.2.2 f hf⟩
def BZR (B : BC) : Prop := ∀ j : Nat, B.2.2.2.2.1 ≤ (j : Int) → B.2.2.2.2.2.1 j = 0 ∧ B.2.2.2.2.2.2 j = 0
theorem bmn_z {B : BC} {s v : Int} (h : BZR B) : BZR (bmn B s v) := by
  unfold bmn
  split
  · intro j hj
    have hj : B.2.2.2.2.1 + 1 ≤ (j : Int) := hj
    show upF B.2.2.2.2.2.1 B.2.2.2.2.1 s j = 0 ∧ upF B.2.2.2.2.2.2 B.2.2.2.2.1 v j = 0
    unfold upF
    rw [if_neg (by omega), if_neg (by omega)]
    exact h j (by omega)
  · exact h
theorem bLine_z {b : Nat → Int} {N s : Nat} {F : Int × Int} {B : BC} (h : BZR B) : BZR (bLine b N s F B).2.2.2 := by
  by_cases w0 : isW b N 0 s
  · rw [bL_0 w0, finB_B]
    exact h
  by_cases w1 : isW b N 1 s
  · rw [bL_1 w0 w1, finB_B]
    exact bmn_z h
  by_cases w2 : isW b N 2 s
  · rw [bL_2 w0 w1 w2, finB_B]
    exact h
  by_cases w3 : isW b N 3 s
  · rw [bL_3 w0 w1 w2 w3, finB_B]
    exact h
  rw [bL_4 w0 w1 w2 w3]
  exact h
theorem bRun_z {b : Nat → Int} {N : Nat} (m : Nat) : ∀ (s : Nat) (F : Int × Int) (B : BC), BZR B → BZR (bRun b N m s F B).2.2.2 := by
  induction m with
  | zero => exact fun s F B h => h
  | succ m ih =>
    intro s F B h
    by_cases k : tK b N s = 5
    · rw [bRun_E k]
      exact h
    · have t := bLine_z (b := b) (N := N) (s := s) (F := F) h
      cases q : (bLine b N s F B).1 with
      | true =>
        rw [bRun_y k q]
        exact ih _ _ _ t
      | false =>
        rw [bRun_n k q]
        exact t
theorem rnB_z {b : Nat → Int} {N : Nat} : BZR (rnB b N).2.2.2 := bRun_z 600 _ _ bZ (fun _ _ => ⟨rfl, rfl⟩)
theorem rnB_wf {b : Nat → Int} {N : Nat} (h : (txF b N 0).1 = 0) : WFB (rnB b N).2.2.2 := txB_wf h
def WFG (G : GC) : Prop := ∀ k, k < 30 → -1 ≤ G.2.2 k ∧ G.2.2 k ≤ 35
theorem gmv_wf {G : GC} {r : Int64} {v : Int} (h : WFG G) (v0 : -1 ≤ v) (v1 : v ≤ 35) : WFG (gmv G r v) := by
  unfold gmv
  split
  · intro k hk
    show -1 ≤ upF G.2.2 G.1 v k ∧ upF G.2.2 G.1 v k ≤ 35
    unfold upF
    split
    · exact ⟨v0, v1⟩
    · exact h k hk
  · exact h
theorem finG_F {b : Nat → Int} {N s : Nat} {F : Int × Int} {G : GC} : (finG b N s F G).2.2.1 = F := by
  unfold finG
  split <;> rfl
theorem gF3 {F : Int × Int} {G : GC} {s : Nat} (h : (if G.1 = 30 then ntF F 3 s else F).1 = 0) : F.1 = 0 := by
  split at h
  · exact (ntF_0 (by omega) h).elim
  · exact h
theorem gLine_wf {b : Nat → Int} {N s : Nat} {F : Int × Int} {G : GC} (h : (gLine b N s F G).1 = true) (hG : F.1 = 0 → WFG G) (h0 : (gLine b N s F G).2.2.1.1 = 0) : WFG (gLine b N s F G).2.2.2 := by
  by_cases w4 : isW b N 4 s
  · by_cases r : tr b N (nx b N s)
    · by_cases w5 : isW b N 5 (nx b N (nx b N s))
      · by_cases v : tnV b N (nx b N (nx b N (nx b N s))) = -1
        · rw [gL_gn w4 r w5 v] at h
          cases h
        · rw [gL_gy w4 r w5 v, finG_F] at h0
          rw [gL_gy w4 r w5 v, finG_G]
          have t := tnF_0 h0
          have q := t.2 v
          exact gmv_wf (hG (gF3 t.1)) (by omega) q.2
      · rw [gL_y w4 r w5, finG_F] at h0
        rw [gL_y w4 r w5, finG_G]
        exact gmv_wf (hG (gF3 h0)) (by omega) (by omega)
    · rw [gL_nr w4 r] at h
      cases h
  · rw [gL_no w4] at h
    cases h
theorem gRun_wf {b : Nat → Int} {N : Nat} (m : Nat) : ∀ (s : Nat) (F : Int × Int) (G : GC), (F.1 = 0 → WFG G) → (gRun b N m s F G).1 = true → (gRun b N m s F G).2.2.1.1 = 0 → WFG (gRun b N m s F G).2.2.2 := by
  induction m with
  | zero => exact fun s F G h _ h0 => h h0
  | succ m ih =>
    intro s F G h h1 h0
    by_cases k : tK b N s = 5
    · rw [gRun_E k] at h0 ⊢
      exact h h0
    · cases q : (gLine b N s F G).1 with
      | true =>
        rw [gRun_y k q] at h1 h0 ⊢
        exact ih _ _ _ (fun g => gLine_wf q h g) h1 h0
      | false =>
        rw [gRun_n k q, q] at h1
        cases h1
theorem txG_wf {b : Nat → Int} {N : Nat} (h : (txF b N 2).1 = 0) : WFG (txG b N) := by
  have h1 := fG_0 h
  have h2 : (rnG b N).2.2.1.1 = 0 := by
    have e : fG (rnG b N) = (rnG b N).2.2.1 := if_neg (by rw [h1]; decide)
    rw [← e]
    exact h
  exact gRun_wf 600 _ _ gZ (fun _ k _ => ⟨by show (-1 : Int) ≤ 0; decide, by show (0 : Int) ≤ 35; decide⟩) h1 h2
/-- a row of ints that fits a cell's intervals from place p on -/
def fits (k p n : Nat) (a : Nat → Int) : Prop := ∀ i, i < n → ∀ q, gI vM k (p + i) = some q → q.1 ≤ a i ∧ a i ≤ q.2
theorem per_s {k i : Nat} {p q : IV} (h : gI vM k i = some p) (hq : gI vM k i = some q) : q = p := by
  rw [h] at hq
  cases hq
  rfl
theorem fits_B {a : Nat → Int} {B : BC} (wf : WFB B) (z : BZR B) (h : BRW a B) : ∀ m, m < 2 → fits 6 (51 * m) 51 a := by
  intro m hm i hi q hq
  have c0 : ∀ m, m < 2 → gI vM 6 (51 * m + 0) = some (0, 6) ∧ gI vM 6 (51 * m + 1) = some (0, 6) ∧ gI vM 6 (51 * m + 2) = some (0, 6) := by decide +kernel
  have c1 : ∀ m, m < 2 → ∀ j, j < 6 → gI vM 6 (51 * m + (3 + 2 * j)) = some (0, 1) ∧ gI vM 6 (51 * m + (4 + 2 * j)) = some (0, 35) := by decide +kernel
  have c2 : ∀ m, m < 2 → ∀ f, f < 36 → gI vM 6 (51 * m + (15 + f)) = some (0, 2) := by decide +kernel
  by_cases i0 : i = 0
  · subst i0
    rw [per_s (c0 m hm).1 hq, h.1]
    have w1 := wf.1
    exact ⟨by show (0 : Int) ≤ B.1; omega, by show B.1 ≤ (6 : Int); omega⟩
  by_cases i1 : i = 1
  · subst i1
    rw [per_s (c0 m hm).2.1 hq, h.2.1]
    have w1 := wf.2.1
    exact ⟨by show (0 : Int) ≤ B.2.1; omega, by show B.2.1 ≤ (6 : Int); omega⟩
  by_cases i2 : i = 2
  · subst i2
    rw [per_s (c0 m hm).2.2 hq, h.2.2.1]
    exact wf.2.2.1
  by_cases i15 : i < 15
  · by_cases e : i % 2 = 1
    · obtain ⟨j, rfl⟩ : ∃ j, i = 3 + 2 * j := ⟨(i - 3) / 2, by omega⟩
      rw [per_s (c1 m hm j (by omega)).1 hq, (h.2.2.2.1 j (by omega)).1]
      by_cases g : (j : Int) < B.2.2.2.2.1
      · exact (wf.2.2.2 j g).1
      · rw [(z j (by omega)).1]
        exact ⟨by show (0 : Int) ≤ 0; decide, by show (0 : Int) ≤ 1; decide⟩
    · obtain ⟨j, rfl⟩ : ∃ j, i = 4 + 2 * j := ⟨(i - 4) / 2, by omega⟩
      rw [per_s (c1 m hm j (by omega)).2 hq, (h.2.2.2.1 j (by omega)).2]
      by_cases g : (j : Int) < B.2.2.2.2.1
      · exact (wf.2.2.2 j g).2
      · rw [(z j (by omega)).2]
        exact ⟨by show (0 : Int) ≤ 0; decide, by show (0 : Int) ≤ 35; decide⟩
  · obtain ⟨f, rfl⟩ : ∃ f, i = 15 + f := ⟨i - 15, by omega⟩
    rw [per_s (c2 m hm f (by omega)) hq, h.2.2.2.2 f (by omega)]
    unfold grF
    split
    · exact ⟨by show (0 : Int) ≤ 1; decide, by show (1 : Int) ≤ 2; decide⟩
    · split
      · exact ⟨by show (0 : Int) ≤ 2; decide, by show (2 : Int) ≤ 2; decide⟩
      · exact ⟨by show (0 : Int) ≤ 0; decide, by show (0 : Int) ≤ 2; decide⟩
def GRW (a : Nat → Int) (G : GC) : Prop := a 0 = G.1 ∧ (0 ≤ G.1 ∧ G.1 ≤ 30) ∧ ∀ k, k < 30 → a (1 + 11 * k) = G.2.2 k ∧ RLM (G.2.1 k) (fun i => a (2 + 11 * k + i)) ∧ ∀ i, i < 10 → 0 ≤ a (2 + 11 * k + i) ∧ a (2 + 11 * k + i) ≤ 10
theorem fits_G {a : Nat → Int} {G : GC} (wf : WFG G) (h : GRW a G) : ∀ m, m < 2 → fits 8 (331 * m) 331 a := by
  intro m hm i hi q hq
  have c0 : ∀ m, m < 2 → gI vM 8 (331 * m + 0) = some (0, 30) := by decide +kernel
  have c1 : ∀ m, m < 2 → ∀ k, k < 30 → gI vM 8 (331 * m + (1 + 11 * k)) = some (-1, 35) ∧ gI vM 8 (331 * m + (2 + 11 * k + 0)) = some (0, 9) := by decide +kernel
  have c2 : ∀ m, m < 2 → ∀ k, k < 30 → ∀ r, r < 10 → r = 0 ∨ gI vM 8 (331 * m + (2 + 11 * k + r)) = some (0, 10) := by decide +kernel
  by_cases i0 : i = 0
  · subst i0
    rw [per_s (c0 m hm) hq, h.1]
    exact h.2.1
  by_cases e : (i - 1) % 11 = 0
  · obtain ⟨k, rfl⟩ : ∃ k, i = 1 + 11 * k := ⟨(i - 1) / 11, by omega⟩
    rw [per_s (c1 m hm k (by omega)).1 hq, (h.2.2 k (by omega)).1]
    exact wf k (by omega)
  · obtain ⟨k, r, rfl, hr⟩ : ∃ k r, i = 2 + 11 * k + r ∧ r < 10 := ⟨(i - 1) / 11, (i - 1) % 11 - 1, by omega, by omega⟩
    have b := (h.2.2 k (by omega)).2
    by_cases r0 : r = 0
    · subst r0
      rw [per_s (c1 m hm k (by omega)).2 hq]
      obtain ⟨c, j, h1, h2, h3, h4⟩ := b.1
      have h3 : a (2 + 11 * k + 0) = (j : Int) := h3
      rw [h3]
      exact ⟨by show (0 : Int) ≤ (j : Int); omega, by show (j : Int) ≤ 9; omega⟩
    · rw [per_s ((c2 m hm k (by omega) r hr).resolve_left r0) hq]
      exact b.2 r hr
theorem fits_R {X : XT} {a : Nat → Int} (hH : HG vM X) (h : ∀ i, i < 10 → a i = X.1 10 i) : ∀ m, m < 3 → fits 7 (10 * m) 10 a := by
  intro m hm i hi q hq
  have c0 : ∀ m, m < 3 → ∀ i, i < 10 → gI vM 7 (10 * m + i) = gI vM 10 i := by decide +kernel
  have c1 : ∀ i, i < 10 → plK vM 10 i = 0 := by decide +kernel
  rw [c0 m hm i hi] at hq
  rw [h i hi]
  exact hH.1 10 i q (c1 i hi) hq
