/-! ===== what holds of what was read ===== -/
def FBD (N : Nat) (F : Int × Int) : Prop := 0 ≤ F.1 ∧ F.1 ≤ 4 ∧ -1 ≤ F.2 ∧ F.2 ≤ (N : Int)
theorem ntF_bd {N s : Nat} {F : Int × Int} {f : Int} (h : FBD N F) (f0 : 1 ≤ f) (f1 : f ≤ 4) (hs : s ≤ N) : FBD N (ntF F f s) := by
  unfold ntF
  split
  · exact ⟨by show 0 ≤ f; omega, f1, by show (-1 : Int) ≤ (s : Int); omega, by show (s : Int) ≤ N; omega⟩
  · exact h
theorem tnF_bd {b : Nat → Int} {N s : Nat} {F : Int × Int} {lo hi : Int} (h : FBD N F) (hs : s ≤ N) : FBD N (tnF b N lo hi s F) := by
  unfold tnF
  split
  · split
    · exact ntF_bd h (by omega) (by omega) hs
    · exact h
  · exact h
theorem rF_bF {b : Nat → Int} {N : Nat} (m : Nat) : ∀ (s : Nat) (F : Int × Int) (w : Int64), s ≤ N → FBD N F → FBD N (rF b N m s F w).2.1 := by
  induction m with
  | zero => exact fun s F w _ h => h
  | succ m ih =>
    intro s F w hs h
    by_cases k : tK b N s = 2
    · rw [rF_S k]
      exact ih _ _ _ (nx_bd b N s hs).2.1 (tnF_bd h hs)
    · rw [rF_E k]
      exact h
theorem finB_bd {b : Nat → Int} {N : Nat} {ok : Prop} {d : Decidable ok} {s : Nat} {F : Int × Int} {B : BC} (hs : s ≤ N) (h : FBD N F) : (finB b N ok d s F B).2.1 ≤ N ∧ FBD N (finB b N ok d s F B).2.2.1 := by
  unfold finB
  split
  · exact ⟨(nx_bd b N s hs).2.1, h⟩
  · exact ⟨hs, h⟩
theorem bLine_bd {b : Nat → Int} {N s : Nat} {F : Int × Int} {B : BC} (hs : s ≤ N) (h : FBD N F) : (bLine b N s F B).2.1 ≤ N ∧ FBD N (bLine b N s F B).2.2.1 := by
  have h1 := (nx_bd b N s hs).2.1
  have h2 := (tnS_bd b N _ h1).2
  have h3 := (tnS_bd b N _ h2).2
  by_cases w0 : isW b N 0 s
  · rw [bL_0 w0]
    exact finB_bd h3 (tnF_bd (tnF_bd h h1) h2)
  by_cases w1 : isW b N 1 s
  · rw [bL_1 w0 w1]
    refine finB_bd h3 (tnF_bd (tnF_bd ?_ h1) h2)
    split
    · exact ntF_bd h (by omega) (by omega) hs
    · exact h
  by_cases w2 : isW b N 2 s
  · rw [bL_2 w0 w1 w2]
    exact finB_bd (rF_bd _ _ _ _ h1).2 (rF_bF _ _ _ _ h1 h)
  by_cases w3 : isW b N 3 s
  · rw [bL_3 w0 w1 w2 w3]
    exact finB_bd (rF_bd _ _ _ _ h1).2 (rF_bF _ _ _ _ h1 h)
  rw [bL_4 w0 w1 w2 w3]
  exact ⟨hs, h⟩
theorem finG_bd {b : Nat → Int} {N s : Nat} {F : Int × Int} {G : GC} (hs : s ≤ N) (h : FBD N F) : (finG b N s F G).2.1 ≤ N ∧ FBD N (finG b N s F G).2.2.1 := by
  unfold finG
  split
  · exact ⟨(nx_bd b N s hs).2.1, h⟩
  · exact ⟨hs, h⟩
theorem gLine_bd {b : Nat → Int} {N s : Nat} {F : Int × Int} {G : GC} (hs : s ≤ N) (h : FBD N F) : (gLine b N s F G).2.1 ≤ N ∧ FBD N (gLine b N s F G).2.2.1 := by
  have h1 := (nx_bd b N s hs).2.1
  have h2 := (nx_bd b N _ h1).2.1
  have h3 := (nx_bd b N _ h2).2.1
  have h4 := (tnS_bd b N _ h3).2
  have hF : FBD N (if G.1 = 30 then ntF F 3 s else F) := by
    split
    · exact ntF_bd h (by omega) (by omega) hs
    · exact h
  by_cases w4 : isW b N 4 s
  · by_cases r : tr b N (nx b N s)
    · by_cases w5 : isW b N 5 (nx b N (nx b N s))
      · by_cases v : tnV b N (nx b N (nx b N (nx b N s))) = -1
        · rw [gL_gn w4 r w5 v]
          exact ⟨h3, hF⟩
        · rw [gL_gy w4 r w5 v]
          exact finG_bd h4 (tnF_bd hF h3)
      · rw [gL_y w4 r w5]
        exact finG_bd h2 hF
    · rw [gL_nr w4 r]
      exact ⟨h1, hF⟩
  · rw [gL_no w4]
    exact ⟨hs, h⟩
theorem bRun_bd {b : Nat → Int} {N : Nat} (m : Nat) : ∀ (s : Nat) (F : Int × Int) (B : BC), s ≤ N → FBD N F → (bRun b N m s F B).2.1 ≤ N ∧ FBD N (bRun b N m s F B).2.2.1 := by
  induction m with
  | zero => exact fun s F B hs h => ⟨hs, h⟩
  | succ m ih =>
    intro s F B hs h
    by_cases k : tK b N s = 5
    · rw [bRun_E k]
      exact ⟨hs, h⟩
    · have t := bLine_bd (b := b) (B := B) hs h
      cases q : (bLine b N s F B).1 with
      | true =>
        rw [bRun_y k q]
        exact ih _ _ _ t.1 t.2
      | false =>
        rw [bRun_n k q]
        exact t
theorem gRun_bd {b : Nat → Int} {N : Nat} (m : Nat) : ∀ (s : Nat) (F : Int × Int) (G : GC), s ≤ N → FBD N F → (gRun b N m s F G).2.1 ≤ N ∧ FBD N (gRun b N m s F G).2.2.1 := by
  induction m with
  | zero => exact fun s F B hs h => ⟨hs, h⟩
  | succ m ih =>
    intro s F B hs h
    by_cases k : tK b N s = 5
    · rw [gRun_E k]
      exact ⟨hs, h⟩
    · have t := gLine_bd (b := b) (G := B) hs h
      cases q : (gLine b N s F B).1 with
      | true =>
        rw [gRun_y k q]
        exact ih _ _ _ t.1 t.2
      | false =>
        rw [gRun_n k q]
        exact t
theorem fB_bd {N : Nat} {r : Bool × Nat × (Int × Int) × BC} (hs : r.2.1 ≤ N) (h : FBD N r.2.2.1) : FBD N (fB N r) := by
  unfold fB
  split
  · exact ⟨by show (0 : Int) ≤ 1; decide, by show (1 : Int) ≤ 4; decide, by show (-1 : Int) ≤ (r.2.1 : Int); omega, by show (r.2.1 : Int) ≤ N; omega⟩
  · split
    · exact ⟨by show (0 : Int) ≤ 4; decide, by show (4 : Int) ≤ 4; decide, by show (-1 : Int) ≤ (N : Int); omega, Int.le_refl _⟩
    · exact h
theorem fG_bd {N : Nat} {r : Bool × Nat × (Int × Int) × GC} (hs : r.2.1 ≤ N) (h : FBD N r.2.2.1) : FBD N (fG r) := by
  unfold fG
  split
  · exact ⟨by show (0 : Int) ≤ 1; decide, by show (1 : Int) ≤ 4; decide, by show (-1 : Int) ≤ (r.2.1 : Int); omega, by show (r.2.1 : Int) ≤ N; omega⟩
  · exact h
theorem fR_bd {b : Nat → Int} {N : Nat} : FBD N (fR b N) := by
  have h0 := (tS_bd b N 0 (Nat.zero_le N)).2
  have h1 := (nx_bd b N _ h0).2.1
  by_cases t : tr b N (tS b N 0)
  · by_cases k : tK b N (nx b N (tS b N 0)) = 5
    · rw [fR_5 t k]
      exact ⟨by decide, by decide, by decide, by show (-1 : Int) ≤ (N : Int); omega⟩
    · rw [fR_x t k]
      exact ⟨by show (0 : Int) ≤ 1; decide, by show (1 : Int) ≤ 4; decide, by show (-1 : Int) ≤ ((nx b N (tS b N 0) : Nat) : Int); omega, by show ((nx b N (tS b N 0) : Nat) : Int) ≤ N; omega⟩
  · rw [fR_n t]
    exact ⟨by show (0 : Int) ≤ 1; decide, by show (1 : Int) ≤ 4; decide, by show (-1 : Int) ≤ ((tS b N 0 : Nat) : Int); omega, by show ((tS b N 0 : Nat) : Int) ≤ N; omega⟩
theorem F0_bd {N : Nat} : FBD N (0, -1) := ⟨by decide, by decide, by decide, by show (-1 : Int) ≤ (N : Int); omega⟩
/-- a board without a fault -/
def WFB (B : BC) : Prop := (2 ≤ B.1 ∧ B.1 ≤ 6) ∧ (2 ≤ B.2.1 ∧ B.2.1 ≤ 6) ∧ (0 ≤ B.2.2.2.2.1 ∧ B.2.2.2.2.1 ≤ 6) ∧ ∀ j : Nat, (j : Int) < B.2.2.2.2.1 → (0 ≤ B.2.2.2.2.2.1 j ∧ B.2.2.2.2.2.1 j ≤ 1) ∧ 0 ≤ B.2.2.2.2.2.2 j ∧ B.2.2.2.2.2.2 j ≤ 35
theorem ntF_0 {F : Int × Int} {f : Int} {s : Nat} (f1 : 1 ≤ f) (h : (ntF F f s).1 = 0) : False := by
  unfold ntF at h
  split at h
  · have : f = 0 := h
    omega
  · contradiction
theorem tnF_0 {b : Nat → Int} {N s : Nat} {F : Int × Int} {lo hi : Int} (h : (tnF b N lo hi s F).1 = 0) : F.1 = 0 ∧ (tnV b N s ≠ -1 → lo ≤ tnV b N s ∧ tnV b N s ≤ hi) := by
  unfold tnF at h
  unfold tnV
  split at h
  · rename_i k
    rw [if_pos k]
    split at h
    · exact (ntF_0 (by omega) h).elim
    · exact ⟨h, fun _ => by omega⟩
  · rename_i k
    rw [if_neg k]
    exact ⟨h, fun g => absurd rfl g⟩
theorem rF_0 {b : Nat → Int} {N : Nat} (m : Nat) : ∀ (s : Nat) (F : Int × Int) (w : Int64), (rF b N m s F w).2.1.1 = 0 → F.1 = 0 := by
  induction m with
  | zero => exact fun s F w h => h
  | succ m ih =>
    intro s F w h
    by_cases k : tK b N s = 2
    · rw [rF_S k] at h
      exact (tnF_0 (ih _ _ _ h)).1
    · rw [rF_E k] at h
      exact h
theorem finB_t {b : Nat → Int} {N : Nat} {ok : Prop} {d : Decidable ok} {s : Nat} {F : Int × Int} {B : BC} (h : (finB b N ok d s F B).1 = true) : ok ∧ tK b N s = 3 ∧ finB b N ok d s F B = (true, nx b N s, F, B) := by
  unfold finB at h ⊢
  split
  · rename_i q
    exact ⟨q.1, q.2, rfl⟩
  · rename_i q
    rw [if_neg q] at h
    cases h
theorem bmn_wf {B : BC} {s f : Int} (h : WFB B) (s0 : 0 ≤ s ∧ s ≤ 1) (f0 : 0 ≤ f ∧ f ≤ 35) : WFB (bmn B s f) := by
  unfold bmn
  split
  · rename_i q
    refine ⟨h.1, h.2.1, ⟨by show 0 ≤ B.2.2.2.2.1 + 1; have := h.2.2.1.1; omega, by show B.2.2.2.2.1 + 1 ≤ 6; omega⟩, fun j hj => ?_⟩
    have hj : (j : Int) < B.2.2.2.2.1 + 1 := hj
    show (0 ≤ upF B.2.2.2.2.2.1 B.2.2.2.2.1 s j ∧ upF B.2.2.2.2.2.1 B.2.2.2.2.1 s j ≤ 1) ∧ 0 ≤ upF B.2.2.2.2.2.2 B.2.2.2.2.1 f j ∧ upF B.2.2.2.2.2.2 B.2.2.2.2.1 f j ≤ 35
    unfold upF
    by_cases e : (j : Int) = B.2.2.2.2.1
    · rw [if_pos e, if_pos e]
      exact ⟨s0, f0⟩
    · rw [if_neg e, if_neg e]
      exact h.2.2.2 j (by omega)
  · exact h
theorem bLine_wf {b : Nat → Int} {N s : Nat} {F : Int × Int} {B : BC} (h : (bLine b N s F B).1 = true) (hB : F.1 = 0 → WFB B) (h0 : (bLine b N s F B).2.2.1.1 = 0) : WFB (bLine b N s F B).2.2.2 := by
  by_cases w0 : isW b N 0 s
  · rw [bL_0 w0] at h h0 ⊢
    obtain ⟨ok, k, e⟩ := finB_t h
    rw [e] at h0 ⊢
    have t1 := tnF_0 h0
    have t2 := tnF_0 t1.1
    have := hB t2.1
    exact ⟨t2.2 ok.1, t1.2 ok.2, this.2.2⟩
  by_cases w1 : isW b N 1 s
  · rw [bL_1 w0 w1] at h h0 ⊢
    obtain ⟨ok, k, e⟩ := finB_t h
    rw [e] at h0 ⊢
    have t1 := tnF_0 h0
    have t2 := tnF_0 t1.1
    by_cases m6 : B.2.2.2.2.1 = 6
    · have t3 := t2.1
      rw [if_pos m6] at t3
      exact (ntF_0 (by omega) t3).elim
    · have t3 := t2.1
      rw [if_neg m6] at t3
      exact bmn_wf (hB t3) (t2.2 ok.1) (t1.2 ok.2)
  by_cases w2 : isW b N 2 s
  · rw [bL_2 w0 w1 w2] at h h0 ⊢
    obtain ⟨ok, k, e⟩ := finB_t h
    rw [e] at h0 ⊢
    exact hB (rF_0 _ _ _ _ h0)
  by_cases w3 : isW b N 3 s
  · rw [bL_3 w0 w1 w2 w3] at h h0 ⊢
    obtain ⟨ok, k, e⟩ := finB_t h
    rw [e] at h0 ⊢
    exact hB (rF_0 _ _ _ _ h0)
  rw [bL_4 w0 w1 w2 w3] at h
  cases h
theorem bRun_wf {b : Nat → Int} {N : Nat} (m : Nat) : ∀ (s : Nat) (F : Int × Int) (B : BC), (F.1 = 0 → WFB B) → (bRun b N m s F B).1 = true → (bRun b N m s F B).2.2.1.1 = 0 → WFB (bRun b N m s F B).2.2.2 := by
  induction m with
  | zero => exact fun s F B h _ h0 => h h0
  | succ m ih =>
    intro s F B h h1 h0
    by_cases k : tK b N s = 5
    · rw [bRun_E k] at h0 ⊢
      exact h h0
    · cases q : (bLine b N s F B).1 with
      | true =>
        rw [bRun_y k q] at h1 h0 ⊢
        exact ih _ _ _ (fun g => bLine_wf q h g) h1 h0
      | false =>
        rw [bRun_n k q, q] at h1
        cases h1
theorem fB_0 {N : Nat} {r : Bool × Nat × (Int × Int) × BC} (h : (fB N r).1 = 0) : r.1 = true ∧ r.2.2.1.1 = 0 ∧ bSound (bst r.2.2.2) = true := by
  unfold fB at h
  split at h
  · have : (1 : Int) = 0 := h
    omega
  · rename_i q
    split at h
    · have : (4 : Int) = 0 := h
      omega
    · rename_i q2
      refine ⟨by cases e : r.1 with | true => rfl | false => exact absurd e q, h, ?_⟩
      cases e : bSound (bst r.2.2.2) with
      | true => rfl
      | false => exact absurd ⟨h, e⟩ q2
theorem fG_0 {r : Bool × Nat × (Int × Int) × GC} (h : (fG r).1 = 0) : r.1 = true := by
  unfold fG at h
  split at h
  · have : (1 : Int) = 0 := h
    omega
  · rename_i q
    cases e : r.1 with
    | true => rfl
    | false => exact absurd e q
theorem fR_0 {b : Nat → Int} {N : Nat} (h : (fR b N).1 = 0) : tr b N (tS b N 0) := by
  by_cases t : tr b N (tS b N 0)
  · exact t
  · rw [fR_n t] at h
    have : (1 : Int) = 0 := h
    omega
theorem b0_wf (X : XT) : WFB (b0 X) := ⟨⟨by show (2 : Int) ≤ 4; decide, by show (4 : Int) ≤ 6; decide⟩, ⟨by show (2 : Int) ≤ 4; decide, by show (4 : Int) ≤ 6; decide⟩, ⟨Int.le_refl _, by show (0 : Int) ≤ 6; decide⟩, fun j hj => by
  have : (j : Int) < 0 := hj
  omega⟩
theorem rB_wf {b : Nat → Int} {N : Nat} {X : XT} (h : (fB N (bRun b N 600 (tS b N 0) (0, -1) (b0 X))).1 = 0) : WFB (bRun b N 600 (tS b N 0) (0, -1) (b0 X)).2.2.2 := by
  have t := fB_0 h
  exact bRun_wf 600 _ _ _ (fun _ => b0_wf X) t.1 t.2.1
theorem gRun_mb {b : Nat → Int} {N : Nat} (m : Nat) : ∀ (s : Nat) (F : Int × Int) (G : GC), (0 ≤ G.1 ∧ G.1 ≤ 30) → 0 ≤ (gRun b N m s F G).2.2.2.1 ∧ (gRun b N m s F G).2.2.2.1 ≤ 30 := by
  induction m with
  | zero => exact fun s F G h => h
  | succ m ih =>
    intro s F G h
    by_cases k : tK b N s = 5
    · rw [gRun_E k]
      exact h
    · have t := gLine_mb (b := b) (N := N) (s := s) (F := F) h
      cases q : (gLine b N s F G).1 with
      | true =>
        rw [gRun_y k q]
        exact ih _ _ _ t
      | false =>
        rw [gRun_n k q]
        exact t
theorem cpI_2 {X : XT} {k0 k1 sp dp n : Nat} : (cpI X k0 k1 sp dp n).2 = X.2 := rfl
theorem cpL_1 {X : XT} {k0 k1 sp dp n : Nat} : (cpL X k0 k1 sp dp n).1 = X.1 := rfl
theorem cpL_o1 {X : XT} {k0 k1 sp dp n a b : Nat} (h : a ≠ k1) : (cpL X k0 k1 sp dp n).2.1 a b = X.2.1 a b := by
  show cond (Nat.beq a k1) _ (X.2.1 a b) = X.2.1 a b
  rw [beq_ne h]
  rfl
theorem cpL_r {X : XT} {k0 k1 j : Nat} {n : Int} (h : j < n.toNat) : (cpL X k0 k1 (Int.toNat 0) (Int.toNat 0) n.toNat).2.1 k1 j = X.2.1 k0 j := by
  rw [cpL_s]
  unfold va_cpy
  rw [if_pos ⟨Nat.zero_le _, by show j < 0 + n.toNat; omega⟩]
  show X.2.1 k0 (0 + (j - 0)) = X.2.1 k0 j
  rw [Nat.sub_zero, Nat.zero_add]
theorem FR.cpL {md : List (Nat × Option Nat)} {X0 X : XT} {k0 k1 sp dp n : Nat} (h : FR md X0 X) (hm : ∀ i, inM md k1 i = true) : FR md X0 (cpL X k0 k1 sp dp n) := fun a b hab =>
  (h a b hab).tr ⟨rfl, cpL_o1 (fun e => by
    subst e
    rw [hm b] at hab
    cases hab), rfl⟩
