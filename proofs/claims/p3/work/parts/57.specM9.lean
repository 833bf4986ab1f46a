/-! ===== the reference reads a whole text ===== -/
abbrev mmRD : List (Nat × Option Nat) := [(0, some 9), (0, some 11), (0, some 12), (0, some 13), (0, some 14), (0, some 16), (0, some 17), (0, some 15), (0, some 20), (0, some 21), (10, none), (9, none), (3, some 0), (4, some 0)]
abbrev mmT0 : List (Nat × Option Nat) := [(0, some 9), (0, some 11), (0, some 12), (0, some 13), (0, some 14), (0, some 16), (0, some 17), (0, some 15), (0, some 20), (0, some 21), (10, none), (9, none), (3, some 0), (4, some 0), (0, some 0), (0, some 10), (2, some 0)]
abbrev mmWB : List (Nat × Option Nat) := [(0, some 9), (0, some 11), (0, some 12), (0, some 13), (0, some 14), (0, some 16), (0, some 17), (0, some 15), (0, some 20), (0, some 21), (10, none), (9, none), (3, some 0), (4, some 0), (0, some 0), (0, some 10), (2, some 0), (5, some 0), (6, none)]
abbrev mmWU : List (Nat × Option Nat) := [(0, some 9), (0, some 11), (0, some 12), (0, some 13), (0, some 14), (0, some 16), (0, some 17), (0, some 15), (0, some 20), (0, some 21), (10, none), (9, none), (3, some 0), (4, some 0), (0, some 0), (0, some 10), (2, some 0), (5, some 1), (7, none)]
abbrev mmWG : List (Nat × Option Nat) := [(0, some 9), (0, some 11), (0, some 12), (0, some 13), (0, some 14), (0, some 16), (0, some 17), (0, some 15), (0, some 20), (0, some 21), (10, none), (9, none), (3, some 0), (4, some 0), (0, some 0), (0, some 10), (2, some 0), (5, some 2), (8, none)]
theorem txF_fz {b : Nat → Int} {N : Nat} (st : Int) : FZ (txF b N st) := by
  unfold txF
  split
  · unfold fB
    split
    · intro h
      have h : (1 : Int) = 0 := h
      omega
    · split
      · intro h
        have h : (4 : Int) = 0 := h
        omega
      · exact rnB_fz
  · split
    · by_cases t : tr b N (tS b N 0)
      · by_cases k : tK b N (nx b N (tS b N 0)) = 5
        · rw [fR_5 t k]
          exact F0_fz
        · rw [fR_x t k]
          intro h
          have h : (1 : Int) = 0 := h
          omega
      · rw [fR_n t]
        intro h
        have h : (1 : Int) = 0 := h
        omega
    · unfold fG
      split
      · intro h
        have h : (1 : Int) = 0 := h
        omega
      · exact rnG_fz
theorem BDM_z {X : XT} (h0 : X.1 9 0 = 4) (h1 : X.1 9 1 = 4) (hz : ∀ i, 2 ≤ i → i < 331 → X.1 9 i = 0) (hg : X.1 0 21 = -1) : BDM (0, -1) bZ X := by
  have g1 : ∀ f : Nat, (tb bZ.2.2.1 f = true ∨ tb bZ.2.2.2.1 f = true) → (f : Int) ≤ X.1 0 21 := fun f hf => by
    exfalso
    rcases hf with hf | hf
    · rw [show tb bZ.2.2.1 f = false from tb_0 f] at hf
      cases hf
    · rw [show tb bZ.2.2.2.1 f = false from tb_0 f] at hf
      cases hf
  have g2 : ∀ j : Nat, (j : Int) < bZ.2.2.2.2.1 → bZ.2.2.2.2.2.2 j ≤ X.1 0 21 := fun j hj => by
    exfalso
    have hj : (j : Int) < 0 := hj
    omega
  have g3 : ∀ f : Nat, f < 36 → X.1 9 (15 + f) = grF bZ.2.2.1 bZ.2.2.2.1 f := fun f hf => by
    rw [hz _ (by omega) (by omega)]
    exact (grF_0.mpr ⟨tb_0 f, tb_0 f⟩).symm
  exact ⟨h0, h1, hz 2 (by omega) (by omega), fun j hj => ⟨hz _ (by omega) (by omega), hz _ (by omega) (by omega)⟩, fun _ => ⟨g3, g1, g2, .inl hg, by omega⟩, by omega, Int.le_refl _, by show (0 : Int) ≤ 6; decide⟩
theorem GDM_z {X : XT} (hz : ∀ i, i < 331 → X.1 9 i = 0) : GDM gZ X :=
  ⟨hz 0 (by omega), ⟨Int.le_refl _, by show (0 : Int) ≤ 30; decide⟩, fun k hk => ⟨hz _ (by omega), ⟨fun _ => 0, 0, by omega, rfl, hz _ (by omega), fun i hi => absurd hi (by omega)⟩, fun i hi => by
    rw [hz _ (by omega)]
    exact ⟨by decide, by decide⟩⟩⟩
theorem BRW.cg {a a1 : Nat → Int} {B : BC} (h : BRW a B) (e : ∀ i, i < 51 → a1 i = a i) : BRW a1 B :=
  ⟨by rw [e 0 (by omega)]; exact h.1, by rw [e 1 (by omega)]; exact h.2.1, by rw [e 2 (by omega)]; exact h.2.2.1, fun j hj => ⟨by rw [e _ (by omega)]; exact (h.2.2.2.1 j hj).1, by rw [e _ (by omega)]; exact (h.2.2.2.1 j hj).2⟩, fun f hf => by rw [e _ (by omega)]; exact h.2.2.2.2 f hf⟩
theorem GRW.cg {a a1 : Nat → Int} {G : GC} (h : GRW a G) (e : ∀ i, i < 331 → a1 i = a i) : GRW a1 G :=
  ⟨by rw [e 0 (by omega)]; exact h.1, h.2.1, fun k hk => ⟨by rw [e _ (by omega)]; exact (h.2.2 k hk).1, (h.2.2 k hk).2.1.cg (fun i hi => e _ (by omega)), fun i hi => by rw [e _ (by omega)]; exact (h.2.2 k hk).2.2 i hi⟩⟩
theorem fits.cg {k p n : Nat} {a a1 : Nat → Int} (h : fits k p n a) (e : ∀ i, i < n → a1 i = a i) : fits k p n a1 := fun i hi q hq => by
  rw [e i hi]
  exact h i hi q hq
theorem txF_By {b : Nat → Int} {N : Nat} (h1 : (rnB b N).1 = true) (hf : (rnB b N).2.2.1.1 ≠ 0 ∨ bSound (bst (rnB b N).2.2.2) = true) : txF b N 0 = (rnB b N).2.2.1 := fB_f (N := N) (o := (rnB b N).1) (s := (rnB b N).2.1) (F := (rnB b N).2.2.1) (B := (rnB b N).2.2.2) h1 hf
theorem txF_B4 {b : Nat → Int} {N : Nat} (h1 : (rnB b N).1 = true) (hf : (rnB b N).2.2.1.1 = 0) (hs : bSound (bst (rnB b N).2.2.2) = false) : txF b N 0 = (4, (N : Int)) := fB_4 (N := N) (o := (rnB b N).1) (s := (rnB b N).2.1) (F := (rnB b N).2.2.1) (B := (rnB b N).2.2.2) h1 hf hs
theorem txF_Bn {b : Nat → Int} {N : Nat} (h1 : (rnB b N).1 = false) : txF b N 0 = (1, ((rnB b N).2.1 : Int)) := fB_n (N := N) (o := (rnB b N).1) (s := (rnB b N).2.1) (F := (rnB b N).2.2.1) (B := (rnB b N).2.2.2) h1
theorem txF_Gy {b : Nat → Int} {N : Nat} (h1 : (rnG b N).1 = true) : txF b N 2 = (rnG b N).2.2.1 := fG_y (o := (rnG b N).1) (s := (rnG b N).2.1) (F := (rnG b N).2.2.1) (G := (rnG b N).2.2.2) h1
theorem txF_Gn {b : Nat → Int} {N : Nat} (h1 : (rnG b N).1 = false) : txF b N 2 = (1, ((rnG b N).2.1 : Int)) := fG_n (o := (rnG b N).1) (s := (rnG b N).2.1) (F := (rnG b N).2.2.1) (G := (rnG b N).2.2.2) h1
def FTM (F : Int × Int) (X : XT) : Prop := X.1 3 0 = F.1 ∧ X.1 4 0 = F.2
def roomM (X : XT) (st at_ : Int) : Prop := 0 ≤ st ∧ st ≤ 2 ∧ ((at_ = -1 ∧ X.1 5 st.toNat < (if st = 1 then 3 else 2)) ∨ (at_ ≠ -1 ∧ 0 ≤ at_ ∧ at_ < X.1 5 st.toNat))
def cntQ (X X1 : XT) (at_ : Int) (s : Nat) (k : Int) : Prop := (at_ = -1 ∧ X.1 5 s = k ∧ X1.1 5 s = k + 1) ∨ (at_ = k ∧ k < X.1 5 s ∧ X1.1 5 s = X.1 5 s)
def keepR (k w m : Nat) (X X1 : XT) : Prop := ∀ p, (p < w * m ∨ w * m + w ≤ p) → X1.1 k p = X.1 k p
/-- what the reference holds behind a text -/
def TXM (b : Nat → Int) (N : Nat) (X X1 : XT) (st at_ u : Int) : Prop := X1.1 2 0 = 0 ∧ ((u = -2 ∧ ¬ roomM X st at_ ∧ FR mmT0 X X1 ∧ FTM (0, -1) X1) ∨ (roomM X st at_ ∧ FTM (txF b N st) X1 ∧ ((u = -1 ∧ (txF b N st).1 ≠ 0 ∧ FR mmT0 X X1) ∨ ((txF b N st).1 = 0 ∧ ∃ m : Nat, u = (m : Int) ∧ cntQ X X1 at_ st.toNat (m : Int) ∧ ((st = 0 ∧ m < 2 ∧ FR mmWB X X1 ∧ keepR 6 51 m X X1 ∧ BRW (fun i => X1.1 6 (51 * m + i)) (txB b N)) ∨ (st = 1 ∧ m < 3 ∧ FR mmWU X X1 ∧ keepR 7 10 m X X1 ∧ RLM (txR b N) (fun i => X1.1 7 (10 * m + i))) ∨ (st = 2 ∧ m < 2 ∧ FR mmWG X X1 ∧ keepR 8 331 m X X1 ∧ GRW (fun i => X1.1 8 (331 * m + i)) (txG b N)))))))
