/-! ===== where the reference holds what it reads ===== -/
abbrev mmTM : List (Nat × Option Nat) := [(0, some 9), (0, some 11), (0, some 12), (0, some 13), (0, some 14)]
abbrev mmLT : List (Nat × Option Nat) := [(0, some 16), (0, some 17)]
abbrev mmWR : List (Nat × Option Nat) := [(0, some 15)]
abbrev mmTK : List (Nat × Option Nat) := [(0, some 9), (0, some 11), (0, some 12), (0, some 13), (0, some 14), (0, some 16), (0, some 17), (0, some 15), (0, some 20)]
abbrev mmTF : List (Nat × Option Nat) := [(0, some 9), (0, some 11), (0, some 12), (0, some 13), (0, some 14), (0, some 16), (0, some 17), (0, some 15), (0, some 20), (0, some 21)]
abbrev mmTR : List (Nat × Option Nat) := [(0, some 9), (0, some 11), (0, some 12), (0, some 13), (0, some 14), (0, some 15), (10, none)]
def TPM (b : Nat → Int) (N : Nat) (X : XT) : Prop := X.1 0 10 = (N : Int) ∧ N ≤ 600 ∧ (∀ i, i < N → X.1 1 i % 256 = b i) ∧ ∀ i, i < N → 0 ≤ b i ∧ b i ≤ 255
def TKM (b : Nat → Int) (N s : Nat) (X : XT) : Prop := X.1 0 11 = (s : Int) ∧ X.1 0 12 = sK (tK b N s) ∧ X.1 0 9 = (tE b N s : Int) ∧ (tK b N s = 2 → X.1 0 13 = tV b N s) ∧ (tK b N s = 1 → X.2.1 0 14 = wdT b N s) ∧ s ≤ N ∧ 1 ≤ tK b N s
def FLM (F : Int × Int) (X : XT) : Prop := X.1 0 16 = F.1 ∧ (F.1 ≠ 0 → X.1 0 17 = F.2)
abbrev ftTPM : List (Nat × Option Nat) := [(0, some 10), (1, none)]
theorem TPM.fr {b : Nat → Int} {N : Nat} {md : List (Nat × Option Nat)} {X Y : XT} (h : TPM b N X) (hF : FR md X Y) (ho : ovl ftTPM md = false) : TPM b N Y :=
  ⟨by rw [(hF _ _ (ovl_no ho rfl)).1]; exact h.1, h.2.1, fun i hi => by rw [(hF _ _ (ovl_no ho rfl)).1]; exact h.2.2.1 i hi, h.2.2.2⟩
theorem TKM.fr {b : Nat → Int} {N s : Nat} {md : List (Nat × Option Nat)} {X Y : XT} (h : TKM b N s X) (hF : FR md X Y) (ho : ovl mmTM md = false) : TKM b N s Y :=
  ⟨by rw [(hF _ _ (ovl_no ho rfl)).1]; exact h.1, by rw [(hF _ _ (ovl_no ho rfl)).1]; exact h.2.1, by rw [(hF _ _ (ovl_no ho rfl)).1]; exact h.2.2.1, fun k => by rw [(hF _ _ (ovl_no ho rfl)).1]; exact h.2.2.2.1 k, fun k => by rw [(hF _ _ (ovl_no ho rfl)).2.1]; exact h.2.2.2.2.1 k, h.2.2.2.2.2.1, h.2.2.2.2.2.2⟩
theorem FLM.fr {F : Int × Int} {md : List (Nat × Option Nat)} {X Y : XT} (h : FLM F X) (hF : FR md X Y) (ho : ovl mmLT md = false) : FLM F Y :=
  ⟨by rw [(hF _ _ (ovl_no ho rfl)).1]; exact h.1, fun k => by rw [(hF _ _ (ovl_no ho rfl)).1]; exact h.2 k⟩
/-- a fault that is kept stands ahead of the token at hand -/
def FO (F : Int × Int) (s : Nat) : Prop := F.1 ≠ 0 → F.2 < (s : Int)
theorem FO.mono {F : Int × Int} {s t : Nat} (h : FO F s) (q : s ≤ t) : FO F t := fun k => by
  have := h k
  omega
theorem FO.nt {F : Int × Int} {f : Int} {s t : Nat} (h : FO F s) (q : s < t) : FO (ntF F f s) t := fun k => by
  unfold ntF at k ⊢
  split
  · show (s : Int) < t
    omega
  · rename_i g
    have := h g
    omega
theorem FO.tn {b : Nat → Int} {N s : Nat} {lo hi : Int} {F : Int × Int} (h : FO F s) (hs : s ≤ N) : FO (tnF b N lo hi s F) (tnS b N s) := by
  unfold tnF tnS
  split
  · rename_i k
    have := (nx_bd b N s hs).2.2 (tK_2 k).2.2
    split
    · exact h.nt this
    · exact h.mono (by omega)
  · exact h
