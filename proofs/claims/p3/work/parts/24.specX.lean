/-! ===== where the class holds what it reads ===== -/


abbrev mdAD : List (Nat × Option Nat) := [(21, some 8), (21, some 7), (21, some 9), (21, some 10)]
abbrev mdNT : List (Nat × Option Nat) := [(21, some 3), (21, some 4)]
abbrev mdTN : List (Nat × Option Nat) := [(21, some 3), (21, some 4), (21, some 8), (21, some 7), (21, some 9), (21, some 10)]
abbrev ftTP : List (Nat × Option Nat) := [(21, some 5), (21, some 6), (2, none)]
abbrev ftTK : List (Nat × Option Nat) := mdAD
abbrev ftFL : List (Nat × Option Nat) := mdNT
abbrev ftBD : List (Nat × Option Nat) := [(22, some 0), (22, some 1), (22, some 2), (22, some 3), (22, some 4), (23, none), (24, none)]
abbrev ftGM : List (Nat × Option Nat) := [(25, some 0), (26, none), (27, none)]
abbrev mdTR : List (Nat × Option Nat) := [(21, some 8), (21, some 7), (21, some 9), (21, some 10), (21, some 2)]
abbrev mdBL : List (Nat × Option Nat) := [(21, some 3), (21, some 4), (21, some 8), (21, some 7), (21, some 9), (21, some 10), (22, some 0), (22, some 1), (22, some 2), (22, some 3), (22, some 4), (23, none), (24, none)]
abbrev mdGL : List (Nat × Option Nat) := [(21, some 3), (21, some 4), (21, some 8), (21, some 7), (21, some 9), (21, some 10), (21, some 2), (25, some 0), (26, none), (27, none)]
abbrev mdMN : List (Nat × Option Nat) := [(22, some 4), (23, none), (24, none)]
abbrev mdMV : List (Nat × Option Nat) := [(25, some 0), (26, none), (27, none)]
def TPX (b : Nat → Int) (N : Nat) (X : XT) : Prop := X.2.2 21 5 = some 2 ∧ X.1 21 6 = (N : Int) ∧ N ≤ 600 ∧ ∀ i, i < N → X.1 2 i = b i
def TKX (b : Nat → Int) (N s : Nat) (X : XT) : Prop := X.1 21 8 = (s : Int) ∧ X.1 21 7 = tK b N s ∧ X.1 21 9 = (tE b N s : Int) ∧ X.1 21 10 = tV b N s ∧ s ≤ N
def FLX (F : Int × Int) (X : XT) : Prop := X.1 21 3 = F.1 ∧ X.1 21 4 = F.2
def BDX (B : BC) (X : XT) : Prop := X.1 22 0 = B.1 ∧ X.1 22 1 = B.2.1 ∧ X.2.1 22 2 = B.2.2.1 ∧ X.2.1 22 3 = B.2.2.2.1 ∧ X.1 22 4 = B.2.2.2.2.1 ∧ ∀ j, j < 6 → X.1 23 j = B.2.2.2.2.2.1 j ∧ X.1 24 j = B.2.2.2.2.2.2 j
def GMX (G : GC) (X : XT) : Prop := X.1 25 0 = G.1 ∧ ∀ j, j < 30 → X.2.1 26 j = G.2.1 j ∧ X.1 27 j = G.2.2 j
theorem TPX.fr {b : Nat → Int} {N : Nat} {md : List (Nat × Option Nat)} {X Y : XT} (h : TPX b N X) (hF : FR md X Y) (ho : ovl ftTP md = false) : TPX b N Y :=
  ⟨by rw [(hF _ _ (ovl_no ho rfl)).2.2]; exact h.1, by rw [(hF _ _ (ovl_no ho rfl)).1]; exact h.2.1, h.2.2.1, fun i hi => by rw [(hF _ _ (ovl_no ho rfl)).1]; exact h.2.2.2 i hi⟩
theorem TKX.fr {b : Nat → Int} {N s : Nat} {md : List (Nat × Option Nat)} {X Y : XT} (h : TKX b N s X) (hF : FR md X Y) (ho : ovl ftTK md = false) : TKX b N s Y :=
  ⟨by rw [(hF _ _ (ovl_no ho rfl)).1]; exact h.1, by rw [(hF _ _ (ovl_no ho rfl)).1]; exact h.2.1, by rw [(hF _ _ (ovl_no ho rfl)).1]; exact h.2.2.1, by rw [(hF _ _ (ovl_no ho rfl)).1]; exact h.2.2.2.1, h.2.2.2.2⟩
theorem FLX.fr {F : Int × Int} {md : List (Nat × Option Nat)} {X Y : XT} (h : FLX F X) (hF : FR md X Y) (ho : ovl ftFL md = false) : FLX F Y :=
  ⟨by rw [(hF _ _ (ovl_no ho rfl)).1]; exact h.1, by rw [(hF _ _ (ovl_no ho rfl)).1]; exact h.2⟩
theorem BDX.fr {B : BC} {md : List (Nat × Option Nat)} {X Y : XT} (h : BDX B X) (hF : FR md X Y) (ho : ovl ftBD md = false) : BDX B Y :=
  ⟨by rw [(hF _ _ (ovl_no ho rfl)).1]; exact h.1, by rw [(hF _ _ (ovl_no ho rfl)).1]; exact h.2.1, by rw [(hF _ _ (ovl_no ho rfl)).2.1]; exact h.2.2.1, by rw [(hF _ _ (ovl_no ho rfl)).2.1]; exact h.2.2.2.1, by rw [(hF _ _ (ovl_no ho rfl)).1]; exact h.2.2.2.2.1, fun j hj => ⟨by rw [(hF _ _ (ovl_no ho rfl)).1]; exact (h.2.2.2.2.2 j hj).1, by rw [(hF _ _ (ovl_no ho rfl)).1]; exact (h.2.2.2.2.2 j hj).2⟩⟩
theorem GMX.fr {G : GC} {md : List (Nat × Option Nat)} {X Y : XT} (h : GMX G X) (hF : FR md X Y) (ho : ovl ftGM md = false) : GMX G Y :=
  ⟨by rw [(hF _ _ (ovl_no ho rfl)).1]; exact h.1, fun j hj => ⟨by rw [(hF _ _ (ovl_no ho rfl)).2.1]; exact (h.2 j hj).1, by rw [(hF _ _ (ovl_no ho rfl)).1]; exact (h.2 j hj).2⟩⟩
