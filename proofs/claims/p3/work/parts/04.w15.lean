/-! ===== VSE 15: ends of contracts proved by hand ===== -/
def exI (g : SG) (n : Nat) (zs : List Int) : SG := (fun b => if b < n then g.1 b else zs.getD (b - n) 0, g.2)
theorem exI_ext {g : SG} {n m : Nat} {zs : List Int} : Ext n m g (exI g n zs) := ⟨fun b hb => if_pos hb, fun _ _ => rfl⟩
theorem altM_mk {V : VW} {G : GT} {c : CT} {g : SG} {X X' : XT} {r : Option Value} (i : Nat) (zs : List Int) {a : AL} (ha : (cAl c)[i]? = some a) (he : eiOK (aEi a) (exI g (cEi c).length zs).1) (hl : elOK (aEl a) g.2) (hr : r = (aRs a).map (dn (exI g (cEi c).length zs))) (hd : dlOK G (aDl a) (exI g (cEi c).length zs) X') (hg : gdOK (aGd a) (exI g (cEi c).length zs)) (hH : HG V X') (hE : G.2 X') (hF : FR (cMd c) X X') : altP V G c g X r X' :=
  ⟨a, List.mem_of_getElem? ha, exI g (cEi c).length zs, exI_ext, he, hl, hr, hd, hg, hH, hE, hF⟩
theorem ei_nil {f : Nat → Int} : eiOK [] f := fun b q h => by simp at h
theorem ei_cons {q : IV} {l : List IV} {f : Nat → Int} (h : q.1 ≤ f 0 ∧ f 0 ≤ q.2) (t : eiOK l (fun b => f (b + 1))) : eiOK (q :: l) f := by
  intro b p hb
  cases b with
  | zero => cases hb; exact h
  | succ b => exact t b p hb
theorem el_nil {f : Nat → Int64} : elOK [] f := fun b q h => by simp at h
theorem el_cons {q : IV} {l : List IV} {f : Nat → Int64} (h : q.1 ≤ (f 0).toInt ∧ (f 0).toInt ≤ q.2) (t : elOK l (fun b => f (b + 1))) : elOK (q :: l) f := by
  intro b p hb
  cases b with
  | zero => cases hb; exact h
  | succ b => exact t b p hb
theorem dl_nil {G : GT} {g : SG} {X : XT} : dlOK G [] g X := fun q h => by cases h
theorem dl_cons {G : GT} {g : SG} {X : XT} {k i : Nat} {a : AV} {d : DLT} (h : locOK G k i a g X) (t : dlOK G d g X) : dlOK G (((k, i), a) :: d) g X := fun q hq => by
  rcases List.mem_cons.mp hq with rfl | hq
  · exact h
  · exact t q hq
theorem gd_nil {g : SG} : gdOK [] g := fun q h => by cases h
theorem gd_cons {g : SG} {a b : AV} {d : List (AV × AV)} (h : dI g a ≤ dI g b) (t : gdOK d g) : gdOK ((a, b) :: d) g := fun q hq => by
  rcases List.mem_cons.mp hq with rfl | hq
  · exact h
  · exact t q hq
theorem gh_at {G : GT} {k i : Nat} {b : Nat} {c : Int} {g : SG} {X : XT} (hk : gho k = true) (h : locOK G k i (0, b, c) g X) : G.1 (k - 900) X = g.1 b + c := by
  unfold locOK at h
  rw [hk] at h
  exact h.2
theorem gh_mk {G : GT} {k i : Nat} {b : Nat} {c : Int} {g : SG} {X : XT} (hk : gho k = true) (h : G.1 (k - 900) X = g.1 b + c) : locOK G k i (0, b, c) g X := by
  unfold locOK
  rw [hk]
  exact ⟨rfl, h⟩
theorem FR.rf {md : List (Nat × Option Nat)} {X : XT} : FR md X X := fun _ _ _ => sameAt.rf
theorem FR.upI {md : List (Nat × Option Nat)} {X0 X : XT} {k i : Nat} {z : Int} (h : FR md X0 X) (hm : inM md k i = true) : FR md X0 (upI X k i z) := fun a b hab => (h a b hab).tr (same_upI (by
  cases hc : inM [(k, some i)] a b with
  | false => rfl
  | true =>
    obtain ⟨rfl, rfl⟩ := inM_1 hc
    rw [hm] at hab
    cases hab))
theorem FR.upL {md : List (Nat × Option Nat)} {X0 X : XT} {k i : Nat} {z : Int64} (h : FR md X0 X) (hm : inM md k i = true) : FR md X0 (upL X k i z) := fun a b hab => (h a b hab).tr (same_upL (by
  cases hc : inM [(k, some i)] a b with
  | false => rfl
  | true =>
    obtain ⟨rfl, rfl⟩ := inM_1 hc
    rw [hm] at hab
    cases hab))
