/-! ===== boards and games as the reference holds them while it reads ===== -/
def grF (w p : Int64) (f : Nat) : Int := if tb w f = true then 1 else if tb p f = true then 2 else 0
def gOK (B : BC) (g : Int) : Prop := (∀ f : Nat, (tb B.2.2.1 f = true ∨ tb B.2.2.2.1 f = true) → (f : Int) ≤ g) ∧ (∀ j : Nat, (j : Int) < B.2.2.2.2.1 → B.2.2.2.2.2.2 j ≤ g) ∧ (g = -1 ∨ (∃ f : Nat, (f : Int) = g ∧ (tb B.2.2.1 f = true ∨ tb B.2.2.2.1 f = true)) ∨ ∃ j : Nat, (j : Int) < B.2.2.2.2.1 ∧ B.2.2.2.2.2.2 j = g) ∧ g ≤ 35
def BDM (F : Int × Int) (B : BC) (X : XT) : Prop := X.1 9 0 = B.1 ∧ X.1 9 1 = B.2.1 ∧ X.1 9 2 = B.2.2.2.2.1 ∧ (∀ j : Nat, j < 6 → X.1 9 (3 + 2 * j) = B.2.2.2.2.2.1 j ∧ X.1 9 (4 + 2 * j) = B.2.2.2.2.2.2 j) ∧ (F.1 = 0 → (∀ f : Nat, f < 36 → X.1 9 (15 + f) = grF B.2.2.1 B.2.2.2.1 f) ∧ gOK B (X.1 0 21)) ∧ -1 ≤ X.1 0 21 ∧ 0 ≤ B.2.2.2.2.1 ∧ B.2.2.2.2.1 ≤ 6
theorem BDM.fr {F : Int × Int} {B : BC} {md : List (Nat × Option Nat)} {X Y : XT} (h : BDM F B X) (hF : FR md X Y) (ho : ovl [(9, none), (0, some 21)] md = false) : BDM F B Y := by
  have e : ∀ i, Y.1 9 i = X.1 9 i := fun i => (hF _ _ (ovl_no ho rfl)).1
  have g : Y.1 0 21 = X.1 0 21 := (hF _ _ (ovl_no ho rfl)).1
  unfold BDM
  rw [g, e 0, e 1, e 2]
  exact ⟨h.1, h.2.1, h.2.2.1, fun j hj => by rw [e, e]; exact h.2.2.2.1 j hj, fun q => ⟨fun f hf => by rw [e]; exact (h.2.2.2.2.1 q).1 f hf, (h.2.2.2.2.1 q).2⟩, h.2.2.2.2.2⟩
theorem BDM.mono {F F1 : Int × Int} {B : BC} {X : XT} (h : BDM F B X) (q : F1.1 = 0 → F.1 = 0) : BDM F1 B X := ⟨h.1, h.2.1, h.2.2.1, h.2.2.2.1, fun g => h.2.2.2.2.1 (q g), h.2.2.2.2.2⟩
theorem ntF_z {F : Int × Int} {f p : Int} (f1 : 1 ≤ f) (h : (ntF F f p).1 = 0) : F.1 = 0 := by
  unfold ntF at h
  split at h
  · have : f = 0 := h
    omega
  · exact h
theorem tnV_n {b : Nat → Int} {N s : Nat} (k : tK b N s ≠ 2) : tnV b N s = -1 := if_neg k
theorem tnV_y {b : Nat → Int} {N s : Nat} (k : tK b N s = 2) (hs : s ≤ N) : 0 ≤ tnV b N s ∧ tnV b N s ≤ 99 := by
  unfold tnV
  rw [if_pos k]
  exact tV_bd k hs
theorem tnV_ne {b : Nat → Int} {N s : Nat} (k : tK b N s = 2) (hs : s ≤ N) : tnV b N s ≠ -1 := by
  have := tnV_y k hs
  omega
theorem finB_ok {b : Nat → Int} {N : Nat} {ok : Prop} {d : Decidable ok} {s : Nat} {F : Int × Int} {B : BC} (h : ok) : finB b N ok d s F B = if tK b N s = 3 then (true, nx b N s, F, B) else (false, s, F, B) := by
  by_cases q : tK b N s = 3
  · rw [finB_y h q, if_pos q]
  · rw [finB_n (.inr q), if_neg q]
theorem isW_or (b : Nat → Int) (N s : Nat) : isW b N 0 s ∨ isW b N 1 s ∨ isW b N 2 s ∨ isW b N 3 s ∨ (¬ isW b N 0 s ∧ ¬ isW b N 1 s ∧ ¬ isW b N 2 s ∧ ¬ isW b N 3 s) := by
  by_cases w0 : isW b N 0 s
  · exact .inl w0
  by_cases w1 : isW b N 1 s
  · exact .inr (.inl w1)
  by_cases w2 : isW b N 2 s
  · exact .inr (.inr (.inl w2))
  by_cases w3 : isW b N 3 s
  · exact .inr (.inr (.inr (.inl w3)))
  exact .inr (.inr (.inr (.inr ⟨w0, w1, w2, w3⟩)))
theorem tb_bitI {v : Int} (v0 : 0 ≤ v) (v1 : v ≤ 35) (j : Nat) : tb (bitI v) j = decide ((j : Int) = v) := by
  unfold bitI
  rw [tb_bit, Bool.eq_iff_iff, decide_eq_true_eq, decide_eq_true_eq]
  omega
theorem bitI_0 {w : Int64} {v : Int} : w ||| bitI v ≠ 0 := fun h => by
  have t : tb (w ||| bitI v) (v % 64).toNat = tb 0 (v % 64).toNat := by rw [h]
  unfold bitI at t
  rw [tb_or, tb_bit, decide_eq_true rfl, Bool.or_true, tb_0] at t
  cases t
theorem grF_w {w p : Int64} {v : Int} {f : Nat} (v0 : 0 ≤ v) (v1 : v ≤ 35) : grF (w ||| bitI v) p f = if (f : Int) = v then 1 else grF w p f := by
  unfold grF
  rw [tb_or, tb_bitI v0 v1]
  by_cases e : (f : Int) = v
  · rw [if_pos e, decide_eq_true e, Bool.or_true, if_pos rfl]
  · rw [if_neg e, decide_eq_false e, Bool.or_false]
theorem grF_p {w p : Int64} {v : Int} {f : Nat} (v0 : 0 ≤ v) (v1 : v ≤ 35) : grF w (p ||| bitI v) f = if (f : Int) = v then (if grF w p f = 1 then 1 else 2) else grF w p f := by
  unfold grF
  rw [tb_or, tb_bitI v0 v1]
  by_cases e : (f : Int) = v
  · rw [if_pos e, decide_eq_true e, Bool.or_true]
    cases tb w f with
    | true => rfl
    | false =>
      cases tb p f with
      | true => rfl
      | false => rfl
  · rw [if_neg e, decide_eq_false e, Bool.or_false]
theorem gtm_ge (g v : Int) : g ≤ gtm g v ∧ v ≤ gtm g v ∧ (gtm g v = g ∨ gtm g v = v) := by
  unfold gtm
  split <;> omega
theorem gOK_w {B : BC} {g v : Int} {w : Int64} (h : gOK (bwl B w) g) (v0 : 0 ≤ v) (v1 : v ≤ 35) : gOK (bwl B (w ||| bitI v)) (gtm g v) := by
  have t := gtm_ge g v
  have eb : ∀ f, tb (B.2.2.1 ||| (w ||| bitI v)) f = (tb (B.2.2.1 ||| w) f || decide ((f : Int) = v)) := fun f => by
    rw [tb_or, tb_or, tb_or, tb_bitI v0 v1, Bool.or_assoc]
  refine ⟨fun f hf => ?_, fun j hj => Int.le_trans (h.2.1 j hj) t.1, ?_, ?_⟩
  · have hf : tb (B.2.2.1 ||| (w ||| bitI v)) f = true ∨ tb B.2.2.2.1 f = true := hf
    rw [eb f, Bool.or_eq_true, decide_eq_true_eq] at hf
    rcases hf with (hf | hf) | hf
    · exact Int.le_trans (h.1 f (.inl hf)) t.1
    · omega
    · exact Int.le_trans (h.1 f (.inr hf)) t.1
  · rcases t.2.2 with e | e
    · rw [e]
      rcases h.2.2.1 with q | ⟨f, q1, q2⟩ | q
      · exact .inl q
      · refine .inr (.inl ⟨f, q1, ?_⟩)
        rcases q2 with q2 | q2
        · left
          show tb (B.2.2.1 ||| (w ||| bitI v)) f = true
          have q2 : tb (B.2.2.1 ||| w) f = true := q2
          rw [eb f, q2]
          rfl
        · exact .inr q2
      · exact .inr (.inr q)
    · rw [e]
      refine .inr (.inl ⟨v.toNat, by omega, .inl ?_⟩)
      show tb (B.2.2.1 ||| (w ||| bitI v)) v.toNat = true
      rw [eb, decide_eq_true (by omega), Bool.or_true]
  · have := h.2.2.2
    omega
theorem gOK_p {B : BC} {g v : Int} {w : Int64} (h : gOK (bpt B w) g) (v0 : 0 ≤ v) (v1 : v ≤ 35) : gOK (bpt B (w ||| bitI v)) (gtm g v) := by
  have t := gtm_ge g v
  have eb : ∀ f, tb (B.2.2.2.1 ||| (w ||| bitI v)) f = (tb (B.2.2.2.1 ||| w) f || decide ((f : Int) = v)) := fun f => by
    rw [tb_or, tb_or, tb_or, tb_bitI v0 v1, Bool.or_assoc]
  refine ⟨fun f hf => ?_, fun j hj => Int.le_trans (h.2.1 j hj) t.1, ?_, ?_⟩
  · have hf : tb B.2.2.1 f = true ∨ tb (B.2.2.2.1 ||| (w ||| bitI v)) f = true := hf
    rw [eb f, Bool.or_eq_true, decide_eq_true_eq] at hf
    rcases hf with hf | hf | hf
    · exact Int.le_trans (h.1 f (.inl hf)) t.1
    · exact Int.le_trans (h.1 f (.inr hf)) t.1
    · omega
  · rcases t.2.2 with e | e
    · rw [e]
      rcases h.2.2.1 with q | ⟨f, q1, q2⟩ | q
      · exact .inl q
      · refine .inr (.inl ⟨f, q1, ?_⟩)
        rcases q2 with q2 | q2
        · exact .inl q2
        · right
          show tb (B.2.2.2.1 ||| (w ||| bitI v)) f = true
          have q2 : tb (B.2.2.2.1 ||| w) f = true := q2
          rw [eb f, q2]
          rfl
      · exact .inr (.inr q)
    · rw [e]
      refine .inr (.inl ⟨v.toNat, by omega, .inr ?_⟩)
      show tb (B.2.2.2.1 ||| (w ||| bitI v)) v.toNat = true
      rw [eb, decide_eq_true (by omega), Bool.or_true]
  · have := h.2.2.2
    omega
theorem gOK_m {B : BC} {g s v : Int} (h : gOK B g) (m0 : 0 ≤ B.2.2.2.2.1) (m6 : B.2.2.2.2.1 < 6) (v1 : v ≤ 35) : gOK (bmn B s v) (gtm g v) := by
  have t := gtm_ge g v
  have e1 : bmn B s v = (B.1, B.2.1, B.2.2.1, B.2.2.2.1, B.2.2.2.2.1 + 1, upF B.2.2.2.2.2.1 B.2.2.2.2.1 s, upF B.2.2.2.2.2.2 B.2.2.2.2.1 v) := if_pos m6
  rw [e1]
  refine ⟨fun f hf => Int.le_trans (h.1 f hf) t.1, fun j hj => ?_, ?_, ?_⟩
  · have hj : (j : Int) < B.2.2.2.2.1 + 1 := hj
    show upF B.2.2.2.2.2.2 B.2.2.2.2.1 v j ≤ gtm g v
    unfold upF
    split
    · exact t.2.1
    · exact Int.le_trans (h.2.1 j (by omega)) t.1
  · rcases t.2.2 with e | e
    · rw [e]
      rcases h.2.2.1 with q | q | ⟨j, q1, q2⟩
      · exact .inl q
      · exact .inr (.inl q)
      · refine .inr (.inr ⟨j, by show (j : Int) < B.2.2.2.2.1 + 1; omega, ?_⟩)
        show upF B.2.2.2.2.2.2 B.2.2.2.2.1 v j = g
        unfold upF
        rw [if_neg (by omega)]
        exact q2
    · rw [e]
      refine .inr (.inr ⟨B.2.2.2.2.1.toNat, by show ((B.2.2.2.2.1.toNat : Nat) : Int) < B.2.2.2.2.1 + 1; omega, ?_⟩)
      show upF B.2.2.2.2.2.2 B.2.2.2.2.1 v B.2.2.2.2.1.toNat = v
      unfold upF
      rw [if_pos (by omega)]
  · have := h.2.2.2
    omega
def LPB (b : Nat → Int) (N s : Nat) (F : Int × Int) (B : BC) (X1 : XT) (u : Int) : Prop := ∃ (s1 : Nat) (F1 : Int × Int) (B1 : BC), TKM b N s1 X1 ∧ FLM F1 X1 ∧ FO F1 s1 ∧ ((u = 1 ∧ nx b N s ≤ s1 ∧ bLine b N s F B = (if tK b N s1 = 3 then (true, nx b N s1, F1, B1) else (false, s1, F1, B1)) ∧ BDM F1 B1 X1) ∨ (u = 0 ∧ X1.1 0 15 = (s1 : Int) ∧ bLine b N s F B = (false, s1, F1, B1)))
