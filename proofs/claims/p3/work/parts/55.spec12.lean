/-! ===== no fault: no place ===== -/
def FZ (F : Int × Int) : Prop := F.1 = 0 → F.2 = -1
theorem FZ.e {F : Int × Int} (h : FZ F) (f0 : F.1 = 0) : F = (0, -1) := Prod.ext f0 (h f0)
theorem F0_fz : FZ (0, -1) := fun _ => rfl
theorem tK_5N {b : Nat → Int} {N s : Nat} (h : tK b N s = 5) (hs : s ≤ N) : s = N := by
  by_cases q : s < N
  · exfalso
    unfold tK tC at h
    rw [if_pos q] at h
    have := kOf_bd (b s)
    split at h <;> omega
  · omega
theorem ntF_fz {N s : Nat} {F : Int × Int} {f : Int} (h : FZ F) (f0 : 1 ≤ f) (f1 : f ≤ 4) (hs : s ≤ N) : FZ (ntF F f s) := by
  unfold ntF
  split
  · intro g
    have g : f = 0 := g
    omega
  · exact h
theorem tnF_fz {b : Nat → Int} {N s : Nat} {F : Int × Int} {lo hi : Int} (h : FZ F) (hs : s ≤ N) : FZ (tnF b N lo hi s F) := by
  unfold tnF
  split
  · split
    · exact ntF_fz h (by omega) (by omega) hs
    · exact h
  · exact h
theorem rF_fz {b : Nat → Int} {N : Nat} (m : Nat) : ∀ (s : Nat) (F : Int × Int) (w : Int64), s ≤ N → FZ F → FZ (rF b N m s F w).2.1 := by
  induction m with
  | zero => exact fun s F w _ h => h
  | succ m ih =>
    intro s F w hs h
    by_cases k : tK b N s = 2
    · rw [rF_S k]
      exact ih _ _ _ (nx_bd b N s hs).2.1 (tnF_fz h hs)
    · rw [rF_E k]
      exact h
theorem finB_fz {b : Nat → Int} {N : Nat} {ok : Prop} {d : Decidable ok} {s : Nat} {F : Int × Int} {B : BC} (hs : s ≤ N) (h : FZ F) : (finB b N ok d s F B).2.1 ≤ N ∧ FZ (finB b N ok d s F B).2.2.1 := by
  unfold finB
  split
  · exact ⟨(nx_bd b N s hs).2.1, h⟩
  · exact ⟨hs, h⟩
theorem bLine_fz {b : Nat → Int} {N s : Nat} {F : Int × Int} {B : BC} (hs : s ≤ N) (h : FZ F) : (bLine b N s F B).2.1 ≤ N ∧ FZ (bLine b N s F B).2.2.1 := by
  have h1 := (nx_bd b N s hs).2.1
  have h2 := (tnS_bd b N _ h1).2
  have h3 := (tnS_bd b N _ h2).2
  by_cases w0 : isW b N 0 s
  · rw [bL_0 w0]
    exact finB_fz h3 (tnF_fz (tnF_fz h h1) h2)
  by_cases w1 : isW b N 1 s
  · rw [bL_1 w0 w1]
    refine finB_fz h3 (tnF_fz (tnF_fz ?_ h1) h2)
    split
    · exact ntF_fz h (by omega) (by omega) hs
    · exact h
  by_cases w2 : isW b N 2 s
  · rw [bL_2 w0 w1 w2]
    exact finB_fz (rF_bd _ _ _ _ h1).2 (rF_fz _ _ _ _ h1 h)
  by_cases w3 : isW b N 3 s
  · rw [bL_3 w0 w1 w2 w3]
    exact finB_fz (rF_bd _ _ _ _ h1).2 (rF_fz _ _ _ _ h1 h)
  rw [bL_4 w0 w1 w2 w3]
  exact ⟨hs, h⟩
theorem finG_fz {b : Nat → Int} {N s : Nat} {F : Int × Int} {G : GC} (hs : s ≤ N) (h : FZ F) : (finG b N s F G).2.1 ≤ N ∧ FZ (finG b N s F G).2.2.1 := by
  unfold finG
  split
  · exact ⟨(nx_bd b N s hs).2.1, h⟩
  · exact ⟨hs, h⟩
theorem gLine_fz {b : Nat → Int} {N s : Nat} {F : Int × Int} {G : GC} (hs : s ≤ N) (h : FZ F) : (gLine b N s F G).2.1 ≤ N ∧ FZ (gLine b N s F G).2.2.1 := by
  have h1 := (nx_bd b N s hs).2.1
  have h2 := (nx_bd b N _ h1).2.1
  have h3 := (nx_bd b N _ h2).2.1
  have h4 := (tnS_bd b N _ h3).2
  have hF : FZ (if G.1 = 30 then ntF F 3 s else F) := by
    split
    · exact ntF_fz h (by omega) (by omega) hs
    · exact h
  by_cases w4 : isW b N 4 s
  · by_cases r : tr b N (nx b N s)
    · by_cases w5 : isW b N 5 (nx b N (nx b N s))
      · by_cases v : tnV b N (nx b N (nx b N (nx b N s))) = -1
        · rw [gL_gn w4 r w5 v]
          exact ⟨h3, hF⟩
        · rw [gL_gy w4 r w5 v]
          exact finG_fz h4 (tnF_fz hF h3)
      · rw [gL_y w4 r w5]
        exact finG_fz h2 hF
    · rw [gL_nr w4 r]
      exact ⟨h1, hF⟩
  · rw [gL_no w4]
    exact ⟨hs, h⟩
theorem bRun_fz {b : Nat → Int} {N : Nat} (m : Nat) : ∀ (s : Nat) (F : Int × Int) (B : BC), s ≤ N → FZ F → (bRun b N m s F B).2.1 ≤ N ∧ FZ (bRun b N m s F B).2.2.1 := by
  induction m with
  | zero => exact fun s F B hs h => ⟨hs, h⟩
  | succ m ih =>
    intro s F B hs h
    by_cases k : tK b N s = 5
    · rw [bRun_E k]
      exact ⟨hs, h⟩
    · have t := bLine_fz (b := b) (B := B) hs h
      cases q : (bLine b N s F B).1 with
      | true =>
        rw [bRun_y k q]
        exact ih _ _ _ t.1 t.2
      | false =>
        rw [bRun_n k q]
        exact t
theorem gRun_fz {b : Nat → Int} {N : Nat} (m : Nat) : ∀ (s : Nat) (F : Int × Int) (G : GC), s ≤ N → FZ F → (gRun b N m s F G).2.1 ≤ N ∧ FZ (gRun b N m s F G).2.2.1 := by
  induction m with
  | zero => exact fun s F B hs h => ⟨hs, h⟩
  | succ m ih =>
    intro s F B hs h
    by_cases k : tK b N s = 5
    · rw [gRun_E k]
      exact ⟨hs, h⟩
    · have t := gLine_fz (b := b) (G := B) hs h
      cases q : (gLine b N s F B).1 with
      | true =>
        rw [gRun_y k q]
        exact ih _ _ _ t.1 t.2
      | false =>
        rw [gRun_n k q]
        exact t
theorem rnB_fz {b : Nat → Int} {N : Nat} : FZ (rnB b N).2.2.1 := (bRun_fz 600 _ _ bZ (tS_bd b N 0 (Nat.zero_le N)).2 F0_fz).2
theorem rnG_fz {b : Nat → Int} {N : Nat} : FZ (rnG b N).2.2.1 := (gRun_fz 600 _ _ gZ (tS_bd b N 0 (Nat.zero_le N)).2 F0_fz).2
theorem rnB_bd {b : Nat → Int} {N : Nat} : (rnB b N).2.1 ≤ N ∧ FBD N (rnB b N).2.2.1 := bRun_bd 600 _ _ bZ (tS_bd b N 0 (Nat.zero_le N)).2 F0_bd
theorem rnG_bd {b : Nat → Int} {N : Nat} : (rnG b N).2.1 ≤ N ∧ FBD N (rnG b N).2.2.1 := gRun_bd 600 _ _ gZ (tS_bd b N 0 (Nat.zero_le N)).2 F0_bd
theorem bZ_wf : WFB bZ := ⟨⟨by show (2 : Int) ≤ 4; decide, by show (4 : Int) ≤ 6; decide⟩, ⟨by show (2 : Int) ≤ 4; decide, by show (4 : Int) ≤ 6; decide⟩, ⟨Int.le_refl _, by show (0 : Int) ≤ 6; decide⟩, fun j hj => by
  have : (j : Int) < 0 := hj
  omega⟩
theorem rnB_wf2 {b : Nat → Int} {N : Nat} (h1 : (rnB b N).1 = true) (h0 : (rnB b N).2.2.1.1 = 0) : WFB (rnB b N).2.2.2 := bRun_wf 600 _ _ bZ (fun _ => bZ_wf) h1 h0
