/-! ===== what is read does not hang on what stood there ===== -/
def BQ (B C : BC) : Prop := B.1 = C.1 ∧ B.2.1 = C.2.1 ∧ B.2.2.1 = C.2.2.1 ∧ B.2.2.2.1 = C.2.2.2.1 ∧ B.2.2.2.2.1 = C.2.2.2.2.1 ∧ ∀ j : Nat, (j : Int) < B.2.2.2.2.1 → B.2.2.2.2.2.1 j = C.2.2.2.2.2.1 j ∧ B.2.2.2.2.2.2 j = C.2.2.2.2.2.2 j
theorem bsz_q {B C : BC} {w h : Int} (q : BQ B C) : BQ (bsz B w h) (bsz C w h) := ⟨rfl, rfl, q.2.2⟩
theorem bwl_q {B C : BC} {f : Int64} (q : BQ B C) : BQ (bwl B f) (bwl C f) := ⟨q.1, q.2.1, by show B.2.2.1 ||| f = C.2.2.1 ||| f; rw [q.2.2.1], q.2.2.2⟩
theorem bpt_q {B C : BC} {f : Int64} (q : BQ B C) : BQ (bpt B f) (bpt C f) := ⟨q.1, q.2.1, q.2.2.1, by show B.2.2.2.1 ||| f = C.2.2.2.1 ||| f; rw [q.2.2.2.1], q.2.2.2.2⟩
theorem bmn_q {B C : BC} {s f : Int} (q : BQ B C) : BQ (bmn B s f) (bmn C s f) := by
  have e := q.2.2.2.2.1
  by_cases h : B.2.2.2.2.1 < 6
  · have t1 : bmn B s f = (B.1, B.2.1, B.2.2.1, B.2.2.2.1, B.2.2.2.2.1 + 1, upF B.2.2.2.2.2.1 B.2.2.2.2.1 s, upF B.2.2.2.2.2.2 B.2.2.2.2.1 f) := if_pos h
    have t2 : bmn C s f = (C.1, C.2.1, C.2.2.1, C.2.2.2.1, C.2.2.2.2.1 + 1, upF C.2.2.2.2.2.1 C.2.2.2.2.1 s, upF C.2.2.2.2.2.2 C.2.2.2.2.1 f) := if_pos (by rw [← e]; exact h)
    rw [t1, t2]
    refine ⟨q.1, q.2.1, q.2.2.1, q.2.2.2.1, by show B.2.2.2.2.1 + 1 = C.2.2.2.2.1 + 1; rw [e], fun j hj => ?_⟩
    have hj : (j : Int) < B.2.2.2.2.1 + 1 := hj
    show upF B.2.2.2.2.2.1 B.2.2.2.2.1 s j = upF C.2.2.2.2.2.1 C.2.2.2.2.1 s j ∧ upF B.2.2.2.2.2.2 B.2.2.2.2.1 f j = upF C.2.2.2.2.2.2 C.2.2.2.2.1 f j
    unfold upF
    rw [← e]
    by_cases g : (j : Int) = B.2.2.2.2.1
    · exact ⟨(if_pos g).trans (if_pos g).symm, (if_pos g).trans (if_pos g).symm⟩
    · have t := q.2.2.2.2.2 j (by omega)
      exact ⟨(if_neg g).trans (t.1.trans (if_neg g).symm), (if_neg g).trans (t.2.trans (if_neg g).symm)⟩
  · have t1 : bmn B s f = B := if_neg h
    have t2 : bmn C s f = C := if_neg (by rw [← e]; exact h)
    rw [t1, t2]
    exact q
theorem bst_q {B C : BC} (q : BQ B C) : BQ (bst B) (bst C) := ⟨q.1, q.2.1, q.2.2.1, by show B.2.2.2.1 &&& (B.2.2.1 ^^^ (-1)) = C.2.2.2.1 &&& (C.2.2.1 ^^^ (-1)); rw [q.2.2.1, q.2.2.2.1], q.2.2.2.2⟩
def LQ (r t : Bool × Nat × (Int × Int) × BC) : Prop := r.1 = t.1 ∧ r.2.1 = t.2.1 ∧ r.2.2.1 = t.2.2.1 ∧ BQ r.2.2.2 t.2.2.2
theorem finB_q {b : Nat → Int} {N : Nat} {ok : Prop} {d : Decidable ok} {s : Nat} {F : Int × Int} {B C : BC} (q : BQ B C) : LQ (finB b N ok d s F B) (finB b N ok d s F C) := by
  unfold finB
  split
  · exact ⟨rfl, rfl, rfl, q⟩
  · exact ⟨rfl, rfl, rfl, q⟩
theorem bLine_q {b : Nat → Int} {N s : Nat} {F : Int × Int} {B C : BC} (q : BQ B C) : LQ (bLine b N s F B) (bLine b N s F C) := by
  by_cases w0 : isW b N 0 s
  · rw [bL_0 w0, bL_0 w0]
    exact finB_q (bsz_q q)
  by_cases w1 : isW b N 1 s
  · rw [bL_1 w0 w1, bL_1 w0 w1, q.2.2.2.2.1]
    exact finB_q (bmn_q q)
  by_cases w2 : isW b N 2 s
  · rw [bL_2 w0 w1 w2, bL_2 w0 w1 w2]
    exact finB_q (bwl_q q)
  by_cases w3 : isW b N 3 s
  · rw [bL_3 w0 w1 w2 w3, bL_3 w0 w1 w2 w3]
    exact finB_q (bpt_q q)
  rw [bL_4 w0 w1 w2 w3, bL_4 w0 w1 w2 w3]
  exact ⟨rfl, rfl, rfl, q⟩
theorem bRun_q {b : Nat → Int} {N : Nat} (m : Nat) : ∀ (s : Nat) (F : Int × Int) (B C : BC), BQ B C → LQ (bRun b N m s F B) (bRun b N m s F C) := by
  induction m with
  | zero => exact fun s F B C q => ⟨rfl, rfl, rfl, q⟩
  | succ m ih =>
    intro s F B C q
    by_cases k : tK b N s = 5
    · rw [bRun_E k, bRun_E k]
      exact ⟨rfl, rfl, rfl, q⟩
    · have t := bLine_q (b := b) (N := N) (s := s) (F := F) q
      cases e : (bLine b N s F B).1 with
      | true =>
        rw [bRun_y k e, bRun_y k (t.1.symm.trans e), t.2.1, t.2.2.1]
        exact ih _ _ _ _ t.2.2.2
      | false =>
        rw [bRun_n k e, bRun_n k (t.1.symm.trans e)]
        exact t
theorem sdL_q {all : Int64} {f g : Nat → Int} (m : Nat) : ∀ (j : Nat) (t : Int64), (∀ i, i < m → f (j + i) = g (j + i)) → sdL all f m j t = sdL all g m j t := by
  induction m with
  | zero => exact fun _ _ _ => rfl
  | succ m ih =>
    intro j t h
    have e : f j = g j := h 0 (by omega)
    show (if (bitI (f j) &&& all) &&& (t ^^^ (-1)) = 0 then false else sdL all f m (j + 1) (t ||| bitI (f j))) = (if (bitI (g j) &&& all) &&& (t ^^^ (-1)) = 0 then false else sdL all g m (j + 1) (t ||| bitI (g j)))
    rw [e, ih (j + 1) _ (fun i hi => by
      have := h (i + 1) (by omega)
      rw [show j + 1 + i = j + (i + 1) by omega]
      exact this)]
theorem bSound_q {B C : BC} (q : BQ B C) : bSound B = bSound C := by
  have e5 := q.2.2.2.2.1
  have hh := q.2.2.2.2.2
  unfold bSound alL
  rw [q.1, q.2.1, q.2.2.1, q.2.2.2.1, q.2.2.2.2.1]
  split
  · rfl
  · exact sdL_q _ _ _ (fun i hi => (hh (0 + i) (by omega)).2)
theorem fB_q {N : Nat} {r t : Bool × Nat × (Int × Int) × BC} (q : LQ r t) : fB N r = fB N t := by
  unfold fB
  rw [q.1, q.2.1, q.2.2.1, bSound_q (bst_q q.2.2.2)]
def GQ (G H : GC) : Prop := G.1 = H.1 ∧ ∀ j : Nat, (j : Int) < G.1 → G.2.1 j = H.2.1 j ∧ G.2.2 j = H.2.2 j
def LQg (r t : Bool × Nat × (Int × Int) × GC) : Prop := r.1 = t.1 ∧ r.2.1 = t.2.1 ∧ r.2.2.1 = t.2.2.1 ∧ GQ r.2.2.2 t.2.2.2
theorem gmv_q {G H : GC} {r : Int64} {f : Int} (q : GQ G H) : GQ (gmv G r f) (gmv H r f) := by
  have e := q.1
  by_cases h : G.1 < 30
  · have t1 : gmv G r f = (G.1 + 1, upJ G.2.1 G.1 r, upF G.2.2 G.1 f) := if_pos h
    have t2 : gmv H r f = (H.1 + 1, upJ H.2.1 H.1 r, upF H.2.2 H.1 f) := if_pos (by rw [← e]; exact h)
    rw [t1, t2]
    refine ⟨by show G.1 + 1 = H.1 + 1; rw [e], fun j hj => ?_⟩
    have hj : (j : Int) < G.1 + 1 := hj
    show upJ G.2.1 G.1 r j = upJ H.2.1 H.1 r j ∧ upF G.2.2 G.1 f j = upF H.2.2 H.1 f j
    unfold upF upJ
    rw [← e]
    by_cases g : (j : Int) = G.1
    · exact ⟨(if_pos g).trans (if_pos g).symm, (if_pos g).trans (if_pos g).symm⟩
    · have t := q.2 j (by omega)
      exact ⟨(if_neg g).trans (t.1.trans (if_neg g).symm), (if_neg g).trans (t.2.trans (if_neg g).symm)⟩
  · have t1 : gmv G r f = G := if_neg h
    have t2 : gmv H r f = H := if_neg (by rw [← e]; exact h)
    rw [t1, t2]
    exact q
theorem finG_q {b : Nat → Int} {N s : Nat} {F : Int × Int} {G H : GC} (q : GQ G H) : LQg (finG b N s F G) (finG b N s F H) := by
  unfold finG
  split
  · exact ⟨rfl, rfl, rfl, q⟩
  · exact ⟨rfl, rfl, rfl, q⟩
theorem gLine_q {b : Nat → Int} {N s : Nat} {F : Int × Int} {G H : GC} (q : GQ G H) : LQg (gLine b N s F G) (gLine b N s F H) := by
  by_cases w4 : isW b N 4 s
  · by_cases r : tr b N (nx b N s)
    · by_cases w5 : isW b N 5 (nx b N (nx b N s))
      · by_cases v : tnV b N (nx b N (nx b N (nx b N s))) = -1
        · rw [gL_gn w4 r w5 v, gL_gn w4 r w5 v, q.1]
          exact ⟨rfl, rfl, rfl, q⟩
        · rw [gL_gy w4 r w5 v, gL_gy w4 r w5 v, q.1]
          exact finG_q (gmv_q q)
      · rw [gL_y w4 r w5, gL_y w4 r w5, q.1]
        exact finG_q (gmv_q q)
    · rw [gL_nr w4 r, gL_nr w4 r, q.1]
      exact ⟨rfl, rfl, rfl, q⟩
  · rw [gL_no w4, gL_no w4]
    exact ⟨rfl, rfl, rfl, q⟩
theorem gRun_q {b : Nat → Int} {N : Nat} (m : Nat) : ∀ (s : Nat) (F : Int × Int) (G H : GC), GQ G H → LQg (gRun b N m s F G) (gRun b N m s F H) := by
  induction m with
  | zero => exact fun s F B C q => ⟨rfl, rfl, rfl, q⟩
  | succ m ih =>
    intro s F B C q
    by_cases k : tK b N s = 5
    · rw [gRun_E k, gRun_E k]
      exact ⟨rfl, rfl, rfl, q⟩
    · have t := gLine_q (b := b) (N := N) (s := s) (F := F) q
      cases e : (gLine b N s F B).1 with
      | true =>
        rw [gRun_y k e, gRun_y k (t.1.symm.trans e), t.2.1, t.2.2.1]
        exact ih _ _ _ _ t.2.2.2
      | false =>
        rw [gRun_n k e, gRun_n k (t.1.symm.trans e)]
        exact t
theorem fG_q {r t : Bool × Nat × (Int × Int) × GC} (q : LQg r t) : fG r = fG t := by
  unfold fG
  rw [q.1, q.2.1, q.2.2.1]
/-- what a text says: of a fresh board, of a fresh game -/
def bZ : BC := (4, 4, 0, 0, 0, fun _ => 0, fun _ => 0)
def gZ : GC := (0, fun _ => 0, fun _ => 0)
noncomputable def rnB (b : Nat → Int) (N : Nat) : Bool × Nat × (Int × Int) × BC := bRun b N 600 (tS b N 0) (0, -1) bZ
noncomputable def rnG (b : Nat → Int) (N : Nat) : Bool × Nat × (Int × Int) × GC := gRun b N 600 (tS b N 0) (0, -1) gZ
noncomputable def txB (b : Nat → Int) (N : Nat) : BC := bst (rnB b N).2.2.2
noncomputable def txG (b : Nat → Int) (N : Nat) : GC := (rnG b N).2.2.2
noncomputable def txR (b : Nat → Int) (N : Nat) : Int64 := rV b N (tS b N 0)
noncomputable def txF (b : Nat → Int) (N : Nat) (st : Int) : Int × Int := if st = 0 then fB N (rnB b N) else if st = 1 then fR b N else fG (rnG b N)
theorem txF_0 {b : Nat → Int} {N : Nat} : txF b N 0 = fB N (rnB b N) := rfl
theorem txF_1 {b : Nat → Int} {N : Nat} : txF b N 1 = fR b N := rfl
theorem txF_2 {b : Nat → Int} {N : Nat} : txF b N 2 = fG (rnG b N) := rfl
theorem run_B {b : Nat → Int} {N : Nat} (X : XT) : LQ (bRun b N 600 (tS b N 0) (0, -1) (b0 X)) (rnB b N) := bRun_q 600 _ _ _ _ ⟨rfl, rfl, rfl, rfl, rfl, fun j hj => by
  have : (j : Int) < 0 := hj
  omega⟩
theorem run_G {b : Nat → Int} {N : Nat} (X : XT) : LQg (gRun b N 600 (tS b N 0) (0, -1) (g0 X)) (rnG b N) := gRun_q 600 _ _ _ _ ⟨rfl, fun j hj => by
  have : (j : Int) < 0 := hj
  omega⟩
theorem txF_bd {b : Nat → Int} {N : Nat} (st : Int) : FBD N (txF b N st) := by
  have h0 := (tS_bd b N 0 (Nat.zero_le N)).2
  unfold txF
  split
  · have t := bRun_bd (b := b) (N := N) 600 (tS b N 0) (0, -1) bZ h0 F0_bd
    exact fB_bd t.1 t.2
  · split
    · exact fR_bd
    · have t := gRun_bd (b := b) (N := N) 600 (tS b N 0) (0, -1) gZ h0 F0_bd
      exact fG_bd t.1 t.2
theorem txB_wf {b : Nat → Int} {N : Nat} (h : (txF b N 0).1 = 0) : WFB (txB b N) := by
  have t := fB_0 h
  exact bRun_wf 600 _ _ bZ (fun _ => ⟨⟨by decide, by decide⟩, ⟨by decide, by decide⟩, ⟨Int.le_refl _, by decide⟩, fun j hj => by
    have : (j : Int) < 0 := hj
    omega⟩) t.1 t.2.1
theorem txG_mb {b : Nat → Int} {N : Nat} : 0 ≤ (txG b N).1 ∧ (txG b N).1 ≤ 30 := gRun_mb 600 _ _ gZ ⟨Int.le_refl _, by decide⟩
