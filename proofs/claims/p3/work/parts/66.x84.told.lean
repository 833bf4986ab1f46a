/-! ===== what is told, on both sides ===== -/
/-- a board that was told is sound, and settled -/
def SNB (B : BC) : Prop := bSound B = true ∧ ∃ B0 : BC, B = bst B0
theorem txB_sn {b : Nat → Int} {N : Nat} (h : (txF b N 0).1 = 0) : SNB (txB b N) := by
  have t := fB_0 h
  exact ⟨t.2.2, _, rfl⟩
def BB (b s f o : Nat) (X Y : XT) : Prop := ∃ B : BC, (WFB B ∧ SNB B) ∧ TBk b s f B X ∧ BRW (fun i => Y.1 6 (o + i)) B
def GB (g r f o : Nat) (X Y : XT) : Prop := ∃ G : GC, TGk g r f G X ∧ GRW (fun i => Y.1 8 (o + i)) G
abbrev SD : Type := Nat × Nat × Nat × Nat × (Nat × Nat × Nat) × (Nat × Nat × Nat) × (Nat × Nat × Nat) × (Nat × Nat × Nat)
def SLR (c : SD) (q : Nat) (X Y : XT) : Prop := X.1 c.1 0 = Y.1 2 q ∧ X.1 c.1 1 = Y.1 3 q ∧ X.1 c.1 2 = Y.1 4 q ∧ (∀ i : Nat, (i : Int) < Y.1 2 q → X.1 c.2.1 i = Y.1 1 (600 * q + i) % 256) ∧ (∀ j, j < 3 → X.1 c.2.2.1 j = Y.1 5 (3 * q + j)) ∧ (∀ k : Nat, k < 3 → (k : Int) < Y.1 5 (3 * q + 1) → RLM (X.2.1 c.2.2.2.1 k) (fun i => Y.1 7 (30 * q + 10 * k + i))) ∧ (0 < Y.1 5 (3 * q) → BB c.2.2.2.2.1.1 c.2.2.2.2.1.2.1 c.2.2.2.2.1.2.2 (102 * q) X Y) ∧ (1 < Y.1 5 (3 * q) → BB c.2.2.2.2.2.1.1 c.2.2.2.2.2.1.2.1 c.2.2.2.2.2.1.2.2 (102 * q + 51) X Y) ∧ (0 < Y.1 5 (3 * q + 2) → GB c.2.2.2.2.2.2.1.1 c.2.2.2.2.2.2.1.2.1 c.2.2.2.2.2.2.1.2.2 (662 * q) X Y) ∧ (1 < Y.1 5 (3 * q + 2) → GB c.2.2.2.2.2.2.2.1 c.2.2.2.2.2.2.2.2.1 c.2.2.2.2.2.2.2.2.2 (662 * q + 331) X Y)
def CPS (d c : SD) (X X1 : XT) : Prop := (∀ j, j < 3 → X1.1 d.1 j = X.1 c.1 j) ∧ (∀ i, i < 600 → X1.1 d.2.1 i = X.1 c.2.1 i) ∧ (∀ j, j < 3 → X1.1 d.2.2.1 j = X.1 c.2.2.1 j) ∧ (∀ j, j < 3 → X1.2.1 d.2.2.2.1 j = X.2.1 c.2.2.2.1 j) ∧ CPB d.2.2.2.2.1.1 d.2.2.2.2.1.2.1 d.2.2.2.2.1.2.2 c.2.2.2.2.1.1 c.2.2.2.2.1.2.1 c.2.2.2.2.1.2.2 X X1 ∧ CPB d.2.2.2.2.2.1.1 d.2.2.2.2.2.1.2.1 d.2.2.2.2.2.1.2.2 c.2.2.2.2.2.1.1 c.2.2.2.2.2.1.2.1 c.2.2.2.2.2.1.2.2 X X1 ∧ CPG d.2.2.2.2.2.2.1.1 d.2.2.2.2.2.2.1.2.1 d.2.2.2.2.2.2.1.2.2 c.2.2.2.2.2.2.1.1 c.2.2.2.2.2.2.1.2.1 c.2.2.2.2.2.2.1.2.2 X X1 ∧ CPG d.2.2.2.2.2.2.2.1 d.2.2.2.2.2.2.2.2.1 d.2.2.2.2.2.2.2.2.2 c.2.2.2.2.2.2.2.1 c.2.2.2.2.2.2.2.2.1 c.2.2.2.2.2.2.2.2.2 X X1
def CPR (f q : Nat) (Y Y1 : XT) : Prop := Y1.1 2 q = Y.1 2 f ∧ Y1.1 3 q = Y.1 3 f ∧ Y1.1 4 q = Y.1 4 f ∧ (∀ p, p < 600 → Y1.1 1 (600 * q + p) = Y.1 1 (600 * f + p)) ∧ (∀ p, p < 3 → Y1.1 5 (3 * q + p) = Y.1 5 (3 * f + p)) ∧ (∀ p, p < 102 → Y1.1 6 (102 * q + p) = Y.1 6 (102 * f + p)) ∧ (∀ p, p < 30 → Y1.1 7 (30 * q + p) = Y.1 7 (30 * f + p)) ∧ (∀ p, p < 662 → Y1.1 8 (662 * q + p) = Y.1 8 (662 * f + p))
theorem bb_cp {b s f o b1 s1 f1 o1 : Nat} {X X1 Y Y1 : XT} (h : BB b s f o X Y) (x : CPB b1 s1 f1 b s f X X1) (e : ∀ i, i < 51 → Y1.1 6 (o1 + i) = Y.1 6 (o + i)) : BB b1 s1 f1 o1 X1 Y1 := by
  obtain ⟨B, wf, tb, br⟩ := h
  refine ⟨B, wf, ⟨x.1.trans tb.1, x.2.1.trans tb.2.1, x.2.2.1.trans tb.2.2.1, x.2.2.2.1.trans tb.2.2.2.1, x.2.2.2.2.1.trans tb.2.2.2.2.1, fun j hj => ?_⟩, br.cg e⟩
  have j6 : j < 6 := by have := wf.1.2.2.1.2; omega
  exact ⟨(x.2.2.2.2.2 j j6).1.trans (tb.2.2.2.2.2 j hj).1, (x.2.2.2.2.2 j j6).2.trans (tb.2.2.2.2.2 j hj).2⟩
theorem gb_cp {g r f o g1 r1 f1 o1 : Nat} {X X1 Y Y1 : XT} (h : GB g r f o X Y) (x : CPG g1 r1 f1 g r f X X1) (e : ∀ i, i < 331 → Y1.1 8 (o1 + i) = Y.1 8 (o + i)) : GB g1 r1 f1 o1 X1 Y1 := by
  obtain ⟨G, tg, gr⟩ := h
  refine ⟨G, ⟨x.1.trans tg.1, fun j hj => ?_⟩, gr.cg e⟩
  have j3 : j < 30 := by have := gr.2.1.2; omega
  exact ⟨(x.2 j j3).1.trans (tg.2 j hj).1, (x.2 j j3).2.trans (tg.2 j hj).2⟩
theorem slr_cp {d c : SD} {f q : Nat} {X X1 Y Y1 : XT} (h : SLR c f X Y) (hx : CPS d c X X1) (hy : CPR f q Y Y1) (n6 : Y.1 2 f ≤ 600) : SLR d q X1 Y1 := by
  obtain ⟨h0, h1, h2, h3, h4, h5, h6, h7, h8, h9⟩ := h
  obtain ⟨x0, x1, x2, x3, x4, x5, x6, x7⟩ := hx
  obtain ⟨y2, y3, y4, y1, y5, y6, y7, y8⟩ := hy
  have c0 : Y1.1 5 (3 * q) = Y.1 5 (3 * f) := y5 0 (by omega)
  have c1 : Y1.1 5 (3 * q + 1) = Y.1 5 (3 * f + 1) := y5 1 (by omega)
  have c2 : Y1.1 5 (3 * q + 2) = Y.1 5 (3 * f + 2) := y5 2 (by omega)
  refine ⟨by rw [x0 0 (by omega), y2]; exact h0, by rw [x0 1 (by omega), y3]; exact h1, by rw [x0 2 (by omega), y4]; exact h2, fun i hi => ?_, fun j hj => by rw [x2 j hj, y5 j hj]; exact h4 j hj, fun k hk hc => ?_, fun hc => ?_, fun hc => ?_, fun hc => ?_, fun hc => ?_⟩
  · rw [y2] at hi
    rw [x1 i (by omega), y1 i (by omega)]
    exact h3 i hi
  · rw [c1] at hc
    rw [x3 k hk]
    exact (h5 k hk hc).cg (fun i hi => by
      show Y1.1 7 (30 * q + 10 * k + i) = Y.1 7 (30 * f + 10 * k + i)
      rw [Nat.add_assoc, y7 (10 * k + i) (by omega), Nat.add_assoc])
  · rw [c0] at hc
    exact bb_cp (h6 hc) x4 (fun i hi => y6 i (by omega))
  · rw [c0] at hc
    exact bb_cp (h7 hc) x5 (fun i hi => by rw [Nat.add_assoc, y6 (51 + i) (by omega), Nat.add_assoc])
  · rw [c2] at hc
    exact gb_cp (h8 hc) x6 (fun i hi => y8 i (by omega))
  · rw [c2] at hc
    exact gb_cp (h9 hc) x7 (fun i hi => by rw [Nat.add_assoc, y8 (331 + i) (by omega), Nat.add_assoc])
theorem cpr_q {f q : Nat} {Y Y1 : XT} (c1 : CPQ 1 600 f q Y Y1) (c2 : CPQ 2 1 f q Y Y1) (c3 : CPQ 3 1 f q Y Y1) (c4 : CPQ 4 1 f q Y Y1) (c5 : CPQ 5 3 f q Y Y1) (c6 : CPQ 6 102 f q Y Y1) (c7 : CPQ 7 30 f q Y Y1) (c8 : CPQ 8 662 f q Y Y1) : CPR f q Y Y1 :=
  ⟨by have := c2.1 0 (by omega); rw [Nat.one_mul, Nat.one_mul] at this; exact this, by have := c3.1 0 (by omega); rw [Nat.one_mul, Nat.one_mul] at this; exact this, by have := c4.1 0 (by omega); rw [Nat.one_mul, Nat.one_mul] at this; exact this, c1.1, c5.1, c6.1, c7.1, c8.1⟩
theorem cpr_o {f q r : Nat} {Y Y1 : XT} (c1 : CPQ 1 600 f q Y Y1) (c2 : CPQ 2 1 f q Y Y1) (c3 : CPQ 3 1 f q Y Y1) (c4 : CPQ 4 1 f q Y Y1) (c5 : CPQ 5 3 f q Y Y1) (c6 : CPQ 6 102 f q Y Y1) (c7 : CPQ 7 30 f q Y Y1) (c8 : CPQ 8 662 f q Y Y1) (n : r ≠ q) : CPR r r Y Y1 :=
  ⟨c2.2 r (by omega), c3.2 r (by omega), c4.2 r (by omega), fun p hp => c1.2 _ (by omega), fun p hp => c5.2 _ (by omega), fun p hp => c6.2 _ (by omega), fun p hp => c7.2 _ (by omega), fun p hp => c8.2 _ (by omega)⟩
theorem cpr_fr {my : List (Nat × Option Nat)} {r : Nat} {Y Y1 : XT} (h : FR my Y Y1) (o : ovl [(1, none), (2, none), (3, none), (4, none), (5, none), (6, none), (7, none), (8, none)] my = false) : CPR r r Y Y1 :=
  ⟨(h _ _ (ovl_no o rfl)).1, (h _ _ (ovl_no o rfl)).1, (h _ _ (ovl_no o rfl)).1, fun _ _ => (h _ _ (ovl_no o rfl)).1, fun _ _ => (h _ _ (ovl_no o rfl)).1, fun _ _ => (h _ _ (ovl_no o rfl)).1, fun _ _ => (h _ _ (ovl_no o rfl)).1, fun _ _ => (h _ _ (ovl_no o rfl)).1⟩
theorem cpb_fr {mx : List (Nat × Option Nat)} {b s f : Nat} {X X1 : XT} (h : FR mx X X1) (o : ∀ i, inM mx b i = false ∧ inM mx s i = false ∧ inM mx f i = false) : CPB b s f b s f X X1 :=
  ⟨(h _ _ (o _).1).1, (h _ _ (o _).1).1, (h _ _ (o _).1).2.1, (h _ _ (o _).1).2.1, (h _ _ (o _).1).1, fun j _ => ⟨(h _ _ (o _).2.1).1, (h _ _ (o _).2.2).1⟩⟩
theorem cpg_fr {mx : List (Nat × Option Nat)} {g r f : Nat} {X X1 : XT} (h : FR mx X X1) (o : ∀ i, inM mx g i = false ∧ inM mx r i = false ∧ inM mx f i = false) : CPG g r f g r f X X1 :=
  ⟨(h _ _ (o _).1).1, fun j _ => ⟨(h _ _ (o _).2.1).2.1, (h _ _ (o _).2.2).1⟩⟩
abbrev sd0 : SD := (1, 2, 3, 5, (7, 8, 9), (10, 11, 12), (13, 14, 15), (16, 17, 18))
abbrev sc0 : List (Nat × Option Nat) := [(1, none), (2, none), (3, none), (5, none), (7, none), (8, none), (9, none), (10, none), (11, none), (12, none), (13, none), (14, none), (15, none), (16, none), (17, none), (18, none)]
theorem cps_fr0 {mx : List (Nat × Option Nat)} {X X1 : XT} (h : FR mx X X1) (o : ovl sc0 mx = false) : CPS sd0 sd0 X X1 :=
  ⟨fun j _ => (h 1 _ (ovl_no o rfl)).1, fun j _ => (h 2 _ (ovl_no o rfl)).1, fun j _ => (h 3 _ (ovl_no o rfl)).1, fun j _ => (h 5 _ (ovl_no o rfl)).2.1, cpb_fr h (fun _ => ⟨(ovl_no o rfl), (ovl_no o rfl), (ovl_no o rfl)⟩), cpb_fr h (fun _ => ⟨(ovl_no o rfl), (ovl_no o rfl), (ovl_no o rfl)⟩), cpg_fr h (fun _ => ⟨(ovl_no o rfl), (ovl_no o rfl), (ovl_no o rfl)⟩), cpg_fr h (fun _ => ⟨(ovl_no o rfl), (ovl_no o rfl), (ovl_no o rfl)⟩)⟩
abbrev sd1 : SD := (104, 105, 106, 108, (110, 111, 112), (113, 114, 115), (116, 117, 118), (119, 120, 121))
abbrev sc1 : List (Nat × Option Nat) := [(104, none), (105, none), (106, none), (108, none), (110, none), (111, none), (112, none), (113, none), (114, none), (115, none), (116, none), (117, none), (118, none), (119, none), (120, none), (121, none)]
theorem cps_fr1 {mx : List (Nat × Option Nat)} {X X1 : XT} (h : FR mx X X1) (o : ovl sc1 mx = false) : CPS sd1 sd1 X X1 :=
  ⟨fun j _ => (h 104 _ (ovl_no o rfl)).1, fun j _ => (h 105 _ (ovl_no o rfl)).1, fun j _ => (h 106 _ (ovl_no o rfl)).1, fun j _ => (h 108 _ (ovl_no o rfl)).2.1, cpb_fr h (fun _ => ⟨(ovl_no o rfl), (ovl_no o rfl), (ovl_no o rfl)⟩), cpb_fr h (fun _ => ⟨(ovl_no o rfl), (ovl_no o rfl), (ovl_no o rfl)⟩), cpg_fr h (fun _ => ⟨(ovl_no o rfl), (ovl_no o rfl), (ovl_no o rfl)⟩), cpg_fr h (fun _ => ⟨(ovl_no o rfl), (ovl_no o rfl), (ovl_no o rfl)⟩)⟩
abbrev sd2 : SD := (122, 123, 124, 126, (128, 129, 130), (131, 132, 133), (134, 135, 136), (137, 138, 139))
abbrev sc2 : List (Nat × Option Nat) := [(122, none), (123, none), (124, none), (126, none), (128, none), (129, none), (130, none), (131, none), (132, none), (133, none), (134, none), (135, none), (136, none), (137, none), (138, none), (139, none)]
theorem cps_fr2 {mx : List (Nat × Option Nat)} {X X1 : XT} (h : FR mx X X1) (o : ovl sc2 mx = false) : CPS sd2 sd2 X X1 :=
  ⟨fun j _ => (h 122 _ (ovl_no o rfl)).1, fun j _ => (h 123 _ (ovl_no o rfl)).1, fun j _ => (h 124 _ (ovl_no o rfl)).1, fun j _ => (h 126 _ (ovl_no o rfl)).2.1, cpb_fr h (fun _ => ⟨(ovl_no o rfl), (ovl_no o rfl), (ovl_no o rfl)⟩), cpb_fr h (fun _ => ⟨(ovl_no o rfl), (ovl_no o rfl), (ovl_no o rfl)⟩), cpg_fr h (fun _ => ⟨(ovl_no o rfl), (ovl_no o rfl), (ovl_no o rfl)⟩), cpg_fr h (fun _ => ⟨(ovl_no o rfl), (ovl_no o rfl), (ovl_no o rfl)⟩)⟩
abbrev sd3 : SD := (140, 141, 142, 144, (146, 147, 148), (149, 150, 151), (152, 153, 154), (155, 156, 157))
abbrev sc3 : List (Nat × Option Nat) := [(140, none), (141, none), (142, none), (144, none), (146, none), (147, none), (148, none), (149, none), (150, none), (151, none), (152, none), (153, none), (154, none), (155, none), (156, none), (157, none)]
theorem cps_fr3 {mx : List (Nat × Option Nat)} {X X1 : XT} (h : FR mx X X1) (o : ovl sc3 mx = false) : CPS sd3 sd3 X X1 :=
  ⟨fun j _ => (h 140 _ (ovl_no o rfl)).1, fun j _ => (h 141 _ (ovl_no o rfl)).1, fun j _ => (h 142 _ (ovl_no o rfl)).1, fun j _ => (h 144 _ (ovl_no o rfl)).2.1, cpb_fr h (fun _ => ⟨(ovl_no o rfl), (ovl_no o rfl), (ovl_no o rfl)⟩), cpb_fr h (fun _ => ⟨(ovl_no o rfl), (ovl_no o rfl), (ovl_no o rfl)⟩), cpg_fr h (fun _ => ⟨(ovl_no o rfl), (ovl_no o rfl), (ovl_no o rfl)⟩), cpg_fr h (fun _ => ⟨(ovl_no o rfl), (ovl_no o rfl), (ovl_no o rfl)⟩)⟩
def TRL (X Y : XT) : Prop := SLR sd0 0 X Y ∧ (X.1 20 0 ≠ 0 → SLR sd1 1 X Y) ∧ (X.1 20 1 ≠ 0 → SLR sd2 2 X Y) ∧ (X.1 20 2 ≠ 0 → SLR sd3 3 X Y) ∧ X.1 20 0 = Y.1 48 0 ∧ X.1 20 1 = Y.1 48 1 ∧ X.1 20 2 = Y.1 48 2
theorem sz6 {Y : XT} (h : HG vM Y) {q : Nat} (hq : q < 4) : 0 ≤ Y.1 2 q ∧ Y.1 2 q ≤ 600 := by
  rcases (show q = 0 ∨ q = 1 ∨ q = 2 ∨ q = 3 by omega) with rfl | rfl | rfl | rfl
  · exact h.rF (k := 2) (i := 0) (p := (0, 600)) rfl rfl
  · exact h.rF (k := 2) (i := 1) (p := (0, 600)) rfl rfl
  · exact h.rF (k := 2) (i := 2) (p := (0, 600)) rfl rfl
  · exact h.rF (k := 2) (i := 3) (p := (0, 600)) rfl rfl
/-- images stay: the told rest is given -/
theorem trl_im {mx : List (Nat × Option Nat)} {X Y X1 Y1 : XT} (h : TRL X Y) (hY : HG vM Y) (h0 : SLR sd0 0 X1 Y1) (hx : FR mx X X1) (o1 : ovl sc1 mx = false) (o2 : ovl sc2 mx = false) (o3 : ovl sc3 mx = false) (ok : ovl [(20, none)] mx = false) (r1 : CPR 1 1 Y Y1) (r2 : CPR 2 2 Y Y1) (r3 : CPR 3 3 Y Y1) (hk : ∀ j, j < 3 → Y1.1 48 j = Y.1 48 j) : TRL X1 Y1 := by
  have e : ∀ j, X1.1 20 j = X.1 20 j := fun j => (hx 20 _ (ovl_no ok rfl)).1
  refine ⟨h0, fun q => ?_, fun q => ?_, fun q => ?_, by rw [e, hk 0 (by omega)]; exact h.2.2.2.2.1, by rw [e, hk 1 (by omega)]; exact h.2.2.2.2.2.1, by rw [e, hk 2 (by omega)]; exact h.2.2.2.2.2.2⟩
  · rw [e] at q
    exact slr_cp (h.2.1 q) (cps_fr1 hx o1) r1 (sz6 hY (by omega)).2
  · rw [e] at q
    exact slr_cp (h.2.2.1 q) (cps_fr2 hx o2) r2 (sz6 hY (by omega)).2
  · rw [e] at q
    exact slr_cp (h.2.2.2.1 q) (cps_fr3 hx o3) r3 (sz6 hY (by omega)).2
theorem trl_fr {mx my : List (Nat × Option Nat)} {X Y X1 Y1 : XT} (h : TRL X Y) (hY : HG vM Y) (hx : FR mx X X1) (hy : FR my Y Y1) (o0 : ovl sc0 mx = false) (o1 : ovl sc1 mx = false) (o2 : ovl sc2 mx = false) (o3 : ovl sc3 mx = false) (ok : ovl [(20, none)] mx = false) (oy : ovl [(1, none), (2, none), (3, none), (4, none), (5, none), (6, none), (7, none), (8, none)] my = false) (oz : ovl [(48, none)] my = false) : TRL X1 Y1 :=
  trl_im h hY (slr_cp h.1 (cps_fr0 hx o0) (cpr_fr hy oy) (sz6 hY (by omega)).2) hx o1 o2 o3 ok (cpr_fr hy oy) (cpr_fr hy oy) (cpr_fr hy oy) (fun j _ => (hy 48 _ (ovl_no oz rfl)).1)
theorem trl_0 : TRL x0X x0M :=
  ⟨⟨rfl, rfl, rfl, fun i hi => absurd (show (i : Int) < 0 from hi) (by omega), fun j _ => rfl, fun k _ hc => absurd (show (k : Int) < 0 from hc) (by omega), fun hc => absurd (show (0 : Int) < 0 from hc) (by omega), fun hc => absurd (show (1 : Int) < 0 from hc) (by omega), fun hc => absurd (show (0 : Int) < 0 from hc) (by omega), fun hc => absurd (show (1 : Int) < 0 from hc) (by omega)⟩, fun h => absurd rfl h, fun h => absurd rfl h, fun h => absurd rfl h, rfl, rfl, rfl⟩
/-! a text changes the told rest alone, on both sides alike -/
theorem room_iff {X Y : XT} {st at_ : Int} (h : SLR sd0 0 X Y) : room X st at_ ↔ roomM Y st at_ := by
  unfold room roomM
  by_cases s0 : 0 ≤ st ∧ st ≤ 2
  · have e : X.1 3 st.toNat = Y.1 5 st.toNat := by
      have t := h.2.2.2.2.1 st.toNat (by omega)
      rw [show 3 * 0 + st.toNat = st.toNat by omega] at t
      exact t
    rw [e]
  · exact ⟨fun q => absurd ⟨q.1, q.2.1⟩ s0, fun q => absurd ⟨q.1, q.2.1⟩ s0⟩
/-- the told rest, put together -/
theorem slr_mk {X Y : XT} (b0 : X.1 1 0 = 0) (b1 : Y.1 2 0 = 0) {F : Int × Int} (f0 : FLT F X) (f1 : FTM F Y) (c : ∀ j, j < 3 → X.1 3 j = Y.1 5 j) (r : ∀ k : Nat, k < 3 → (k : Int) < Y.1 5 1 → RLM (X.2.1 5 k) (fun i => Y.1 7 (10 * k + i))) (d0 : 0 < Y.1 5 0 → BB 7 8 9 0 X Y) (d1 : 1 < Y.1 5 0 → BB 10 11 12 51 X Y) (g0 : 0 < Y.1 5 2 → GB 13 14 15 0 X Y) (g1 : 1 < Y.1 5 2 → GB 16 17 18 331 X Y) : SLR sd0 0 X Y :=
  ⟨b0.trans b1.symm, f0.1.trans f1.1.symm, f0.2.trans f1.2.symm, fun i hi => absurd (show (i : Int) < Y.1 2 0 from hi) (by omega), fun j hj => by rw [show 3 * 0 + j = j by omega]; exact c j hj, fun k hk hc => (r k hk hc).cg (fun i _ => by show Y.1 7 (30 * 0 + 10 * k + i) = Y.1 7 (10 * k + i); rw [show 30 * 0 + 10 * k + i = 10 * k + i by omega]), d0, d1, g0, g1⟩
theorem slr_un {X Y : XT} (h : SLR sd0 0 X Y) : (∀ j, j < 3 → X.1 3 j = Y.1 5 j) ∧ (∀ k : Nat, k < 3 → (k : Int) < Y.1 5 1 → RLM (X.2.1 5 k) (fun i => Y.1 7 (10 * k + i))) ∧ (0 < Y.1 5 0 → BB 7 8 9 0 X Y) ∧ (1 < Y.1 5 0 → BB 10 11 12 51 X Y) ∧ (0 < Y.1 5 2 → GB 13 14 15 0 X Y) ∧ (1 < Y.1 5 2 → GB 16 17 18 331 X Y) :=
  ⟨fun j hj => by have t := h.2.2.2.2.1 j hj; rw [show 3 * 0 + j = j by omega] at t; exact t, fun k hk hc => (h.2.2.2.2.2.1 k hk hc).cg (fun i _ => by show Y.1 7 (10 * k + i) = Y.1 7 (30 * 0 + 10 * k + i); rw [show 30 * 0 + 10 * k + i = 10 * k + i by omega]), h.2.2.2.2.2.2.1, h.2.2.2.2.2.2.2.1, h.2.2.2.2.2.2.2.2.1, h.2.2.2.2.2.2.2.2.2⟩
/-- what a text leaves: nothing taken -/
theorem slr_nt {mx my : List (Nat × Option Nat)} {X Y X1 Y1 : XT} (h : SLR sd0 0 X Y) (hx : FR mx X X1) (hy : FR my Y Y1) (ox : ovl [(3, none), (5, none), (7, none), (8, none), (9, none), (10, none), (11, none), (12, none), (13, none), (14, none), (15, none), (16, none), (17, none), (18, none)] mx = false) (oy : ovl [(5, none), (6, none), (7, none), (8, none)] my = false) (b0 : X1.1 1 0 = 0) (b1 : Y1.1 2 0 = 0) {F : Int × Int} (f0 : FLT F X1) (f1 : FTM F Y1) : SLR sd0 0 X1 Y1 := by
  obtain ⟨c, r, d0, d1, g0, g1⟩ := slr_un h
  have e5 : ∀ j, Y1.1 5 j = Y.1 5 j := fun j => (hy 5 _ (ovl_no oy rfl)).1
  have e6 : ∀ j, Y1.1 6 j = Y.1 6 j := fun j => (hy 6 _ (ovl_no oy rfl)).1
  have e7 : ∀ j, Y1.1 7 j = Y.1 7 j := fun j => (hy 7 _ (ovl_no oy rfl)).1
  have e8 : ∀ j, Y1.1 8 j = Y.1 8 j := fun j => (hy 8 _ (ovl_no oy rfl)).1
  have n : ∀ {k i : Nat}, inM [(3, none), (5, none), (7, none), (8, none), (9, none), (10, none), (11, none), (12, none), (13, none), (14, none), (15, none), (16, none), (17, none), (18, none)] k i = true → inM mx k i = false := fun q => ovl_no ox q
  refine slr_mk b0 b1 f0 f1 (fun j hj => by rw [(hx 3 _ (n rfl)).1, e5]; exact c j hj) (fun k hk hc => ?_) (fun hc => ?_) (fun hc => ?_) (fun hc => ?_) (fun hc => ?_)
  · rw [e5] at hc
    rw [(hx 5 _ (n rfl)).2.1]
    exact (r k hk hc).cg (fun i _ => e7 _)
  · rw [e5] at hc
    exact bb_cp (d0 hc) (cpb_fr hx (fun _ => ⟨n rfl, n rfl, n rfl⟩)) (fun i _ => e6 _)
  · rw [e5] at hc
    exact bb_cp (d1 hc) (cpb_fr hx (fun _ => ⟨n rfl, n rfl, n rfl⟩)) (fun i _ => e6 _)
  · rw [e5] at hc
    exact gb_cp (g0 hc) (cpg_fr hx (fun _ => ⟨n rfl, n rfl, n rfl⟩)) (fun i _ => e8 _)
  · rw [e5] at hc
    exact gb_cp (g1 hc) (cpg_fr hx (fun _ => ⟨n rfl, n rfl, n rfl⟩)) (fun i _ => e8 _)
theorem slr_t00 {b : Nat → Int} {N : Nat} {X Y X1 Y1 : XT} {at_ : Int} (h : SLR sd0 0 X Y) (f0 : (txF b N 0).1 = 0) (hx : FR mdT00 X X1) (hy : FR mmWB Y Y1) (cx : cntO X X1 at_ 0 0) (cy : cntQ Y Y1 at_ 0 ((0 : Nat) : Int)) (tb : TBk 7 8 9 (txB b N) X1) (kp : keepR 6 51 0 Y Y1) (br : BRW (fun i => Y1.1 6 (51 * 0 + i)) (txB b N)) (b0 : X1.1 1 0 = 0) (b1 : Y1.1 2 0 = 0) {F : Int × Int} (g0 : FLT F X1) (g1 : FTM F Y1) : SLR sd0 0 X1 Y1 := by
  obtain ⟨c, r, d0, d1, e0, e1⟩ := slr_un h
  have cs := c 0 (by omega)
  have cx : (at_ = -1 ∧ X.1 3 0 = 0 ∧ X1.1 3 0 = 0 + 1) ∨ (at_ = 0 ∧ 0 < X.1 3 0 ∧ X1.1 3 0 = X.1 3 0) := cx
  have cy : (at_ = -1 ∧ Y.1 5 0 = ((0 : Nat) : Int) ∧ Y1.1 5 0 = ((0 : Nat) : Int) + 1) ∨ (at_ = ((0 : Nat) : Int) ∧ ((0 : Nat) : Int) < Y.1 5 0 ∧ Y1.1 5 0 = Y.1 5 0) := cy
  have x1 : X1.1 3 1 = X.1 3 1 := (hx 3 1 rfl).1
  have y1 : Y1.1 5 1 = Y.1 5 1 := (hy 5 1 rfl).1
  have c1 := c 1 (by omega)
  have x2 : X1.1 3 2 = X.1 3 2 := (hx 3 2 rfl).1
  have y2 : Y1.1 5 2 = Y.1 5 2 := (hy 5 2 rfl).1
  have c2 := c 2 (by omega)
  refine slr_mk b0 b1 g0 g1 (fun j hj => by rcases (show j = 0 ∨ j = 1 ∨ j = 2 by omega) with rfl | rfl | rfl <;> omega) (fun k hk hc => ?_) (fun hc => ?_) (fun hc => ?_) (fun hc => ?_) (fun hc => ?_)
  · rw [y1] at hc
    rw [(hx 5 _ rfl).2.1]
    exact (r k hk hc).cg (fun i _ => (hy 7 _ rfl).1)
  · exact ⟨txB b N, ⟨txB_wf f0, txB_sn f0⟩, tb, br.cg (fun i _ => by show Y1.1 6 (0 + i) = Y1.1 6 (51 * 0 + i); rw [show 0 + i = 51 * 0 + i by omega])⟩
  · exact bb_cp (d1 (by omega)) (cpb_fr hx (fun _ => ⟨rfl, rfl, rfl⟩)) (fun i hi => kp _ (by omega))
  · exact gb_cp (e0 (by omega)) (cpg_fr hx (fun _ => ⟨rfl, rfl, rfl⟩)) (fun i _ => (hy 8 _ rfl).1)
  · exact gb_cp (e1 (by omega)) (cpg_fr hx (fun _ => ⟨rfl, rfl, rfl⟩)) (fun i _ => (hy 8 _ rfl).1)
theorem slr_t01 {b : Nat → Int} {N : Nat} {X Y X1 Y1 : XT} {at_ : Int} (h : SLR sd0 0 X Y) (f0 : (txF b N 0).1 = 0) (hx : FR mdT01 X X1) (hy : FR mmWB Y Y1) (cx : cntO X X1 at_ 0 1) (cy : cntQ Y Y1 at_ 0 ((1 : Nat) : Int)) (tb : TBk 10 11 12 (txB b N) X1) (kp : keepR 6 51 1 Y Y1) (br : BRW (fun i => Y1.1 6 (51 * 1 + i)) (txB b N)) (b0 : X1.1 1 0 = 0) (b1 : Y1.1 2 0 = 0) {F : Int × Int} (g0 : FLT F X1) (g1 : FTM F Y1) : SLR sd0 0 X1 Y1 := by
  obtain ⟨c, r, d0, d1, e0, e1⟩ := slr_un h
  have cs := c 0 (by omega)
  have cx : (at_ = -1 ∧ X.1 3 0 = 1 ∧ X1.1 3 0 = 1 + 1) ∨ (at_ = 1 ∧ 1 < X.1 3 0 ∧ X1.1 3 0 = X.1 3 0) := cx
  have cy : (at_ = -1 ∧ Y.1 5 0 = ((1 : Nat) : Int) ∧ Y1.1 5 0 = ((1 : Nat) : Int) + 1) ∨ (at_ = ((1 : Nat) : Int) ∧ ((1 : Nat) : Int) < Y.1 5 0 ∧ Y1.1 5 0 = Y.1 5 0) := cy
  have x1 : X1.1 3 1 = X.1 3 1 := (hx 3 1 rfl).1
  have y1 : Y1.1 5 1 = Y.1 5 1 := (hy 5 1 rfl).1
  have c1 := c 1 (by omega)
  have x2 : X1.1 3 2 = X.1 3 2 := (hx 3 2 rfl).1
  have y2 : Y1.1 5 2 = Y.1 5 2 := (hy 5 2 rfl).1
  have c2 := c 2 (by omega)
  refine slr_mk b0 b1 g0 g1 (fun j hj => by rcases (show j = 0 ∨ j = 1 ∨ j = 2 by omega) with rfl | rfl | rfl <;> omega) (fun k hk hc => ?_) (fun hc => ?_) (fun hc => ?_) (fun hc => ?_) (fun hc => ?_)
  · rw [y1] at hc
    rw [(hx 5 _ rfl).2.1]
    exact (r k hk hc).cg (fun i _ => (hy 7 _ rfl).1)
  · exact bb_cp (d0 (by omega)) (cpb_fr hx (fun _ => ⟨rfl, rfl, rfl⟩)) (fun i hi => kp _ (by omega))
  · exact ⟨txB b N, ⟨txB_wf f0, txB_sn f0⟩, tb, br.cg (fun i _ => by show Y1.1 6 (51 + i) = Y1.1 6 (51 * 1 + i); rw [show 51 + i = 51 * 1 + i by omega])⟩
  · exact gb_cp (e0 (by omega)) (cpg_fr hx (fun _ => ⟨rfl, rfl, rfl⟩)) (fun i _ => (hy 8 _ rfl).1)
  · exact gb_cp (e1 (by omega)) (cpg_fr hx (fun _ => ⟨rfl, rfl, rfl⟩)) (fun i _ => (hy 8 _ rfl).1)
theorem slr_t10 {b : Nat → Int} {N : Nat} {X Y X1 Y1 : XT} {at_ : Int} (h : SLR sd0 0 X Y) (f0 : (txF b N 1).1 = 0) (hx : FR mdT10 X X1) (hy : FR mmWU Y Y1) (cx : cntO X X1 at_ 1 0) (cy : cntQ Y Y1 at_ 1 ((0 : Nat) : Int)) (tb : X1.2.1 5 0 = txR b N) (kp : keepR 7 10 0 Y Y1) (br : RLM (txR b N) (fun i => Y1.1 7 (10 * 0 + i))) (b0 : X1.1 1 0 = 0) (b1 : Y1.1 2 0 = 0) {F : Int × Int} (g0 : FLT F X1) (g1 : FTM F Y1) : SLR sd0 0 X1 Y1 := by
  obtain ⟨c, r, d0, d1, e0, e1⟩ := slr_un h
  have cs := c 1 (by omega)
  have cx : (at_ = -1 ∧ X.1 3 1 = 0 ∧ X1.1 3 1 = 0 + 1) ∨ (at_ = 0 ∧ 0 < X.1 3 1 ∧ X1.1 3 1 = X.1 3 1) := cx
  have cy : (at_ = -1 ∧ Y.1 5 1 = ((0 : Nat) : Int) ∧ Y1.1 5 1 = ((0 : Nat) : Int) + 1) ∨ (at_ = ((0 : Nat) : Int) ∧ ((0 : Nat) : Int) < Y.1 5 1 ∧ Y1.1 5 1 = Y.1 5 1) := cy
  have x0 : X1.1 3 0 = X.1 3 0 := (hx 3 0 rfl).1
  have y0 : Y1.1 5 0 = Y.1 5 0 := (hy 5 0 rfl).1
  have c0 := c 0 (by omega)
  have x2 : X1.1 3 2 = X.1 3 2 := (hx 3 2 rfl).1
  have y2 : Y1.1 5 2 = Y.1 5 2 := (hy 5 2 rfl).1
  have c2 := c 2 (by omega)
  refine slr_mk b0 b1 g0 g1 (fun j hj => by rcases (show j = 0 ∨ j = 1 ∨ j = 2 by omega) with rfl | rfl | rfl <;> omega) (fun k hk hc => ?_) (fun hc => ?_) (fun hc => ?_) (fun hc => ?_) (fun hc => ?_)
  · by_cases e : k = 0
    · subst e
      rw [tb]
      exact br
    · have t := r k hk (by omega)
      rcases (show k = 1 ∨ k = 2 by omega) with rfl | rfl
      · rw [(hx 5 1 rfl).2.1]
        exact t.cg (fun i hi => kp _ (by omega))
      · rw [(hx 5 2 rfl).2.1]
        exact t.cg (fun i hi => kp _ (by omega))
  · exact bb_cp (d0 (by omega)) (cpb_fr hx (fun _ => ⟨rfl, rfl, rfl⟩)) (fun i _ => (hy 6 _ rfl).1)
  · exact bb_cp (d1 (by omega)) (cpb_fr hx (fun _ => ⟨rfl, rfl, rfl⟩)) (fun i _ => (hy 6 _ rfl).1)
  · exact gb_cp (e0 (by omega)) (cpg_fr hx (fun _ => ⟨rfl, rfl, rfl⟩)) (fun i _ => (hy 8 _ rfl).1)
  · exact gb_cp (e1 (by omega)) (cpg_fr hx (fun _ => ⟨rfl, rfl, rfl⟩)) (fun i _ => (hy 8 _ rfl).1)
theorem slr_t11 {b : Nat → Int} {N : Nat} {X Y X1 Y1 : XT} {at_ : Int} (h : SLR sd0 0 X Y) (f0 : (txF b N 1).1 = 0) (hx : FR mdT11 X X1) (hy : FR mmWU Y Y1) (cx : cntO X X1 at_ 1 1) (cy : cntQ Y Y1 at_ 1 ((1 : Nat) : Int)) (tb : X1.2.1 5 1 = txR b N) (kp : keepR 7 10 1 Y Y1) (br : RLM (txR b N) (fun i => Y1.1 7 (10 * 1 + i))) (b0 : X1.1 1 0 = 0) (b1 : Y1.1 2 0 = 0) {F : Int × Int} (g0 : FLT F X1) (g1 : FTM F Y1) : SLR sd0 0 X1 Y1 := by
  obtain ⟨c, r, d0, d1, e0, e1⟩ := slr_un h
  have cs := c 1 (by omega)
  have cx : (at_ = -1 ∧ X.1 3 1 = 1 ∧ X1.1 3 1 = 1 + 1) ∨ (at_ = 1 ∧ 1 < X.1 3 1 ∧ X1.1 3 1 = X.1 3 1) := cx
  have cy : (at_ = -1 ∧ Y.1 5 1 = ((1 : Nat) : Int) ∧ Y1.1 5 1 = ((1 : Nat) : Int) + 1) ∨ (at_ = ((1 : Nat) : Int) ∧ ((1 : Nat) : Int) < Y.1 5 1 ∧ Y1.1 5 1 = Y.1 5 1) := cy
  have x0 : X1.1 3 0 = X.1 3 0 := (hx 3 0 rfl).1
  have y0 : Y1.1 5 0 = Y.1 5 0 := (hy 5 0 rfl).1
  have c0 := c 0 (by omega)
  have x2 : X1.1 3 2 = X.1 3 2 := (hx 3 2 rfl).1
  have y2 : Y1.1 5 2 = Y.1 5 2 := (hy 5 2 rfl).1
  have c2 := c 2 (by omega)
  refine slr_mk b0 b1 g0 g1 (fun j hj => by rcases (show j = 0 ∨ j = 1 ∨ j = 2 by omega) with rfl | rfl | rfl <;> omega) (fun k hk hc => ?_) (fun hc => ?_) (fun hc => ?_) (fun hc => ?_) (fun hc => ?_)
  · by_cases e : k = 1
    · subst e
      rw [tb]
      exact br
    · have t := r k hk (by omega)
      rcases (show k = 0 ∨ k = 2 by omega) with rfl | rfl
      · rw [(hx 5 0 rfl).2.1]
        exact t.cg (fun i hi => kp _ (by omega))
      · rw [(hx 5 2 rfl).2.1]
        exact t.cg (fun i hi => kp _ (by omega))
  · exact bb_cp (d0 (by omega)) (cpb_fr hx (fun _ => ⟨rfl, rfl, rfl⟩)) (fun i _ => (hy 6 _ rfl).1)
  · exact bb_cp (d1 (by omega)) (cpb_fr hx (fun _ => ⟨rfl, rfl, rfl⟩)) (fun i _ => (hy 6 _ rfl).1)
  · exact gb_cp (e0 (by omega)) (cpg_fr hx (fun _ => ⟨rfl, rfl, rfl⟩)) (fun i _ => (hy 8 _ rfl).1)
  · exact gb_cp (e1 (by omega)) (cpg_fr hx (fun _ => ⟨rfl, rfl, rfl⟩)) (fun i _ => (hy 8 _ rfl).1)
theorem slr_t12 {b : Nat → Int} {N : Nat} {X Y X1 Y1 : XT} {at_ : Int} (h : SLR sd0 0 X Y) (f0 : (txF b N 1).1 = 0) (hx : FR mdT12 X X1) (hy : FR mmWU Y Y1) (cx : cntO X X1 at_ 1 2) (cy : cntQ Y Y1 at_ 1 ((2 : Nat) : Int)) (tb : X1.2.1 5 2 = txR b N) (kp : keepR 7 10 2 Y Y1) (br : RLM (txR b N) (fun i => Y1.1 7 (10 * 2 + i))) (b0 : X1.1 1 0 = 0) (b1 : Y1.1 2 0 = 0) {F : Int × Int} (g0 : FLT F X1) (g1 : FTM F Y1) : SLR sd0 0 X1 Y1 := by
  obtain ⟨c, r, d0, d1, e0, e1⟩ := slr_un h
  have cs := c 1 (by omega)
  have cx : (at_ = -1 ∧ X.1 3 1 = 2 ∧ X1.1 3 1 = 2 + 1) ∨ (at_ = 2 ∧ 2 < X.1 3 1 ∧ X1.1 3 1 = X.1 3 1) := cx
  have cy : (at_ = -1 ∧ Y.1 5 1 = ((2 : Nat) : Int) ∧ Y1.1 5 1 = ((2 : Nat) : Int) + 1) ∨ (at_ = ((2 : Nat) : Int) ∧ ((2 : Nat) : Int) < Y.1 5 1 ∧ Y1.1 5 1 = Y.1 5 1) := cy
  have x0 : X1.1 3 0 = X.1 3 0 := (hx 3 0 rfl).1
  have y0 : Y1.1 5 0 = Y.1 5 0 := (hy 5 0 rfl).1
  have c0 := c 0 (by omega)
  have x2 : X1.1 3 2 = X.1 3 2 := (hx 3 2 rfl).1
  have y2 : Y1.1 5 2 = Y.1 5 2 := (hy 5 2 rfl).1
  have c2 := c 2 (by omega)
  refine slr_mk b0 b1 g0 g1 (fun j hj => by rcases (show j = 0 ∨ j = 1 ∨ j = 2 by omega) with rfl | rfl | rfl <;> omega) (fun k hk hc => ?_) (fun hc => ?_) (fun hc => ?_) (fun hc => ?_) (fun hc => ?_)
  · by_cases e : k = 2
    · subst e
      rw [tb]
      exact br
    · have t := r k hk (by omega)
      rcases (show k = 0 ∨ k = 1 by omega) with rfl | rfl
      · rw [(hx 5 0 rfl).2.1]
        exact t.cg (fun i hi => kp _ (by omega))
      · rw [(hx 5 1 rfl).2.1]
        exact t.cg (fun i hi => kp _ (by omega))
  · exact bb_cp (d0 (by omega)) (cpb_fr hx (fun _ => ⟨rfl, rfl, rfl⟩)) (fun i _ => (hy 6 _ rfl).1)
  · exact bb_cp (d1 (by omega)) (cpb_fr hx (fun _ => ⟨rfl, rfl, rfl⟩)) (fun i _ => (hy 6 _ rfl).1)
  · exact gb_cp (e0 (by omega)) (cpg_fr hx (fun _ => ⟨rfl, rfl, rfl⟩)) (fun i _ => (hy 8 _ rfl).1)
  · exact gb_cp (e1 (by omega)) (cpg_fr hx (fun _ => ⟨rfl, rfl, rfl⟩)) (fun i _ => (hy 8 _ rfl).1)
theorem slr_t20 {b : Nat → Int} {N : Nat} {X Y X1 Y1 : XT} {at_ : Int} (h : SLR sd0 0 X Y) (f0 : (txF b N 2).1 = 0) (hx : FR mdT20 X X1) (hy : FR mmWG Y Y1) (cx : cntO X X1 at_ 2 0) (cy : cntQ Y Y1 at_ 2 ((0 : Nat) : Int)) (tb : TGk 13 14 15 (txG b N) X1) (kp : keepR 8 331 0 Y Y1) (br : GRW (fun i => Y1.1 8 (331 * 0 + i)) (txG b N)) (b0 : X1.1 1 0 = 0) (b1 : Y1.1 2 0 = 0) {F : Int × Int} (g0 : FLT F X1) (g1 : FTM F Y1) : SLR sd0 0 X1 Y1 := by
  obtain ⟨c, r, d0, d1, e0, e1⟩ := slr_un h
  have cs := c 2 (by omega)
  have cx : (at_ = -1 ∧ X.1 3 2 = 0 ∧ X1.1 3 2 = 0 + 1) ∨ (at_ = 0 ∧ 0 < X.1 3 2 ∧ X1.1 3 2 = X.1 3 2) := cx
  have cy : (at_ = -1 ∧ Y.1 5 2 = ((0 : Nat) : Int) ∧ Y1.1 5 2 = ((0 : Nat) : Int) + 1) ∨ (at_ = ((0 : Nat) : Int) ∧ ((0 : Nat) : Int) < Y.1 5 2 ∧ Y1.1 5 2 = Y.1 5 2) := cy
  have x0 : X1.1 3 0 = X.1 3 0 := (hx 3 0 rfl).1
  have y0 : Y1.1 5 0 = Y.1 5 0 := (hy 5 0 rfl).1
  have c0 := c 0 (by omega)
  have x1 : X1.1 3 1 = X.1 3 1 := (hx 3 1 rfl).1
  have y1 : Y1.1 5 1 = Y.1 5 1 := (hy 5 1 rfl).1
  have c1 := c 1 (by omega)
  refine slr_mk b0 b1 g0 g1 (fun j hj => by rcases (show j = 0 ∨ j = 1 ∨ j = 2 by omega) with rfl | rfl | rfl <;> omega) (fun k hk hc => ?_) (fun hc => ?_) (fun hc => ?_) (fun hc => ?_) (fun hc => ?_)
  · rw [y1] at hc
    rw [(hx 5 _ rfl).2.1]
    exact (r k hk hc).cg (fun i _ => (hy 7 _ rfl).1)
  · exact bb_cp (d0 (by omega)) (cpb_fr hx (fun _ => ⟨rfl, rfl, rfl⟩)) (fun i _ => (hy 6 _ rfl).1)
  · exact bb_cp (d1 (by omega)) (cpb_fr hx (fun _ => ⟨rfl, rfl, rfl⟩)) (fun i _ => (hy 6 _ rfl).1)
  · exact ⟨txG b N, tb, br.cg (fun i _ => by show Y1.1 8 (0 + i) = Y1.1 8 (331 * 0 + i); rw [show 0 + i = 331 * 0 + i by omega])⟩
  · exact gb_cp (e1 (by omega)) (cpg_fr hx (fun _ => ⟨rfl, rfl, rfl⟩)) (fun i hi => kp _ (by omega))
theorem slr_t21 {b : Nat → Int} {N : Nat} {X Y X1 Y1 : XT} {at_ : Int} (h : SLR sd0 0 X Y) (f0 : (txF b N 2).1 = 0) (hx : FR mdT21 X X1) (hy : FR mmWG Y Y1) (cx : cntO X X1 at_ 2 1) (cy : cntQ Y Y1 at_ 2 ((1 : Nat) : Int)) (tb : TGk 16 17 18 (txG b N) X1) (kp : keepR 8 331 1 Y Y1) (br : GRW (fun i => Y1.1 8 (331 * 1 + i)) (txG b N)) (b0 : X1.1 1 0 = 0) (b1 : Y1.1 2 0 = 0) {F : Int × Int} (g0 : FLT F X1) (g1 : FTM F Y1) : SLR sd0 0 X1 Y1 := by
  obtain ⟨c, r, d0, d1, e0, e1⟩ := slr_un h
  have cs := c 2 (by omega)
  have cx : (at_ = -1 ∧ X.1 3 2 = 1 ∧ X1.1 3 2 = 1 + 1) ∨ (at_ = 1 ∧ 1 < X.1 3 2 ∧ X1.1 3 2 = X.1 3 2) := cx
  have cy : (at_ = -1 ∧ Y.1 5 2 = ((1 : Nat) : Int) ∧ Y1.1 5 2 = ((1 : Nat) : Int) + 1) ∨ (at_ = ((1 : Nat) : Int) ∧ ((1 : Nat) : Int) < Y.1 5 2 ∧ Y1.1 5 2 = Y.1 5 2) := cy
  have x0 : X1.1 3 0 = X.1 3 0 := (hx 3 0 rfl).1
  have y0 : Y1.1 5 0 = Y.1 5 0 := (hy 5 0 rfl).1
  have c0 := c 0 (by omega)
  have x1 : X1.1 3 1 = X.1 3 1 := (hx 3 1 rfl).1
  have y1 : Y1.1 5 1 = Y.1 5 1 := (hy 5 1 rfl).1
  have c1 := c 1 (by omega)
  refine slr_mk b0 b1 g0 g1 (fun j hj => by rcases (show j = 0 ∨ j = 1 ∨ j = 2 by omega) with rfl | rfl | rfl <;> omega) (fun k hk hc => ?_) (fun hc => ?_) (fun hc => ?_) (fun hc => ?_) (fun hc => ?_)
  · rw [y1] at hc
    rw [(hx 5 _ rfl).2.1]
    exact (r k hk hc).cg (fun i _ => (hy 7 _ rfl).1)
  · exact bb_cp (d0 (by omega)) (cpb_fr hx (fun _ => ⟨rfl, rfl, rfl⟩)) (fun i _ => (hy 6 _ rfl).1)
  · exact bb_cp (d1 (by omega)) (cpb_fr hx (fun _ => ⟨rfl, rfl, rfl⟩)) (fun i _ => (hy 6 _ rfl).1)
  · exact gb_cp (e0 (by omega)) (cpg_fr hx (fun _ => ⟨rfl, rfl, rfl⟩)) (fun i hi => kp _ (by omega))
  · exact ⟨txG b N, tb, br.cg (fun i _ => by show Y1.1 8 (331 + i) = Y1.1 8 (331 * 1 + i); rw [show 331 + i = 331 * 1 + i by omega])⟩
theorem slr_text {b : Nat → Int} {N : Nat} {X Y X1 Y1 : XT} {st at_ u v : Int} (h : SLR sd0 0 X Y) (tx : TXP b N X X1 st at_ u) (tm : TXM b N Y Y1 st at_ v) : SLR sd0 0 X1 Y1 ∧ u = v := by
  obtain ⟨c, -⟩ := slr_un h
  obtain ⟨b0, t1⟩ := tx
  obtain ⟨b1, t2⟩ := tm
  have rm := room_iff (st := st) (at_ := at_) h
  rcases t1 with ⟨u1, nr, hx, fx⟩ | ⟨r1, fx, t1⟩
  · rcases t2 with ⟨v1, -, hy, fy⟩ | ⟨r2, -⟩
    · exact ⟨slr_nt h hx hy rfl rfl b0 b1 fx fy, by omega⟩
    · exact absurd (rm.mpr r2) nr
  rcases t2 with ⟨-, nr, -⟩ | ⟨-, fy, t2⟩
  · exact absurd (rm.mp r1) nr
  rcases t1 with ⟨u1, f1, hx⟩ | ⟨f0, t1⟩
  · rcases t2 with ⟨v1, -, hy⟩ | ⟨f2, -⟩
    · exact ⟨slr_nt h hx hy rfl rfl b0 b1 fx fy, by omega⟩
    · exact absurd f2 f1
  rcases t2 with ⟨-, f2, -⟩ | ⟨-, m, vm, cy, t2⟩
  · exact absurd f0 f2
  have c0 := c 0 (by omega)
  have c1 := c 1 (by omega)
  have c2 := c 2 (by omega)
  rcases t1 with ⟨s1, u1, hx, cx, tb⟩ | ⟨s1, u1, hx, cx, tb⟩ | ⟨s1, u1, hx, cx, tb⟩ | ⟨s1, u1, hx, cx, tb⟩ | ⟨s1, u1, hx, cx, tb⟩ | ⟨s1, u1, hx, cx, tb⟩ | ⟨s1, u1, hx, cx, tb⟩
  · subst s1
    have cx1 : (at_ = -1 ∧ X.1 3 0 = 0 ∧ X1.1 3 0 = 0 + 1) ∨ (at_ = 0 ∧ 0 < X.1 3 0 ∧ X1.1 3 0 = X.1 3 0) := cx
    have cy1 : (at_ = -1 ∧ Y.1 5 0 = (m : Int) ∧ Y1.1 5 0 = (m : Int) + 1) ∨ (at_ = (m : Int) ∧ (m : Int) < Y.1 5 0 ∧ Y1.1 5 0 = Y.1 5 0) := cy
    have em : m = 0 := by omega
    subst em
    rcases t2 with ⟨s2, -, hy, kp, br⟩ | ⟨s2, -, hy, kp, br⟩ | ⟨s2, -, hy, kp, br⟩
    · exact ⟨slr_t00 h f0 hx hy cx cy tb kp br b0 b1 fx fy, by omega⟩
    · exact absurd s2 (by decide)
    · exact absurd s2 (by decide)
  · subst s1
    have cx1 : (at_ = -1 ∧ X.1 3 0 = 1 ∧ X1.1 3 0 = 1 + 1) ∨ (at_ = 1 ∧ 1 < X.1 3 0 ∧ X1.1 3 0 = X.1 3 0) := cx
    have cy1 : (at_ = -1 ∧ Y.1 5 0 = (m : Int) ∧ Y1.1 5 0 = (m : Int) + 1) ∨ (at_ = (m : Int) ∧ (m : Int) < Y.1 5 0 ∧ Y1.1 5 0 = Y.1 5 0) := cy
    have em : m = 1 := by omega
    subst em
    rcases t2 with ⟨s2, -, hy, kp, br⟩ | ⟨s2, -, hy, kp, br⟩ | ⟨s2, -, hy, kp, br⟩
    · exact ⟨slr_t01 h f0 hx hy cx cy tb kp br b0 b1 fx fy, by omega⟩
    · exact absurd s2 (by decide)
    · exact absurd s2 (by decide)
  · subst s1
    have cx1 : (at_ = -1 ∧ X.1 3 1 = 0 ∧ X1.1 3 1 = 0 + 1) ∨ (at_ = 0 ∧ 0 < X.1 3 1 ∧ X1.1 3 1 = X.1 3 1) := cx
    have cy1 : (at_ = -1 ∧ Y.1 5 1 = (m : Int) ∧ Y1.1 5 1 = (m : Int) + 1) ∨ (at_ = (m : Int) ∧ (m : Int) < Y.1 5 1 ∧ Y1.1 5 1 = Y.1 5 1) := cy
    have em : m = 0 := by omega
    subst em
    rcases t2 with ⟨s2, -, hy, kp, br⟩ | ⟨s2, -, hy, kp, br⟩ | ⟨s2, -, hy, kp, br⟩
    · exact absurd s2 (by decide)
    · exact ⟨slr_t10 h f0 hx hy cx cy tb kp br b0 b1 fx fy, by omega⟩
    · exact absurd s2 (by decide)
  · subst s1
    have cx1 : (at_ = -1 ∧ X.1 3 1 = 1 ∧ X1.1 3 1 = 1 + 1) ∨ (at_ = 1 ∧ 1 < X.1 3 1 ∧ X1.1 3 1 = X.1 3 1) := cx
    have cy1 : (at_ = -1 ∧ Y.1 5 1 = (m : Int) ∧ Y1.1 5 1 = (m : Int) + 1) ∨ (at_ = (m : Int) ∧ (m : Int) < Y.1 5 1 ∧ Y1.1 5 1 = Y.1 5 1) := cy
    have em : m = 1 := by omega
    subst em
    rcases t2 with ⟨s2, -, hy, kp, br⟩ | ⟨s2, -, hy, kp, br⟩ | ⟨s2, -, hy, kp, br⟩
    · exact absurd s2 (by decide)
    · exact ⟨slr_t11 h f0 hx hy cx cy tb kp br b0 b1 fx fy, by omega⟩
    · exact absurd s2 (by decide)
  · subst s1
    have cx1 : (at_ = -1 ∧ X.1 3 1 = 2 ∧ X1.1 3 1 = 2 + 1) ∨ (at_ = 2 ∧ 2 < X.1 3 1 ∧ X1.1 3 1 = X.1 3 1) := cx
    have cy1 : (at_ = -1 ∧ Y.1 5 1 = (m : Int) ∧ Y1.1 5 1 = (m : Int) + 1) ∨ (at_ = (m : Int) ∧ (m : Int) < Y.1 5 1 ∧ Y1.1 5 1 = Y.1 5 1) := cy
    have em : m = 2 := by omega
    subst em
    rcases t2 with ⟨s2, -, hy, kp, br⟩ | ⟨s2, -, hy, kp, br⟩ | ⟨s2, -, hy, kp, br⟩
    · exact absurd s2 (by decide)
    · exact ⟨slr_t12 h f0 hx hy cx cy tb kp br b0 b1 fx fy, by omega⟩
    · exact absurd s2 (by decide)
  · subst s1
    have cx1 : (at_ = -1 ∧ X.1 3 2 = 0 ∧ X1.1 3 2 = 0 + 1) ∨ (at_ = 0 ∧ 0 < X.1 3 2 ∧ X1.1 3 2 = X.1 3 2) := cx
    have cy1 : (at_ = -1 ∧ Y.1 5 2 = (m : Int) ∧ Y1.1 5 2 = (m : Int) + 1) ∨ (at_ = (m : Int) ∧ (m : Int) < Y.1 5 2 ∧ Y1.1 5 2 = Y.1 5 2) := cy
    have em : m = 0 := by omega
    subst em
    rcases t2 with ⟨s2, -, hy, kp, br⟩ | ⟨s2, -, hy, kp, br⟩ | ⟨s2, -, hy, kp, br⟩
    · exact absurd s2 (by decide)
    · exact absurd s2 (by decide)
    · exact ⟨slr_t20 h f0 hx hy cx cy tb kp br b0 b1 fx fy, by omega⟩
  · subst s1
    have cx1 : (at_ = -1 ∧ X.1 3 2 = 1 ∧ X1.1 3 2 = 1 + 1) ∨ (at_ = 1 ∧ 1 < X.1 3 2 ∧ X1.1 3 2 = X.1 3 2) := cx
    have cy1 : (at_ = -1 ∧ Y.1 5 2 = (m : Int) ∧ Y1.1 5 2 = (m : Int) + 1) ∨ (at_ = (m : Int) ∧ (m : Int) < Y.1 5 2 ∧ Y1.1 5 2 = Y.1 5 2) := cy
    have em : m = 1 := by omega
    subst em
    rcases t2 with ⟨s2, -, hy, kp, br⟩ | ⟨s2, -, hy, kp, br⟩ | ⟨s2, -, hy, kp, br⟩
    · exact absurd s2 (by decide)
    · exact absurd s2 (by decide)
    · exact ⟨slr_t21 h f0 hx hy cx cy tb kp br b0 b1 fx fy, by omega⟩
