/-! ===== the public calls, in plain words ===== -/
def gA (zs : List Int) : SG := (fun j => (0 :: zs).getD j 0, fun _ => 0)
theorem dn_i {g : SG} {p : AV} (h : Nat.beq p.1 0 = true) : dn g p = .int (iI (dI g p)) := dn0 h
theorem dn_l {g : SG} {p : AV} (h : Nat.beq p.1 1 = true) : ∃ l, dn g p = .long l := by
  obtain ⟨t, b, c⟩ := p
  have h := Nat.eq_of_beq_eq_true h
  have h : t = 1 := h
  subst h
  exact ⟨_, rfl⟩
def resK (k : Nat) (a : AL) : Bool := match aRs a with
  | some p => Nat.beq p.1 k
  | none => false
theorem pub0 {MT : Nat → MD} {V : VW} {G : GT} {w : WT} {c : CT} (h : CTR MT V G w c) (hr : (cAl c).all (resK 0) = true) {g : SG} {X : XT} (hp : preC V G c g X) : MetX w (MT (cId c)).1 (MT (cId c)).2.1 (MT (cId c)).2.2.1 (MT (cId c)).2.2.2 (cFr c) (cLo c) ((cAr c).map (dn g)) X (fun r X' => (∃ u : Int32, r = some (.int u)) ∧ HG V X' ∧ G.2 X' ∧ FR (cMd c) X X') :=
  MetX.imp (fun r X' q => by
    obtain ⟨a, ha, g', -, -, -, rfl, -, -, hH, hE, hF⟩ := q
    have t := List.all_eq_true.mp hr a ha
    refine ⟨?_, hH, hE, hF⟩
    unfold resK at t
    cases e : aRs a with
    | none => rw [e] at t; cases t
    | some p =>
      rw [e] at t
      exact ⟨_, congrArg some (dn_i (g := g') (p := p) t)⟩) (h g X hp)
theorem pub1 {MT : Nat → MD} {V : VW} {G : GT} {w : WT} {c : CT} (h : CTR MT V G w c) (hr : (cAl c).all (resK 1) = true) {g : SG} {X : XT} (hp : preC V G c g X) : MetX w (MT (cId c)).1 (MT (cId c)).2.1 (MT (cId c)).2.2.1 (MT (cId c)).2.2.2 (cFr c) (cLo c) ((cAr c).map (dn g)) X (fun r X' => (∃ u : Int64, r = some (.long u)) ∧ HG V X' ∧ G.2 X' ∧ FR (cMd c) X X') :=
  MetX.imp (fun r X' q => by
    obtain ⟨a, ha, g', -, -, -, rfl, -, -, hH, hE, hF⟩ := q
    have t := List.all_eq_true.mp hr a ha
    refine ⟨?_, hH, hE, hF⟩
    unfold resK at t
    cases e : aRs a with
    | none => rw [e] at t; cases t
    | some p =>
      rw [e] at t
      obtain ⟨l, hl⟩ := dn_l (g := g') (p := p) t
      exact ⟨l, congrArg some hl⟩) (h g X hp)
set_option maxRecDepth 10000 in
theorem xp_feed {D : va_G} {ad : Nat → Nat} {cA : Nat → ClassId} {X : XT} {z1 z2 z3 z4 z5 : Int} (h1 : inR z1) (h2 : inR z2) (h3 : inR z3) (h4 : inR z4) (h5 : inR z5) (hH : HG vX X) (hE : gX.2 X) : MetX (wX D ad cA) yX11_feed cX11_feed 6 (some .int) 1 22 [.ref 0, .int (iI (z1)), .int (iI (z2)), .int (iI (z3)), .int (iI (z4)), .int (iI (z5))] X (fun r X' => (∃ u : Int, r = some (.int (iI u)) ∧ inR u ∧ ((581 ≤ X.1 1 0 ∧ u = (-1) ∧ X'.1 1 0 = X.1 1 0 ∧ X'.1 104 0 = X.1 104 0 ∧ X'.1 122 0 = X.1 122 0 ∧ X'.1 140 0 = X.1 140 0 ∧ X'.1 20 0 = X.1 20 0 ∧ X'.1 20 1 = X.1 20 1 ∧ X'.1 20 2 = X.1 20 2) ∨ (X.1 1 0 ≤ 580 ∧ u = X.1 1 0 + 20 ∧ X'.1 1 0 = X.1 1 0 + 20 ∧ X'.1 104 0 = X.1 104 0 ∧ X'.1 122 0 = X.1 122 0 ∧ X'.1 140 0 = X.1 140 0 ∧ X'.1 20 0 = X.1 20 0 ∧ X'.1 20 1 = X.1 20 1 ∧ X'.1 20 2 = X.1 20 2))) ∧ HG vX X' ∧ gX.2 X') := by
  have e : (cAr k_X_443).map (dn (gA [z1, z2, z3, z4, z5, X.1 1 0])) = [.ref 0, .int (iI (z1)), .int (iI (z2)), .int (iI (z3)), .int (iI (z4)), .int (iI (z5))] := by
    show [Value.ref 0, Value.int (iI (z1 + 0)), Value.int (iI (z2 + 0)), Value.int (iI (z3 + 0)), Value.int (iI (z4 + 0)), Value.int (iI (z5 + 0))] = _
    simp only [Int.add_zero]
  have t := t_X_443 (D := D) (ad := ad) (cA := cA) (gA [z1, z2, z3, z4, z5, X.1 1 0]) X ⟨rfl, (ei_cons (by show (0 : Int) ≤ 0 ∧ (0 : Int) ≤ 0; omega) (ei_cons h1 (ei_cons h2 (ei_cons h3 (ei_cons h4 (ei_cons h5 (ei_cons (show (0 : Int) ≤ X.1 1 0 ∧ X.1 1 0 ≤ 600 from hH.rF (k := 1) (i := 0) (p := (0, 600)) rfl rfl) ei_nil))))))), el_nil, (dl_cons (show X.1 1 0 = X.1 1 0 + 0 by omega) dl_nil), hH, hE⟩
  rw [e] at t
  refine MetX.imp (fun r X' hp => ?_) t
  obtain ⟨a, ha, g1, hx, hei, hel, rfl, hdl, hgd, hH1, hE1, hF1⟩ := hp
  refine ⟨?_, hH1, hE1⟩
  have e0 : g1.1 0 = 0 := hx.1 0 (by decide)
  have e1 : g1.1 1 = z1 := hx.1 1 (by decide)
  have e2 : g1.1 2 = z2 := hx.1 2 (by decide)
  have e3 : g1.1 3 = z3 := hx.1 3 (by decide)
  have e4 : g1.1 4 = z4 := hx.1 4 (by decide)
  have e5 : g1.1 5 = z5 := hx.1 5 (by decide)
  have e6 : g1.1 6 = X.1 1 0 := hx.1 6 (by decide)
  simp only [cAl, k_X_443, List.mem_cons, List.not_mem_nil, or_false] at ha
  rcases ha with rfl | rfl
  · have b1 : ((-2147483648) : Int) ≤ g1.1 1 ∧ g1.1 1 ≤ 2147483647 := hei 1 _ rfl
    have b2 : ((-2147483648) : Int) ≤ g1.1 2 ∧ g1.1 2 ≤ 2147483647 := hei 2 _ rfl
    have b3 : ((-2147483648) : Int) ≤ g1.1 3 ∧ g1.1 3 ≤ 2147483647 := hei 3 _ rfl
    have b4 : ((-2147483648) : Int) ≤ g1.1 4 ∧ g1.1 4 ≤ 2147483647 := hei 4 _ rfl
    have b5 : ((-2147483648) : Int) ≤ g1.1 5 ∧ g1.1 5 ≤ 2147483647 := hei 5 _ rfl
    have b6 : (581 : Int) ≤ g1.1 6 ∧ g1.1 6 ≤ 600 := hei 6 _ rfl
    have d1_0 : X'.1 1 0 = g1.1 6 + 0 := hdl ((1, 0), (0, 6, 0)) (.head _)
    exact ⟨g1.1 0 + (-1), rfl, ⟨by omega, by omega⟩, .inl ⟨by omega, by omega, by omega, (hF1 104 0 rfl).1, (hF1 122 0 rfl).1, (hF1 140 0 rfl).1, (hF1 20 0 rfl).1, (hF1 20 1 rfl).1, (hF1 20 2 rfl).1⟩⟩
  · have b1 : ((-2147483648) : Int) ≤ g1.1 1 ∧ g1.1 1 ≤ 2147483647 := hei 1 _ rfl
    have b2 : ((-2147483648) : Int) ≤ g1.1 2 ∧ g1.1 2 ≤ 2147483647 := hei 2 _ rfl
    have b3 : ((-2147483648) : Int) ≤ g1.1 3 ∧ g1.1 3 ≤ 2147483647 := hei 3 _ rfl
    have b4 : ((-2147483648) : Int) ≤ g1.1 4 ∧ g1.1 4 ≤ 2147483647 := hei 4 _ rfl
    have b5 : ((-2147483648) : Int) ≤ g1.1 5 ∧ g1.1 5 ≤ 2147483647 := hei 5 _ rfl
    have b6 : (0 : Int) ≤ g1.1 6 ∧ g1.1 6 ≤ 580 := hei 6 _ rfl
    have d1_0 : X'.1 1 0 = g1.1 6 + 20 := hdl ((1, 0), (0, 6, 20)) (.head _)
    exact ⟨g1.1 6 + 20, rfl, ⟨by omega, by omega⟩, .inr (⟨by omega, by omega, by omega, (hF1 104 0 rfl).1, (hF1 122 0 rfl).1, (hF1 140 0 rfl).1, (hF1 20 0 rfl).1, (hF1 20 1 rfl).1, (hF1 20 2 rfl).1⟩)⟩
set_option maxRecDepth 10000 in
theorem xp_fault {D : va_G} {ad : Nat → Nat} {cA : Nat → ClassId} {X : XT} {z1 : Int} (h1 : inR z1) (hH : HG vX X) (hE : gX.2 X) : MetX (wX D ad cA) yX11_fault cX11_fault 2 (some .int) 0 0 [.ref 0, .int (iI (z1))] X (fun r X' => (∃ u : Int32, r = some (.int u)) ∧ HG vX X' ∧ gX.2 X' ∧ FR (cMd k_X_3) X X') := by
  have e : (cAr k_X_3).map (dn (gA [z1])) = [.ref 0, .int (iI (z1))] := by
    show [Value.ref 0, Value.int (iI (z1 + 0))] = _
    simp only [Int.add_zero]
  have t := pub0 (t_X_3 (D := D) (ad := ad) (cA := cA)) rfl (g := (gA [z1])) (X := X) ⟨rfl, (ei_cons (by show (0 : Int) ≤ 0 ∧ (0 : Int) ≤ 0; omega) (ei_cons h1 ei_nil)), el_nil, dl_nil, hH, hE⟩
  rw [e] at t
  exact t
set_option maxRecDepth 10000 in
theorem xp_board {D : va_G} {ad : Nat → Nat} {cA : Nat → ClassId} {X : XT} {z1 z2 : Int} (h1 : inR z1) (h2 : inR z2) (hH : HG vX X) (hE : gX.2 X) : MetX (wX D ad cA) yX11_board cX11_board 4 (some .int) 1 21 [.ref 0, .int (iI (z1)), .int (iI (z2))] X (fun r X' => (∃ u : Int32, r = some (.int u)) ∧ HG vX X' ∧ gX.2 X' ∧ FR (cMd k_X_6) X X') := by
  have e : (cAr k_X_6).map (dn (gA [z1, z2])) = [.ref 0, .int (iI (z1)), .int (iI (z2))] := by
    show [Value.ref 0, Value.int (iI (z1 + 0)), Value.int (iI (z2 + 0))] = _
    simp only [Int.add_zero]
  have t := pub0 (t_X_6 (D := D) (ad := ad) (cA := cA)) rfl (g := (gA [z1, z2])) (X := X) ⟨rfl, (ei_cons (by show (0 : Int) ≤ 0 ∧ (0 : Int) ≤ 0; omega) (ei_cons h1 (ei_cons h2 ei_nil))), el_nil, dl_nil, hH, hE⟩
  rw [e] at t
  exact t
set_option maxRecDepth 10000 in
theorem xp_field {D : va_G} {ad : Nat → Nat} {cA : Nat → ClassId} {X : XT} {z1 z2 : Int} (h1 : inR z1) (h2 : inR z2) (hH : HG vX X) (hE : gX.2 X) : MetX (wX D ad cA) yX11_field cX11_field 5 (some .int) 1 22 [.ref 0, .int (iI (z1)), .int (iI (z2))] X (fun r X' => (∃ u : Int32, r = some (.int u)) ∧ HG vX X' ∧ gX.2 X' ∧ FR (cMd k_X_12) X X') := by
  have e : (cAr k_X_12).map (dn (gA [z1, z2])) = [.ref 0, .int (iI (z1)), .int (iI (z2))] := by
    show [Value.ref 0, Value.int (iI (z1 + 0)), Value.int (iI (z2 + 0))] = _
    simp only [Int.add_zero]
  have t := pub0 (t_X_12 (D := D) (ad := ad) (cA := cA)) rfl (g := (gA [z1, z2])) (X := X) ⟨rfl, (ei_cons (by show (0 : Int) ≤ 0 ∧ (0 : Int) ≤ 0; omega) (ei_cons h1 (ei_cons h2 ei_nil))), el_nil, dl_nil, hH, hE⟩
  rw [e] at t
  exact t
set_option maxRecDepth 10000 in
theorem xp_man {D : va_G} {ad : Nat → Nat} {cA : Nat → ClassId} {X : XT} {z1 z2 z3 : Int} (h1 : inR z1) (h2 : inR z2) (h3 : inR z3) (hH : HG vX X) (hE : gX.2 X) : MetX (wX D ad cA) yX11_man cX11_man 5 (some .int) 1 21 [.ref 0, .int (iI (z1)), .int (iI (z2)), .int (iI (z3))] X (fun r X' => (∃ u : Int32, r = some (.int u)) ∧ HG vX X' ∧ gX.2 X' ∧ FR (cMd k_X_15) X X') := by
  have e : (cAr k_X_15).map (dn (gA [z1, z2, z3])) = [.ref 0, .int (iI (z1)), .int (iI (z2)), .int (iI (z3))] := by
    show [Value.ref 0, Value.int (iI (z1 + 0)), Value.int (iI (z2 + 0)), Value.int (iI (z3 + 0))] = _
    simp only [Int.add_zero]
  have t := pub0 (t_X_15 (D := D) (ad := ad) (cA := cA)) rfl (g := (gA [z1, z2, z3])) (X := X) ⟨rfl, (ei_cons (by show (0 : Int) ≤ 0 ∧ (0 : Int) ≤ 0; omega) (ei_cons h1 (ei_cons h2 (ei_cons h3 ei_nil)))), el_nil, dl_nil, hH, hE⟩
  rw [e] at t
  exact t
set_option maxRecDepth 10000 in
theorem xp_rule {D : va_G} {ad : Nat → Nat} {cA : Nat → ClassId} {X : XT} {z1 z2 : Int} (h1 : inR z1) (h2 : inR z2) (hH : HG vX X) (hE : gX.2 X) : MetX (wX D ad cA) yX11_rule cX11_rule 5 (some .int) 1 22 [.ref 0, .int (iI (z1)), .int (iI (z2))] X (fun r X' => (∃ u : Int32, r = some (.int u)) ∧ HG vX X' ∧ gX.2 X' ∧ FR (cMd k_X_19) X X') := by
  have e : (cAr k_X_19).map (dn (gA [z1, z2])) = [.ref 0, .int (iI (z1)), .int (iI (z2))] := by
    show [Value.ref 0, Value.int (iI (z1 + 0)), Value.int (iI (z2 + 0))] = _
    simp only [Int.add_zero]
  have t := pub0 (t_X_19 (D := D) (ad := ad) (cA := cA)) rfl (g := (gA [z1, z2])) (X := X) ⟨rfl, (ei_cons (by show (0 : Int) ≤ 0 ∧ (0 : Int) ≤ 0; omega) (ei_cons h1 (ei_cons h2 ei_nil))), el_nil, dl_nil, hH, hE⟩
  rw [e] at t
  exact t
set_option maxRecDepth 10000 in
theorem xp_ends {D : va_G} {ad : Nat → Nat} {cA : Nat → ClassId} {X : XT} {z1 z2 z3 : Int} (h1 : inR z1) (h2 : inR z2) (h3 : inR z3) (hH : HG vX X) (hE : gX.2 X) : MetX (wX D ad cA) yX11_ends cX11_ends 5 (some .long) 6 209 [.ref 0, .int (iI (z1)), .int (iI (z2)), .int (iI (z3))] X (fun r X' => (∃ u : Int64, r = some (.long u)) ∧ HG vX X' ∧ gX.2 X' ∧ FR (cMd k_X_46) X X') := by
  have e : (cAr k_X_46).map (dn (gA [z1, z2, z3])) = [.ref 0, .int (iI (z1)), .int (iI (z2)), .int (iI (z3))] := by
    show [Value.ref 0, Value.int (iI (z1 + 0)), Value.int (iI (z2 + 0)), Value.int (iI (z3 + 0))] = _
    simp only [Int.add_zero]
  have t := pub1 (t_X_46 (D := D) (ad := ad) (cA := cA)) rfl (g := (gA [z1, z2, z3])) (X := X) ⟨rfl, (ei_cons (by show (0 : Int) ≤ 0 ∧ (0 : Int) ≤ 0; omega) (ei_cons h1 (ei_cons h2 (ei_cons h3 ei_nil)))), el_nil, dl_nil, hH, hE⟩
  rw [e] at t
  exact t
set_option maxRecDepth 10000 in
theorem xp_ways {D : va_G} {ad : Nat → Nat} {cA : Nat → ClassId} {X : XT} {z1 z2 z3 z4 : Int} (h1 : inR z1) (h2 : inR z2) (h3 : inR z3) (h4 : inR z4) (hH : HG vX X) (hE : gX.2 X) : MetX (wX D ad cA) yX11_ways cX11_ways 6 (some .int) 6 149 [.ref 0, .int (iI (z1)), .int (iI (z2)), .int (iI (z3)), .int (iI (z4))] X (fun r X' => (∃ u : Int32, r = some (.int u)) ∧ HG vX X' ∧ gX.2 X' ∧ FR (cMd k_X_79) X X') := by
  have e : (cAr k_X_79).map (dn (gA [z1, z2, z3, z4])) = [.ref 0, .int (iI (z1)), .int (iI (z2)), .int (iI (z3)), .int (iI (z4))] := by
    show [Value.ref 0, Value.int (iI (z1 + 0)), Value.int (iI (z2 + 0)), Value.int (iI (z3 + 0)), Value.int (iI (z4 + 0))] = _
    simp only [Int.add_zero]
  have t := pub0 (t_X_79 (D := D) (ad := ad) (cA := cA)) rfl (g := (gA [z1, z2, z3, z4])) (X := X) ⟨rfl, (ei_cons (by show (0 : Int) ≤ 0 ∧ (0 : Int) ≤ 0; omega) (ei_cons h1 (ei_cons h2 (ei_cons h3 (ei_cons h4 ei_nil))))), el_nil, dl_nil, hH, hE⟩
  rw [e] at t
  exact t
set_option maxRecDepth 10000 in
theorem xp_path {D : va_G} {ad : Nat → Nat} {cA : Nat → ClassId} {X : XT} {z1 z2 z3 z4 z5 : Int} (h1 : inR z1) (h2 : inR z2) (h3 : inR z3) (h4 : inR z4) (h5 : inR z5) (hH : HG vX X) (hE : gX.2 X) : MetX (wX D ad cA) yX11_path cX11_path 7 (some .int) 6 149 [.ref 0, .int (iI (z1)), .int (iI (z2)), .int (iI (z3)), .int (iI (z4)), .int (iI (z5))] X (fun r X' => (∃ u : Int32, r = some (.int u)) ∧ HG vX X' ∧ gX.2 X' ∧ FR (cMd k_X_83) X X') := by
  have e : (cAr k_X_83).map (dn (gA [z1, z2, z3, z4, z5])) = [.ref 0, .int (iI (z1)), .int (iI (z2)), .int (iI (z3)), .int (iI (z4)), .int (iI (z5))] := by
    show [Value.ref 0, Value.int (iI (z1 + 0)), Value.int (iI (z2 + 0)), Value.int (iI (z3 + 0)), Value.int (iI (z4 + 0)), Value.int (iI (z5 + 0))] = _
    simp only [Int.add_zero]
  have t := pub0 (t_X_83 (D := D) (ad := ad) (cA := cA)) rfl (g := (gA [z1, z2, z3, z4, z5])) (X := X) ⟨rfl, (ei_cons (by show (0 : Int) ≤ 0 ∧ (0 : Int) ≤ 0; omega) (ei_cons h1 (ei_cons h2 (ei_cons h3 (ei_cons h4 (ei_cons h5 ei_nil)))))), el_nil, dl_nil, hH, hE⟩
  rw [e] at t
  exact t
set_option maxRecDepth 10000 in
theorem xp_move {D : va_G} {ad : Nat → Nat} {cA : Nat → ClassId} {X : XT} {z1 z2 z3 : Int} (h1 : inR z1) (h2 : inR z2) (h3 : inR z3) (hH : HG vX X) (hE : gX.2 X) : MetX (wX D ad cA) yX11_move cX11_move 7 (some .int) 1 22 [.ref 0, .int (iI (z1)), .int (iI (z2)), .int (iI (z3))] X (fun r X' => (∃ u : Int32, r = some (.int u)) ∧ HG vX X' ∧ gX.2 X' ∧ FR (cMd k_X_87) X X') := by
  have e : (cAr k_X_87).map (dn (gA [z1, z2, z3])) = [.ref 0, .int (iI (z1)), .int (iI (z2)), .int (iI (z3))] := by
    show [Value.ref 0, Value.int (iI (z1 + 0)), Value.int (iI (z2 + 0)), Value.int (iI (z3 + 0))] = _
    simp only [Int.add_zero]
  have t := pub0 (t_X_87 (D := D) (ad := ad) (cA := cA)) rfl (g := (gA [z1, z2, z3])) (X := X) ⟨rfl, (ei_cons (by show (0 : Int) ≤ 0 ∧ (0 : Int) ≤ 0; omega) (ei_cons h1 (ei_cons h2 (ei_cons h3 ei_nil)))), el_nil, dl_nil, hH, hE⟩
  rw [e] at t
  exact t
set_option maxRecDepth 10000 in
theorem xp_stop {D : va_G} {ad : Nat → Nat} {cA : Nat → ClassId} {X : XT} {z1 z2 : Int} (h1 : inR z1) (h2 : inR z2) (hH : HG vX X) (hE : gX.2 X) : MetX (wX D ad cA) yX11_stop cX11_stop 4 (some .int) 7 238 [.ref 0, .int (iI (z1)), .int (iI (z2))] X (fun r X' => (∃ u : Int32, r = some (.int u)) ∧ HG vX X' ∧ gX.2 X' ∧ FR (cMd k_X_124) X X') := by
  have e : (cAr k_X_124).map (dn (gA [z1, z2])) = [.ref 0, .int (iI (z1)), .int (iI (z2))] := by
    show [Value.ref 0, Value.int (iI (z1 + 0)), Value.int (iI (z2 + 0))] = _
    simp only [Int.add_zero]
  have t := pub0 (t_X_124 (D := D) (ad := ad) (cA := cA)) rfl (g := (gA [z1, z2])) (X := X) ⟨rfl, (ei_cons (by show (0 : Int) ≤ 0 ∧ (0 : Int) ≤ 0; omega) (ei_cons h1 (ei_cons h2 ei_nil))), el_nil, dl_nil, hH, hE⟩
  rw [e] at t
  exact t
set_option maxRecDepth 10000 in
theorem xp_state {D : va_G} {ad : Nat → Nat} {cA : Nat → ClassId} {X : XT} {z1 z2 z3 z4 : Int} (h1 : inR z1) (h2 : inR z2) (h3 : inR z3) (h4 : inR z4) (hH : HG vX X) (hE : gX.2 X) : MetX (wX D ad cA) yX11_state cX11_state 6 (some .int) 7 238 [.ref 0, .int (iI (z1)), .int (iI (z2)), .int (iI (z3)), .int (iI (z4))] X (fun r X' => (∃ u : Int32, r = some (.int u)) ∧ HG vX X' ∧ gX.2 X' ∧ FR (cMd k_X_130) X X') := by
  have e : (cAr k_X_130).map (dn (gA [z1, z2, z3, z4])) = [.ref 0, .int (iI (z1)), .int (iI (z2)), .int (iI (z3)), .int (iI (z4))] := by
    show [Value.ref 0, Value.int (iI (z1 + 0)), Value.int (iI (z2 + 0)), Value.int (iI (z3 + 0)), Value.int (iI (z4 + 0))] = _
    simp only [Int.add_zero]
  have t := pub0 (t_X_130 (D := D) (ad := ad) (cA := cA)) rfl (g := (gA [z1, z2, z3, z4])) (X := X) ⟨rfl, (ei_cons (by show (0 : Int) ≤ 0 ∧ (0 : Int) ≤ 0; omega) (ei_cons h1 (ei_cons h2 (ei_cons h3 (ei_cons h4 ei_nil))))), el_nil, dl_nil, hH, hE⟩
  rw [e] at t
  exact t
set_option maxRecDepth 10000 in
theorem xp_may {D : va_G} {ad : Nat → Nat} {cA : Nat → ClassId} {X : XT} {z1 z2 z3 z4 : Int} (h1 : inR z1) (h2 : inR z2) (h3 : inR z3) (h4 : inR z4) (hH : HG vX X) (hE : gX.2 X) : MetX (wX D ad cA) yX11_may cX11_may 7 (some .long) 7 238 [.ref 0, .int (iI (z1)), .int (iI (z2)), .int (iI (z3)), .int (iI (z4))] X (fun r X' => (∃ u : Int64, r = some (.long u)) ∧ HG vX X' ∧ gX.2 X' ∧ FR (cMd k_X_131) X X') := by
  have e : (cAr k_X_131).map (dn (gA [z1, z2, z3, z4])) = [.ref 0, .int (iI (z1)), .int (iI (z2)), .int (iI (z3)), .int (iI (z4))] := by
    show [Value.ref 0, Value.int (iI (z1 + 0)), Value.int (iI (z2 + 0)), Value.int (iI (z3 + 0)), Value.int (iI (z4 + 0))] = _
    simp only [Int.add_zero]
  have t := pub1 (t_X_131 (D := D) (ad := ad) (cA := cA)) rfl (g := (gA [z1, z2, z3, z4])) (X := X) ⟨rfl, (ei_cons (by show (0 : Int) ≤ 0 ∧ (0 : Int) ≤ 0; omega) (ei_cons h1 (ei_cons h2 (ei_cons h3 (ei_cons h4 ei_nil))))), el_nil, dl_nil, hH, hE⟩
  rw [e] at t
  exact t
set_option maxRecDepth 10000 in
theorem xp_fatal {D : va_G} {ad : Nat → Nat} {cA : Nat → ClassId} {X : XT} {z1 z2 z3 z4 : Int} (h1 : inR z1) (h2 : inR z2) (h3 : inR z3) (h4 : 0 ≤ z4 ∧ z4 ≤ 1) (hH : HG vX X) (hE : gX.2 X) : MetX (wX D ad cA) yX11_fatal cX11_fatal 7 (some .int) 7 239 [.ref 0, .int (iI (z1)), .int (iI (z2)), .int (iI (z3)), .int (iI (z4))] X (fun r X' => (∃ u : Int32, r = some (.int u)) ∧ HG vX X' ∧ gX.2 X' ∧ FR (cMd k_X_143) X X') := by
  have e : (cAr k_X_143).map (dn (gA [z1, z2, z3, z4])) = [.ref 0, .int (iI (z1)), .int (iI (z2)), .int (iI (z3)), .int (iI (z4))] := by
    show [Value.ref 0, Value.int (iI (z1 + 0)), Value.int (iI (z2 + 0)), Value.int (iI (z3 + 0)), Value.int (iI (z4 + 0))] = _
    simp only [Int.add_zero]
  have t := pub0 (t_X_143 (D := D) (ad := ad) (cA := cA)) rfl (g := (gA [z1, z2, z3, z4])) (X := X) ⟨rfl, (ei_cons (by show (0 : Int) ≤ 0 ∧ (0 : Int) ≤ 0; omega) (ei_cons h1 (ei_cons h2 (ei_cons h3 (ei_cons h4 ei_nil))))), el_nil, dl_nil, hH, hE⟩
  rw [e] at t
  exact t
set_option maxRecDepth 10000 in
theorem xp_loses {D : va_G} {ad : Nat → Nat} {cA : Nat → ClassId} {X : XT} {z1 z2 z3 : Int} (h1 : inR z1) (h2 : inR z2) (h3 : inR z3) (hH : HG vX X) (hE : gX.2 X) : MetX (wX D ad cA) yX11_loses cX11_loses 5 (some .boolean) 7 238 [.ref 0, .int (iI (z1)), .int (iI (z2)), .int (iI (z3))] X (fun r X' => (∃ u : Int32, r = some (.int u)) ∧ HG vX X' ∧ gX.2 X' ∧ FR (cMd k_X_148) X X') := by
  have e : (cAr k_X_148).map (dn (gA [z1, z2, z3])) = [.ref 0, .int (iI (z1)), .int (iI (z2)), .int (iI (z3))] := by
    show [Value.ref 0, Value.int (iI (z1 + 0)), Value.int (iI (z2 + 0)), Value.int (iI (z3 + 0))] = _
    simp only [Int.add_zero]
  have t := pub0 (t_X_148 (D := D) (ad := ad) (cA := cA)) rfl (g := (gA [z1, z2, z3])) (X := X) ⟨rfl, (ei_cons (by show (0 : Int) ≤ 0 ∧ (0 : Int) ≤ 0; omega) (ei_cons h1 (ei_cons h2 (ei_cons h3 ei_nil)))), el_nil, dl_nil, hH, hE⟩
  rw [e] at t
  exact t
set_option maxRecDepth 10000 in
theorem xp_brave {D : va_G} {ad : Nat → Nat} {cA : Nat → ClassId} {X : XT} {z1 z2 z3 : Int} (h1 : inR z1) (h2 : inR z2) (h3 : inR z3) (hH : HG vX X) (hE : gX.2 X) : MetX (wX D ad cA) yX11_brave cX11_brave 6 (some .int) 7 238 [.ref 0, .int (iI (z1)), .int (iI (z2)), .int (iI (z3))] X (fun r X' => (∃ u : Int32, r = some (.int u)) ∧ HG vX X' ∧ gX.2 X' ∧ FR (cMd k_X_151) X X') := by
  have e : (cAr k_X_151).map (dn (gA [z1, z2, z3])) = [.ref 0, .int (iI (z1)), .int (iI (z2)), .int (iI (z3))] := by
    show [Value.ref 0, Value.int (iI (z1 + 0)), Value.int (iI (z2 + 0)), Value.int (iI (z3 + 0))] = _
    simp only [Int.add_zero]
  have t := pub0 (t_X_151 (D := D) (ad := ad) (cA := cA)) rfl (g := (gA [z1, z2, z3])) (X := X) ⟨rfl, (ei_cons (by show (0 : Int) ≤ 0 ∧ (0 : Int) ≤ 0; omega) (ei_cons h1 (ei_cons h2 (ei_cons h3 ei_nil)))), el_nil, dl_nil, hH, hE⟩
  rw [e] at t
  exact t
set_option maxRecDepth 10000 in
theorem xp_binds {D : va_G} {ad : Nat → Nat} {cA : Nat → ClassId} {X : XT} {z1 z2 z3 z4 : Int} (h1 : inR z1) (h2 : inR z2) (h3 : inR z3) (h4 : inR z4) (hH : HG vX X) (hE : gX.2 X) : MetX (wX D ad cA) yX11_binds cX11_binds 6 (some .int) 5 196 [.ref 0, .int (iI (z1)), .int (iI (z2)), .int (iI (z3)), .int (iI (z4))] X (fun r X' => (∃ u : Int32, r = some (.int u)) ∧ HG vX X' ∧ gX.2 X' ∧ FR (cMd k_X_199) X X') := by
  have e : (cAr k_X_199).map (dn (gA [z1, z2, z3, z4])) = [.ref 0, .int (iI (z1)), .int (iI (z2)), .int (iI (z3)), .int (iI (z4))] := by
    show [Value.ref 0, Value.int (iI (z1 + 0)), Value.int (iI (z2 + 0)), Value.int (iI (z3 + 0)), Value.int (iI (z4 + 0))] = _
    simp only [Int.add_zero]
  have t := pub0 (t_X_199 (D := D) (ad := ad) (cA := cA)) rfl (g := (gA [z1, z2, z3, z4])) (X := X) ⟨rfl, (ei_cons (by show (0 : Int) ≤ 0 ∧ (0 : Int) ≤ 0; omega) (ei_cons h1 (ei_cons h2 (ei_cons h3 (ei_cons h4 ei_nil))))), el_nil, dl_nil, hH, hE⟩
  rw [e] at t
  exact t
set_option maxRecDepth 10000 in
theorem xp_drive {D : va_G} {ad : Nat → Nat} {cA : Nat → ClassId} {X : XT} {z1 z2 z3 z4 : Int} (h1 : inR z1) (h2 : inR z2) (h3 : inR z3) (h4 : inR z4) (hH : HG vX X) (hE : gX.2 X) : MetX (wX D ad cA) yX11_drive cX11_drive 6 (some .int) 5 196 [.ref 0, .int (iI (z1)), .int (iI (z2)), .int (iI (z3)), .int (iI (z4))] X (fun r X' => (∃ u : Int32, r = some (.int u)) ∧ HG vX X' ∧ gX.2 X' ∧ FR (cMd k_X_200) X X') := by
  have e : (cAr k_X_200).map (dn (gA [z1, z2, z3, z4])) = [.ref 0, .int (iI (z1)), .int (iI (z2)), .int (iI (z3)), .int (iI (z4))] := by
    show [Value.ref 0, Value.int (iI (z1 + 0)), Value.int (iI (z2 + 0)), Value.int (iI (z3 + 0)), Value.int (iI (z4 + 0))] = _
    simp only [Int.add_zero]
  have t := pub0 (t_X_200 (D := D) (ad := ad) (cA := cA)) rfl (g := (gA [z1, z2, z3, z4])) (X := X) ⟨rfl, (ei_cons (by show (0 : Int) ≤ 0 ∧ (0 : Int) ≤ 0; omega) (ei_cons h1 (ei_cons h2 (ei_cons h3 (ei_cons h4 ei_nil))))), el_nil, dl_nil, hH, hE⟩
  rw [e] at t
  exact t
set_option maxRecDepth 10000 in
theorem xp_shorter {D : va_G} {ad : Nat → Nat} {cA : Nat → ClassId} {X : XT} {z1 z2 z3 z4 : Int} (h1 : inR z1) (h2 : inR z2) (h3 : inR z3) (h4 : inR z4) (hH : HG vX X) (hE : gX.2 X) : MetX (wX D ad cA) yX11_shorter cX11_shorter 8 (some .int) 6 209 [.ref 0, .int (iI (z1)), .int (iI (z2)), .int (iI (z3)), .int (iI (z4))] X (fun r X' => (∃ u : Int32, r = some (.int u)) ∧ HG vX X' ∧ gX.2 X' ∧ FR (cMd k_X_201) X X') := by
  have e : (cAr k_X_201).map (dn (gA [z1, z2, z3, z4])) = [.ref 0, .int (iI (z1)), .int (iI (z2)), .int (iI (z3)), .int (iI (z4))] := by
    show [Value.ref 0, Value.int (iI (z1 + 0)), Value.int (iI (z2 + 0)), Value.int (iI (z3 + 0)), Value.int (iI (z4 + 0))] = _
    simp only [Int.add_zero]
  have t := pub0 (t_X_201 (D := D) (ad := ad) (cA := cA)) rfl (g := (gA [z1, z2, z3, z4])) (X := X) ⟨rfl, (ei_cons (by show (0 : Int) ≤ 0 ∧ (0 : Int) ≤ 0; omega) (ei_cons h1 (ei_cons h2 (ei_cons h3 (ei_cons h4 ei_nil))))), el_nil, dl_nil, hH, hE⟩
  rw [e] at t
  exact t
set_option maxRecDepth 10000 in
theorem xp_alike {D : va_G} {ad : Nat → Nat} {cA : Nat → ClassId} {X : XT} {z1 z2 z3 : Int} (h1 : inR z1) (h2 : inR z2) (h3 : inR z3) (hH : HG vX X) (hE : gX.2 X) : MetX (wX D ad cA) yX11_alike cX11_alike 5 (some .boolean) 6 212 [.ref 0, .int (iI (z1)), .int (iI (z2)), .int (iI (z3))] X (fun r X' => (∃ u : Int32, r = some (.int u)) ∧ HG vX X' ∧ gX.2 X' ∧ FR (cMd k_X_205) X X') := by
  have e : (cAr k_X_205).map (dn (gA [z1, z2, z3])) = [.ref 0, .int (iI (z1)), .int (iI (z2)), .int (iI (z3))] := by
    show [Value.ref 0, Value.int (iI (z1 + 0)), Value.int (iI (z2 + 0)), Value.int (iI (z3 + 0))] = _
    simp only [Int.add_zero]
  have t := pub0 (t_X_205 (D := D) (ad := ad) (cA := cA)) rfl (g := (gA [z1, z2, z3])) (X := X) ⟨rfl, (ei_cons (by show (0 : Int) ≤ 0 ∧ (0 : Int) ≤ 0; omega) (ei_cons h1 (ei_cons h2 (ei_cons h3 ei_nil)))), el_nil, dl_nil, hH, hE⟩
  rw [e] at t
  exact t
set_option maxRecDepth 10000 in
theorem xp_meanings {D : va_G} {ad : Nat → Nat} {cA : Nat → ClassId} {X : XT} {z1 z2 z3 z4 : Int} (h1 : inR z1) (h2 : inR z2) (h3 : inR z3) (h4 : 0 ≤ z4 ∧ z4 ≤ 1) (hH : HG vX X) (hE : gX.2 X) : MetX (wX D ad cA) yX11_meanings cX11_meanings 6 (some .int) 5 198 [.ref 0, .int (iI (z1)), .int (iI (z2)), .int (iI (z3)), .int (iI (z4))] X (fun r X' => (∃ u : Int32, r = some (.int u)) ∧ HG vX X' ∧ gX.2 X' ∧ FR (cMd k_X_209) X X') := by
  have e : (cAr k_X_209).map (dn (gA [z1, z2, z3, z4])) = [.ref 0, .int (iI (z1)), .int (iI (z2)), .int (iI (z3)), .int (iI (z4))] := by
    show [Value.ref 0, Value.int (iI (z1 + 0)), Value.int (iI (z2 + 0)), Value.int (iI (z3 + 0)), Value.int (iI (z4 + 0))] = _
    simp only [Int.add_zero]
  have t := pub0 (t_X_209 (D := D) (ad := ad) (cA := cA)) rfl (g := (gA [z1, z2, z3, z4])) (X := X) ⟨rfl, (ei_cons (by show (0 : Int) ≤ 0 ∧ (0 : Int) ≤ 0; omega) (ei_cons h1 (ei_cons h2 (ei_cons h3 (ei_cons h4 ei_nil))))), el_nil, dl_nil, hH, hE⟩
  rw [e] at t
  exact t
set_option maxRecDepth 10000 in
theorem xp_wins {D : va_G} {ad : Nat → Nat} {cA : Nat → ClassId} {X : XT} {z1 z2 z3 z4 z5 : Int} (h1 : inR z1) (h2 : inR z2) (h3 : inR z3) (h4 : inR z4) (h5 : inR z5) (hH : HG vX X) (hE : gX.2 X) : MetX (wX D ad cA) yX11_wins cX11_wins 8 (some .int) 16 461 [.ref 0, .int (iI (z1)), .int (iI (z2)), .int (iI (z3)), .int (iI (z4)), .int (iI (z5))] X (fun r X' => (∃ u : Int32, r = some (.int u)) ∧ HG vX X' ∧ gX.2 X' ∧ FR (cMd k_X_390) X X') := by
  have e : (cAr k_X_390).map (dn (gA [z1, z2, z3, z4, z5])) = [.ref 0, .int (iI (z1)), .int (iI (z2)), .int (iI (z3)), .int (iI (z4)), .int (iI (z5))] := by
    show [Value.ref 0, Value.int (iI (z1 + 0)), Value.int (iI (z2 + 0)), Value.int (iI (z3 + 0)), Value.int (iI (z4 + 0)), Value.int (iI (z5 + 0))] = _
    simp only [Int.add_zero]
  have t := pub0 (t_X_390 (D := D) (ad := ad) (cA := cA)) rfl (g := (gA [z1, z2, z3, z4, z5])) (X := X) ⟨rfl, (ei_cons (by show (0 : Int) ≤ 0 ∧ (0 : Int) ≤ 0; omega) (ei_cons h1 (ei_cons h2 (ei_cons h3 (ei_cons h4 (ei_cons h5 ei_nil)))))), el_nil, dl_nil, hH, hE⟩
  rw [e] at t
  exact t
set_option maxRecDepth 10000 in
theorem xp_soonest {D : va_G} {ad : Nat → Nat} {cA : Nat → ClassId} {X : XT} {z1 z2 z3 : Int} (h1 : inR z1) (h2 : inR z2) (h3 : inR z3) (hH : HG vX X) (hE : gX.2 X) : MetX (wX D ad cA) yX11_soonest cX11_soonest 6 (some .int) 16 461 [.ref 0, .int (iI (z1)), .int (iI (z2)), .int (iI (z3))] X (fun r X' => (∃ u : Int32, r = some (.int u)) ∧ HG vX X' ∧ gX.2 X' ∧ FR (cMd k_X_395) X X') := by
  have e : (cAr k_X_395).map (dn (gA [z1, z2, z3])) = [.ref 0, .int (iI (z1)), .int (iI (z2)), .int (iI (z3))] := by
    show [Value.ref 0, Value.int (iI (z1 + 0)), Value.int (iI (z2 + 0)), Value.int (iI (z3 + 0))] = _
    simp only [Int.add_zero]
  have t := pub0 (t_X_395 (D := D) (ad := ad) (cA := cA)) rfl (g := (gA [z1, z2, z3])) (X := X) ⟨rfl, (ei_cons (by show (0 : Int) ≤ 0 ∧ (0 : Int) ≤ 0; omega) (ei_cons h1 (ei_cons h2 (ei_cons h3 ei_nil)))), el_nil, dl_nil, hH, hE⟩
  rw [e] at t
  exact t
set_option maxRecDepth 10000 in
theorem xp_drawn {D : va_G} {ad : Nat → Nat} {cA : Nat → ClassId} {X : XT} {z1 z2 z3 z4 : Int} (h1 : inR z1) (h2 : inR z2) (h3 : inR z3) (h4 : inR z4) (hH : HG vX X) (hE : gX.2 X) : MetX (wX D ad cA) yX11_drawn cX11_drawn 7 (some .int) 7 240 [.ref 0, .int (iI (z1)), .int (iI (z2)), .int (iI (z3)), .int (iI (z4))] X (fun r X' => (∃ u : Int32, r = some (.int u)) ∧ HG vX X' ∧ gX.2 X' ∧ FR (cMd k_X_404) X X') := by
  have e : (cAr k_X_404).map (dn (gA [z1, z2, z3, z4])) = [.ref 0, .int (iI (z1)), .int (iI (z2)), .int (iI (z3)), .int (iI (z4))] := by
    show [Value.ref 0, Value.int (iI (z1 + 0)), Value.int (iI (z2 + 0)), Value.int (iI (z3 + 0)), Value.int (iI (z4 + 0))] = _
    simp only [Int.add_zero]
  have t := pub0 (t_X_404 (D := D) (ad := ad) (cA := cA)) rfl (g := (gA [z1, z2, z3, z4])) (X := X) ⟨rfl, (ei_cons (by show (0 : Int) ≤ 0 ∧ (0 : Int) ≤ 0; omega) (ei_cons h1 (ei_cons h2 (ei_cons h3 (ei_cons h4 ei_nil))))), el_nil, dl_nil, hH, hE⟩
  rw [e] at t
  exact t
set_option maxRecDepth 10000 in
theorem xp_count {D : va_G} {ad : Nat → Nat} {cA : Nat → ClassId} {X : XT} {z1 : Int} (h1 : inR z1) (hH : HG vX X) (hE : gX.2 X) : MetX (wX D ad cA) yX11_count cX11_count 2 (some .int) 0 0 [.ref 0, .int (iI (z1))] X (fun r X' => (∃ u : Int32, r = some (.int u)) ∧ HG vX X' ∧ gX.2 X' ∧ FR (cMd k_X_405) X X') := by
  have e : (cAr k_X_405).map (dn (gA [z1])) = [.ref 0, .int (iI (z1))] := by
    show [Value.ref 0, Value.int (iI (z1 + 0))] = _
    simp only [Int.add_zero]
  have t := pub0 (t_X_405 (D := D) (ad := ad) (cA := cA)) rfl (g := (gA [z1])) (X := X) ⟨rfl, (ei_cons (by show (0 : Int) ≤ 0 ∧ (0 : Int) ≤ 0; omega) (ei_cons h1 ei_nil)), el_nil, dl_nil, hH, hE⟩
  rw [e] at t
  exact t
set_option maxRecDepth 10000 in
theorem xp_image {D : va_G} {ad : Nat → Nat} {cA : Nat → ClassId} {X : XT} {z1 : Int} (h1 : inR z1) (hH : HG vX X) (hE : gX.2 X) : MetX (wX D ad cA) yX11_image cX11_image 2 (some .boolean) 3 173 [.ref 0, .int (iI (z1))] X (fun r X' => (∃ u : Int, r = some (.int (iI u)) ∧ inR u ∧ ((3 ≤ z1 ∧ u = 0 ∧ X'.1 1 0 = X.1 1 0 ∧ X'.1 104 0 = X.1 104 0 ∧ X'.1 122 0 = X.1 122 0 ∧ X'.1 140 0 = X.1 140 0 ∧ X'.1 20 0 = X.1 20 0 ∧ X'.1 20 1 = X.1 20 1 ∧ X'.1 20 2 = X.1 20 2) ∨ (2 ≤ z1 ∧ z1 ≤ 2 ∧ u = 1 ∧ X'.1 1 0 = X.1 1 0 ∧ X'.1 104 0 = X.1 104 0 ∧ X'.1 122 0 = X.1 122 0 ∧ X'.1 140 0 = X.1 1 0 ∧ X'.1 20 0 = X.1 20 0 ∧ X'.1 20 1 = X.1 20 1 ∧ X'.1 20 2 = 1) ∨ (1 ≤ z1 ∧ z1 ≤ 1 ∧ u = 1 ∧ X'.1 1 0 = X.1 1 0 ∧ X'.1 104 0 = X.1 104 0 ∧ X'.1 122 0 = X.1 1 0 ∧ X'.1 140 0 = X.1 140 0 ∧ X'.1 20 0 = X.1 20 0 ∧ X'.1 20 1 = 1 ∧ X'.1 20 2 = X.1 20 2) ∨ (0 ≤ z1 ∧ z1 ≤ 0 ∧ u = 1 ∧ X'.1 1 0 = X.1 1 0 ∧ X'.1 104 0 = X.1 1 0 ∧ X'.1 122 0 = X.1 122 0 ∧ X'.1 140 0 = X.1 140 0 ∧ X'.1 20 0 = 1 ∧ X'.1 20 1 = X.1 20 1 ∧ X'.1 20 2 = X.1 20 2) ∨ (z1 ≤ (-1) ∧ u = 0 ∧ X'.1 1 0 = X.1 1 0 ∧ X'.1 104 0 = X.1 104 0 ∧ X'.1 122 0 = X.1 122 0 ∧ X'.1 140 0 = X.1 140 0 ∧ X'.1 20 0 = X.1 20 0 ∧ X'.1 20 1 = X.1 20 1 ∧ X'.1 20 2 = X.1 20 2))) ∧ HG vX X' ∧ gX.2 X') := by
  have e : (cAr k_X_447).map (dn (gA [z1, X.1 1 0, X.1 104 0, X.1 122 0, X.1 140 0, X.1 20 0, X.1 20 1, X.1 20 2])) = [.ref 0, .int (iI (z1))] := by
    show [Value.ref 0, Value.int (iI (z1 + 0))] = _
    simp only [Int.add_zero]
  have t := t_X_447 (D := D) (ad := ad) (cA := cA) (gA [z1, X.1 1 0, X.1 104 0, X.1 122 0, X.1 140 0, X.1 20 0, X.1 20 1, X.1 20 2]) X ⟨rfl, (ei_cons (by show (0 : Int) ≤ 0 ∧ (0 : Int) ≤ 0; omega) (ei_cons h1 (ei_cons (show (0 : Int) ≤ X.1 1 0 ∧ X.1 1 0 ≤ 600 from hH.rF (k := 1) (i := 0) (p := (0, 600)) rfl rfl) (ei_cons (show (0 : Int) ≤ X.1 104 0 ∧ X.1 104 0 ≤ 600 from hH.rF (k := 104) (i := 0) (p := (0, 600)) rfl rfl) (ei_cons (show (0 : Int) ≤ X.1 122 0 ∧ X.1 122 0 ≤ 600 from hH.rF (k := 122) (i := 0) (p := (0, 600)) rfl rfl) (ei_cons (show (0 : Int) ≤ X.1 140 0 ∧ X.1 140 0 ≤ 600 from hH.rF (k := 140) (i := 0) (p := (0, 600)) rfl rfl) (ei_cons (show (0 : Int) ≤ X.1 20 0 ∧ X.1 20 0 ≤ 1 from hH.rF (k := 20) (i := 0) (p := (0, 1)) rfl rfl) (ei_cons (show (0 : Int) ≤ X.1 20 1 ∧ X.1 20 1 ≤ 1 from hH.rF (k := 20) (i := 1) (p := (0, 1)) rfl rfl) (ei_cons (show (0 : Int) ≤ X.1 20 2 ∧ X.1 20 2 ≤ 1 from hH.rF (k := 20) (i := 2) (p := (0, 1)) rfl rfl) ei_nil))))))))), el_nil, (dl_cons (show X.1 1 0 = X.1 1 0 + 0 by omega) (dl_cons (show X.1 104 0 = X.1 104 0 + 0 by omega) (dl_cons (show X.1 122 0 = X.1 122 0 + 0 by omega) (dl_cons (show X.1 140 0 = X.1 140 0 + 0 by omega) (dl_cons (show X.1 20 0 = X.1 20 0 + 0 by omega) (dl_cons (show X.1 20 1 = X.1 20 1 + 0 by omega) (dl_cons (show X.1 20 2 = X.1 20 2 + 0 by omega) dl_nil))))))), hH, hE⟩
  rw [e] at t
  refine MetX.imp (fun r X' hp => ?_) t
  obtain ⟨a, ha, g1, hx, hei, hel, rfl, hdl, hgd, hH1, hE1, hF1⟩ := hp
  refine ⟨?_, hH1, hE1⟩
  have e0 : g1.1 0 = 0 := hx.1 0 (by decide)
  have e1 : g1.1 1 = z1 := hx.1 1 (by decide)
  have e2 : g1.1 2 = X.1 1 0 := hx.1 2 (by decide)
  have e3 : g1.1 3 = X.1 104 0 := hx.1 3 (by decide)
  have e4 : g1.1 4 = X.1 122 0 := hx.1 4 (by decide)
  have e5 : g1.1 5 = X.1 140 0 := hx.1 5 (by decide)
  have e6 : g1.1 6 = X.1 20 0 := hx.1 6 (by decide)
  have e7 : g1.1 7 = X.1 20 1 := hx.1 7 (by decide)
  have e8 : g1.1 8 = X.1 20 2 := hx.1 8 (by decide)
  simp only [cAl, k_X_447, List.mem_cons, List.not_mem_nil, or_false] at ha
  rcases ha with rfl | rfl | rfl | rfl | rfl
  · have b1 : (3 : Int) ≤ g1.1 1 ∧ g1.1 1 ≤ 2147483647 := hei 1 _ rfl
    have b2 : (0 : Int) ≤ g1.1 2 ∧ g1.1 2 ≤ 600 := hei 2 _ rfl
    have b3 : (0 : Int) ≤ g1.1 3 ∧ g1.1 3 ≤ 600 := hei 3 _ rfl
    have b4 : (0 : Int) ≤ g1.1 4 ∧ g1.1 4 ≤ 600 := hei 4 _ rfl
    have b5 : (0 : Int) ≤ g1.1 5 ∧ g1.1 5 ≤ 600 := hei 5 _ rfl
    have b6 : (0 : Int) ≤ g1.1 6 ∧ g1.1 6 ≤ 1 := hei 6 _ rfl
    have b7 : (0 : Int) ≤ g1.1 7 ∧ g1.1 7 ≤ 1 := hei 7 _ rfl
    have b8 : (0 : Int) ≤ g1.1 8 ∧ g1.1 8 ≤ 1 := hei 8 _ rfl
    have d104_0 : X'.1 104 0 = g1.1 3 + 0 := hdl ((104, 0), (0, 3, 0)) (.head _)
    have d122_0 : X'.1 122 0 = g1.1 4 + 0 := hdl ((122, 0), (0, 4, 0)) (.tail _ (.head _))
    have d140_0 : X'.1 140 0 = g1.1 5 + 0 := hdl ((140, 0), (0, 5, 0)) (.tail _ (.tail _ (.head _)))
    have d20_0 : X'.1 20 0 = g1.1 6 + 0 := hdl ((20, 0), (0, 6, 0)) (.tail _ (.tail _ (.tail _ (.head _))))
    have d20_1 : X'.1 20 1 = g1.1 7 + 0 := hdl ((20, 1), (0, 7, 0)) (.tail _ (.tail _ (.tail _ (.tail _ (.head _)))))
    have d20_2 : X'.1 20 2 = g1.1 8 + 0 := hdl ((20, 2), (0, 8, 0)) (.tail _ (.tail _ (.tail _ (.tail _ (.tail _ (.head _))))))
    exact ⟨g1.1 0 + 0, rfl, ⟨by omega, by omega⟩, .inl ⟨by omega, by omega, (hF1 1 0 rfl).1, by omega, by omega, by omega, by omega, by omega, by omega⟩⟩
  · have b1 : (2 : Int) ≤ g1.1 1 ∧ g1.1 1 ≤ 2 := hei 1 _ rfl
    have b2 : (0 : Int) ≤ g1.1 2 ∧ g1.1 2 ≤ 600 := hei 2 _ rfl
    have b3 : (0 : Int) ≤ g1.1 3 ∧ g1.1 3 ≤ 600 := hei 3 _ rfl
    have b4 : (0 : Int) ≤ g1.1 4 ∧ g1.1 4 ≤ 600 := hei 4 _ rfl
    have b5 : (0 : Int) ≤ g1.1 5 ∧ g1.1 5 ≤ 600 := hei 5 _ rfl
    have b6 : (0 : Int) ≤ g1.1 6 ∧ g1.1 6 ≤ 1 := hei 6 _ rfl
    have b7 : (0 : Int) ≤ g1.1 7 ∧ g1.1 7 ≤ 1 := hei 7 _ rfl
    have b8 : (0 : Int) ≤ g1.1 8 ∧ g1.1 8 ≤ 1 := hei 8 _ rfl
    have d104_0 : X'.1 104 0 = g1.1 3 + 0 := hdl ((104, 0), (0, 3, 0)) (.head _)
    have d122_0 : X'.1 122 0 = g1.1 4 + 0 := hdl ((122, 0), (0, 4, 0)) (.tail _ (.head _))
    have d140_0 : X'.1 140 0 = g1.1 2 + 0 := hdl ((140, 0), (0, 2, 0)) (.tail _ (.tail _ (.tail _ (.tail _ (.head _)))))
    have d20_0 : X'.1 20 0 = g1.1 6 + 0 := hdl ((20, 0), (0, 6, 0)) (.tail _ (.tail _ (.head _)))
    have d20_1 : X'.1 20 1 = g1.1 7 + 0 := hdl ((20, 1), (0, 7, 0)) (.tail _ (.tail _ (.tail _ (.head _))))
    have d20_2 : X'.1 20 2 = g1.1 0 + 1 := hdl ((20, 2), (0, 0, 1)) (.tail _ (.tail _ (.tail _ (.tail _ (.tail _ (.head _))))))
    exact ⟨g1.1 0 + 1, rfl, ⟨by omega, by omega⟩, .inr (.inl ⟨by omega, by omega, by omega, (hF1 1 0 rfl).1, by omega, by omega, by omega, by omega, by omega, by omega⟩)⟩
  · have b1 : (1 : Int) ≤ g1.1 1 ∧ g1.1 1 ≤ 1 := hei 1 _ rfl
    have b2 : (0 : Int) ≤ g1.1 2 ∧ g1.1 2 ≤ 600 := hei 2 _ rfl
    have b3 : (0 : Int) ≤ g1.1 3 ∧ g1.1 3 ≤ 600 := hei 3 _ rfl
    have b4 : (0 : Int) ≤ g1.1 4 ∧ g1.1 4 ≤ 600 := hei 4 _ rfl
    have b5 : (0 : Int) ≤ g1.1 5 ∧ g1.1 5 ≤ 600 := hei 5 _ rfl
    have b6 : (0 : Int) ≤ g1.1 6 ∧ g1.1 6 ≤ 1 := hei 6 _ rfl
    have b7 : (0 : Int) ≤ g1.1 7 ∧ g1.1 7 ≤ 1 := hei 7 _ rfl
    have b8 : (0 : Int) ≤ g1.1 8 ∧ g1.1 8 ≤ 1 := hei 8 _ rfl
    have d104_0 : X'.1 104 0 = g1.1 3 + 0 := hdl ((104, 0), (0, 3, 0)) (.head _)
    have d122_0 : X'.1 122 0 = g1.1 2 + 0 := hdl ((122, 0), (0, 2, 0)) (.tail _ (.tail _ (.tail _ (.tail _ (.head _)))))
    have d140_0 : X'.1 140 0 = g1.1 5 + 0 := hdl ((140, 0), (0, 5, 0)) (.tail _ (.head _))
    have d20_0 : X'.1 20 0 = g1.1 6 + 0 := hdl ((20, 0), (0, 6, 0)) (.tail _ (.tail _ (.head _)))
    have d20_1 : X'.1 20 1 = g1.1 0 + 1 := hdl ((20, 1), (0, 0, 1)) (.tail _ (.tail _ (.tail _ (.tail _ (.tail _ (.head _))))))
    have d20_2 : X'.1 20 2 = g1.1 8 + 0 := hdl ((20, 2), (0, 8, 0)) (.tail _ (.tail _ (.tail _ (.head _))))
    exact ⟨g1.1 0 + 1, rfl, ⟨by omega, by omega⟩, .inr (.inr (.inl ⟨by omega, by omega, by omega, (hF1 1 0 rfl).1, by omega, by omega, by omega, by omega, by omega, by omega⟩))⟩
  · have b1 : (0 : Int) ≤ g1.1 1 ∧ g1.1 1 ≤ 0 := hei 1 _ rfl
    have b2 : (0 : Int) ≤ g1.1 2 ∧ g1.1 2 ≤ 600 := hei 2 _ rfl
    have b3 : (0 : Int) ≤ g1.1 3 ∧ g1.1 3 ≤ 600 := hei 3 _ rfl
    have b4 : (0 : Int) ≤ g1.1 4 ∧ g1.1 4 ≤ 600 := hei 4 _ rfl
    have b5 : (0 : Int) ≤ g1.1 5 ∧ g1.1 5 ≤ 600 := hei 5 _ rfl
    have b6 : (0 : Int) ≤ g1.1 6 ∧ g1.1 6 ≤ 1 := hei 6 _ rfl
    have b7 : (0 : Int) ≤ g1.1 7 ∧ g1.1 7 ≤ 1 := hei 7 _ rfl
    have b8 : (0 : Int) ≤ g1.1 8 ∧ g1.1 8 ≤ 1 := hei 8 _ rfl
    have d104_0 : X'.1 104 0 = g1.1 2 + 0 := hdl ((104, 0), (0, 2, 0)) (.tail _ (.tail _ (.tail _ (.tail _ (.head _)))))
    have d122_0 : X'.1 122 0 = g1.1 4 + 0 := hdl ((122, 0), (0, 4, 0)) (.head _)
    have d140_0 : X'.1 140 0 = g1.1 5 + 0 := hdl ((140, 0), (0, 5, 0)) (.tail _ (.head _))
    have d20_0 : X'.1 20 0 = g1.1 0 + 1 := hdl ((20, 0), (0, 0, 1)) (.tail _ (.tail _ (.tail _ (.tail _ (.tail _ (.head _))))))
    have d20_1 : X'.1 20 1 = g1.1 7 + 0 := hdl ((20, 1), (0, 7, 0)) (.tail _ (.tail _ (.head _)))
    have d20_2 : X'.1 20 2 = g1.1 8 + 0 := hdl ((20, 2), (0, 8, 0)) (.tail _ (.tail _ (.tail _ (.head _))))
    exact ⟨g1.1 0 + 1, rfl, ⟨by omega, by omega⟩, .inr (.inr (.inr (.inl ⟨by omega, by omega, by omega, (hF1 1 0 rfl).1, by omega, by omega, by omega, by omega, by omega, by omega⟩)))⟩
  · have b1 : ((-2147483648) : Int) ≤ g1.1 1 ∧ g1.1 1 ≤ (-1) := hei 1 _ rfl
    have b2 : (0 : Int) ≤ g1.1 2 ∧ g1.1 2 ≤ 600 := hei 2 _ rfl
    have b3 : (0 : Int) ≤ g1.1 3 ∧ g1.1 3 ≤ 600 := hei 3 _ rfl
    have b4 : (0 : Int) ≤ g1.1 4 ∧ g1.1 4 ≤ 600 := hei 4 _ rfl
    have b5 : (0 : Int) ≤ g1.1 5 ∧ g1.1 5 ≤ 600 := hei 5 _ rfl
    have b6 : (0 : Int) ≤ g1.1 6 ∧ g1.1 6 ≤ 1 := hei 6 _ rfl
    have b7 : (0 : Int) ≤ g1.1 7 ∧ g1.1 7 ≤ 1 := hei 7 _ rfl
    have b8 : (0 : Int) ≤ g1.1 8 ∧ g1.1 8 ≤ 1 := hei 8 _ rfl
    have d104_0 : X'.1 104 0 = g1.1 3 + 0 := hdl ((104, 0), (0, 3, 0)) (.head _)
    have d122_0 : X'.1 122 0 = g1.1 4 + 0 := hdl ((122, 0), (0, 4, 0)) (.tail _ (.head _))
    have d140_0 : X'.1 140 0 = g1.1 5 + 0 := hdl ((140, 0), (0, 5, 0)) (.tail _ (.tail _ (.head _)))
    have d20_0 : X'.1 20 0 = g1.1 6 + 0 := hdl ((20, 0), (0, 6, 0)) (.tail _ (.tail _ (.tail _ (.head _))))
    have d20_1 : X'.1 20 1 = g1.1 7 + 0 := hdl ((20, 1), (0, 7, 0)) (.tail _ (.tail _ (.tail _ (.tail _ (.head _)))))
    have d20_2 : X'.1 20 2 = g1.1 8 + 0 := hdl ((20, 2), (0, 8, 0)) (.tail _ (.tail _ (.tail _ (.tail _ (.tail _ (.head _))))))
    exact ⟨g1.1 0 + 0, rfl, ⟨by omega, by omega⟩, .inr (.inr (.inr (.inr (⟨by omega, by omega, (hF1 1 0 rfl).1, by omega, by omega, by omega, by omega, by omega, by omega⟩))))⟩
set_option maxRecDepth 10000 in
theorem xp_again {D : va_G} {ad : Nat → Nat} {cA : Nat → ClassId} {X : XT} {z1 : Int} (h1 : inR z1) (hH : HG vX X) (hE : gX.2 X) : MetX (wX D ad cA) yX11_again cX11_again 2 (some .boolean) 3 173 [.ref 0, .int (iI (z1))] X (fun r X' => (∃ u : Int, r = some (.int (iI u)) ∧ inR u ∧ ((2 ≤ z1 ∧ z1 ≤ 2 ∧ X.1 20 2 ≤ 0 ∧ u = 0 ∧ X'.1 1 0 = X.1 1 0 ∧ X'.1 104 0 = X.1 104 0 ∧ X'.1 122 0 = X.1 122 0 ∧ X'.1 140 0 = X.1 140 0 ∧ X'.1 20 0 = X.1 20 0 ∧ X'.1 20 1 = X.1 20 1 ∧ X'.1 20 2 = X.1 20 2) ∨ (2 ≤ z1 ∧ z1 ≤ 2 ∧ 1 ≤ X.1 20 2 ∧ u = 1 ∧ X'.1 1 0 = X.1 140 0 ∧ X'.1 104 0 = X.1 104 0 ∧ X'.1 122 0 = X.1 122 0 ∧ X'.1 140 0 = X.1 140 0 ∧ X'.1 20 0 = X.1 20 0 ∧ X'.1 20 1 = X.1 20 1 ∧ X'.1 20 2 = X.1 20 2) ∨ (1 ≤ z1 ∧ z1 ≤ 1 ∧ X.1 20 1 ≤ 0 ∧ u = 0 ∧ X'.1 1 0 = X.1 1 0 ∧ X'.1 104 0 = X.1 104 0 ∧ X'.1 122 0 = X.1 122 0 ∧ X'.1 140 0 = X.1 140 0 ∧ X'.1 20 0 = X.1 20 0 ∧ X'.1 20 1 = X.1 20 1 ∧ X'.1 20 2 = X.1 20 2) ∨ (1 ≤ z1 ∧ z1 ≤ 1 ∧ 1 ≤ X.1 20 1 ∧ u = 1 ∧ X'.1 1 0 = X.1 122 0 ∧ X'.1 104 0 = X.1 104 0 ∧ X'.1 122 0 = X.1 122 0 ∧ X'.1 140 0 = X.1 140 0 ∧ X'.1 20 0 = X.1 20 0 ∧ X'.1 20 1 = X.1 20 1 ∧ X'.1 20 2 = X.1 20 2) ∨ (0 ≤ z1 ∧ z1 ≤ 0 ∧ X.1 20 0 ≤ 0 ∧ u = 0 ∧ X'.1 1 0 = X.1 1 0 ∧ X'.1 104 0 = X.1 104 0 ∧ X'.1 122 0 = X.1 122 0 ∧ X'.1 140 0 = X.1 140 0 ∧ X'.1 20 0 = X.1 20 0 ∧ X'.1 20 1 = X.1 20 1 ∧ X'.1 20 2 = X.1 20 2) ∨ (0 ≤ z1 ∧ z1 ≤ 0 ∧ 1 ≤ X.1 20 0 ∧ u = 1 ∧ X'.1 1 0 = X.1 104 0 ∧ X'.1 104 0 = X.1 104 0 ∧ X'.1 122 0 = X.1 122 0 ∧ X'.1 140 0 = X.1 140 0 ∧ X'.1 20 0 = X.1 20 0 ∧ X'.1 20 1 = X.1 20 1 ∧ X'.1 20 2 = X.1 20 2) ∨ (3 ≤ z1 ∧ u = 0 ∧ X'.1 1 0 = X.1 1 0 ∧ X'.1 104 0 = X.1 104 0 ∧ X'.1 122 0 = X.1 122 0 ∧ X'.1 140 0 = X.1 140 0 ∧ X'.1 20 0 = X.1 20 0 ∧ X'.1 20 1 = X.1 20 1 ∧ X'.1 20 2 = X.1 20 2) ∨ (z1 ≤ (-1) ∧ u = 0 ∧ X'.1 1 0 = X.1 1 0 ∧ X'.1 104 0 = X.1 104 0 ∧ X'.1 122 0 = X.1 122 0 ∧ X'.1 140 0 = X.1 140 0 ∧ X'.1 20 0 = X.1 20 0 ∧ X'.1 20 1 = X.1 20 1 ∧ X'.1 20 2 = X.1 20 2))) ∧ HG vX X' ∧ gX.2 X') := by
  have e : (cAr k_X_451).map (dn (gA [z1, X.1 1 0, X.1 104 0, X.1 122 0, X.1 140 0, X.1 20 0, X.1 20 1, X.1 20 2])) = [.ref 0, .int (iI (z1))] := by
    show [Value.ref 0, Value.int (iI (z1 + 0))] = _
    simp only [Int.add_zero]
  have t := t_X_451 (D := D) (ad := ad) (cA := cA) (gA [z1, X.1 1 0, X.1 104 0, X.1 122 0, X.1 140 0, X.1 20 0, X.1 20 1, X.1 20 2]) X ⟨rfl, (ei_cons (by show (0 : Int) ≤ 0 ∧ (0 : Int) ≤ 0; omega) (ei_cons h1 (ei_cons (show (0 : Int) ≤ X.1 1 0 ∧ X.1 1 0 ≤ 600 from hH.rF (k := 1) (i := 0) (p := (0, 600)) rfl rfl) (ei_cons (show (0 : Int) ≤ X.1 104 0 ∧ X.1 104 0 ≤ 600 from hH.rF (k := 104) (i := 0) (p := (0, 600)) rfl rfl) (ei_cons (show (0 : Int) ≤ X.1 122 0 ∧ X.1 122 0 ≤ 600 from hH.rF (k := 122) (i := 0) (p := (0, 600)) rfl rfl) (ei_cons (show (0 : Int) ≤ X.1 140 0 ∧ X.1 140 0 ≤ 600 from hH.rF (k := 140) (i := 0) (p := (0, 600)) rfl rfl) (ei_cons (show (0 : Int) ≤ X.1 20 0 ∧ X.1 20 0 ≤ 1 from hH.rF (k := 20) (i := 0) (p := (0, 1)) rfl rfl) (ei_cons (show (0 : Int) ≤ X.1 20 1 ∧ X.1 20 1 ≤ 1 from hH.rF (k := 20) (i := 1) (p := (0, 1)) rfl rfl) (ei_cons (show (0 : Int) ≤ X.1 20 2 ∧ X.1 20 2 ≤ 1 from hH.rF (k := 20) (i := 2) (p := (0, 1)) rfl rfl) ei_nil))))))))), el_nil, (dl_cons (show X.1 1 0 = X.1 1 0 + 0 by omega) (dl_cons (show X.1 104 0 = X.1 104 0 + 0 by omega) (dl_cons (show X.1 122 0 = X.1 122 0 + 0 by omega) (dl_cons (show X.1 140 0 = X.1 140 0 + 0 by omega) (dl_cons (show X.1 20 0 = X.1 20 0 + 0 by omega) (dl_cons (show X.1 20 1 = X.1 20 1 + 0 by omega) (dl_cons (show X.1 20 2 = X.1 20 2 + 0 by omega) dl_nil))))))), hH, hE⟩
  rw [e] at t
  refine MetX.imp (fun r X' hp => ?_) t
  obtain ⟨a, ha, g1, hx, hei, hel, rfl, hdl, hgd, hH1, hE1, hF1⟩ := hp
  refine ⟨?_, hH1, hE1⟩
  have e0 : g1.1 0 = 0 := hx.1 0 (by decide)
  have e1 : g1.1 1 = z1 := hx.1 1 (by decide)
  have e2 : g1.1 2 = X.1 1 0 := hx.1 2 (by decide)
  have e3 : g1.1 3 = X.1 104 0 := hx.1 3 (by decide)
  have e4 : g1.1 4 = X.1 122 0 := hx.1 4 (by decide)
  have e5 : g1.1 5 = X.1 140 0 := hx.1 5 (by decide)
  have e6 : g1.1 6 = X.1 20 0 := hx.1 6 (by decide)
  have e7 : g1.1 7 = X.1 20 1 := hx.1 7 (by decide)
  have e8 : g1.1 8 = X.1 20 2 := hx.1 8 (by decide)
  simp only [cAl, k_X_451, List.mem_cons, List.not_mem_nil, or_false] at ha
  rcases ha with rfl | rfl | rfl | rfl | rfl | rfl | rfl | rfl
  · have b1 : (2 : Int) ≤ g1.1 1 ∧ g1.1 1 ≤ 2 := hei 1 _ rfl
    have b2 : (0 : Int) ≤ g1.1 2 ∧ g1.1 2 ≤ 600 := hei 2 _ rfl
    have b3 : (0 : Int) ≤ g1.1 3 ∧ g1.1 3 ≤ 600 := hei 3 _ rfl
    have b4 : (0 : Int) ≤ g1.1 4 ∧ g1.1 4 ≤ 600 := hei 4 _ rfl
    have b5 : (0 : Int) ≤ g1.1 5 ∧ g1.1 5 ≤ 600 := hei 5 _ rfl
    have b6 : (0 : Int) ≤ g1.1 6 ∧ g1.1 6 ≤ 1 := hei 6 _ rfl
    have b7 : (0 : Int) ≤ g1.1 7 ∧ g1.1 7 ≤ 1 := hei 7 _ rfl
    have b8 : (0 : Int) ≤ g1.1 8 ∧ g1.1 8 ≤ 0 := hei 8 _ rfl
    have d1_0 : X'.1 1 0 = g1.1 2 + 0 := hdl ((1, 0), (0, 2, 0)) (.head _)
    exact ⟨g1.1 0 + 0, rfl, ⟨by omega, by omega⟩, .inl ⟨by omega, by omega, by omega, by omega, by omega, (hF1 104 0 rfl).1, (hF1 122 0 rfl).1, (hF1 140 0 rfl).1, (hF1 20 0 rfl).1, (hF1 20 1 rfl).1, (hF1 20 2 rfl).1⟩⟩
  · have b1 : (2 : Int) ≤ g1.1 1 ∧ g1.1 1 ≤ 2 := hei 1 _ rfl
    have b2 : (0 : Int) ≤ g1.1 2 ∧ g1.1 2 ≤ 600 := hei 2 _ rfl
    have b3 : (0 : Int) ≤ g1.1 3 ∧ g1.1 3 ≤ 600 := hei 3 _ rfl
    have b4 : (0 : Int) ≤ g1.1 4 ∧ g1.1 4 ≤ 600 := hei 4 _ rfl
    have b5 : (0 : Int) ≤ g1.1 5 ∧ g1.1 5 ≤ 600 := hei 5 _ rfl
    have b6 : (0 : Int) ≤ g1.1 6 ∧ g1.1 6 ≤ 1 := hei 6 _ rfl
    have b7 : (0 : Int) ≤ g1.1 7 ∧ g1.1 7 ≤ 1 := hei 7 _ rfl
    have b8 : (1 : Int) ≤ g1.1 8 ∧ g1.1 8 ≤ 1 := hei 8 _ rfl
    have d1_0 : X'.1 1 0 = g1.1 5 + 0 := hdl ((1, 0), (0, 5, 0)) (.head _)
    exact ⟨g1.1 0 + 1, rfl, ⟨by omega, by omega⟩, .inr (.inl ⟨by omega, by omega, by omega, by omega, by omega, (hF1 104 0 rfl).1, (hF1 122 0 rfl).1, (hF1 140 0 rfl).1, (hF1 20 0 rfl).1, (hF1 20 1 rfl).1, (hF1 20 2 rfl).1⟩)⟩
  · have b1 : (1 : Int) ≤ g1.1 1 ∧ g1.1 1 ≤ 1 := hei 1 _ rfl
    have b2 : (0 : Int) ≤ g1.1 2 ∧ g1.1 2 ≤ 600 := hei 2 _ rfl
    have b3 : (0 : Int) ≤ g1.1 3 ∧ g1.1 3 ≤ 600 := hei 3 _ rfl
    have b4 : (0 : Int) ≤ g1.1 4 ∧ g1.1 4 ≤ 600 := hei 4 _ rfl
    have b5 : (0 : Int) ≤ g1.1 5 ∧ g1.1 5 ≤ 600 := hei 5 _ rfl
    have b6 : (0 : Int) ≤ g1.1 6 ∧ g1.1 6 ≤ 1 := hei 6 _ rfl
    have b7 : (0 : Int) ≤ g1.1 7 ∧ g1.1 7 ≤ 0 := hei 7 _ rfl
    have b8 : (0 : Int) ≤ g1.1 8 ∧ g1.1 8 ≤ 1 := hei 8 _ rfl
    have d1_0 : X'.1 1 0 = g1.1 2 + 0 := hdl ((1, 0), (0, 2, 0)) (.head _)
    exact ⟨g1.1 0 + 0, rfl, ⟨by omega, by omega⟩, .inr (.inr (.inl ⟨by omega, by omega, by omega, by omega, by omega, (hF1 104 0 rfl).1, (hF1 122 0 rfl).1, (hF1 140 0 rfl).1, (hF1 20 0 rfl).1, (hF1 20 1 rfl).1, (hF1 20 2 rfl).1⟩))⟩
  · have b1 : (1 : Int) ≤ g1.1 1 ∧ g1.1 1 ≤ 1 := hei 1 _ rfl
    have b2 : (0 : Int) ≤ g1.1 2 ∧ g1.1 2 ≤ 600 := hei 2 _ rfl
    have b3 : (0 : Int) ≤ g1.1 3 ∧ g1.1 3 ≤ 600 := hei 3 _ rfl
    have b4 : (0 : Int) ≤ g1.1 4 ∧ g1.1 4 ≤ 600 := hei 4 _ rfl
    have b5 : (0 : Int) ≤ g1.1 5 ∧ g1.1 5 ≤ 600 := hei 5 _ rfl
    have b6 : (0 : Int) ≤ g1.1 6 ∧ g1.1 6 ≤ 1 := hei 6 _ rfl
    have b7 : (1 : Int) ≤ g1.1 7 ∧ g1.1 7 ≤ 1 := hei 7 _ rfl
    have b8 : (0 : Int) ≤ g1.1 8 ∧ g1.1 8 ≤ 1 := hei 8 _ rfl
    have d1_0 : X'.1 1 0 = g1.1 4 + 0 := hdl ((1, 0), (0, 4, 0)) (.head _)
    exact ⟨g1.1 0 + 1, rfl, ⟨by omega, by omega⟩, .inr (.inr (.inr (.inl ⟨by omega, by omega, by omega, by omega, by omega, (hF1 104 0 rfl).1, (hF1 122 0 rfl).1, (hF1 140 0 rfl).1, (hF1 20 0 rfl).1, (hF1 20 1 rfl).1, (hF1 20 2 rfl).1⟩)))⟩
  · have b1 : (0 : Int) ≤ g1.1 1 ∧ g1.1 1 ≤ 0 := hei 1 _ rfl
    have b2 : (0 : Int) ≤ g1.1 2 ∧ g1.1 2 ≤ 600 := hei 2 _ rfl
    have b3 : (0 : Int) ≤ g1.1 3 ∧ g1.1 3 ≤ 600 := hei 3 _ rfl
    have b4 : (0 : Int) ≤ g1.1 4 ∧ g1.1 4 ≤ 600 := hei 4 _ rfl
    have b5 : (0 : Int) ≤ g1.1 5 ∧ g1.1 5 ≤ 600 := hei 5 _ rfl
    have b6 : (0 : Int) ≤ g1.1 6 ∧ g1.1 6 ≤ 0 := hei 6 _ rfl
    have b7 : (0 : Int) ≤ g1.1 7 ∧ g1.1 7 ≤ 1 := hei 7 _ rfl
    have b8 : (0 : Int) ≤ g1.1 8 ∧ g1.1 8 ≤ 1 := hei 8 _ rfl
    have d1_0 : X'.1 1 0 = g1.1 2 + 0 := hdl ((1, 0), (0, 2, 0)) (.head _)
    exact ⟨g1.1 0 + 0, rfl, ⟨by omega, by omega⟩, .inr (.inr (.inr (.inr (.inl ⟨by omega, by omega, by omega, by omega, by omega, (hF1 104 0 rfl).1, (hF1 122 0 rfl).1, (hF1 140 0 rfl).1, (hF1 20 0 rfl).1, (hF1 20 1 rfl).1, (hF1 20 2 rfl).1⟩))))⟩
  · have b1 : (0 : Int) ≤ g1.1 1 ∧ g1.1 1 ≤ 0 := hei 1 _ rfl
    have b2 : (0 : Int) ≤ g1.1 2 ∧ g1.1 2 ≤ 600 := hei 2 _ rfl
    have b3 : (0 : Int) ≤ g1.1 3 ∧ g1.1 3 ≤ 600 := hei 3 _ rfl
    have b4 : (0 : Int) ≤ g1.1 4 ∧ g1.1 4 ≤ 600 := hei 4 _ rfl
    have b5 : (0 : Int) ≤ g1.1 5 ∧ g1.1 5 ≤ 600 := hei 5 _ rfl
    have b6 : (1 : Int) ≤ g1.1 6 ∧ g1.1 6 ≤ 1 := hei 6 _ rfl
    have b7 : (0 : Int) ≤ g1.1 7 ∧ g1.1 7 ≤ 1 := hei 7 _ rfl
    have b8 : (0 : Int) ≤ g1.1 8 ∧ g1.1 8 ≤ 1 := hei 8 _ rfl
    have d1_0 : X'.1 1 0 = g1.1 3 + 0 := hdl ((1, 0), (0, 3, 0)) (.head _)
    exact ⟨g1.1 0 + 1, rfl, ⟨by omega, by omega⟩, .inr (.inr (.inr (.inr (.inr (.inl ⟨by omega, by omega, by omega, by omega, by omega, (hF1 104 0 rfl).1, (hF1 122 0 rfl).1, (hF1 140 0 rfl).1, (hF1 20 0 rfl).1, (hF1 20 1 rfl).1, (hF1 20 2 rfl).1⟩)))))⟩
  · have b1 : (3 : Int) ≤ g1.1 1 ∧ g1.1 1 ≤ 2147483647 := hei 1 _ rfl
    have b2 : (0 : Int) ≤ g1.1 2 ∧ g1.1 2 ≤ 600 := hei 2 _ rfl
    have b3 : (0 : Int) ≤ g1.1 3 ∧ g1.1 3 ≤ 600 := hei 3 _ rfl
    have b4 : (0 : Int) ≤ g1.1 4 ∧ g1.1 4 ≤ 600 := hei 4 _ rfl
    have b5 : (0 : Int) ≤ g1.1 5 ∧ g1.1 5 ≤ 600 := hei 5 _ rfl
    have b6 : (0 : Int) ≤ g1.1 6 ∧ g1.1 6 ≤ 1 := hei 6 _ rfl
    have b7 : (0 : Int) ≤ g1.1 7 ∧ g1.1 7 ≤ 1 := hei 7 _ rfl
    have b8 : (0 : Int) ≤ g1.1 8 ∧ g1.1 8 ≤ 1 := hei 8 _ rfl
    have d1_0 : X'.1 1 0 = g1.1 2 + 0 := hdl ((1, 0), (0, 2, 0)) (.head _)
    exact ⟨g1.1 0 + 0, rfl, ⟨by omega, by omega⟩, .inr (.inr (.inr (.inr (.inr (.inr (.inl ⟨by omega, by omega, by omega, (hF1 104 0 rfl).1, (hF1 122 0 rfl).1, (hF1 140 0 rfl).1, (hF1 20 0 rfl).1, (hF1 20 1 rfl).1, (hF1 20 2 rfl).1⟩))))))⟩
  · have b1 : ((-2147483648) : Int) ≤ g1.1 1 ∧ g1.1 1 ≤ (-1) := hei 1 _ rfl
    have b2 : (0 : Int) ≤ g1.1 2 ∧ g1.1 2 ≤ 600 := hei 2 _ rfl
    have b3 : (0 : Int) ≤ g1.1 3 ∧ g1.1 3 ≤ 600 := hei 3 _ rfl
    have b4 : (0 : Int) ≤ g1.1 4 ∧ g1.1 4 ≤ 600 := hei 4 _ rfl
    have b5 : (0 : Int) ≤ g1.1 5 ∧ g1.1 5 ≤ 600 := hei 5 _ rfl
    have b6 : (0 : Int) ≤ g1.1 6 ∧ g1.1 6 ≤ 1 := hei 6 _ rfl
    have b7 : (0 : Int) ≤ g1.1 7 ∧ g1.1 7 ≤ 1 := hei 7 _ rfl
    have b8 : (0 : Int) ≤ g1.1 8 ∧ g1.1 8 ≤ 1 := hei 8 _ rfl
    have d1_0 : X'.1 1 0 = g1.1 2 + 0 := hdl ((1, 0), (0, 2, 0)) (.head _)
    exact ⟨g1.1 0 + 0, rfl, ⟨by omega, by omega⟩, .inr (.inr (.inr (.inr (.inr (.inr (.inr (⟨by omega, by omega, by omega, (hF1 104 0 rfl).1, (hF1 122 0 rfl).1, (hF1 140 0 rfl).1, (hF1 20 0 rfl).1, (hF1 20 1 rfl).1, (hF1 20 2 rfl).1⟩)))))))⟩
