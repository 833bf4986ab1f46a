set_option maxRecDepth 10000 in
theorem rp_feed {D : va_G} {ad : Nat → Nat} {cA : Nat → ClassId} {X : XT} {z1 z2 z3 z4 z5 : Int} (h1 : inR z1) (h2 : inR z2) (h3 : inR z3) (h4 : inR z4) (h5 : inR z5) (hH : HG vM X) (hE : gM.2 X) : MetX (wM D ad cA) yX12_feed cX12_feed 6 (some .int) 1 22 [.ref 0, .int (iI (z1)), .int (iI (z2)), .int (iI (z3)), .int (iI (z4)), .int (iI (z5))] X (fun r X' => (∃ u : Int, r = some (.int (iI u)) ∧ inR u ∧ ((581 ≤ X.1 2 0 ∧ u = (-1) ∧ X'.1 2 0 = X.1 2 0 ∧ X'.1 2 1 = X.1 2 1 ∧ X'.1 2 2 = X.1 2 2 ∧ X'.1 2 3 = X.1 2 3 ∧ X'.1 48 0 = X.1 48 0 ∧ X'.1 48 1 = X.1 48 1 ∧ X'.1 48 2 = X.1 48 2) ∨ (X.1 2 0 ≤ 580 ∧ u = X.1 2 0 + 20 ∧ X'.1 2 0 = X.1 2 0 + 20 ∧ X'.1 2 1 = X.1 2 1 ∧ X'.1 2 2 = X.1 2 2 ∧ X'.1 2 3 = X.1 2 3 ∧ X'.1 48 0 = X.1 48 0 ∧ X'.1 48 1 = X.1 48 1 ∧ X'.1 48 2 = X.1 48 2))) ∧ HG vM X' ∧ gM.2 X') := by
  have e : (cAr k_M_5).map (dn (gA [z1, z2, z3, z4, z5, X.1 2 0, X.1 2 1, X.1 2 2, X.1 2 3])) = [.ref 0, .int (iI (z1)), .int (iI (z2)), .int (iI (z3)), .int (iI (z4)), .int (iI (z5))] := by
    show [Value.ref 0, Value.int (iI (z1 + 0)), Value.int (iI (z2 + 0)), Value.int (iI (z3 + 0)), Value.int (iI (z4 + 0)), Value.int (iI (z5 + 0))] = _
    simp only [Int.add_zero]
  have t := t_M_5 (D := D) (ad := ad) (cA := cA) (gA [z1, z2, z3, z4, z5, X.1 2 0, X.1 2 1, X.1 2 2, X.1 2 3]) X ⟨rfl, (ei_cons (by show (0 : Int) ≤ 0 ∧ (0 : Int) ≤ 0; omega) (ei_cons h1 (ei_cons h2 (ei_cons h3 (ei_cons h4 (ei_cons h5 (ei_cons (show (0 : Int) ≤ X.1 2 0 ∧ X.1 2 0 ≤ 600 from hH.rF (k := 2) (i := 0) (p := (0, 600)) rfl rfl) (ei_cons (show (0 : Int) ≤ X.1 2 1 ∧ X.1 2 1 ≤ 600 from hH.rF (k := 2) (i := 1) (p := (0, 600)) rfl rfl) (ei_cons (show (0 : Int) ≤ X.1 2 2 ∧ X.1 2 2 ≤ 600 from hH.rF (k := 2) (i := 2) (p := (0, 600)) rfl rfl) (ei_cons (show (0 : Int) ≤ X.1 2 3 ∧ X.1 2 3 ≤ 600 from hH.rF (k := 2) (i := 3) (p := (0, 600)) rfl rfl) ei_nil)))))))))), el_nil, (dl_cons (show X.1 2 0 = X.1 2 0 + 0 by omega) (dl_cons (show X.1 2 1 = X.1 2 1 + 0 by omega) (dl_cons (show X.1 2 2 = X.1 2 2 + 0 by omega) (dl_cons (show X.1 2 3 = X.1 2 3 + 0 by omega) dl_nil)))), hH, hE⟩
  rw [e] at t
  refine MetX.imp (fun r X' hp => ?_) t
  obtain ⟨a, ha, g1, hx, hei, hel, rfl, hdl, hgd, hH1, hE1, hF1⟩ := hp
  refine ⟨?_, hH1, hE1⟩
  have e0 : g1.1 0 = 0 := hx.1 0 (by decide)
  have e1 : g1.1 1 = z1 := hx.1 1 (by decide)
  have e2 : g1.1 2 = z2 := hx.1 2 (by decide)
  have e3 : g1.1 3 = z3 := hx.1 3 (by decide)
  have e4 : g1.1 4 = z4 := hx.1 4 (by decide)
  have e5 : g1.1 5 = z5 := hx.1 5 (by decide)
  have e6 : g1.1 6 = X.1 2 0 := hx.1 6 (by decide)
  have e7 : g1.1 7 = X.1 2 1 := hx.1 7 (by decide)
  have e8 : g1.1 8 = X.1 2 2 := hx.1 8 (by decide)
  have e9 : g1.1 9 = X.1 2 3 := hx.1 9 (by decide)
  simp only [cAl, k_M_5, List.mem_cons, List.not_mem_nil, or_false] at ha
  rcases ha with rfl | rfl
  · have b1 : ((-2147483648) : Int) ≤ g1.1 1 ∧ g1.1 1 ≤ 2147483647 := hei 1 _ rfl
    have b2 : ((-2147483648) : Int) ≤ g1.1 2 ∧ g1.1 2 ≤ 2147483647 := hei 2 _ rfl
    have b3 : ((-2147483648) : Int) ≤ g1.1 3 ∧ g1.1 3 ≤ 2147483647 := hei 3 _ rfl
    have b4 : ((-2147483648) : Int) ≤ g1.1 4 ∧ g1.1 4 ≤ 2147483647 := hei 4 _ rfl
    have b5 : ((-2147483648) : Int) ≤ g1.1 5 ∧ g1.1 5 ≤ 2147483647 := hei 5 _ rfl
    have b6 : (581 : Int) ≤ g1.1 6 ∧ g1.1 6 ≤ 600 := hei 6 _ rfl
    have b7 : (0 : Int) ≤ g1.1 7 ∧ g1.1 7 ≤ 600 := hei 7 _ rfl
    have b8 : (0 : Int) ≤ g1.1 8 ∧ g1.1 8 ≤ 600 := hei 8 _ rfl
    have b9 : (0 : Int) ≤ g1.1 9 ∧ g1.1 9 ≤ 600 := hei 9 _ rfl
    have d2_0 : X'.1 2 0 = g1.1 6 + 0 := hdl ((2, 0), (0, 6, 0)) (.head _)
    have d2_1 : X'.1 2 1 = g1.1 7 + 0 := hdl ((2, 1), (0, 7, 0)) (.tail _ (.head _))
    have d2_2 : X'.1 2 2 = g1.1 8 + 0 := hdl ((2, 2), (0, 8, 0)) (.tail _ (.tail _ (.head _)))
    have d2_3 : X'.1 2 3 = g1.1 9 + 0 := hdl ((2, 3), (0, 9, 0)) (.tail _ (.tail _ (.tail _ (.head _))))
    exact ⟨g1.1 0 + (-1), rfl, ⟨by omega, by omega⟩, .inl ⟨by omega, by omega, by omega, by omega, by omega, by omega, (hF1 48 0 rfl).1, (hF1 48 1 rfl).1, (hF1 48 2 rfl).1⟩⟩
  · have b1 : ((-2147483648) : Int) ≤ g1.1 1 ∧ g1.1 1 ≤ 2147483647 := hei 1 _ rfl
    have b2 : ((-2147483648) : Int) ≤ g1.1 2 ∧ g1.1 2 ≤ 2147483647 := hei 2 _ rfl
    have b3 : ((-2147483648) : Int) ≤ g1.1 3 ∧ g1.1 3 ≤ 2147483647 := hei 3 _ rfl
    have b4 : ((-2147483648) : Int) ≤ g1.1 4 ∧ g1.1 4 ≤ 2147483647 := hei 4 _ rfl
    have b5 : ((-2147483648) : Int) ≤ g1.1 5 ∧ g1.1 5 ≤ 2147483647 := hei 5 _ rfl
    have b6 : (0 : Int) ≤ g1.1 6 ∧ g1.1 6 ≤ 580 := hei 6 _ rfl
    have b7 : (0 : Int) ≤ g1.1 7 ∧ g1.1 7 ≤ 600 := hei 7 _ rfl
    have b8 : (0 : Int) ≤ g1.1 8 ∧ g1.1 8 ≤ 600 := hei 8 _ rfl
    have b9 : (0 : Int) ≤ g1.1 9 ∧ g1.1 9 ≤ 600 := hei 9 _ rfl
    have d2_0 : X'.1 2 0 = g1.1 6 + 20 := hdl ((2, 0), (0, 6, 20)) (.tail _ (.tail _ (.tail _ (.tail _ (.head _)))))
    have d2_1 : X'.1 2 1 = g1.1 7 + 0 := hdl ((2, 1), (0, 7, 0)) (.tail _ (.head _))
    have d2_2 : X'.1 2 2 = g1.1 8 + 0 := hdl ((2, 2), (0, 8, 0)) (.tail _ (.tail _ (.head _)))
    have d2_3 : X'.1 2 3 = g1.1 9 + 0 := hdl ((2, 3), (0, 9, 0)) (.tail _ (.tail _ (.tail _ (.head _))))
    exact ⟨g1.1 6 + 20, rfl, ⟨by omega, by omega⟩, .inr (⟨by omega, by omega, by omega, by omega, by omega, by omega, (hF1 48 0 rfl).1, (hF1 48 1 rfl).1, (hF1 48 2 rfl).1⟩)⟩
set_option maxRecDepth 10000 in
theorem rp_fault {D : va_G} {ad : Nat → Nat} {cA : Nat → ClassId} {X : XT} {z1 : Int} (h1 : inR z1) (hH : HG vM X) (hE : gM.2 X) : MetX (wM D ad cA) yX12_fault cX12_fault 2 (some .int) 0 0 [.ref 0, .int (iI (z1))] X (fun r X' => (∃ u : Int32, r = some (.int u)) ∧ HG vM X' ∧ gM.2 X' ∧ FR (cMd k_M_8) X X') := by
  have e : (cAr k_M_8).map (dn (gA [z1])) = [.ref 0, .int (iI (z1))] := by
    show [Value.ref 0, Value.int (iI (z1 + 0))] = _
    simp only [Int.add_zero]
  have t := pub0 (t_M_8 (D := D) (ad := ad) (cA := cA)) rfl (g := (gA [z1])) (X := X) ⟨rfl, (ei_cons (by show (0 : Int) ≤ 0 ∧ (0 : Int) ≤ 0; omega) (ei_cons h1 ei_nil)), el_nil, dl_nil, hH, hE⟩
  rw [e] at t
  exact t
set_option maxRecDepth 10000 in
theorem rp_board {D : va_G} {ad : Nat → Nat} {cA : Nat → ClassId} {X : XT} {z1 z2 : Int} (h1 : inR z1) (h2 : inR z2) (hH : HG vM X) (hE : gM.2 X) : MetX (wM D ad cA) yX12_board cX12_board 3 (some .int) 3 67 [.ref 0, .int (iI (z1)), .int (iI (z2))] X (fun r X' => (∃ u : Int32, r = some (.int u)) ∧ HG vM X' ∧ gM.2 X' ∧ FR (cMd k_M_12) X X') := by
  have e : (cAr k_M_12).map (dn (gA [z1, z2])) = [.ref 0, .int (iI (z1)), .int (iI (z2))] := by
    show [Value.ref 0, Value.int (iI (z1 + 0)), Value.int (iI (z2 + 0))] = _
    simp only [Int.add_zero]
  have t := pub0 (t_M_12 (D := D) (ad := ad) (cA := cA)) rfl (g := (gA [z1, z2])) (X := X) ⟨rfl, (ei_cons (by show (0 : Int) ≤ 0 ∧ (0 : Int) ≤ 0; omega) (ei_cons h1 (ei_cons h2 ei_nil))), el_nil, dl_nil, hH, hE⟩
  rw [e] at t
  exact t
set_option maxRecDepth 10000 in
theorem rp_field {D : va_G} {ad : Nat → Nat} {cA : Nat → ClassId} {X : XT} {z1 z2 : Int} (h1 : inR z1) (h2 : inR z2) (hH : HG vM X) (hE : gM.2 X) : MetX (wM D ad cA) yX12_field cX12_field 4 (some .int) 3 67 [.ref 0, .int (iI (z1)), .int (iI (z2))] X (fun r X' => (∃ u : Int32, r = some (.int u)) ∧ HG vM X' ∧ gM.2 X' ∧ FR (cMd k_M_15) X X') := by
  have e : (cAr k_M_15).map (dn (gA [z1, z2])) = [.ref 0, .int (iI (z1)), .int (iI (z2))] := by
    show [Value.ref 0, Value.int (iI (z1 + 0)), Value.int (iI (z2 + 0))] = _
    simp only [Int.add_zero]
  have t := pub0 (t_M_15 (D := D) (ad := ad) (cA := cA)) rfl (g := (gA [z1, z2])) (X := X) ⟨rfl, (ei_cons (by show (0 : Int) ≤ 0 ∧ (0 : Int) ≤ 0; omega) (ei_cons h1 (ei_cons h2 ei_nil))), el_nil, dl_nil, hH, hE⟩
  rw [e] at t
  exact t
set_option maxRecDepth 10000 in
theorem rp_man {D : va_G} {ad : Nat → Nat} {cA : Nat → ClassId} {X : XT} {z1 z2 z3 : Int} (h1 : inR z1) (h2 : inR z2) (h3 : inR z3) (hH : HG vM X) (hE : gM.2 X) : MetX (wM D ad cA) yX12_man cX12_man 4 (some .int) 3 67 [.ref 0, .int (iI (z1)), .int (iI (z2)), .int (iI (z3))] X (fun r X' => (∃ u : Int32, r = some (.int u)) ∧ HG vM X' ∧ gM.2 X' ∧ FR (cMd k_M_16) X X') := by
  have e : (cAr k_M_16).map (dn (gA [z1, z2, z3])) = [.ref 0, .int (iI (z1)), .int (iI (z2)), .int (iI (z3))] := by
    show [Value.ref 0, Value.int (iI (z1 + 0)), Value.int (iI (z2 + 0)), Value.int (iI (z3 + 0))] = _
    simp only [Int.add_zero]
  have t := pub0 (t_M_16 (D := D) (ad := ad) (cA := cA)) rfl (g := (gA [z1, z2, z3])) (X := X) ⟨rfl, (ei_cons (by show (0 : Int) ≤ 0 ∧ (0 : Int) ≤ 0; omega) (ei_cons h1 (ei_cons h2 (ei_cons h3 ei_nil)))), el_nil, dl_nil, hH, hE⟩
  rw [e] at t
  exact t
set_option maxRecDepth 10000 in
theorem rp_rule {D : va_G} {ad : Nat → Nat} {cA : Nat → ClassId} {X : XT} {z1 z2 : Int} (h1 : inR z1) (h2 : inR z2) (hH : HG vM X) (hE : gM.2 X) : MetX (wM D ad cA) yX12_rule cX12_rule 4 (some .int) 2 44 [.ref 0, .int (iI (z1)), .int (iI (z2))] X (fun r X' => (∃ u : Int32, r = some (.int u)) ∧ HG vM X' ∧ gM.2 X' ∧ FR (cMd k_M_18) X X') := by
  have e : (cAr k_M_18).map (dn (gA [z1, z2])) = [.ref 0, .int (iI (z1)), .int (iI (z2))] := by
    show [Value.ref 0, Value.int (iI (z1 + 0)), Value.int (iI (z2 + 0))] = _
    simp only [Int.add_zero]
  have t := pub0 (t_M_18 (D := D) (ad := ad) (cA := cA)) rfl (g := (gA [z1, z2])) (X := X) ⟨rfl, (ei_cons (by show (0 : Int) ≤ 0 ∧ (0 : Int) ≤ 0; omega) (ei_cons h1 (ei_cons h2 ei_nil))), el_nil, dl_nil, hH, hE⟩
  rw [e] at t
  exact t
set_option maxRecDepth 10000 in
theorem rp_ends {D : va_G} {ad : Nat → Nat} {cA : Nat → ClassId} {X : XT} {z1 z2 z3 : Int} (h1 : inR z1) (h2 : inR z2) (h3 : inR z3) (hH : HG vM X) (hE : gM.2 X) : MetX (wM D ad cA) yX12_ends cX12_ends 4 (some .long) 11 268 [.ref 0, .int (iI (z1)), .int (iI (z2)), .int (iI (z3))] X (fun r X' => (∃ u : Int64, r = some (.long u)) ∧ HG vM X' ∧ gM.2 X' ∧ FR (cMd k_M_99) X X') := by
  have e : (cAr k_M_99).map (dn (gA [z1, z2, z3])) = [.ref 0, .int (iI (z1)), .int (iI (z2)), .int (iI (z3))] := by
    show [Value.ref 0, Value.int (iI (z1 + 0)), Value.int (iI (z2 + 0)), Value.int (iI (z3 + 0))] = _
    simp only [Int.add_zero]
  have t := pub1 (t_M_99 (D := D) (ad := ad) (cA := cA)) rfl (g := (gA [z1, z2, z3])) (X := X) ⟨rfl, (ei_cons (by show (0 : Int) ≤ 0 ∧ (0 : Int) ≤ 0; omega) (ei_cons h1 (ei_cons h2 (ei_cons h3 ei_nil)))), el_nil, dl_nil, hH, hE⟩
  rw [e] at t
  exact t
set_option maxRecDepth 10000 in
theorem rp_ways {D : va_G} {ad : Nat → Nat} {cA : Nat → ClassId} {X : XT} {z1 z2 z3 z4 : Int} (h1 : inR z1) (h2 : inR z2) (h3 : inR z3) (h4 : inR z4) (hH : HG vM X) (hE : gM.2 X) : MetX (wM D ad cA) yX12_ways cX12_ways 5 (some .int) 7 179 [.ref 0, .int (iI (z1)), .int (iI (z2)), .int (iI (z3)), .int (iI (z4))] X (fun r X' => (∃ u : Int32, r = some (.int u)) ∧ HG vM X' ∧ gM.2 X' ∧ FR (cMd k_M_101) X X') := by
  have e : (cAr k_M_101).map (dn (gA [z1, z2, z3, z4])) = [.ref 0, .int (iI (z1)), .int (iI (z2)), .int (iI (z3)), .int (iI (z4))] := by
    show [Value.ref 0, Value.int (iI (z1 + 0)), Value.int (iI (z2 + 0)), Value.int (iI (z3 + 0)), Value.int (iI (z4 + 0))] = _
    simp only [Int.add_zero]
  have t := pub0 (t_M_101 (D := D) (ad := ad) (cA := cA)) rfl (g := (gA [z1, z2, z3, z4])) (X := X) ⟨rfl, (ei_cons (by show (0 : Int) ≤ 0 ∧ (0 : Int) ≤ 0; omega) (ei_cons h1 (ei_cons h2 (ei_cons h3 (ei_cons h4 ei_nil))))), el_nil, dl_nil, hH, hE⟩
  rw [e] at t
  exact t
set_option maxRecDepth 10000 in
theorem rp_path {D : va_G} {ad : Nat → Nat} {cA : Nat → ClassId} {X : XT} {z1 z2 z3 z4 z5 : Int} (h1 : inR z1) (h2 : inR z2) (h3 : inR z3) (h4 : inR z4) (h5 : inR z5) (hH : HG vM X) (hE : gM.2 X) : MetX (wM D ad cA) yX12_path cX12_path 8 (some .int) 7 179 [.ref 0, .int (iI (z1)), .int (iI (z2)), .int (iI (z3)), .int (iI (z4)), .int (iI (z5))] X (fun r X' => (∃ u : Int32, r = some (.int u)) ∧ HG vM X' ∧ gM.2 X' ∧ FR (cMd k_M_102) X X') := by
  have e : (cAr k_M_102).map (dn (gA [z1, z2, z3, z4, z5])) = [.ref 0, .int (iI (z1)), .int (iI (z2)), .int (iI (z3)), .int (iI (z4)), .int (iI (z5))] := by
    show [Value.ref 0, Value.int (iI (z1 + 0)), Value.int (iI (z2 + 0)), Value.int (iI (z3 + 0)), Value.int (iI (z4 + 0)), Value.int (iI (z5 + 0))] = _
    simp only [Int.add_zero]
  have t := pub0 (t_M_102 (D := D) (ad := ad) (cA := cA)) rfl (g := (gA [z1, z2, z3, z4, z5])) (X := X) ⟨rfl, (ei_cons (by show (0 : Int) ≤ 0 ∧ (0 : Int) ≤ 0; omega) (ei_cons h1 (ei_cons h2 (ei_cons h3 (ei_cons h4 (ei_cons h5 ei_nil)))))), el_nil, dl_nil, hH, hE⟩
  rw [e] at t
  exact t
set_option maxRecDepth 10000 in
theorem rp_move {D : va_G} {ad : Nat → Nat} {cA : Nat → ClassId} {X : XT} {z1 z2 z3 : Int} (h1 : inR z1) (h2 : inR z2) (h3 : inR z3) (hH : HG vM X) (hE : gM.2 X) : MetX (wM D ad cA) yX12_move cX12_move 4 (some .int) 2 44 [.ref 0, .int (iI (z1)), .int (iI (z2)), .int (iI (z3))] X (fun r X' => (∃ u : Int32, r = some (.int u)) ∧ HG vM X' ∧ gM.2 X' ∧ FR (cMd k_M_108) X X') := by
  have e : (cAr k_M_108).map (dn (gA [z1, z2, z3])) = [.ref 0, .int (iI (z1)), .int (iI (z2)), .int (iI (z3))] := by
    show [Value.ref 0, Value.int (iI (z1 + 0)), Value.int (iI (z2 + 0)), Value.int (iI (z3 + 0))] = _
    simp only [Int.add_zero]
  have t := pub0 (t_M_108 (D := D) (ad := ad) (cA := cA)) rfl (g := (gA [z1, z2, z3])) (X := X) ⟨rfl, (ei_cons (by show (0 : Int) ≤ 0 ∧ (0 : Int) ≤ 0; omega) (ei_cons h1 (ei_cons h2 (ei_cons h3 ei_nil)))), el_nil, dl_nil, hH, hE⟩
  rw [e] at t
  exact t
set_option maxRecDepth 10000 in
theorem rp_stop {D : va_G} {ad : Nat → Nat} {cA : Nat → ClassId} {X : XT} {z1 z2 : Int} (h1 : inR z1) (h2 : inR z2) (hH : HG vM X) (hE : gM.2 X) : MetX (wM D ad cA) yX12_stop cX12_stop 3 (some .int) 13 315 [.ref 0, .int (iI (z1)), .int (iI (z2))] X (fun r X' => (∃ u : Int32, r = some (.int u)) ∧ HG vM X' ∧ gM.2 X' ∧ FR (cMd k_M_123) X X') := by
  have e : (cAr k_M_123).map (dn (gA [z1, z2])) = [.ref 0, .int (iI (z1)), .int (iI (z2))] := by
    show [Value.ref 0, Value.int (iI (z1 + 0)), Value.int (iI (z2 + 0))] = _
    simp only [Int.add_zero]
  have t := pub0 (t_M_123 (D := D) (ad := ad) (cA := cA)) rfl (g := (gA [z1, z2])) (X := X) ⟨rfl, (ei_cons (by show (0 : Int) ≤ 0 ∧ (0 : Int) ≤ 0; omega) (ei_cons h1 (ei_cons h2 ei_nil))), el_nil, dl_nil, hH, hE⟩
  rw [e] at t
  exact t
set_option maxRecDepth 10000 in
theorem rp_state {D : va_G} {ad : Nat → Nat} {cA : Nat → ClassId} {X : XT} {z1 z2 z3 z4 : Int} (h1 : inR z1) (h2 : inR z2) (h3 : inR z3) (h4 : inR z4) (hH : HG vM X) (hE : gM.2 X) : MetX (wM D ad cA) yX12_state cX12_state 5 (some .int) 14 338 [.ref 0, .int (iI (z1)), .int (iI (z2)), .int (iI (z3)), .int (iI (z4))] X (fun r X' => (∃ u : Int32, r = some (.int u)) ∧ HG vM X' ∧ gM.2 X' ∧ FR (cMd k_M_127) X X') := by
  have e : (cAr k_M_127).map (dn (gA [z1, z2, z3, z4])) = [.ref 0, .int (iI (z1)), .int (iI (z2)), .int (iI (z3)), .int (iI (z4))] := by
    show [Value.ref 0, Value.int (iI (z1 + 0)), Value.int (iI (z2 + 0)), Value.int (iI (z3 + 0)), Value.int (iI (z4 + 0))] = _
    simp only [Int.add_zero]
  have t := pub0 (t_M_127 (D := D) (ad := ad) (cA := cA)) rfl (g := (gA [z1, z2, z3, z4])) (X := X) ⟨rfl, (ei_cons (by show (0 : Int) ≤ 0 ∧ (0 : Int) ≤ 0; omega) (ei_cons h1 (ei_cons h2 (ei_cons h3 (ei_cons h4 ei_nil))))), el_nil, dl_nil, hH, hE⟩
  rw [e] at t
  exact t
set_option maxRecDepth 10000 in
theorem rp_may {D : va_G} {ad : Nat → Nat} {cA : Nat → ClassId} {X : XT} {z1 z2 z3 z4 : Int} (h1 : inR z1) (h2 : inR z2) (h3 : inR z3) (h4 : inR z4) (hH : HG vM X) (hE : gM.2 X) : MetX (wM D ad cA) yX12_may cX12_may 5 (some .long) 14 338 [.ref 0, .int (iI (z1)), .int (iI (z2)), .int (iI (z3)), .int (iI (z4))] X (fun r X' => (∃ u : Int64, r = some (.long u)) ∧ HG vM X' ∧ gM.2 X' ∧ FR (cMd k_M_128) X X') := by
  have e : (cAr k_M_128).map (dn (gA [z1, z2, z3, z4])) = [.ref 0, .int (iI (z1)), .int (iI (z2)), .int (iI (z3)), .int (iI (z4))] := by
    show [Value.ref 0, Value.int (iI (z1 + 0)), Value.int (iI (z2 + 0)), Value.int (iI (z3 + 0)), Value.int (iI (z4 + 0))] = _
    simp only [Int.add_zero]
  have t := pub1 (t_M_128 (D := D) (ad := ad) (cA := cA)) rfl (g := (gA [z1, z2, z3, z4])) (X := X) ⟨rfl, (ei_cons (by show (0 : Int) ≤ 0 ∧ (0 : Int) ≤ 0; omega) (ei_cons h1 (ei_cons h2 (ei_cons h3 (ei_cons h4 ei_nil))))), el_nil, dl_nil, hH, hE⟩
  rw [e] at t
  exact t
set_option maxRecDepth 10000 in
theorem rp_fatal {D : va_G} {ad : Nat → Nat} {cA : Nat → ClassId} {X : XT} {z1 z2 z3 z4 : Int} (h1 : inR z1) (h2 : inR z2) (h3 : inR z3) (h4 : 0 ≤ z4 ∧ z4 ≤ 1) (hH : HG vM X) (hE : gM.2 X) : MetX (wM D ad cA) yX12_fatal cX12_fatal 11 (some .int) 15 361 [.ref 0, .int (iI (z1)), .int (iI (z2)), .int (iI (z3)), .int (iI (z4))] X (fun r X' => (∃ u : Int32, r = some (.int u)) ∧ HG vM X' ∧ gM.2 X' ∧ FR (cMd k_M_134) X X') := by
  have e : (cAr k_M_134).map (dn (gA [z1, z2, z3, z4])) = [.ref 0, .int (iI (z1)), .int (iI (z2)), .int (iI (z3)), .int (iI (z4))] := by
    show [Value.ref 0, Value.int (iI (z1 + 0)), Value.int (iI (z2 + 0)), Value.int (iI (z3 + 0)), Value.int (iI (z4 + 0))] = _
    simp only [Int.add_zero]
  have t := pub0 (t_M_134 (D := D) (ad := ad) (cA := cA)) rfl (g := (gA [z1, z2, z3, z4])) (X := X) ⟨rfl, (ei_cons (by show (0 : Int) ≤ 0 ∧ (0 : Int) ≤ 0; omega) (ei_cons h1 (ei_cons h2 (ei_cons h3 (ei_cons h4 ei_nil))))), el_nil, dl_nil, hH, hE⟩
  rw [e] at t
  exact t
set_option maxRecDepth 10000 in
theorem rp_loses {D : va_G} {ad : Nat → Nat} {cA : Nat → ClassId} {X : XT} {z1 z2 z3 : Int} (h1 : inR z1) (h2 : inR z2) (h3 : inR z3) (hH : HG vM X) (hE : gM.2 X) : MetX (wM D ad cA) yX12_loses cX12_loses 6 (some .boolean) 15 361 [.ref 0, .int (iI (z1)), .int (iI (z2)), .int (iI (z3))] X (fun r X' => (∃ u : Int32, r = some (.int u)) ∧ HG vM X' ∧ gM.2 X' ∧ FR (cMd k_M_137) X X') := by
  have e : (cAr k_M_137).map (dn (gA [z1, z2, z3])) = [.ref 0, .int (iI (z1)), .int (iI (z2)), .int (iI (z3))] := by
    show [Value.ref 0, Value.int (iI (z1 + 0)), Value.int (iI (z2 + 0)), Value.int (iI (z3 + 0))] = _
    simp only [Int.add_zero]
  have t := pub0 (t_M_137 (D := D) (ad := ad) (cA := cA)) rfl (g := (gA [z1, z2, z3])) (X := X) ⟨rfl, (ei_cons (by show (0 : Int) ≤ 0 ∧ (0 : Int) ≤ 0; omega) (ei_cons h1 (ei_cons h2 (ei_cons h3 ei_nil)))), el_nil, dl_nil, hH, hE⟩
  rw [e] at t
  exact t
set_option maxRecDepth 10000 in
theorem rp_brave {D : va_G} {ad : Nat → Nat} {cA : Nat → ClassId} {X : XT} {z1 z2 z3 : Int} (h1 : inR z1) (h2 : inR z2) (h3 : inR z3) (hH : HG vM X) (hE : gM.2 X) : MetX (wM D ad cA) yX12_brave cX12_brave 7 (some .int) 13 315 [.ref 0, .int (iI (z1)), .int (iI (z2)), .int (iI (z3))] X (fun r X' => (∃ u : Int32, r = some (.int u)) ∧ HG vM X' ∧ gM.2 X' ∧ FR (cMd k_M_138) X X') := by
  have e : (cAr k_M_138).map (dn (gA [z1, z2, z3])) = [.ref 0, .int (iI (z1)), .int (iI (z2)), .int (iI (z3))] := by
    show [Value.ref 0, Value.int (iI (z1 + 0)), Value.int (iI (z2 + 0)), Value.int (iI (z3 + 0))] = _
    simp only [Int.add_zero]
  have t := pub0 (t_M_138 (D := D) (ad := ad) (cA := cA)) rfl (g := (gA [z1, z2, z3])) (X := X) ⟨rfl, (ei_cons (by show (0 : Int) ≤ 0 ∧ (0 : Int) ≤ 0; omega) (ei_cons h1 (ei_cons h2 (ei_cons h3 ei_nil)))), el_nil, dl_nil, hH, hE⟩
  rw [e] at t
  exact t
set_option maxRecDepth 10000 in
theorem rp_binds {D : va_G} {ad : Nat → Nat} {cA : Nat → ClassId} {X : XT} {z1 z2 z3 z4 : Int} (h1 : inR z1) (h2 : inR z2) (h3 : inR z3) (h4 : inR z4) (hH : HG vM X) (hE : gM.2 X) : MetX (wM D ad cA) yX12_binds cX12_binds 5 (some .int) 12 297 [.ref 0, .int (iI (z1)), .int (iI (z2)), .int (iI (z3)), .int (iI (z4))] X (fun r X' => (∃ u : Int32, r = some (.int u)) ∧ HG vM X' ∧ gM.2 X' ∧ FR (cMd k_M_155) X X') := by
  have e : (cAr k_M_155).map (dn (gA [z1, z2, z3, z4])) = [.ref 0, .int (iI (z1)), .int (iI (z2)), .int (iI (z3)), .int (iI (z4))] := by
    show [Value.ref 0, Value.int (iI (z1 + 0)), Value.int (iI (z2 + 0)), Value.int (iI (z3 + 0)), Value.int (iI (z4 + 0))] = _
    simp only [Int.add_zero]
  have t := pub0 (t_M_155 (D := D) (ad := ad) (cA := cA)) rfl (g := (gA [z1, z2, z3, z4])) (X := X) ⟨rfl, (ei_cons (by show (0 : Int) ≤ 0 ∧ (0 : Int) ≤ 0; omega) (ei_cons h1 (ei_cons h2 (ei_cons h3 (ei_cons h4 ei_nil))))), el_nil, dl_nil, hH, hE⟩
  rw [e] at t
  exact t
set_option maxRecDepth 10000 in
theorem rp_drive {D : va_G} {ad : Nat → Nat} {cA : Nat → ClassId} {X : XT} {z1 z2 z3 z4 : Int} (h1 : inR z1) (h2 : inR z2) (h3 : inR z3) (h4 : inR z4) (hH : HG vM X) (hE : gM.2 X) : MetX (wM D ad cA) yX12_drive cX12_drive 5 (some .int) 12 297 [.ref 0, .int (iI (z1)), .int (iI (z2)), .int (iI (z3)), .int (iI (z4))] X (fun r X' => (∃ u : Int32, r = some (.int u)) ∧ HG vM X' ∧ gM.2 X' ∧ FR (cMd k_M_162) X X') := by
  have e : (cAr k_M_162).map (dn (gA [z1, z2, z3, z4])) = [.ref 0, .int (iI (z1)), .int (iI (z2)), .int (iI (z3)), .int (iI (z4))] := by
    show [Value.ref 0, Value.int (iI (z1 + 0)), Value.int (iI (z2 + 0)), Value.int (iI (z3 + 0)), Value.int (iI (z4 + 0))] = _
    simp only [Int.add_zero]
  have t := pub0 (t_M_162 (D := D) (ad := ad) (cA := cA)) rfl (g := (gA [z1, z2, z3, z4])) (X := X) ⟨rfl, (ei_cons (by show (0 : Int) ≤ 0 ∧ (0 : Int) ≤ 0; omega) (ei_cons h1 (ei_cons h2 (ei_cons h3 (ei_cons h4 ei_nil))))), el_nil, dl_nil, hH, hE⟩
  rw [e] at t
  exact t
set_option maxRecDepth 10000 in
theorem rp_shorter {D : va_G} {ad : Nat → Nat} {cA : Nat → ClassId} {X : XT} {z1 z2 z3 z4 : Int} (h1 : inR z1) (h2 : inR z2) (h3 : inR z3) (h4 : inR z4) (hH : HG vM X) (hE : gM.2 X) : MetX (wM D ad cA) yX12_shorter cX12_shorter 5 (some .int) 12 297 [.ref 0, .int (iI (z1)), .int (iI (z2)), .int (iI (z3)), .int (iI (z4))] X (fun r X' => (∃ u : Int32, r = some (.int u)) ∧ HG vM X' ∧ gM.2 X' ∧ FR (cMd k_M_169) X X') := by
  have e : (cAr k_M_169).map (dn (gA [z1, z2, z3, z4])) = [.ref 0, .int (iI (z1)), .int (iI (z2)), .int (iI (z3)), .int (iI (z4))] := by
    show [Value.ref 0, Value.int (iI (z1 + 0)), Value.int (iI (z2 + 0)), Value.int (iI (z3 + 0)), Value.int (iI (z4 + 0))] = _
    simp only [Int.add_zero]
  have t := pub0 (t_M_169 (D := D) (ad := ad) (cA := cA)) rfl (g := (gA [z1, z2, z3, z4])) (X := X) ⟨rfl, (ei_cons (by show (0 : Int) ≤ 0 ∧ (0 : Int) ≤ 0; omega) (ei_cons h1 (ei_cons h2 (ei_cons h3 (ei_cons h4 ei_nil))))), el_nil, dl_nil, hH, hE⟩
  rw [e] at t
  exact t
set_option maxRecDepth 10000 in
theorem rp_alike {D : va_G} {ad : Nat → Nat} {cA : Nat → ClassId} {X : XT} {z1 z2 z3 : Int} (h1 : inR z1) (h2 : inR z2) (h3 : inR z3) (hH : HG vM X) (hE : gM.2 X) : MetX (wM D ad cA) yX12_alike cX12_alike 5 (some .boolean) 12 292 [.ref 0, .int (iI (z1)), .int (iI (z2)), .int (iI (z3))] X (fun r X' => (∃ u : Int32, r = some (.int u)) ∧ HG vM X' ∧ gM.2 X' ∧ FR (cMd k_M_179) X X') := by
  have e : (cAr k_M_179).map (dn (gA [z1, z2, z3])) = [.ref 0, .int (iI (z1)), .int (iI (z2)), .int (iI (z3))] := by
    show [Value.ref 0, Value.int (iI (z1 + 0)), Value.int (iI (z2 + 0)), Value.int (iI (z3 + 0))] = _
    simp only [Int.add_zero]
  have t := pub0 (t_M_179 (D := D) (ad := ad) (cA := cA)) rfl (g := (gA [z1, z2, z3])) (X := X) ⟨rfl, (ei_cons (by show (0 : Int) ≤ 0 ∧ (0 : Int) ≤ 0; omega) (ei_cons h1 (ei_cons h2 (ei_cons h3 ei_nil)))), el_nil, dl_nil, hH, hE⟩
  rw [e] at t
  exact t
set_option maxRecDepth 10000 in
theorem rp_wins {D : va_G} {ad : Nat → Nat} {cA : Nat → ClassId} {X : XT} {z1 z2 z3 z4 z5 : Int} (h1 : inR z1) (h2 : inR z2) (h3 : inR z3) (h4 : inR z4) (h5 : inR z5) (hH : HG vM X) (hE : gM.2 X) : MetX (wM D ad cA) yX12_wins cX12_wins 7 (some .int) 17 421 [.ref 0, .int (iI (z1)), .int (iI (z2)), .int (iI (z3)), .int (iI (z4)), .int (iI (z5))] X (fun r X' => (∃ u : Int32, r = some (.int u)) ∧ HG vM X' ∧ gM.2 X' ∧ FR (cMd k_M_207) X X') := by
  have e : (cAr k_M_207).map (dn (gA [z1, z2, z3, z4, z5])) = [.ref 0, .int (iI (z1)), .int (iI (z2)), .int (iI (z3)), .int (iI (z4)), .int (iI (z5))] := by
    show [Value.ref 0, Value.int (iI (z1 + 0)), Value.int (iI (z2 + 0)), Value.int (iI (z3 + 0)), Value.int (iI (z4 + 0)), Value.int (iI (z5 + 0))] = _
    simp only [Int.add_zero]
  have t := pub0 (t_M_207 (D := D) (ad := ad) (cA := cA)) rfl (g := (gA [z1, z2, z3, z4, z5])) (X := X) ⟨rfl, (ei_cons (by show (0 : Int) ≤ 0 ∧ (0 : Int) ≤ 0; omega) (ei_cons h1 (ei_cons h2 (ei_cons h3 (ei_cons h4 (ei_cons h5 ei_nil)))))), el_nil, dl_nil, hH, hE⟩
  rw [e] at t
  exact t
set_option maxRecDepth 10000 in
theorem rp_soonest {D : va_G} {ad : Nat → Nat} {cA : Nat → ClassId} {X : XT} {z1 z2 z3 : Int} (h1 : inR z1) (h2 : inR z2) (h3 : inR z3) (hH : HG vM X) (hE : gM.2 X) : MetX (wM D ad cA) yX12_soonest cX12_soonest 5 (some .int) 17 421 [.ref 0, .int (iI (z1)), .int (iI (z2)), .int (iI (z3))] X (fun r X' => (∃ u : Int32, r = some (.int u)) ∧ HG vM X' ∧ gM.2 X' ∧ FR (cMd k_M_212) X X') := by
  have e : (cAr k_M_212).map (dn (gA [z1, z2, z3])) = [.ref 0, .int (iI (z1)), .int (iI (z2)), .int (iI (z3))] := by
    show [Value.ref 0, Value.int (iI (z1 + 0)), Value.int (iI (z2 + 0)), Value.int (iI (z3 + 0))] = _
    simp only [Int.add_zero]
  have t := pub0 (t_M_212 (D := D) (ad := ad) (cA := cA)) rfl (g := (gA [z1, z2, z3])) (X := X) ⟨rfl, (ei_cons (by show (0 : Int) ≤ 0 ∧ (0 : Int) ≤ 0; omega) (ei_cons h1 (ei_cons h2 (ei_cons h3 ei_nil)))), el_nil, dl_nil, hH, hE⟩
  rw [e] at t
  exact t
set_option maxRecDepth 10000 in
theorem rp_drawn {D : va_G} {ad : Nat → Nat} {cA : Nat → ClassId} {X : XT} {z1 z2 z3 z4 : Int} (h1 : inR z1) (h2 : inR z2) (h3 : inR z3) (h4 : inR z4) (hH : HG vM X) (hE : gM.2 X) : MetX (wM D ad cA) yX12_drawn cX12_drawn 8 (some .int) 11 268 [.ref 0, .int (iI (z1)), .int (iI (z2)), .int (iI (z3)), .int (iI (z4))] X (fun r X' => (∃ u : Int32, r = some (.int u)) ∧ HG vM X' ∧ gM.2 X' ∧ FR (cMd k_M_218) X X') := by
  have e : (cAr k_M_218).map (dn (gA [z1, z2, z3, z4])) = [.ref 0, .int (iI (z1)), .int (iI (z2)), .int (iI (z3)), .int (iI (z4))] := by
    show [Value.ref 0, Value.int (iI (z1 + 0)), Value.int (iI (z2 + 0)), Value.int (iI (z3 + 0)), Value.int (iI (z4 + 0))] = _
    simp only [Int.add_zero]
  have t := pub0 (t_M_218 (D := D) (ad := ad) (cA := cA)) rfl (g := (gA [z1, z2, z3, z4])) (X := X) ⟨rfl, (ei_cons (by show (0 : Int) ≤ 0 ∧ (0 : Int) ≤ 0; omega) (ei_cons h1 (ei_cons h2 (ei_cons h3 (ei_cons h4 ei_nil))))), el_nil, dl_nil, hH, hE⟩
  rw [e] at t
  exact t
set_option maxRecDepth 10000 in
theorem rp_count {D : va_G} {ad : Nat → Nat} {cA : Nat → ClassId} {X : XT} {z1 : Int} (h1 : inR z1) (hH : HG vM X) (hE : gM.2 X) : MetX (wM D ad cA) yX12_count cX12_count 2 (some .int) 1 22 [.ref 0, .int (iI (z1))] X (fun r X' => (∃ u : Int32, r = some (.int u)) ∧ HG vM X' ∧ gM.2 X' ∧ FR (cMd k_M_219) X X') := by
  have e : (cAr k_M_219).map (dn (gA [z1])) = [.ref 0, .int (iI (z1))] := by
    show [Value.ref 0, Value.int (iI (z1 + 0))] = _
    simp only [Int.add_zero]
  have t := pub0 (t_M_219 (D := D) (ad := ad) (cA := cA)) rfl (g := (gA [z1])) (X := X) ⟨rfl, (ei_cons (by show (0 : Int) ≤ 0 ∧ (0 : Int) ≤ 0; omega) (ei_cons h1 ei_nil)), el_nil, dl_nil, hH, hE⟩
  rw [e] at t
  exact t
set_option maxRecDepth 10000 in
theorem rp_image {D : va_G} {ad : Nat → Nat} {cA : Nat → ClassId} {X : XT} {z1 : Int} (h1 : inR z1) (hH : HG vM X) (hE : gM.2 X) : MetX (wM D ad cA) yX12_image cX12_image 2 (some .boolean) 2 47 [.ref 0, .int (iI (z1))] X (fun r X' => (∃ u : Int, r = some (.int (iI u)) ∧ inR u ∧ ((3 ≤ z1 ∧ u = 0 ∧ X'.1 2 0 = X.1 2 0 ∧ X'.1 2 1 = X.1 2 1 ∧ X'.1 2 2 = X.1 2 2 ∧ X'.1 2 3 = X.1 2 3 ∧ X'.1 48 0 = X.1 48 0 ∧ X'.1 48 1 = X.1 48 1 ∧ X'.1 48 2 = X.1 48 2) ∨ (z1 ≤ (-1) ∧ u = 0 ∧ X'.1 2 0 = X.1 2 0 ∧ X'.1 2 1 = X.1 2 1 ∧ X'.1 2 2 = X.1 2 2 ∧ X'.1 2 3 = X.1 2 3 ∧ X'.1 48 0 = X.1 48 0 ∧ X'.1 48 1 = X.1 48 1 ∧ X'.1 48 2 = X.1 48 2) ∨ (2 ≤ z1 ∧ z1 ≤ 2 ∧ u = 1 ∧ X'.1 2 0 = X.1 2 0 ∧ X'.1 2 1 = X.1 2 1 ∧ X'.1 2 2 = X.1 2 2 ∧ X'.1 2 3 = X.1 2 0 ∧ X'.1 48 0 = X.1 48 0 ∧ X'.1 48 1 = X.1 48 1 ∧ X'.1 48 2 = 1) ∨ (1 ≤ z1 ∧ z1 ≤ 1 ∧ u = 1 ∧ X'.1 2 0 = X.1 2 0 ∧ X'.1 2 1 = X.1 2 1 ∧ X'.1 2 2 = X.1 2 0 ∧ X'.1 2 3 = X.1 2 3 ∧ X'.1 48 0 = X.1 48 0 ∧ X'.1 48 1 = 1 ∧ X'.1 48 2 = X.1 48 2) ∨ (0 ≤ z1 ∧ z1 ≤ 0 ∧ u = 1 ∧ X'.1 2 0 = X.1 2 0 ∧ X'.1 2 1 = X.1 2 0 ∧ X'.1 2 2 = X.1 2 2 ∧ X'.1 2 3 = X.1 2 3 ∧ X'.1 48 0 = 1 ∧ X'.1 48 1 = X.1 48 1 ∧ X'.1 48 2 = X.1 48 2))) ∧ HG vM X' ∧ gM.2 X') := by
  have e : (cAr k_M_224).map (dn (gA [z1, X.1 2 0, X.1 2 1, X.1 2 2, X.1 2 3, X.1 48 0, X.1 48 1, X.1 48 2])) = [.ref 0, .int (iI (z1))] := by
    show [Value.ref 0, Value.int (iI (z1 + 0))] = _
    simp only [Int.add_zero]
  have t := t_M_224 (D := D) (ad := ad) (cA := cA) (gA [z1, X.1 2 0, X.1 2 1, X.1 2 2, X.1 2 3, X.1 48 0, X.1 48 1, X.1 48 2]) X ⟨rfl, (ei_cons (by show (0 : Int) ≤ 0 ∧ (0 : Int) ≤ 0; omega) (ei_cons h1 (ei_cons (show (0 : Int) ≤ X.1 2 0 ∧ X.1 2 0 ≤ 600 from hH.rF (k := 2) (i := 0) (p := (0, 600)) rfl rfl) (ei_cons (show (0 : Int) ≤ X.1 2 1 ∧ X.1 2 1 ≤ 600 from hH.rF (k := 2) (i := 1) (p := (0, 600)) rfl rfl) (ei_cons (show (0 : Int) ≤ X.1 2 2 ∧ X.1 2 2 ≤ 600 from hH.rF (k := 2) (i := 2) (p := (0, 600)) rfl rfl) (ei_cons (show (0 : Int) ≤ X.1 2 3 ∧ X.1 2 3 ≤ 600 from hH.rF (k := 2) (i := 3) (p := (0, 600)) rfl rfl) (ei_cons (show (0 : Int) ≤ X.1 48 0 ∧ X.1 48 0 ≤ 1 from hH.rF (k := 48) (i := 0) (p := (0, 1)) rfl rfl) (ei_cons (show (0 : Int) ≤ X.1 48 1 ∧ X.1 48 1 ≤ 1 from hH.rF (k := 48) (i := 1) (p := (0, 1)) rfl rfl) (ei_cons (show (0 : Int) ≤ X.1 48 2 ∧ X.1 48 2 ≤ 1 from hH.rF (k := 48) (i := 2) (p := (0, 1)) rfl rfl) ei_nil))))))))), el_nil, (dl_cons (show X.1 2 0 = X.1 2 0 + 0 by omega) (dl_cons (show X.1 2 1 = X.1 2 1 + 0 by omega) (dl_cons (show X.1 2 2 = X.1 2 2 + 0 by omega) (dl_cons (show X.1 2 3 = X.1 2 3 + 0 by omega) (dl_cons (show X.1 48 0 = X.1 48 0 + 0 by omega) (dl_cons (show X.1 48 1 = X.1 48 1 + 0 by omega) (dl_cons (show X.1 48 2 = X.1 48 2 + 0 by omega) dl_nil))))))), hH, hE⟩
  rw [e] at t
  refine MetX.imp (fun r X' hp => ?_) t
  obtain ⟨a, ha, g1, hx, hei, hel, rfl, hdl, hgd, hH1, hE1, hF1⟩ := hp
  refine ⟨?_, hH1, hE1⟩
  have e0 : g1.1 0 = 0 := hx.1 0 (by decide)
  have e1 : g1.1 1 = z1 := hx.1 1 (by decide)
  have e2 : g1.1 2 = X.1 2 0 := hx.1 2 (by decide)
  have e3 : g1.1 3 = X.1 2 1 := hx.1 3 (by decide)
  have e4 : g1.1 4 = X.1 2 2 := hx.1 4 (by decide)
  have e5 : g1.1 5 = X.1 2 3 := hx.1 5 (by decide)
  have e6 : g1.1 6 = X.1 48 0 := hx.1 6 (by decide)
  have e7 : g1.1 7 = X.1 48 1 := hx.1 7 (by decide)
  have e8 : g1.1 8 = X.1 48 2 := hx.1 8 (by decide)
  simp only [cAl, k_M_224, List.mem_cons, List.not_mem_nil, or_false] at ha
  rcases ha with rfl | rfl | rfl | rfl | rfl
  · have b1 : (3 : Int) ≤ g1.1 1 ∧ g1.1 1 ≤ 2147483647 := hei 1 _ rfl
    have b2 : (0 : Int) ≤ g1.1 2 ∧ g1.1 2 ≤ 600 := hei 2 _ rfl
    have b3 : (0 : Int) ≤ g1.1 3 ∧ g1.1 3 ≤ 600 := hei 3 _ rfl
    have b4 : (0 : Int) ≤ g1.1 4 ∧ g1.1 4 ≤ 600 := hei 4 _ rfl
    have b5 : (0 : Int) ≤ g1.1 5 ∧ g1.1 5 ≤ 600 := hei 5 _ rfl
    have b6 : (0 : Int) ≤ g1.1 6 ∧ g1.1 6 ≤ 1 := hei 6 _ rfl
    have b7 : (0 : Int) ≤ g1.1 7 ∧ g1.1 7 ≤ 1 := hei 7 _ rfl
    have b8 : (0 : Int) ≤ g1.1 8 ∧ g1.1 8 ≤ 1 := hei 8 _ rfl
    have d2_0 : X'.1 2 0 = g1.1 2 + 0 := hdl ((2, 0), (0, 2, 0)) (.head _)
    have d2_1 : X'.1 2 1 = g1.1 3 + 0 := hdl ((2, 1), (0, 3, 0)) (.tail _ (.head _))
    have d2_2 : X'.1 2 2 = g1.1 4 + 0 := hdl ((2, 2), (0, 4, 0)) (.tail _ (.tail _ (.head _)))
    have d2_3 : X'.1 2 3 = g1.1 5 + 0 := hdl ((2, 3), (0, 5, 0)) (.tail _ (.tail _ (.tail _ (.head _))))
    have d48_0 : X'.1 48 0 = g1.1 6 + 0 := hdl ((48, 0), (0, 6, 0)) (.tail _ (.tail _ (.tail _ (.tail _ (.head _)))))
    have d48_1 : X'.1 48 1 = g1.1 7 + 0 := hdl ((48, 1), (0, 7, 0)) (.tail _ (.tail _ (.tail _ (.tail _ (.tail _ (.head _))))))
    have d48_2 : X'.1 48 2 = g1.1 8 + 0 := hdl ((48, 2), (0, 8, 0)) (.tail _ (.tail _ (.tail _ (.tail _ (.tail _ (.tail _ (.head _)))))))
    exact ⟨g1.1 0 + 0, rfl, ⟨by omega, by omega⟩, .inl ⟨by omega, by omega, by omega, by omega, by omega, by omega, by omega, by omega, by omega⟩⟩
  · have b1 : ((-2147483648) : Int) ≤ g1.1 1 ∧ g1.1 1 ≤ (-1) := hei 1 _ rfl
    have b2 : (0 : Int) ≤ g1.1 2 ∧ g1.1 2 ≤ 600 := hei 2 _ rfl
    have b3 : (0 : Int) ≤ g1.1 3 ∧ g1.1 3 ≤ 600 := hei 3 _ rfl
    have b4 : (0 : Int) ≤ g1.1 4 ∧ g1.1 4 ≤ 600 := hei 4 _ rfl
    have b5 : (0 : Int) ≤ g1.1 5 ∧ g1.1 5 ≤ 600 := hei 5 _ rfl
    have b6 : (0 : Int) ≤ g1.1 6 ∧ g1.1 6 ≤ 1 := hei 6 _ rfl
    have b7 : (0 : Int) ≤ g1.1 7 ∧ g1.1 7 ≤ 1 := hei 7 _ rfl
    have b8 : (0 : Int) ≤ g1.1 8 ∧ g1.1 8 ≤ 1 := hei 8 _ rfl
    have d2_0 : X'.1 2 0 = g1.1 2 + 0 := hdl ((2, 0), (0, 2, 0)) (.head _)
    have d2_1 : X'.1 2 1 = g1.1 3 + 0 := hdl ((2, 1), (0, 3, 0)) (.tail _ (.head _))
    have d2_2 : X'.1 2 2 = g1.1 4 + 0 := hdl ((2, 2), (0, 4, 0)) (.tail _ (.tail _ (.head _)))
    have d2_3 : X'.1 2 3 = g1.1 5 + 0 := hdl ((2, 3), (0, 5, 0)) (.tail _ (.tail _ (.tail _ (.head _))))
    have d48_0 : X'.1 48 0 = g1.1 6 + 0 := hdl ((48, 0), (0, 6, 0)) (.tail _ (.tail _ (.tail _ (.tail _ (.head _)))))
    have d48_1 : X'.1 48 1 = g1.1 7 + 0 := hdl ((48, 1), (0, 7, 0)) (.tail _ (.tail _ (.tail _ (.tail _ (.tail _ (.head _))))))
    have d48_2 : X'.1 48 2 = g1.1 8 + 0 := hdl ((48, 2), (0, 8, 0)) (.tail _ (.tail _ (.tail _ (.tail _ (.tail _ (.tail _ (.head _)))))))
    exact ⟨g1.1 0 + 0, rfl, ⟨by omega, by omega⟩, .inr (.inl ⟨by omega, by omega, by omega, by omega, by omega, by omega, by omega, by omega, by omega⟩)⟩
  · have b1 : (2 : Int) ≤ g1.1 1 ∧ g1.1 1 ≤ 2 := hei 1 _ rfl
    have b2 : (0 : Int) ≤ g1.1 2 ∧ g1.1 2 ≤ 600 := hei 2 _ rfl
    have b3 : (0 : Int) ≤ g1.1 3 ∧ g1.1 3 ≤ 600 := hei 3 _ rfl
    have b4 : (0 : Int) ≤ g1.1 4 ∧ g1.1 4 ≤ 600 := hei 4 _ rfl
    have b5 : (0 : Int) ≤ g1.1 5 ∧ g1.1 5 ≤ 600 := hei 5 _ rfl
    have b6 : (0 : Int) ≤ g1.1 6 ∧ g1.1 6 ≤ 1 := hei 6 _ rfl
    have b7 : (0 : Int) ≤ g1.1 7 ∧ g1.1 7 ≤ 1 := hei 7 _ rfl
    have b8 : (0 : Int) ≤ g1.1 8 ∧ g1.1 8 ≤ 1 := hei 8 _ rfl
    have d2_0 : X'.1 2 0 = g1.1 2 + 0 := hdl ((2, 0), (0, 2, 0)) (.tail _ (.tail _ (.tail _ (.head _))))
    have d2_1 : X'.1 2 1 = g1.1 3 + 0 := hdl ((2, 1), (0, 3, 0)) (.tail _ (.tail _ (.tail _ (.tail _ (.head _)))))
    have d2_2 : X'.1 2 2 = g1.1 4 + 0 := hdl ((2, 2), (0, 4, 0)) (.tail _ (.tail _ (.tail _ (.tail _ (.tail _ (.head _))))))
    have d2_3 : X'.1 2 3 = g1.1 2 + 0 := hdl ((2, 3), (0, 2, 0)) (.tail _ (.tail _ (.tail _ (.tail _ (.tail _ (.tail _ (.head _)))))))
    have d48_0 : X'.1 48 0 = g1.1 6 + 0 := hdl ((48, 0), (0, 6, 0)) (.head _)
    have d48_1 : X'.1 48 1 = g1.1 7 + 0 := hdl ((48, 1), (0, 7, 0)) (.tail _ (.head _))
    have d48_2 : X'.1 48 2 = g1.1 0 + 1 := hdl ((48, 2), (0, 0, 1)) (.tail _ (.tail _ (.tail _ (.tail _ (.tail _ (.tail _ (.tail _ (.head _))))))))
    exact ⟨g1.1 0 + 1, rfl, ⟨by omega, by omega⟩, .inr (.inr (.inl ⟨by omega, by omega, by omega, by omega, by omega, by omega, by omega, by omega, by omega, by omega⟩))⟩
  · have b1 : (1 : Int) ≤ g1.1 1 ∧ g1.1 1 ≤ 1 := hei 1 _ rfl
    have b2 : (0 : Int) ≤ g1.1 2 ∧ g1.1 2 ≤ 600 := hei 2 _ rfl
    have b3 : (0 : Int) ≤ g1.1 3 ∧ g1.1 3 ≤ 600 := hei 3 _ rfl
    have b4 : (0 : Int) ≤ g1.1 4 ∧ g1.1 4 ≤ 600 := hei 4 _ rfl
    have b5 : (0 : Int) ≤ g1.1 5 ∧ g1.1 5 ≤ 600 := hei 5 _ rfl
    have b6 : (0 : Int) ≤ g1.1 6 ∧ g1.1 6 ≤ 1 := hei 6 _ rfl
    have b7 : (0 : Int) ≤ g1.1 7 ∧ g1.1 7 ≤ 1 := hei 7 _ rfl
    have b8 : (0 : Int) ≤ g1.1 8 ∧ g1.1 8 ≤ 1 := hei 8 _ rfl
    have d2_0 : X'.1 2 0 = g1.1 2 + 0 := hdl ((2, 0), (0, 2, 0)) (.tail _ (.tail _ (.tail _ (.head _))))
    have d2_1 : X'.1 2 1 = g1.1 3 + 0 := hdl ((2, 1), (0, 3, 0)) (.tail _ (.tail _ (.tail _ (.tail _ (.head _)))))
    have d2_2 : X'.1 2 2 = g1.1 2 + 0 := hdl ((2, 2), (0, 2, 0)) (.tail _ (.tail _ (.tail _ (.tail _ (.tail _ (.head _))))))
    have d2_3 : X'.1 2 3 = g1.1 5 + 0 := hdl ((2, 3), (0, 5, 0)) (.tail _ (.tail _ (.tail _ (.tail _ (.tail _ (.tail _ (.head _)))))))
    have d48_0 : X'.1 48 0 = g1.1 6 + 0 := hdl ((48, 0), (0, 6, 0)) (.head _)
    have d48_1 : X'.1 48 1 = g1.1 0 + 1 := hdl ((48, 1), (0, 0, 1)) (.tail _ (.tail _ (.tail _ (.tail _ (.tail _ (.tail _ (.tail _ (.head _))))))))
    have d48_2 : X'.1 48 2 = g1.1 8 + 0 := hdl ((48, 2), (0, 8, 0)) (.tail _ (.head _))
    exact ⟨g1.1 0 + 1, rfl, ⟨by omega, by omega⟩, .inr (.inr (.inr (.inl ⟨by omega, by omega, by omega, by omega, by omega, by omega, by omega, by omega, by omega, by omega⟩)))⟩
  · have b1 : (0 : Int) ≤ g1.1 1 ∧ g1.1 1 ≤ 0 := hei 1 _ rfl
    have b2 : (0 : Int) ≤ g1.1 2 ∧ g1.1 2 ≤ 600 := hei 2 _ rfl
    have b3 : (0 : Int) ≤ g1.1 3 ∧ g1.1 3 ≤ 600 := hei 3 _ rfl
    have b4 : (0 : Int) ≤ g1.1 4 ∧ g1.1 4 ≤ 600 := hei 4 _ rfl
    have b5 : (0 : Int) ≤ g1.1 5 ∧ g1.1 5 ≤ 600 := hei 5 _ rfl
    have b6 : (0 : Int) ≤ g1.1 6 ∧ g1.1 6 ≤ 1 := hei 6 _ rfl
    have b7 : (0 : Int) ≤ g1.1 7 ∧ g1.1 7 ≤ 1 := hei 7 _ rfl
    have b8 : (0 : Int) ≤ g1.1 8 ∧ g1.1 8 ≤ 1 := hei 8 _ rfl
    have d2_0 : X'.1 2 0 = g1.1 2 + 0 := hdl ((2, 0), (0, 2, 0)) (.tail _ (.tail _ (.tail _ (.head _))))
    have d2_1 : X'.1 2 1 = g1.1 2 + 0 := hdl ((2, 1), (0, 2, 0)) (.tail _ (.tail _ (.tail _ (.tail _ (.head _)))))
    have d2_2 : X'.1 2 2 = g1.1 4 + 0 := hdl ((2, 2), (0, 4, 0)) (.tail _ (.tail _ (.tail _ (.tail _ (.tail _ (.head _))))))
    have d2_3 : X'.1 2 3 = g1.1 5 + 0 := hdl ((2, 3), (0, 5, 0)) (.tail _ (.tail _ (.tail _ (.tail _ (.tail _ (.tail _ (.head _)))))))
    have d48_0 : X'.1 48 0 = g1.1 0 + 1 := hdl ((48, 0), (0, 0, 1)) (.tail _ (.tail _ (.tail _ (.tail _ (.tail _ (.tail _ (.tail _ (.head _))))))))
    have d48_1 : X'.1 48 1 = g1.1 7 + 0 := hdl ((48, 1), (0, 7, 0)) (.head _)
    have d48_2 : X'.1 48 2 = g1.1 8 + 0 := hdl ((48, 2), (0, 8, 0)) (.tail _ (.head _))
    exact ⟨g1.1 0 + 1, rfl, ⟨by omega, by omega⟩, .inr (.inr (.inr (.inr (⟨by omega, by omega, by omega, by omega, by omega, by omega, by omega, by omega, by omega, by omega⟩))))⟩
set_option maxRecDepth 10000 in
theorem rp_again {D : va_G} {ad : Nat → Nat} {cA : Nat → ClassId} {X : XT} {z1 : Int} (h1 : inR z1) (hH : HG vM X) (hE : gM.2 X) : MetX (wM D ad cA) yX12_again cX12_again 2 (some .boolean) 2 47 [.ref 0, .int (iI (z1))] X (fun r X' => (∃ u : Int, r = some (.int (iI u)) ∧ inR u ∧ ((3 ≤ z1 ∧ u = 0 ∧ X'.1 2 0 = X.1 2 0 ∧ X'.1 2 1 = X.1 2 1 ∧ X'.1 2 2 = X.1 2 2 ∧ X'.1 2 3 = X.1 2 3 ∧ X'.1 48 0 = X.1 48 0 ∧ X'.1 48 1 = X.1 48 1 ∧ X'.1 48 2 = X.1 48 2) ∨ (z1 ≤ (-1) ∧ u = 0 ∧ X'.1 2 0 = X.1 2 0 ∧ X'.1 2 1 = X.1 2 1 ∧ X'.1 2 2 = X.1 2 2 ∧ X'.1 2 3 = X.1 2 3 ∧ X'.1 48 0 = X.1 48 0 ∧ X'.1 48 1 = X.1 48 1 ∧ X'.1 48 2 = X.1 48 2) ∨ (2 ≤ z1 ∧ z1 ≤ 2 ∧ X.1 48 2 ≤ 0 ∧ u = 0 ∧ X'.1 2 0 = X.1 2 0 ∧ X'.1 2 1 = X.1 2 1 ∧ X'.1 2 2 = X.1 2 2 ∧ X'.1 2 3 = X.1 2 3 ∧ X'.1 48 0 = X.1 48 0 ∧ X'.1 48 1 = X.1 48 1 ∧ X'.1 48 2 = X.1 48 2) ∨ (2 ≤ z1 ∧ z1 ≤ 2 ∧ 1 ≤ X.1 48 2 ∧ u = 1 ∧ X'.1 2 0 = X.1 2 3 ∧ X'.1 2 1 = X.1 2 1 ∧ X'.1 2 2 = X.1 2 2 ∧ X'.1 2 3 = X.1 2 3 ∧ X'.1 48 0 = X.1 48 0 ∧ X'.1 48 1 = X.1 48 1 ∧ X'.1 48 2 = X.1 48 2) ∨ (1 ≤ z1 ∧ z1 ≤ 1 ∧ X.1 48 1 ≤ 0 ∧ u = 0 ∧ X'.1 2 0 = X.1 2 0 ∧ X'.1 2 1 = X.1 2 1 ∧ X'.1 2 2 = X.1 2 2 ∧ X'.1 2 3 = X.1 2 3 ∧ X'.1 48 0 = X.1 48 0 ∧ X'.1 48 1 = X.1 48 1 ∧ X'.1 48 2 = X.1 48 2) ∨ (1 ≤ z1 ∧ z1 ≤ 1 ∧ 1 ≤ X.1 48 1 ∧ u = 1 ∧ X'.1 2 0 = X.1 2 2 ∧ X'.1 2 1 = X.1 2 1 ∧ X'.1 2 2 = X.1 2 2 ∧ X'.1 2 3 = X.1 2 3 ∧ X'.1 48 0 = X.1 48 0 ∧ X'.1 48 1 = X.1 48 1 ∧ X'.1 48 2 = X.1 48 2) ∨ (0 ≤ z1 ∧ z1 ≤ 0 ∧ X.1 48 0 ≤ 0 ∧ u = 0 ∧ X'.1 2 0 = X.1 2 0 ∧ X'.1 2 1 = X.1 2 1 ∧ X'.1 2 2 = X.1 2 2 ∧ X'.1 2 3 = X.1 2 3 ∧ X'.1 48 0 = X.1 48 0 ∧ X'.1 48 1 = X.1 48 1 ∧ X'.1 48 2 = X.1 48 2) ∨ (0 ≤ z1 ∧ z1 ≤ 0 ∧ 1 ≤ X.1 48 0 ∧ u = 1 ∧ X'.1 2 0 = X.1 2 1 ∧ X'.1 2 1 = X.1 2 1 ∧ X'.1 2 2 = X.1 2 2 ∧ X'.1 2 3 = X.1 2 3 ∧ X'.1 48 0 = X.1 48 0 ∧ X'.1 48 1 = X.1 48 1 ∧ X'.1 48 2 = X.1 48 2))) ∧ HG vM X' ∧ gM.2 X') := by
  have e : (cAr k_M_228).map (dn (gA [z1, X.1 2 0, X.1 2 1, X.1 2 2, X.1 2 3, X.1 48 0, X.1 48 1, X.1 48 2])) = [.ref 0, .int (iI (z1))] := by
    show [Value.ref 0, Value.int (iI (z1 + 0))] = _
    simp only [Int.add_zero]
  have t := t_M_228 (D := D) (ad := ad) (cA := cA) (gA [z1, X.1 2 0, X.1 2 1, X.1 2 2, X.1 2 3, X.1 48 0, X.1 48 1, X.1 48 2]) X ⟨rfl, (ei_cons (by show (0 : Int) ≤ 0 ∧ (0 : Int) ≤ 0; omega) (ei_cons h1 (ei_cons (show (0 : Int) ≤ X.1 2 0 ∧ X.1 2 0 ≤ 600 from hH.rF (k := 2) (i := 0) (p := (0, 600)) rfl rfl) (ei_cons (show (0 : Int) ≤ X.1 2 1 ∧ X.1 2 1 ≤ 600 from hH.rF (k := 2) (i := 1) (p := (0, 600)) rfl rfl) (ei_cons (show (0 : Int) ≤ X.1 2 2 ∧ X.1 2 2 ≤ 600 from hH.rF (k := 2) (i := 2) (p := (0, 600)) rfl rfl) (ei_cons (show (0 : Int) ≤ X.1 2 3 ∧ X.1 2 3 ≤ 600 from hH.rF (k := 2) (i := 3) (p := (0, 600)) rfl rfl) (ei_cons (show (0 : Int) ≤ X.1 48 0 ∧ X.1 48 0 ≤ 1 from hH.rF (k := 48) (i := 0) (p := (0, 1)) rfl rfl) (ei_cons (show (0 : Int) ≤ X.1 48 1 ∧ X.1 48 1 ≤ 1 from hH.rF (k := 48) (i := 1) (p := (0, 1)) rfl rfl) (ei_cons (show (0 : Int) ≤ X.1 48 2 ∧ X.1 48 2 ≤ 1 from hH.rF (k := 48) (i := 2) (p := (0, 1)) rfl rfl) ei_nil))))))))), el_nil, (dl_cons (show X.1 2 0 = X.1 2 0 + 0 by omega) (dl_cons (show X.1 2 1 = X.1 2 1 + 0 by omega) (dl_cons (show X.1 2 2 = X.1 2 2 + 0 by omega) (dl_cons (show X.1 2 3 = X.1 2 3 + 0 by omega) (dl_cons (show X.1 48 0 = X.1 48 0 + 0 by omega) (dl_cons (show X.1 48 1 = X.1 48 1 + 0 by omega) (dl_cons (show X.1 48 2 = X.1 48 2 + 0 by omega) dl_nil))))))), hH, hE⟩
  rw [e] at t
  refine MetX.imp (fun r X' hp => ?_) t
  obtain ⟨a, ha, g1, hx, hei, hel, rfl, hdl, hgd, hH1, hE1, hF1⟩ := hp
  refine ⟨?_, hH1, hE1⟩
  have e0 : g1.1 0 = 0 := hx.1 0 (by decide)
  have e1 : g1.1 1 = z1 := hx.1 1 (by decide)
  have e2 : g1.1 2 = X.1 2 0 := hx.1 2 (by decide)
  have e3 : g1.1 3 = X.1 2 1 := hx.1 3 (by decide)
  have e4 : g1.1 4 = X.1 2 2 := hx.1 4 (by decide)
  have e5 : g1.1 5 = X.1 2 3 := hx.1 5 (by decide)
  have e6 : g1.1 6 = X.1 48 0 := hx.1 6 (by decide)
  have e7 : g1.1 7 = X.1 48 1 := hx.1 7 (by decide)
  have e8 : g1.1 8 = X.1 48 2 := hx.1 8 (by decide)
  simp only [cAl, k_M_228, List.mem_cons, List.not_mem_nil, or_false] at ha
  rcases ha with rfl | rfl | rfl | rfl | rfl | rfl | rfl | rfl
  · have b1 : (3 : Int) ≤ g1.1 1 ∧ g1.1 1 ≤ 2147483647 := hei 1 _ rfl
    have b2 : (0 : Int) ≤ g1.1 2 ∧ g1.1 2 ≤ 600 := hei 2 _ rfl
    have b3 : (0 : Int) ≤ g1.1 3 ∧ g1.1 3 ≤ 600 := hei 3 _ rfl
    have b4 : (0 : Int) ≤ g1.1 4 ∧ g1.1 4 ≤ 600 := hei 4 _ rfl
    have b5 : (0 : Int) ≤ g1.1 5 ∧ g1.1 5 ≤ 600 := hei 5 _ rfl
    have b6 : (0 : Int) ≤ g1.1 6 ∧ g1.1 6 ≤ 1 := hei 6 _ rfl
    have b7 : (0 : Int) ≤ g1.1 7 ∧ g1.1 7 ≤ 1 := hei 7 _ rfl
    have b8 : (0 : Int) ≤ g1.1 8 ∧ g1.1 8 ≤ 1 := hei 8 _ rfl
    have d2_0 : X'.1 2 0 = g1.1 2 + 0 := hdl ((2, 0), (0, 2, 0)) (.head _)
    have d2_1 : X'.1 2 1 = g1.1 3 + 0 := hdl ((2, 1), (0, 3, 0)) (.tail _ (.head _))
    have d2_2 : X'.1 2 2 = g1.1 4 + 0 := hdl ((2, 2), (0, 4, 0)) (.tail _ (.tail _ (.head _)))
    have d2_3 : X'.1 2 3 = g1.1 5 + 0 := hdl ((2, 3), (0, 5, 0)) (.tail _ (.tail _ (.tail _ (.head _))))
    exact ⟨g1.1 0 + 0, rfl, ⟨by omega, by omega⟩, .inl ⟨by omega, by omega, by omega, by omega, by omega, by omega, (hF1 48 0 rfl).1, (hF1 48 1 rfl).1, (hF1 48 2 rfl).1⟩⟩
  · have b1 : ((-2147483648) : Int) ≤ g1.1 1 ∧ g1.1 1 ≤ (-1) := hei 1 _ rfl
    have b2 : (0 : Int) ≤ g1.1 2 ∧ g1.1 2 ≤ 600 := hei 2 _ rfl
    have b3 : (0 : Int) ≤ g1.1 3 ∧ g1.1 3 ≤ 600 := hei 3 _ rfl
    have b4 : (0 : Int) ≤ g1.1 4 ∧ g1.1 4 ≤ 600 := hei 4 _ rfl
    have b5 : (0 : Int) ≤ g1.1 5 ∧ g1.1 5 ≤ 600 := hei 5 _ rfl
    have b6 : (0 : Int) ≤ g1.1 6 ∧ g1.1 6 ≤ 1 := hei 6 _ rfl
    have b7 : (0 : Int) ≤ g1.1 7 ∧ g1.1 7 ≤ 1 := hei 7 _ rfl
    have b8 : (0 : Int) ≤ g1.1 8 ∧ g1.1 8 ≤ 1 := hei 8 _ rfl
    have d2_0 : X'.1 2 0 = g1.1 2 + 0 := hdl ((2, 0), (0, 2, 0)) (.head _)
    have d2_1 : X'.1 2 1 = g1.1 3 + 0 := hdl ((2, 1), (0, 3, 0)) (.tail _ (.head _))
    have d2_2 : X'.1 2 2 = g1.1 4 + 0 := hdl ((2, 2), (0, 4, 0)) (.tail _ (.tail _ (.head _)))
    have d2_3 : X'.1 2 3 = g1.1 5 + 0 := hdl ((2, 3), (0, 5, 0)) (.tail _ (.tail _ (.tail _ (.head _))))
    exact ⟨g1.1 0 + 0, rfl, ⟨by omega, by omega⟩, .inr (.inl ⟨by omega, by omega, by omega, by omega, by omega, by omega, (hF1 48 0 rfl).1, (hF1 48 1 rfl).1, (hF1 48 2 rfl).1⟩)⟩
  · have b1 : (2 : Int) ≤ g1.1 1 ∧ g1.1 1 ≤ 2 := hei 1 _ rfl
    have b2 : (0 : Int) ≤ g1.1 2 ∧ g1.1 2 ≤ 600 := hei 2 _ rfl
    have b3 : (0 : Int) ≤ g1.1 3 ∧ g1.1 3 ≤ 600 := hei 3 _ rfl
    have b4 : (0 : Int) ≤ g1.1 4 ∧ g1.1 4 ≤ 600 := hei 4 _ rfl
    have b5 : (0 : Int) ≤ g1.1 5 ∧ g1.1 5 ≤ 600 := hei 5 _ rfl
    have b6 : (0 : Int) ≤ g1.1 6 ∧ g1.1 6 ≤ 1 := hei 6 _ rfl
    have b7 : (0 : Int) ≤ g1.1 7 ∧ g1.1 7 ≤ 1 := hei 7 _ rfl
    have b8 : (0 : Int) ≤ g1.1 8 ∧ g1.1 8 ≤ 0 := hei 8 _ rfl
    have d2_0 : X'.1 2 0 = g1.1 2 + 0 := hdl ((2, 0), (0, 2, 0)) (.head _)
    have d2_1 : X'.1 2 1 = g1.1 3 + 0 := hdl ((2, 1), (0, 3, 0)) (.tail _ (.head _))
    have d2_2 : X'.1 2 2 = g1.1 4 + 0 := hdl ((2, 2), (0, 4, 0)) (.tail _ (.tail _ (.head _)))
    have d2_3 : X'.1 2 3 = g1.1 5 + 0 := hdl ((2, 3), (0, 5, 0)) (.tail _ (.tail _ (.tail _ (.head _))))
    exact ⟨g1.1 0 + 0, rfl, ⟨by omega, by omega⟩, .inr (.inr (.inl ⟨by omega, by omega, by omega, by omega, by omega, by omega, by omega, by omega, (hF1 48 0 rfl).1, (hF1 48 1 rfl).1, (hF1 48 2 rfl).1⟩))⟩
  · have b1 : (2 : Int) ≤ g1.1 1 ∧ g1.1 1 ≤ 2 := hei 1 _ rfl
    have b2 : (0 : Int) ≤ g1.1 2 ∧ g1.1 2 ≤ 600 := hei 2 _ rfl
    have b3 : (0 : Int) ≤ g1.1 3 ∧ g1.1 3 ≤ 600 := hei 3 _ rfl
    have b4 : (0 : Int) ≤ g1.1 4 ∧ g1.1 4 ≤ 600 := hei 4 _ rfl
    have b5 : (0 : Int) ≤ g1.1 5 ∧ g1.1 5 ≤ 600 := hei 5 _ rfl
    have b6 : (0 : Int) ≤ g1.1 6 ∧ g1.1 6 ≤ 1 := hei 6 _ rfl
    have b7 : (0 : Int) ≤ g1.1 7 ∧ g1.1 7 ≤ 1 := hei 7 _ rfl
    have b8 : (1 : Int) ≤ g1.1 8 ∧ g1.1 8 ≤ 1 := hei 8 _ rfl
    have d2_0 : X'.1 2 0 = g1.1 5 + 0 := hdl ((2, 0), (0, 5, 0)) (.tail _ (.head _))
    have d2_1 : X'.1 2 1 = g1.1 3 + 0 := hdl ((2, 1), (0, 3, 0)) (.tail _ (.tail _ (.head _)))
    have d2_2 : X'.1 2 2 = g1.1 4 + 0 := hdl ((2, 2), (0, 4, 0)) (.tail _ (.tail _ (.tail _ (.head _))))
    have d2_3 : X'.1 2 3 = g1.1 5 + 0 := hdl ((2, 3), (0, 5, 0)) (.tail _ (.tail _ (.tail _ (.tail _ (.head _)))))
    exact ⟨g1.1 0 + 1, rfl, ⟨by omega, by omega⟩, .inr (.inr (.inr (.inl ⟨by omega, by omega, by omega, by omega, by omega, by omega, by omega, by omega, (hF1 48 0 rfl).1, (hF1 48 1 rfl).1, (hF1 48 2 rfl).1⟩)))⟩
  · have b1 : (1 : Int) ≤ g1.1 1 ∧ g1.1 1 ≤ 1 := hei 1 _ rfl
    have b2 : (0 : Int) ≤ g1.1 2 ∧ g1.1 2 ≤ 600 := hei 2 _ rfl
    have b3 : (0 : Int) ≤ g1.1 3 ∧ g1.1 3 ≤ 600 := hei 3 _ rfl
    have b4 : (0 : Int) ≤ g1.1 4 ∧ g1.1 4 ≤ 600 := hei 4 _ rfl
    have b5 : (0 : Int) ≤ g1.1 5 ∧ g1.1 5 ≤ 600 := hei 5 _ rfl
    have b6 : (0 : Int) ≤ g1.1 6 ∧ g1.1 6 ≤ 1 := hei 6 _ rfl
    have b7 : (0 : Int) ≤ g1.1 7 ∧ g1.1 7 ≤ 0 := hei 7 _ rfl
    have b8 : (0 : Int) ≤ g1.1 8 ∧ g1.1 8 ≤ 1 := hei 8 _ rfl
    have d2_0 : X'.1 2 0 = g1.1 2 + 0 := hdl ((2, 0), (0, 2, 0)) (.head _)
    have d2_1 : X'.1 2 1 = g1.1 3 + 0 := hdl ((2, 1), (0, 3, 0)) (.tail _ (.head _))
    have d2_2 : X'.1 2 2 = g1.1 4 + 0 := hdl ((2, 2), (0, 4, 0)) (.tail _ (.tail _ (.head _)))
    have d2_3 : X'.1 2 3 = g1.1 5 + 0 := hdl ((2, 3), (0, 5, 0)) (.tail _ (.tail _ (.tail _ (.head _))))
    exact ⟨g1.1 0 + 0, rfl, ⟨by omega, by omega⟩, .inr (.inr (.inr (.inr (.inl ⟨by omega, by omega, by omega, by omega, by omega, by omega, by omega, by omega, (hF1 48 0 rfl).1, (hF1 48 1 rfl).1, (hF1 48 2 rfl).1⟩))))⟩
  · have b1 : (1 : Int) ≤ g1.1 1 ∧ g1.1 1 ≤ 1 := hei 1 _ rfl
    have b2 : (0 : Int) ≤ g1.1 2 ∧ g1.1 2 ≤ 600 := hei 2 _ rfl
    have b3 : (0 : Int) ≤ g1.1 3 ∧ g1.1 3 ≤ 600 := hei 3 _ rfl
    have b4 : (0 : Int) ≤ g1.1 4 ∧ g1.1 4 ≤ 600 := hei 4 _ rfl
    have b5 : (0 : Int) ≤ g1.1 5 ∧ g1.1 5 ≤ 600 := hei 5 _ rfl
    have b6 : (0 : Int) ≤ g1.1 6 ∧ g1.1 6 ≤ 1 := hei 6 _ rfl
    have b7 : (1 : Int) ≤ g1.1 7 ∧ g1.1 7 ≤ 1 := hei 7 _ rfl
    have b8 : (0 : Int) ≤ g1.1 8 ∧ g1.1 8 ≤ 1 := hei 8 _ rfl
    have d2_0 : X'.1 2 0 = g1.1 4 + 0 := hdl ((2, 0), (0, 4, 0)) (.tail _ (.head _))
    have d2_1 : X'.1 2 1 = g1.1 3 + 0 := hdl ((2, 1), (0, 3, 0)) (.tail _ (.tail _ (.head _)))
    have d2_2 : X'.1 2 2 = g1.1 4 + 0 := hdl ((2, 2), (0, 4, 0)) (.tail _ (.tail _ (.tail _ (.head _))))
    have d2_3 : X'.1 2 3 = g1.1 5 + 0 := hdl ((2, 3), (0, 5, 0)) (.tail _ (.tail _ (.tail _ (.tail _ (.head _)))))
    exact ⟨g1.1 0 + 1, rfl, ⟨by omega, by omega⟩, .inr (.inr (.inr (.inr (.inr (.inl ⟨by omega, by omega, by omega, by omega, by omega, by omega, by omega, by omega, (hF1 48 0 rfl).1, (hF1 48 1 rfl).1, (hF1 48 2 rfl).1⟩)))))⟩
  · have b1 : (0 : Int) ≤ g1.1 1 ∧ g1.1 1 ≤ 0 := hei 1 _ rfl
    have b2 : (0 : Int) ≤ g1.1 2 ∧ g1.1 2 ≤ 600 := hei 2 _ rfl
    have b3 : (0 : Int) ≤ g1.1 3 ∧ g1.1 3 ≤ 600 := hei 3 _ rfl
    have b4 : (0 : Int) ≤ g1.1 4 ∧ g1.1 4 ≤ 600 := hei 4 _ rfl
    have b5 : (0 : Int) ≤ g1.1 5 ∧ g1.1 5 ≤ 600 := hei 5 _ rfl
    have b6 : (0 : Int) ≤ g1.1 6 ∧ g1.1 6 ≤ 0 := hei 6 _ rfl
    have b7 : (0 : Int) ≤ g1.1 7 ∧ g1.1 7 ≤ 1 := hei 7 _ rfl
    have b8 : (0 : Int) ≤ g1.1 8 ∧ g1.1 8 ≤ 1 := hei 8 _ rfl
    have d2_0 : X'.1 2 0 = g1.1 2 + 0 := hdl ((2, 0), (0, 2, 0)) (.head _)
    have d2_1 : X'.1 2 1 = g1.1 3 + 0 := hdl ((2, 1), (0, 3, 0)) (.tail _ (.head _))
    have d2_2 : X'.1 2 2 = g1.1 4 + 0 := hdl ((2, 2), (0, 4, 0)) (.tail _ (.tail _ (.head _)))
    have d2_3 : X'.1 2 3 = g1.1 5 + 0 := hdl ((2, 3), (0, 5, 0)) (.tail _ (.tail _ (.tail _ (.head _))))
    exact ⟨g1.1 0 + 0, rfl, ⟨by omega, by omega⟩, .inr (.inr (.inr (.inr (.inr (.inr (.inl ⟨by omega, by omega, by omega, by omega, by omega, by omega, by omega, by omega, (hF1 48 0 rfl).1, (hF1 48 1 rfl).1, (hF1 48 2 rfl).1⟩))))))⟩
  · have b1 : (0 : Int) ≤ g1.1 1 ∧ g1.1 1 ≤ 0 := hei 1 _ rfl
    have b2 : (0 : Int) ≤ g1.1 2 ∧ g1.1 2 ≤ 600 := hei 2 _ rfl
    have b3 : (0 : Int) ≤ g1.1 3 ∧ g1.1 3 ≤ 600 := hei 3 _ rfl
    have b4 : (0 : Int) ≤ g1.1 4 ∧ g1.1 4 ≤ 600 := hei 4 _ rfl
    have b5 : (0 : Int) ≤ g1.1 5 ∧ g1.1 5 ≤ 600 := hei 5 _ rfl
    have b6 : (1 : Int) ≤ g1.1 6 ∧ g1.1 6 ≤ 1 := hei 6 _ rfl
    have b7 : (0 : Int) ≤ g1.1 7 ∧ g1.1 7 ≤ 1 := hei 7 _ rfl
    have b8 : (0 : Int) ≤ g1.1 8 ∧ g1.1 8 ≤ 1 := hei 8 _ rfl
    have d2_0 : X'.1 2 0 = g1.1 3 + 0 := hdl ((2, 0), (0, 3, 0)) (.tail _ (.head _))
    have d2_1 : X'.1 2 1 = g1.1 3 + 0 := hdl ((2, 1), (0, 3, 0)) (.tail _ (.tail _ (.head _)))
    have d2_2 : X'.1 2 2 = g1.1 4 + 0 := hdl ((2, 2), (0, 4, 0)) (.tail _ (.tail _ (.tail _ (.head _))))
    have d2_3 : X'.1 2 3 = g1.1 5 + 0 := hdl ((2, 3), (0, 5, 0)) (.tail _ (.tail _ (.tail _ (.tail _ (.head _)))))
    exact ⟨g1.1 0 + 1, rfl, ⟨by omega, by omega⟩, .inr (.inr (.inr (.inr (.inr (.inr (.inr (⟨by omega, by omega, by omega, by omega, by omega, by omega, by omega, by omega, (hF1 48 0 rfl).1, (hF1 48 1 rfl).1, (hF1 48 2 rfl).1⟩)))))))⟩
