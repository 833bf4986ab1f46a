/-! ===== the public calls of texts, of meanings ===== -/
theorem xp_text {D : va_G} {ad : Nat → Nat} {cA : Nat → ClassId} {X : XT} {z1 z2 : Int} (h1 : inR z1) (h2 : inR z2) (hH : HG vX X) (hE : gX.2 X) : MetS (wX D ad cA) yX11_text cX11_text 4 (some .int) 10 230 [.ref 0, .int (iI (z1)), .int (iI (z2))] X (fun r X' => (∃ u : Int32, r = some (.int u)) ∧ HG vX X' ∧ gX.2 X' ∧ X'.1 1 0 = 0 ∧ X'.1 104 0 = X.1 104 0 ∧ X'.1 122 0 = X.1 122 0 ∧ X'.1 140 0 = X.1 140 0 ∧ X'.1 20 0 = X.1 20 0 ∧ X'.1 20 1 = X.1 20 1 ∧ X'.1 20 2 = X.1 20 2) :=
  MetS.imp (fun r X' hp => by
    obtain ⟨u, rfl, hH', t⟩ := hp
    exact ⟨⟨_, rfl⟩, hH', menok_txp hE t, txp_l t⟩) (c_text (b := fun i => X.1 2 i) (N := (X.1 1 0).toNat) h1 h2 (by
      have q : (0 : Int) ≤ X.1 1 0 ∧ X.1 1 0 ≤ 600 := hH.rF (k := 1) (i := 0) (p := (0, 600)) rfl rfl
      omega) (fun i _ => rfl) hH FR.rf)
theorem rp_text {D : va_G} {ad : Nat → Nat} {cA : Nat → ClassId} {X : XT} {z1 z2 : Int} (h1 : inR z1) (h2 : inR z2) (hH : HG vM X) (hE : gM.2 X) : MetX (wM D ad cA) yX12_text cX12_text 4 (some .int) 7 158 [.ref 0, .int (iI (z1)), .int (iI (z2))] X (fun r X' => (∃ u : Int32, r = some (.int u)) ∧ HG vM X' ∧ gM.2 X' ∧ X'.1 2 0 = 0 ∧ X'.1 2 1 = X.1 2 1 ∧ X'.1 2 2 = X.1 2 2 ∧ X'.1 2 3 = X.1 2 3 ∧ X'.1 48 0 = X.1 48 0 ∧ X'.1 48 1 = X.1 48 1 ∧ X'.1 48 2 = X.1 48 2) :=
  MetX.imp (fun r X' hp => by
    obtain ⟨u, rfl, hH', t⟩ := hp
    exact ⟨⟨_, rfl⟩, hH', bok_txm hE t, txm_l t⟩) (r_text (b := fun i => X.1 1 i % 256) (N := (X.1 2 0).toNat) h1 h2 (by
      have q : (0 : Int) ≤ X.1 2 0 ∧ X.1 2 0 ≤ 600 := hH.rF (k := 2) (i := 0) (p := (0, 600)) rfl rfl
      omega) (fun i _ => rfl) hH)
theorem rp_meanings {D : va_G} {ad : Nat → Nat} {cA : Nat → ClassId} {X : XT} {z1 z2 z3 z4 : Int} (h1 : inR z1) (h2 : inR z2) (h3 : inR z3) (h4 : 0 ≤ z4 ∧ z4 ≤ 1) (hH : HG vM X) (hE : gM.2 X) : MetX (wM D ad cA) yX12_meanings cX12_meanings 12 (some .int) 11 268 [.ref 0, .int (iI (z1)), .int (iI (z2)), .int (iI (z3)), .int (iI (z4))] X (fun r X' => (∃ u : Int32, r = some (.int u)) ∧ HG vM X' ∧ gM.2 X' ∧ FR mdME X X') :=
  MetX.imp (fun r X' hp => by
    obtain ⟨⟨u, rfl, -⟩, hH', hF⟩ := hp
    exact ⟨⟨_, rfl⟩, hH', bok_fr hE hF rfl, hF⟩) (q_meanings h1 h2 h3 h4.1 h4.2 hE hH FR.rf)
set_option maxHeartbeats 4000000 in
theorem rs_feed {X Y X1 Y1 : XT} {u v : Int} (hR : RL1 X Y) (dx : ((581 ≤ X.1 1 0 ∧ u = (-1) ∧ X1.1 1 0 = X.1 1 0 ∧ X1.1 104 0 = X.1 104 0 ∧ X1.1 122 0 = X.1 122 0 ∧ X1.1 140 0 = X.1 140 0 ∧ X1.1 20 0 = X.1 20 0 ∧ X1.1 20 1 = X.1 20 1 ∧ X1.1 20 2 = X.1 20 2) ∨ (X.1 1 0 ≤ 580 ∧ u = X.1 1 0 + 20 ∧ X1.1 1 0 = X.1 1 0 + 20 ∧ X1.1 104 0 = X.1 104 0 ∧ X1.1 122 0 = X.1 122 0 ∧ X1.1 140 0 = X.1 140 0 ∧ X1.1 20 0 = X.1 20 0 ∧ X1.1 20 1 = X.1 20 1 ∧ X1.1 20 2 = X.1 20 2))) (dy : ((581 ≤ Y.1 2 0 ∧ v = (-1) ∧ Y1.1 2 0 = Y.1 2 0 ∧ Y1.1 2 1 = Y.1 2 1 ∧ Y1.1 2 2 = Y.1 2 2 ∧ Y1.1 2 3 = Y.1 2 3 ∧ Y1.1 48 0 = Y.1 48 0 ∧ Y1.1 48 1 = Y.1 48 1 ∧ Y1.1 48 2 = Y.1 48 2) ∨ (Y.1 2 0 ≤ 580 ∧ v = Y.1 2 0 + 20 ∧ Y1.1 2 0 = Y.1 2 0 + 20 ∧ Y1.1 2 1 = Y.1 2 1 ∧ Y1.1 2 2 = Y.1 2 2 ∧ Y1.1 2 3 = Y.1 2 3 ∧ Y1.1 48 0 = Y.1 48 0 ∧ Y1.1 48 1 = Y.1 48 1 ∧ Y1.1 48 2 = Y.1 48 2))) : RL1 X1 Y1 ∧ u = v := by
  obtain ⟨e0, e1, e2, e3, e4, e5, e6⟩ := hR
  rcases dx with dx | dx
  all_goals rcases dy with dy | dy
  all_goals first | (exfalso; omega) | exact ⟨⟨by omega, by omega, by omega, by omega, by omega, by omega, by omega⟩, by omega⟩
set_option maxHeartbeats 4000000 in
theorem rs_image {X Y X1 Y1 : XT} {u v : Int} {z1 : Int} (hR : RL1 X Y) (dx : ((3 ≤ z1 ∧ u = 0 ∧ X1.1 1 0 = X.1 1 0 ∧ X1.1 104 0 = X.1 104 0 ∧ X1.1 122 0 = X.1 122 0 ∧ X1.1 140 0 = X.1 140 0 ∧ X1.1 20 0 = X.1 20 0 ∧ X1.1 20 1 = X.1 20 1 ∧ X1.1 20 2 = X.1 20 2) ∨ (2 ≤ z1 ∧ z1 ≤ 2 ∧ u = 1 ∧ X1.1 1 0 = X.1 1 0 ∧ X1.1 104 0 = X.1 104 0 ∧ X1.1 122 0 = X.1 122 0 ∧ X1.1 140 0 = X.1 1 0 ∧ X1.1 20 0 = X.1 20 0 ∧ X1.1 20 1 = X.1 20 1 ∧ X1.1 20 2 = 1) ∨ (1 ≤ z1 ∧ z1 ≤ 1 ∧ u = 1 ∧ X1.1 1 0 = X.1 1 0 ∧ X1.1 104 0 = X.1 104 0 ∧ X1.1 122 0 = X.1 1 0 ∧ X1.1 140 0 = X.1 140 0 ∧ X1.1 20 0 = X.1 20 0 ∧ X1.1 20 1 = 1 ∧ X1.1 20 2 = X.1 20 2) ∨ (0 ≤ z1 ∧ z1 ≤ 0 ∧ u = 1 ∧ X1.1 1 0 = X.1 1 0 ∧ X1.1 104 0 = X.1 1 0 ∧ X1.1 122 0 = X.1 122 0 ∧ X1.1 140 0 = X.1 140 0 ∧ X1.1 20 0 = 1 ∧ X1.1 20 1 = X.1 20 1 ∧ X1.1 20 2 = X.1 20 2) ∨ (z1 ≤ (-1) ∧ u = 0 ∧ X1.1 1 0 = X.1 1 0 ∧ X1.1 104 0 = X.1 104 0 ∧ X1.1 122 0 = X.1 122 0 ∧ X1.1 140 0 = X.1 140 0 ∧ X1.1 20 0 = X.1 20 0 ∧ X1.1 20 1 = X.1 20 1 ∧ X1.1 20 2 = X.1 20 2))) (dy : ((3 ≤ z1 ∧ v = 0 ∧ Y1.1 2 0 = Y.1 2 0 ∧ Y1.1 2 1 = Y.1 2 1 ∧ Y1.1 2 2 = Y.1 2 2 ∧ Y1.1 2 3 = Y.1 2 3 ∧ Y1.1 48 0 = Y.1 48 0 ∧ Y1.1 48 1 = Y.1 48 1 ∧ Y1.1 48 2 = Y.1 48 2) ∨ (z1 ≤ (-1) ∧ v = 0 ∧ Y1.1 2 0 = Y.1 2 0 ∧ Y1.1 2 1 = Y.1 2 1 ∧ Y1.1 2 2 = Y.1 2 2 ∧ Y1.1 2 3 = Y.1 2 3 ∧ Y1.1 48 0 = Y.1 48 0 ∧ Y1.1 48 1 = Y.1 48 1 ∧ Y1.1 48 2 = Y.1 48 2) ∨ (2 ≤ z1 ∧ z1 ≤ 2 ∧ v = 1 ∧ Y1.1 2 0 = Y.1 2 0 ∧ Y1.1 2 1 = Y.1 2 1 ∧ Y1.1 2 2 = Y.1 2 2 ∧ Y1.1 2 3 = Y.1 2 0 ∧ Y1.1 48 0 = Y.1 48 0 ∧ Y1.1 48 1 = Y.1 48 1 ∧ Y1.1 48 2 = 1) ∨ (1 ≤ z1 ∧ z1 ≤ 1 ∧ v = 1 ∧ Y1.1 2 0 = Y.1 2 0 ∧ Y1.1 2 1 = Y.1 2 1 ∧ Y1.1 2 2 = Y.1 2 0 ∧ Y1.1 2 3 = Y.1 2 3 ∧ Y1.1 48 0 = Y.1 48 0 ∧ Y1.1 48 1 = 1 ∧ Y1.1 48 2 = Y.1 48 2) ∨ (0 ≤ z1 ∧ z1 ≤ 0 ∧ v = 1 ∧ Y1.1 2 0 = Y.1 2 0 ∧ Y1.1 2 1 = Y.1 2 0 ∧ Y1.1 2 2 = Y.1 2 2 ∧ Y1.1 2 3 = Y.1 2 3 ∧ Y1.1 48 0 = 1 ∧ Y1.1 48 1 = Y.1 48 1 ∧ Y1.1 48 2 = Y.1 48 2))) : RL1 X1 Y1 ∧ u = v := by
  obtain ⟨e0, e1, e2, e3, e4, e5, e6⟩ := hR
  rcases dx with dx | dx | dx | dx | dx
  all_goals rcases dy with dy | dy | dy | dy | dy
  all_goals first | (exfalso; omega) | exact ⟨⟨by omega, by omega, by omega, by omega, by omega, by omega, by omega⟩, by omega⟩
set_option maxHeartbeats 4000000 in
theorem rs_again {X Y X1 Y1 : XT} {u v : Int} {z1 : Int} (hR : RL1 X Y) (dx : ((2 ≤ z1 ∧ z1 ≤ 2 ∧ X.1 20 2 ≤ 0 ∧ u = 0 ∧ X1.1 1 0 = X.1 1 0 ∧ X1.1 104 0 = X.1 104 0 ∧ X1.1 122 0 = X.1 122 0 ∧ X1.1 140 0 = X.1 140 0 ∧ X1.1 20 0 = X.1 20 0 ∧ X1.1 20 1 = X.1 20 1 ∧ X1.1 20 2 = X.1 20 2) ∨ (2 ≤ z1 ∧ z1 ≤ 2 ∧ 1 ≤ X.1 20 2 ∧ u = 1 ∧ X1.1 1 0 = X.1 140 0 ∧ X1.1 104 0 = X.1 104 0 ∧ X1.1 122 0 = X.1 122 0 ∧ X1.1 140 0 = X.1 140 0 ∧ X1.1 20 0 = X.1 20 0 ∧ X1.1 20 1 = X.1 20 1 ∧ X1.1 20 2 = X.1 20 2) ∨ (1 ≤ z1 ∧ z1 ≤ 1 ∧ X.1 20 1 ≤ 0 ∧ u = 0 ∧ X1.1 1 0 = X.1 1 0 ∧ X1.1 104 0 = X.1 104 0 ∧ X1.1 122 0 = X.1 122 0 ∧ X1.1 140 0 = X.1 140 0 ∧ X1.1 20 0 = X.1 20 0 ∧ X1.1 20 1 = X.1 20 1 ∧ X1.1 20 2 = X.1 20 2) ∨ (1 ≤ z1 ∧ z1 ≤ 1 ∧ 1 ≤ X.1 20 1 ∧ u = 1 ∧ X1.1 1 0 = X.1 122 0 ∧ X1.1 104 0 = X.1 104 0 ∧ X1.1 122 0 = X.1 122 0 ∧ X1.1 140 0 = X.1 140 0 ∧ X1.1 20 0 = X.1 20 0 ∧ X1.1 20 1 = X.1 20 1 ∧ X1.1 20 2 = X.1 20 2) ∨ (0 ≤ z1 ∧ z1 ≤ 0 ∧ X.1 20 0 ≤ 0 ∧ u = 0 ∧ X1.1 1 0 = X.1 1 0 ∧ X1.1 104 0 = X.1 104 0 ∧ X1.1 122 0 = X.1 122 0 ∧ X1.1 140 0 = X.1 140 0 ∧ X1.1 20 0 = X.1 20 0 ∧ X1.1 20 1 = X.1 20 1 ∧ X1.1 20 2 = X.1 20 2) ∨ (0 ≤ z1 ∧ z1 ≤ 0 ∧ 1 ≤ X.1 20 0 ∧ u = 1 ∧ X1.1 1 0 = X.1 104 0 ∧ X1.1 104 0 = X.1 104 0 ∧ X1.1 122 0 = X.1 122 0 ∧ X1.1 140 0 = X.1 140 0 ∧ X1.1 20 0 = X.1 20 0 ∧ X1.1 20 1 = X.1 20 1 ∧ X1.1 20 2 = X.1 20 2) ∨ (3 ≤ z1 ∧ u = 0 ∧ X1.1 1 0 = X.1 1 0 ∧ X1.1 104 0 = X.1 104 0 ∧ X1.1 122 0 = X.1 122 0 ∧ X1.1 140 0 = X.1 140 0 ∧ X1.1 20 0 = X.1 20 0 ∧ X1.1 20 1 = X.1 20 1 ∧ X1.1 20 2 = X.1 20 2) ∨ (z1 ≤ (-1) ∧ u = 0 ∧ X1.1 1 0 = X.1 1 0 ∧ X1.1 104 0 = X.1 104 0 ∧ X1.1 122 0 = X.1 122 0 ∧ X1.1 140 0 = X.1 140 0 ∧ X1.1 20 0 = X.1 20 0 ∧ X1.1 20 1 = X.1 20 1 ∧ X1.1 20 2 = X.1 20 2))) (dy : ((3 ≤ z1 ∧ v = 0 ∧ Y1.1 2 0 = Y.1 2 0 ∧ Y1.1 2 1 = Y.1 2 1 ∧ Y1.1 2 2 = Y.1 2 2 ∧ Y1.1 2 3 = Y.1 2 3 ∧ Y1.1 48 0 = Y.1 48 0 ∧ Y1.1 48 1 = Y.1 48 1 ∧ Y1.1 48 2 = Y.1 48 2) ∨ (z1 ≤ (-1) ∧ v = 0 ∧ Y1.1 2 0 = Y.1 2 0 ∧ Y1.1 2 1 = Y.1 2 1 ∧ Y1.1 2 2 = Y.1 2 2 ∧ Y1.1 2 3 = Y.1 2 3 ∧ Y1.1 48 0 = Y.1 48 0 ∧ Y1.1 48 1 = Y.1 48 1 ∧ Y1.1 48 2 = Y.1 48 2) ∨ (2 ≤ z1 ∧ z1 ≤ 2 ∧ Y.1 48 2 ≤ 0 ∧ v = 0 ∧ Y1.1 2 0 = Y.1 2 0 ∧ Y1.1 2 1 = Y.1 2 1 ∧ Y1.1 2 2 = Y.1 2 2 ∧ Y1.1 2 3 = Y.1 2 3 ∧ Y1.1 48 0 = Y.1 48 0 ∧ Y1.1 48 1 = Y.1 48 1 ∧ Y1.1 48 2 = Y.1 48 2) ∨ (2 ≤ z1 ∧ z1 ≤ 2 ∧ 1 ≤ Y.1 48 2 ∧ v = 1 ∧ Y1.1 2 0 = Y.1 2 3 ∧ Y1.1 2 1 = Y.1 2 1 ∧ Y1.1 2 2 = Y.1 2 2 ∧ Y1.1 2 3 = Y.1 2 3 ∧ Y1.1 48 0 = Y.1 48 0 ∧ Y1.1 48 1 = Y.1 48 1 ∧ Y1.1 48 2 = Y.1 48 2) ∨ (1 ≤ z1 ∧ z1 ≤ 1 ∧ Y.1 48 1 ≤ 0 ∧ v = 0 ∧ Y1.1 2 0 = Y.1 2 0 ∧ Y1.1 2 1 = Y.1 2 1 ∧ Y1.1 2 2 = Y.1 2 2 ∧ Y1.1 2 3 = Y.1 2 3 ∧ Y1.1 48 0 = Y.1 48 0 ∧ Y1.1 48 1 = Y.1 48 1 ∧ Y1.1 48 2 = Y.1 48 2) ∨ (1 ≤ z1 ∧ z1 ≤ 1 ∧ 1 ≤ Y.1 48 1 ∧ v = 1 ∧ Y1.1 2 0 = Y.1 2 2 ∧ Y1.1 2 1 = Y.1 2 1 ∧ Y1.1 2 2 = Y.1 2 2 ∧ Y1.1 2 3 = Y.1 2 3 ∧ Y1.1 48 0 = Y.1 48 0 ∧ Y1.1 48 1 = Y.1 48 1 ∧ Y1.1 48 2 = Y.1 48 2) ∨ (0 ≤ z1 ∧ z1 ≤ 0 ∧ Y.1 48 0 ≤ 0 ∧ v = 0 ∧ Y1.1 2 0 = Y.1 2 0 ∧ Y1.1 2 1 = Y.1 2 1 ∧ Y1.1 2 2 = Y.1 2 2 ∧ Y1.1 2 3 = Y.1 2 3 ∧ Y1.1 48 0 = Y.1 48 0 ∧ Y1.1 48 1 = Y.1 48 1 ∧ Y1.1 48 2 = Y.1 48 2) ∨ (0 ≤ z1 ∧ z1 ≤ 0 ∧ 1 ≤ Y.1 48 0 ∧ v = 1 ∧ Y1.1 2 0 = Y.1 2 1 ∧ Y1.1 2 1 = Y.1 2 1 ∧ Y1.1 2 2 = Y.1 2 2 ∧ Y1.1 2 3 = Y.1 2 3 ∧ Y1.1 48 0 = Y.1 48 0 ∧ Y1.1 48 1 = Y.1 48 1 ∧ Y1.1 48 2 = Y.1 48 2))) : RL1 X1 Y1 ∧ u = v := by
  obtain ⟨e0, e1, e2, e3, e4, e5, e6⟩ := hR
  rcases dx with dx | dx | dx | dx | dx | dx | dx | dx
  all_goals rcases dy with dy | dy | dy | dy | dy | dy | dy | dy
  all_goals first | (exfalso; omega) | exact ⟨⟨by omega, by omega, by omega, by omega, by omega, by omega, by omega⟩, by omega⟩
theorem rs_end {X Y X1 Y1 : XT} {u v n : Int} (hR : RL1 X Y) (hx : FR mdEN X X1) (hy : FR mmEN Y Y1) (dx : (0 ≤ n ∧ n ≤ X.1 1 0 ∧ u = n ∧ X1.1 1 0 = n) ∨ (¬ (0 ≤ n ∧ n ≤ X.1 1 0) ∧ u = -1 ∧ X1.1 1 0 = X.1 1 0)) (dy : (0 ≤ n ∧ n ≤ Y.1 2 0 ∧ v = n ∧ Y1.1 2 0 = n) ∨ (¬ (0 ≤ n ∧ n ≤ Y.1 2 0) ∧ v = -1 ∧ Y1.1 2 0 = Y.1 2 0)) : RL1 X1 Y1 ∧ u = v := by
  obtain ⟨e0, e1, e2, e3, e4, e5, e6⟩ := hR
  have x1 := (hx 104 0 rfl).1
  have y1 := (hy 2 1 rfl).1
  have x2 := (hx 122 0 rfl).1
  have y2 := (hy 2 2 rfl).1
  have x3 := (hx 140 0 rfl).1
  have y3 := (hy 2 3 rfl).1
  have x4 := (hx 20 0 rfl).1
  have y4 := (hy 48 0 rfl).1
  have x5 := (hx 20 1 rfl).1
  have y5 := (hy 48 1 rfl).1
  have x6 := (hx 20 2 rfl).1
  have y6 := (hy 48 2 rfl).1
  exact ⟨⟨by omega, by omega, by omega, by omega, by omega, by omega, by omega⟩, by omega⟩
theorem rs_text {X Y X1 Y1 : XT} (hR : RL1 X Y) (a : X1.1 1 0 = 0 ∧ X1.1 104 0 = X.1 104 0 ∧ X1.1 122 0 = X.1 122 0 ∧ X1.1 140 0 = X.1 140 0 ∧ X1.1 20 0 = X.1 20 0 ∧ X1.1 20 1 = X.1 20 1 ∧ X1.1 20 2 = X.1 20 2) (c : Y1.1 2 0 = 0 ∧ Y1.1 2 1 = Y.1 2 1 ∧ Y1.1 2 2 = Y.1 2 2 ∧ Y1.1 2 3 = Y.1 2 3 ∧ Y1.1 48 0 = Y.1 48 0 ∧ Y1.1 48 1 = Y.1 48 1 ∧ Y1.1 48 2 = Y.1 48 2) : RL1 X1 Y1 := by
  obtain ⟨e0, e1, e2, e3, e4, e5, e6⟩ := hR
  exact ⟨by omega, by omega, by omega, by omega, by omega, by omega, by omega⟩
