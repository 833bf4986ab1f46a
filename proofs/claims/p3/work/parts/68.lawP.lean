/-! ===== the public calls with their answers ===== -/
def SXfeed (z1 z2 z3 z4 z5 : Int) (X X1 : XT) (u : Int) : Prop := FR mdPF X X1 ∧ ∃ l : Nat, X.1 1 0 = (l : Int) ∧ ((581 ≤ X.1 1 0 ∧ u = -1 ∧ X1.1 1 0 = X.1 1 0 ∧ ∀ i : Nat, X1.1 2 i = X.1 2 i) ∨ ((l : Int) ≤ 580 ∧ u = (l : Int) + 20 ∧ X1.1 1 0 = (l : Int) + 20 ∧ (∀ i : Nat, i < l ∨ 600 ≤ i → X1.1 2 i = X.1 2 i) ∧ (∀ t : Nat, t < 4 → X1.1 2 (l + 0 + t) = byF z1 t) ∧ (∀ t : Nat, t < 4 → X1.1 2 (l + 4 + t) = byF z2 t) ∧ (∀ t : Nat, t < 4 → X1.1 2 (l + 8 + t) = byF z3 t) ∧ (∀ t : Nat, t < 4 → X1.1 2 (l + 12 + t) = byF z4 t) ∧ (∀ t : Nat, t < 4 → X1.1 2 (l + 16 + t) = byF z5 t)))
def SMfeed (z1 z2 z3 z4 z5 : Int) (X X1 : XT) (u : Int) : Prop := FR mmPT2 X X1 ∧ ∃ l : Nat, X.1 2 0 = (l : Int) ∧ ((581 ≤ X.1 2 0 ∧ u = -1 ∧ X1.1 2 0 = X.1 2 0 ∧ ∀ i : Nat, X1.1 1 i = X.1 1 i) ∨ ((l : Int) ≤ 580 ∧ u = (l : Int) + 20 ∧ X1.1 2 0 = (l : Int) + 20 ∧ (∀ i : Nat, i < l ∨ 600 ≤ i → X1.1 1 i = X.1 1 i) ∧ (∀ t : Nat, t < 4 → X1.1 1 (l + 0 + t) % 256 = byF z1 t) ∧ (∀ t : Nat, t < 4 → X1.1 1 (l + 4 + t) % 256 = byF z2 t) ∧ (∀ t : Nat, t < 4 → X1.1 1 (l + 8 + t) % 256 = byF z3 t) ∧ (∀ t : Nat, t < 4 → X1.1 1 (l + 12 + t) % 256 = byF z4 t) ∧ (∀ t : Nat, t < 4 → X1.1 1 (l + 16 + t) % 256 = byF z5 t)))
def SXend (z1 : Int) (X X1 : XT) (u : Int) : Prop := FR mdEN X X1 ∧ ((0 ≤ z1 ∧ z1 ≤ X.1 1 0 ∧ u = z1 ∧ X1.1 1 0 = z1) ∨ (¬ (0 ≤ z1 ∧ z1 ≤ X.1 1 0) ∧ u = -1 ∧ X1.1 1 0 = X.1 1 0))
def SMend (z1 : Int) (X X1 : XT) (u : Int) : Prop := FR mmEN X X1 ∧ ((0 ≤ z1 ∧ z1 ≤ X.1 2 0 ∧ u = z1 ∧ X1.1 2 0 = z1) ∨ (¬ (0 ≤ z1 ∧ z1 ≤ X.1 2 0) ∧ u = -1 ∧ X1.1 2 0 = X.1 2 0))
def SXcount (z1 : Int) (X X1 : XT) (u : Int) : Prop := X1 = X ∧ ((0 ≤ z1 ∧ z1 ≤ 2 ∧ u = X.1 3 z1.toNat) ∨ (¬ (0 ≤ z1 ∧ z1 ≤ 2) ∧ u = -2))
def SMcount (z1 : Int) (X X1 : XT) (u : Int) : Prop := FR mmCO X X1 ∧ ((0 ≤ z1 ∧ z1 ≤ 2 ∧ u = X.1 5 z1.toNat) ∨ (¬ (0 ≤ z1 ∧ z1 ≤ 2) ∧ u = -2))
def SXfault (z1 : Int) (X X1 : XT) (u : Int) : Prop := X1 = X ∧ ((z1 = 0 ∧ u = X.1 1 1) ∨ (z1 = 1 ∧ u = X.1 1 2) ∨ (z1 ≠ 0 ∧ z1 ≠ 1 ∧ u = -1))
def SMfault (z1 : Int) (X X1 : XT) (u : Int) : Prop := FR mmCO X X1 ∧ ((z1 = 0 ∧ u = X.1 3 0) ∨ (z1 = 1 ∧ u = X.1 4 0) ∨ (z1 ≠ 0 ∧ z1 ≠ 1 ∧ u = -1))
def SXimage (z1 : Int) (X X1 : XT) (u : Int) : Prop := (z1 = 0 ∧ u = 1 ∧ FR mdIi0 X X1 ∧ CPS sd1 sd0 X X1 ∧ X1.1 20 0 = 1) ∨ (z1 = 1 ∧ u = 1 ∧ FR mdIi1 X X1 ∧ CPS sd2 sd0 X X1 ∧ X1.1 20 1 = 1) ∨ (z1 = 2 ∧ u = 1 ∧ FR mdIi2 X X1 ∧ CPS sd3 sd0 X X1 ∧ X1.1 20 2 = 1) ∨ (¬ (0 ≤ z1 ∧ z1 ≤ 2) ∧ u = 0 ∧ X1 = X)
def SMimage (z1 : Int) (X X1 : XT) (u : Int) : Prop := (z1 = 0 ∧ u = 1 ∧ CPR 0 1 X X1 ∧ (∀ r, r ≠ 1 → CPR r r X X1) ∧ ∀ j, j < 3 → X1.1 48 j = if j = 0 then 1 else X.1 48 j) ∨ (z1 = 1 ∧ u = 1 ∧ CPR 0 2 X X1 ∧ (∀ r, r ≠ 2 → CPR r r X X1) ∧ ∀ j, j < 3 → X1.1 48 j = if j = 1 then 1 else X.1 48 j) ∨ (z1 = 2 ∧ u = 1 ∧ CPR 0 3 X X1 ∧ (∀ r, r ≠ 3 → CPR r r X X1) ∧ ∀ j, j < 3 → X1.1 48 j = if j = 2 then 1 else X.1 48 j) ∨ (¬ (0 ≤ z1 ∧ z1 ≤ 2) ∧ u = 0 ∧ FR mmCO X X1)
def SXagain (z1 : Int) (X X1 : XT) (u : Int) : Prop := (z1 = 0 ∧ u = 1 ∧ X.1 20 0 ≠ 0 ∧ FR mdIa0 X X1 ∧ CPS sd0 sd1 X X1) ∨ (z1 = 0 ∧ u = 0 ∧ X.1 20 0 = 0 ∧ X1 = X) ∨ (z1 = 1 ∧ u = 1 ∧ X.1 20 1 ≠ 0 ∧ FR mdIa1 X X1 ∧ CPS sd0 sd2 X X1) ∨ (z1 = 1 ∧ u = 0 ∧ X.1 20 1 = 0 ∧ X1 = X) ∨ (z1 = 2 ∧ u = 1 ∧ X.1 20 2 ≠ 0 ∧ FR mdIa2 X X1 ∧ CPS sd0 sd3 X X1) ∨ (z1 = 2 ∧ u = 0 ∧ X.1 20 2 = 0 ∧ X1 = X) ∨ (¬ (0 ≤ z1 ∧ z1 ≤ 2) ∧ u = 0 ∧ X1 = X)
def SMagain (z1 : Int) (X X1 : XT) (u : Int) : Prop := (z1 = 0 ∧ u = 1 ∧ X.1 48 0 ≠ 0 ∧ CPR 1 0 X X1 ∧ (∀ r, r ≠ 0 → CPR r r X X1) ∧ ∀ j, X1.1 48 j = X.1 48 j) ∨ (z1 = 0 ∧ u = 0 ∧ X.1 48 0 = 0 ∧ FR mmCO X X1) ∨ (z1 = 1 ∧ u = 1 ∧ X.1 48 1 ≠ 0 ∧ CPR 2 0 X X1 ∧ (∀ r, r ≠ 0 → CPR r r X X1) ∧ ∀ j, X1.1 48 j = X.1 48 j) ∨ (z1 = 1 ∧ u = 0 ∧ X.1 48 1 = 0 ∧ FR mmCO X X1) ∨ (z1 = 2 ∧ u = 1 ∧ X.1 48 2 ≠ 0 ∧ CPR 3 0 X X1 ∧ (∀ r, r ≠ 0 → CPR r r X X1) ∧ ∀ j, X1.1 48 j = X.1 48 j) ∨ (z1 = 2 ∧ u = 0 ∧ X.1 48 2 = 0 ∧ FR mmCO X X1) ∨ (¬ (0 ≤ z1 ∧ z1 ≤ 2) ∧ u = 0 ∧ FR mmCO X X1)
theorem xq_feed {D : va_G} {ad : Nat → Nat} {cA : Nat → ClassId} {X : XT} {z1 z2 z3 z4 z5 : Int} (h1 : inR z1) (h2 : inR z2) (h3 : inR z3) (h4 : inR z4) (h5 : inR z5) (hH : HG vX X) (hE : gX.2 X) : MetX (wX D ad cA) yX11_feed cX11_feed 6 (some .int) 1 22 [.ref 0, .int (iI (z1)), .int (iI (z2)), .int (iI (z3)), .int (iI (z4)), .int (iI (z5))] X (fun r X' => ∃ u : Int, r = some (.int (iI u)) ∧ inR u ∧ HG vX X' ∧ gX.2 X' ∧ SXfeed z1 z2 z3 z4 z5 X X' u) := by
  have q : (0 : Int) ≤ X.1 1 0 ∧ X.1 1 0 ≤ 600 := hH.rF (k := 1) (i := 0) (p := (0, 600)) rfl rfl
  have hl : X.1 1 0 = ((X.1 1 0).toNat : Int) := by omega
  exact MetX.imp (fun r X' hp => by
    obtain ⟨⟨u, rfl, ru, d⟩, hH', hF⟩ := hp
    exact ⟨u, rfl, ru, hH', menok_fr hE hF rfl, hF, _, hl, d⟩) (c_feed h1 h2 h3 h4 h5 hl hH FR.rf)
theorem xq_end {D : va_G} {ad : Nat → Nat} {cA : Nat → ClassId} {X : XT} {z1 : Int} (h1 : inR z1) (hH : HG vX X) (hE : gX.2 X) : MetX (wX D ad cA) yX11_end cX11_end 2 (some .int) 0 0 [.ref 0, .int (iI (z1))] X (fun r X' => ∃ u : Int, r = some (.int (iI u)) ∧ inR u ∧ HG vX X' ∧ gX.2 X' ∧ SXend z1 X X' u) := by
  exact MetX.imp (fun r X' hp => by
    obtain ⟨⟨u, rfl, ru, d⟩, hH', hF⟩ := hp
    exact ⟨u, rfl, ru, hH', menok_fr hE hF rfl, hF, d⟩) (xp_end h1 hH FR.rf)
theorem xq_count {D : va_G} {ad : Nat → Nat} {cA : Nat → ClassId} {X : XT} {z1 : Int} (h1 : inR z1) (hH : HG vX X) (hE : gX.2 X) : MetX (wX D ad cA) yX11_count cX11_count 2 (some .int) 0 0 [.ref 0, .int (iI (z1))] X (fun r X' => ∃ u : Int, r = some (.int (iI u)) ∧ inR u ∧ HG vX X' ∧ gX.2 X' ∧ SXcount z1 X X' u) := by
  exact MetX.imp (fun r X' hp => by
    obtain ⟨rfl, u, rfl, ru, d⟩ := hp
    exact ⟨u, rfl, ru, hH, hE, rfl, d⟩) (c_count h1 hH)
theorem xq_fault {D : va_G} {ad : Nat → Nat} {cA : Nat → ClassId} {X : XT} {z1 : Int} (h1 : inR z1) (hH : HG vX X) (hE : gX.2 X) : MetX (wX D ad cA) yX11_fault cX11_fault 2 (some .int) 0 0 [.ref 0, .int (iI (z1))] X (fun r X' => ∃ u : Int, r = some (.int (iI u)) ∧ inR u ∧ HG vX X' ∧ gX.2 X' ∧ SXfault z1 X X' u) := by
  exact MetX.imp (fun r X' hp => by
    obtain ⟨rfl, u, rfl, ru, d⟩ := hp
    exact ⟨u, rfl, ru, hH, hE, rfl, d⟩) (c_fault h1 hH)
theorem xq_image {D : va_G} {ad : Nat → Nat} {cA : Nat → ClassId} {X : XT} {z1 : Int} (h1 : inR z1) (hH : HG vX X) (hE : gX.2 X) : MetX (wX D ad cA) yX11_image cX11_image 2 (some .boolean) 3 103 [.ref 0, .int (iI (z1))] X (fun r X' => ∃ u : Int, r = some (.int (iI u)) ∧ inR u ∧ HG vX X' ∧ gX.2 X' ∧ SXimage z1 X X' u) := by
  rcases (show z1 = 0 ∨ z1 = 1 ∨ z1 = 2 ∨ ¬ (0 ≤ z1 ∧ z1 ≤ 2) by omega) with rfl | rfl | rfl | hn
  · exact MetX.imp (fun r X' hp => by
      obtain ⟨rfl, hH', hF, cp, e⟩ := hp
      exact ⟨1, rfl, ⟨by decide, by decide⟩, hH', menok_c10 hE hH cp hF, .inl ⟨rfl, rfl, hF, cp, e⟩⟩) (c_image0 hH FR.rf)
  · exact MetX.imp (fun r X' hp => by
      obtain ⟨rfl, hH', hF, cp, e⟩ := hp
      exact ⟨1, rfl, ⟨by decide, by decide⟩, hH', menok_c20 hE hH cp hF, .inr (.inl ⟨rfl, rfl, hF, cp, e⟩)⟩) (c_image1 hH FR.rf)
  · exact MetX.imp (fun r X' hp => by
      obtain ⟨rfl, hH', hF, cp, e⟩ := hp
      exact ⟨1, rfl, ⟨by decide, by decide⟩, hH', menok_c30 hE hH cp hF, .inr (.inr (.inl ⟨rfl, rfl, hF, cp, e⟩))⟩) (c_image2 hH FR.rf)
  · exact MetX.imp (fun r X' hp => by
      obtain ⟨rfl, rfl⟩ := hp
      exact ⟨0, rfl, ⟨by decide, by decide⟩, hH, hE, .inr (.inr (.inr (⟨hn, rfl, rfl⟩)))⟩) (c_imageN h1 hn hH)
theorem xq_again {D : va_G} {ad : Nat → Nat} {cA : Nat → ClassId} {X : XT} {z1 : Int} (h1 : inR z1) (hH : HG vX X) (hE : gX.2 X) : MetX (wX D ad cA) yX11_again cX11_again 2 (some .boolean) 3 103 [.ref 0, .int (iI (z1))] X (fun r X' => ∃ u : Int, r = some (.int (iI u)) ∧ inR u ∧ HG vX X' ∧ gX.2 X' ∧ SXagain z1 X X' u) := by
  rcases (show z1 = 0 ∨ z1 = 1 ∨ z1 = 2 ∨ ¬ (0 ≤ z1 ∧ z1 ≤ 2) by omega) with rfl | rfl | rfl | hn
  · exact MetX.imp (fun r X' hp => by
      obtain ⟨u, rfl, ⟨rfl, ne, hH', hF, cp⟩ | ⟨rfl, e, rfl⟩⟩ := hp
      · exact ⟨1, rfl, ⟨by decide, by decide⟩, hH', menok_c01 hE hH cp hF, .inl ⟨rfl, rfl, ne, hF, cp⟩⟩
      · exact ⟨0, rfl, ⟨by decide, by decide⟩, hH, hE, .inr (.inl ⟨rfl, rfl, e, rfl⟩)⟩) (c_again0 hH FR.rf)
  · exact MetX.imp (fun r X' hp => by
      obtain ⟨u, rfl, ⟨rfl, ne, hH', hF, cp⟩ | ⟨rfl, e, rfl⟩⟩ := hp
      · exact ⟨1, rfl, ⟨by decide, by decide⟩, hH', menok_c02 hE hH cp hF, .inr (.inr (.inl ⟨rfl, rfl, ne, hF, cp⟩))⟩
      · exact ⟨0, rfl, ⟨by decide, by decide⟩, hH, hE, .inr (.inr (.inr (.inl ⟨rfl, rfl, e, rfl⟩)))⟩) (c_again1 hH FR.rf)
  · exact MetX.imp (fun r X' hp => by
      obtain ⟨u, rfl, ⟨rfl, ne, hH', hF, cp⟩ | ⟨rfl, e, rfl⟩⟩ := hp
      · exact ⟨1, rfl, ⟨by decide, by decide⟩, hH', menok_c03 hE hH cp hF, .inr (.inr (.inr (.inr (.inl ⟨rfl, rfl, ne, hF, cp⟩))))⟩
      · exact ⟨0, rfl, ⟨by decide, by decide⟩, hH, hE, .inr (.inr (.inr (.inr (.inr (.inl ⟨rfl, rfl, e, rfl⟩)))))⟩) (c_again2 hH FR.rf)
  · exact MetX.imp (fun r X' hp => by
      obtain ⟨rfl, rfl⟩ := hp
      exact ⟨0, rfl, ⟨by decide, by decide⟩, hH, hE, .inr (.inr (.inr (.inr (.inr (.inr (⟨hn, rfl, rfl⟩))))))⟩) (c_againN h1 hn hH)
theorem rq_feed {D : va_G} {ad : Nat → Nat} {cA : Nat → ClassId} {X : XT} {z1 z2 z3 z4 z5 : Int} (h1 : inR z1) (h2 : inR z2) (h3 : inR z3) (h4 : inR z4) (h5 : inR z5) (hH : HG vM X) (hE : gM.2 X) : MetX (wM D ad cA) yX12_feed cX12_feed 6 (some .int) 1 22 [.ref 0, .int (iI (z1)), .int (iI (z2)), .int (iI (z3)), .int (iI (z4)), .int (iI (z5))] X (fun r X' => ∃ u : Int, r = some (.int (iI u)) ∧ inR u ∧ HG vM X' ∧ gM.2 X' ∧ SMfeed z1 z2 z3 z4 z5 X X' u) := by
  have q : (0 : Int) ≤ X.1 2 0 ∧ X.1 2 0 ≤ 600 := hH.rF (k := 2) (i := 0) (p := (0, 600)) rfl rfl
  have hl : X.1 2 0 = ((X.1 2 0).toNat : Int) := by omega
  exact MetX.imp (fun r X' hp => by
    obtain ⟨⟨u, rfl, ru, d⟩, hH', hF⟩ := hp
    exact ⟨u, rfl, ru, hH', bok_fr hE hF rfl, hF, _, hl, d⟩) (r_feed h1 h2 h3 h4 h5 hl hH FR.rf)
theorem rq_end {D : va_G} {ad : Nat → Nat} {cA : Nat → ClassId} {X : XT} {z1 : Int} (h1 : inR z1) (hH : HG vM X) (hE : gM.2 X) : MetX (wM D ad cA) yX12_end cX12_end 2 (some .int) 1 22 [.ref 0, .int (iI (z1))] X (fun r X' => ∃ u : Int, r = some (.int (iI u)) ∧ inR u ∧ HG vM X' ∧ gM.2 X' ∧ SMend z1 X X' u) := by
  exact MetX.imp (fun r X' hp => by
    obtain ⟨⟨u, rfl, ru, d⟩, hH', hF⟩ := hp
    exact ⟨u, rfl, ru, hH', bok_fr hE hF rfl, hF, d⟩) (rp_end h1 hH FR.rf)
theorem rq_count {D : va_G} {ad : Nat → Nat} {cA : Nat → ClassId} {X : XT} {z1 : Int} (h1 : inR z1) (hH : HG vM X) (hE : gM.2 X) : MetX (wM D ad cA) yX12_count cX12_count 2 (some .int) 1 22 [.ref 0, .int (iI (z1))] X (fun r X' => ∃ u : Int, r = some (.int (iI u)) ∧ inR u ∧ HG vM X' ∧ gM.2 X' ∧ SMcount z1 X X' u) := by
  exact MetX.imp (fun r X' hp => by
    obtain ⟨hH', hF, u, rfl, ru, d⟩ := hp
    exact ⟨u, rfl, ru, hH', bok_fr hE hF rfl, hF, d⟩) (r_count h1 hH FR.rf)
theorem rq_fault {D : va_G} {ad : Nat → Nat} {cA : Nat → ClassId} {X : XT} {z1 : Int} (h1 : inR z1) (hH : HG vM X) (hE : gM.2 X) : MetX (wM D ad cA) yX12_fault cX12_fault 2 (some .int) 0 0 [.ref 0, .int (iI (z1))] X (fun r X' => ∃ u : Int, r = some (.int (iI u)) ∧ inR u ∧ HG vM X' ∧ gM.2 X' ∧ SMfault z1 X X' u) := by
  exact MetX.imp (fun r X' hp => by
    obtain ⟨hH', hF, u, rfl, ru, d⟩ := hp
    exact ⟨u, rfl, ru, hH', bok_fr hE hF rfl, hF, d⟩) (r_fault h1 hH FR.rf)
theorem rq_image {D : va_G} {ad : Nat → Nat} {cA : Nat → ClassId} {X : XT} {z1 : Int} (h1 : inR z1) (hH : HG vM X) (hE : gM.2 X) : MetX (wM D ad cA) yX12_image cX12_image 2 (some .boolean) 2 47 [.ref 0, .int (iI (z1))] X (fun r X' => ∃ u : Int, r = some (.int (iI u)) ∧ inR u ∧ HG vM X' ∧ gM.2 X' ∧ SMimage z1 X X' u) := by
  rcases (show z1 = 0 ∨ z1 = 1 ∨ z1 = 2 ∨ ¬ (0 ≤ z1 ∧ z1 ≤ 2) by omega) with rfl | rfl | rfl | hn
  · exact MetX.imp (fun r X' hp => by
      obtain ⟨rfl, hH', hB, d⟩ := hp
      exact ⟨1, rfl, ⟨by decide, by decide⟩, hH', hB, .inl ⟨rfl, rfl, d⟩⟩) (r_image0 hE hH FR.rf)
  · exact MetX.imp (fun r X' hp => by
      obtain ⟨rfl, hH', hB, d⟩ := hp
      exact ⟨1, rfl, ⟨by decide, by decide⟩, hH', hB, .inr (.inl ⟨rfl, rfl, d⟩)⟩) (r_image1 hE hH FR.rf)
  · exact MetX.imp (fun r X' hp => by
      obtain ⟨rfl, hH', hB, d⟩ := hp
      exact ⟨1, rfl, ⟨by decide, by decide⟩, hH', hB, .inr (.inr (.inl ⟨rfl, rfl, d⟩))⟩) (r_image2 hE hH FR.rf)
  · exact MetX.imp (fun r X' hp => by
      obtain ⟨rfl, hH', hF⟩ := hp
      exact ⟨0, rfl, ⟨by decide, by decide⟩, hH', bok_fr hE hF rfl, .inr (.inr (.inr (⟨hn, rfl, hF⟩)))⟩) (r_imageN h1 hn hH FR.rf)
theorem rq_again {D : va_G} {ad : Nat → Nat} {cA : Nat → ClassId} {X : XT} {z1 : Int} (h1 : inR z1) (hH : HG vM X) (hE : gM.2 X) : MetX (wM D ad cA) yX12_again cX12_again 2 (some .boolean) 2 47 [.ref 0, .int (iI (z1))] X (fun r X' => ∃ u : Int, r = some (.int (iI u)) ∧ inR u ∧ HG vM X' ∧ gM.2 X' ∧ SMagain z1 X X' u) := by
  rcases (show z1 = 0 ∨ z1 = 1 ∨ z1 = 2 ∨ ¬ (0 ≤ z1 ∧ z1 ≤ 2) by omega) with rfl | rfl | rfl | hn
  · exact MetX.imp (fun r X' hp => by
      obtain ⟨u, rfl, hH', ⟨rfl, ne, hB, d⟩ | ⟨rfl, e, hB, hF⟩⟩ := hp
      · exact ⟨1, rfl, ⟨by decide, by decide⟩, hH', hB, .inl ⟨rfl, rfl, ne, d⟩⟩
      · exact ⟨0, rfl, ⟨by decide, by decide⟩, hH', hB, .inr (.inl ⟨rfl, rfl, e, hF⟩)⟩) (r_again0 hE hH FR.rf)
  · exact MetX.imp (fun r X' hp => by
      obtain ⟨u, rfl, hH', ⟨rfl, ne, hB, d⟩ | ⟨rfl, e, hB, hF⟩⟩ := hp
      · exact ⟨1, rfl, ⟨by decide, by decide⟩, hH', hB, .inr (.inr (.inl ⟨rfl, rfl, ne, d⟩))⟩
      · exact ⟨0, rfl, ⟨by decide, by decide⟩, hH', hB, .inr (.inr (.inr (.inl ⟨rfl, rfl, e, hF⟩)))⟩) (r_again1 hE hH FR.rf)
  · exact MetX.imp (fun r X' hp => by
      obtain ⟨u, rfl, hH', ⟨rfl, ne, hB, d⟩ | ⟨rfl, e, hB, hF⟩⟩ := hp
      · exact ⟨1, rfl, ⟨by decide, by decide⟩, hH', hB, .inr (.inr (.inr (.inr (.inl ⟨rfl, rfl, ne, d⟩))))⟩
      · exact ⟨0, rfl, ⟨by decide, by decide⟩, hH', hB, .inr (.inr (.inr (.inr (.inr (.inl ⟨rfl, rfl, e, hF⟩)))))⟩) (r_again2 hE hH FR.rf)
  · exact MetX.imp (fun r X' hp => by
      obtain ⟨rfl, hH', hF⟩ := hp
      exact ⟨0, rfl, ⟨by decide, by decide⟩, hH', bok_fr hE hF rfl, .inr (.inr (.inr (.inr (.inr (.inr (⟨hn, rfl, hF⟩))))))⟩) (r_againN h1 hn hH FR.rf)
theorem txp_r {b : Nat → Int} {N : Nat} {X X1 : XT} {st at_ u : Int} (t : TXP b N X X1 st at_ u) : inR u := by
  obtain ⟨-, t1⟩ := t
  rcases t1 with ⟨e, -⟩ | ⟨-, -, ⟨e, -⟩ | ⟨-, ⟨-, e, -⟩ | ⟨-, e, -⟩ | ⟨-, e, -⟩ | ⟨-, e, -⟩ | ⟨-, e, -⟩ | ⟨-, e, -⟩ | ⟨-, e, -⟩⟩⟩ <;> (subst e; exact ⟨by decide, by decide⟩)
theorem txm_r {b : Nat → Int} {N : Nat} {X X1 : XT} {st at_ u : Int} (t : TXM b N X X1 st at_ u) : inR u := by
  obtain ⟨-, t1⟩ := t
  rcases t1 with ⟨e, -⟩ | ⟨-, -, ⟨e, -⟩ | ⟨-, m, e, -, ⟨-, hm, -⟩ | ⟨-, hm, -⟩ | ⟨-, hm, -⟩⟩⟩ <;> (subst e; exact ⟨by omega, by omega⟩)
theorem xq_text {D : va_G} {ad : Nat → Nat} {cA : Nat → ClassId} {X : XT} {b : Nat → Int} {N : Nat} {z1 z2 : Int} (h1 : inR z1) (h2 : inR z2) (hN : X.1 1 0 = (N : Int)) (hb : ∀ i, i < N → X.1 2 i = b i) (hH : HG vX X) (hE : gX.2 X) : MetS (wX D ad cA) yX11_text cX11_text 4 (some .int) 10 230 [.ref 0, .int (iI (z1)), .int (iI (z2))] X (fun r X' => ∃ u : Int, r = some (.int (iI u)) ∧ inR u ∧ HG vX X' ∧ gX.2 X' ∧ TXP b N X X' z1 z2 u) := by
  exact MetS.imp (fun r X' hp => by
    obtain ⟨u, rfl, hH', t⟩ := hp
    exact ⟨u, rfl, txp_r t, hH', menok_txp hE t, t⟩) (c_text h1 h2 hN hb hH FR.rf)
theorem rq_text {D : va_G} {ad : Nat → Nat} {cA : Nat → ClassId} {X : XT} {b : Nat → Int} {N : Nat} {z1 z2 : Int} (h1 : inR z1) (h2 : inR z2) (hN : X.1 2 0 = (N : Int)) (hb : ∀ i, i < N → X.1 1 i % 256 = b i) (hH : HG vM X) (hE : gM.2 X) : MetX (wM D ad cA) yX12_text cX12_text 4 (some .int) 7 158 [.ref 0, .int (iI (z1)), .int (iI (z2))] X (fun r X' => ∃ u : Int, r = some (.int (iI u)) ∧ inR u ∧ HG vM X' ∧ gM.2 X' ∧ TXM b N X X' z1 z2 u) := by
  exact MetX.imp (fun r X' hp => by
    obtain ⟨u, rfl, hH', t⟩ := hp
    exact ⟨u, rfl, txm_r t, hH', bok_txm hE t, t⟩) (r_text h1 h2 hN hb hH)
theorem rp_meanings {D : va_G} {ad : Nat → Nat} {cA : Nat → ClassId} {X : XT} {z1 z2 z3 z4 : Int} (h1 : inR z1) (h2 : inR z2) (h3 : inR z3) (h4 : 0 ≤ z4 ∧ z4 ≤ 1) (hH : HG vM X) (hE : gM.2 X) : MetX (wM D ad cA) yX12_meanings cX12_meanings 12 (some .int) 11 268 [.ref 0, .int (iI (z1)), .int (iI (z2)), .int (iI (z3)), .int (iI (z4))] X (fun r X' => (∃ u : Int32, r = some (.int u)) ∧ HG vM X' ∧ gM.2 X' ∧ FR mdME X X') :=
  MetX.imp (fun r X' hp => by
    obtain ⟨⟨u, rfl, -⟩, hH', hF⟩ := hp
    exact ⟨⟨_, rfl⟩, hH', bok_fr hE hF rfl, hF⟩) (q_meanings h1 h2 h3 h4.1 h4.2 hE hH FR.rf)
theorem tapeM {Y : XT} (hY : HG vM Y) : Y.1 2 0 = ((Y.1 2 0).toNat : Int) := by
  have := sz6 hY (q := 0) (by omega)
  omega
theorem tapeN {X Y : XT} (hR : TRL X Y) (hY : HG vM Y) : X.1 1 0 = ((Y.1 2 0).toNat : Int) :=
  (show X.1 1 0 = Y.1 2 0 from hR.1.1).trans (tapeM hY)
theorem tapeB {X Y : XT} (hR : TRL X Y) (hY : HG vM Y) : ∀ i, i < (Y.1 2 0).toNat → X.1 2 i = Y.1 1 i % 256 := fun i hi => by
  have t := hR.1.2.2.2.1 i (by have := tapeM hY; omega)
  rw [show 600 * 0 + i = i by omega] at t
  exact t
theorem st_feed {X Y X1 Y1 : XT} {u v z1 z2 z3 z4 z5 : Int} (hR : TRL X Y) (hY : HG vM Y) (dx : SXfeed z1 z2 z3 z4 z5 X X1 u) (dy : SMfeed z1 z2 z3 z4 z5 Y Y1 v) : TRL X1 Y1 ∧ u = v := by
  obtain ⟨hx, l, hl, dx⟩ := dx
  obtain ⟨hy, l2, hl2, dy⟩ := dy
  have h00 : X.1 1 0 = Y.1 2 0 := hR.1.1
  have e : l2 = l := by omega
  subst e
  exact rs_feed2 hR hY hx hy hl dx dy
theorem st_end {X Y X1 Y1 : XT} {u v z1 : Int} (hR : TRL X Y) (hY : HG vM Y) (dx : SXend z1 X X1 u) (dy : SMend z1 Y Y1 v) : TRL X1 Y1 ∧ u = v := by
  exact rs_end2 hR hY dx.1 dy.1 dx.2 dy.2
theorem st_text {b : Nat → Int} {N : Nat} {X Y X1 Y1 : XT} {u v z1 z2 : Int} (hR : TRL X Y) (hY : HG vM Y) (dx : TXP b N X X1 z1 z2 u) (dy : TXM b N Y Y1 z1 z2 v) : TRL X1 Y1 ∧ u = v := rs_text2 hR hY dx dy
theorem st_count {X Y X1 Y1 : XT} {u v z1 : Int} (hR : TRL X Y) (hY : HG vM Y) (dx : SXcount z1 X X1 u) (dy : SMcount z1 Y Y1 v) : TRL X1 Y1 ∧ u = v := by
  obtain ⟨hx, dx⟩ := dx
  have hx : FR [] X X1 := by rw [hx]; exact FR.rf
  obtain ⟨hy, dy⟩ := dy
  refine ⟨trl_fr hR hY hx hy rfl rfl rfl rfl rfl rfl rfl, ?_⟩
  have c := fun j hj => (slr_un hR.1).1 j hj
  rcases dx with ⟨a, b, e⟩ | ⟨a, e⟩
  · rcases dy with ⟨-, -, e2⟩ | ⟨a2, -⟩
    · rw [e, e2]
      exact c z1.toNat (by omega)
    · exact absurd ⟨a, b⟩ a2
  · rcases dy with ⟨a2, b2, -⟩ | ⟨-, e2⟩
    · exact absurd ⟨a2, b2⟩ a
    · rw [e, e2]
theorem st_fault {X Y X1 Y1 : XT} {u v z1 : Int} (hR : TRL X Y) (hY : HG vM Y) (dx : SXfault z1 X X1 u) (dy : SMfault z1 Y Y1 v) : TRL X1 Y1 ∧ u = v := by
  obtain ⟨hx, dx⟩ := dx
  have hx : FR [] X X1 := by rw [hx]; exact FR.rf
  obtain ⟨hy, dy⟩ := dy
  have f0 : X.1 1 1 = Y.1 3 0 := hR.1.2.1
  have f1 : X.1 1 2 = Y.1 4 0 := hR.1.2.2.1
  exact ⟨trl_fr hR hY hx hy rfl rfl rfl rfl rfl rfl rfl, by omega⟩
theorem st_image {X Y X1 Y1 : XT} {u v z1 : Int} (hR : TRL X Y) (hY : HG vM Y) (dx : SXimage z1 X X1 u) (dy : SMimage z1 Y Y1 v) : TRL X1 Y1 ∧ u = v := by
  rcases dx with ⟨e, eu, hx, cp, kx⟩ | ⟨e, eu, hx, cp, kx⟩ | ⟨e, eu, hx, cp, kx⟩ | ⟨e, eu, hx⟩
  · rcases dy with ⟨e2, ev, cr, ro, hk⟩ | ⟨e2, ev, cr, ro, hk⟩ | ⟨e2, ev, cr, ro, hk⟩ | ⟨e2, ev, hy⟩
    · exact ⟨rs_img0 hR hY hx cp kx cr ro hk, by omega⟩
    · exfalso; omega
    · exfalso; omega
    · exfalso; omega
  · rcases dy with ⟨e2, ev, cr, ro, hk⟩ | ⟨e2, ev, cr, ro, hk⟩ | ⟨e2, ev, cr, ro, hk⟩ | ⟨e2, ev, hy⟩
    · exfalso; omega
    · exact ⟨rs_img1 hR hY hx cp kx cr ro hk, by omega⟩
    · exfalso; omega
    · exfalso; omega
  · rcases dy with ⟨e2, ev, cr, ro, hk⟩ | ⟨e2, ev, cr, ro, hk⟩ | ⟨e2, ev, cr, ro, hk⟩ | ⟨e2, ev, hy⟩
    · exfalso; omega
    · exfalso; omega
    · exact ⟨rs_img2 hR hY hx cp kx cr ro hk, by omega⟩
    · exfalso; omega
  · rcases dy with ⟨e2, ev, cr, ro, hk⟩ | ⟨e2, ev, cr, ro, hk⟩ | ⟨e2, ev, cr, ro, hk⟩ | ⟨e2, ev, hy⟩
    · exfalso; omega
    · exfalso; omega
    · exfalso; omega
    · have hx : FR [] X X1 := by rw [hx]; exact FR.rf
      exact ⟨trl_fr hR hY hx hy rfl rfl rfl rfl rfl rfl rfl, by omega⟩
theorem st_again {X Y X1 Y1 : XT} {u v z1 : Int} (hR : TRL X Y) (hY : HG vM Y) (dx : SXagain z1 X X1 u) (dy : SMagain z1 Y Y1 v) : TRL X1 Y1 ∧ u = v := by
  have k0 : X.1 20 0 = Y.1 48 0 := hR.2.2.2.2.1
  have k1 : X.1 20 1 = Y.1 48 1 := hR.2.2.2.2.2.1
  have k2 : X.1 20 2 = Y.1 48 2 := hR.2.2.2.2.2.2
  rcases dx with ⟨e, eu, kx, hx, cp⟩ | ⟨e, eu, kx, hx⟩ | ⟨e, eu, kx, hx, cp⟩ | ⟨e, eu, kx, hx⟩ | ⟨e, eu, kx, hx, cp⟩ | ⟨e, eu, kx, hx⟩ | ⟨e, eu, hx⟩
  · rcases dy with ⟨e2, ev, ky, cr, ro, hk⟩ | ⟨e2, ev, ky, hy⟩ | ⟨e2, ev, ky, cr, ro, hk⟩ | ⟨e2, ev, ky, hy⟩ | ⟨e2, ev, ky, cr, ro, hk⟩ | ⟨e2, ev, ky, hy⟩ | ⟨e2, ev, hy⟩
    · exact ⟨rs_agn0 hR hY kx hx cp cr ro hk, by omega⟩
    · exfalso; omega
    · exfalso; omega
    · exfalso; omega
    · exfalso; omega
    · exfalso; omega
    · exfalso; omega
  · rcases dy with ⟨e2, ev, ky, cr, ro, hk⟩ | ⟨e2, ev, ky, hy⟩ | ⟨e2, ev, ky, cr, ro, hk⟩ | ⟨e2, ev, ky, hy⟩ | ⟨e2, ev, ky, cr, ro, hk⟩ | ⟨e2, ev, ky, hy⟩ | ⟨e2, ev, hy⟩
    · exfalso; omega
    · have hx : FR [] X X1 := by rw [hx]; exact FR.rf
      exact ⟨trl_fr hR hY hx hy rfl rfl rfl rfl rfl rfl rfl, by omega⟩
    · exfalso; omega
    · exfalso; omega
    · exfalso; omega
    · exfalso; omega
    · exfalso; omega
  · rcases dy with ⟨e2, ev, ky, cr, ro, hk⟩ | ⟨e2, ev, ky, hy⟩ | ⟨e2, ev, ky, cr, ro, hk⟩ | ⟨e2, ev, ky, hy⟩ | ⟨e2, ev, ky, cr, ro, hk⟩ | ⟨e2, ev, ky, hy⟩ | ⟨e2, ev, hy⟩
    · exfalso; omega
    · exfalso; omega
    · exact ⟨rs_agn1 hR hY kx hx cp cr ro hk, by omega⟩
    · exfalso; omega
    · exfalso; omega
    · exfalso; omega
    · exfalso; omega
  · rcases dy with ⟨e2, ev, ky, cr, ro, hk⟩ | ⟨e2, ev, ky, hy⟩ | ⟨e2, ev, ky, cr, ro, hk⟩ | ⟨e2, ev, ky, hy⟩ | ⟨e2, ev, ky, cr, ro, hk⟩ | ⟨e2, ev, ky, hy⟩ | ⟨e2, ev, hy⟩
    · exfalso; omega
    · exfalso; omega
    · exfalso; omega
    · have hx : FR [] X X1 := by rw [hx]; exact FR.rf
      exact ⟨trl_fr hR hY hx hy rfl rfl rfl rfl rfl rfl rfl, by omega⟩
    · exfalso; omega
    · exfalso; omega
    · exfalso; omega
  · rcases dy with ⟨e2, ev, ky, cr, ro, hk⟩ | ⟨e2, ev, ky, hy⟩ | ⟨e2, ev, ky, cr, ro, hk⟩ | ⟨e2, ev, ky, hy⟩ | ⟨e2, ev, ky, cr, ro, hk⟩ | ⟨e2, ev, ky, hy⟩ | ⟨e2, ev, hy⟩
    · exfalso; omega
    · exfalso; omega
    · exfalso; omega
    · exfalso; omega
    · exact ⟨rs_agn2 hR hY kx hx cp cr ro hk, by omega⟩
    · exfalso; omega
    · exfalso; omega
  · rcases dy with ⟨e2, ev, ky, cr, ro, hk⟩ | ⟨e2, ev, ky, hy⟩ | ⟨e2, ev, ky, cr, ro, hk⟩ | ⟨e2, ev, ky, hy⟩ | ⟨e2, ev, ky, cr, ro, hk⟩ | ⟨e2, ev, ky, hy⟩ | ⟨e2, ev, hy⟩
    · exfalso; omega
    · exfalso; omega
    · exfalso; omega
    · exfalso; omega
    · exfalso; omega
    · have hx : FR [] X X1 := by rw [hx]; exact FR.rf
      exact ⟨trl_fr hR hY hx hy rfl rfl rfl rfl rfl rfl rfl, by omega⟩
    · exfalso; omega
  · rcases dy with ⟨e2, ev, ky, cr, ro, hk⟩ | ⟨e2, ev, ky, hy⟩ | ⟨e2, ev, ky, cr, ro, hk⟩ | ⟨e2, ev, ky, hy⟩ | ⟨e2, ev, ky, cr, ro, hk⟩ | ⟨e2, ev, ky, hy⟩ | ⟨e2, ev, hy⟩
    · exfalso; omega
    · exfalso; omega
    · exfalso; omega
    · exfalso; omega
    · exfalso; omega
    · exfalso; omega
    · have hx : FR [] X X1 := by rw [hx]; exact FR.rf
      exact ⟨trl_fr hR hY hx hy rfl rfl rfl rfl rfl rfl rfl, by omega⟩
