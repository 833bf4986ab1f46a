/-! ===== steps ===== -/
theorem trl_im3 {X Y X1 Y1 : XT} (h : TRL X Y) (hY : HG vM Y) (h0 : SLR sd0 0 X1 Y1) (s1 : CPS sd1 sd1 X X1) (s2 : CPS sd2 sd2 X X1) (s3 : CPS sd3 sd3 X X1) (e : ∀ j, X1.1 20 j = X.1 20 j) (r1 : CPR 1 1 Y Y1) (r2 : CPR 2 2 Y Y1) (r3 : CPR 3 3 Y Y1) (hk : ∀ j, Y1.1 48 j = Y.1 48 j) : TRL X1 Y1 := by
  refine ⟨h0, fun q => ?_, fun q => ?_, fun q => ?_, by rw [e, hk]; exact h.2.2.2.2.1, by rw [e, hk]; exact h.2.2.2.2.2.1, by rw [e, hk]; exact h.2.2.2.2.2.2⟩
  · rw [e] at q
    exact slr_cp (h.2.1 q) s1 r1 (sz6 hY (by omega)).2
  · rw [e] at q
    exact slr_cp (h.2.2.1 q) s2 r2 (sz6 hY (by omega)).2
  · rw [e] at q
    exact slr_cp (h.2.2.2.1 q) s3 r3 (sz6 hY (by omega)).2
theorem txp_im {b : Nat → Int} {N : Nat} {X X1 : XT} {st at_ u : Int} (t : TXP b N X X1 st at_ u) : CPS sd1 sd1 X X1 ∧ CPS sd2 sd2 X X1 ∧ CPS sd3 sd3 X X1 ∧ ∀ j, X1.1 20 j = X.1 20 j := by
  obtain ⟨-, t1⟩ := t
  rcases t1 with ⟨-, -, hF, -⟩ | ⟨-, -, ⟨-, -, hF⟩ | ⟨-, ⟨-, -, hF, -, -⟩ | ⟨-, -, hF, -, -⟩ | ⟨-, -, hF, -, -⟩ | ⟨-, -, hF, -, -⟩ | ⟨-, -, hF, -, -⟩ | ⟨-, -, hF, -, -⟩ | ⟨-, -, hF, -, -⟩⟩⟩
  · exact ⟨cps_fr1 hF rfl, cps_fr2 hF rfl, cps_fr3 hF rfl, fun j => (hF 20 j rfl).1⟩
  · exact ⟨cps_fr1 hF rfl, cps_fr2 hF rfl, cps_fr3 hF rfl, fun j => (hF 20 j rfl).1⟩
  · exact ⟨cps_fr1 hF rfl, cps_fr2 hF rfl, cps_fr3 hF rfl, fun j => (hF 20 j rfl).1⟩
  · exact ⟨cps_fr1 hF rfl, cps_fr2 hF rfl, cps_fr3 hF rfl, fun j => (hF 20 j rfl).1⟩
  · exact ⟨cps_fr1 hF rfl, cps_fr2 hF rfl, cps_fr3 hF rfl, fun j => (hF 20 j rfl).1⟩
  · exact ⟨cps_fr1 hF rfl, cps_fr2 hF rfl, cps_fr3 hF rfl, fun j => (hF 20 j rfl).1⟩
  · exact ⟨cps_fr1 hF rfl, cps_fr2 hF rfl, cps_fr3 hF rfl, fun j => (hF 20 j rfl).1⟩
  · exact ⟨cps_fr1 hF rfl, cps_fr2 hF rfl, cps_fr3 hF rfl, fun j => (hF 20 j rfl).1⟩
  · exact ⟨cps_fr1 hF rfl, cps_fr2 hF rfl, cps_fr3 hF rfl, fun j => (hF 20 j rfl).1⟩
theorem txm_im {b : Nat → Int} {N : Nat} {Y Y1 : XT} {st at_ v : Int} (t : TXM b N Y Y1 st at_ v) : CPR 1 1 Y Y1 ∧ CPR 2 2 Y Y1 ∧ CPR 3 3 Y Y1 ∧ ∀ j, Y1.1 48 j = Y.1 48 j := by
  obtain ⟨-, t1⟩ := t
  rcases t1 with ⟨-, -, hF, -⟩ | ⟨-, -, ⟨-, -, hF⟩ | ⟨-, m, -, -, ⟨-, hm, hF, kp, -⟩ | ⟨-, hm, hF, kp, -⟩ | ⟨-, hm, hF, kp, -⟩⟩⟩
  · exact ⟨⟨(hF 2 1 rfl).1, (hF 3 1 rfl).1, (hF 4 1 rfl).1, fun p _ => (hF 1 _ rfl).1, fun p hp => by rcases (show p = 0 ∨ p = 1 ∨ p = 2 by omega) with rfl | rfl | rfl <;> exact (hF 5 _ rfl).1, fun p _ => (hF 6 _ rfl).1, fun p _ => (hF 7 _ rfl).1, fun p _ => (hF 8 _ rfl).1⟩, ⟨(hF 2 2 rfl).1, (hF 3 2 rfl).1, (hF 4 2 rfl).1, fun p _ => (hF 1 _ rfl).1, fun p hp => by rcases (show p = 0 ∨ p = 1 ∨ p = 2 by omega) with rfl | rfl | rfl <;> exact (hF 5 _ rfl).1, fun p _ => (hF 6 _ rfl).1, fun p _ => (hF 7 _ rfl).1, fun p _ => (hF 8 _ rfl).1⟩, ⟨(hF 2 3 rfl).1, (hF 3 3 rfl).1, (hF 4 3 rfl).1, fun p _ => (hF 1 _ rfl).1, fun p hp => by rcases (show p = 0 ∨ p = 1 ∨ p = 2 by omega) with rfl | rfl | rfl <;> exact (hF 5 _ rfl).1, fun p _ => (hF 6 _ rfl).1, fun p _ => (hF 7 _ rfl).1, fun p _ => (hF 8 _ rfl).1⟩, fun j => (hF 48 j rfl).1⟩
  · exact ⟨⟨(hF 2 1 rfl).1, (hF 3 1 rfl).1, (hF 4 1 rfl).1, fun p _ => (hF 1 _ rfl).1, fun p hp => by rcases (show p = 0 ∨ p = 1 ∨ p = 2 by omega) with rfl | rfl | rfl <;> exact (hF 5 _ rfl).1, fun p _ => (hF 6 _ rfl).1, fun p _ => (hF 7 _ rfl).1, fun p _ => (hF 8 _ rfl).1⟩, ⟨(hF 2 2 rfl).1, (hF 3 2 rfl).1, (hF 4 2 rfl).1, fun p _ => (hF 1 _ rfl).1, fun p hp => by rcases (show p = 0 ∨ p = 1 ∨ p = 2 by omega) with rfl | rfl | rfl <;> exact (hF 5 _ rfl).1, fun p _ => (hF 6 _ rfl).1, fun p _ => (hF 7 _ rfl).1, fun p _ => (hF 8 _ rfl).1⟩, ⟨(hF 2 3 rfl).1, (hF 3 3 rfl).1, (hF 4 3 rfl).1, fun p _ => (hF 1 _ rfl).1, fun p hp => by rcases (show p = 0 ∨ p = 1 ∨ p = 2 by omega) with rfl | rfl | rfl <;> exact (hF 5 _ rfl).1, fun p _ => (hF 6 _ rfl).1, fun p _ => (hF 7 _ rfl).1, fun p _ => (hF 8 _ rfl).1⟩, fun j => (hF 48 j rfl).1⟩
  · exact ⟨⟨(hF 2 1 rfl).1, (hF 3 1 rfl).1, (hF 4 1 rfl).1, fun p _ => (hF 1 _ rfl).1, fun p hp => by rcases (show p = 0 ∨ p = 1 ∨ p = 2 by omega) with rfl | rfl | rfl <;> exact (hF 5 _ rfl).1, fun p hp => kp _ (by omega), fun p _ => (hF 7 _ rfl).1, fun p _ => (hF 8 _ rfl).1⟩, ⟨(hF 2 2 rfl).1, (hF 3 2 rfl).1, (hF 4 2 rfl).1, fun p _ => (hF 1 _ rfl).1, fun p hp => by rcases (show p = 0 ∨ p = 1 ∨ p = 2 by omega) with rfl | rfl | rfl <;> exact (hF 5 _ rfl).1, fun p hp => kp _ (by omega), fun p _ => (hF 7 _ rfl).1, fun p _ => (hF 8 _ rfl).1⟩, ⟨(hF 2 3 rfl).1, (hF 3 3 rfl).1, (hF 4 3 rfl).1, fun p _ => (hF 1 _ rfl).1, fun p hp => by rcases (show p = 0 ∨ p = 1 ∨ p = 2 by omega) with rfl | rfl | rfl <;> exact (hF 5 _ rfl).1, fun p hp => kp _ (by omega), fun p _ => (hF 7 _ rfl).1, fun p _ => (hF 8 _ rfl).1⟩, fun j => (hF 48 j rfl).1⟩
  · exact ⟨⟨(hF 2 1 rfl).1, (hF 3 1 rfl).1, (hF 4 1 rfl).1, fun p _ => (hF 1 _ rfl).1, fun p hp => by rcases (show p = 0 ∨ p = 1 ∨ p = 2 by omega) with rfl | rfl | rfl <;> exact (hF 5 _ rfl).1, fun p _ => (hF 6 _ rfl).1, fun p hp => kp _ (by omega), fun p _ => (hF 8 _ rfl).1⟩, ⟨(hF 2 2 rfl).1, (hF 3 2 rfl).1, (hF 4 2 rfl).1, fun p _ => (hF 1 _ rfl).1, fun p hp => by rcases (show p = 0 ∨ p = 1 ∨ p = 2 by omega) with rfl | rfl | rfl <;> exact (hF 5 _ rfl).1, fun p _ => (hF 6 _ rfl).1, fun p hp => kp _ (by omega), fun p _ => (hF 8 _ rfl).1⟩, ⟨(hF 2 3 rfl).1, (hF 3 3 rfl).1, (hF 4 3 rfl).1, fun p _ => (hF 1 _ rfl).1, fun p hp => by rcases (show p = 0 ∨ p = 1 ∨ p = 2 by omega) with rfl | rfl | rfl <;> exact (hF 5 _ rfl).1, fun p _ => (hF 6 _ rfl).1, fun p hp => kp _ (by omega), fun p _ => (hF 8 _ rfl).1⟩, fun j => (hF 48 j rfl).1⟩
  · exact ⟨⟨(hF 2 1 rfl).1, (hF 3 1 rfl).1, (hF 4 1 rfl).1, fun p _ => (hF 1 _ rfl).1, fun p hp => by rcases (show p = 0 ∨ p = 1 ∨ p = 2 by omega) with rfl | rfl | rfl <;> exact (hF 5 _ rfl).1, fun p _ => (hF 6 _ rfl).1, fun p _ => (hF 7 _ rfl).1, fun p hp => kp _ (by omega)⟩, ⟨(hF 2 2 rfl).1, (hF 3 2 rfl).1, (hF 4 2 rfl).1, fun p _ => (hF 1 _ rfl).1, fun p hp => by rcases (show p = 0 ∨ p = 1 ∨ p = 2 by omega) with rfl | rfl | rfl <;> exact (hF 5 _ rfl).1, fun p _ => (hF 6 _ rfl).1, fun p _ => (hF 7 _ rfl).1, fun p hp => kp _ (by omega)⟩, ⟨(hF 2 3 rfl).1, (hF 3 3 rfl).1, (hF 4 3 rfl).1, fun p _ => (hF 1 _ rfl).1, fun p hp => by rcases (show p = 0 ∨ p = 1 ∨ p = 2 by omega) with rfl | rfl | rfl <;> exact (hF 5 _ rfl).1, fun p _ => (hF 6 _ rfl).1, fun p _ => (hF 7 _ rfl).1, fun p hp => kp _ (by omega)⟩, fun j => (hF 48 j rfl).1⟩
theorem rs_text2 {b : Nat → Int} {N : Nat} {X Y X1 Y1 : XT} {st at_ u v : Int} (h : TRL X Y) (hY : HG vM Y) (tx : TXP b N X X1 st at_ u) (tm : TXM b N Y Y1 st at_ v) : TRL X1 Y1 ∧ u = v := by
  obtain ⟨s0, e⟩ := slr_text h.1 tx tm
  obtain ⟨s1, s2, s3, ek⟩ := txp_im tx
  obtain ⟨r1, r2, r3, hk⟩ := txm_im tm
  exact ⟨trl_im3 h hY s0 s1 s2 s3 ek r1 r2 r3 hk, e⟩
theorem slr_tpf {X Y X1 Y1 : XT} (h : SLR sd0 0 X Y) (hx : FR mdPF X X1) (hy : FR mmPT2 Y Y1) (b : X1.1 1 0 = Y1.1 2 0) (t : ∀ i : Nat, (i : Int) < Y1.1 2 0 → X1.1 2 i = Y1.1 1 (600 * 0 + i) % 256) : SLR sd0 0 X1 Y1 := by
  obtain ⟨-, h1, h2, -, h4, h5, h6, h7, h8, h9⟩ := h
  refine ⟨b, by rw [show X1.1 sd0.1 1 = X.1 1 1 from (hx 1 1 rfl).1, (hy 3 0 rfl).1]; exact h1, by rw [show X1.1 sd0.1 2 = X.1 1 2 from (hx 1 2 rfl).1, (hy 4 0 rfl).1]; exact h2, t, fun j hj => by rw [show X1.1 sd0.2.2.1 j = X.1 3 j from (hx 3 j rfl).1, (hy 5 _ rfl).1]; exact h4 j hj, fun k hk hc => ?_, fun hc => ?_, fun hc => ?_, fun hc => ?_, fun hc => ?_⟩
  · rw [(hy 5 _ rfl).1] at hc
    rw [show X1.2.1 sd0.2.2.2.1 k = X.2.1 5 k from (hx 5 k rfl).2.1]
    exact (h5 k hk hc).cg (fun i _ => (hy 7 _ rfl).1)
  · rw [(hy 5 _ rfl).1] at hc
    exact bb_cp (h6 hc) (cpb_fr hx (fun _ => ⟨rfl, rfl, rfl⟩)) (fun i _ => (hy 6 _ rfl).1)
  · rw [(hy 5 _ rfl).1] at hc
    exact bb_cp (h7 hc) (cpb_fr hx (fun _ => ⟨rfl, rfl, rfl⟩)) (fun i _ => (hy 6 _ rfl).1)
  · rw [(hy 5 _ rfl).1] at hc
    exact gb_cp (h8 hc) (cpg_fr hx (fun _ => ⟨rfl, rfl, rfl⟩)) (fun i _ => (hy 8 _ rfl).1)
  · rw [(hy 5 _ rfl).1] at hc
    exact gb_cp (h9 hc) (cpg_fr hx (fun _ => ⟨rfl, rfl, rfl⟩)) (fun i _ => (hy 8 _ rfl).1)
theorem slr_tpe {X Y X1 Y1 : XT} (h : SLR sd0 0 X Y) (hx : FR mdEN X X1) (hy : FR mmEN Y Y1) (b : X1.1 1 0 = Y1.1 2 0) (t : ∀ i : Nat, (i : Int) < Y1.1 2 0 → X1.1 2 i = Y1.1 1 (600 * 0 + i) % 256) : SLR sd0 0 X1 Y1 := by
  obtain ⟨-, h1, h2, -, h4, h5, h6, h7, h8, h9⟩ := h
  refine ⟨b, by rw [show X1.1 sd0.1 1 = X.1 1 1 from (hx 1 1 rfl).1, (hy 3 0 rfl).1]; exact h1, by rw [show X1.1 sd0.1 2 = X.1 1 2 from (hx 1 2 rfl).1, (hy 4 0 rfl).1]; exact h2, t, fun j hj => by rw [show X1.1 sd0.2.2.1 j = X.1 3 j from (hx 3 j rfl).1, (hy 5 _ rfl).1]; exact h4 j hj, fun k hk hc => ?_, fun hc => ?_, fun hc => ?_, fun hc => ?_, fun hc => ?_⟩
  · rw [(hy 5 _ rfl).1] at hc
    rw [show X1.2.1 sd0.2.2.2.1 k = X.2.1 5 k from (hx 5 k rfl).2.1]
    exact (h5 k hk hc).cg (fun i _ => (hy 7 _ rfl).1)
  · rw [(hy 5 _ rfl).1] at hc
    exact bb_cp (h6 hc) (cpb_fr hx (fun _ => ⟨rfl, rfl, rfl⟩)) (fun i _ => (hy 6 _ rfl).1)
  · rw [(hy 5 _ rfl).1] at hc
    exact bb_cp (h7 hc) (cpb_fr hx (fun _ => ⟨rfl, rfl, rfl⟩)) (fun i _ => (hy 6 _ rfl).1)
  · rw [(hy 5 _ rfl).1] at hc
    exact gb_cp (h8 hc) (cpg_fr hx (fun _ => ⟨rfl, rfl, rfl⟩)) (fun i _ => (hy 8 _ rfl).1)
  · rw [(hy 5 _ rfl).1] at hc
    exact gb_cp (h9 hc) (cpg_fr hx (fun _ => ⟨rfl, rfl, rfl⟩)) (fun i _ => (hy 8 _ rfl).1)
theorem rs_end2 {X Y X1 Y1 : XT} {u v n : Int} (h : TRL X Y) (hY : HG vM Y) (hx : FR mdEN X X1) (hy : FR mmEN Y Y1) (dx : (0 ≤ n ∧ n ≤ X.1 1 0 ∧ u = n ∧ X1.1 1 0 = n) ∨ (¬ (0 ≤ n ∧ n ≤ X.1 1 0) ∧ u = -1 ∧ X1.1 1 0 = X.1 1 0)) (dy : (0 ≤ n ∧ n ≤ Y.1 2 0 ∧ v = n ∧ Y1.1 2 0 = n) ∨ (¬ (0 ≤ n ∧ n ≤ Y.1 2 0) ∧ v = -1 ∧ Y1.1 2 0 = Y.1 2 0)) : TRL X1 Y1 ∧ u = v := by
  have h00 : X.1 1 0 = Y.1 2 0 := h.1.1
  have le : Y1.1 2 0 ≤ Y.1 2 0 := by omega
  refine ⟨trl_im3 h hY (slr_tpe h.1 hx hy (by omega) (fun i hi => ?_)) (cps_fr1 hx rfl) (cps_fr2 hx rfl) (cps_fr3 hx rfl) (fun j => (hx 20 j rfl).1) ⟨(hy 2 1 rfl).1, (hy 3 1 rfl).1, (hy 4 1 rfl).1, fun p _ => (hy 1 _ rfl).1, fun p hp => by rcases (show p = 0 ∨ p = 1 ∨ p = 2 by omega) with rfl | rfl | rfl <;> exact (hy 5 _ rfl).1, fun p _ => (hy 6 _ rfl).1, fun p _ => (hy 7 _ rfl).1, fun p _ => (hy 8 _ rfl).1⟩ ⟨(hy 2 2 rfl).1, (hy 3 2 rfl).1, (hy 4 2 rfl).1, fun p _ => (hy 1 _ rfl).1, fun p hp => by rcases (show p = 0 ∨ p = 1 ∨ p = 2 by omega) with rfl | rfl | rfl <;> exact (hy 5 _ rfl).1, fun p _ => (hy 6 _ rfl).1, fun p _ => (hy 7 _ rfl).1, fun p _ => (hy 8 _ rfl).1⟩ ⟨(hy 2 3 rfl).1, (hy 3 3 rfl).1, (hy 4 3 rfl).1, fun p _ => (hy 1 _ rfl).1, fun p hp => by rcases (show p = 0 ∨ p = 1 ∨ p = 2 by omega) with rfl | rfl | rfl <;> exact (hy 5 _ rfl).1, fun p _ => (hy 6 _ rfl).1, fun p _ => (hy 7 _ rfl).1, fun p _ => (hy 8 _ rfl).1⟩ (fun j => (hy 48 j rfl).1), by omega⟩
  rw [(hx 2 _ rfl).1, (hy 1 _ rfl).1]
  exact h.1.2.2.2.1 i (by omega)
theorem rs_feed2 {X Y X1 Y1 : XT} {u v z1 z2 z3 z4 z5 : Int} {l : Nat} (h : TRL X Y) (hY : HG vM Y) (hx : FR mdPF X X1) (hy : FR mmPT2 Y Y1) (hl : X.1 1 0 = (l : Int)) (dx : (581 ≤ X.1 1 0 ∧ u = -1 ∧ X1.1 1 0 = X.1 1 0 ∧ ∀ i : Nat, X1.1 2 i = X.1 2 i) ∨ ((l : Int) ≤ 580 ∧ u = (l : Int) + 20 ∧ X1.1 1 0 = (l : Int) + 20 ∧ (∀ i : Nat, i < l ∨ 600 ≤ i → X1.1 2 i = X.1 2 i) ∧ (∀ t : Nat, t < 4 → X1.1 2 (l + 0 + t) = byF z1 t) ∧ (∀ t : Nat, t < 4 → X1.1 2 (l + 4 + t) = byF z2 t) ∧ (∀ t : Nat, t < 4 → X1.1 2 (l + 8 + t) = byF z3 t) ∧ (∀ t : Nat, t < 4 → X1.1 2 (l + 12 + t) = byF z4 t) ∧ (∀ t : Nat, t < 4 → X1.1 2 (l + 16 + t) = byF z5 t))) (dy : (581 ≤ Y.1 2 0 ∧ v = -1 ∧ Y1.1 2 0 = Y.1 2 0 ∧ ∀ i : Nat, Y1.1 1 i = Y.1 1 i) ∨ ((l : Int) ≤ 580 ∧ v = (l : Int) + 20 ∧ Y1.1 2 0 = (l : Int) + 20 ∧ (∀ i : Nat, i < l ∨ 600 ≤ i → Y1.1 1 i = Y.1 1 i) ∧ (∀ t : Nat, t < 4 → Y1.1 1 (l + 0 + t) % 256 = byF z1 t) ∧ (∀ t : Nat, t < 4 → Y1.1 1 (l + 4 + t) % 256 = byF z2 t) ∧ (∀ t : Nat, t < 4 → Y1.1 1 (l + 8 + t) % 256 = byF z3 t) ∧ (∀ t : Nat, t < 4 → Y1.1 1 (l + 12 + t) % 256 = byF z4 t) ∧ (∀ t : Nat, t < 4 → Y1.1 1 (l + 16 + t) % 256 = byF z5 t))) : TRL X1 Y1 ∧ u = v := by
  have h00 : X.1 1 0 = Y.1 2 0 := h.1.1
  have s1 := cps_fr1 hx rfl
  have s2 := cps_fr2 hx rfl
  have s3 := cps_fr3 hx rfl
  rcases dx with ⟨a0, a1, a2, a3⟩ | ⟨a0, a1, a2, a3, x0, x1, x2, x3, x4⟩
  · rcases dy with ⟨c0, c1, c2, c3⟩ | ⟨c0, c1, c2, c3, -⟩
    · refine ⟨trl_im3 h hY (slr_tpf h.1 hx hy (by omega) (fun i hi => ?_)) s1 s2 s3 (fun j => (hx 20 j rfl).1) ⟨(hy 2 1 rfl).1, (hy 3 1 rfl).1, (hy 4 1 rfl).1, fun p _ => c3 _, fun p hp => by rcases (show p = 0 ∨ p = 1 ∨ p = 2 by omega) with rfl | rfl | rfl <;> exact (hy 5 _ rfl).1, fun p _ => (hy 6 _ rfl).1, fun p _ => (hy 7 _ rfl).1, fun p _ => (hy 8 _ rfl).1⟩ ⟨(hy 2 2 rfl).1, (hy 3 2 rfl).1, (hy 4 2 rfl).1, fun p _ => c3 _, fun p hp => by rcases (show p = 0 ∨ p = 1 ∨ p = 2 by omega) with rfl | rfl | rfl <;> exact (hy 5 _ rfl).1, fun p _ => (hy 6 _ rfl).1, fun p _ => (hy 7 _ rfl).1, fun p _ => (hy 8 _ rfl).1⟩ ⟨(hy 2 3 rfl).1, (hy 3 3 rfl).1, (hy 4 3 rfl).1, fun p _ => c3 _, fun p hp => by rcases (show p = 0 ∨ p = 1 ∨ p = 2 by omega) with rfl | rfl | rfl <;> exact (hy 5 _ rfl).1, fun p _ => (hy 6 _ rfl).1, fun p _ => (hy 7 _ rfl).1, fun p _ => (hy 8 _ rfl).1⟩ (fun j => (hy 48 j rfl).1), by omega⟩
      rw [a3, c3]
      exact h.1.2.2.2.1 i (by omega)
    · exfalso
      omega
  · rcases dy with ⟨c0, c1, c2, c3⟩ | ⟨c0, c1, c2, c3, y0, y1, y2, y3, y4⟩
    · exfalso
      omega
    refine ⟨trl_im3 h hY (slr_tpf h.1 hx hy (by omega) (fun i hi => ?_)) s1 s2 s3 (fun j => (hx 20 j rfl).1) ⟨(hy 2 1 rfl).1, (hy 3 1 rfl).1, (hy 4 1 rfl).1, fun p _ => c3 _ (.inr (by omega)), fun p hp => by rcases (show p = 0 ∨ p = 1 ∨ p = 2 by omega) with rfl | rfl | rfl <;> exact (hy 5 _ rfl).1, fun p _ => (hy 6 _ rfl).1, fun p _ => (hy 7 _ rfl).1, fun p _ => (hy 8 _ rfl).1⟩ ⟨(hy 2 2 rfl).1, (hy 3 2 rfl).1, (hy 4 2 rfl).1, fun p _ => c3 _ (.inr (by omega)), fun p hp => by rcases (show p = 0 ∨ p = 1 ∨ p = 2 by omega) with rfl | rfl | rfl <;> exact (hy 5 _ rfl).1, fun p _ => (hy 6 _ rfl).1, fun p _ => (hy 7 _ rfl).1, fun p _ => (hy 8 _ rfl).1⟩ ⟨(hy 2 3 rfl).1, (hy 3 3 rfl).1, (hy 4 3 rfl).1, fun p _ => c3 _ (.inr (by omega)), fun p hp => by rcases (show p = 0 ∨ p = 1 ∨ p = 2 by omega) with rfl | rfl | rfl <;> exact (hy 5 _ rfl).1, fun p _ => (hy 6 _ rfl).1, fun p _ => (hy 7 _ rfl).1, fun p _ => (hy 8 _ rfl).1⟩ (fun j => (hy 48 j rfl).1), by omega⟩
    rcases (show i < l ∨ (l + 0 ≤ i ∧ i < l + 4) ∨ (l + 4 ≤ i ∧ i < l + 8) ∨ (l + 8 ≤ i ∧ i < l + 12) ∨ (l + 12 ≤ i ∧ i < l + 16) ∨ (l + 16 ≤ i ∧ i < l + 20) by omega) with q | q | q | q | q | q
    · rw [a3 i (.inl q), c3 (600 * 0 + i) (.inl (by omega))]
      exact h.1.2.2.2.1 i (by omega)
    · obtain ⟨t, rfl⟩ : ∃ t, i = l + 0 + t := ⟨i - l - 0, by omega⟩
      rw [show 600 * 0 + (l + 0 + t) = l + 0 + t by omega, x0 t (by omega), y0 t (by omega)]
    · obtain ⟨t, rfl⟩ : ∃ t, i = l + 4 + t := ⟨i - l - 4, by omega⟩
      rw [show 600 * 0 + (l + 4 + t) = l + 4 + t by omega, x1 t (by omega), y1 t (by omega)]
    · obtain ⟨t, rfl⟩ : ∃ t, i = l + 8 + t := ⟨i - l - 8, by omega⟩
      rw [show 600 * 0 + (l + 8 + t) = l + 8 + t by omega, x2 t (by omega), y2 t (by omega)]
    · obtain ⟨t, rfl⟩ : ∃ t, i = l + 12 + t := ⟨i - l - 12, by omega⟩
      rw [show 600 * 0 + (l + 12 + t) = l + 12 + t by omega, x3 t (by omega), y3 t (by omega)]
    · obtain ⟨t, rfl⟩ : ∃ t, i = l + 16 + t := ⟨i - l - 16, by omega⟩
      rw [show 600 * 0 + (l + 16 + t) = l + 16 + t by omega, x4 t (by omega), y4 t (by omega)]
theorem menok_c01 {X X1 : XT} (h : MENOK X) (hH : HG vX X) (cp : CPS sd0 sd1 X X1) (hF : FR mdIa0 X X1) : MENOK X1 := by
  obtain ⟨-, -, -, -, q0, q1, -, -⟩ := cp
  intro q hq j hj
  simp only [tb8, List.mem_cons, List.not_mem_nil, or_false] at hq
  rcases hq with rfl | rfl | rfl | rfl | rfl | rfl | rfl | rfl
  · have hj : (j : Int) < X1.1 7 4 := hj
    rw [show X1.1 7 4 = X.1 110 4 from q0.2.2.2.2.1] at hj
    have m6 : (0 : Int) ≤ X.1 110 4 ∧ X.1 110 4 ≤ 6 := hH.rF (k := 110) (i := 4) (p := (0, 6)) rfl rfl
    show 0 ≤ X1.1 9 j ∧ X1.1 9 j ≤ 35
    rw [show X1.1 9 j = X.1 112 j from (q0.2.2.2.2.2 j (by omega)).2]
    exact h (110, 112) (by decide) j hj
  · have hj : (j : Int) < X1.1 10 4 := hj
    rw [show X1.1 10 4 = X.1 113 4 from q1.2.2.2.2.1] at hj
    have m6 : (0 : Int) ≤ X.1 113 4 ∧ X.1 113 4 ≤ 6 := hH.rF (k := 113) (i := 4) (p := (0, 6)) rfl rfl
    show 0 ≤ X1.1 12 j ∧ X1.1 12 j ≤ 35
    rw [show X1.1 12 j = X.1 115 j from (q1.2.2.2.2.2 j (by omega)).2]
    exact h (113, 115) (by decide) j hj
  · have hj : (j : Int) < X1.1 110 4 := hj
    rw [(hF 110 4 rfl).1] at hj
    show 0 ≤ X1.1 112 j ∧ X1.1 112 j ≤ 35
    rw [(hF 112 j rfl).1]
    exact h (110, 112) (by decide) j hj
  · have hj : (j : Int) < X1.1 113 4 := hj
    rw [(hF 113 4 rfl).1] at hj
    show 0 ≤ X1.1 115 j ∧ X1.1 115 j ≤ 35
    rw [(hF 115 j rfl).1]
    exact h (113, 115) (by decide) j hj
  · have hj : (j : Int) < X1.1 128 4 := hj
    rw [(hF 128 4 rfl).1] at hj
    show 0 ≤ X1.1 130 j ∧ X1.1 130 j ≤ 35
    rw [(hF 130 j rfl).1]
    exact h (128, 130) (by decide) j hj
  · have hj : (j : Int) < X1.1 131 4 := hj
    rw [(hF 131 4 rfl).1] at hj
    show 0 ≤ X1.1 133 j ∧ X1.1 133 j ≤ 35
    rw [(hF 133 j rfl).1]
    exact h (131, 133) (by decide) j hj
  · have hj : (j : Int) < X1.1 146 4 := hj
    rw [(hF 146 4 rfl).1] at hj
    show 0 ≤ X1.1 148 j ∧ X1.1 148 j ≤ 35
    rw [(hF 148 j rfl).1]
    exact h (146, 148) (by decide) j hj
  · have hj : (j : Int) < X1.1 149 4 := hj
    rw [(hF 149 4 rfl).1] at hj
    show 0 ≤ X1.1 151 j ∧ X1.1 151 j ≤ 35
    rw [(hF 151 j rfl).1]
    exact h (149, 151) (by decide) j hj
theorem menok_c02 {X X1 : XT} (h : MENOK X) (hH : HG vX X) (cp : CPS sd0 sd2 X X1) (hF : FR mdIa1 X X1) : MENOK X1 := by
  obtain ⟨-, -, -, -, q0, q1, -, -⟩ := cp
  intro q hq j hj
  simp only [tb8, List.mem_cons, List.not_mem_nil, or_false] at hq
  rcases hq with rfl | rfl | rfl | rfl | rfl | rfl | rfl | rfl
  · have hj : (j : Int) < X1.1 7 4 := hj
    rw [show X1.1 7 4 = X.1 128 4 from q0.2.2.2.2.1] at hj
    have m6 : (0 : Int) ≤ X.1 128 4 ∧ X.1 128 4 ≤ 6 := hH.rF (k := 128) (i := 4) (p := (0, 6)) rfl rfl
    show 0 ≤ X1.1 9 j ∧ X1.1 9 j ≤ 35
    rw [show X1.1 9 j = X.1 130 j from (q0.2.2.2.2.2 j (by omega)).2]
    exact h (128, 130) (by decide) j hj
  · have hj : (j : Int) < X1.1 10 4 := hj
    rw [show X1.1 10 4 = X.1 131 4 from q1.2.2.2.2.1] at hj
    have m6 : (0 : Int) ≤ X.1 131 4 ∧ X.1 131 4 ≤ 6 := hH.rF (k := 131) (i := 4) (p := (0, 6)) rfl rfl
    show 0 ≤ X1.1 12 j ∧ X1.1 12 j ≤ 35
    rw [show X1.1 12 j = X.1 133 j from (q1.2.2.2.2.2 j (by omega)).2]
    exact h (131, 133) (by decide) j hj
  · have hj : (j : Int) < X1.1 110 4 := hj
    rw [(hF 110 4 rfl).1] at hj
    show 0 ≤ X1.1 112 j ∧ X1.1 112 j ≤ 35
    rw [(hF 112 j rfl).1]
    exact h (110, 112) (by decide) j hj
  · have hj : (j : Int) < X1.1 113 4 := hj
    rw [(hF 113 4 rfl).1] at hj
    show 0 ≤ X1.1 115 j ∧ X1.1 115 j ≤ 35
    rw [(hF 115 j rfl).1]
    exact h (113, 115) (by decide) j hj
  · have hj : (j : Int) < X1.1 128 4 := hj
    rw [(hF 128 4 rfl).1] at hj
    show 0 ≤ X1.1 130 j ∧ X1.1 130 j ≤ 35
    rw [(hF 130 j rfl).1]
    exact h (128, 130) (by decide) j hj
  · have hj : (j : Int) < X1.1 131 4 := hj
    rw [(hF 131 4 rfl).1] at hj
    show 0 ≤ X1.1 133 j ∧ X1.1 133 j ≤ 35
    rw [(hF 133 j rfl).1]
    exact h (131, 133) (by decide) j hj
  · have hj : (j : Int) < X1.1 146 4 := hj
    rw [(hF 146 4 rfl).1] at hj
    show 0 ≤ X1.1 148 j ∧ X1.1 148 j ≤ 35
    rw [(hF 148 j rfl).1]
    exact h (146, 148) (by decide) j hj
  · have hj : (j : Int) < X1.1 149 4 := hj
    rw [(hF 149 4 rfl).1] at hj
    show 0 ≤ X1.1 151 j ∧ X1.1 151 j ≤ 35
    rw [(hF 151 j rfl).1]
    exact h (149, 151) (by decide) j hj
theorem menok_c03 {X X1 : XT} (h : MENOK X) (hH : HG vX X) (cp : CPS sd0 sd3 X X1) (hF : FR mdIa2 X X1) : MENOK X1 := by
  obtain ⟨-, -, -, -, q0, q1, -, -⟩ := cp
  intro q hq j hj
  simp only [tb8, List.mem_cons, List.not_mem_nil, or_false] at hq
  rcases hq with rfl | rfl | rfl | rfl | rfl | rfl | rfl | rfl
  · have hj : (j : Int) < X1.1 7 4 := hj
    rw [show X1.1 7 4 = X.1 146 4 from q0.2.2.2.2.1] at hj
    have m6 : (0 : Int) ≤ X.1 146 4 ∧ X.1 146 4 ≤ 6 := hH.rF (k := 146) (i := 4) (p := (0, 6)) rfl rfl
    show 0 ≤ X1.1 9 j ∧ X1.1 9 j ≤ 35
    rw [show X1.1 9 j = X.1 148 j from (q0.2.2.2.2.2 j (by omega)).2]
    exact h (146, 148) (by decide) j hj
  · have hj : (j : Int) < X1.1 10 4 := hj
    rw [show X1.1 10 4 = X.1 149 4 from q1.2.2.2.2.1] at hj
    have m6 : (0 : Int) ≤ X.1 149 4 ∧ X.1 149 4 ≤ 6 := hH.rF (k := 149) (i := 4) (p := (0, 6)) rfl rfl
    show 0 ≤ X1.1 12 j ∧ X1.1 12 j ≤ 35
    rw [show X1.1 12 j = X.1 151 j from (q1.2.2.2.2.2 j (by omega)).2]
    exact h (149, 151) (by decide) j hj
  · have hj : (j : Int) < X1.1 110 4 := hj
    rw [(hF 110 4 rfl).1] at hj
    show 0 ≤ X1.1 112 j ∧ X1.1 112 j ≤ 35
    rw [(hF 112 j rfl).1]
    exact h (110, 112) (by decide) j hj
  · have hj : (j : Int) < X1.1 113 4 := hj
    rw [(hF 113 4 rfl).1] at hj
    show 0 ≤ X1.1 115 j ∧ X1.1 115 j ≤ 35
    rw [(hF 115 j rfl).1]
    exact h (113, 115) (by decide) j hj
  · have hj : (j : Int) < X1.1 128 4 := hj
    rw [(hF 128 4 rfl).1] at hj
    show 0 ≤ X1.1 130 j ∧ X1.1 130 j ≤ 35
    rw [(hF 130 j rfl).1]
    exact h (128, 130) (by decide) j hj
  · have hj : (j : Int) < X1.1 131 4 := hj
    rw [(hF 131 4 rfl).1] at hj
    show 0 ≤ X1.1 133 j ∧ X1.1 133 j ≤ 35
    rw [(hF 133 j rfl).1]
    exact h (131, 133) (by decide) j hj
  · have hj : (j : Int) < X1.1 146 4 := hj
    rw [(hF 146 4 rfl).1] at hj
    show 0 ≤ X1.1 148 j ∧ X1.1 148 j ≤ 35
    rw [(hF 148 j rfl).1]
    exact h (146, 148) (by decide) j hj
  · have hj : (j : Int) < X1.1 149 4 := hj
    rw [(hF 149 4 rfl).1] at hj
    show 0 ≤ X1.1 151 j ∧ X1.1 151 j ≤ 35
    rw [(hF 151 j rfl).1]
    exact h (149, 151) (by decide) j hj
theorem menok_c10 {X X1 : XT} (h : MENOK X) (hH : HG vX X) (cp : CPS sd1 sd0 X X1) (hF : FR mdIi0 X X1) : MENOK X1 := by
  obtain ⟨-, -, -, -, q0, q1, -, -⟩ := cp
  intro q hq j hj
  simp only [tb8, List.mem_cons, List.not_mem_nil, or_false] at hq
  rcases hq with rfl | rfl | rfl | rfl | rfl | rfl | rfl | rfl
  · have hj : (j : Int) < X1.1 7 4 := hj
    rw [(hF 7 4 rfl).1] at hj
    show 0 ≤ X1.1 9 j ∧ X1.1 9 j ≤ 35
    rw [(hF 9 j rfl).1]
    exact h (7, 9) (by decide) j hj
  · have hj : (j : Int) < X1.1 10 4 := hj
    rw [(hF 10 4 rfl).1] at hj
    show 0 ≤ X1.1 12 j ∧ X1.1 12 j ≤ 35
    rw [(hF 12 j rfl).1]
    exact h (10, 12) (by decide) j hj
  · have hj : (j : Int) < X1.1 110 4 := hj
    rw [show X1.1 110 4 = X.1 7 4 from q0.2.2.2.2.1] at hj
    have m6 : (0 : Int) ≤ X.1 7 4 ∧ X.1 7 4 ≤ 6 := hH.rF (k := 7) (i := 4) (p := (0, 6)) rfl rfl
    show 0 ≤ X1.1 112 j ∧ X1.1 112 j ≤ 35
    rw [show X1.1 112 j = X.1 9 j from (q0.2.2.2.2.2 j (by omega)).2]
    exact h (7, 9) (by decide) j hj
  · have hj : (j : Int) < X1.1 113 4 := hj
    rw [show X1.1 113 4 = X.1 10 4 from q1.2.2.2.2.1] at hj
    have m6 : (0 : Int) ≤ X.1 10 4 ∧ X.1 10 4 ≤ 6 := hH.rF (k := 10) (i := 4) (p := (0, 6)) rfl rfl
    show 0 ≤ X1.1 115 j ∧ X1.1 115 j ≤ 35
    rw [show X1.1 115 j = X.1 12 j from (q1.2.2.2.2.2 j (by omega)).2]
    exact h (10, 12) (by decide) j hj
  · have hj : (j : Int) < X1.1 128 4 := hj
    rw [(hF 128 4 rfl).1] at hj
    show 0 ≤ X1.1 130 j ∧ X1.1 130 j ≤ 35
    rw [(hF 130 j rfl).1]
    exact h (128, 130) (by decide) j hj
  · have hj : (j : Int) < X1.1 131 4 := hj
    rw [(hF 131 4 rfl).1] at hj
    show 0 ≤ X1.1 133 j ∧ X1.1 133 j ≤ 35
    rw [(hF 133 j rfl).1]
    exact h (131, 133) (by decide) j hj
  · have hj : (j : Int) < X1.1 146 4 := hj
    rw [(hF 146 4 rfl).1] at hj
    show 0 ≤ X1.1 148 j ∧ X1.1 148 j ≤ 35
    rw [(hF 148 j rfl).1]
    exact h (146, 148) (by decide) j hj
  · have hj : (j : Int) < X1.1 149 4 := hj
    rw [(hF 149 4 rfl).1] at hj
    show 0 ≤ X1.1 151 j ∧ X1.1 151 j ≤ 35
    rw [(hF 151 j rfl).1]
    exact h (149, 151) (by decide) j hj
theorem menok_c20 {X X1 : XT} (h : MENOK X) (hH : HG vX X) (cp : CPS sd2 sd0 X X1) (hF : FR mdIi1 X X1) : MENOK X1 := by
  obtain ⟨-, -, -, -, q0, q1, -, -⟩ := cp
  intro q hq j hj
  simp only [tb8, List.mem_cons, List.not_mem_nil, or_false] at hq
  rcases hq with rfl | rfl | rfl | rfl | rfl | rfl | rfl | rfl
  · have hj : (j : Int) < X1.1 7 4 := hj
    rw [(hF 7 4 rfl).1] at hj
    show 0 ≤ X1.1 9 j ∧ X1.1 9 j ≤ 35
    rw [(hF 9 j rfl).1]
    exact h (7, 9) (by decide) j hj
  · have hj : (j : Int) < X1.1 10 4 := hj
    rw [(hF 10 4 rfl).1] at hj
    show 0 ≤ X1.1 12 j ∧ X1.1 12 j ≤ 35
    rw [(hF 12 j rfl).1]
    exact h (10, 12) (by decide) j hj
  · have hj : (j : Int) < X1.1 110 4 := hj
    rw [(hF 110 4 rfl).1] at hj
    show 0 ≤ X1.1 112 j ∧ X1.1 112 j ≤ 35
    rw [(hF 112 j rfl).1]
    exact h (110, 112) (by decide) j hj
  · have hj : (j : Int) < X1.1 113 4 := hj
    rw [(hF 113 4 rfl).1] at hj
    show 0 ≤ X1.1 115 j ∧ X1.1 115 j ≤ 35
    rw [(hF 115 j rfl).1]
    exact h (113, 115) (by decide) j hj
  · have hj : (j : Int) < X1.1 128 4 := hj
    rw [show X1.1 128 4 = X.1 7 4 from q0.2.2.2.2.1] at hj
    have m6 : (0 : Int) ≤ X.1 7 4 ∧ X.1 7 4 ≤ 6 := hH.rF (k := 7) (i := 4) (p := (0, 6)) rfl rfl
    show 0 ≤ X1.1 130 j ∧ X1.1 130 j ≤ 35
    rw [show X1.1 130 j = X.1 9 j from (q0.2.2.2.2.2 j (by omega)).2]
    exact h (7, 9) (by decide) j hj
  · have hj : (j : Int) < X1.1 131 4 := hj
    rw [show X1.1 131 4 = X.1 10 4 from q1.2.2.2.2.1] at hj
    have m6 : (0 : Int) ≤ X.1 10 4 ∧ X.1 10 4 ≤ 6 := hH.rF (k := 10) (i := 4) (p := (0, 6)) rfl rfl
    show 0 ≤ X1.1 133 j ∧ X1.1 133 j ≤ 35
    rw [show X1.1 133 j = X.1 12 j from (q1.2.2.2.2.2 j (by omega)).2]
    exact h (10, 12) (by decide) j hj
  · have hj : (j : Int) < X1.1 146 4 := hj
    rw [(hF 146 4 rfl).1] at hj
    show 0 ≤ X1.1 148 j ∧ X1.1 148 j ≤ 35
    rw [(hF 148 j rfl).1]
    exact h (146, 148) (by decide) j hj
  · have hj : (j : Int) < X1.1 149 4 := hj
    rw [(hF 149 4 rfl).1] at hj
    show 0 ≤ X1.1 151 j ∧ X1.1 151 j ≤ 35
    rw [(hF 151 j rfl).1]
    exact h (149, 151) (by decide) j hj
theorem menok_c30 {X X1 : XT} (h : MENOK X) (hH : HG vX X) (cp : CPS sd3 sd0 X X1) (hF : FR mdIi2 X X1) : MENOK X1 := by
  obtain ⟨-, -, -, -, q0, q1, -, -⟩ := cp
  intro q hq j hj
  simp only [tb8, List.mem_cons, List.not_mem_nil, or_false] at hq
  rcases hq with rfl | rfl | rfl | rfl | rfl | rfl | rfl | rfl
  · have hj : (j : Int) < X1.1 7 4 := hj
    rw [(hF 7 4 rfl).1] at hj
    show 0 ≤ X1.1 9 j ∧ X1.1 9 j ≤ 35
    rw [(hF 9 j rfl).1]
    exact h (7, 9) (by decide) j hj
  · have hj : (j : Int) < X1.1 10 4 := hj
    rw [(hF 10 4 rfl).1] at hj
    show 0 ≤ X1.1 12 j ∧ X1.1 12 j ≤ 35
    rw [(hF 12 j rfl).1]
    exact h (10, 12) (by decide) j hj
  · have hj : (j : Int) < X1.1 110 4 := hj
    rw [(hF 110 4 rfl).1] at hj
    show 0 ≤ X1.1 112 j ∧ X1.1 112 j ≤ 35
    rw [(hF 112 j rfl).1]
    exact h (110, 112) (by decide) j hj
  · have hj : (j : Int) < X1.1 113 4 := hj
    rw [(hF 113 4 rfl).1] at hj
    show 0 ≤ X1.1 115 j ∧ X1.1 115 j ≤ 35
    rw [(hF 115 j rfl).1]
    exact h (113, 115) (by decide) j hj
  · have hj : (j : Int) < X1.1 128 4 := hj
    rw [(hF 128 4 rfl).1] at hj
    show 0 ≤ X1.1 130 j ∧ X1.1 130 j ≤ 35
    rw [(hF 130 j rfl).1]
    exact h (128, 130) (by decide) j hj
  · have hj : (j : Int) < X1.1 131 4 := hj
    rw [(hF 131 4 rfl).1] at hj
    show 0 ≤ X1.1 133 j ∧ X1.1 133 j ≤ 35
    rw [(hF 133 j rfl).1]
    exact h (131, 133) (by decide) j hj
  · have hj : (j : Int) < X1.1 146 4 := hj
    rw [show X1.1 146 4 = X.1 7 4 from q0.2.2.2.2.1] at hj
    have m6 : (0 : Int) ≤ X.1 7 4 ∧ X.1 7 4 ≤ 6 := hH.rF (k := 7) (i := 4) (p := (0, 6)) rfl rfl
    show 0 ≤ X1.1 148 j ∧ X1.1 148 j ≤ 35
    rw [show X1.1 148 j = X.1 9 j from (q0.2.2.2.2.2 j (by omega)).2]
    exact h (7, 9) (by decide) j hj
  · have hj : (j : Int) < X1.1 149 4 := hj
    rw [show X1.1 149 4 = X.1 10 4 from q1.2.2.2.2.1] at hj
    have m6 : (0 : Int) ≤ X.1 10 4 ∧ X.1 10 4 ≤ 6 := hH.rF (k := 10) (i := 4) (p := (0, 6)) rfl rfl
    show 0 ≤ X1.1 151 j ∧ X1.1 151 j ≤ 35
    rw [show X1.1 151 j = X.1 12 j from (q1.2.2.2.2.2 j (by omega)).2]
    exact h (10, 12) (by decide) j hj
theorem rs_img0 {X Y X1 Y1 : XT} (h : TRL X Y) (hY : HG vM Y) (hx : FR mdIi0 X X1) (cp : CPS sd1 sd0 X X1) (kx : X1.1 20 0 = 1) (cr : CPR 0 1 Y Y1) (ro : ∀ r, r ≠ 1 → CPR r r Y Y1) (hk : ∀ j, j < 3 → Y1.1 48 j = if j = 0 then 1 else Y.1 48 j) : TRL X1 Y1 :=
  ⟨slr_cp h.1 (cps_fr0 hx rfl) (ro 0 (by omega)) (sz6 hY (by omega)).2, fun _ => slr_cp h.1 cp cr (sz6 hY (by omega)).2, fun q => slr_cp (h.2.2.1 (by rw [← (hx 20 1 rfl).1]; exact q)) (cps_fr2 hx rfl) (ro 2 (by omega)) (sz6 hY (by omega)).2, fun q => slr_cp (h.2.2.2.1 (by rw [← (hx 20 2 rfl).1]; exact q)) (cps_fr3 hx rfl) (ro 3 (by omega)) (sz6 hY (by omega)).2, by rw [kx, hk 0 (by omega), if_pos rfl], by rw [(hx 20 1 rfl).1, hk 1 (by omega), if_neg (by decide)]; exact h.2.2.2.2.2.1, by rw [(hx 20 2 rfl).1, hk 2 (by omega), if_neg (by decide)]; exact h.2.2.2.2.2.2⟩
theorem rs_agn0 {X Y X1 Y1 : XT} (h : TRL X Y) (hY : HG vM Y) (kx : X.1 20 0 ≠ 0) (hx : FR mdIa0 X X1) (cp : CPS sd0 sd1 X X1) (cr : CPR 1 0 Y Y1) (ro : ∀ r, r ≠ 0 → CPR r r Y Y1) (hk : ∀ j, Y1.1 48 j = Y.1 48 j) : TRL X1 Y1 :=
  trl_im3 h hY (slr_cp (h.2.1 kx) cp cr (sz6 hY (by omega)).2) (cps_fr1 hx rfl) (cps_fr2 hx rfl) (cps_fr3 hx rfl) (fun j => (hx 20 j rfl).1) (ro 1 (by omega)) (ro 2 (by omega)) (ro 3 (by omega)) hk
theorem rs_img1 {X Y X1 Y1 : XT} (h : TRL X Y) (hY : HG vM Y) (hx : FR mdIi1 X X1) (cp : CPS sd2 sd0 X X1) (kx : X1.1 20 1 = 1) (cr : CPR 0 2 Y Y1) (ro : ∀ r, r ≠ 2 → CPR r r Y Y1) (hk : ∀ j, j < 3 → Y1.1 48 j = if j = 1 then 1 else Y.1 48 j) : TRL X1 Y1 :=
  ⟨slr_cp h.1 (cps_fr0 hx rfl) (ro 0 (by omega)) (sz6 hY (by omega)).2, fun q => slr_cp (h.2.1 (by rw [← (hx 20 0 rfl).1]; exact q)) (cps_fr1 hx rfl) (ro 1 (by omega)) (sz6 hY (by omega)).2, fun _ => slr_cp h.1 cp cr (sz6 hY (by omega)).2, fun q => slr_cp (h.2.2.2.1 (by rw [← (hx 20 2 rfl).1]; exact q)) (cps_fr3 hx rfl) (ro 3 (by omega)) (sz6 hY (by omega)).2, by rw [(hx 20 0 rfl).1, hk 0 (by omega), if_neg (by decide)]; exact h.2.2.2.2.1, by rw [kx, hk 1 (by omega), if_pos rfl], by rw [(hx 20 2 rfl).1, hk 2 (by omega), if_neg (by decide)]; exact h.2.2.2.2.2.2⟩
theorem rs_agn1 {X Y X1 Y1 : XT} (h : TRL X Y) (hY : HG vM Y) (kx : X.1 20 1 ≠ 0) (hx : FR mdIa1 X X1) (cp : CPS sd0 sd2 X X1) (cr : CPR 2 0 Y Y1) (ro : ∀ r, r ≠ 0 → CPR r r Y Y1) (hk : ∀ j, Y1.1 48 j = Y.1 48 j) : TRL X1 Y1 :=
  trl_im3 h hY (slr_cp (h.2.2.1 kx) cp cr (sz6 hY (by omega)).2) (cps_fr1 hx rfl) (cps_fr2 hx rfl) (cps_fr3 hx rfl) (fun j => (hx 20 j rfl).1) (ro 1 (by omega)) (ro 2 (by omega)) (ro 3 (by omega)) hk
theorem rs_img2 {X Y X1 Y1 : XT} (h : TRL X Y) (hY : HG vM Y) (hx : FR mdIi2 X X1) (cp : CPS sd3 sd0 X X1) (kx : X1.1 20 2 = 1) (cr : CPR 0 3 Y Y1) (ro : ∀ r, r ≠ 3 → CPR r r Y Y1) (hk : ∀ j, j < 3 → Y1.1 48 j = if j = 2 then 1 else Y.1 48 j) : TRL X1 Y1 :=
  ⟨slr_cp h.1 (cps_fr0 hx rfl) (ro 0 (by omega)) (sz6 hY (by omega)).2, fun q => slr_cp (h.2.1 (by rw [← (hx 20 0 rfl).1]; exact q)) (cps_fr1 hx rfl) (ro 1 (by omega)) (sz6 hY (by omega)).2, fun q => slr_cp (h.2.2.1 (by rw [← (hx 20 1 rfl).1]; exact q)) (cps_fr2 hx rfl) (ro 2 (by omega)) (sz6 hY (by omega)).2, fun _ => slr_cp h.1 cp cr (sz6 hY (by omega)).2, by rw [(hx 20 0 rfl).1, hk 0 (by omega), if_neg (by decide)]; exact h.2.2.2.2.1, by rw [(hx 20 1 rfl).1, hk 1 (by omega), if_neg (by decide)]; exact h.2.2.2.2.2.1, by rw [kx, hk 2 (by omega), if_pos rfl]⟩
theorem rs_agn2 {X Y X1 Y1 : XT} (h : TRL X Y) (hY : HG vM Y) (kx : X.1 20 2 ≠ 0) (hx : FR mdIa2 X X1) (cp : CPS sd0 sd3 X X1) (cr : CPR 3 0 Y Y1) (ro : ∀ r, r ≠ 0 → CPR r r Y Y1) (hk : ∀ j, Y1.1 48 j = Y.1 48 j) : TRL X1 Y1 :=
  trl_im3 h hY (slr_cp (h.2.2.2.1 kx) cp cr (sz6 hY (by omega)).2) (cps_fr1 hx rfl) (cps_fr2 hx rfl) (cps_fr3 hx rfl) (fun j => (hx 20 j rfl).1) (ro 1 (by omega)) (ro 2 (by omega)) (ro 3 (by omega)) hk
