theorem L_all : ∀ q ∈ vwCl, (∀ w ∈ u_ws q.1 q.2.1 q.2.2, w ∈ lw_tbl) ∧ ∃ n, Cond.instantiable q.1 n ∈ lw_tbl := List.forall_mem_cons.mpr ⟨⟨fun w hw => (List.mem_filter.mp (inX0 w hw)).1, 7, List.mem_of_getElem? (i := 155) (by decide +kernel)⟩, List.forall_mem_cons.mpr ⟨⟨fun w hw => (List.mem_filter.mp (inX1 w hw)).1, 7, List.mem_of_getElem? (i := 458) (by decide +kernel)⟩, List.forall_mem_cons.mpr ⟨⟨fun w hw => (List.mem_filter.mp (inX2 w hw)).1, 3, List.mem_of_getElem? (i := 217) (by decide +kernel)⟩, List.forall_mem_cons.mpr ⟨⟨fun w hw => (List.mem_filter.mp (inX3 w hw)).1, 5, List.mem_of_getElem? (i := 328) (by decide +kernel)⟩, List.forall_mem_cons.mpr ⟨⟨fun w hw => (List.mem_filter.mp (inX4 w hw)).1, 6, List.mem_of_getElem? (i := 464) (by decide +kernel)⟩, List.forall_mem_cons.mpr ⟨⟨fun w hw => (List.mem_filter.mp (inX5 w hw)).1, 4, List.mem_of_getElem? (i := 384) (by decide +kernel)⟩, List.forall_mem_cons.mpr ⟨⟨fun w hw => (List.mem_filter.mp (inX6 w hw)).1, 11, List.mem_of_getElem? (i := 272) (by decide +kernel)⟩, List.forall_mem_cons.mpr ⟨⟨fun w hw => (List.mem_filter.mp (inX7 w hw)).1, 5, List.mem_of_getElem? (i := 390) (by decide +kernel)⟩, List.forall_mem_cons.mpr ⟨⟨fun w hw => (List.mem_filter.mp (inX8 w hw)).1, 8, List.mem_of_getElem? (i := 146) (by decide +kernel)⟩, List.forall_mem_cons.mpr ⟨⟨fun w hw => (List.mem_filter.mp (inX9 w hw)).1, 8, List.mem_of_getElem? (i := 322) (by decide +kernel)⟩, List.forall_mem_cons.mpr ⟨⟨fun w hw => (List.mem_filter.mp (inX10 w hw)).1, 5, List.mem_of_getElem? (i := 422) (by decide +kernel)⟩, List.forall_mem_cons.mpr ⟨⟨fun w hw => (List.mem_filter.mp (inX11 w hw)).1, 8, List.mem_of_getElem? (i := 138) (by decide +kernel)⟩, List.forall_mem_cons.mpr ⟨⟨fun w hw => (List.mem_filter.mp (inX12 w hw)).1, 75, List.mem_of_getElem? (i := 1258) (by decide +kernel)⟩, fun _ h => absurd h List.not_mem_nil⟩⟩⟩⟩⟩⟩⟩⟩⟩⟩⟩⟩⟩
def LEND (E : ET) : Prop := ∀ (D : va_G) (a b' : Nat) (lv : List (Nat × Value)) {PH : Heap → Prop}, a ≤ 600000 → b' ≤ 7302250 → Wx (Ek E a b') (wI D) 4 PH (1449 + 1) lv [.int (iI 1)]
theorem LEND.k {E : ET} {a b : Nat} (h : LEND E) : LEND (Ek E a b) := by obtain ⟨p, l, e, R, s, m, args, below, meth, c, A0, k0, n0, QQ⟩ := E; exact h
theorem rX_lt {k i r : Nat} (h : rX k i = some r) : r < 158 := by
  have ok : ∀ l ∈ rXl, ∀ o ∈ l, (match o with | some r => Nat.blt r 158 | none => true) = true := by decide +kernel
  unfold rX at h
  rw [List.getD_eq_getElem?_getD, List.getD_eq_getElem?_getD] at h
  cases e : rXl[k]? with
  | none => rw [e] at h; simp at h
  | some l =>
    rw [e] at h
    have h : (l[i]?).getD none = some r := h
    cases e2 : l[i]? with
    | none => rw [e2] at h; cases h
    | some o =>
      rw [e2] at h
      have h : o = some r := h
      have t := ok l (List.mem_of_getElem? e) o (List.mem_of_getElem? e2)
      rw [h] at t
      exact Nat.le_of_ble_eq_true t
theorem AW_ad {D : va_G} {ad ad0 : Nat → Nat} {cA : Nat → ClassId} (h : ∀ k, k < 158 → ad k = ad0 k) {x : Nat} : AW (wX D ad cA) x ↔ AW (wX D ad0 cA) x :=
  ⟨fun ⟨k, hk, e⟩ => ⟨k, hk, e.trans (h k hk)⟩, fun ⟨k, hk, e⟩ => ⟨k, hk, e.trans (h k hk).symm⟩⟩
theorem EF_ad {E : ET} {D : va_G} {ad ad0 : Nat → Nat} {cA : Nat → ClassId} (h : ∀ k, k < 158 → ad k = ad0 k) (hF : EF E (wX D ad0 cA)) : EF E (wX D ad cA) := by
  obtain ⟨p, l, e, R, s, m, args, below, meth, c, A0, k0, n0, QQ⟩ := E
  have hF : FxW (wX D ad0 cA) s := hF
  exact show FxW (wX D ad cA) s from ⟨hF.1, hF.2.1, fun i j hi hj e => hF.2.2.1 i j hi hj ((h i hi).symm.trans (e.trans (h j hj))), hF.2.2.2⟩
theorem PX_ad {D : va_G} {ad ad0 : Nat → Nat} {cA : Nat → ClassId} (h : ∀ k, k < 158 → ad k = ad0 k) (H : Heap) : PX (wX D ad cA) x0X H ↔ PX (wX D ad0 cA) x0X H := by
  have e : wsX (wX D ad cA) x0X = wsX (wX D ad0 cA) x0X := by
    unfold wsX
    refine List.map_congr_left (fun k hk => ?_)
    have hk : k < 158 := List.mem_range.mp hk
    have em : ∀ k i : Nat, (x0X.2.2 k i).map (wA (wX D ad cA)) = (x0X.2.2 k i).map (wA (wX D ad0 cA)) := fun k i => by
      cases q : x0X.2.2 k i with
      | none => rfl
      | some r => exact congrArg some (h r (rX_lt q))
    have ea : wA (wX D ad cA) k = wA (wX D ad0 cA) k := h k hk
    rw [ea]
    congr 1
    unfold ceX
    have ef : fvX (wX D ad cA) x0X k = fvX (wX D ad0 cA) x0X k := funext (fun i => by
      unfold fvX
      rw [em k i]
      rfl)
    rw [ef]
    have eg : (fun i => cond (Nat.blt i (wS (wX D ad cA) k).2.2) ((x0X.2.2 k i).map (wA (wX D ad cA))) none) = (fun i => cond (Nat.blt i (wS (wX D ad0 cA) k).2.2) ((x0X.2.2 k i).map (wA (wX D ad0 cA))) none) := funext (fun i => by rw [em k i]; rfl)
    rw [eg]
    rfl
  show va_P _ _ (wsX (wX D ad cA) x0X) H ↔ va_P _ _ (wsX (wX D ad0 cA) x0X) H
  rw [e]
  exact Iff.rfl
set_option maxHeartbeats 4000000 in
set_option maxRecDepth 100000 in
theorem law_body {E : ET} {D : va_G} {b L : Nat} {zs : Nat → Int} {adS : Nat → Nat} (C : CX E (wI D) cL_law 4 RL (some .boolean) room_1) (hG : GA E) (hX : LAW E b L (fun j => iI (zs j))) (hz : ∀ j, inR (zs j)) (hL : L ≤ 3072) (hk0 : eK E = 0) (hn0 : eN E = 0) (hEnd : LEND E) (hSE : ∀ w, (∀ k, 900 ≤ k → wA w k = adS k) → SE E w) : Wx E (wI D) 4 (fun _ => True) 0 [(0, .ref b)] [] := by
  refine L_new (R := fun _ => True) (Out := fun _ => False) (B := bX D) (X := x0X) (ci := 11) (a := 1) (b := 8) C hG ⟨rfl, rfl⟩ inX11 tyX11_ok rfl rfl nwL_7.1 nwL_7.2.1 nwL_7.2.2 (fun j hj => by rcases (show j = 0 ∨ j = 1 ∨ j = 2 ∨ j = 3 ∨ j = 4 ∨ j = 5 ∨ j = 6 ∨ j = 7 by omega) with rfl | rfl | rfl | rfl | rfl | rfl | rfl | rfl <;> rfl) (fun _ _ _ h => h) (fun _ _ _ h => h.elim) (by rw [hk0]) (by rw [hn0]) (nle rfl) (nle rfl) dL_law_0 (fun q hq hqA C => ?_)
  have hG := hG.k (a := 1) (b := 8)
  have hX := hX.k (a := 1) (b := 8)
  have hqA := hqA.k (a := 1) (b := 8)
  have hEnd := hEnd.k (a := 1) (b := 8)
  have hSE := fun w h => (hSE w h).k (a := 1) (b := 8)
  refine x_dup C dL_law_3 rfl ?_
  refine L_ctor (R := fun _ => True) (Out := fun _ => False) (B := bX D) (rest := [.ref q]) (a := 158) (b' := 24177) C hG ⟨rfl, rfl⟩ rfl ct_X0 ckL_9 im_X11_init rfl (fun _ _ _ _ h => h) (fun _ _ _ h => h.elim) hq hqA rfl (nle rfl) ⟨nle rfl, nle rfl⟩ (by rw [eK.k]) (by rw [eN.k]) (nle rfl) (nle rfl) dL_law_4 (fun ad0 cA had _ hF hA C => ?_)
  have hG := hG.k (a := 158) (b := 24177)
  have hX := hX.k (a := 158) (b := 24177)
  have hSE := fun w h => (hSE w h).k (a := 158) (b := 24177)
  have hEnd := hEnd.k (a := 158) (b := 24177)
  generalize had1 : (fun k => if k < 900 then ad0 k else adS k) = ad
  have hlo : ∀ k, k < 158 → ad k = ad0 k := fun k hk => by rw [← had1]; exact if_pos (by omega)
  have hhi : ∀ k, 900 ≤ k → ad k = adS k := fun k hk => by rw [← had1]; exact if_neg (by omega)
  have hF : EF _ (wX D ad cA) := (EF_ad hlo hF).k (a := 158) (b := 24177)
  have hA : ∀ x, AW (wX D ad cA) x → EA _ x := fun x h => (hA x ((AW_ad hlo).mp h)).k (a := 158) (b := 24177)
  have hS : SE _ (wX D ad cA) := hSE _ hhi
  have had : ad 0 = q := (hlo 0 (by omega)).trans had
  refine Wx_PH (PH' := fun H => PX (wX D ad cA) x0X H ∧ True) (fun H h => ⟨(PX_ad hlo H).mpr h.1, trivial⟩) ?_
  subst had
  refine x_astore_n (i := 1) (lv' := [(1, .ref (ad 0)), (0, .ref b)]) C dL_law_7 rfl (nlt rfl) rfl ?_
  refine Wx_PH (PH' := PX (wX D ad cA) x0X) (fun H h => h.1) ?_
  refine L_new (R := PX (wX D ad cA) x0X) (Out := AW (wX D ad cA)) (B := bM D) (X := x0M) (ci := 12) (a := 159) (b := 24252) C hG ⟨rfl, rfl⟩ inX12 tyX12_ok rfl rfl nwL_10.1 nwL_10.2.1 nwL_10.2.2 (fun j hj => by rcases (show j = 0 ∨ j = 1 ∨ j = 2 ∨ j = 3 ∨ j = 4 ∨ j = 5 ∨ j = 6 ∨ j = 7 ∨ j = 8 ∨ j = 9 ∨ j = 10 ∨ j = 11 ∨ j = 12 ∨ j = 13 ∨ j = 14 ∨ j = 15 ∨ j = 16 ∨ j = 17 ∨ j = 18 ∨ j = 19 ∨ j = 20 ∨ j = 21 ∨ j = 22 ∨ j = 23 ∨ j = 24 ∨ j = 25 ∨ j = 26 ∨ j = 27 ∨ j = 28 ∨ j = 29 ∨ j = 30 ∨ j = 31 ∨ j = 32 ∨ j = 33 ∨ j = 34 ∨ j = 35 ∨ j = 36 ∨ j = 37 ∨ j = 38 ∨ j = 39 ∨ j = 40 ∨ j = 41 ∨ j = 42 ∨ j = 43 ∨ j = 44 ∨ j = 45 ∨ j = 46 ∨ j = 47 ∨ j = 48 ∨ j = 49 ∨ j = 50 ∨ j = 51 ∨ j = 52 ∨ j = 53 ∨ j = 54 ∨ j = 55 ∨ j = 56 ∨ j = 57 ∨ j = 58 ∨ j = 59 ∨ j = 60 ∨ j = 61 ∨ j = 62 ∨ j = 63 ∨ j = 64 ∨ j = 65 ∨ j = 66 ∨ j = 67 ∨ j = 68 ∨ j = 69 ∨ j = 70 ∨ j = 71 ∨ j = 72 ∨ j = 73 ∨ j = 74 by omega) with rfl | rfl | rfl | rfl | rfl | rfl | rfl | rfl | rfl | rfl | rfl | rfl | rfl | rfl | rfl | rfl | rfl | rfl | rfl | rfl | rfl | rfl | rfl | rfl | rfl | rfl | rfl | rfl | rfl | rfl | rfl | rfl | rfl | rfl | rfl | rfl | rfl | rfl | rfl | rfl | rfl | rfl | rfl | rfl | rfl | rfl | rfl | rfl | rfl | rfl | rfl | rfl | rfl | rfl | rfl | rfl | rfl | rfl | rfl | rfl | rfl | rfl | rfl | rfl | rfl | rfl | rfl | rfl | rfl | rfl | rfl | rfl | rfl | rfl | rfl <;> rfl) (fun H H1 ho hP => hP.kept (fun k q hq => ho q.1 ((hP k q hq).lt))) L_lt (by rw [eK.k]) (by rw [eN.k]) (nle rfl) (nle rfl) dL_law_8 (fun q hq hqA C => ?_)
  have hG := hG.k (a := 159) (b := 24252)
  have hX := hX.k (a := 159) (b := 24252)
  have hqA := hqA.k (a := 159) (b := 24252)
  have hF := hF.k (a := 159) (b := 24252)
  have hS := hS.k (a := 159) (b := 24252)
  have hA : ∀ x, AW (wX D ad cA) x → EA _ x := fun x h => (hA x h).k (a := 159) (b := 24252)
  have hEnd := hEnd.k (a := 159) (b := 24252)
  refine x_dup C dL_law_11 rfl ?_
  refine L_ctor (R := PX (wX D ad cA) x0X) (Out := AW (wX D ad cA)) (B := bM D) (rest := [.ref q]) (a := 207) (b' := 65183) C hG ⟨rfl, rfl⟩ rfl ct_M0 ckL_12 im_X12_init rfl (fun H H1 _ ho hP => hP.kept (fun k x hx => ho x.1 ((hP k x hx).lt) (fun hh => hq (by
    have hk : k < wN (wX D ad cA) := by rw [← wsX_len (w := wX D ad cA) (X := x0X)]; exact (List.getElem?_eq_some_iff.mp hx).1
    have h9 := wsX_at (X := x0X) hk
    rw [hx] at h9
    exact ⟨k, hk, by rw [← hh, Option.some.inj h9]⟩)))) L_lt hq hqA rfl (nle rfl) ⟨nle rfl, nle rfl⟩ (by rw [eK.k]) (by rw [eN.k]) (nle rfl) (nle rfl) dL_law_12 (fun ad2 cA2 had hO hF2 hA2 C => ?_)
  have hG := hG.k (a := 207) (b := 65183)
  have hX := hX.k (a := 207) (b := 65183)
  have hF := hF.k (a := 207) (b := 65183)
  have hS := hS.k (a := 207) (b := 65183)
  have hW : LW _ D ad ad2 cA cA2 := ⟨hF, fun x h => (hA x h).k (a := 207) (b := 65183), hF2.k (a := 207) (b := 65183), fun x h => (hA2 x h).k (a := 207) (b := 65183), hO, hS⟩
  subst had
  refine x_astore_n (i := 2) (lv' := [(2, .ref (ad2 0)), (1, .ref (ad 0)), (0, .ref b)]) C dL_law_15 rfl (nlt rfl) rfl ?_
  refine Wx_PH (PH' := fun H => PX (wX D ad cA) x0X H ∧ PX (wM D ad2 cA2) x0M H) (fun H h => ⟨h.2, h.1⟩) ?_
  refine x_iconst C dL_law_16 ?_
  refine x_istore_n (i := 3) (lv' := [(3, .int (iI ((0 : Nat) : Int))), (2, .ref (ad2 0)), (1, .ref (ad 0)), (0, .ref b)]) C dL_law_17 rfl (nlt rfl) rfl ?_
  exact law_loop C hX hz hW hL (fun lv PH => hEnd D 207 65183 lv (nle rfl) (nle rfl)) (L + 7) 0 x0X x0M (by omega) (by omega) hg_0X menok_0 hg_0M bok_0 trl_0
