set_option maxHeartbeats 4000000 in
theorem law_loop {E : ET} {D : va_G} {ad ad2 : Nat → Nat} {cA cA2 : Nat → ClassId} {b L : Nat} {zs : Nat → Int} (C : CX E (wI D) cL_law 4 RL (some .boolean) room_1) (hX : LAW E b L (fun j => iI (zs j))) (hz : ∀ j, inR (zs j)) (hW : LW E D ad ad2 cA cA2) (hL : L ≤ 3072) (hEnd : ∀ (lv : List (Nat × Value)) (PH : Heap → Prop), Wx E (wI D) 4 PH (1449 + 1) lv [.int (iI 1)]) : ∀ (n i : Nat) (X Y : XT), L + 6 - i < n → i ≤ L + 6 → HG vX X → gX.2 X → HG vM Y → gM.2 Y → TRL X Y → Wx E (wI D) 4 (fun H => PX (wX D ad cA) X H ∧ PX (wM D ad2 cA2) Y H) 18 [(3, .int (iI ((i : Int)))), (2, .ref (ad2 0)), (1, .ref (ad 0)), (0, .ref b)] [] := by
  intro n
  induction n with
  | zero => intro i X Y hn; exfalso; omega
  | succ n ih =>
    intro i X Y hn hi hHx hEx hHy hEy hR
    refine x_iload_n (i := 3) C dL_law_18 rfl rfl ?_
    refine x_aload_n (i := 0) C dL_law_19 rfl rfl ?_
    refine L_slen C hX dL_law_20 ?_
    refine x_bipush C dL_law_21 (by decide) ?_
    refine x_isub C dL_law_23 ?_
    refine x_icmp_gt (tgt := 1449) C dL_law_24 (by decide) ⟨by omega, by omega⟩ ⟨by omega, by omega⟩ (fun h => ?_) (fun h => ?_)
    · refine x_iconst C dL_law_1449 ?_
      exact hEnd _ _
    have i6 : i + 6 ≤ L := by omega
    have hE : ∀ X1 Y1 : XT, HG vX X1 → gX.2 X1 → HG vM Y1 → gM.2 Y1 → TRL X1 Y1 → Wx E (wI D) 4 (fun H => PX (wX D ad cA) X1 H ∧ PX (wM D ad2 cA2) Y1 H) 1443 [(3, .int (iI ((i : Int)))), (2, .ref (ad2 0)), (1, .ref (ad 0)), (0, .ref b)] [] := by
      intro X1 Y1 h1 h2 h3 h4 h5
      refine x_iinc (lv' := [(3, .int (iI ((i : Int) + 6))), (2, .ref (ad2 0)), (1, .ref (ad 0)), (0, .ref b)]) C dL_law_1443 rfl (nlt rfl) rfl ?_
      refine x_goto (tgt := 18) C dL_law_1446 (by decide) ?_
      rw [show iI ((i : Int) + 6) = iI (((i + 6 : Nat) : Int)) by congr 1]
      exact ih (i + 6) X1 Y1 (by omega) (by omega) h1 h2 h3 h4 h5
    refine x_aload_n (i := 0) C dL_law_27 rfl rfl ?_
    refine x_iload_n (i := 3) C dL_law_28 rfl rfl ?_
    refine L_sldz (j := i) C hX rfl (by omega) (by omega) dL_law_29 ?_
    refine x_bipush C dL_law_30 (by decide) ?_
    refine x_iand C dL_law_32 ?_
    refine x_topi (fun z hz9 e9 => ?_)
    have hb9 := and_bd (m := 31) (by decide) (by decide) hz9 e9
    rcases (show z = 0 ∨ z = 1 ∨ z = 2 ∨ z = 3 ∨ z = 4 ∨ z = 5 ∨ z = 6 ∨ z = 7 ∨ z = 8 ∨ z = 9 ∨ z = 10 ∨ z = 11 ∨ z = 12 ∨ z = 13 ∨ z = 14 ∨ z = 15 ∨ z = 16 ∨ z = 17 ∨ z = 18 ∨ z = 19 ∨ z = 20 ∨ z = 21 ∨ z = 22 ∨ z = 23 ∨ z = 24 ∨ z = 25 ∨ z = 26 ∨ z = 27 ∨ z = 28 ∨ 28 < z by omega) with rfl | rfl | rfl | rfl | rfl | rfl | rfl | rfl | rfl | rfl | rfl | rfl | rfl | rfl | rfl | rfl | rfl | rfl | rfl | rfl | rfl | rfl | rfl | rfl | rfl | rfl | rfl | rfl | rfl | h28
    · exact L_swIn (tgt := 164) C dL_law_33 ⟨by decide, by decide⟩ (by decide) (by decide) rfl (by decide) (lc_0 C hX hz hW i6 hL hHx hEx hHy hEy hR hE)
    · exact L_swIn (tgt := 227) C dL_law_33 ⟨by decide, by decide⟩ (by decide) (by decide) rfl (by decide) (lc_1 C hX hz hW i6 hL hHx hEx hHy hEy hR hE)
    · exact L_swIn (tgt := 250) C dL_law_33 ⟨by decide, by decide⟩ (by decide) (by decide) rfl (by decide) (lc_2 C hX hz hW i6 hL hHx hEx hHy hEy hR hE)
    · exact L_swIn (tgt := 283) C dL_law_33 ⟨by decide, by decide⟩ (by decide) (by decide) rfl (by decide) (lc_3 C hX hz hW i6 hL hHx hEx hHy hEy hR hE)
    · exact L_swIn (tgt := 306) C dL_law_33 ⟨by decide, by decide⟩ (by decide) (by decide) rfl (by decide) (lc_4 C hX hz hW i6 hL hHx hEx hHy hEy hR hE)
    · exact L_swIn (tgt := 339) C dL_law_33 ⟨by decide, by decide⟩ (by decide) (by decide) rfl (by decide) (lc_5 C hX hz hW i6 hL hHx hEx hHy hEy hR hE)
    · exact L_swIn (tgt := 372) C dL_law_33 ⟨by decide, by decide⟩ (by decide) (by decide) rfl (by decide) (lc_6 C hX hz hW i6 hL hHx hEx hHy hEy hR hE)
    · exact L_swIn (tgt := 415) C dL_law_33 ⟨by decide, by decide⟩ (by decide) (by decide) rfl (by decide) (lc_7 C hX hz hW i6 hL hHx hEx hHy hEy hR hE)
    · exact L_swIn (tgt := 448) C dL_law_33 ⟨by decide, by decide⟩ (by decide) (by decide) rfl (by decide) (lc_8 C hX hz hW i6 hL hHx hEx hHy hEy hR hE)
    · exact L_swIn (tgt := 491) C dL_law_33 ⟨by decide, by decide⟩ (by decide) (by decide) rfl (by decide) (lc_9 C hX hz hW i6 hL hHx hEx hHy hEy hR hE)
    · exact L_swIn (tgt := 544) C dL_law_33 ⟨by decide, by decide⟩ (by decide) (by decide) rfl (by decide) (lc_10 C hX hz hW i6 hL hHx hEx hHy hEy hR hE)
    · exact L_swIn (tgt := 607) C dL_law_33 ⟨by decide, by decide⟩ (by decide) (by decide) rfl (by decide) (lc_11 C hX hz hW i6 hL hHx hEx hHy hEy hR hE)
    · exact L_swIn (tgt := 650) C dL_law_33 ⟨by decide, by decide⟩ (by decide) (by decide) rfl (by decide) (lc_12 C hX hz hW i6 hL hHx hEx hHy hEy hR hE)
    · exact L_swIn (tgt := 683) C dL_law_33 ⟨by decide, by decide⟩ (by decide) (by decide) rfl (by decide) (lc_13 C hX hz hW i6 hL hHx hEx hHy hEy hR hE)
    · exact L_swIn (tgt := 736) C dL_law_33 ⟨by decide, by decide⟩ (by decide) (by decide) rfl (by decide) (lc_14 C hX hz hW i6 hL hHx hEx hHy hEy hR hE)
    · exact L_swIn (tgt := 789) C dL_law_33 ⟨by decide, by decide⟩ (by decide) (by decide) rfl (by decide) (lc_15 C hX hz hW i6 hL hHx hEx hHy hEy hR hE)
    · exact L_swIn (tgt := 858) C dL_law_33 ⟨by decide, by decide⟩ (by decide) (by decide) rfl (by decide) (lc_16 C hX hz hW i6 hL hHx hEx hHy hEy hR hE)
    · exact L_swIn (tgt := 901) C dL_law_33 ⟨by decide, by decide⟩ (by decide) (by decide) rfl (by decide) (lc_17 C hX hz hW i6 hL hHx hEx hHy hEy hR hE)
    · exact L_swIn (tgt := 944) C dL_law_33 ⟨by decide, by decide⟩ (by decide) (by decide) rfl (by decide) (lc_18 C hX hz hW i6 hL hHx hEx hHy hEy hR hE)
    · exact L_swIn (tgt := 997) C dL_law_33 ⟨by decide, by decide⟩ (by decide) (by decide) rfl (by decide) (lc_19 C hX hz hW i6 hL hHx hEx hHy hEy hR hE)
    · exact L_swIn (tgt := 1050) C dL_law_33 ⟨by decide, by decide⟩ (by decide) (by decide) rfl (by decide) (lc_20 C hX hz hW i6 hL hHx hEx hHy hEy hR hE)
    · exact L_swIn (tgt := 1103) C dL_law_33 ⟨by decide, by decide⟩ (by decide) (by decide) rfl (by decide) (lc_21 C hX hz hW i6 hL hHx hEx hHy hEy hR hE)
    · exact L_swIn (tgt := 1146) C dL_law_33 ⟨by decide, by decide⟩ (by decide) (by decide) rfl (by decide) (lc_22 C hX hz hW i6 hL hHx hEx hHy hEy hR hE)
    · exact L_swIn (tgt := 1215) C dL_law_33 ⟨by decide, by decide⟩ (by decide) (by decide) rfl (by decide) (lc_23 C hX hz hW i6 hL hHx hEx hHy hEy hR hE)
    · exact L_swIn (tgt := 1278) C dL_law_33 ⟨by decide, by decide⟩ (by decide) (by decide) rfl (by decide) (lc_24 C hX hz hW i6 hL hHx hEx hHy hEy hR hE)
    · exact L_swIn (tgt := 1321) C dL_law_33 ⟨by decide, by decide⟩ (by decide) (by decide) rfl (by decide) (lc_25 C hX hz hW i6 hL hHx hEx hHy hEy hR hE)
    · exact L_swIn (tgt := 1374) C dL_law_33 ⟨by decide, by decide⟩ (by decide) (by decide) rfl (by decide) (lc_26 C hX hz hW i6 hL hHx hEx hHy hEy hR hE)
    · exact L_swIn (tgt := 1397) C dL_law_33 ⟨by decide, by decide⟩ (by decide) (by decide) rfl (by decide) (lc_27 C hX hz hW i6 hL hHx hEx hHy hEy hR hE)
    · exact L_swIn (tgt := 1420) C dL_law_33 ⟨by decide, by decide⟩ (by decide) (by decide) rfl (by decide) (lc_28 C hX hz hW i6 hL hHx hEx hHy hEy hR hE)
    · exact L_swOut (tgt := 1443) C dL_law_33 hz9 (Or.inr h28) (by decide) (hE X Y hHx hEx hHy hEy hR)
