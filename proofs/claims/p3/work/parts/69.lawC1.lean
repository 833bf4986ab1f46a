set_option maxHeartbeats 4000000 in
theorem lc_10 {E : ET} {D : va_G} {ad ad2 : Nat → Nat} {cA cA2 : Nat → ClassId} {b L i : Nat} {zs : Nat → Int} (C : CX E (wI D) cL_law 4 RL (some .boolean) room_1) (hX : LAW E b L (fun j => iI (zs j))) (hz : ∀ j, inR (zs j)) (hW : LW E D ad ad2 cA cA2) (i6 : i + 6 ≤ L) (hL : L ≤ 3072) {X Y : XT} (hHx : HG vX X) (hEx : gX.2 X) (hHy : HG vM Y) (hEy : gM.2 Y) (hR : TRL X Y) (hE : ∀ X1 Y1 : XT, HG vX X1 → gX.2 X1 → HG vM Y1 → gM.2 Y1 → TRL X1 Y1 → Wx E (wI D) 4 (fun H => PX (wX D ad cA) X1 H ∧ PX (wM D ad2 cA2) Y1 H) 1443 [(3, .int (iI ((i : Int)))), (2, .ref (ad2 0)), (1, .ref (ad 0)), (0, .ref b)] []) : Wx E (wI D) 4 (fun H => PX (wX D ad cA) X H ∧ PX (wM D ad2 cA2) Y H) 544 [(3, .int (iI ((i : Int)))), (2, .ref (ad2 0)), (1, .ref (ad 0)), (0, .ref b)] [] := by
  refine x_aload_n (i := 1) C dL_law_544 rfl rfl ?_
  refine x_aload_n (i := 0) C dL_law_545 rfl rfl ?_
  refine x_iload_n (i := 3) C dL_law_546 rfl rfl ?_
  refine x_iconst C dL_law_547 ?_
  refine x_iadd C dL_law_548 ?_
  refine L_sldz (j := i + 1) C hX (by omega) (by omega) (by omega) dL_law_549 ?_
  refine x_aload_n (i := 0) C dL_law_550 rfl rfl ?_
  refine x_iload_n (i := 3) C dL_law_551 rfl rfl ?_
  refine x_iconst C dL_law_552 ?_
  refine x_iadd C dL_law_553 ?_
  refine L_sldz (j := i + 2) C hX (by omega) (by omega) (by omega) dL_law_554 ?_
  refine x_aload_n (i := 0) C dL_law_555 rfl rfl ?_
  refine x_iload_n (i := 3) C dL_law_556 rfl rfl ?_
  refine x_iconst C dL_law_557 ?_
  refine x_iadd C dL_law_558 ?_
  refine L_sldz (j := i + 3) C hX (by omega) (by omega) (by omega) dL_law_559 ?_
  refine x_aload_n (i := 0) C dL_law_560 rfl rfl ?_
  refine x_iload_n (i := 3) C dL_law_561 rfl rfl ?_
  refine x_iconst C dL_law_562 ?_
  refine x_iadd C dL_law_563 ?_
  refine L_sldz (j := i + 4) C hX (by omega) (by omega) (by omega) dL_law_564 ?_
  refine x_aload_n (i := 0) C dL_law_565 rfl rfl ?_
  refine x_iload_n (i := 3) C dL_law_566 rfl rfl ?_
  refine x_iconst C dL_law_567 ?_
  refine x_iadd C dL_law_568 ?_
  refine L_sldz (j := i + 5) C hX (by omega) (by omega) (by omega) dL_law_569 ?_
  refine L_call (R := PX (wM D ad2 cA2) Y) C ⟨rfl, rfl⟩ hW.1 hW.2.1 (L_keep (X := Y) hW.2.2.2.2.1) (xp_path (z1 := zs (i + 1)) (z2 := zs (i + 2)) (z3 := zs (i + 3)) (z4 := zs (i + 4)) (z5 := zs (i + 5)) (hz _) (hz _) (hz _) (hz _) (hz _) hHx hEx) ckL_59 im_X11_path se_X11_path (nlt rfl) rfl rfl rfl rfl rfl (nle rfl) ⟨nle rfl, nle rfl⟩ dL_law_570 (fun r X1 hp => ?_)
  obtain ⟨⟨u, rfl⟩, hHx1, hEx1, hFx⟩ := hp
  refine Wx_st (st' := [.int u]) rfl ?_
  refine x_pop C dL_law_573 rfl ?_
  refine x_aload_n (i := 2) C dL_law_574 rfl rfl ?_
  refine x_aload_n (i := 0) C dL_law_575 rfl rfl ?_
  refine x_iload_n (i := 3) C dL_law_576 rfl rfl ?_
  refine x_iconst C dL_law_577 ?_
  refine x_iadd C dL_law_578 ?_
  refine L_sldz (j := i + 1) C hX (by omega) (by omega) (by omega) dL_law_579 ?_
  refine x_aload_n (i := 0) C dL_law_580 rfl rfl ?_
  refine x_iload_n (i := 3) C dL_law_581 rfl rfl ?_
  refine x_iconst C dL_law_582 ?_
  refine x_iadd C dL_law_583 ?_
  refine L_sldz (j := i + 2) C hX (by omega) (by omega) (by omega) dL_law_584 ?_
  refine x_aload_n (i := 0) C dL_law_585 rfl rfl ?_
  refine x_iload_n (i := 3) C dL_law_586 rfl rfl ?_
  refine x_iconst C dL_law_587 ?_
  refine x_iadd C dL_law_588 ?_
  refine L_sldz (j := i + 3) C hX (by omega) (by omega) (by omega) dL_law_589 ?_
  refine x_aload_n (i := 0) C dL_law_590 rfl rfl ?_
  refine x_iload_n (i := 3) C dL_law_591 rfl rfl ?_
  refine x_iconst C dL_law_592 ?_
  refine x_iadd C dL_law_593 ?_
  refine L_sldz (j := i + 4) C hX (by omega) (by omega) (by omega) dL_law_594 ?_
  refine x_aload_n (i := 0) C dL_law_595 rfl rfl ?_
  refine x_iload_n (i := 3) C dL_law_596 rfl rfl ?_
  refine x_iconst C dL_law_597 ?_
  refine x_iadd C dL_law_598 ?_
  refine L_sldz (j := i + 5) C hX (by omega) (by omega) (by omega) dL_law_599 ?_
  refine Wx_PH (PH' := fun H => PX (wM D ad2 cA2) Y H ∧ PX (wX D ad cA) X1 H) (fun H h => ⟨h.2, h.1⟩) ?_
  refine L_call (R := PX (wX D ad cA) X1) C ⟨rfl, rfl⟩ hW.2.2.1 hW.2.2.2.1 (L_keep (X := X1) (fun x h h9 => hW.2.2.2.2.1 x h9 h)) (rp_path (z1 := zs (i + 1)) (z2 := zs (i + 2)) (z3 := zs (i + 3)) (z4 := zs (i + 4)) (z5 := zs (i + 5)) (hz _) (hz _) (hz _) (hz _) (hz _) hHy hEy) ckL_62 im_X12_path se_X12_path (nlt rfl) rfl rfl rfl rfl rfl (nle rfl) ⟨nle rfl, nle rfl⟩ dL_law_600 (fun r Y1 hp => ?_)
  obtain ⟨⟨v, rfl⟩, hHy1, hEy1, hFy⟩ := hp
  refine Wx_st (st' := [.int v]) rfl ?_
  refine x_pop C dL_law_603 rfl ?_
  refine x_goto (tgt := 1443) C dL_law_604 (by decide) ?_
  have hR1 : TRL X1 Y1 := trl_fr hR hHy hFx hFy rfl rfl rfl rfl rfl rfl rfl
  refine Wx_PH (PH' := fun H => PX (wX D ad cA) X1 H ∧ PX (wM D ad2 cA2) Y1 H) (fun H h => ⟨h.2, h.1⟩) ?_
  exact hE X1 Y1 hHx1 hEx1 hHy1 hEy1 hR1
set_option maxHeartbeats 4000000 in
theorem lc_11 {E : ET} {D : va_G} {ad ad2 : Nat → Nat} {cA cA2 : Nat → ClassId} {b L i : Nat} {zs : Nat → Int} (C : CX E (wI D) cL_law 4 RL (some .boolean) room_1) (hX : LAW E b L (fun j => iI (zs j))) (hz : ∀ j, inR (zs j)) (hW : LW E D ad ad2 cA cA2) (i6 : i + 6 ≤ L) (hL : L ≤ 3072) {X Y : XT} (hHx : HG vX X) (hEx : gX.2 X) (hHy : HG vM Y) (hEy : gM.2 Y) (hR : TRL X Y) (hE : ∀ X1 Y1 : XT, HG vX X1 → gX.2 X1 → HG vM Y1 → gM.2 Y1 → TRL X1 Y1 → Wx E (wI D) 4 (fun H => PX (wX D ad cA) X1 H ∧ PX (wM D ad2 cA2) Y1 H) 1443 [(3, .int (iI ((i : Int)))), (2, .ref (ad2 0)), (1, .ref (ad 0)), (0, .ref b)] []) : Wx E (wI D) 4 (fun H => PX (wX D ad cA) X H ∧ PX (wM D ad2 cA2) Y H) 607 [(3, .int (iI ((i : Int)))), (2, .ref (ad2 0)), (1, .ref (ad 0)), (0, .ref b)] [] := by
  refine x_aload_n (i := 1) C dL_law_607 rfl rfl ?_
  refine x_aload_n (i := 0) C dL_law_608 rfl rfl ?_
  refine x_iload_n (i := 3) C dL_law_609 rfl rfl ?_
  refine x_iconst C dL_law_610 ?_
  refine x_iadd C dL_law_611 ?_
  refine L_sldz (j := i + 1) C hX (by omega) (by omega) (by omega) dL_law_612 ?_
  refine x_aload_n (i := 0) C dL_law_613 rfl rfl ?_
  refine x_iload_n (i := 3) C dL_law_614 rfl rfl ?_
  refine x_iconst C dL_law_615 ?_
  refine x_iadd C dL_law_616 ?_
  refine L_sldz (j := i + 2) C hX (by omega) (by omega) (by omega) dL_law_617 ?_
  refine x_aload_n (i := 0) C dL_law_618 rfl rfl ?_
  refine x_iload_n (i := 3) C dL_law_619 rfl rfl ?_
  refine x_iconst C dL_law_620 ?_
  refine x_iadd C dL_law_621 ?_
  refine L_sldz (j := i + 3) C hX (by omega) (by omega) (by omega) dL_law_622 ?_
  refine L_call (R := PX (wM D ad2 cA2) Y) C ⟨rfl, rfl⟩ hW.1 hW.2.1 (L_keep (X := Y) hW.2.2.2.2.1) (xp_move (z1 := zs (i + 1)) (z2 := zs (i + 2)) (z3 := zs (i + 3)) (hz _) (hz _) (hz _) hHx hEx) ckL_63 im_X11_move se_X11_move (nlt rfl) rfl rfl rfl rfl rfl (nle rfl) ⟨nle rfl, nle rfl⟩ dL_law_623 (fun r X1 hp => ?_)
  obtain ⟨⟨u, rfl⟩, hHx1, hEx1, hFx⟩ := hp
  refine Wx_st (st' := [.int u]) rfl ?_
  refine x_pop C dL_law_626 rfl ?_
  refine x_aload_n (i := 2) C dL_law_627 rfl rfl ?_
  refine x_aload_n (i := 0) C dL_law_628 rfl rfl ?_
  refine x_iload_n (i := 3) C dL_law_629 rfl rfl ?_
  refine x_iconst C dL_law_630 ?_
  refine x_iadd C dL_law_631 ?_
  refine L_sldz (j := i + 1) C hX (by omega) (by omega) (by omega) dL_law_632 ?_
  refine x_aload_n (i := 0) C dL_law_633 rfl rfl ?_
  refine x_iload_n (i := 3) C dL_law_634 rfl rfl ?_
  refine x_iconst C dL_law_635 ?_
  refine x_iadd C dL_law_636 ?_
  refine L_sldz (j := i + 2) C hX (by omega) (by omega) (by omega) dL_law_637 ?_
  refine x_aload_n (i := 0) C dL_law_638 rfl rfl ?_
  refine x_iload_n (i := 3) C dL_law_639 rfl rfl ?_
  refine x_iconst C dL_law_640 ?_
  refine x_iadd C dL_law_641 ?_
  refine L_sldz (j := i + 3) C hX (by omega) (by omega) (by omega) dL_law_642 ?_
  refine Wx_PH (PH' := fun H => PX (wM D ad2 cA2) Y H ∧ PX (wX D ad cA) X1 H) (fun H h => ⟨h.2, h.1⟩) ?_
  refine L_call (R := PX (wX D ad cA) X1) C ⟨rfl, rfl⟩ hW.2.2.1 hW.2.2.2.1 (L_keep (X := X1) (fun x h h9 => hW.2.2.2.2.1 x h9 h)) (rp_move (z1 := zs (i + 1)) (z2 := zs (i + 2)) (z3 := zs (i + 3)) (hz _) (hz _) (hz _) hHy hEy) ckL_66 im_X12_move se_X12_move (nlt rfl) rfl rfl rfl rfl rfl (nle rfl) ⟨nle rfl, nle rfl⟩ dL_law_643 (fun r Y1 hp => ?_)
  obtain ⟨⟨v, rfl⟩, hHy1, hEy1, hFy⟩ := hp
  refine Wx_st (st' := [.int v]) rfl ?_
  refine x_pop C dL_law_646 rfl ?_
  refine x_goto (tgt := 1443) C dL_law_647 (by decide) ?_
  have hR1 : TRL X1 Y1 := trl_fr hR hHy hFx hFy rfl rfl rfl rfl rfl rfl rfl
  refine Wx_PH (PH' := fun H => PX (wX D ad cA) X1 H ∧ PX (wM D ad2 cA2) Y1 H) (fun H h => ⟨h.2, h.1⟩) ?_
  exact hE X1 Y1 hHx1 hEx1 hHy1 hEy1 hR1
set_option maxHeartbeats 4000000 in
theorem lc_12 {E : ET} {D : va_G} {ad ad2 : Nat → Nat} {cA cA2 : Nat → ClassId} {b L i : Nat} {zs : Nat → Int} (C : CX E (wI D) cL_law 4 RL (some .boolean) room_1) (hX : LAW E b L (fun j => iI (zs j))) (hz : ∀ j, inR (zs j)) (hW : LW E D ad ad2 cA cA2) (i6 : i + 6 ≤ L) (hL : L ≤ 3072) {X Y : XT} (hHx : HG vX X) (hEx : gX.2 X) (hHy : HG vM Y) (hEy : gM.2 Y) (hR : TRL X Y) (hE : ∀ X1 Y1 : XT, HG vX X1 → gX.2 X1 → HG vM Y1 → gM.2 Y1 → TRL X1 Y1 → Wx E (wI D) 4 (fun H => PX (wX D ad cA) X1 H ∧ PX (wM D ad2 cA2) Y1 H) 1443 [(3, .int (iI ((i : Int)))), (2, .ref (ad2 0)), (1, .ref (ad 0)), (0, .ref b)] []) : Wx E (wI D) 4 (fun H => PX (wX D ad cA) X H ∧ PX (wM D ad2 cA2) Y H) 650 [(3, .int (iI ((i : Int)))), (2, .ref (ad2 0)), (1, .ref (ad 0)), (0, .ref b)] [] := by
  refine x_aload_n (i := 1) C dL_law_650 rfl rfl ?_
  refine x_aload_n (i := 0) C dL_law_651 rfl rfl ?_
  refine x_iload_n (i := 3) C dL_law_652 rfl rfl ?_
  refine x_iconst C dL_law_653 ?_
  refine x_iadd C dL_law_654 ?_
  refine L_sldz (j := i + 1) C hX (by omega) (by omega) (by omega) dL_law_655 ?_
  refine x_aload_n (i := 0) C dL_law_656 rfl rfl ?_
  refine x_iload_n (i := 3) C dL_law_657 rfl rfl ?_
  refine x_iconst C dL_law_658 ?_
  refine x_iadd C dL_law_659 ?_
  refine L_sldz (j := i + 2) C hX (by omega) (by omega) (by omega) dL_law_660 ?_
  refine L_call (R := PX (wM D ad2 cA2) Y) C ⟨rfl, rfl⟩ hW.1 hW.2.1 (L_keep (X := Y) hW.2.2.2.2.1) (xp_stop (z1 := zs (i + 1)) (z2 := zs (i + 2)) (hz _) (hz _) hHx hEx) ckL_67 im_X11_stop se_X11_stop (nlt rfl) rfl rfl rfl rfl rfl (nle rfl) ⟨nle rfl, nle rfl⟩ dL_law_661 (fun r X1 hp => ?_)
  obtain ⟨⟨u, rfl⟩, hHx1, hEx1, hFx⟩ := hp
  refine Wx_st (st' := [.int u]) rfl ?_
  refine x_pop C dL_law_664 rfl ?_
  refine x_aload_n (i := 2) C dL_law_665 rfl rfl ?_
  refine x_aload_n (i := 0) C dL_law_666 rfl rfl ?_
  refine x_iload_n (i := 3) C dL_law_667 rfl rfl ?_
  refine x_iconst C dL_law_668 ?_
  refine x_iadd C dL_law_669 ?_
  refine L_sldz (j := i + 1) C hX (by omega) (by omega) (by omega) dL_law_670 ?_
  refine x_aload_n (i := 0) C dL_law_671 rfl rfl ?_
  refine x_iload_n (i := 3) C dL_law_672 rfl rfl ?_
  refine x_iconst C dL_law_673 ?_
  refine x_iadd C dL_law_674 ?_
  refine L_sldz (j := i + 2) C hX (by omega) (by omega) (by omega) dL_law_675 ?_
  refine Wx_PH (PH' := fun H => PX (wM D ad2 cA2) Y H ∧ PX (wX D ad cA) X1 H) (fun H h => ⟨h.2, h.1⟩) ?_
  refine L_call (R := PX (wX D ad cA) X1) C ⟨rfl, rfl⟩ hW.2.2.1 hW.2.2.2.1 (L_keep (X := X1) (fun x h h9 => hW.2.2.2.2.1 x h9 h)) (rp_stop (z1 := zs (i + 1)) (z2 := zs (i + 2)) (hz _) (hz _) hHy hEy) ckL_70 im_X12_stop se_X12_stop (nlt rfl) rfl rfl rfl rfl rfl (nle rfl) ⟨nle rfl, nle rfl⟩ dL_law_676 (fun r Y1 hp => ?_)
  obtain ⟨⟨v, rfl⟩, hHy1, hEy1, hFy⟩ := hp
  refine Wx_st (st' := [.int v]) rfl ?_
  refine x_pop C dL_law_679 rfl ?_
  refine x_goto (tgt := 1443) C dL_law_680 (by decide) ?_
  have hR1 : TRL X1 Y1 := trl_fr hR hHy hFx hFy rfl rfl rfl rfl rfl rfl rfl
  refine Wx_PH (PH' := fun H => PX (wX D ad cA) X1 H ∧ PX (wM D ad2 cA2) Y1 H) (fun H h => ⟨h.2, h.1⟩) ?_
  exact hE X1 Y1 hHx1 hEx1 hHy1 hEy1 hR1
set_option maxHeartbeats 4000000 in
theorem lc_13 {E : ET} {D : va_G} {ad ad2 : Nat → Nat} {cA cA2 : Nat → ClassId} {b L i : Nat} {zs : Nat → Int} (C : CX E (wI D) cL_law 4 RL (some .boolean) room_1) (hX : LAW E b L (fun j => iI (zs j))) (hz : ∀ j, inR (zs j)) (hW : LW E D ad ad2 cA cA2) (i6 : i + 6 ≤ L) (hL : L ≤ 3072) {X Y : XT} (hHx : HG vX X) (hEx : gX.2 X) (hHy : HG vM Y) (hEy : gM.2 Y) (hR : TRL X Y) (hE : ∀ X1 Y1 : XT, HG vX X1 → gX.2 X1 → HG vM Y1 → gM.2 Y1 → TRL X1 Y1 → Wx E (wI D) 4 (fun H => PX (wX D ad cA) X1 H ∧ PX (wM D ad2 cA2) Y1 H) 1443 [(3, .int (iI ((i : Int)))), (2, .ref (ad2 0)), (1, .ref (ad 0)), (0, .ref b)] []) : Wx E (wI D) 4 (fun H => PX (wX D ad cA) X H ∧ PX (wM D ad2 cA2) Y H) 683 [(3, .int (iI ((i : Int)))), (2, .ref (ad2 0)), (1, .ref (ad 0)), (0, .ref b)] [] := by
  refine x_aload_n (i := 1) C dL_law_683 rfl rfl ?_
  refine x_aload_n (i := 0) C dL_law_684 rfl rfl ?_
  refine x_iload_n (i := 3) C dL_law_685 rfl rfl ?_
  refine x_iconst C dL_law_686 ?_
  refine x_iadd C dL_law_687 ?_
  refine L_sldz (j := i + 1) C hX (by omega) (by omega) (by omega) dL_law_688 ?_
  refine x_aload_n (i := 0) C dL_law_689 rfl rfl ?_
  refine x_iload_n (i := 3) C dL_law_690 rfl rfl ?_
  refine x_iconst C dL_law_691 ?_
  refine x_iadd C dL_law_692 ?_
  refine L_sldz (j := i + 2) C hX (by omega) (by omega) (by omega) dL_law_693 ?_
  refine x_aload_n (i := 0) C dL_law_694 rfl rfl ?_
  refine x_iload_n (i := 3) C dL_law_695 rfl rfl ?_
  refine x_iconst C dL_law_696 ?_
  refine x_iadd C dL_law_697 ?_
  refine L_sldz (j := i + 3) C hX (by omega) (by omega) (by omega) dL_law_698 ?_
  refine x_aload_n (i := 0) C dL_law_699 rfl rfl ?_
  refine x_iload_n (i := 3) C dL_law_700 rfl rfl ?_
  refine x_iconst C dL_law_701 ?_
  refine x_iadd C dL_law_702 ?_
  refine L_sldz (j := i + 4) C hX (by omega) (by omega) (by omega) dL_law_703 ?_
  refine L_call (R := PX (wM D ad2 cA2) Y) C ⟨rfl, rfl⟩ hW.1 hW.2.1 (L_keep (X := Y) hW.2.2.2.2.1) (xp_state (z1 := zs (i + 1)) (z2 := zs (i + 2)) (z3 := zs (i + 3)) (z4 := zs (i + 4)) (hz _) (hz _) (hz _) (hz _) hHx hEx) ckL_71 im_X11_state se_X11_state (nlt rfl) rfl rfl rfl rfl rfl (nle rfl) ⟨nle rfl, nle rfl⟩ dL_law_704 (fun r X1 hp => ?_)
  obtain ⟨⟨u, rfl⟩, hHx1, hEx1, hFx⟩ := hp
  refine Wx_st (st' := [.int u]) rfl ?_
  refine x_pop C dL_law_707 rfl ?_
  refine x_aload_n (i := 2) C dL_law_708 rfl rfl ?_
  refine x_aload_n (i := 0) C dL_law_709 rfl rfl ?_
  refine x_iload_n (i := 3) C dL_law_710 rfl rfl ?_
  refine x_iconst C dL_law_711 ?_
  refine x_iadd C dL_law_712 ?_
  refine L_sldz (j := i + 1) C hX (by omega) (by omega) (by omega) dL_law_713 ?_
  refine x_aload_n (i := 0) C dL_law_714 rfl rfl ?_
  refine x_iload_n (i := 3) C dL_law_715 rfl rfl ?_
  refine x_iconst C dL_law_716 ?_
  refine x_iadd C dL_law_717 ?_
  refine L_sldz (j := i + 2) C hX (by omega) (by omega) (by omega) dL_law_718 ?_
  refine x_aload_n (i := 0) C dL_law_719 rfl rfl ?_
  refine x_iload_n (i := 3) C dL_law_720 rfl rfl ?_
  refine x_iconst C dL_law_721 ?_
  refine x_iadd C dL_law_722 ?_
  refine L_sldz (j := i + 3) C hX (by omega) (by omega) (by omega) dL_law_723 ?_
  refine x_aload_n (i := 0) C dL_law_724 rfl rfl ?_
  refine x_iload_n (i := 3) C dL_law_725 rfl rfl ?_
  refine x_iconst C dL_law_726 ?_
  refine x_iadd C dL_law_727 ?_
  refine L_sldz (j := i + 4) C hX (by omega) (by omega) (by omega) dL_law_728 ?_
  refine Wx_PH (PH' := fun H => PX (wM D ad2 cA2) Y H ∧ PX (wX D ad cA) X1 H) (fun H h => ⟨h.2, h.1⟩) ?_
  refine L_call (R := PX (wX D ad cA) X1) C ⟨rfl, rfl⟩ hW.2.2.1 hW.2.2.2.1 (L_keep (X := X1) (fun x h h9 => hW.2.2.2.2.1 x h9 h)) (rp_state (z1 := zs (i + 1)) (z2 := zs (i + 2)) (z3 := zs (i + 3)) (z4 := zs (i + 4)) (hz _) (hz _) (hz _) (hz _) hHy hEy) ckL_74 im_X12_state se_X12_state (nlt rfl) rfl rfl rfl rfl rfl (nle rfl) ⟨nle rfl, nle rfl⟩ dL_law_729 (fun r Y1 hp => ?_)
  obtain ⟨⟨v, rfl⟩, hHy1, hEy1, hFy⟩ := hp
  refine Wx_st (st' := [.int v]) rfl ?_
  refine x_pop C dL_law_732 rfl ?_
  refine x_goto (tgt := 1443) C dL_law_733 (by decide) ?_
  have hR1 : TRL X1 Y1 := trl_fr hR hHy hFx hFy rfl rfl rfl rfl rfl rfl rfl
  refine Wx_PH (PH' := fun H => PX (wX D ad cA) X1 H ∧ PX (wM D ad2 cA2) Y1 H) (fun H h => ⟨h.2, h.1⟩) ?_
  exact hE X1 Y1 hHx1 hEx1 hHy1 hEy1 hR1
set_option maxHeartbeats 4000000 in
theorem lc_14 {E : ET} {D : va_G} {ad ad2 : Nat → Nat} {cA cA2 : Nat → ClassId} {b L i : Nat} {zs : Nat → Int} (C : CX E (wI D) cL_law 4 RL (some .boolean) room_1) (hX : LAW E b L (fun j => iI (zs j))) (hz : ∀ j, inR (zs j)) (hW : LW E D ad ad2 cA cA2) (i6 : i + 6 ≤ L) (hL : L ≤ 3072) {X Y : XT} (hHx : HG vX X) (hEx : gX.2 X) (hHy : HG vM Y) (hEy : gM.2 Y) (hR : TRL X Y) (hE : ∀ X1 Y1 : XT, HG vX X1 → gX.2 X1 → HG vM Y1 → gM.2 Y1 → TRL X1 Y1 → Wx E (wI D) 4 (fun H => PX (wX D ad cA) X1 H ∧ PX (wM D ad2 cA2) Y1 H) 1443 [(3, .int (iI ((i : Int)))), (2, .ref (ad2 0)), (1, .ref (ad 0)), (0, .ref b)] []) : Wx E (wI D) 4 (fun H => PX (wX D ad cA) X H ∧ PX (wM D ad2 cA2) Y H) 736 [(3, .int (iI ((i : Int)))), (2, .ref (ad2 0)), (1, .ref (ad 0)), (0, .ref b)] [] := by
  refine x_aload_n (i := 1) C dL_law_736 rfl rfl ?_
  refine x_aload_n (i := 0) C dL_law_737 rfl rfl ?_
  refine x_iload_n (i := 3) C dL_law_738 rfl rfl ?_
  refine x_iconst C dL_law_739 ?_
  refine x_iadd C dL_law_740 ?_
  refine L_sldz (j := i + 1) C hX (by omega) (by omega) (by omega) dL_law_741 ?_
  refine x_aload_n (i := 0) C dL_law_742 rfl rfl ?_
  refine x_iload_n (i := 3) C dL_law_743 rfl rfl ?_
  refine x_iconst C dL_law_744 ?_
  refine x_iadd C dL_law_745 ?_
  refine L_sldz (j := i + 2) C hX (by omega) (by omega) (by omega) dL_law_746 ?_
  refine x_aload_n (i := 0) C dL_law_747 rfl rfl ?_
  refine x_iload_n (i := 3) C dL_law_748 rfl rfl ?_
  refine x_iconst C dL_law_749 ?_
  refine x_iadd C dL_law_750 ?_
  refine L_sldz (j := i + 3) C hX (by omega) (by omega) (by omega) dL_law_751 ?_
  refine x_aload_n (i := 0) C dL_law_752 rfl rfl ?_
  refine x_iload_n (i := 3) C dL_law_753 rfl rfl ?_
  refine x_iconst C dL_law_754 ?_
  refine x_iadd C dL_law_755 ?_
  refine L_sldz (j := i + 4) C hX (by omega) (by omega) (by omega) dL_law_756 ?_
  refine L_call (R := PX (wM D ad2 cA2) Y) C ⟨rfl, rfl⟩ hW.1 hW.2.1 (L_keep (X := Y) hW.2.2.2.2.1) (xp_may (z1 := zs (i + 1)) (z2 := zs (i + 2)) (z3 := zs (i + 3)) (z4 := zs (i + 4)) (hz _) (hz _) (hz _) (hz _) hHx hEx) ckL_75 im_X11_may se_X11_may (nlt rfl) rfl rfl rfl rfl rfl (nle rfl) ⟨nle rfl, nle rfl⟩ dL_law_757 (fun r X1 hp => ?_)
  obtain ⟨⟨u, rfl⟩, hHx1, hEx1, hFx⟩ := hp
  refine Wx_st (st' := [.long u]) rfl ?_
  refine L_pop2 C dL_law_760 rfl ?_
  refine x_aload_n (i := 2) C dL_law_761 rfl rfl ?_
  refine x_aload_n (i := 0) C dL_law_762 rfl rfl ?_
  refine x_iload_n (i := 3) C dL_law_763 rfl rfl ?_
  refine x_iconst C dL_law_764 ?_
  refine x_iadd C dL_law_765 ?_
  refine L_sldz (j := i + 1) C hX (by omega) (by omega) (by omega) dL_law_766 ?_
  refine x_aload_n (i := 0) C dL_law_767 rfl rfl ?_
  refine x_iload_n (i := 3) C dL_law_768 rfl rfl ?_
  refine x_iconst C dL_law_769 ?_
  refine x_iadd C dL_law_770 ?_
  refine L_sldz (j := i + 2) C hX (by omega) (by omega) (by omega) dL_law_771 ?_
  refine x_aload_n (i := 0) C dL_law_772 rfl rfl ?_
  refine x_iload_n (i := 3) C dL_law_773 rfl rfl ?_
  refine x_iconst C dL_law_774 ?_
  refine x_iadd C dL_law_775 ?_
  refine L_sldz (j := i + 3) C hX (by omega) (by omega) (by omega) dL_law_776 ?_
  refine x_aload_n (i := 0) C dL_law_777 rfl rfl ?_
  refine x_iload_n (i := 3) C dL_law_778 rfl rfl ?_
  refine x_iconst C dL_law_779 ?_
  refine x_iadd C dL_law_780 ?_
  refine L_sldz (j := i + 4) C hX (by omega) (by omega) (by omega) dL_law_781 ?_
  refine Wx_PH (PH' := fun H => PX (wM D ad2 cA2) Y H ∧ PX (wX D ad cA) X1 H) (fun H h => ⟨h.2, h.1⟩) ?_
  refine L_call (R := PX (wX D ad cA) X1) C ⟨rfl, rfl⟩ hW.2.2.1 hW.2.2.2.1 (L_keep (X := X1) (fun x h h9 => hW.2.2.2.2.1 x h9 h)) (rp_may (z1 := zs (i + 1)) (z2 := zs (i + 2)) (z3 := zs (i + 3)) (z4 := zs (i + 4)) (hz _) (hz _) (hz _) (hz _) hHy hEy) ckL_79 im_X12_may se_X12_may (nlt rfl) rfl rfl rfl rfl rfl (nle rfl) ⟨nle rfl, nle rfl⟩ dL_law_782 (fun r Y1 hp => ?_)
  obtain ⟨⟨v, rfl⟩, hHy1, hEy1, hFy⟩ := hp
  refine Wx_st (st' := [.long v]) rfl ?_
  refine L_pop2 C dL_law_785 rfl ?_
  refine x_goto (tgt := 1443) C dL_law_786 (by decide) ?_
  have hR1 : TRL X1 Y1 := trl_fr hR hHy hFx hFy rfl rfl rfl rfl rfl rfl rfl
  refine Wx_PH (PH' := fun H => PX (wX D ad cA) X1 H ∧ PX (wM D ad2 cA2) Y1 H) (fun H h => ⟨h.2, h.1⟩) ?_
  exact hE X1 Y1 hHx1 hEx1 hHy1 hEy1 hR1
set_option maxHeartbeats 4000000 in
theorem lc_15 {E : ET} {D : va_G} {ad ad2 : Nat → Nat} {cA cA2 : Nat → ClassId} {b L i : Nat} {zs : Nat → Int} (C : CX E (wI D) cL_law 4 RL (some .boolean) room_1) (hX : LAW E b L (fun j => iI (zs j))) (hz : ∀ j, inR (zs j)) (hW : LW E D ad ad2 cA cA2) (i6 : i + 6 ≤ L) (hL : L ≤ 3072) {X Y : XT} (hHx : HG vX X) (hEx : gX.2 X) (hHy : HG vM Y) (hEy : gM.2 Y) (hR : TRL X Y) (hE : ∀ X1 Y1 : XT, HG vX X1 → gX.2 X1 → HG vM Y1 → gM.2 Y1 → TRL X1 Y1 → Wx E (wI D) 4 (fun H => PX (wX D ad cA) X1 H ∧ PX (wM D ad2 cA2) Y1 H) 1443 [(3, .int (iI ((i : Int)))), (2, .ref (ad2 0)), (1, .ref (ad 0)), (0, .ref b)] []) : Wx E (wI D) 4 (fun H => PX (wX D ad cA) X H ∧ PX (wM D ad2 cA2) Y H) 789 [(3, .int (iI ((i : Int)))), (2, .ref (ad2 0)), (1, .ref (ad 0)), (0, .ref b)] [] := by
  refine x_aload_n (i := 1) C dL_law_789 rfl rfl ?_
  refine x_aload_n (i := 0) C dL_law_790 rfl rfl ?_
  refine x_iload_n (i := 3) C dL_law_791 rfl rfl ?_
  refine x_iconst C dL_law_792 ?_
  refine x_iadd C dL_law_793 ?_
  refine L_sldz (j := i + 1) C hX (by omega) (by omega) (by omega) dL_law_794 ?_
  refine x_aload_n (i := 0) C dL_law_795 rfl rfl ?_
  refine x_iload_n (i := 3) C dL_law_796 rfl rfl ?_
  refine x_iconst C dL_law_797 ?_
  refine x_iadd C dL_law_798 ?_
  refine L_sldz (j := i + 2) C hX (by omega) (by omega) (by omega) dL_law_799 ?_
  refine x_aload_n (i := 0) C dL_law_800 rfl rfl ?_
  refine x_iload_n (i := 3) C dL_law_801 rfl rfl ?_
  refine x_iconst C dL_law_802 ?_
  refine x_iadd C dL_law_803 ?_
  refine L_sldz (j := i + 3) C hX (by omega) (by omega) (by omega) dL_law_804 ?_
  refine x_aload_n (i := 0) C dL_law_805 rfl rfl ?_
  refine x_iload_n (i := 3) C dL_law_806 rfl rfl ?_
  refine x_iconst C dL_law_807 ?_
  refine x_iadd C dL_law_808 ?_
  refine L_sldz (j := i + 4) C hX (by omega) (by omega) (by omega) dL_law_809 ?_
  refine x_if_eq (tgt := 817) C dL_law_810 (by decide) (hz _) (fun h4 => ?_) (fun h4 => ?_)
  · skip
    refine x_iconst C dL_law_817 ?_
    refine L_call (R := PX (wM D ad2 cA2) Y) C ⟨rfl, rfl⟩ hW.1 hW.2.1 (L_keep (X := Y) hW.2.2.2.2.1) (xp_fatal (z1 := zs (i + 1)) (z2 := zs (i + 2)) (z3 := zs (i + 3)) (z4 := 0) (hz _) (hz _) (hz _) ⟨by decide, by decide⟩ hHx hEx) ckL_80 im_X11_fatal se_X11_fatal (nlt rfl) rfl rfl rfl rfl rfl (nle rfl) ⟨nle rfl, nle rfl⟩ dL_law_818 (fun r X1 hp => ?_)
    obtain ⟨⟨u, rfl⟩, hHx1, hEx1, hFx⟩ := hp
    refine Wx_st (st' := [.int u]) rfl ?_
    refine x_pop C dL_law_821 rfl ?_
    refine x_aload_n (i := 2) C dL_law_822 rfl rfl ?_
    refine x_aload_n (i := 0) C dL_law_823 rfl rfl ?_
    refine x_iload_n (i := 3) C dL_law_824 rfl rfl ?_
    refine x_iconst C dL_law_825 ?_
    refine x_iadd C dL_law_826 ?_
    refine L_sldz (j := i + 1) C hX (by omega) (by omega) (by omega) dL_law_827 ?_
    refine x_aload_n (i := 0) C dL_law_828 rfl rfl ?_
    refine x_iload_n (i := 3) C dL_law_829 rfl rfl ?_
    refine x_iconst C dL_law_830 ?_
    refine x_iadd C dL_law_831 ?_
    refine L_sldz (j := i + 2) C hX (by omega) (by omega) (by omega) dL_law_832 ?_
    refine x_aload_n (i := 0) C dL_law_833 rfl rfl ?_
    refine x_iload_n (i := 3) C dL_law_834 rfl rfl ?_
    refine x_iconst C dL_law_835 ?_
    refine x_iadd C dL_law_836 ?_
    refine L_sldz (j := i + 3) C hX (by omega) (by omega) (by omega) dL_law_837 ?_
    refine x_aload_n (i := 0) C dL_law_838 rfl rfl ?_
    refine x_iload_n (i := 3) C dL_law_839 rfl rfl ?_
    refine x_iconst C dL_law_840 ?_
    refine x_iadd C dL_law_841 ?_
    refine L_sldz (j := i + 4) C hX (by omega) (by omega) (by omega) dL_law_842 ?_
    refine x_if_eq (tgt := 850) C dL_law_843 (by decide) (hz _) (fun _ => ?_) (fun h => absurd h4 h)
    refine x_iconst C dL_law_850 ?_
    refine Wx_PH (PH' := fun H => PX (wM D ad2 cA2) Y H ∧ PX (wX D ad cA) X1 H) (fun H h => ⟨h.2, h.1⟩) ?_
    refine L_call (R := PX (wX D ad cA) X1) C ⟨rfl, rfl⟩ hW.2.2.1 hW.2.2.2.1 (L_keep (X := X1) (fun x h h9 => hW.2.2.2.2.1 x h9 h)) (rp_fatal (z1 := zs (i + 1)) (z2 := zs (i + 2)) (z3 := zs (i + 3)) (z4 := 0) (hz _) (hz _) (hz _) ⟨by decide, by decide⟩ hHy hEy) ckL_84 im_X12_fatal se_X12_fatal (nlt rfl) rfl rfl rfl rfl rfl (nle rfl) ⟨nle rfl, nle rfl⟩ dL_law_851 (fun r Y1 hp => ?_)
    obtain ⟨⟨v, rfl⟩, hHy1, hEy1, hFy⟩ := hp
    refine Wx_st (st' := [.int v]) rfl ?_
    refine x_pop C dL_law_854 rfl ?_
    refine x_goto (tgt := 1443) C dL_law_855 (by decide) ?_
    have hR1 : TRL X1 Y1 := trl_fr hR hHy hFx hFy rfl rfl rfl rfl rfl rfl rfl
    refine Wx_PH (PH' := fun H => PX (wX D ad cA) X1 H ∧ PX (wM D ad2 cA2) Y1 H) (fun H h => ⟨h.2, h.1⟩) ?_
    exact hE X1 Y1 hHx1 hEx1 hHy1 hEy1 hR1
  · skip
    refine x_iconst C dL_law_813 ?_
    refine x_goto (tgt := 818) C dL_law_814 (by decide) ?_
    refine L_call (R := PX (wM D ad2 cA2) Y) C ⟨rfl, rfl⟩ hW.1 hW.2.1 (L_keep (X := Y) hW.2.2.2.2.1) (xp_fatal (z1 := zs (i + 1)) (z2 := zs (i + 2)) (z3 := zs (i + 3)) (z4 := 1) (hz _) (hz _) (hz _) ⟨by decide, by decide⟩ hHx hEx) ckL_80 im_X11_fatal se_X11_fatal (nlt rfl) rfl rfl rfl rfl rfl (nle rfl) ⟨nle rfl, nle rfl⟩ dL_law_818 (fun r X1 hp => ?_)
    obtain ⟨⟨u, rfl⟩, hHx1, hEx1, hFx⟩ := hp
    refine Wx_st (st' := [.int u]) rfl ?_
    refine x_pop C dL_law_821 rfl ?_
    refine x_aload_n (i := 2) C dL_law_822 rfl rfl ?_
    refine x_aload_n (i := 0) C dL_law_823 rfl rfl ?_
    refine x_iload_n (i := 3) C dL_law_824 rfl rfl ?_
    refine x_iconst C dL_law_825 ?_
    refine x_iadd C dL_law_826 ?_
    refine L_sldz (j := i + 1) C hX (by omega) (by omega) (by omega) dL_law_827 ?_
    refine x_aload_n (i := 0) C dL_law_828 rfl rfl ?_
    refine x_iload_n (i := 3) C dL_law_829 rfl rfl ?_
    refine x_iconst C dL_law_830 ?_
    refine x_iadd C dL_law_831 ?_
    refine L_sldz (j := i + 2) C hX (by omega) (by omega) (by omega) dL_law_832 ?_
    refine x_aload_n (i := 0) C dL_law_833 rfl rfl ?_
    refine x_iload_n (i := 3) C dL_law_834 rfl rfl ?_
    refine x_iconst C dL_law_835 ?_
    refine x_iadd C dL_law_836 ?_
    refine L_sldz (j := i + 3) C hX (by omega) (by omega) (by omega) dL_law_837 ?_
    refine x_aload_n (i := 0) C dL_law_838 rfl rfl ?_
    refine x_iload_n (i := 3) C dL_law_839 rfl rfl ?_
    refine x_iconst C dL_law_840 ?_
    refine x_iadd C dL_law_841 ?_
    refine L_sldz (j := i + 4) C hX (by omega) (by omega) (by omega) dL_law_842 ?_
    refine x_if_eq (tgt := 850) C dL_law_843 (by decide) (hz _) (fun h => absurd h h4) (fun _ => ?_)
    refine x_iconst C dL_law_846 ?_
    refine x_goto (tgt := 851) C dL_law_847 (by decide) ?_
    refine Wx_PH (PH' := fun H => PX (wM D ad2 cA2) Y H ∧ PX (wX D ad cA) X1 H) (fun H h => ⟨h.2, h.1⟩) ?_
    refine L_call (R := PX (wX D ad cA) X1) C ⟨rfl, rfl⟩ hW.2.2.1 hW.2.2.2.1 (L_keep (X := X1) (fun x h h9 => hW.2.2.2.2.1 x h9 h)) (rp_fatal (z1 := zs (i + 1)) (z2 := zs (i + 2)) (z3 := zs (i + 3)) (z4 := 1) (hz _) (hz _) (hz _) ⟨by decide, by decide⟩ hHy hEy) ckL_84 im_X12_fatal se_X12_fatal (nlt rfl) rfl rfl rfl rfl rfl (nle rfl) ⟨nle rfl, nle rfl⟩ dL_law_851 (fun r Y1 hp => ?_)
    obtain ⟨⟨v, rfl⟩, hHy1, hEy1, hFy⟩ := hp
    refine Wx_st (st' := [.int v]) rfl ?_
    refine x_pop C dL_law_854 rfl ?_
    refine x_goto (tgt := 1443) C dL_law_855 (by decide) ?_
    have hR1 : TRL X1 Y1 := trl_fr hR hHy hFx hFy rfl rfl rfl rfl rfl rfl rfl
    refine Wx_PH (PH' := fun H => PX (wX D ad cA) X1 H ∧ PX (wM D ad2 cA2) Y1 H) (fun H h => ⟨h.2, h.1⟩) ?_
    exact hE X1 Y1 hHx1 hEx1 hHy1 hEy1 hR1
set_option maxHeartbeats 4000000 in
theorem lc_16 {E : ET} {D : va_G} {ad ad2 : Nat → Nat} {cA cA2 : Nat → ClassId} {b L i : Nat} {zs : Nat → Int} (C : CX E (wI D) cL_law 4 RL (some .boolean) room_1) (hX : LAW E b L (fun j => iI (zs j))) (hz : ∀ j, inR (zs j)) (hW : LW E D ad ad2 cA cA2) (i6 : i + 6 ≤ L) (hL : L ≤ 3072) {X Y : XT} (hHx : HG vX X) (hEx : gX.2 X) (hHy : HG vM Y) (hEy : gM.2 Y) (hR : TRL X Y) (hE : ∀ X1 Y1 : XT, HG vX X1 → gX.2 X1 → HG vM Y1 → gM.2 Y1 → TRL X1 Y1 → Wx E (wI D) 4 (fun H => PX (wX D ad cA) X1 H ∧ PX (wM D ad2 cA2) Y1 H) 1443 [(3, .int (iI ((i : Int)))), (2, .ref (ad2 0)), (1, .ref (ad 0)), (0, .ref b)] []) : Wx E (wI D) 4 (fun H => PX (wX D ad cA) X H ∧ PX (wM D ad2 cA2) Y H) 858 [(3, .int (iI ((i : Int)))), (2, .ref (ad2 0)), (1, .ref (ad 0)), (0, .ref b)] [] := by
  refine x_aload_n (i := 1) C dL_law_858 rfl rfl ?_
  refine x_aload_n (i := 0) C dL_law_859 rfl rfl ?_
  refine x_iload_n (i := 3) C dL_law_860 rfl rfl ?_
  refine x_iconst C dL_law_861 ?_
  refine x_iadd C dL_law_862 ?_
  refine L_sldz (j := i + 1) C hX (by omega) (by omega) (by omega) dL_law_863 ?_
  refine x_aload_n (i := 0) C dL_law_864 rfl rfl ?_
  refine x_iload_n (i := 3) C dL_law_865 rfl rfl ?_
  refine x_iconst C dL_law_866 ?_
  refine x_iadd C dL_law_867 ?_
  refine L_sldz (j := i + 2) C hX (by omega) (by omega) (by omega) dL_law_868 ?_
  refine x_aload_n (i := 0) C dL_law_869 rfl rfl ?_
  refine x_iload_n (i := 3) C dL_law_870 rfl rfl ?_
  refine x_iconst C dL_law_871 ?_
  refine x_iadd C dL_law_872 ?_
  refine L_sldz (j := i + 3) C hX (by omega) (by omega) (by omega) dL_law_873 ?_
  refine L_call (R := PX (wM D ad2 cA2) Y) C ⟨rfl, rfl⟩ hW.1 hW.2.1 (L_keep (X := Y) hW.2.2.2.2.1) (xp_loses (z1 := zs (i + 1)) (z2 := zs (i + 2)) (z3 := zs (i + 3)) (hz _) (hz _) (hz _) hHx hEx) ckL_85 im_X11_loses se_X11_loses (nlt rfl) rfl rfl rfl rfl rfl (nle rfl) ⟨nle rfl, nle rfl⟩ dL_law_874 (fun r X1 hp => ?_)
  obtain ⟨⟨u, rfl⟩, hHx1, hEx1, hFx⟩ := hp
  refine Wx_st (st' := [.int u]) rfl ?_
  refine x_pop C dL_law_877 rfl ?_
  refine x_aload_n (i := 2) C dL_law_878 rfl rfl ?_
  refine x_aload_n (i := 0) C dL_law_879 rfl rfl ?_
  refine x_iload_n (i := 3) C dL_law_880 rfl rfl ?_
  refine x_iconst C dL_law_881 ?_
  refine x_iadd C dL_law_882 ?_
  refine L_sldz (j := i + 1) C hX (by omega) (by omega) (by omega) dL_law_883 ?_
  refine x_aload_n (i := 0) C dL_law_884 rfl rfl ?_
  refine x_iload_n (i := 3) C dL_law_885 rfl rfl ?_
  refine x_iconst C dL_law_886 ?_
  refine x_iadd C dL_law_887 ?_
  refine L_sldz (j := i + 2) C hX (by omega) (by omega) (by omega) dL_law_888 ?_
  refine x_aload_n (i := 0) C dL_law_889 rfl rfl ?_
  refine x_iload_n (i := 3) C dL_law_890 rfl rfl ?_
  refine x_iconst C dL_law_891 ?_
  refine x_iadd C dL_law_892 ?_
  refine L_sldz (j := i + 3) C hX (by omega) (by omega) (by omega) dL_law_893 ?_
  refine Wx_PH (PH' := fun H => PX (wM D ad2 cA2) Y H ∧ PX (wX D ad cA) X1 H) (fun H h => ⟨h.2, h.1⟩) ?_
  refine L_call (R := PX (wX D ad cA) X1) C ⟨rfl, rfl⟩ hW.2.2.1 hW.2.2.2.1 (L_keep (X := X1) (fun x h h9 => hW.2.2.2.2.1 x h9 h)) (rp_loses (z1 := zs (i + 1)) (z2 := zs (i + 2)) (z3 := zs (i + 3)) (hz _) (hz _) (hz _) hHy hEy) ckL_89 im_X12_loses se_X12_loses (nlt rfl) rfl rfl rfl rfl rfl (nle rfl) ⟨nle rfl, nle rfl⟩ dL_law_894 (fun r Y1 hp => ?_)
  obtain ⟨⟨v, rfl⟩, hHy1, hEy1, hFy⟩ := hp
  refine Wx_st (st' := [.int v]) rfl ?_
  refine x_pop C dL_law_897 rfl ?_
  refine x_goto (tgt := 1443) C dL_law_898 (by decide) ?_
  have hR1 : TRL X1 Y1 := trl_fr hR hHy hFx hFy rfl rfl rfl rfl rfl rfl rfl
  refine Wx_PH (PH' := fun H => PX (wX D ad cA) X1 H ∧ PX (wM D ad2 cA2) Y1 H) (fun H h => ⟨h.2, h.1⟩) ?_
  exact hE X1 Y1 hHx1 hEx1 hHy1 hEy1 hR1
set_option maxHeartbeats 4000000 in
theorem lc_17 {E : ET} {D : va_G} {ad ad2 : Nat → Nat} {cA cA2 : Nat → ClassId} {b L i : Nat} {zs : Nat → Int} (C : CX E (wI D) cL_law 4 RL (some .boolean) room_1) (hX : LAW E b L (fun j => iI (zs j))) (hz : ∀ j, inR (zs j)) (hW : LW E D ad ad2 cA cA2) (i6 : i + 6 ≤ L) (hL : L ≤ 3072) {X Y : XT} (hHx : HG vX X) (hEx : gX.2 X) (hHy : HG vM Y) (hEy : gM.2 Y) (hR : TRL X Y) (hE : ∀ X1 Y1 : XT, HG vX X1 → gX.2 X1 → HG vM Y1 → gM.2 Y1 → TRL X1 Y1 → Wx E (wI D) 4 (fun H => PX (wX D ad cA) X1 H ∧ PX (wM D ad2 cA2) Y1 H) 1443 [(3, .int (iI ((i : Int)))), (2, .ref (ad2 0)), (1, .ref (ad 0)), (0, .ref b)] []) : Wx E (wI D) 4 (fun H => PX (wX D ad cA) X H ∧ PX (wM D ad2 cA2) Y H) 901 [(3, .int (iI ((i : Int)))), (2, .ref (ad2 0)), (1, .ref (ad 0)), (0, .ref b)] [] := by
  refine x_aload_n (i := 1) C dL_law_901 rfl rfl ?_
  refine x_aload_n (i := 0) C dL_law_902 rfl rfl ?_
  refine x_iload_n (i := 3) C dL_law_903 rfl rfl ?_
  refine x_iconst C dL_law_904 ?_
  refine x_iadd C dL_law_905 ?_
  refine L_sldz (j := i + 1) C hX (by omega) (by omega) (by omega) dL_law_906 ?_
  refine x_aload_n (i := 0) C dL_law_907 rfl rfl ?_
  refine x_iload_n (i := 3) C dL_law_908 rfl rfl ?_
  refine x_iconst C dL_law_909 ?_
  refine x_iadd C dL_law_910 ?_
  refine L_sldz (j := i + 2) C hX (by omega) (by omega) (by omega) dL_law_911 ?_
  refine x_aload_n (i := 0) C dL_law_912 rfl rfl ?_
  refine x_iload_n (i := 3) C dL_law_913 rfl rfl ?_
  refine x_iconst C dL_law_914 ?_
  refine x_iadd C dL_law_915 ?_
  refine L_sldz (j := i + 3) C hX (by omega) (by omega) (by omega) dL_law_916 ?_
  refine L_call (R := PX (wM D ad2 cA2) Y) C ⟨rfl, rfl⟩ hW.1 hW.2.1 (L_keep (X := Y) hW.2.2.2.2.1) (xp_brave (z1 := zs (i + 1)) (z2 := zs (i + 2)) (z3 := zs (i + 3)) (hz _) (hz _) (hz _) hHx hEx) ckL_90 im_X11_brave se_X11_brave (nlt rfl) rfl rfl rfl rfl rfl (nle rfl) ⟨nle rfl, nle rfl⟩ dL_law_917 (fun r X1 hp => ?_)
  obtain ⟨⟨u, rfl⟩, hHx1, hEx1, hFx⟩ := hp
  refine Wx_st (st' := [.int u]) rfl ?_
  refine x_pop C dL_law_920 rfl ?_
  refine x_aload_n (i := 2) C dL_law_921 rfl rfl ?_
  refine x_aload_n (i := 0) C dL_law_922 rfl rfl ?_
  refine x_iload_n (i := 3) C dL_law_923 rfl rfl ?_
  refine x_iconst C dL_law_924 ?_
  refine x_iadd C dL_law_925 ?_
  refine L_sldz (j := i + 1) C hX (by omega) (by omega) (by omega) dL_law_926 ?_
  refine x_aload_n (i := 0) C dL_law_927 rfl rfl ?_
  refine x_iload_n (i := 3) C dL_law_928 rfl rfl ?_
  refine x_iconst C dL_law_929 ?_
  refine x_iadd C dL_law_930 ?_
  refine L_sldz (j := i + 2) C hX (by omega) (by omega) (by omega) dL_law_931 ?_
  refine x_aload_n (i := 0) C dL_law_932 rfl rfl ?_
  refine x_iload_n (i := 3) C dL_law_933 rfl rfl ?_
  refine x_iconst C dL_law_934 ?_
  refine x_iadd C dL_law_935 ?_
  refine L_sldz (j := i + 3) C hX (by omega) (by omega) (by omega) dL_law_936 ?_
  refine Wx_PH (PH' := fun H => PX (wM D ad2 cA2) Y H ∧ PX (wX D ad cA) X1 H) (fun H h => ⟨h.2, h.1⟩) ?_
  refine L_call (R := PX (wX D ad cA) X1) C ⟨rfl, rfl⟩ hW.2.2.1 hW.2.2.2.1 (L_keep (X := X1) (fun x h h9 => hW.2.2.2.2.1 x h9 h)) (rp_brave (z1 := zs (i + 1)) (z2 := zs (i + 2)) (z3 := zs (i + 3)) (hz _) (hz _) (hz _) hHy hEy) ckL_93 im_X12_brave se_X12_brave (nlt rfl) rfl rfl rfl rfl rfl (nle rfl) ⟨nle rfl, nle rfl⟩ dL_law_937 (fun r Y1 hp => ?_)
  obtain ⟨⟨v, rfl⟩, hHy1, hEy1, hFy⟩ := hp
  refine Wx_st (st' := [.int v]) rfl ?_
  refine x_pop C dL_law_940 rfl ?_
  refine x_goto (tgt := 1443) C dL_law_941 (by decide) ?_
  have hR1 : TRL X1 Y1 := trl_fr hR hHy hFx hFy rfl rfl rfl rfl rfl rfl rfl
  refine Wx_PH (PH' := fun H => PX (wX D ad cA) X1 H ∧ PX (wM D ad2 cA2) Y1 H) (fun H h => ⟨h.2, h.1⟩) ?_
  exact hE X1 Y1 hHx1 hEx1 hHy1 hEy1 hR1
set_option maxHeartbeats 4000000 in
theorem lc_18 {E : ET} {D : va_G} {ad ad2 : Nat → Nat} {cA cA2 : Nat → ClassId} {b L i : Nat} {zs : Nat → Int} (C : CX E (wI D) cL_law 4 RL (some .boolean) room_1) (hX : LAW E b L (fun j => iI (zs j))) (hz : ∀ j, inR (zs j)) (hW : LW E D ad ad2 cA cA2) (i6 : i + 6 ≤ L) (hL : L ≤ 3072) {X Y : XT} (hHx : HG vX X) (hEx : gX.2 X) (hHy : HG vM Y) (hEy : gM.2 Y) (hR : TRL X Y) (hE : ∀ X1 Y1 : XT, HG vX X1 → gX.2 X1 → HG vM Y1 → gM.2 Y1 → TRL X1 Y1 → Wx E (wI D) 4 (fun H => PX (wX D ad cA) X1 H ∧ PX (wM D ad2 cA2) Y1 H) 1443 [(3, .int (iI ((i : Int)))), (2, .ref (ad2 0)), (1, .ref (ad 0)), (0, .ref b)] []) : Wx E (wI D) 4 (fun H => PX (wX D ad cA) X H ∧ PX (wM D ad2 cA2) Y H) 944 [(3, .int (iI ((i : Int)))), (2, .ref (ad2 0)), (1, .ref (ad 0)), (0, .ref b)] [] := by
  refine x_aload_n (i := 1) C dL_law_944 rfl rfl ?_
  refine x_aload_n (i := 0) C dL_law_945 rfl rfl ?_
  refine x_iload_n (i := 3) C dL_law_946 rfl rfl ?_
  refine x_iconst C dL_law_947 ?_
  refine x_iadd C dL_law_948 ?_
  refine L_sldz (j := i + 1) C hX (by omega) (by omega) (by omega) dL_law_949 ?_
  refine x_aload_n (i := 0) C dL_law_950 rfl rfl ?_
  refine x_iload_n (i := 3) C dL_law_951 rfl rfl ?_
  refine x_iconst C dL_law_952 ?_
  refine x_iadd C dL_law_953 ?_
  refine L_sldz (j := i + 2) C hX (by omega) (by omega) (by omega) dL_law_954 ?_
  refine x_aload_n (i := 0) C dL_law_955 rfl rfl ?_
  refine x_iload_n (i := 3) C dL_law_956 rfl rfl ?_
  refine x_iconst C dL_law_957 ?_
  refine x_iadd C dL_law_958 ?_
  refine L_sldz (j := i + 3) C hX (by omega) (by omega) (by omega) dL_law_959 ?_
  refine x_aload_n (i := 0) C dL_law_960 rfl rfl ?_
  refine x_iload_n (i := 3) C dL_law_961 rfl rfl ?_
  refine x_iconst C dL_law_962 ?_
  refine x_iadd C dL_law_963 ?_
  refine L_sldz (j := i + 4) C hX (by omega) (by omega) (by omega) dL_law_964 ?_
  refine L_call (R := PX (wM D ad2 cA2) Y) C ⟨rfl, rfl⟩ hW.1 hW.2.1 (L_keep (X := Y) hW.2.2.2.2.1) (xp_binds (z1 := zs (i + 1)) (z2 := zs (i + 2)) (z3 := zs (i + 3)) (z4 := zs (i + 4)) (hz _) (hz _) (hz _) (hz _) hHx hEx) ckL_94 im_X11_binds se_X11_binds (nlt rfl) rfl rfl rfl rfl rfl (nle rfl) ⟨nle rfl, nle rfl⟩ dL_law_965 (fun r X1 hp => ?_)
  obtain ⟨⟨u, rfl⟩, hHx1, hEx1, hFx⟩ := hp
  refine Wx_st (st' := [.int u]) rfl ?_
  refine x_pop C dL_law_968 rfl ?_
  refine x_aload_n (i := 2) C dL_law_969 rfl rfl ?_
  refine x_aload_n (i := 0) C dL_law_970 rfl rfl ?_
  refine x_iload_n (i := 3) C dL_law_971 rfl rfl ?_
  refine x_iconst C dL_law_972 ?_
  refine x_iadd C dL_law_973 ?_
  refine L_sldz (j := i + 1) C hX (by omega) (by omega) (by omega) dL_law_974 ?_
  refine x_aload_n (i := 0) C dL_law_975 rfl rfl ?_
  refine x_iload_n (i := 3) C dL_law_976 rfl rfl ?_
  refine x_iconst C dL_law_977 ?_
  refine x_iadd C dL_law_978 ?_
  refine L_sldz (j := i + 2) C hX (by omega) (by omega) (by omega) dL_law_979 ?_
  refine x_aload_n (i := 0) C dL_law_980 rfl rfl ?_
  refine x_iload_n (i := 3) C dL_law_981 rfl rfl ?_
  refine x_iconst C dL_law_982 ?_
  refine x_iadd C dL_law_983 ?_
  refine L_sldz (j := i + 3) C hX (by omega) (by omega) (by omega) dL_law_984 ?_
  refine x_aload_n (i := 0) C dL_law_985 rfl rfl ?_
  refine x_iload_n (i := 3) C dL_law_986 rfl rfl ?_
  refine x_iconst C dL_law_987 ?_
  refine x_iadd C dL_law_988 ?_
  refine L_sldz (j := i + 4) C hX (by omega) (by omega) (by omega) dL_law_989 ?_
  refine Wx_PH (PH' := fun H => PX (wM D ad2 cA2) Y H ∧ PX (wX D ad cA) X1 H) (fun H h => ⟨h.2, h.1⟩) ?_
  refine L_call (R := PX (wX D ad cA) X1) C ⟨rfl, rfl⟩ hW.2.2.1 hW.2.2.2.1 (L_keep (X := X1) (fun x h h9 => hW.2.2.2.2.1 x h9 h)) (rp_binds (z1 := zs (i + 1)) (z2 := zs (i + 2)) (z3 := zs (i + 3)) (z4 := zs (i + 4)) (hz _) (hz _) (hz _) (hz _) hHy hEy) ckL_97 im_X12_binds se_X12_binds (nlt rfl) rfl rfl rfl rfl rfl (nle rfl) ⟨nle rfl, nle rfl⟩ dL_law_990 (fun r Y1 hp => ?_)
  obtain ⟨⟨v, rfl⟩, hHy1, hEy1, hFy⟩ := hp
  refine Wx_st (st' := [.int v]) rfl ?_
  refine x_pop C dL_law_993 rfl ?_
  refine x_goto (tgt := 1443) C dL_law_994 (by decide) ?_
  have hR1 : TRL X1 Y1 := trl_fr hR hHy hFx hFy rfl rfl rfl rfl rfl rfl rfl
  refine Wx_PH (PH' := fun H => PX (wX D ad cA) X1 H ∧ PX (wM D ad2 cA2) Y1 H) (fun H h => ⟨h.2, h.1⟩) ?_
  exact hE X1 Y1 hHx1 hEx1 hHy1 hEy1 hR1
set_option maxHeartbeats 4000000 in
theorem lc_19 {E : ET} {D : va_G} {ad ad2 : Nat → Nat} {cA cA2 : Nat → ClassId} {b L i : Nat} {zs : Nat → Int} (C : CX E (wI D) cL_law 4 RL (some .boolean) room_1) (hX : LAW E b L (fun j => iI (zs j))) (hz : ∀ j, inR (zs j)) (hW : LW E D ad ad2 cA cA2) (i6 : i + 6 ≤ L) (hL : L ≤ 3072) {X Y : XT} (hHx : HG vX X) (hEx : gX.2 X) (hHy : HG vM Y) (hEy : gM.2 Y) (hR : TRL X Y) (hE : ∀ X1 Y1 : XT, HG vX X1 → gX.2 X1 → HG vM Y1 → gM.2 Y1 → TRL X1 Y1 → Wx E (wI D) 4 (fun H => PX (wX D ad cA) X1 H ∧ PX (wM D ad2 cA2) Y1 H) 1443 [(3, .int (iI ((i : Int)))), (2, .ref (ad2 0)), (1, .ref (ad 0)), (0, .ref b)] []) : Wx E (wI D) 4 (fun H => PX (wX D ad cA) X H ∧ PX (wM D ad2 cA2) Y H) 997 [(3, .int (iI ((i : Int)))), (2, .ref (ad2 0)), (1, .ref (ad 0)), (0, .ref b)] [] := by
  refine x_aload_n (i := 1) C dL_law_997 rfl rfl ?_
  refine x_aload_n (i := 0) C dL_law_998 rfl rfl ?_
  refine x_iload_n (i := 3) C dL_law_999 rfl rfl ?_
  refine x_iconst C dL_law_1000 ?_
  refine x_iadd C dL_law_1001 ?_
  refine L_sldz (j := i + 1) C hX (by omega) (by omega) (by omega) dL_law_1002 ?_
  refine x_aload_n (i := 0) C dL_law_1003 rfl rfl ?_
  refine x_iload_n (i := 3) C dL_law_1004 rfl rfl ?_
  refine x_iconst C dL_law_1005 ?_
  refine x_iadd C dL_law_1006 ?_
  refine L_sldz (j := i + 2) C hX (by omega) (by omega) (by omega) dL_law_1007 ?_
  refine x_aload_n (i := 0) C dL_law_1008 rfl rfl ?_
  refine x_iload_n (i := 3) C dL_law_1009 rfl rfl ?_
  refine x_iconst C dL_law_1010 ?_
  refine x_iadd C dL_law_1011 ?_
  refine L_sldz (j := i + 3) C hX (by omega) (by omega) (by omega) dL_law_1012 ?_
  refine x_aload_n (i := 0) C dL_law_1013 rfl rfl ?_
  refine x_iload_n (i := 3) C dL_law_1014 rfl rfl ?_
  refine x_iconst C dL_law_1015 ?_
  refine x_iadd C dL_law_1016 ?_
  refine L_sldz (j := i + 4) C hX (by omega) (by omega) (by omega) dL_law_1017 ?_
  refine L_call (R := PX (wM D ad2 cA2) Y) C ⟨rfl, rfl⟩ hW.1 hW.2.1 (L_keep (X := Y) hW.2.2.2.2.1) (xp_drive (z1 := zs (i + 1)) (z2 := zs (i + 2)) (z3 := zs (i + 3)) (z4 := zs (i + 4)) (hz _) (hz _) (hz _) (hz _) hHx hEx) ckL_98 im_X11_drive se_X11_drive (nlt rfl) rfl rfl rfl rfl rfl (nle rfl) ⟨nle rfl, nle rfl⟩ dL_law_1018 (fun r X1 hp => ?_)
  obtain ⟨⟨u, rfl⟩, hHx1, hEx1, hFx⟩ := hp
  refine Wx_st (st' := [.int u]) rfl ?_
  refine x_pop C dL_law_1021 rfl ?_
  refine x_aload_n (i := 2) C dL_law_1022 rfl rfl ?_
  refine x_aload_n (i := 0) C dL_law_1023 rfl rfl ?_
  refine x_iload_n (i := 3) C dL_law_1024 rfl rfl ?_
  refine x_iconst C dL_law_1025 ?_
  refine x_iadd C dL_law_1026 ?_
  refine L_sldz (j := i + 1) C hX (by omega) (by omega) (by omega) dL_law_1027 ?_
  refine x_aload_n (i := 0) C dL_law_1028 rfl rfl ?_
  refine x_iload_n (i := 3) C dL_law_1029 rfl rfl ?_
  refine x_iconst C dL_law_1030 ?_
  refine x_iadd C dL_law_1031 ?_
  refine L_sldz (j := i + 2) C hX (by omega) (by omega) (by omega) dL_law_1032 ?_
  refine x_aload_n (i := 0) C dL_law_1033 rfl rfl ?_
  refine x_iload_n (i := 3) C dL_law_1034 rfl rfl ?_
  refine x_iconst C dL_law_1035 ?_
  refine x_iadd C dL_law_1036 ?_
  refine L_sldz (j := i + 3) C hX (by omega) (by omega) (by omega) dL_law_1037 ?_
  refine x_aload_n (i := 0) C dL_law_1038 rfl rfl ?_
  refine x_iload_n (i := 3) C dL_law_1039 rfl rfl ?_
  refine x_iconst C dL_law_1040 ?_
  refine x_iadd C dL_law_1041 ?_
  refine L_sldz (j := i + 4) C hX (by omega) (by omega) (by omega) dL_law_1042 ?_
  refine Wx_PH (PH' := fun H => PX (wM D ad2 cA2) Y H ∧ PX (wX D ad cA) X1 H) (fun H h => ⟨h.2, h.1⟩) ?_
  refine L_call (R := PX (wX D ad cA) X1) C ⟨rfl, rfl⟩ hW.2.2.1 hW.2.2.2.1 (L_keep (X := X1) (fun x h h9 => hW.2.2.2.2.1 x h9 h)) (rp_drive (z1 := zs (i + 1)) (z2 := zs (i + 2)) (z3 := zs (i + 3)) (z4 := zs (i + 4)) (hz _) (hz _) (hz _) (hz _) hHy hEy) ckL_101 im_X12_drive se_X12_drive (nlt rfl) rfl rfl rfl rfl rfl (nle rfl) ⟨nle rfl, nle rfl⟩ dL_law_1043 (fun r Y1 hp => ?_)
  obtain ⟨⟨v, rfl⟩, hHy1, hEy1, hFy⟩ := hp
  refine Wx_st (st' := [.int v]) rfl ?_
  refine x_pop C dL_law_1046 rfl ?_
  refine x_goto (tgt := 1443) C dL_law_1047 (by decide) ?_
  have hR1 : TRL X1 Y1 := trl_fr hR hHy hFx hFy rfl rfl rfl rfl rfl rfl rfl
  refine Wx_PH (PH' := fun H => PX (wX D ad cA) X1 H ∧ PX (wM D ad2 cA2) Y1 H) (fun H h => ⟨h.2, h.1⟩) ?_
  exact hE X1 Y1 hHx1 hEx1 hHy1 hEy1 hR1
