/-! ===== the class: a text ===== -/
theorem dX11_text_0 : decode cX11_text 0 = .ok (.aload_n 0, 1) := by decide +kernel
theorem dX11_text_1 : decode cX11_text 1 = .ok (.getfield 10, 3) := by decide +kernel
theorem dX11_text_4 : decode cX11_text 4 = .ok (.getfield 57, 3) := by decide +kernel
theorem dX11_text_7 : decode cX11_text 7 = .ok (.istore_n 3, 1) := by decide +kernel
theorem dX11_text_8 : decode cX11_text 8 = .ok (.aload_n 0, 1) := by decide +kernel
theorem dX11_text_9 : decode cX11_text 9 = .ok (.getfield 10, 3) := by decide +kernel
theorem dX11_text_12 : decode cX11_text 12 = .ok (.iconst 0, 1) := by decide +kernel
theorem dX11_text_13 : decode cX11_text 13 = .ok (.putfield 57, 3) := by decide +kernel
theorem dX11_text_16 : decode cX11_text 16 = .ok (.aload_n 0, 1) := by decide +kernel
theorem dX11_text_17 : decode cX11_text 17 = .ok (.getfield 10, 3) := by decide +kernel
theorem dX11_text_20 : decode cX11_text 20 = .ok (.iconst 0, 1) := by decide +kernel
theorem dX11_text_21 : decode cX11_text 21 = .ok (.putfield 65, 3) := by decide +kernel
theorem dX11_text_24 : decode cX11_text 24 = .ok (.aload_n 0, 1) := by decide +kernel
theorem dX11_text_25 : decode cX11_text 25 = .ok (.getfield 10, 3) := by decide +kernel
theorem dX11_text_28 : decode cX11_text 28 = .ok (.iconst (-1), 1) := by decide +kernel
theorem dX11_text_29 : decode cX11_text 29 = .ok (.putfield 68, 3) := by decide +kernel
theorem dX11_text_32 : decode cX11_text 32 = .ok (.aload_n 0, 1) := by decide +kernel
theorem dX11_text_33 : decode cX11_text 33 = .ok (.getfield 10, 3) := by decide +kernel
theorem dX11_text_36 : decode cX11_text 36 = .ok (.iload_n 1, 1) := by decide +kernel
theorem dX11_text_37 : decode cX11_text 37 = .ok (.iload_n 2, 1) := by decide +kernel
theorem dX11_text_38 : decode cX11_text 38 = .ok (.invokevirtual 71, 3) := by decide +kernel
theorem dX11_text_41 : decode cX11_text 41 = .ok (.ifCond .ne 6, 3) := by decide +kernel
theorem dX11_text_44 : decode cX11_text 44 = .ok (.bipush (-2), 2) := by decide +kernel
theorem dX11_text_46 : decode cX11_text 46 = .ok (.ireturn, 1) := by decide +kernel
theorem dX11_text_47 : decode cX11_text 47 = .ok (.aload_n 0, 1) := by decide +kernel
theorem dX11_text_48 : decode cX11_text 48 = .ok (.getfield 27, 3) := by decide +kernel
theorem dX11_text_51 : decode cX11_text 51 = .ok (.iload_n 1, 1) := by decide +kernel
theorem dX11_text_52 : decode cX11_text 52 = .ok (.aload_n 0, 1) := by decide +kernel
theorem dX11_text_53 : decode cX11_text 53 = .ok (.getfield 10, 3) := by decide +kernel
theorem dX11_text_56 : decode cX11_text 56 = .ok (.getfield 75, 3) := by decide +kernel
theorem dX11_text_59 : decode cX11_text 59 = .ok (.iload_n 3, 1) := by decide +kernel
theorem dX11_text_60 : decode cX11_text 60 = .ok (.invokevirtual 79, 3) := by decide +kernel
theorem dX11_text_63 : decode cX11_text 63 = .ok (.aload_n 0, 1) := by decide +kernel
theorem dX11_text_64 : decode cX11_text 64 = .ok (.getfield 10, 3) := by decide +kernel
theorem dX11_text_67 : decode cX11_text 67 = .ok (.aload_n 0, 1) := by decide +kernel
theorem dX11_text_68 : decode cX11_text 68 = .ok (.getfield 27, 3) := by decide +kernel
theorem dX11_text_71 : decode cX11_text 71 = .ok (.getfield 83, 3) := by decide +kernel
theorem dX11_text_74 : decode cX11_text 74 = .ok (.putfield 65, 3) := by decide +kernel
theorem dX11_text_77 : decode cX11_text 77 = .ok (.aload_n 0, 1) := by decide +kernel
theorem dX11_text_78 : decode cX11_text 78 = .ok (.getfield 10, 3) := by decide +kernel
theorem dX11_text_81 : decode cX11_text 81 = .ok (.aload_n 0, 1) := by decide +kernel
theorem dX11_text_82 : decode cX11_text 82 = .ok (.getfield 27, 3) := by decide +kernel
theorem dX11_text_85 : decode cX11_text 85 = .ok (.getfield 84, 3) := by decide +kernel
theorem dX11_text_88 : decode cX11_text 88 = .ok (.putfield 68, 3) := by decide +kernel
theorem dX11_text_91 : decode cX11_text 91 = .ok (.aload_n 0, 1) := by decide +kernel
theorem dX11_text_92 : decode cX11_text 92 = .ok (.getfield 27, 3) := by decide +kernel
theorem dX11_text_95 : decode cX11_text 95 = .ok (.getfield 83, 3) := by decide +kernel
theorem dX11_text_98 : decode cX11_text 98 = .ok (.ifCond .ne 19, 3) := by decide +kernel
theorem dX11_text_101 : decode cX11_text 101 = .ok (.aload_n 0, 1) := by decide +kernel
theorem dX11_text_102 : decode cX11_text 102 = .ok (.getfield 10, 3) := by decide +kernel
theorem dX11_text_105 : decode cX11_text 105 = .ok (.aload_n 0, 1) := by decide +kernel
theorem dX11_text_106 : decode cX11_text 106 = .ok (.getfield 27, 3) := by decide +kernel
theorem dX11_text_109 : decode cX11_text 109 = .ok (.iload_n 1, 1) := by decide +kernel
theorem dX11_text_110 : decode cX11_text 110 = .ok (.iload_n 2, 1) := by decide +kernel
theorem dX11_text_111 : decode cX11_text 111 = .ok (.invokevirtual 85, 3) := by decide +kernel
theorem dX11_text_114 : decode cX11_text 114 = .ok (.goto 4, 3) := by decide +kernel
theorem dX11_text_117 : decode cX11_text 117 = .ok (.iconst (-1), 1) := by decide +kernel
theorem dX11_text_118 : decode cX11_text 118 = .ok (.ireturn, 1) := by decide +kernel

abbrev mdT0 : List (Nat × Option Nat) := [(1, some 0), (1, some 1), (1, some 2), (21, some 5), (21, some 6), (21, some 3), (21, some 4), (21, some 8), (21, some 7), (21, some 9), (21, some 10), (21, some 2), (22, some 0), (22, some 1), (22, some 2), (22, some 3), (22, some 4), (23, none), (24, none), (25, some 0), (26, none), (27, none)]
abbrev mdT00 : List (Nat × Option Nat) := [(1, some 0), (1, some 1), (1, some 2), (21, some 5), (21, some 6), (21, some 3), (21, some 4), (21, some 8), (21, some 7), (21, some 9), (21, some 10), (21, some 2), (22, some 0), (22, some 1), (22, some 2), (22, some 3), (22, some 4), (23, none), (24, none), (25, some 0), (26, none), (27, none), (3, some 0), (7, some 0), (7, some 1), (7, some 2), (7, some 3), (7, some 4), (8, none), (9, none)]
abbrev mdT01 : List (Nat × Option Nat) := [(1, some 0), (1, some 1), (1, some 2), (21, some 5), (21, some 6), (21, some 3), (21, some 4), (21, some 8), (21, some 7), (21, some 9), (21, some 10), (21, some 2), (22, some 0), (22, some 1), (22, some 2), (22, some 3), (22, some 4), (23, none), (24, none), (25, some 0), (26, none), (27, none), (3, some 0), (10, some 0), (10, some 1), (10, some 2), (10, some 3), (10, some 4), (11, none), (12, none)]
abbrev mdT10 : List (Nat × Option Nat) := [(1, some 0), (1, some 1), (1, some 2), (21, some 5), (21, some 6), (21, some 3), (21, some 4), (21, some 8), (21, some 7), (21, some 9), (21, some 10), (21, some 2), (22, some 0), (22, some 1), (22, some 2), (22, some 3), (22, some 4), (23, none), (24, none), (25, some 0), (26, none), (27, none), (3, some 1), (5, some 0)]
abbrev mdT11 : List (Nat × Option Nat) := [(1, some 0), (1, some 1), (1, some 2), (21, some 5), (21, some 6), (21, some 3), (21, some 4), (21, some 8), (21, some 7), (21, some 9), (21, some 10), (21, some 2), (22, some 0), (22, some 1), (22, some 2), (22, some 3), (22, some 4), (23, none), (24, none), (25, some 0), (26, none), (27, none), (3, some 1), (5, some 1)]
abbrev mdT12 : List (Nat × Option Nat) := [(1, some 0), (1, some 1), (1, some 2), (21, some 5), (21, some 6), (21, some 3), (21, some 4), (21, some 8), (21, some 7), (21, some 9), (21, some 10), (21, some 2), (22, some 0), (22, some 1), (22, some 2), (22, some 3), (22, some 4), (23, none), (24, none), (25, some 0), (26, none), (27, none), (3, some 1), (5, some 2)]
abbrev mdT20 : List (Nat × Option Nat) := [(1, some 0), (1, some 1), (1, some 2), (21, some 5), (21, some 6), (21, some 3), (21, some 4), (21, some 8), (21, some 7), (21, some 9), (21, some 10), (21, some 2), (22, some 0), (22, some 1), (22, some 2), (22, some 3), (22, some 4), (23, none), (24, none), (25, some 0), (26, none), (27, none), (3, some 2), (13, some 0), (14, none), (15, none)]
abbrev mdT21 : List (Nat × Option Nat) := [(1, some 0), (1, some 1), (1, some 2), (21, some 5), (21, some 6), (21, some 3), (21, some 4), (21, some 8), (21, some 7), (21, some 9), (21, some 10), (21, some 2), (22, some 0), (22, some 1), (22, some 2), (22, some 3), (22, some 4), (23, none), (24, none), (25, some 0), (26, none), (27, none), (3, some 2), (16, some 0), (17, none), (18, none)]
theorem room.fr {md : List (Nat × Option Nat)} {X Y : XT} {st a : Int} (hF : FR md X Y) (ho : ovl [(3, none)] md = false) : room Y st a ↔ room X st a := by
  unfold room
  rw [(hF 3 st.toNat (ovl_no ho rfl)).1]
def TBk (k s f : Nat) (B : BC) (X : XT) : Prop := X.1 k 0 = B.1 ∧ X.1 k 1 = B.2.1 ∧ X.2.1 k 2 = B.2.2.1 ∧ X.2.1 k 3 = B.2.2.2.1 ∧ X.1 k 4 = B.2.2.2.2.1 ∧ ∀ j : Nat, (j : Int) < B.2.2.2.2.1 → X.1 s j = B.2.2.2.2.2.1 j ∧ X.1 f j = B.2.2.2.2.2.2 j
def TGk (k r f : Nat) (G : GC) (X : XT) : Prop := X.1 k 0 = G.1 ∧ ∀ j : Nat, (j : Int) < G.1 → X.2.1 r j = G.2.1 j ∧ X.1 f j = G.2.2 j
theorem TBk_of {k s f : Nat} {B C : BC} {X : XT} (h : BDk k s f B X) (q : BQ B C) (hm : B.2.2.2.2.1 ≤ 6) : TBk k s f C X :=
  ⟨h.1.trans q.1, h.2.1.trans q.2.1, h.2.2.1.trans q.2.2.1, h.2.2.2.1.trans q.2.2.2.1, h.2.2.2.2.1.trans q.2.2.2.2.1, fun j hj => by
    have e := q.2.2.2.2.1
    have t := q.2.2.2.2.2 j (by omega)
    have u := h.2.2.2.2.2 j (by omega)
    exact ⟨u.1.trans t.1, u.2.trans t.2⟩⟩
theorem TGk_of {k r f : Nat} {G H : GC} {X : XT} (h : GMk k r f G X) (q : GQ G H) (hm : G.1 ≤ 30) : TGk k r f H X :=
  ⟨h.1.trans q.1, fun j hj => by
    have e := q.1
    have t := q.2 j (by omega)
    have u := h.2 j (by omega)
    exact ⟨u.1.trans t.1, u.2.trans t.2⟩⟩
def FLT (F : Int × Int) (X : XT) : Prop := X.1 1 1 = F.1 ∧ X.1 1 2 = F.2
def cntO (X X1 : XT) (at_ : Int) (s : Nat) (k : Int) : Prop := (at_ = -1 ∧ X.1 3 s = k ∧ X1.1 3 s = k + 1) ∨ (at_ = k ∧ k < X.1 3 s ∧ X1.1 3 s = X.1 3 s)
/-- what the class holds behind a text -/
def TXP (b : Nat → Int) (N : Nat) (X X1 : XT) (st at_ u : Int) : Prop := X1.1 1 0 = 0 ∧ ((u = -2 ∧ ¬ room X st at_ ∧ FR mdT0 X X1 ∧ FLT (0, -1) X1) ∨ (room X st at_ ∧ FLT (txF b N st) X1 ∧ ((u = -1 ∧ (txF b N st).1 ≠ 0 ∧ FR mdT0 X X1) ∨ ((txF b N st).1 = 0 ∧ ((st = 0 ∧ u = 0 ∧ FR mdT00 X X1 ∧ cntO X X1 at_ 0 0 ∧ TBk 7 8 9 (txB b N) X1) ∨ (st = 0 ∧ u = 1 ∧ FR mdT01 X X1 ∧ cntO X X1 at_ 0 1 ∧ TBk 10 11 12 (txB b N) X1) ∨ (st = 1 ∧ u = 0 ∧ FR mdT10 X X1 ∧ cntO X X1 at_ 1 0 ∧ X1.2.1 5 0 = txR b N) ∨ (st = 1 ∧ u = 1 ∧ FR mdT11 X X1 ∧ cntO X X1 at_ 1 1 ∧ X1.2.1 5 1 = txR b N) ∨ (st = 1 ∧ u = 2 ∧ FR mdT12 X X1 ∧ cntO X X1 at_ 1 2 ∧ X1.2.1 5 2 = txR b N) ∨ (st = 2 ∧ u = 0 ∧ FR mdT20 X X1 ∧ cntO X X1 at_ 2 0 ∧ TGk 13 14 15 (txG b N) X1) ∨ (st = 2 ∧ u = 1 ∧ FR mdT21 X X1 ∧ cntO X X1 at_ 2 1 ∧ TGk 16 17 18 (txG b N) X1))))))
set_option maxHeartbeats 4000000 in
set_option maxRecDepth 100000 in
theorem c_text {D : va_G} {ad : Nat → Nat} {cA : Nat → ClassId} {X0 : XT} {b : Nat → Int} {N : Nat} {st at_ : Int} (ss : inR st) (aa : inR at_) (hN : X0.1 1 0 = (N : Int)) (hb : ∀ i, i < N → X0.1 2 i = b i) (hH : HG vX X0) (hF : FR mdT0 X0 X0) : MetS (wX D ad cA) yX11_text cX11_text 4 (some .int) 10 230 [.ref 0, .int (iI (st)), .int (iI (at_))] X0 (fun r X1 => ∃ u : Int, r = some (.int (iI u)) ∧ HG vX X1 ∧ TXP b N X0 X1 st at_ u) := by
  unfold inR at ss aa
  have n6 : N ≤ 600 := by
    have t : (0 : Int) ≤ X0.1 1 0 ∧ X0.1 1 0 ≤ 600 := hH.rF (k := 1) (i := 0) (p := (0, 600)) rfl rfl
    omega
  refine MetS.mk (own := RX11) (by decide +kernel) rfl (nle rfl) (fun E C HS hQ => ?_)
  refine Wx_lv (lv' := [(0, .ref 0), (1, .int (iI (st))), (2, .int (iI (at_)))]) rfl ?_
  refine x_aload_n (i := 0) C dX11_text_0 rfl rfl ?_
  refine x_getRs (r := 1) C fkX_X11_10 (nlt rfl) rfl (HG.rR hH (k := 0) (i := 0) rfl rfl) dX11_text_1 ?_
  refine x_getI C fkX_X11_57 (nlt rfl) rfl dX11_text_4 ?_
  refine x_gen (fun v1 ev1 => ?_)
  have qv1 : (0 : Int) ≤ v1 ∧ v1 ≤ (600 : Int) := by
    rw [ev1]
    exact hH.rF (k := 1) (i := 0) rfl rfl
  have nv1 : v1 = (N : Int) := by rw [ev1]; exact hN
  refine x_istore_n (i := 3) (lv' := [(3, .int (iI (v1))), (0, .ref 0), (1, .int (iI (st))), (2, .int (iI (at_)))]) C dX11_text_7 rfl (nlt rfl) rfl ?_
  refine x_aload_n (i := 0) C dX11_text_8 rfl rfl ?_
  refine x_getRs (r := 1) C fkX_X11_10 (nlt rfl) rfl (HG.rR hH (k := 0) (i := 0) rfl rfl) dX11_text_9 ?_
  refine x_iconst C dX11_text_12 ?_
  refine x_putI C pkX_X11_57 (nlt rfl) rfl dX11_text_13 ?_
  refine x_gX (fun Yy2 eYy2 => ?_)
  have hHy2 : HG vX Yy2 := by
    rw [eYy2]
    exact hg_wF hH (p := (0, 600)) rfl ⟨by omega, by omega⟩
  have hFy2 : FR mdT0 X0 Yy2 := by
    rw [eYy2]
    exact FR.upI hF (rfl)
  replace eYy2 : Yy2 = upI X0 1 0 (0) := eYy2
  have hGy2 : FR [(1, some 0)] X0 Yy2 := by
    rw [eYy2]
    exact FR.upI FR.rf rfl
  refine x_aload_n (i := 0) C dX11_text_16 rfl rfl ?_
  refine x_getRs (r := 1) C fkX_X11_10 (nlt rfl) rfl (HG.rR hHy2 (k := 0) (i := 0) rfl rfl) dX11_text_17 ?_
  refine x_iconst C dX11_text_20 ?_
  refine x_putI C pkX_X11_65 (nlt rfl) rfl dX11_text_21 ?_
  refine x_gX (fun Yy3 eYy3 => ?_)
  have hHy3 : HG vX Yy3 := by
    rw [eYy3]
    exact hg_wF hHy2 (p := (0, 4)) rfl ⟨by omega, by omega⟩
  have hFy3 : FR mdT0 X0 Yy3 := by
    rw [eYy3]
    exact FR.upI hFy2 (rfl)
  replace eYy3 : Yy3 = upI Yy2 1 1 (0) := eYy3
  have hGy3 : FR [(1, some 1)] Yy2 Yy3 := by
    rw [eYy3]
    exact FR.upI FR.rf rfl
  refine x_aload_n (i := 0) C dX11_text_24 rfl rfl ?_
  refine x_getRs (r := 1) C fkX_X11_10 (nlt rfl) rfl (HG.rR hHy3 (k := 0) (i := 0) rfl rfl) dX11_text_25 ?_
  refine x_iconst C dX11_text_28 ?_
  refine x_putI C pkX_X11_68 (nlt rfl) rfl dX11_text_29 ?_
  refine x_gX (fun Yy4 eYy4 => ?_)
  have hHy4 : HG vX Yy4 := by
    rw [eYy4]
    exact hg_wF hHy3 (p := ((-1), 600)) rfl ⟨by omega, by omega⟩
  have hFy4 : FR mdT0 X0 Yy4 := by
    rw [eYy4]
    exact FR.upI hFy3 (rfl)
  replace eYy4 : Yy4 = upI Yy3 1 2 ((-1)) := eYy4
  have hGy4 : FR [(1, some 2)] Yy3 Yy4 := by
    rw [eYy4]
    exact FR.upI FR.rf rfl
  refine x_aload_n (i := 0) C dX11_text_32 rfl rfl ?_
  refine x_getRs (r := 1) C fkX_X11_10 (nlt rfl) rfl (HG.rR hHy4 (k := 0) (i := 0) rfl rfl) dX11_text_33 ?_
  refine x_iload_n (i := 1) C dX11_text_36 rfl rfl ?_
  refine x_iload_n (i := 2) C dX11_text_37 rfl rfl ?_
  refine x_callV (As := [.int (iI (st)), .int (iI (at_))]) C (by exact (c_hasRoom (st := st) (at_ := at_) ss aa hHy4)) ckX11_71 im_X8_hasRoom se_X8_hasRoom (nlt rfl) rfl rfl rfl rfl (nle rfl) (by exact ⟨nle rfl, nle rfl⟩) dX11_text_38 ?_
  rintro _ Xv5 ⟨hxv5, v5, rfl, hrv5⟩
  rw [hxv5]
  have hr : (v5 = 1 ∧ room X0 st at_) ∨ (v5 = 0 ∧ ¬ room X0 st at_) := by
    rw [room.fr hFy4 rfl] at hrv5
    exact hrv5
  refine Wx_st (st' := [.int (iI (v5))]) rfl ?_
  refine x_if_ne (tgt := 47) C dX11_text_41 (by decide) ⟨by omega, by omega⟩ (fun h6 => ?_) (fun h6 => ?_)
  · have hr1 : room X0 st at_ := hr.elim (fun g => g.2) (fun g => by exfalso; omega)
    have hs : st = 0 ∨ st = 1 ∨ st = 2 := by
      have g1 := hr1.1
      have g2 := hr1.2.1
      omega
    rcases hs with rfl | rfl | rfl
    · have hr0 : (at_ = -1 ∧ X0.1 3 0 < 2) ∨ (at_ ≠ -1 ∧ 0 ≤ at_ ∧ at_ < X0.1 3 0) := hr1.2.2
      have cb : (0 : Int) ≤ X0.1 3 0 ∧ X0.1 3 0 ≤ 2 := hH.rF (k := 3) (i := 0) (p := (0, 2)) rfl rfl
      refine x_aload_n (i := 0) C dX11_text_47 rfl rfl ?_
      refine x_getRs (r := 21) C fkX_X11_27 (nlt rfl) rfl (HG.rR hHy4 (k := 0) (i := 3) rfl rfl) dX11_text_48 ?_
      refine x_iload_n (i := 1) C dX11_text_51 rfl rfl ?_
      refine x_aload_n (i := 0) C dX11_text_52 rfl rfl ?_
      refine x_getRs (r := 1) C fkX_X11_10 (nlt rfl) rfl (HG.rR hHy4 (k := 0) (i := 0) rfl rfl) dX11_text_53 ?_
      refine x_getRs (r := 2) C fkX_X11_75 (nlt rfl) rfl (HG.rR hHy4 (k := 1) (i := 3) rfl rfl) dX11_text_56 ?_
      refine x_iload_n (i := 3) C dX11_text_59 rfl rfl ?_
      refine x_callVT (As := [.int (iI (0)), .ref 2, .int (iI (v1))]) C HS (by exact (c_read0 (b := b) (N := N) (cnt := v1) nv1 n6 (fun i hi => by rw [(hFy4 _ _ rfl).1]; exact hb i hi) hHy4 FR.rf)) ckX11_79 im_X6_read se_X6_read (nlt rfl) rfl rfl rfl rfl (nle rfl) (by exact ⟨nle rfl, nle rfl⟩) dX11_text_60 ?_
      rintro _ Yy7 ⟨rfl, hHy7, hGy7, hLy7, hCy7⟩
      have hFy7 : FR mdT0 X0 Yy7 := FR.tr hFy4 hGy7 (by decide)
      rw [fB_q (run_B Yy4), ← txF_0] at hLy7
      have fb := txF_bd (b := b) (N := N) 0
      have fb := show 0 ≤ (txF b N 0).1 ∧ (txF b N 0).1 ≤ 4 ∧ -1 ≤ (txF b N 0).2 ∧ (txF b N 0).2 ≤ (N : Int) from fb
      have hby7 := hCy7
      refine Wx_st (st' := []) rfl ?_
      refine x_aload_n (i := 0) C dX11_text_63 rfl rfl ?_
      refine x_getRs (r := 1) C fkX_X11_10 (nlt rfl) rfl (HG.rR hHy7 (k := 0) (i := 0) rfl rfl) dX11_text_64 ?_
      refine x_aload_n (i := 0) C dX11_text_67 rfl rfl ?_
      refine x_getRs (r := 21) C fkX_X11_27 (nlt rfl) rfl (HG.rR hHy7 (k := 0) (i := 3) rfl rfl) dX11_text_68 ?_
      refine x_getI C fkX_X11_83 (nlt rfl) rfl dX11_text_71 ?_
      refine x_gen (fun v8 ev8 => ?_)
      have qv8 : ((-2147483648) : Int) ≤ v8 ∧ v8 ≤ (2147483647 : Int) := by
        rw [ev8]
        exact hHy7.rF (k := 21) (i := 3) rfl rfl
      have fv8 : v8 = (txF b N 0).1 := by rw [ev8]; exact hLy7.1
      refine x_putI C pkX_X11_65 (nlt rfl) rfl dX11_text_74 ?_
      refine x_gX (fun Yy9 eYy9 => ?_)
      have hHy9 : HG vX Yy9 := by
        rw [eYy9]
        exact hg_wF hHy7 (p := (0, 4)) rfl ⟨by omega, by omega⟩
      have hFy9 : FR mdT0 X0 Yy9 := by
        rw [eYy9]
        exact FR.upI hFy7 (rfl)
      replace eYy9 : Yy9 = upI Yy7 1 1 (v8) := eYy9
      have hGy9 : FR [(1, some 1)] Yy7 Yy9 := by
        rw [eYy9]
        exact FR.upI FR.rf rfl
      have hLy9 := hLy7.fr hGy9 rfl
      refine x_aload_n (i := 0) C dX11_text_77 rfl rfl ?_
      refine x_getRs (r := 1) C fkX_X11_10 (nlt rfl) rfl (HG.rR hHy9 (k := 0) (i := 0) rfl rfl) dX11_text_78 ?_
      refine x_aload_n (i := 0) C dX11_text_81 rfl rfl ?_
      refine x_getRs (r := 21) C fkX_X11_27 (nlt rfl) rfl (HG.rR hHy9 (k := 0) (i := 3) rfl rfl) dX11_text_82 ?_
      refine x_getI C fkX_X11_84 (nlt rfl) rfl dX11_text_85 ?_
      refine x_gen (fun v10 ev10 => ?_)
      have qv10 : ((-2147483648) : Int) ≤ v10 ∧ v10 ≤ (2147483647 : Int) := by
        rw [ev10]
        exact hHy9.rF (k := 21) (i := 4) rfl rfl
      have kv10 : v10 = Yy7.1 21 4 := by rw [ev10, eYy9, upI_nc (by decide)]
      have fv10 : v10 = (txF b N 0).2 := by rw [ev10]; exact hLy9.2
      refine x_putI C pkX_X11_68 (nlt rfl) rfl dX11_text_88 ?_
      refine x_gX (fun Yy11 eYy11 => ?_)
      have hHy11 : HG vX Yy11 := by
        rw [eYy11]
        exact hg_wF hHy9 (p := ((-1), 600)) rfl ⟨by omega, by omega⟩
      have hFy11 : FR mdT0 X0 Yy11 := by
        rw [eYy11]
        exact FR.upI hFy9 (rfl)
      replace eYy11 : Yy11 = upI Yy9 1 2 (v10) := eYy11
      have hGy11 : FR [(1, some 2)] Yy9 Yy11 := by
        rw [eYy11]
        exact FR.upI FR.rf rfl
      have hLy11 := hLy9.fr hGy11 rfl
      refine x_aload_n (i := 0) C dX11_text_91 rfl rfl ?_
      refine x_getRs (r := 21) C fkX_X11_27 (nlt rfl) rfl (HG.rR hHy11 (k := 0) (i := 3) rfl rfl) dX11_text_92 ?_
      refine x_getI C fkX_X11_83 (nlt rfl) rfl dX11_text_95 ?_
      refine x_gen (fun v12 ev12 => ?_)
      have qv12 : ((-2147483648) : Int) ≤ v12 ∧ v12 ≤ (2147483647 : Int) := by
        rw [ev12]
        exact hHy11.rF (k := 21) (i := 3) rfl rfl
      have kv12 : v12 = Yy7.1 21 3 := by rw [ev12, eYy11, upI_nc (by decide), eYy9, upI_nc (by decide)]
      have fv12 : v12 = (txF b N 0).1 := by rw [ev12]; exact hLy11.1
      refine x_if_ne (tgt := 117) C dX11_text_98 (by decide) ⟨by omega, by omega⟩ (fun h13 => ?_) (fun h13 => ?_)
      · refine x_iconst C dX11_text_117 ?_
        exact x_iret C hQ dX11_text_118 (⟨_, rfl, hHy11, by rw [eYy11, upI_ne (by decide), eYy9, upI_ne (by decide), (hGy7 1 0 rfl).1, eYy4, upI_ne (by decide), eYy3, upI_ne (by decide), eYy2, upI_at], .inr ⟨hr1, ⟨by rw [eYy11, upI_ne (by decide), eYy9, upI_at]; omega, by rw [eYy11, upI_at]; omega⟩, .inl ⟨rfl, by omega, hFy11⟩⟩⟩)
      · have fz0 : (txF b N 0).1 = 0 := by omega
        refine x_aload_n (i := 0) C dX11_text_101 rfl rfl ?_
        refine x_getRs (r := 1) C fkX_X11_10 (nlt rfl) rfl (HG.rR hHy11 (k := 0) (i := 0) rfl rfl) dX11_text_102 ?_
        refine x_aload_n (i := 0) C dX11_text_105 rfl rfl ?_
        refine x_getRs (r := 21) C fkX_X11_27 (nlt rfl) rfl (HG.rR hHy11 (k := 0) (i := 3) rfl rfl) dX11_text_106 ?_
        refine x_iload_n (i := 1) C dX11_text_109 rfl rfl ?_
        refine x_iload_n (i := 2) C dX11_text_110 rfl rfl ?_
        have hg : (at_ = -1 ∧ X0.1 3 0 = 0) ∨ (at_ = -1 ∧ X0.1 3 0 = 1) ∨ (at_ = 0 ∧ 0 < X0.1 3 0) ∨ (at_ = 1 ∧ 1 < X0.1 3 0) := by omega
        rcases hg with hg | hg | hg | hg
        · obtain ⟨rfl, hk⟩ := hg
          have hz0 : (fB N (bRun b N 600 (tS b N 0) (0, -1) (b0 Yy4))).1 = 0 := by rw [fB_q (run_B Yy4), ← txF_0]; omega
          have wf := rB_wf hz0
          refine x_callV (As := [.ref 21, .int (iI (0)), .int (iI ((-1)))]) C (by exact (c_take00n (B := bst (bRun b N 600 (tS b N 0) (0, -1) (b0 Yy4)).2.2.2) ⟨Int.le_trans (show (0 : Int) ≤ 2 by decide) wf.1.1, wf.1.2⟩ ⟨Int.le_trans (show (0 : Int) ≤ 2 by decide) wf.2.1.1, wf.2.1.2⟩ wf.2.2.1 (hCy7.fr (show FR [(1, some 1), (1, some 2)] Yy7 Yy11 from FR.tr (FR.tr FR.rf hGy9 (by decide)) hGy11 (by decide)) rfl) (by rw [eYy11, upI_nc (by decide), eYy9, upI_nc (by decide), (hGy7 3 0 rfl).1, eYy4, upI_nc (by decide), eYy3, upI_nc (by decide), eYy2, upI_nc (by decide)]; exact hk) hHy11 FR.rf)) ckX11_85 im_X8_take se_X8_take (nlt rfl) rfl rfl rfl rfl (nle rfl) (by exact ⟨nle rfl, nle rfl⟩) dX11_text_111 ?_
          rintro _ Yy14 ⟨v15, rfl, ev15, hHy14, hGy14, hny14, hDy14⟩
          refine Wx_st (st' := [.int (iI (v15))]) rfl ?_
          refine x_goto (tgt := 118) C dX11_text_114 (by decide) ?_
          exact x_iret C hQ dX11_text_118 (⟨_, rfl, hHy14, by rw [(hGy14 1 0 rfl).1, eYy11, upI_ne (by decide), eYy9, upI_ne (by decide), (hGy7 1 0 rfl).1, eYy4, upI_ne (by decide), eYy3, upI_ne (by decide), eYy2, upI_at], .inr ⟨hr1, ⟨by rw [(hGy14 1 1 rfl).1, eYy11, upI_ne (by decide), eYy9, upI_at]; omega, by rw [(hGy14 1 2 rfl).1, eYy11, upI_at]; omega⟩, .inr ⟨fz0, .inl ⟨rfl, ev15, FR.tr (FR.tr FR.rf hFy11 (by decide)) hGy14 (by decide), .inl ⟨rfl, hk, hny14⟩, TBk_of hDy14 (bst_q (run_B Yy4).2.2.2) wf.2.2.1.2⟩⟩⟩⟩)
        · obtain ⟨rfl, hk⟩ := hg
          have hz0 : (fB N (bRun b N 600 (tS b N 0) (0, -1) (b0 Yy4))).1 = 0 := by rw [fB_q (run_B Yy4), ← txF_0]; omega
          have wf := rB_wf hz0
          refine x_callV (As := [.ref 21, .int (iI (0)), .int (iI ((-1)))]) C (by exact (c_take01n (B := bst (bRun b N 600 (tS b N 0) (0, -1) (b0 Yy4)).2.2.2) ⟨Int.le_trans (show (0 : Int) ≤ 2 by decide) wf.1.1, wf.1.2⟩ ⟨Int.le_trans (show (0 : Int) ≤ 2 by decide) wf.2.1.1, wf.2.1.2⟩ wf.2.2.1 (hCy7.fr (show FR [(1, some 1), (1, some 2)] Yy7 Yy11 from FR.tr (FR.tr FR.rf hGy9 (by decide)) hGy11 (by decide)) rfl) (by rw [eYy11, upI_nc (by decide), eYy9, upI_nc (by decide), (hGy7 3 0 rfl).1, eYy4, upI_nc (by decide), eYy3, upI_nc (by decide), eYy2, upI_nc (by decide)]; exact hk) hHy11 FR.rf)) ckX11_85 im_X8_take se_X8_take (nlt rfl) rfl rfl rfl rfl (nle rfl) (by exact ⟨nle rfl, nle rfl⟩) dX11_text_111 ?_
          rintro _ Yy16 ⟨v17, rfl, ev17, hHy16, hGy16, hny16, hDy16⟩
          refine Wx_st (st' := [.int (iI (v17))]) rfl ?_
          refine x_goto (tgt := 118) C dX11_text_114 (by decide) ?_
          exact x_iret C hQ dX11_text_118 (⟨_, rfl, hHy16, by rw [(hGy16 1 0 rfl).1, eYy11, upI_ne (by decide), eYy9, upI_ne (by decide), (hGy7 1 0 rfl).1, eYy4, upI_ne (by decide), eYy3, upI_ne (by decide), eYy2, upI_at], .inr ⟨hr1, ⟨by rw [(hGy16 1 1 rfl).1, eYy11, upI_ne (by decide), eYy9, upI_at]; omega, by rw [(hGy16 1 2 rfl).1, eYy11, upI_at]; omega⟩, .inr ⟨fz0, .inr (.inl ⟨rfl, ev17, FR.tr (FR.tr FR.rf hFy11 (by decide)) hGy16 (by decide), .inl ⟨rfl, hk, hny16⟩, TBk_of hDy16 (bst_q (run_B Yy4).2.2.2) wf.2.2.1.2⟩)⟩⟩⟩)
        · obtain ⟨rfl, hk⟩ := hg
          have hz0 : (fB N (bRun b N 600 (tS b N 0) (0, -1) (b0 Yy4))).1 = 0 := by rw [fB_q (run_B Yy4), ← txF_0]; omega
          have wf := rB_wf hz0
          refine x_callV (As := [.ref 21, .int (iI (0)), .int (iI (0))]) C (by exact (c_take00o (B := bst (bRun b N 600 (tS b N 0) (0, -1) (b0 Yy4)).2.2.2) ⟨Int.le_trans (show (0 : Int) ≤ 2 by decide) wf.1.1, wf.1.2⟩ ⟨Int.le_trans (show (0 : Int) ≤ 2 by decide) wf.2.1.1, wf.2.1.2⟩ wf.2.2.1 (hCy7.fr (show FR [(1, some 1), (1, some 2)] Yy7 Yy11 from FR.tr (FR.tr FR.rf hGy9 (by decide)) hGy11 (by decide)) rfl) (by rw [eYy11, upI_nc (by decide), eYy9, upI_nc (by decide), (hGy7 3 0 rfl).1, eYy4, upI_nc (by decide), eYy3, upI_nc (by decide), eYy2, upI_nc (by decide)]; exact hk) hHy11 FR.rf)) ckX11_85 im_X8_take se_X8_take (nlt rfl) rfl rfl rfl rfl (nle rfl) (by exact ⟨nle rfl, nle rfl⟩) dX11_text_111 ?_
          rintro _ Yy18 ⟨v19, rfl, ev19, hHy18, hGy18, hny18, hDy18⟩
          refine Wx_st (st' := [.int (iI (v19))]) rfl ?_
          refine x_goto (tgt := 118) C dX11_text_114 (by decide) ?_
          exact x_iret C hQ dX11_text_118 (⟨_, rfl, hHy18, by rw [(hGy18 1 0 rfl).1, eYy11, upI_ne (by decide), eYy9, upI_ne (by decide), (hGy7 1 0 rfl).1, eYy4, upI_ne (by decide), eYy3, upI_ne (by decide), eYy2, upI_at], .inr ⟨hr1, ⟨by rw [(hGy18 1 1 rfl).1, eYy11, upI_ne (by decide), eYy9, upI_at]; omega, by rw [(hGy18 1 2 rfl).1, eYy11, upI_at]; omega⟩, .inr ⟨fz0, .inl ⟨rfl, ev19, FR.tr (FR.tr FR.rf hFy11 (by decide)) hGy18 (by decide), .inr ⟨rfl, hk, by rw [hny18, eYy11, upI_nc (by decide), eYy9, upI_nc (by decide), (hGy7 3 0 rfl).1, eYy4, upI_nc (by decide), eYy3, upI_nc (by decide), eYy2, upI_nc (by decide)]⟩, TBk_of hDy18 (bst_q (run_B Yy4).2.2.2) wf.2.2.1.2⟩⟩⟩⟩)
        · obtain ⟨rfl, hk⟩ := hg
          have hz0 : (fB N (bRun b N 600 (tS b N 0) (0, -1) (b0 Yy4))).1 = 0 := by rw [fB_q (run_B Yy4), ← txF_0]; omega
          have wf := rB_wf hz0
          refine x_callV (As := [.ref 21, .int (iI (0)), .int (iI (1))]) C (by exact (c_take01o (B := bst (bRun b N 600 (tS b N 0) (0, -1) (b0 Yy4)).2.2.2) ⟨Int.le_trans (show (0 : Int) ≤ 2 by decide) wf.1.1, wf.1.2⟩ ⟨Int.le_trans (show (0 : Int) ≤ 2 by decide) wf.2.1.1, wf.2.1.2⟩ wf.2.2.1 (hCy7.fr (show FR [(1, some 1), (1, some 2)] Yy7 Yy11 from FR.tr (FR.tr FR.rf hGy9 (by decide)) hGy11 (by decide)) rfl) (by rw [eYy11, upI_nc (by decide), eYy9, upI_nc (by decide), (hGy7 3 0 rfl).1, eYy4, upI_nc (by decide), eYy3, upI_nc (by decide), eYy2, upI_nc (by decide)]; exact hk) hHy11 FR.rf)) ckX11_85 im_X8_take se_X8_take (nlt rfl) rfl rfl rfl rfl (nle rfl) (by exact ⟨nle rfl, nle rfl⟩) dX11_text_111 ?_
          rintro _ Yy20 ⟨v21, rfl, ev21, hHy20, hGy20, hny20, hDy20⟩
          refine Wx_st (st' := [.int (iI (v21))]) rfl ?_
          refine x_goto (tgt := 118) C dX11_text_114 (by decide) ?_
          exact x_iret C hQ dX11_text_118 (⟨_, rfl, hHy20, by rw [(hGy20 1 0 rfl).1, eYy11, upI_ne (by decide), eYy9, upI_ne (by decide), (hGy7 1 0 rfl).1, eYy4, upI_ne (by decide), eYy3, upI_ne (by decide), eYy2, upI_at], .inr ⟨hr1, ⟨by rw [(hGy20 1 1 rfl).1, eYy11, upI_ne (by decide), eYy9, upI_at]; omega, by rw [(hGy20 1 2 rfl).1, eYy11, upI_at]; omega⟩, .inr ⟨fz0, .inr (.inl ⟨rfl, ev21, FR.tr (FR.tr FR.rf hFy11 (by decide)) hGy20 (by decide), .inr ⟨rfl, hk, by rw [hny20, eYy11, upI_nc (by decide), eYy9, upI_nc (by decide), (hGy7 3 0 rfl).1, eYy4, upI_nc (by decide), eYy3, upI_nc (by decide), eYy2, upI_nc (by decide)]⟩, TBk_of hDy20 (bst_q (run_B Yy4).2.2.2) wf.2.2.1.2⟩)⟩⟩⟩)
    · have hr0 : (at_ = -1 ∧ X0.1 3 1 < 3) ∨ (at_ ≠ -1 ∧ 0 ≤ at_ ∧ at_ < X0.1 3 1) := hr1.2.2
      have cb : (0 : Int) ≤ X0.1 3 1 ∧ X0.1 3 1 ≤ 3 := hH.rF (k := 3) (i := 1) (p := (0, 3)) rfl rfl
      refine x_aload_n (i := 0) C dX11_text_47 rfl rfl ?_
      refine x_getRs (r := 21) C fkX_X11_27 (nlt rfl) rfl (HG.rR hHy4 (k := 0) (i := 3) rfl rfl) dX11_text_48 ?_
      refine x_iload_n (i := 1) C dX11_text_51 rfl rfl ?_
      refine x_aload_n (i := 0) C dX11_text_52 rfl rfl ?_
      refine x_getRs (r := 1) C fkX_X11_10 (nlt rfl) rfl (HG.rR hHy4 (k := 0) (i := 0) rfl rfl) dX11_text_53 ?_
      refine x_getRs (r := 2) C fkX_X11_75 (nlt rfl) rfl (HG.rR hHy4 (k := 1) (i := 3) rfl rfl) dX11_text_56 ?_
      refine x_iload_n (i := 3) C dX11_text_59 rfl rfl ?_
      refine x_callVT (As := [.int (iI (1)), .ref 2, .int (iI (v1))]) C HS (by exact (c_read1 (b := b) (N := N) (cnt := v1) nv1 n6 (fun i hi => by rw [(hFy4 _ _ rfl).1]; exact hb i hi) hHy4 FR.rf)) ckX11_79 im_X6_read se_X6_read (nlt rfl) rfl rfl rfl rfl (nle rfl) (by exact ⟨nle rfl, nle rfl⟩) dX11_text_60 ?_
      rintro _ Yy22 ⟨rfl, hHy22, hGy22, hLy22, hCy22⟩
      have hFy22 : FR mdT0 X0 Yy22 := FR.tr hFy4 hGy22 (by decide)
      rw [← txF_1] at hLy22
      have fb := txF_bd (b := b) (N := N) 1
      have fb := show 0 ≤ (txF b N 1).1 ∧ (txF b N 1).1 ≤ 4 ∧ -1 ≤ (txF b N 1).2 ∧ (txF b N 1).2 ≤ (N : Int) from fb
      refine Wx_st (st' := []) rfl ?_
      refine x_aload_n (i := 0) C dX11_text_63 rfl rfl ?_
      refine x_getRs (r := 1) C fkX_X11_10 (nlt rfl) rfl (HG.rR hHy22 (k := 0) (i := 0) rfl rfl) dX11_text_64 ?_
      refine x_aload_n (i := 0) C dX11_text_67 rfl rfl ?_
      refine x_getRs (r := 21) C fkX_X11_27 (nlt rfl) rfl (HG.rR hHy22 (k := 0) (i := 3) rfl rfl) dX11_text_68 ?_
      refine x_getI C fkX_X11_83 (nlt rfl) rfl dX11_text_71 ?_
      refine x_gen (fun v23 ev23 => ?_)
      have qv23 : ((-2147483648) : Int) ≤ v23 ∧ v23 ≤ (2147483647 : Int) := by
        rw [ev23]
        exact hHy22.rF (k := 21) (i := 3) rfl rfl
      have fv23 : v23 = (txF b N 1).1 := by rw [ev23]; exact hLy22.1
      refine x_putI C pkX_X11_65 (nlt rfl) rfl dX11_text_74 ?_
      refine x_gX (fun Yy24 eYy24 => ?_)
      have hHy24 : HG vX Yy24 := by
        rw [eYy24]
        exact hg_wF hHy22 (p := (0, 4)) rfl ⟨by omega, by omega⟩
      have hFy24 : FR mdT0 X0 Yy24 := by
        rw [eYy24]
        exact FR.upI hFy22 (rfl)
      replace eYy24 : Yy24 = upI Yy22 1 1 (v23) := eYy24
      have hGy24 : FR [(1, some 1)] Yy22 Yy24 := by
        rw [eYy24]
        exact FR.upI FR.rf rfl
      have hLy24 := hLy22.fr hGy24 rfl
      refine x_aload_n (i := 0) C dX11_text_77 rfl rfl ?_
      refine x_getRs (r := 1) C fkX_X11_10 (nlt rfl) rfl (HG.rR hHy24 (k := 0) (i := 0) rfl rfl) dX11_text_78 ?_
      refine x_aload_n (i := 0) C dX11_text_81 rfl rfl ?_
      refine x_getRs (r := 21) C fkX_X11_27 (nlt rfl) rfl (HG.rR hHy24 (k := 0) (i := 3) rfl rfl) dX11_text_82 ?_
      refine x_getI C fkX_X11_84 (nlt rfl) rfl dX11_text_85 ?_
      refine x_gen (fun v25 ev25 => ?_)
      have qv25 : ((-2147483648) : Int) ≤ v25 ∧ v25 ≤ (2147483647 : Int) := by
        rw [ev25]
        exact hHy24.rF (k := 21) (i := 4) rfl rfl
      have kv25 : v25 = Yy22.1 21 4 := by rw [ev25, eYy24, upI_nc (by decide)]
      have fv25 : v25 = (txF b N 1).2 := by rw [ev25]; exact hLy24.2
      refine x_putI C pkX_X11_68 (nlt rfl) rfl dX11_text_88 ?_
      refine x_gX (fun Yy26 eYy26 => ?_)
      have hHy26 : HG vX Yy26 := by
        rw [eYy26]
        exact hg_wF hHy24 (p := ((-1), 600)) rfl ⟨by omega, by omega⟩
      have hFy26 : FR mdT0 X0 Yy26 := by
        rw [eYy26]
        exact FR.upI hFy24 (rfl)
      replace eYy26 : Yy26 = upI Yy24 1 2 (v25) := eYy26
      have hGy26 : FR [(1, some 2)] Yy24 Yy26 := by
        rw [eYy26]
        exact FR.upI FR.rf rfl
      have hLy26 := hLy24.fr hGy26 rfl
      refine x_aload_n (i := 0) C dX11_text_91 rfl rfl ?_
      refine x_getRs (r := 21) C fkX_X11_27 (nlt rfl) rfl (HG.rR hHy26 (k := 0) (i := 3) rfl rfl) dX11_text_92 ?_
      refine x_getI C fkX_X11_83 (nlt rfl) rfl dX11_text_95 ?_
      refine x_gen (fun v27 ev27 => ?_)
      have qv27 : ((-2147483648) : Int) ≤ v27 ∧ v27 ≤ (2147483647 : Int) := by
        rw [ev27]
        exact hHy26.rF (k := 21) (i := 3) rfl rfl
      have kv27 : v27 = Yy22.1 21 3 := by rw [ev27, eYy26, upI_nc (by decide), eYy24, upI_nc (by decide)]
      have fv27 : v27 = (txF b N 1).1 := by rw [ev27]; exact hLy26.1
      refine x_if_ne (tgt := 117) C dX11_text_98 (by decide) ⟨by omega, by omega⟩ (fun h28 => ?_) (fun h28 => ?_)
      · refine x_iconst C dX11_text_117 ?_
        exact x_iret C hQ dX11_text_118 (⟨_, rfl, hHy26, by rw [eYy26, upI_ne (by decide), eYy24, upI_ne (by decide), (hGy22 1 0 rfl).1, eYy4, upI_ne (by decide), eYy3, upI_ne (by decide), eYy2, upI_at], .inr ⟨hr1, ⟨by rw [eYy26, upI_ne (by decide), eYy24, upI_at]; omega, by rw [eYy26, upI_at]; omega⟩, .inl ⟨rfl, by omega, hFy26⟩⟩⟩)
      · have fz0 : (txF b N 1).1 = 0 := by omega
        refine x_aload_n (i := 0) C dX11_text_101 rfl rfl ?_
        refine x_getRs (r := 1) C fkX_X11_10 (nlt rfl) rfl (HG.rR hHy26 (k := 0) (i := 0) rfl rfl) dX11_text_102 ?_
        refine x_aload_n (i := 0) C dX11_text_105 rfl rfl ?_
        refine x_getRs (r := 21) C fkX_X11_27 (nlt rfl) rfl (HG.rR hHy26 (k := 0) (i := 3) rfl rfl) dX11_text_106 ?_
        refine x_iload_n (i := 1) C dX11_text_109 rfl rfl ?_
        refine x_iload_n (i := 2) C dX11_text_110 rfl rfl ?_
        have hg : (at_ = -1 ∧ X0.1 3 1 = 0) ∨ (at_ = -1 ∧ X0.1 3 1 = 1) ∨ (at_ = -1 ∧ X0.1 3 1 = 2) ∨ (at_ = 0 ∧ 0 < X0.1 3 1) ∨ (at_ = 1 ∧ 1 < X0.1 3 1) ∨ (at_ = 2 ∧ 2 < X0.1 3 1) := by omega
        rcases hg with hg | hg | hg | hg | hg | hg
        · obtain ⟨rfl, hk⟩ := hg
          have ht := fR_0 (b := b) (N := N) (by rw [← txF_1]; omega)
          refine x_callV (As := [.ref 21, .int (iI (1)), .int (iI ((-1)))]) C (by exact (c_take10n (ru := txR b N) (hk := (by rw [eYy26, upI_nc (by decide), eYy24, upI_nc (by decide), (hGy22 3 1 rfl).1, eYy4, upI_nc (by decide), eYy3, upI_nc (by decide), eYy2, upI_nc (by decide)]; exact hk)) (hH := hHy26) (hF := FR.rf) (hR := (hCy22 ht).fr (show FR [(1, some 1), (1, some 2)] Yy22 Yy26 from FR.tr (FR.tr FR.rf hGy24 (by decide)) hGy26 (by decide)) rfl))) ckX11_85 im_X8_take se_X8_take (nlt rfl) rfl rfl rfl rfl (nle rfl) (by exact ⟨nle rfl, nle rfl⟩) dX11_text_111 ?_
          rintro _ Yy29 ⟨v30, rfl, ev30, hHy29, hGy29, hny29, hDy29⟩
          refine Wx_st (st' := [.int (iI (v30))]) rfl ?_
          refine x_goto (tgt := 118) C dX11_text_114 (by decide) ?_
          exact x_iret C hQ dX11_text_118 (⟨_, rfl, hHy29, by rw [(hGy29 1 0 rfl).1, eYy26, upI_ne (by decide), eYy24, upI_ne (by decide), (hGy22 1 0 rfl).1, eYy4, upI_ne (by decide), eYy3, upI_ne (by decide), eYy2, upI_at], .inr ⟨hr1, ⟨by rw [(hGy29 1 1 rfl).1, eYy26, upI_ne (by decide), eYy24, upI_at]; omega, by rw [(hGy29 1 2 rfl).1, eYy26, upI_at]; omega⟩, .inr ⟨fz0, .inr (.inr (.inl ⟨rfl, ev30, FR.tr (FR.tr FR.rf hFy26 (by decide)) hGy29 (by decide), .inl ⟨rfl, hk, hny29⟩, hDy29⟩))⟩⟩⟩)
        · obtain ⟨rfl, hk⟩ := hg
          have ht := fR_0 (b := b) (N := N) (by rw [← txF_1]; omega)
          refine x_callV (As := [.ref 21, .int (iI (1)), .int (iI ((-1)))]) C (by exact (c_take11n (ru := txR b N) (hk := (by rw [eYy26, upI_nc (by decide), eYy24, upI_nc (by decide), (hGy22 3 1 rfl).1, eYy4, upI_nc (by decide), eYy3, upI_nc (by decide), eYy2, upI_nc (by decide)]; exact hk)) (hH := hHy26) (hF := FR.rf) (hR := (hCy22 ht).fr (show FR [(1, some 1), (1, some 2)] Yy22 Yy26 from FR.tr (FR.tr FR.rf hGy24 (by decide)) hGy26 (by decide)) rfl))) ckX11_85 im_X8_take se_X8_take (nlt rfl) rfl rfl rfl rfl (nle rfl) (by exact ⟨nle rfl, nle rfl⟩) dX11_text_111 ?_
          rintro _ Yy31 ⟨v32, rfl, ev32, hHy31, hGy31, hny31, hDy31⟩
          refine Wx_st (st' := [.int (iI (v32))]) rfl ?_
          refine x_goto (tgt := 118) C dX11_text_114 (by decide) ?_
          exact x_iret C hQ dX11_text_118 (⟨_, rfl, hHy31, by rw [(hGy31 1 0 rfl).1, eYy26, upI_ne (by decide), eYy24, upI_ne (by decide), (hGy22 1 0 rfl).1, eYy4, upI_ne (by decide), eYy3, upI_ne (by decide), eYy2, upI_at], .inr ⟨hr1, ⟨by rw [(hGy31 1 1 rfl).1, eYy26, upI_ne (by decide), eYy24, upI_at]; omega, by rw [(hGy31 1 2 rfl).1, eYy26, upI_at]; omega⟩, .inr ⟨fz0, .inr (.inr (.inr (.inl ⟨rfl, ev32, FR.tr (FR.tr FR.rf hFy26 (by decide)) hGy31 (by decide), .inl ⟨rfl, hk, hny31⟩, hDy31⟩)))⟩⟩⟩)
        · obtain ⟨rfl, hk⟩ := hg
          have ht := fR_0 (b := b) (N := N) (by rw [← txF_1]; omega)
          refine x_callV (As := [.ref 21, .int (iI (1)), .int (iI ((-1)))]) C (by exact (c_take12n (ru := txR b N) (hk := (by rw [eYy26, upI_nc (by decide), eYy24, upI_nc (by decide), (hGy22 3 1 rfl).1, eYy4, upI_nc (by decide), eYy3, upI_nc (by decide), eYy2, upI_nc (by decide)]; exact hk)) (hH := hHy26) (hF := FR.rf) (hR := (hCy22 ht).fr (show FR [(1, some 1), (1, some 2)] Yy22 Yy26 from FR.tr (FR.tr FR.rf hGy24 (by decide)) hGy26 (by decide)) rfl))) ckX11_85 im_X8_take se_X8_take (nlt rfl) rfl rfl rfl rfl (nle rfl) (by exact ⟨nle rfl, nle rfl⟩) dX11_text_111 ?_
          rintro _ Yy33 ⟨v34, rfl, ev34, hHy33, hGy33, hny33, hDy33⟩
          refine Wx_st (st' := [.int (iI (v34))]) rfl ?_
          refine x_goto (tgt := 118) C dX11_text_114 (by decide) ?_
          exact x_iret C hQ dX11_text_118 (⟨_, rfl, hHy33, by rw [(hGy33 1 0 rfl).1, eYy26, upI_ne (by decide), eYy24, upI_ne (by decide), (hGy22 1 0 rfl).1, eYy4, upI_ne (by decide), eYy3, upI_ne (by decide), eYy2, upI_at], .inr ⟨hr1, ⟨by rw [(hGy33 1 1 rfl).1, eYy26, upI_ne (by decide), eYy24, upI_at]; omega, by rw [(hGy33 1 2 rfl).1, eYy26, upI_at]; omega⟩, .inr ⟨fz0, .inr (.inr (.inr (.inr (.inl ⟨rfl, ev34, FR.tr (FR.tr FR.rf hFy26 (by decide)) hGy33 (by decide), .inl ⟨rfl, hk, hny33⟩, hDy33⟩))))⟩⟩⟩)
        · obtain ⟨rfl, hk⟩ := hg
          have ht := fR_0 (b := b) (N := N) (by rw [← txF_1]; omega)
          refine x_callV (As := [.ref 21, .int (iI (1)), .int (iI (0))]) C (by exact (c_take10o (ru := txR b N) (hk := (by rw [eYy26, upI_nc (by decide), eYy24, upI_nc (by decide), (hGy22 3 1 rfl).1, eYy4, upI_nc (by decide), eYy3, upI_nc (by decide), eYy2, upI_nc (by decide)]; exact hk)) (hH := hHy26) (hF := FR.rf) (hR := (hCy22 ht).fr (show FR [(1, some 1), (1, some 2)] Yy22 Yy26 from FR.tr (FR.tr FR.rf hGy24 (by decide)) hGy26 (by decide)) rfl))) ckX11_85 im_X8_take se_X8_take (nlt rfl) rfl rfl rfl rfl (nle rfl) (by exact ⟨nle rfl, nle rfl⟩) dX11_text_111 ?_
          rintro _ Yy35 ⟨v36, rfl, ev36, hHy35, hGy35, hny35, hDy35⟩
          refine Wx_st (st' := [.int (iI (v36))]) rfl ?_
          refine x_goto (tgt := 118) C dX11_text_114 (by decide) ?_
          exact x_iret C hQ dX11_text_118 (⟨_, rfl, hHy35, by rw [(hGy35 1 0 rfl).1, eYy26, upI_ne (by decide), eYy24, upI_ne (by decide), (hGy22 1 0 rfl).1, eYy4, upI_ne (by decide), eYy3, upI_ne (by decide), eYy2, upI_at], .inr ⟨hr1, ⟨by rw [(hGy35 1 1 rfl).1, eYy26, upI_ne (by decide), eYy24, upI_at]; omega, by rw [(hGy35 1 2 rfl).1, eYy26, upI_at]; omega⟩, .inr ⟨fz0, .inr (.inr (.inl ⟨rfl, ev36, FR.tr (FR.tr FR.rf hFy26 (by decide)) hGy35 (by decide), .inr ⟨rfl, hk, by rw [hny35, eYy26, upI_nc (by decide), eYy24, upI_nc (by decide), (hGy22 3 1 rfl).1, eYy4, upI_nc (by decide), eYy3, upI_nc (by decide), eYy2, upI_nc (by decide)]⟩, hDy35⟩))⟩⟩⟩)
        · obtain ⟨rfl, hk⟩ := hg
          have ht := fR_0 (b := b) (N := N) (by rw [← txF_1]; omega)
          refine x_callV (As := [.ref 21, .int (iI (1)), .int (iI (1))]) C (by exact (c_take11o (ru := txR b N) (hk := (by rw [eYy26, upI_nc (by decide), eYy24, upI_nc (by decide), (hGy22 3 1 rfl).1, eYy4, upI_nc (by decide), eYy3, upI_nc (by decide), eYy2, upI_nc (by decide)]; exact hk)) (hH := hHy26) (hF := FR.rf) (hR := (hCy22 ht).fr (show FR [(1, some 1), (1, some 2)] Yy22 Yy26 from FR.tr (FR.tr FR.rf hGy24 (by decide)) hGy26 (by decide)) rfl))) ckX11_85 im_X8_take se_X8_take (nlt rfl) rfl rfl rfl rfl (nle rfl) (by exact ⟨nle rfl, nle rfl⟩) dX11_text_111 ?_
          rintro _ Yy37 ⟨v38, rfl, ev38, hHy37, hGy37, hny37, hDy37⟩
          refine Wx_st (st' := [.int (iI (v38))]) rfl ?_
          refine x_goto (tgt := 118) C dX11_text_114 (by decide) ?_
          exact x_iret C hQ dX11_text_118 (⟨_, rfl, hHy37, by rw [(hGy37 1 0 rfl).1, eYy26, upI_ne (by decide), eYy24, upI_ne (by decide), (hGy22 1 0 rfl).1, eYy4, upI_ne (by decide), eYy3, upI_ne (by decide), eYy2, upI_at], .inr ⟨hr1, ⟨by rw [(hGy37 1 1 rfl).1, eYy26, upI_ne (by decide), eYy24, upI_at]; omega, by rw [(hGy37 1 2 rfl).1, eYy26, upI_at]; omega⟩, .inr ⟨fz0, .inr (.inr (.inr (.inl ⟨rfl, ev38, FR.tr (FR.tr FR.rf hFy26 (by decide)) hGy37 (by decide), .inr ⟨rfl, hk, by rw [hny37, eYy26, upI_nc (by decide), eYy24, upI_nc (by decide), (hGy22 3 1 rfl).1, eYy4, upI_nc (by decide), eYy3, upI_nc (by decide), eYy2, upI_nc (by decide)]⟩, hDy37⟩)))⟩⟩⟩)
        · obtain ⟨rfl, hk⟩ := hg
          have ht := fR_0 (b := b) (N := N) (by rw [← txF_1]; omega)
          refine x_callV (As := [.ref 21, .int (iI (1)), .int (iI (2))]) C (by exact (c_take12o (ru := txR b N) (hk := (by rw [eYy26, upI_nc (by decide), eYy24, upI_nc (by decide), (hGy22 3 1 rfl).1, eYy4, upI_nc (by decide), eYy3, upI_nc (by decide), eYy2, upI_nc (by decide)]; exact hk)) (hH := hHy26) (hF := FR.rf) (hR := (hCy22 ht).fr (show FR [(1, some 1), (1, some 2)] Yy22 Yy26 from FR.tr (FR.tr FR.rf hGy24 (by decide)) hGy26 (by decide)) rfl))) ckX11_85 im_X8_take se_X8_take (nlt rfl) rfl rfl rfl rfl (nle rfl) (by exact ⟨nle rfl, nle rfl⟩) dX11_text_111 ?_
          rintro _ Yy39 ⟨v40, rfl, ev40, hHy39, hGy39, hny39, hDy39⟩
          refine Wx_st (st' := [.int (iI (v40))]) rfl ?_
          refine x_goto (tgt := 118) C dX11_text_114 (by decide) ?_
          exact x_iret C hQ dX11_text_118 (⟨_, rfl, hHy39, by rw [(hGy39 1 0 rfl).1, eYy26, upI_ne (by decide), eYy24, upI_ne (by decide), (hGy22 1 0 rfl).1, eYy4, upI_ne (by decide), eYy3, upI_ne (by decide), eYy2, upI_at], .inr ⟨hr1, ⟨by rw [(hGy39 1 1 rfl).1, eYy26, upI_ne (by decide), eYy24, upI_at]; omega, by rw [(hGy39 1 2 rfl).1, eYy26, upI_at]; omega⟩, .inr ⟨fz0, .inr (.inr (.inr (.inr (.inl ⟨rfl, ev40, FR.tr (FR.tr FR.rf hFy26 (by decide)) hGy39 (by decide), .inr ⟨rfl, hk, by rw [hny39, eYy26, upI_nc (by decide), eYy24, upI_nc (by decide), (hGy22 3 1 rfl).1, eYy4, upI_nc (by decide), eYy3, upI_nc (by decide), eYy2, upI_nc (by decide)]⟩, hDy39⟩))))⟩⟩⟩)
    · have hr0 : (at_ = -1 ∧ X0.1 3 2 < 2) ∨ (at_ ≠ -1 ∧ 0 ≤ at_ ∧ at_ < X0.1 3 2) := hr1.2.2
      have cb : (0 : Int) ≤ X0.1 3 2 ∧ X0.1 3 2 ≤ 2 := hH.rF (k := 3) (i := 2) (p := (0, 2)) rfl rfl
      refine x_aload_n (i := 0) C dX11_text_47 rfl rfl ?_
      refine x_getRs (r := 21) C fkX_X11_27 (nlt rfl) rfl (HG.rR hHy4 (k := 0) (i := 3) rfl rfl) dX11_text_48 ?_
      refine x_iload_n (i := 1) C dX11_text_51 rfl rfl ?_
      refine x_aload_n (i := 0) C dX11_text_52 rfl rfl ?_
      refine x_getRs (r := 1) C fkX_X11_10 (nlt rfl) rfl (HG.rR hHy4 (k := 0) (i := 0) rfl rfl) dX11_text_53 ?_
      refine x_getRs (r := 2) C fkX_X11_75 (nlt rfl) rfl (HG.rR hHy4 (k := 1) (i := 3) rfl rfl) dX11_text_56 ?_
      refine x_iload_n (i := 3) C dX11_text_59 rfl rfl ?_
      refine x_callVT (As := [.int (iI (2)), .ref 2, .int (iI (v1))]) C HS (by exact (c_read2 (b := b) (N := N) (cnt := v1) nv1 n6 (fun i hi => by rw [(hFy4 _ _ rfl).1]; exact hb i hi) hHy4 FR.rf)) ckX11_79 im_X6_read se_X6_read (nlt rfl) rfl rfl rfl rfl (nle rfl) (by exact ⟨nle rfl, nle rfl⟩) dX11_text_60 ?_
      rintro _ Yy41 ⟨rfl, hHy41, hGy41, hLy41, hCy41⟩
      have hFy41 : FR mdT0 X0 Yy41 := FR.tr hFy4 hGy41 (by decide)
      rw [fG_q (run_G Yy4), ← txF_2] at hLy41
      have fb := txF_bd (b := b) (N := N) 2
      have fb := show 0 ≤ (txF b N 2).1 ∧ (txF b N 2).1 ≤ 4 ∧ -1 ≤ (txF b N 2).2 ∧ (txF b N 2).2 ≤ (N : Int) from fb
      refine Wx_st (st' := []) rfl ?_
      refine x_aload_n (i := 0) C dX11_text_63 rfl rfl ?_
      refine x_getRs (r := 1) C fkX_X11_10 (nlt rfl) rfl (HG.rR hHy41 (k := 0) (i := 0) rfl rfl) dX11_text_64 ?_
      refine x_aload_n (i := 0) C dX11_text_67 rfl rfl ?_
      refine x_getRs (r := 21) C fkX_X11_27 (nlt rfl) rfl (HG.rR hHy41 (k := 0) (i := 3) rfl rfl) dX11_text_68 ?_
      refine x_getI C fkX_X11_83 (nlt rfl) rfl dX11_text_71 ?_
      refine x_gen (fun v42 ev42 => ?_)
      have qv42 : ((-2147483648) : Int) ≤ v42 ∧ v42 ≤ (2147483647 : Int) := by
        rw [ev42]
        exact hHy41.rF (k := 21) (i := 3) rfl rfl
      have fv42 : v42 = (txF b N 2).1 := by rw [ev42]; exact hLy41.1
      refine x_putI C pkX_X11_65 (nlt rfl) rfl dX11_text_74 ?_
      refine x_gX (fun Yy43 eYy43 => ?_)
      have hHy43 : HG vX Yy43 := by
        rw [eYy43]
        exact hg_wF hHy41 (p := (0, 4)) rfl ⟨by omega, by omega⟩
      have hFy43 : FR mdT0 X0 Yy43 := by
        rw [eYy43]
        exact FR.upI hFy41 (rfl)
      replace eYy43 : Yy43 = upI Yy41 1 1 (v42) := eYy43
      have hGy43 : FR [(1, some 1)] Yy41 Yy43 := by
        rw [eYy43]
        exact FR.upI FR.rf rfl
      have hLy43 := hLy41.fr hGy43 rfl
      refine x_aload_n (i := 0) C dX11_text_77 rfl rfl ?_
      refine x_getRs (r := 1) C fkX_X11_10 (nlt rfl) rfl (HG.rR hHy43 (k := 0) (i := 0) rfl rfl) dX11_text_78 ?_
      refine x_aload_n (i := 0) C dX11_text_81 rfl rfl ?_
      refine x_getRs (r := 21) C fkX_X11_27 (nlt rfl) rfl (HG.rR hHy43 (k := 0) (i := 3) rfl rfl) dX11_text_82 ?_
      refine x_getI C fkX_X11_84 (nlt rfl) rfl dX11_text_85 ?_
      refine x_gen (fun v44 ev44 => ?_)
      have qv44 : ((-2147483648) : Int) ≤ v44 ∧ v44 ≤ (2147483647 : Int) := by
        rw [ev44]
        exact hHy43.rF (k := 21) (i := 4) rfl rfl
      have kv44 : v44 = Yy41.1 21 4 := by rw [ev44, eYy43, upI_nc (by decide)]
      have fv44 : v44 = (txF b N 2).2 := by rw [ev44]; exact hLy43.2
      refine x_putI C pkX_X11_68 (nlt rfl) rfl dX11_text_88 ?_
      refine x_gX (fun Yy45 eYy45 => ?_)
      have hHy45 : HG vX Yy45 := by
        rw [eYy45]
        exact hg_wF hHy43 (p := ((-1), 600)) rfl ⟨by omega, by omega⟩
      have hFy45 : FR mdT0 X0 Yy45 := by
        rw [eYy45]
        exact FR.upI hFy43 (rfl)
      replace eYy45 : Yy45 = upI Yy43 1 2 (v44) := eYy45
      have hGy45 : FR [(1, some 2)] Yy43 Yy45 := by
        rw [eYy45]
        exact FR.upI FR.rf rfl
      have hLy45 := hLy43.fr hGy45 rfl
      refine x_aload_n (i := 0) C dX11_text_91 rfl rfl ?_
      refine x_getRs (r := 21) C fkX_X11_27 (nlt rfl) rfl (HG.rR hHy45 (k := 0) (i := 3) rfl rfl) dX11_text_92 ?_
      refine x_getI C fkX_X11_83 (nlt rfl) rfl dX11_text_95 ?_
      refine x_gen (fun v46 ev46 => ?_)
      have qv46 : ((-2147483648) : Int) ≤ v46 ∧ v46 ≤ (2147483647 : Int) := by
        rw [ev46]
        exact hHy45.rF (k := 21) (i := 3) rfl rfl
      have kv46 : v46 = Yy41.1 21 3 := by rw [ev46, eYy45, upI_nc (by decide), eYy43, upI_nc (by decide)]
      have fv46 : v46 = (txF b N 2).1 := by rw [ev46]; exact hLy45.1
      refine x_if_ne (tgt := 117) C dX11_text_98 (by decide) ⟨by omega, by omega⟩ (fun h47 => ?_) (fun h47 => ?_)
      · refine x_iconst C dX11_text_117 ?_
        exact x_iret C hQ dX11_text_118 (⟨_, rfl, hHy45, by rw [eYy45, upI_ne (by decide), eYy43, upI_ne (by decide), (hGy41 1 0 rfl).1, eYy4, upI_ne (by decide), eYy3, upI_ne (by decide), eYy2, upI_at], .inr ⟨hr1, ⟨by rw [eYy45, upI_ne (by decide), eYy43, upI_at]; omega, by rw [eYy45, upI_at]; omega⟩, .inl ⟨rfl, by omega, hFy45⟩⟩⟩)
      · have fz0 : (txF b N 2).1 = 0 := by omega
        refine x_aload_n (i := 0) C dX11_text_101 rfl rfl ?_
        refine x_getRs (r := 1) C fkX_X11_10 (nlt rfl) rfl (HG.rR hHy45 (k := 0) (i := 0) rfl rfl) dX11_text_102 ?_
        refine x_aload_n (i := 0) C dX11_text_105 rfl rfl ?_
        refine x_getRs (r := 21) C fkX_X11_27 (nlt rfl) rfl (HG.rR hHy45 (k := 0) (i := 3) rfl rfl) dX11_text_106 ?_
        refine x_iload_n (i := 1) C dX11_text_109 rfl rfl ?_
        refine x_iload_n (i := 2) C dX11_text_110 rfl rfl ?_
        have hg : (at_ = -1 ∧ X0.1 3 2 = 0) ∨ (at_ = -1 ∧ X0.1 3 2 = 1) ∨ (at_ = 0 ∧ 0 < X0.1 3 2) ∨ (at_ = 1 ∧ 1 < X0.1 3 2) := by omega
        rcases hg with hg | hg | hg | hg
        · obtain ⟨rfl, hk⟩ := hg
          have mb := gRun_mb (b := b) (N := N) 600 (tS b N 0) (0, -1) (g0 Yy4) ⟨Int.le_refl _, by show (0 : Int) ≤ 30; decide⟩
          refine x_callV (As := [.ref 21, .int (iI (2)), .int (iI ((-1)))]) C (by exact (c_take20n (G := (gRun b N 600 (tS b N 0) (0, -1) (g0 Yy4)).2.2.2) mb (hCy41.fr (show FR [(1, some 1), (1, some 2)] Yy41 Yy45 from FR.tr (FR.tr FR.rf hGy43 (by decide)) hGy45 (by decide)) rfl) (by rw [eYy45, upI_nc (by decide), eYy43, upI_nc (by decide), (hGy41 3 2 rfl).1, eYy4, upI_nc (by decide), eYy3, upI_nc (by decide), eYy2, upI_nc (by decide)]; exact hk) hHy45 FR.rf)) ckX11_85 im_X8_take se_X8_take (nlt rfl) rfl rfl rfl rfl (nle rfl) (by exact ⟨nle rfl, nle rfl⟩) dX11_text_111 ?_
          rintro _ Yy48 ⟨v49, rfl, ev49, hHy48, hGy48, hny48, hDy48⟩
          refine Wx_st (st' := [.int (iI (v49))]) rfl ?_
          refine x_goto (tgt := 118) C dX11_text_114 (by decide) ?_
          exact x_iret C hQ dX11_text_118 (⟨_, rfl, hHy48, by rw [(hGy48 1 0 rfl).1, eYy45, upI_ne (by decide), eYy43, upI_ne (by decide), (hGy41 1 0 rfl).1, eYy4, upI_ne (by decide), eYy3, upI_ne (by decide), eYy2, upI_at], .inr ⟨hr1, ⟨by rw [(hGy48 1 1 rfl).1, eYy45, upI_ne (by decide), eYy43, upI_at]; omega, by rw [(hGy48 1 2 rfl).1, eYy45, upI_at]; omega⟩, .inr ⟨fz0, .inr (.inr (.inr (.inr (.inr (.inl ⟨rfl, ev49, FR.tr (FR.tr FR.rf hFy45 (by decide)) hGy48 (by decide), .inl ⟨rfl, hk, hny48⟩, TGk_of hDy48 (run_G Yy4).2.2.2 mb.2⟩)))))⟩⟩⟩)
        · obtain ⟨rfl, hk⟩ := hg
          have mb := gRun_mb (b := b) (N := N) 600 (tS b N 0) (0, -1) (g0 Yy4) ⟨Int.le_refl _, by show (0 : Int) ≤ 30; decide⟩
          refine x_callV (As := [.ref 21, .int (iI (2)), .int (iI ((-1)))]) C (by exact (c_take21n (G := (gRun b N 600 (tS b N 0) (0, -1) (g0 Yy4)).2.2.2) mb (hCy41.fr (show FR [(1, some 1), (1, some 2)] Yy41 Yy45 from FR.tr (FR.tr FR.rf hGy43 (by decide)) hGy45 (by decide)) rfl) (by rw [eYy45, upI_nc (by decide), eYy43, upI_nc (by decide), (hGy41 3 2 rfl).1, eYy4, upI_nc (by decide), eYy3, upI_nc (by decide), eYy2, upI_nc (by decide)]; exact hk) hHy45 FR.rf)) ckX11_85 im_X8_take se_X8_take (nlt rfl) rfl rfl rfl rfl (nle rfl) (by exact ⟨nle rfl, nle rfl⟩) dX11_text_111 ?_
          rintro _ Yy50 ⟨v51, rfl, ev51, hHy50, hGy50, hny50, hDy50⟩
          refine Wx_st (st' := [.int (iI (v51))]) rfl ?_
          refine x_goto (tgt := 118) C dX11_text_114 (by decide) ?_
          exact x_iret C hQ dX11_text_118 (⟨_, rfl, hHy50, by rw [(hGy50 1 0 rfl).1, eYy45, upI_ne (by decide), eYy43, upI_ne (by decide), (hGy41 1 0 rfl).1, eYy4, upI_ne (by decide), eYy3, upI_ne (by decide), eYy2, upI_at], .inr ⟨hr1, ⟨by rw [(hGy50 1 1 rfl).1, eYy45, upI_ne (by decide), eYy43, upI_at]; omega, by rw [(hGy50 1 2 rfl).1, eYy45, upI_at]; omega⟩, .inr ⟨fz0, .inr (.inr (.inr (.inr (.inr (.inr (⟨rfl, ev51, FR.tr (FR.tr FR.rf hFy45 (by decide)) hGy50 (by decide), .inl ⟨rfl, hk, hny50⟩, TGk_of hDy50 (run_G Yy4).2.2.2 mb.2⟩))))))⟩⟩⟩)
        · obtain ⟨rfl, hk⟩ := hg
          have mb := gRun_mb (b := b) (N := N) 600 (tS b N 0) (0, -1) (g0 Yy4) ⟨Int.le_refl _, by show (0 : Int) ≤ 30; decide⟩
          refine x_callV (As := [.ref 21, .int (iI (2)), .int (iI (0))]) C (by exact (c_take20o (G := (gRun b N 600 (tS b N 0) (0, -1) (g0 Yy4)).2.2.2) mb (hCy41.fr (show FR [(1, some 1), (1, some 2)] Yy41 Yy45 from FR.tr (FR.tr FR.rf hGy43 (by decide)) hGy45 (by decide)) rfl) (by rw [eYy45, upI_nc (by decide), eYy43, upI_nc (by decide), (hGy41 3 2 rfl).1, eYy4, upI_nc (by decide), eYy3, upI_nc (by decide), eYy2, upI_nc (by decide)]; exact hk) hHy45 FR.rf)) ckX11_85 im_X8_take se_X8_take (nlt rfl) rfl rfl rfl rfl (nle rfl) (by exact ⟨nle rfl, nle rfl⟩) dX11_text_111 ?_
          rintro _ Yy52 ⟨v53, rfl, ev53, hHy52, hGy52, hny52, hDy52⟩
          refine Wx_st (st' := [.int (iI (v53))]) rfl ?_
          refine x_goto (tgt := 118) C dX11_text_114 (by decide) ?_
          exact x_iret C hQ dX11_text_118 (⟨_, rfl, hHy52, by rw [(hGy52 1 0 rfl).1, eYy45, upI_ne (by decide), eYy43, upI_ne (by decide), (hGy41 1 0 rfl).1, eYy4, upI_ne (by decide), eYy3, upI_ne (by decide), eYy2, upI_at], .inr ⟨hr1, ⟨by rw [(hGy52 1 1 rfl).1, eYy45, upI_ne (by decide), eYy43, upI_at]; omega, by rw [(hGy52 1 2 rfl).1, eYy45, upI_at]; omega⟩, .inr ⟨fz0, .inr (.inr (.inr (.inr (.inr (.inl ⟨rfl, ev53, FR.tr (FR.tr FR.rf hFy45 (by decide)) hGy52 (by decide), .inr ⟨rfl, hk, by rw [hny52, eYy45, upI_nc (by decide), eYy43, upI_nc (by decide), (hGy41 3 2 rfl).1, eYy4, upI_nc (by decide), eYy3, upI_nc (by decide), eYy2, upI_nc (by decide)]⟩, TGk_of hDy52 (run_G Yy4).2.2.2 mb.2⟩)))))⟩⟩⟩)
        · obtain ⟨rfl, hk⟩ := hg
          have mb := gRun_mb (b := b) (N := N) 600 (tS b N 0) (0, -1) (g0 Yy4) ⟨Int.le_refl _, by show (0 : Int) ≤ 30; decide⟩
          refine x_callV (As := [.ref 21, .int (iI (2)), .int (iI (1))]) C (by exact (c_take21o (G := (gRun b N 600 (tS b N 0) (0, -1) (g0 Yy4)).2.2.2) mb (hCy41.fr (show FR [(1, some 1), (1, some 2)] Yy41 Yy45 from FR.tr (FR.tr FR.rf hGy43 (by decide)) hGy45 (by decide)) rfl) (by rw [eYy45, upI_nc (by decide), eYy43, upI_nc (by decide), (hGy41 3 2 rfl).1, eYy4, upI_nc (by decide), eYy3, upI_nc (by decide), eYy2, upI_nc (by decide)]; exact hk) hHy45 FR.rf)) ckX11_85 im_X8_take se_X8_take (nlt rfl) rfl rfl rfl rfl (nle rfl) (by exact ⟨nle rfl, nle rfl⟩) dX11_text_111 ?_
          rintro _ Yy54 ⟨v55, rfl, ev55, hHy54, hGy54, hny54, hDy54⟩
          refine Wx_st (st' := [.int (iI (v55))]) rfl ?_
          refine x_goto (tgt := 118) C dX11_text_114 (by decide) ?_
          exact x_iret C hQ dX11_text_118 (⟨_, rfl, hHy54, by rw [(hGy54 1 0 rfl).1, eYy45, upI_ne (by decide), eYy43, upI_ne (by decide), (hGy41 1 0 rfl).1, eYy4, upI_ne (by decide), eYy3, upI_ne (by decide), eYy2, upI_at], .inr ⟨hr1, ⟨by rw [(hGy54 1 1 rfl).1, eYy45, upI_ne (by decide), eYy43, upI_at]; omega, by rw [(hGy54 1 2 rfl).1, eYy45, upI_at]; omega⟩, .inr ⟨fz0, .inr (.inr (.inr (.inr (.inr (.inr (⟨rfl, ev55, FR.tr (FR.tr FR.rf hFy45 (by decide)) hGy54 (by decide), .inr ⟨rfl, hk, by rw [hny54, eYy45, upI_nc (by decide), eYy43, upI_nc (by decide), (hGy41 3 2 rfl).1, eYy4, upI_nc (by decide), eYy3, upI_nc (by decide), eYy2, upI_nc (by decide)]⟩, TGk_of hDy54 (run_G Yy4).2.2.2 mb.2⟩))))))⟩⟩⟩)
  · refine x_bipush C dX11_text_44 (by decide) ?_
    exact x_iret C hQ dX11_text_46 (⟨_, rfl, hHy4, by rw [eYy4, upI_ne (by decide), eYy3, upI_ne (by decide), eYy2, upI_at], .inl ⟨rfl, hr.elim (fun g => by exfalso; omega) (fun g => g.2), hFy4, ⟨by rw [eYy4, upI_ne (by decide), eYy3, upI_at], by rw [eYy4, upI_at]⟩⟩⟩)
