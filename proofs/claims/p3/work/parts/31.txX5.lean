/-! ===== the class reads: whole texts ===== -/
theorem dX6_read_0 : decode cX6_read 0 = .ok (.aload_n 0, 1) := by decide +kernel
theorem dX6_read_1 : decode cX6_read 1 = .ok (.aload_n 2, 1) := by decide +kernel
theorem dX6_read_2 : decode cX6_read 2 = .ok (.putfield 25, 3) := by decide +kernel
theorem dX6_read_5 : decode cX6_read 5 = .ok (.aload_n 0, 1) := by decide +kernel
theorem dX6_read_6 : decode cX6_read 6 = .ok (.iload_n 3, 1) := by decide +kernel
theorem dX6_read_7 : decode cX6_read 7 = .ok (.aload_n 2, 1) := by decide +kernel
theorem dX6_read_8 : decode cX6_read 8 = .ok (.arraylength, 1) := by decide +kernel
theorem dX6_read_9 : decode cX6_read 9 = .ok (.invokestatic 29, 3) := by decide +kernel
theorem dX6_read_12 : decode cX6_read 12 = .ok (.putfield 35, 3) := by decide +kernel
theorem dX6_read_15 : decode cX6_read 15 = .ok (.aload_n 0, 1) := by decide +kernel
theorem dX6_read_16 : decode cX6_read 16 = .ok (.iconst 0, 1) := by decide +kernel
theorem dX6_read_17 : decode cX6_read 17 = .ok (.putfield 39, 3) := by decide +kernel
theorem dX6_read_20 : decode cX6_read 20 = .ok (.aload_n 0, 1) := by decide +kernel
theorem dX6_read_21 : decode cX6_read 21 = .ok (.iconst 0, 1) := by decide +kernel
theorem dX6_read_22 : decode cX6_read 22 = .ok (.putfield 42, 3) := by decide +kernel
theorem dX6_read_25 : decode cX6_read 25 = .ok (.aload_n 0, 1) := by decide +kernel
theorem dX6_read_26 : decode cX6_read 26 = .ok (.iconst (-1), 1) := by decide +kernel
theorem dX6_read_27 : decode cX6_read 27 = .ok (.putfield 45, 3) := by decide +kernel
theorem dX6_read_30 : decode cX6_read 30 = .ok (.aload_n 0, 1) := by decide +kernel
theorem dX6_read_31 : decode cX6_read 31 = .ok (.getfield 12, 3) := by decide +kernel
theorem dX6_read_34 : decode cX6_read 34 = .ok (.invokevirtual 48, 3) := by decide +kernel
theorem dX6_read_37 : decode cX6_read 37 = .ok (.aload_n 0, 1) := by decide +kernel
theorem dX6_read_38 : decode cX6_read 38 = .ok (.getfield 21, 3) := by decide +kernel
theorem dX6_read_41 : decode cX6_read 41 = .ok (.iconst 0, 1) := by decide +kernel
theorem dX6_read_42 : decode cX6_read 42 = .ok (.putfield 51, 3) := by decide +kernel
theorem dX6_read_45 : decode cX6_read 45 = .ok (.aload_n 0, 1) := by decide +kernel
theorem dX6_read_46 : decode cX6_read 46 = .ok (.invokevirtual 54, 3) := by decide +kernel
theorem dX6_read_49 : decode cX6_read 49 = .ok (.iload_n 1, 1) := by decide +kernel
theorem dX6_read_50 : decode cX6_read 50 = .ok (.iconst 1, 1) := by decide +kernel
theorem dX6_read_51 : decode cX6_read 51 = .ok (.if_icmp .ne 18, 3) := by decide +kernel
theorem dX6_read_54 : decode cX6_read 54 = .ok (.aload_n 0, 1) := by decide +kernel
theorem dX6_read_55 : decode cX6_read 55 = .ok (.invokevirtual 57, 3) := by decide +kernel
theorem dX6_read_58 : decode cX6_read 58 = .ok (.ifCond .eq 15, 3) := by decide +kernel
theorem dX6_read_61 : decode cX6_read 61 = .ok (.aload_n 0, 1) := by decide +kernel
theorem dX6_read_62 : decode cX6_read 62 = .ok (.getfield 61, 3) := by decide +kernel
theorem dX6_read_65 : decode cX6_read 65 = .ok (.iconst 5, 1) := by decide +kernel
theorem dX6_read_66 : decode cX6_read 66 = .ok (.if_icmp .ne 7, 3) := by decide +kernel
theorem dX6_read_69 : decode cX6_read 69 = .ok (.iconst 1, 1) := by decide +kernel
theorem dX6_read_70 : decode cX6_read 70 = .ok (.goto 4, 3) := by decide +kernel
theorem dX6_read_73 : decode cX6_read 73 = .ok (.iconst 0, 1) := by decide +kernel
theorem dX6_read_74 : decode cX6_read 74 = .ok (.istore 4, 2) := by decide +kernel
theorem dX6_read_76 : decode cX6_read 76 = .ok (.iconst 0, 1) := by decide +kernel
theorem dX6_read_77 : decode cX6_read 77 = .ok (.istore 5, 2) := by decide +kernel
theorem dX6_read_79 : decode cX6_read 79 = .ok (.iload 5, 2) := by decide +kernel
theorem dX6_read_81 : decode cX6_read 81 = .ok (.sipush 600, 3) := by decide +kernel
theorem dX6_read_84 : decode cX6_read 84 = .ok (.if_icmp .ge 39, 3) := by decide +kernel
theorem dX6_read_87 : decode cX6_read 87 = .ok (.iload 4, 2) := by decide +kernel
theorem dX6_read_89 : decode cX6_read 89 = .ok (.ifCond .eq 34, 3) := by decide +kernel
theorem dX6_read_92 : decode cX6_read 92 = .ok (.aload_n 0, 1) := by decide +kernel
theorem dX6_read_93 : decode cX6_read 93 = .ok (.getfield 61, 3) := by decide +kernel
theorem dX6_read_96 : decode cX6_read 96 = .ok (.iconst 5, 1) := by decide +kernel
theorem dX6_read_97 : decode cX6_read 97 = .ok (.if_icmp .eq 26, 3) := by decide +kernel
theorem dX6_read_100 : decode cX6_read 100 = .ok (.iload_n 1, 1) := by decide +kernel
theorem dX6_read_101 : decode cX6_read 101 = .ok (.ifCond .ne 10, 3) := by decide +kernel
theorem dX6_read_104 : decode cX6_read 104 = .ok (.aload_n 0, 1) := by decide +kernel
theorem dX6_read_105 : decode cX6_read 105 = .ok (.invokevirtual 64, 3) := by decide +kernel
theorem dX6_read_108 : decode cX6_read 108 = .ok (.goto 7, 3) := by decide +kernel
theorem dX6_read_111 : decode cX6_read 111 = .ok (.aload_n 0, 1) := by decide +kernel
theorem dX6_read_112 : decode cX6_read 112 = .ok (.invokevirtual 67, 3) := by decide +kernel
theorem dX6_read_115 : decode cX6_read 115 = .ok (.istore 4, 2) := by decide +kernel
theorem dX6_read_117 : decode cX6_read 117 = .ok (.iinc 5 1, 3) := by decide +kernel
theorem dX6_read_120 : decode cX6_read 120 = .ok (.goto (-41), 3) := by decide +kernel
theorem dX6_read_123 : decode cX6_read 123 = .ok (.aload_n 0, 1) := by decide +kernel
theorem dX6_read_124 : decode cX6_read 124 = .ok (.getfield 12, 3) := by decide +kernel
theorem dX6_read_127 : decode cX6_read 127 = .ok (.invokevirtual 70, 3) := by decide +kernel
theorem dX6_read_130 : decode cX6_read 130 = .ok (.iload 4, 2) := by decide +kernel
theorem dX6_read_132 : decode cX6_read 132 = .ok (.ifCond .ne 19, 3) := by decide +kernel
theorem dX6_read_135 : decode cX6_read 135 = .ok (.aload_n 0, 1) := by decide +kernel
theorem dX6_read_136 : decode cX6_read 136 = .ok (.iconst 1, 1) := by decide +kernel
theorem dX6_read_137 : decode cX6_read 137 = .ok (.putfield 42, 3) := by decide +kernel
theorem dX6_read_140 : decode cX6_read 140 = .ok (.aload_n 0, 1) := by decide +kernel
theorem dX6_read_141 : decode cX6_read 141 = .ok (.aload_n 0, 1) := by decide +kernel
theorem dX6_read_142 : decode cX6_read 142 = .ok (.getfield 73, 3) := by decide +kernel
theorem dX6_read_145 : decode cX6_read 145 = .ok (.putfield 45, 3) := by decide +kernel
theorem dX6_read_148 : decode cX6_read 148 = .ok (.goto 33, 3) := by decide +kernel
theorem dX6_read_151 : decode cX6_read 151 = .ok (.aload_n 0, 1) := by decide +kernel
theorem dX6_read_152 : decode cX6_read 152 = .ok (.getfield 42, 3) := by decide +kernel
theorem dX6_read_155 : decode cX6_read 155 = .ok (.ifCond .ne 26, 3) := by decide +kernel
theorem dX6_read_158 : decode cX6_read 158 = .ok (.iload_n 1, 1) := by decide +kernel
theorem dX6_read_159 : decode cX6_read 159 = .ok (.ifCond .ne 22, 3) := by decide +kernel
theorem dX6_read_162 : decode cX6_read 162 = .ok (.aload_n 0, 1) := by decide +kernel
theorem dX6_read_163 : decode cX6_read 163 = .ok (.getfield 12, 3) := by decide +kernel
theorem dX6_read_166 : decode cX6_read 166 = .ok (.invokevirtual 76, 3) := by decide +kernel
theorem dX6_read_169 : decode cX6_read 169 = .ok (.ifCond .ne 12, 3) := by decide +kernel
theorem dX6_read_172 : decode cX6_read 172 = .ok (.aload_n 0, 1) := by decide +kernel
theorem dX6_read_173 : decode cX6_read 173 = .ok (.iconst 4, 1) := by decide +kernel
theorem dX6_read_174 : decode cX6_read 174 = .ok (.aload_n 0, 1) := by decide +kernel
theorem dX6_read_175 : decode cX6_read 175 = .ok (.getfield 35, 3) := by decide +kernel
theorem dX6_read_178 : decode cX6_read 178 = .ok (.invokevirtual 79, 3) := by decide +kernel
theorem dX6_read_181 : decode cX6_read 181 = .ok (.return_, 1) := by decide +kernel
theorem ckX6_70 : CKB RX6 70 yX0_settle cX0_settle 1 none 0 := ⟨(lw_gi 762 (by decide +kernel) rfl : Cond.code yX0_settle cX0_settle 1 none ∈ lw_g), (lw_gi 118 (by decide +kernel) rfl : Cond.initialized yX0_settle.cls ∈ lw_g), by decide +kernel, by decide +kernel, (lw_gi 759 (by decide +kernel) rfl : Cond.methodLink RX6 70 yX0_settle ∈ lw_g)⟩
theorem im_X0_settle : Cond.instanceMethod yX0_settle ∈ lw_g := (lw_gi 760 (by decide +kernel) rfl : Cond.instanceMethod yX0_settle ∈ lw_g)
theorem se_X0_settle : Cond.selects RX0 yX0_settle yX0_settle ∈ lw_g := (lw_gi 761 (by decide +kernel) rfl : Cond.selects RX0 yX0_settle yX0_settle ∈ lw_g)
theorem ckX6_76 : CKB RX6 76 yX0_isSound cX0_isSound 8 (some .boolean) 0 := ⟨(lw_gi 767 (by decide +kernel) rfl : Cond.code yX0_isSound cX0_isSound 8 (some .boolean) ∈ lw_g), (lw_gi 118 (by decide +kernel) rfl : Cond.initialized yX0_isSound.cls ∈ lw_g), by decide +kernel, by decide +kernel, (lw_gi 764 (by decide +kernel) rfl : Cond.methodLink RX6 76 yX0_isSound ∈ lw_g)⟩
theorem im_X0_isSound : Cond.instanceMethod yX0_isSound ∈ lw_g := (lw_gi 765 (by decide +kernel) rfl : Cond.instanceMethod yX0_isSound ∈ lw_g)
theorem se_X0_isSound : Cond.selects RX0 yX0_isSound yX0_isSound ∈ lw_g := (lw_gi 766 (by decide +kernel) rfl : Cond.selects RX0 yX0_isSound yX0_isSound ∈ lw_g)
theorem ckX6_64 : CKB RX6 64 yX6_readBoardLine cX6_readBoardLine 3 (some .boolean) 0 := ⟨(lw_gi 688 (by decide +kernel) rfl : Cond.code yX6_readBoardLine cX6_readBoardLine 3 (some .boolean) ∈ lw_g), (lw_gi 120 (by decide +kernel) rfl : Cond.initialized yX6_readBoardLine.cls ∈ lw_g), by decide +kernel, by decide +kernel, (lw_gi 685 (by decide +kernel) rfl : Cond.methodLink RX6 64 yX6_readBoardLine ∈ lw_g)⟩
theorem im_X6_readBoardLine : Cond.instanceMethod yX6_readBoardLine ∈ lw_g := (lw_gi 687 (by decide +kernel) rfl : Cond.instanceMethod yX6_readBoardLine ∈ lw_g)
theorem se_X6_readBoardLine : Cond.selects RX6 yX6_readBoardLine yX6_readBoardLine ∈ lw_g := (lw_gi 2 (by decide +kernel) rfl : Cond.selects RX6 yX6_readBoardLine yX6_readBoardLine ∈ lw_g)
theorem ckX6_67 : CKB RX6 67 yX6_readGameLine cX6_readGameLine 2 (some .boolean) 0 := ⟨(lw_gi 752 (by decide +kernel) rfl : Cond.code yX6_readGameLine cX6_readGameLine 2 (some .boolean) ∈ lw_g), (lw_gi 120 (by decide +kernel) rfl : Cond.initialized yX6_readGameLine.cls ∈ lw_g), by decide +kernel, by decide +kernel, (lw_gi 749 (by decide +kernel) rfl : Cond.methodLink RX6 67 yX6_readGameLine ∈ lw_g)⟩
theorem im_X6_readGameLine : Cond.instanceMethod yX6_readGameLine ∈ lw_g := (lw_gi 751 (by decide +kernel) rfl : Cond.instanceMethod yX6_readGameLine ∈ lw_g)
theorem se_X6_readGameLine : Cond.selects RX6 yX6_readGameLine yX6_readGameLine ∈ lw_g := (lw_gi 10 (by decide +kernel) rfl : Cond.selects RX6 yX6_readGameLine yX6_readGameLine ∈ lw_g)
abbrev mdRX : List (Nat × Option Nat) := [(21, some 3), (21, some 4), (21, some 8), (21, some 7), (21, some 9), (21, some 10), (21, some 2), (22, some 0), (22, some 1), (22, some 2), (22, some 3), (22, some 4), (23, none), (24, none), (25, some 0), (26, none), (27, none)]
abbrev mdRD : List (Nat × Option Nat) := [(21, some 5), (21, some 6), (21, some 3), (21, some 4), (21, some 8), (21, some 7), (21, some 9), (21, some 10), (21, some 2), (22, some 0), (22, some 1), (22, some 2), (22, some 3), (22, some 4), (23, none), (24, none), (25, some 0), (26, none), (27, none)]
def bof (X : XT) : BC := (X.1 22 0, X.1 22 1, X.2.1 22 2, X.2.1 22 3, X.1 22 4, X.1 23, X.1 24)
def gof (X : XT) : GC := (X.1 25 0, X.2.1 26, X.1 27)
def b0 (X : XT) : BC := (4, 4, 0, 0, 0, (bof X).2.2.2.2.2)
def g0 (X : XT) : GC := (0, (gof X).2)
theorem bof_X (X : XT) : BDX (bof X) X := ⟨rfl, rfl, rfl, rfl, rfl, fun j hj => ⟨rfl, rfl⟩⟩
theorem gof_X (X : XT) : GMX (gof X) X := ⟨rfl, fun j hj => ⟨rfl, rfl⟩⟩
set_option maxHeartbeats 4000000 in
set_option maxRecDepth 100000 in
theorem c_readL0 {D : va_G} {ad : Nat → Nat} {cA : Nat → ClassId} {Xi X0 : XT} {b : Nat → Int} {N : Nat} {s0 : Nat} {F0 : Int × Int} {B0 : BC} (hT0 : TPX b N X0) (hFi : FR mdRD Xi X0) {E : ET} (C : CX E (wX D ad cA) cX6_read 6 RX6 none { frames := 9, cells := 0, slots := 0, locals := 205 }) (HS : SE E (wX D ad cA)) (hQ : EQ E (wX D ad cA) (fun r X1 => r = none ∧ HG vX X1 ∧ FR mdRD Xi X1 ∧ FLX (fB N (bRun b N 600 s0 F0 B0)) X1 ∧ BDX (bst (bRun b N 600 s0 F0 B0).2.2.2) X1)) : ∀ (n : Nat) (k : Int) (o : Bool) (s : Nat) (F : Int × Int) (B : BC) (X : XT), ((601 - k.toNat : Nat) : Int) < n → 0 ≤ k → k ≤ 600 → HG vX X → FR mdRX X0 X → TKX b N s X → FLX F X → BDX B X → 0 ≤ B.2.2.2.2.1 ∧ B.2.2.2.2.1 ≤ 6 → (if o = true then bRun b N (600 - k.toNat) s F B else (false, s, F, B)) = bRun b N 600 s0 F0 B0 → Wx E (wX D ad cA) 6 (PX (wX D ad cA) X) 79 [(5, .int (iI (k))), (4, .int (iI (zB o))), (0, .ref 21), (1, .int (iI (0)))] [] := by
  intro n
  induction n with
  | zero => intro k o s F B X hn k0 k1 hH hF hK hL hB mb hr; exfalso; omega
  | succ n ih =>
    intro k o s F B X hn k0 k1 hH hF hK hL hB mb hr
    have zo := zB_01 o
    have n6 := hT0.2.2.1
    have s6 := hK.2.2.2.2
    refine x_iload C dX6_read_79 rfl ?_
    refine x_sipush C dX6_read_81 (by decide) ?_
    refine x_icmp_ge (tgt := 123) C dX6_read_84 (by decide) ⟨by omega, by omega⟩ ⟨by omega, by omega⟩ (fun h1 => ?_) (fun h1 => ?_)
    · have hR : bRun b N 600 s0 F0 B0 = (o, s, F, B) := by
        rw [← hr]
        cases o with
        | false => rfl
        | true =>
          show bRun b N (600 - k.toNat) s F B = _
          first | exact bRun_E (by have := hK.2.1; omega) | (rw [show 600 - k.toNat = 0 by omega]; rfl) | (exfalso; have : zB true = 1 := rfl; omega)
      refine x_aload_n (i := 0) C dX6_read_123 rfl rfl ?_
      refine x_getRs (r := 22) C fkX_X6_12 (nlt rfl) rfl (HG.rR hH (k := 21) (i := 0) rfl rfl) dX6_read_124 ?_
      refine x_callV (As := []) C (by exact (c_settle (B := B) hH FR.rf hB)) ckX6_70 im_X0_settle se_X0_settle (nlt rfl) rfl rfl rfl rfl (nle rfl) (by exact ⟨nle rfl, nle rfl⟩) dX6_read_127 ?_
      rintro _ Yy2 ⟨rfl, hHy2, hGy2, hBy2⟩
      have hFy2 : FR mdRX X0 Yy2 := FR.tr hF hGy2 (by decide)
      have hKy2 := hK.fr hGy2 rfl
      have hLy2 := hL.fr hGy2 rfl
      refine Wx_st (st' := []) rfl ?_
      refine x_iload C dX6_read_130 rfl ?_
      refine x_if_ne (tgt := 151) C dX6_read_132 (by decide) ⟨by omega, by omega⟩ (fun h3 => ?_) (fun h3 => ?_)
      · have fz := hLy2.1
        refine x_aload_n (i := 0) C dX6_read_151 rfl rfl ?_
        refine x_getI C fkX_X6_42 (nlt rfl) rfl dX6_read_152 ?_
        refine x_gen (fun v4 ev4 => ?_)
        have qv4 : ((-2147483648) : Int) ≤ v4 ∧ v4 ≤ (2147483647 : Int) := by
          rw [ev4]
          exact hHy2.rF (k := 21) (i := 3) rfl rfl
        have kv4 : v4 = X.1 21 3 := by rw [ev4, (hGy2 21 3 rfl).1]
        refine x_if_ne (tgt := 181) C dX6_read_155 (by decide) ⟨by omega, by omega⟩ (fun h5 => ?_) (fun h5 => ?_)
        · exact x_vret C hQ dX6_read_181 (⟨rfl, hHy2, FR.tr hFi hFy2 (by decide), by rw [hR, fB_f (ob_t (by omega)) (.inl (by omega))]; exact hLy2, by rw [hR]; exact hBy2⟩)
        · refine x_iload_n (i := 1) C dX6_read_158 rfl rfl ?_
          refine x_if_ne (tgt := 181) C dX6_read_159 (by decide) ⟨by omega, by omega⟩ (fun h6 => by exfalso; omega) (fun h6 => ?_)
          refine x_aload_n (i := 0) C dX6_read_162 rfl rfl ?_
          refine x_getRs (r := 22) C fkX_X6_12 (nlt rfl) rfl (HG.rR hHy2 (k := 21) (i := 0) rfl rfl) dX6_read_163 ?_
          refine x_callV (As := []) C (by exact (c_isSound (B := (bst B)) mb.1 mb.2 hHy2 FR.rf hBy2)) ckX6_76 im_X0_isSound se_X0_isSound (nlt rfl) rfl rfl rfl rfl (nle rfl) (by exact ⟨nle rfl, nle rfl⟩) dX6_read_166 ?_
          rintro _ Xv7 ⟨hxv7, v7, rfl, ev7⟩
          rw [hxv7]
          have bv7 := zB_01 (bSound (bst B))
          rw [← ev7] at bv7
          refine Wx_st (st' := [.int (iI (v7))]) rfl ?_
          refine x_if_ne (tgt := 181) C dX6_read_169 (by decide) ⟨by omega, by omega⟩ (fun h8 => ?_) (fun h8 => ?_)
          · exact x_vret C hQ dX6_read_181 (⟨rfl, hHy2, FR.tr hFi hFy2 (by decide), by rw [hR, fB_f (ob_t (by omega)) (.inr (ob_t (by omega)))]; exact hLy2, by rw [hR]; exact hBy2⟩)
          · refine x_aload_n (i := 0) C dX6_read_172 rfl rfl ?_
            refine x_iconst C dX6_read_173 ?_
            refine x_aload_n (i := 0) C dX6_read_174 rfl rfl ?_
            refine x_getI C fkX_X6_35 (nlt rfl) rfl dX6_read_175 ?_
            refine x_gen (fun v9 ev9 => ?_)
            have qv9 : ((-2147483648) : Int) ≤ v9 ∧ v9 ≤ (2147483647 : Int) := by
              rw [ev9]
              exact hHy2.rF (k := 21) (i := 6) rfl rfl
            have kv9 : v9 = X.1 21 6 := by rw [ev9, (hGy2 21 6 rfl).1]
            have nv9 : v9 = (N : Int) := by rw [ev9]; exact (hT0.fr hFy2 rfl).2.1
            refine x_callV (As := [.int (iI (4)), .int (iI (v9))]) C (by exact (c_note (F := F) (f := 4) (p := v9) ⟨by omega, by omega⟩ ⟨by omega, by omega⟩ hHy2 FR.rf hLy2)) ckX6_79 im_X6_note se_X6_note (nlt rfl) rfl rfl rfl rfl (nle rfl) (by exact ⟨nle rfl, nle rfl⟩) dX6_read_178 ?_
            rintro _ Yy10 ⟨rfl, hHy10, hGy10, hLy10⟩
            have hFy10 : FR mdRX X0 Yy10 := FR.tr hFy2 hGy10 (by decide)
            have hBy10 := hBy2.fr hGy10 rfl
            have hKy10 := hKy2.fr hGy10 rfl
            refine Wx_st (st' := []) rfl ?_
            exact x_vret C hQ dX6_read_181 (⟨rfl, hHy10, FR.tr hFi hFy10 (by decide), by rw [hR, fB_4 (ob_t (by omega)) (by omega) (ob_f (by omega))]; have t := hLy10; unfold ntF at t; rw [if_pos (by omega)] at t; rw [← (show v9 = (N : Int) from nv9)]; exact t, by rw [hR]; exact hBy10⟩)
      · refine x_aload_n (i := 0) C dX6_read_135 rfl rfl ?_
        refine x_iconst C dX6_read_136 ?_
        refine x_putI C pkX_X6_42 (nlt rfl) rfl dX6_read_137 ?_
        refine x_gX (fun Yy11 eYy11 => ?_)
        have hHy11 : HG vX Yy11 := by
          rw [eYy11]
          exact hg_wF hHy2 (p := ((-2147483648), 2147483647)) rfl ⟨by omega, by omega⟩
        have hFy11 : FR mdRX X0 Yy11 := by
          rw [eYy11]
          exact FR.upI hFy2 (rfl)
        replace eYy11 : Yy11 = upI Yy2 21 3 (1) := eYy11
        have hGy11 : FR [(21, some 3)] Yy2 Yy11 := by
          rw [eYy11]
          exact FR.upI FR.rf rfl
        have hBy11 := hBy2.fr hGy11 rfl
        have hKy11 := hKy2.fr hGy11 rfl
        have kz := hKy11.1
        refine x_aload_n (i := 0) C dX6_read_140 rfl rfl ?_
        refine x_aload_n (i := 0) C dX6_read_141 rfl rfl ?_
        refine x_getI C fkX_X6_73 (nlt rfl) rfl dX6_read_142 ?_
        refine x_gen (fun v12 ev12 => ?_)
        have qv12 : ((-2147483648) : Int) ≤ v12 ∧ v12 ≤ (2147483647 : Int) := by
          rw [ev12]
          exact hHy11.rF (k := 21) (i := 8) rfl rfl
        have kv12 : v12 = X.1 21 8 := by rw [ev12, eYy11, upI_ne (by decide), (hGy2 21 8 rfl).1]
        refine x_putI C pkX_X6_45 (nlt rfl) rfl dX6_read_145 ?_
        refine x_gX (fun Yy13 eYy13 => ?_)
        have hHy13 : HG vX Yy13 := by
          rw [eYy13]
          exact hg_wF hHy11 (p := ((-2147483648), 2147483647)) rfl ⟨by omega, by omega⟩
        have hFy13 : FR mdRX X0 Yy13 := by
          rw [eYy13]
          exact FR.upI hFy11 (rfl)
        replace eYy13 : Yy13 = upI Yy11 21 4 (v12) := eYy13
        have hGy13 : FR [(21, some 4)] Yy11 Yy13 := by
          rw [eYy13]
          exact FR.upI FR.rf rfl
        have hBy13 := hBy11.fr hGy13 rfl
        have hKy13 := hKy11.fr hGy13 rfl
        refine x_goto (tgt := 181) C dX6_read_148 (by decide) ?_
        exact x_vret C hQ dX6_read_181 (⟨rfl, hHy13, FR.tr hFi hFy13 (by decide), by rw [hR, fB_n (ob_f (by omega))]; exact ⟨by rw [eYy13, upI_ne (by decide), eYy11, upI_at], by rw [eYy13, upI_at]; omega⟩, by rw [hR]; exact hBy13⟩)
    · refine x_iload C dX6_read_87 rfl ?_
      refine x_if_eq (tgt := 123) C dX6_read_89 (by decide) ⟨by omega, by omega⟩ (fun h14 => ?_) (fun h14 => ?_)
      · have hR : bRun b N 600 s0 F0 B0 = (o, s, F, B) := by
          rw [← hr]
          cases o with
          | false => rfl
          | true =>
            show bRun b N (600 - k.toNat) s F B = _
            first | exact bRun_E (by have := hK.2.1; omega) | (rw [show 600 - k.toNat = 0 by omega]; rfl) | (exfalso; have : zB true = 1 := rfl; omega)
        refine x_aload_n (i := 0) C dX6_read_123 rfl rfl ?_
        refine x_getRs (r := 22) C fkX_X6_12 (nlt rfl) rfl (HG.rR hH (k := 21) (i := 0) rfl rfl) dX6_read_124 ?_
        refine x_callV (As := []) C (by exact (c_settle (B := B) hH FR.rf hB)) ckX6_70 im_X0_settle se_X0_settle (nlt rfl) rfl rfl rfl rfl (nle rfl) (by exact ⟨nle rfl, nle rfl⟩) dX6_read_127 ?_
        rintro _ Yy15 ⟨rfl, hHy15, hGy15, hBy15⟩
        have hFy15 : FR mdRX X0 Yy15 := FR.tr hF hGy15 (by decide)
        have hKy15 := hK.fr hGy15 rfl
        have hLy15 := hL.fr hGy15 rfl
        refine Wx_st (st' := []) rfl ?_
        refine x_iload C dX6_read_130 rfl ?_
        refine x_if_ne (tgt := 151) C dX6_read_132 (by decide) ⟨by omega, by omega⟩ (fun h16 => ?_) (fun h16 => ?_)
        · have fz := hLy15.1
          refine x_aload_n (i := 0) C dX6_read_151 rfl rfl ?_
          refine x_getI C fkX_X6_42 (nlt rfl) rfl dX6_read_152 ?_
          refine x_gen (fun v17 ev17 => ?_)
          have qv17 : ((-2147483648) : Int) ≤ v17 ∧ v17 ≤ (2147483647 : Int) := by
            rw [ev17]
            exact hHy15.rF (k := 21) (i := 3) rfl rfl
          have kv17 : v17 = X.1 21 3 := by rw [ev17, (hGy15 21 3 rfl).1]
          refine x_if_ne (tgt := 181) C dX6_read_155 (by decide) ⟨by omega, by omega⟩ (fun h18 => ?_) (fun h18 => ?_)
          · exact x_vret C hQ dX6_read_181 (⟨rfl, hHy15, FR.tr hFi hFy15 (by decide), by rw [hR, fB_f (ob_t (by omega)) (.inl (by omega))]; exact hLy15, by rw [hR]; exact hBy15⟩)
          · refine x_iload_n (i := 1) C dX6_read_158 rfl rfl ?_
            refine x_if_ne (tgt := 181) C dX6_read_159 (by decide) ⟨by omega, by omega⟩ (fun h19 => by exfalso; omega) (fun h19 => ?_)
            refine x_aload_n (i := 0) C dX6_read_162 rfl rfl ?_
            refine x_getRs (r := 22) C fkX_X6_12 (nlt rfl) rfl (HG.rR hHy15 (k := 21) (i := 0) rfl rfl) dX6_read_163 ?_
            refine x_callV (As := []) C (by exact (c_isSound (B := (bst B)) mb.1 mb.2 hHy15 FR.rf hBy15)) ckX6_76 im_X0_isSound se_X0_isSound (nlt rfl) rfl rfl rfl rfl (nle rfl) (by exact ⟨nle rfl, nle rfl⟩) dX6_read_166 ?_
            rintro _ Xv20 ⟨hxv20, v20, rfl, ev20⟩
            rw [hxv20]
            have bv20 := zB_01 (bSound (bst B))
            rw [← ev20] at bv20
            refine Wx_st (st' := [.int (iI (v20))]) rfl ?_
            refine x_if_ne (tgt := 181) C dX6_read_169 (by decide) ⟨by omega, by omega⟩ (fun h21 => ?_) (fun h21 => ?_)
            · exact x_vret C hQ dX6_read_181 (⟨rfl, hHy15, FR.tr hFi hFy15 (by decide), by rw [hR, fB_f (ob_t (by omega)) (.inr (ob_t (by omega)))]; exact hLy15, by rw [hR]; exact hBy15⟩)
            · refine x_aload_n (i := 0) C dX6_read_172 rfl rfl ?_
              refine x_iconst C dX6_read_173 ?_
              refine x_aload_n (i := 0) C dX6_read_174 rfl rfl ?_
              refine x_getI C fkX_X6_35 (nlt rfl) rfl dX6_read_175 ?_
              refine x_gen (fun v22 ev22 => ?_)
              have qv22 : ((-2147483648) : Int) ≤ v22 ∧ v22 ≤ (2147483647 : Int) := by
                rw [ev22]
                exact hHy15.rF (k := 21) (i := 6) rfl rfl
              have kv22 : v22 = X.1 21 6 := by rw [ev22, (hGy15 21 6 rfl).1]
              have nv22 : v22 = (N : Int) := by rw [ev22]; exact (hT0.fr hFy15 rfl).2.1
              refine x_callV (As := [.int (iI (4)), .int (iI (v22))]) C (by exact (c_note (F := F) (f := 4) (p := v22) ⟨by omega, by omega⟩ ⟨by omega, by omega⟩ hHy15 FR.rf hLy15)) ckX6_79 im_X6_note se_X6_note (nlt rfl) rfl rfl rfl rfl (nle rfl) (by exact ⟨nle rfl, nle rfl⟩) dX6_read_178 ?_
              rintro _ Yy23 ⟨rfl, hHy23, hGy23, hLy23⟩
              have hFy23 : FR mdRX X0 Yy23 := FR.tr hFy15 hGy23 (by decide)
              have hBy23 := hBy15.fr hGy23 rfl
              have hKy23 := hKy15.fr hGy23 rfl
              refine Wx_st (st' := []) rfl ?_
              exact x_vret C hQ dX6_read_181 (⟨rfl, hHy23, FR.tr hFi hFy23 (by decide), by rw [hR, fB_4 (ob_t (by omega)) (by omega) (ob_f (by omega))]; have t := hLy23; unfold ntF at t; rw [if_pos (by omega)] at t; rw [← (show v22 = (N : Int) from nv22)]; exact t, by rw [hR]; exact hBy23⟩)
        · refine x_aload_n (i := 0) C dX6_read_135 rfl rfl ?_
          refine x_iconst C dX6_read_136 ?_
          refine x_putI C pkX_X6_42 (nlt rfl) rfl dX6_read_137 ?_
          refine x_gX (fun Yy24 eYy24 => ?_)
          have hHy24 : HG vX Yy24 := by
            rw [eYy24]
            exact hg_wF hHy15 (p := ((-2147483648), 2147483647)) rfl ⟨by omega, by omega⟩
          have hFy24 : FR mdRX X0 Yy24 := by
            rw [eYy24]
            exact FR.upI hFy15 (rfl)
          replace eYy24 : Yy24 = upI Yy15 21 3 (1) := eYy24
          have hGy24 : FR [(21, some 3)] Yy15 Yy24 := by
            rw [eYy24]
            exact FR.upI FR.rf rfl
          have hBy24 := hBy15.fr hGy24 rfl
          have hKy24 := hKy15.fr hGy24 rfl
          have kz := hKy24.1
          refine x_aload_n (i := 0) C dX6_read_140 rfl rfl ?_
          refine x_aload_n (i := 0) C dX6_read_141 rfl rfl ?_
          refine x_getI C fkX_X6_73 (nlt rfl) rfl dX6_read_142 ?_
          refine x_gen (fun v25 ev25 => ?_)
          have qv25 : ((-2147483648) : Int) ≤ v25 ∧ v25 ≤ (2147483647 : Int) := by
            rw [ev25]
            exact hHy24.rF (k := 21) (i := 8) rfl rfl
          have kv25 : v25 = X.1 21 8 := by rw [ev25, eYy24, upI_ne (by decide), (hGy15 21 8 rfl).1]
          refine x_putI C pkX_X6_45 (nlt rfl) rfl dX6_read_145 ?_
          refine x_gX (fun Yy26 eYy26 => ?_)
          have hHy26 : HG vX Yy26 := by
            rw [eYy26]
            exact hg_wF hHy24 (p := ((-2147483648), 2147483647)) rfl ⟨by omega, by omega⟩
          have hFy26 : FR mdRX X0 Yy26 := by
            rw [eYy26]
            exact FR.upI hFy24 (rfl)
          replace eYy26 : Yy26 = upI Yy24 21 4 (v25) := eYy26
          have hGy26 : FR [(21, some 4)] Yy24 Yy26 := by
            rw [eYy26]
            exact FR.upI FR.rf rfl
          have hBy26 := hBy24.fr hGy26 rfl
          have hKy26 := hKy24.fr hGy26 rfl
          refine x_goto (tgt := 181) C dX6_read_148 (by decide) ?_
          exact x_vret C hQ dX6_read_181 (⟨rfl, hHy26, FR.tr hFi hFy26 (by decide), by rw [hR, fB_n (ob_f (by omega))]; exact ⟨by rw [eYy26, upI_ne (by decide), eYy24, upI_at], by rw [eYy26, upI_at]; omega⟩, by rw [hR]; exact hBy26⟩)
      · refine x_aload_n (i := 0) C dX6_read_92 rfl rfl ?_
        refine x_getI C fkX_X6_61 (nlt rfl) rfl dX6_read_93 ?_
        refine x_gen (fun v27 ev27 => ?_)
        have qv27 : ((-2147483648) : Int) ≤ v27 ∧ v27 ≤ (2147483647 : Int) := by
          rw [ev27]
          exact hH.rF (k := 21) (i := 7) rfl rfl
        refine x_iconst C dX6_read_96 ?_
        refine x_icmp_eq (tgt := 123) C dX6_read_97 (by decide) ⟨by omega, by omega⟩ ⟨by omega, by omega⟩ (fun h28 => ?_) (fun h28 => ?_)
        · have hR : bRun b N 600 s0 F0 B0 = (o, s, F, B) := by
            rw [← hr]
            cases o with
            | false => rfl
            | true =>
              show bRun b N (600 - k.toNat) s F B = _
              first | exact bRun_E (by have := hK.2.1; omega) | (rw [show 600 - k.toNat = 0 by omega]; rfl) | (exfalso; have : zB true = 1 := rfl; omega)
          refine x_aload_n (i := 0) C dX6_read_123 rfl rfl ?_
          refine x_getRs (r := 22) C fkX_X6_12 (nlt rfl) rfl (HG.rR hH (k := 21) (i := 0) rfl rfl) dX6_read_124 ?_
          refine x_callV (As := []) C (by exact (c_settle (B := B) hH FR.rf hB)) ckX6_70 im_X0_settle se_X0_settle (nlt rfl) rfl rfl rfl rfl (nle rfl) (by exact ⟨nle rfl, nle rfl⟩) dX6_read_127 ?_
          rintro _ Yy29 ⟨rfl, hHy29, hGy29, hBy29⟩
          have hFy29 : FR mdRX X0 Yy29 := FR.tr hF hGy29 (by decide)
          have hKy29 := hK.fr hGy29 rfl
          have hLy29 := hL.fr hGy29 rfl
          refine Wx_st (st' := []) rfl ?_
          refine x_iload C dX6_read_130 rfl ?_
          refine x_if_ne (tgt := 151) C dX6_read_132 (by decide) ⟨by omega, by omega⟩ (fun h30 => ?_) (fun h30 => ?_)
          · have fz := hLy29.1
            refine x_aload_n (i := 0) C dX6_read_151 rfl rfl ?_
            refine x_getI C fkX_X6_42 (nlt rfl) rfl dX6_read_152 ?_
            refine x_gen (fun v31 ev31 => ?_)
            have qv31 : ((-2147483648) : Int) ≤ v31 ∧ v31 ≤ (2147483647 : Int) := by
              rw [ev31]
              exact hHy29.rF (k := 21) (i := 3) rfl rfl
            have kv31 : v31 = X.1 21 3 := by rw [ev31, (hGy29 21 3 rfl).1]
            refine x_if_ne (tgt := 181) C dX6_read_155 (by decide) ⟨by omega, by omega⟩ (fun h32 => ?_) (fun h32 => ?_)
            · exact x_vret C hQ dX6_read_181 (⟨rfl, hHy29, FR.tr hFi hFy29 (by decide), by rw [hR, fB_f (ob_t (by omega)) (.inl (by omega))]; exact hLy29, by rw [hR]; exact hBy29⟩)
            · refine x_iload_n (i := 1) C dX6_read_158 rfl rfl ?_
              refine x_if_ne (tgt := 181) C dX6_read_159 (by decide) ⟨by omega, by omega⟩ (fun h33 => by exfalso; omega) (fun h33 => ?_)
              refine x_aload_n (i := 0) C dX6_read_162 rfl rfl ?_
              refine x_getRs (r := 22) C fkX_X6_12 (nlt rfl) rfl (HG.rR hHy29 (k := 21) (i := 0) rfl rfl) dX6_read_163 ?_
              refine x_callV (As := []) C (by exact (c_isSound (B := (bst B)) mb.1 mb.2 hHy29 FR.rf hBy29)) ckX6_76 im_X0_isSound se_X0_isSound (nlt rfl) rfl rfl rfl rfl (nle rfl) (by exact ⟨nle rfl, nle rfl⟩) dX6_read_166 ?_
              rintro _ Xv34 ⟨hxv34, v34, rfl, ev34⟩
              rw [hxv34]
              have bv34 := zB_01 (bSound (bst B))
              rw [← ev34] at bv34
              refine Wx_st (st' := [.int (iI (v34))]) rfl ?_
              refine x_if_ne (tgt := 181) C dX6_read_169 (by decide) ⟨by omega, by omega⟩ (fun h35 => ?_) (fun h35 => ?_)
              · exact x_vret C hQ dX6_read_181 (⟨rfl, hHy29, FR.tr hFi hFy29 (by decide), by rw [hR, fB_f (ob_t (by omega)) (.inr (ob_t (by omega)))]; exact hLy29, by rw [hR]; exact hBy29⟩)
              · refine x_aload_n (i := 0) C dX6_read_172 rfl rfl ?_
                refine x_iconst C dX6_read_173 ?_
                refine x_aload_n (i := 0) C dX6_read_174 rfl rfl ?_
                refine x_getI C fkX_X6_35 (nlt rfl) rfl dX6_read_175 ?_
                refine x_gen (fun v36 ev36 => ?_)
                have qv36 : ((-2147483648) : Int) ≤ v36 ∧ v36 ≤ (2147483647 : Int) := by
                  rw [ev36]
                  exact hHy29.rF (k := 21) (i := 6) rfl rfl
                have kv36 : v36 = X.1 21 6 := by rw [ev36, (hGy29 21 6 rfl).1]
                have nv36 : v36 = (N : Int) := by rw [ev36]; exact (hT0.fr hFy29 rfl).2.1
                refine x_callV (As := [.int (iI (4)), .int (iI (v36))]) C (by exact (c_note (F := F) (f := 4) (p := v36) ⟨by omega, by omega⟩ ⟨by omega, by omega⟩ hHy29 FR.rf hLy29)) ckX6_79 im_X6_note se_X6_note (nlt rfl) rfl rfl rfl rfl (nle rfl) (by exact ⟨nle rfl, nle rfl⟩) dX6_read_178 ?_
                rintro _ Yy37 ⟨rfl, hHy37, hGy37, hLy37⟩
                have hFy37 : FR mdRX X0 Yy37 := FR.tr hFy29 hGy37 (by decide)
                have hBy37 := hBy29.fr hGy37 rfl
                have hKy37 := hKy29.fr hGy37 rfl
                refine Wx_st (st' := []) rfl ?_
                exact x_vret C hQ dX6_read_181 (⟨rfl, hHy37, FR.tr hFi hFy37 (by decide), by rw [hR, fB_4 (ob_t (by omega)) (by omega) (ob_f (by omega))]; have t := hLy37; unfold ntF at t; rw [if_pos (by omega)] at t; rw [← (show v36 = (N : Int) from nv36)]; exact t, by rw [hR]; exact hBy37⟩)
          · refine x_aload_n (i := 0) C dX6_read_135 rfl rfl ?_
            refine x_iconst C dX6_read_136 ?_
            refine x_putI C pkX_X6_42 (nlt rfl) rfl dX6_read_137 ?_
            refine x_gX (fun Yy38 eYy38 => ?_)
            have hHy38 : HG vX Yy38 := by
              rw [eYy38]
              exact hg_wF hHy29 (p := ((-2147483648), 2147483647)) rfl ⟨by omega, by omega⟩
            have hFy38 : FR mdRX X0 Yy38 := by
              rw [eYy38]
              exact FR.upI hFy29 (rfl)
            replace eYy38 : Yy38 = upI Yy29 21 3 (1) := eYy38
            have hGy38 : FR [(21, some 3)] Yy29 Yy38 := by
              rw [eYy38]
              exact FR.upI FR.rf rfl
            have hBy38 := hBy29.fr hGy38 rfl
            have hKy38 := hKy29.fr hGy38 rfl
            have kz := hKy38.1
            refine x_aload_n (i := 0) C dX6_read_140 rfl rfl ?_
            refine x_aload_n (i := 0) C dX6_read_141 rfl rfl ?_
            refine x_getI C fkX_X6_73 (nlt rfl) rfl dX6_read_142 ?_
            refine x_gen (fun v39 ev39 => ?_)
            have qv39 : ((-2147483648) : Int) ≤ v39 ∧ v39 ≤ (2147483647 : Int) := by
              rw [ev39]
              exact hHy38.rF (k := 21) (i := 8) rfl rfl
            have kv39 : v39 = X.1 21 8 := by rw [ev39, eYy38, upI_ne (by decide), (hGy29 21 8 rfl).1]
            refine x_putI C pkX_X6_45 (nlt rfl) rfl dX6_read_145 ?_
            refine x_gX (fun Yy40 eYy40 => ?_)
            have hHy40 : HG vX Yy40 := by
              rw [eYy40]
              exact hg_wF hHy38 (p := ((-2147483648), 2147483647)) rfl ⟨by omega, by omega⟩
            have hFy40 : FR mdRX X0 Yy40 := by
              rw [eYy40]
              exact FR.upI hFy38 (rfl)
            replace eYy40 : Yy40 = upI Yy38 21 4 (v39) := eYy40
            have hGy40 : FR [(21, some 4)] Yy38 Yy40 := by
              rw [eYy40]
              exact FR.upI FR.rf rfl
            have hBy40 := hBy38.fr hGy40 rfl
            have hKy40 := hKy38.fr hGy40 rfl
            refine x_goto (tgt := 181) C dX6_read_148 (by decide) ?_
            exact x_vret C hQ dX6_read_181 (⟨rfl, hHy40, FR.tr hFi hFy40 (by decide), by rw [hR, fB_n (ob_f (by omega))]; exact ⟨by rw [eYy40, upI_ne (by decide), eYy38, upI_at], by rw [eYy40, upI_at]; omega⟩, by rw [hR]; exact hBy40⟩)
        · refine x_iload_n (i := 1) C dX6_read_100 rfl rfl ?_
          refine x_if_ne (tgt := 111) C dX6_read_101 (by decide) ⟨by omega, by omega⟩ (fun h41 => by exfalso; omega) (fun h41 => ?_)
          refine x_aload_n (i := 0) C dX6_read_104 rfl rfl ?_
          refine x_callVT (As := []) C HS (by exact (c_readBoardLine (s := s) (F := F) (B := B) (hT0.fr hF rfl) hH mb.1 mb.2 FR.rf hK hL hB)) ckX6_64 im_X6_readBoardLine se_X6_readBoardLine (nlt rfl) rfl rfl rfl rfl (nle rfl) (by exact ⟨nle rfl, nle rfl⟩) dX6_read_105 ?_
          rintro _ Yy42 ⟨v43, rfl, hHy42, hGy42, ev43, hKy42, hLy42, hBy42⟩
          have hFy42 : FR mdRX X0 Yy42 := FR.tr hF hGy42 (by decide)
          have bv43 := zB_01 (bLine b N s F B).1
          rw [← ev43] at bv43
          refine Wx_st (st' := [.int (iI (v43))]) rfl ?_
          refine x_goto (tgt := 115) C dX6_read_108 (by decide) ?_
          refine x_istore (lv' := [(4, .int (iI (v43))), (5, .int (iI (k))), (0, .ref 21), (1, .int (iI (0)))]) C dX6_read_115 (nlt rfl) rfl ?_
          refine x_iinc (lv' := [(5, .int (iI (k + 1))), (4, .int (iI (v43))), (0, .ref 21), (1, .int (iI (0)))]) C dX6_read_117 rfl (nlt rfl) rfl ?_
          refine x_goto (tgt := 79) C dX6_read_120 (by decide) ?_
          have ot := ob_t (o := o) (by omega)
          have nk : tK b N s ≠ 5 := by have := hK.2.1; omega
          have hr2 : (if (bLine b N s F B).1 = true then bRun b N (600 - (k + 1).toNat) (bLine b N s F B).2.1 (bLine b N s F B).2.2.1 (bLine b N s F B).2.2.2 else (false, (bLine b N s F B).2.1, (bLine b N s F B).2.2.1, (bLine b N s F B).2.2.2)) = bRun b N 600 s0 F0 B0 := by
            rw [← hr, if_pos ot, show 600 - k.toNat = (600 - (k + 1).toNat) + 1 by omega]
            cases q : (bLine b N s F B).1 with
            | true => rw [if_pos rfl, bRun_y nk q]
            | false => rw [if_neg (by decide), bRun_n nk q, ← q]
          rw [ev43]
          refine Wx_pick [5, 4, 0, 1] ?_
          refine Wx_lv (lv' := [(5, .int (iI (k + 1))), (4, .int (iI (zB (bLine b N s F B).1))), (0, .ref 21), (1, .int (iI (0)))]) rfl ?_
          exact ih (k + 1) _ _ _ _ _ (by omega) (by omega) (by omega) hHy42 hFy42 hKy42 hLy42 hBy42 (bLine_mb mb) hr2
set_option maxHeartbeats 4000000 in
set_option maxRecDepth 100000 in
theorem c_readL2 {D : va_G} {ad : Nat → Nat} {cA : Nat → ClassId} {Xi X0 : XT} {b : Nat → Int} {N : Nat} {s0 : Nat} {F0 : Int × Int} {G0 : GC} (hT0 : TPX b N X0) (hFi : FR mdRD Xi X0) {E : ET} (C : CX E (wX D ad cA) cX6_read 6 RX6 none { frames := 9, cells := 0, slots := 0, locals := 205 }) (HS : SE E (wX D ad cA)) (hQ : EQ E (wX D ad cA) (fun r X1 => r = none ∧ HG vX X1 ∧ FR mdRD Xi X1 ∧ FLX (fG (gRun b N 600 s0 F0 G0)) X1 ∧ GMX (gRun b N 600 s0 F0 G0).2.2.2 X1)) : ∀ (n : Nat) (k : Int) (o : Bool) (s : Nat) (F : Int × Int) (G : GC) (X : XT), ((601 - k.toNat : Nat) : Int) < n → 0 ≤ k → k ≤ 600 → HG vX X → FR mdRX X0 X → TKX b N s X → FLX F X → GMX G X → 0 ≤ G.1 ∧ G.1 ≤ 30 → (if o = true then gRun b N (600 - k.toNat) s F G else (false, s, F, G)) = gRun b N 600 s0 F0 G0 → Wx E (wX D ad cA) 6 (PX (wX D ad cA) X) 79 [(5, .int (iI (k))), (4, .int (iI (zB o))), (0, .ref 21), (1, .int (iI (2)))] [] := by
  intro n
  induction n with
  | zero => intro k o s F G X hn k0 k1 hH hF hK hL hM mb hr; exfalso; omega
  | succ n ih =>
    intro k o s F G X hn k0 k1 hH hF hK hL hM mb hr
    have zo := zB_01 o
    have n6 := hT0.2.2.1
    have s6 := hK.2.2.2.2
    refine x_iload C dX6_read_79 rfl ?_
    refine x_sipush C dX6_read_81 (by decide) ?_
    refine x_icmp_ge (tgt := 123) C dX6_read_84 (by decide) ⟨by omega, by omega⟩ ⟨by omega, by omega⟩ (fun h1 => ?_) (fun h1 => ?_)
    · have hR : gRun b N 600 s0 F0 G0 = (o, s, F, G) := by
        rw [← hr]
        cases o with
        | false => rfl
        | true =>
          show gRun b N (600 - k.toNat) s F G = _
          first | exact gRun_E (by have := hK.2.1; omega) | (rw [show 600 - k.toNat = 0 by omega]; rfl) | (exfalso; have : zB true = 1 := rfl; omega)
      refine x_aload_n (i := 0) C dX6_read_123 rfl rfl ?_
      refine x_getRs (r := 22) C fkX_X6_12 (nlt rfl) rfl (HG.rR hH (k := 21) (i := 0) rfl rfl) dX6_read_124 ?_
      refine x_callV (As := []) C (by exact (c_settle (B := bof X) hH FR.rf (bof_X _))) ckX6_70 im_X0_settle se_X0_settle (nlt rfl) rfl rfl rfl rfl (nle rfl) (by exact ⟨nle rfl, nle rfl⟩) dX6_read_127 ?_
      rintro _ Yy2 ⟨rfl, hHy2, hGy2, hBy2⟩
      have hFy2 : FR mdRX X0 Yy2 := FR.tr hF hGy2 (by decide)
      have hKy2 := hK.fr hGy2 rfl
      have hLy2 := hL.fr hGy2 rfl
      have hMy2 := hM.fr hGy2 rfl
      refine Wx_st (st' := []) rfl ?_
      refine x_iload C dX6_read_130 rfl ?_
      refine x_if_ne (tgt := 151) C dX6_read_132 (by decide) ⟨by omega, by omega⟩ (fun h3 => ?_) (fun h3 => ?_)
      · have fz := hLy2.1
        refine x_aload_n (i := 0) C dX6_read_151 rfl rfl ?_
        refine x_getI C fkX_X6_42 (nlt rfl) rfl dX6_read_152 ?_
        refine x_gen (fun v4 ev4 => ?_)
        have qv4 : ((-2147483648) : Int) ≤ v4 ∧ v4 ≤ (2147483647 : Int) := by
          rw [ev4]
          exact hHy2.rF (k := 21) (i := 3) rfl rfl
        have kv4 : v4 = X.1 21 3 := by rw [ev4, (hGy2 21 3 rfl).1]
        refine x_if_ne (tgt := 181) C dX6_read_155 (by decide) ⟨by omega, by omega⟩ (fun h5 => ?_) (fun h5 => ?_)
        · exact x_vret C hQ dX6_read_181 (⟨rfl, hHy2, FR.tr hFi hFy2 (by decide), by rw [hR, fG_y (ob_t (by omega))]; exact hLy2, by rw [hR]; exact hMy2⟩)
        · refine x_iload_n (i := 1) C dX6_read_158 rfl rfl ?_
          refine x_if_ne (tgt := 181) C dX6_read_159 (by decide) ⟨by omega, by omega⟩ (fun h6 => ?_) (fun h6 => by exfalso; omega)
          exact x_vret C hQ dX6_read_181 (⟨rfl, hHy2, FR.tr hFi hFy2 (by decide), by rw [hR, fG_y (ob_t (by omega))]; exact hLy2, by rw [hR]; exact hMy2⟩)
      · refine x_aload_n (i := 0) C dX6_read_135 rfl rfl ?_
        refine x_iconst C dX6_read_136 ?_
        refine x_putI C pkX_X6_42 (nlt rfl) rfl dX6_read_137 ?_
        refine x_gX (fun Yy7 eYy7 => ?_)
        have hHy7 : HG vX Yy7 := by
          rw [eYy7]
          exact hg_wF hHy2 (p := ((-2147483648), 2147483647)) rfl ⟨by omega, by omega⟩
        have hFy7 : FR mdRX X0 Yy7 := by
          rw [eYy7]
          exact FR.upI hFy2 (rfl)
        replace eYy7 : Yy7 = upI Yy2 21 3 (1) := eYy7
        have hGy7 : FR [(21, some 3)] Yy2 Yy7 := by
          rw [eYy7]
          exact FR.upI FR.rf rfl
        have hBy7 := hBy2.fr hGy7 rfl
        have hKy7 := hKy2.fr hGy7 rfl
        have hMy7 := hMy2.fr hGy7 rfl
        have kz := hKy7.1
        refine x_aload_n (i := 0) C dX6_read_140 rfl rfl ?_
        refine x_aload_n (i := 0) C dX6_read_141 rfl rfl ?_
        refine x_getI C fkX_X6_73 (nlt rfl) rfl dX6_read_142 ?_
        refine x_gen (fun v8 ev8 => ?_)
        have qv8 : ((-2147483648) : Int) ≤ v8 ∧ v8 ≤ (2147483647 : Int) := by
          rw [ev8]
          exact hHy7.rF (k := 21) (i := 8) rfl rfl
        have kv8 : v8 = X.1 21 8 := by rw [ev8, eYy7, upI_ne (by decide), (hGy2 21 8 rfl).1]
        refine x_putI C pkX_X6_45 (nlt rfl) rfl dX6_read_145 ?_
        refine x_gX (fun Yy9 eYy9 => ?_)
        have hHy9 : HG vX Yy9 := by
          rw [eYy9]
          exact hg_wF hHy7 (p := ((-2147483648), 2147483647)) rfl ⟨by omega, by omega⟩
        have hFy9 : FR mdRX X0 Yy9 := by
          rw [eYy9]
          exact FR.upI hFy7 (rfl)
        replace eYy9 : Yy9 = upI Yy7 21 4 (v8) := eYy9
        have hGy9 : FR [(21, some 4)] Yy7 Yy9 := by
          rw [eYy9]
          exact FR.upI FR.rf rfl
        have hBy9 := hBy7.fr hGy9 rfl
        have hKy9 := hKy7.fr hGy9 rfl
        have hMy9 := hMy7.fr hGy9 rfl
        refine x_goto (tgt := 181) C dX6_read_148 (by decide) ?_
        exact x_vret C hQ dX6_read_181 (⟨rfl, hHy9, FR.tr hFi hFy9 (by decide), by rw [hR, fG_n (ob_f (by omega))]; exact ⟨by rw [eYy9, upI_ne (by decide), eYy7, upI_at], by rw [eYy9, upI_at]; omega⟩, by rw [hR]; exact hMy9⟩)
    · refine x_iload C dX6_read_87 rfl ?_
      refine x_if_eq (tgt := 123) C dX6_read_89 (by decide) ⟨by omega, by omega⟩ (fun h10 => ?_) (fun h10 => ?_)
      · have hR : gRun b N 600 s0 F0 G0 = (o, s, F, G) := by
          rw [← hr]
          cases o with
          | false => rfl
          | true =>
            show gRun b N (600 - k.toNat) s F G = _
            first | exact gRun_E (by have := hK.2.1; omega) | (rw [show 600 - k.toNat = 0 by omega]; rfl) | (exfalso; have : zB true = 1 := rfl; omega)
        refine x_aload_n (i := 0) C dX6_read_123 rfl rfl ?_
        refine x_getRs (r := 22) C fkX_X6_12 (nlt rfl) rfl (HG.rR hH (k := 21) (i := 0) rfl rfl) dX6_read_124 ?_
        refine x_callV (As := []) C (by exact (c_settle (B := bof X) hH FR.rf (bof_X _))) ckX6_70 im_X0_settle se_X0_settle (nlt rfl) rfl rfl rfl rfl (nle rfl) (by exact ⟨nle rfl, nle rfl⟩) dX6_read_127 ?_
        rintro _ Yy11 ⟨rfl, hHy11, hGy11, hBy11⟩
        have hFy11 : FR mdRX X0 Yy11 := FR.tr hF hGy11 (by decide)
        have hKy11 := hK.fr hGy11 rfl
        have hLy11 := hL.fr hGy11 rfl
        have hMy11 := hM.fr hGy11 rfl
        refine Wx_st (st' := []) rfl ?_
        refine x_iload C dX6_read_130 rfl ?_
        refine x_if_ne (tgt := 151) C dX6_read_132 (by decide) ⟨by omega, by omega⟩ (fun h12 => ?_) (fun h12 => ?_)
        · have fz := hLy11.1
          refine x_aload_n (i := 0) C dX6_read_151 rfl rfl ?_
          refine x_getI C fkX_X6_42 (nlt rfl) rfl dX6_read_152 ?_
          refine x_gen (fun v13 ev13 => ?_)
          have qv13 : ((-2147483648) : Int) ≤ v13 ∧ v13 ≤ (2147483647 : Int) := by
            rw [ev13]
            exact hHy11.rF (k := 21) (i := 3) rfl rfl
          have kv13 : v13 = X.1 21 3 := by rw [ev13, (hGy11 21 3 rfl).1]
          refine x_if_ne (tgt := 181) C dX6_read_155 (by decide) ⟨by omega, by omega⟩ (fun h14 => ?_) (fun h14 => ?_)
          · exact x_vret C hQ dX6_read_181 (⟨rfl, hHy11, FR.tr hFi hFy11 (by decide), by rw [hR, fG_y (ob_t (by omega))]; exact hLy11, by rw [hR]; exact hMy11⟩)
          · refine x_iload_n (i := 1) C dX6_read_158 rfl rfl ?_
            refine x_if_ne (tgt := 181) C dX6_read_159 (by decide) ⟨by omega, by omega⟩ (fun h15 => ?_) (fun h15 => by exfalso; omega)
            exact x_vret C hQ dX6_read_181 (⟨rfl, hHy11, FR.tr hFi hFy11 (by decide), by rw [hR, fG_y (ob_t (by omega))]; exact hLy11, by rw [hR]; exact hMy11⟩)
        · refine x_aload_n (i := 0) C dX6_read_135 rfl rfl ?_
          refine x_iconst C dX6_read_136 ?_
          refine x_putI C pkX_X6_42 (nlt rfl) rfl dX6_read_137 ?_
          refine x_gX (fun Yy16 eYy16 => ?_)
          have hHy16 : HG vX Yy16 := by
            rw [eYy16]
            exact hg_wF hHy11 (p := ((-2147483648), 2147483647)) rfl ⟨by omega, by omega⟩
          have hFy16 : FR mdRX X0 Yy16 := by
            rw [eYy16]
            exact FR.upI hFy11 (rfl)
          replace eYy16 : Yy16 = upI Yy11 21 3 (1) := eYy16
          have hGy16 : FR [(21, some 3)] Yy11 Yy16 := by
            rw [eYy16]
            exact FR.upI FR.rf rfl
          have hBy16 := hBy11.fr hGy16 rfl
          have hKy16 := hKy11.fr hGy16 rfl
          have hMy16 := hMy11.fr hGy16 rfl
          have kz := hKy16.1
          refine x_aload_n (i := 0) C dX6_read_140 rfl rfl ?_
          refine x_aload_n (i := 0) C dX6_read_141 rfl rfl ?_
          refine x_getI C fkX_X6_73 (nlt rfl) rfl dX6_read_142 ?_
          refine x_gen (fun v17 ev17 => ?_)
          have qv17 : ((-2147483648) : Int) ≤ v17 ∧ v17 ≤ (2147483647 : Int) := by
            rw [ev17]
            exact hHy16.rF (k := 21) (i := 8) rfl rfl
          have kv17 : v17 = X.1 21 8 := by rw [ev17, eYy16, upI_ne (by decide), (hGy11 21 8 rfl).1]
          refine x_putI C pkX_X6_45 (nlt rfl) rfl dX6_read_145 ?_
          refine x_gX (fun Yy18 eYy18 => ?_)
          have hHy18 : HG vX Yy18 := by
            rw [eYy18]
            exact hg_wF hHy16 (p := ((-2147483648), 2147483647)) rfl ⟨by omega, by omega⟩
          have hFy18 : FR mdRX X0 Yy18 := by
            rw [eYy18]
            exact FR.upI hFy16 (rfl)
          replace eYy18 : Yy18 = upI Yy16 21 4 (v17) := eYy18
          have hGy18 : FR [(21, some 4)] Yy16 Yy18 := by
            rw [eYy18]
            exact FR.upI FR.rf rfl
          have hBy18 := hBy16.fr hGy18 rfl
          have hKy18 := hKy16.fr hGy18 rfl
          have hMy18 := hMy16.fr hGy18 rfl
          refine x_goto (tgt := 181) C dX6_read_148 (by decide) ?_
          exact x_vret C hQ dX6_read_181 (⟨rfl, hHy18, FR.tr hFi hFy18 (by decide), by rw [hR, fG_n (ob_f (by omega))]; exact ⟨by rw [eYy18, upI_ne (by decide), eYy16, upI_at], by rw [eYy18, upI_at]; omega⟩, by rw [hR]; exact hMy18⟩)
      · refine x_aload_n (i := 0) C dX6_read_92 rfl rfl ?_
        refine x_getI C fkX_X6_61 (nlt rfl) rfl dX6_read_93 ?_
        refine x_gen (fun v19 ev19 => ?_)
        have qv19 : ((-2147483648) : Int) ≤ v19 ∧ v19 ≤ (2147483647 : Int) := by
          rw [ev19]
          exact hH.rF (k := 21) (i := 7) rfl rfl
        refine x_iconst C dX6_read_96 ?_
        refine x_icmp_eq (tgt := 123) C dX6_read_97 (by decide) ⟨by omega, by omega⟩ ⟨by omega, by omega⟩ (fun h20 => ?_) (fun h20 => ?_)
        · have hR : gRun b N 600 s0 F0 G0 = (o, s, F, G) := by
            rw [← hr]
            cases o with
            | false => rfl
            | true =>
              show gRun b N (600 - k.toNat) s F G = _
              first | exact gRun_E (by have := hK.2.1; omega) | (rw [show 600 - k.toNat = 0 by omega]; rfl) | (exfalso; have : zB true = 1 := rfl; omega)
          refine x_aload_n (i := 0) C dX6_read_123 rfl rfl ?_
          refine x_getRs (r := 22) C fkX_X6_12 (nlt rfl) rfl (HG.rR hH (k := 21) (i := 0) rfl rfl) dX6_read_124 ?_
          refine x_callV (As := []) C (by exact (c_settle (B := bof X) hH FR.rf (bof_X _))) ckX6_70 im_X0_settle se_X0_settle (nlt rfl) rfl rfl rfl rfl (nle rfl) (by exact ⟨nle rfl, nle rfl⟩) dX6_read_127 ?_
          rintro _ Yy21 ⟨rfl, hHy21, hGy21, hBy21⟩
          have hFy21 : FR mdRX X0 Yy21 := FR.tr hF hGy21 (by decide)
          have hKy21 := hK.fr hGy21 rfl
          have hLy21 := hL.fr hGy21 rfl
          have hMy21 := hM.fr hGy21 rfl
          refine Wx_st (st' := []) rfl ?_
          refine x_iload C dX6_read_130 rfl ?_
          refine x_if_ne (tgt := 151) C dX6_read_132 (by decide) ⟨by omega, by omega⟩ (fun h22 => ?_) (fun h22 => ?_)
          · have fz := hLy21.1
            refine x_aload_n (i := 0) C dX6_read_151 rfl rfl ?_
            refine x_getI C fkX_X6_42 (nlt rfl) rfl dX6_read_152 ?_
            refine x_gen (fun v23 ev23 => ?_)
            have qv23 : ((-2147483648) : Int) ≤ v23 ∧ v23 ≤ (2147483647 : Int) := by
              rw [ev23]
              exact hHy21.rF (k := 21) (i := 3) rfl rfl
            have kv23 : v23 = X.1 21 3 := by rw [ev23, (hGy21 21 3 rfl).1]
            refine x_if_ne (tgt := 181) C dX6_read_155 (by decide) ⟨by omega, by omega⟩ (fun h24 => ?_) (fun h24 => ?_)
            · exact x_vret C hQ dX6_read_181 (⟨rfl, hHy21, FR.tr hFi hFy21 (by decide), by rw [hR, fG_y (ob_t (by omega))]; exact hLy21, by rw [hR]; exact hMy21⟩)
            · refine x_iload_n (i := 1) C dX6_read_158 rfl rfl ?_
              refine x_if_ne (tgt := 181) C dX6_read_159 (by decide) ⟨by omega, by omega⟩ (fun h25 => ?_) (fun h25 => by exfalso; omega)
              exact x_vret C hQ dX6_read_181 (⟨rfl, hHy21, FR.tr hFi hFy21 (by decide), by rw [hR, fG_y (ob_t (by omega))]; exact hLy21, by rw [hR]; exact hMy21⟩)
          · refine x_aload_n (i := 0) C dX6_read_135 rfl rfl ?_
            refine x_iconst C dX6_read_136 ?_
            refine x_putI C pkX_X6_42 (nlt rfl) rfl dX6_read_137 ?_
            refine x_gX (fun Yy26 eYy26 => ?_)
            have hHy26 : HG vX Yy26 := by
              rw [eYy26]
              exact hg_wF hHy21 (p := ((-2147483648), 2147483647)) rfl ⟨by omega, by omega⟩
            have hFy26 : FR mdRX X0 Yy26 := by
              rw [eYy26]
              exact FR.upI hFy21 (rfl)
            replace eYy26 : Yy26 = upI Yy21 21 3 (1) := eYy26
            have hGy26 : FR [(21, some 3)] Yy21 Yy26 := by
              rw [eYy26]
              exact FR.upI FR.rf rfl
            have hBy26 := hBy21.fr hGy26 rfl
            have hKy26 := hKy21.fr hGy26 rfl
            have hMy26 := hMy21.fr hGy26 rfl
            have kz := hKy26.1
            refine x_aload_n (i := 0) C dX6_read_140 rfl rfl ?_
            refine x_aload_n (i := 0) C dX6_read_141 rfl rfl ?_
            refine x_getI C fkX_X6_73 (nlt rfl) rfl dX6_read_142 ?_
            refine x_gen (fun v27 ev27 => ?_)
            have qv27 : ((-2147483648) : Int) ≤ v27 ∧ v27 ≤ (2147483647 : Int) := by
              rw [ev27]
              exact hHy26.rF (k := 21) (i := 8) rfl rfl
            have kv27 : v27 = X.1 21 8 := by rw [ev27, eYy26, upI_ne (by decide), (hGy21 21 8 rfl).1]
            refine x_putI C pkX_X6_45 (nlt rfl) rfl dX6_read_145 ?_
            refine x_gX (fun Yy28 eYy28 => ?_)
            have hHy28 : HG vX Yy28 := by
              rw [eYy28]
              exact hg_wF hHy26 (p := ((-2147483648), 2147483647)) rfl ⟨by omega, by omega⟩
            have hFy28 : FR mdRX X0 Yy28 := by
              rw [eYy28]
              exact FR.upI hFy26 (rfl)
            replace eYy28 : Yy28 = upI Yy26 21 4 (v27) := eYy28
            have hGy28 : FR [(21, some 4)] Yy26 Yy28 := by
              rw [eYy28]
              exact FR.upI FR.rf rfl
            have hBy28 := hBy26.fr hGy28 rfl
            have hKy28 := hKy26.fr hGy28 rfl
            have hMy28 := hMy26.fr hGy28 rfl
            refine x_goto (tgt := 181) C dX6_read_148 (by decide) ?_
            exact x_vret C hQ dX6_read_181 (⟨rfl, hHy28, FR.tr hFi hFy28 (by decide), by rw [hR, fG_n (ob_f (by omega))]; exact ⟨by rw [eYy28, upI_ne (by decide), eYy26, upI_at], by rw [eYy28, upI_at]; omega⟩, by rw [hR]; exact hMy28⟩)
        · refine x_iload_n (i := 1) C dX6_read_100 rfl rfl ?_
          refine x_if_ne (tgt := 111) C dX6_read_101 (by decide) ⟨by omega, by omega⟩ (fun h29 => ?_) (fun h29 => by exfalso; omega)
          refine x_aload_n (i := 0) C dX6_read_111 rfl rfl ?_
          refine x_callVT (As := []) C HS (by exact (c_readGameLine (s := s) (F := F) (G := G) (hT0.fr hF rfl) hH mb.1 mb.2 FR.rf hK hL hM)) ckX6_67 im_X6_readGameLine se_X6_readGameLine (nlt rfl) rfl rfl rfl rfl (nle rfl) (by exact ⟨nle rfl, nle rfl⟩) dX6_read_112 ?_
          rintro _ Yy30 ⟨v31, rfl, hHy30, hGy30, ev31, hKy30, hLy30, hMy30⟩
          have hFy30 : FR mdRX X0 Yy30 := FR.tr hF hGy30 (by decide)
          have bv31 := zB_01 (gLine b N s F G).1
          rw [← ev31] at bv31
          refine Wx_st (st' := [.int (iI (v31))]) rfl ?_
          refine x_istore (lv' := [(4, .int (iI (v31))), (5, .int (iI (k))), (0, .ref 21), (1, .int (iI (2)))]) C dX6_read_115 (nlt rfl) rfl ?_
          refine x_iinc (lv' := [(5, .int (iI (k + 1))), (4, .int (iI (v31))), (0, .ref 21), (1, .int (iI (2)))]) C dX6_read_117 rfl (nlt rfl) rfl ?_
          refine x_goto (tgt := 79) C dX6_read_120 (by decide) ?_
          have ot := ob_t (o := o) (by omega)
          have nk : tK b N s ≠ 5 := by have := hK.2.1; omega
          have hr2 : (if (gLine b N s F G).1 = true then gRun b N (600 - (k + 1).toNat) (gLine b N s F G).2.1 (gLine b N s F G).2.2.1 (gLine b N s F G).2.2.2 else (false, (gLine b N s F G).2.1, (gLine b N s F G).2.2.1, (gLine b N s F G).2.2.2)) = gRun b N 600 s0 F0 G0 := by
            rw [← hr, if_pos ot, show 600 - k.toNat = (600 - (k + 1).toNat) + 1 by omega]
            cases q : (gLine b N s F G).1 with
            | true => rw [if_pos rfl, gRun_y nk q]
            | false => rw [if_neg (by decide), gRun_n nk q, ← q]
          rw [ev31]
          refine Wx_pick [5, 4, 0, 1] ?_
          refine Wx_lv (lv' := [(5, .int (iI (k + 1))), (4, .int (iI (zB (gLine b N s F G).1))), (0, .ref 21), (1, .int (iI (2)))]) rfl ?_
          exact ih (k + 1) _ _ _ _ _ (by omega) (by omega) (by omega) hHy30 hFy30 hKy30 hLy30 hMy30 (gLine_mb mb) hr2
