/-! ===== the class: what is told, copied ===== -/
theorem dX8_copy_0 : decode cX8_copy 0 = .ok (.aload_n 0, 1) := by decide +kernel
theorem dX8_copy_1 : decode cX8_copy 1 = .ok (.aload_n 1, 1) := by decide +kernel
theorem dX8_copy_2 : decode cX8_copy 2 = .ok (.getfield 40, 3) := by decide +kernel
theorem dX8_copy_5 : decode cX8_copy 5 = .ok (.putfield 40, 3) := by decide +kernel
theorem dX8_copy_8 : decode cX8_copy 8 = .ok (.aload_n 0, 1) := by decide +kernel
theorem dX8_copy_9 : decode cX8_copy 9 = .ok (.aload_n 1, 1) := by decide +kernel
theorem dX8_copy_10 : decode cX8_copy 10 = .ok (.getfield 43, 3) := by decide +kernel
theorem dX8_copy_13 : decode cX8_copy 13 = .ok (.putfield 43, 3) := by decide +kernel
theorem dX8_copy_16 : decode cX8_copy 16 = .ok (.aload_n 0, 1) := by decide +kernel
theorem dX8_copy_17 : decode cX8_copy 17 = .ok (.aload_n 1, 1) := by decide +kernel
theorem dX8_copy_18 : decode cX8_copy 18 = .ok (.getfield 9, 3) := by decide +kernel
theorem dX8_copy_21 : decode cX8_copy 21 = .ok (.putfield 9, 3) := by decide +kernel
theorem dX8_copy_24 : decode cX8_copy 24 = .ok (.aload_n 1, 1) := by decide +kernel
theorem dX8_copy_25 : decode cX8_copy 25 = .ok (.getfield 15, 3) := by decide +kernel
theorem dX8_copy_28 : decode cX8_copy 28 = .ok (.iconst 0, 1) := by decide +kernel
theorem dX8_copy_29 : decode cX8_copy 29 = .ok (.aload_n 0, 1) := by decide +kernel
theorem dX8_copy_30 : decode cX8_copy 30 = .ok (.getfield 15, 3) := by decide +kernel
theorem dX8_copy_33 : decode cX8_copy 33 = .ok (.iconst 0, 1) := by decide +kernel
theorem dX8_copy_34 : decode cX8_copy 34 = .ok (.sipush 600, 3) := by decide +kernel
theorem dX8_copy_37 : decode cX8_copy 37 = .ok (.invokestatic 46, 3) := by decide +kernel
theorem dX8_copy_40 : decode cX8_copy 40 = .ok (.aload_n 1, 1) := by decide +kernel
theorem dX8_copy_41 : decode cX8_copy 41 = .ok (.getfield 19, 3) := by decide +kernel
theorem dX8_copy_44 : decode cX8_copy 44 = .ok (.iconst 0, 1) := by decide +kernel
theorem dX8_copy_45 : decode cX8_copy 45 = .ok (.aload_n 0, 1) := by decide +kernel
theorem dX8_copy_46 : decode cX8_copy 46 = .ok (.getfield 19, 3) := by decide +kernel
theorem dX8_copy_49 : decode cX8_copy 49 = .ok (.iconst 0, 1) := by decide +kernel
theorem dX8_copy_50 : decode cX8_copy 50 = .ok (.iconst 3, 1) := by decide +kernel
theorem dX8_copy_51 : decode cX8_copy 51 = .ok (.invokestatic 46, 3) := by decide +kernel
theorem dX8_copy_54 : decode cX8_copy 54 = .ok (.aload_n 1, 1) := by decide +kernel
theorem dX8_copy_55 : decode cX8_copy 55 = .ok (.getfield 28, 3) := by decide +kernel
theorem dX8_copy_58 : decode cX8_copy 58 = .ok (.iconst 0, 1) := by decide +kernel
theorem dX8_copy_59 : decode cX8_copy 59 = .ok (.aload_n 0, 1) := by decide +kernel
theorem dX8_copy_60 : decode cX8_copy 60 = .ok (.getfield 28, 3) := by decide +kernel
theorem dX8_copy_63 : decode cX8_copy 63 = .ok (.iconst 0, 1) := by decide +kernel
theorem dX8_copy_64 : decode cX8_copy 64 = .ok (.iconst 3, 1) := by decide +kernel
theorem dX8_copy_65 : decode cX8_copy 65 = .ok (.invokestatic 46, 3) := by decide +kernel
theorem dX8_copy_68 : decode cX8_copy 68 = .ok (.iconst 0, 1) := by decide +kernel
theorem dX8_copy_69 : decode cX8_copy 69 = .ok (.istore_n 2, 1) := by decide +kernel
theorem dX8_copy_70 : decode cX8_copy 70 = .ok (.iload_n 2, 1) := by decide +kernel
theorem dX8_copy_71 : decode cX8_copy 71 = .ok (.iconst 2, 1) := by decide +kernel
theorem dX8_copy_72 : decode cX8_copy 72 = .ok (.if_icmp .ge 24, 3) := by decide +kernel
theorem dX8_copy_75 : decode cX8_copy 75 = .ok (.aload_n 0, 1) := by decide +kernel
theorem dX8_copy_76 : decode cX8_copy 76 = .ok (.getfield 24, 3) := by decide +kernel
theorem dX8_copy_79 : decode cX8_copy 79 = .ok (.iload_n 2, 1) := by decide +kernel
theorem dX8_copy_80 : decode cX8_copy 80 = .ok (.aaload, 1) := by decide +kernel
theorem dX8_copy_81 : decode cX8_copy 81 = .ok (.aload_n 1, 1) := by decide +kernel
theorem dX8_copy_82 : decode cX8_copy 82 = .ok (.getfield 24, 3) := by decide +kernel
theorem dX8_copy_85 : decode cX8_copy 85 = .ok (.iload_n 2, 1) := by decide +kernel
theorem dX8_copy_86 : decode cX8_copy 86 = .ok (.aaload, 1) := by decide +kernel
theorem dX8_copy_87 : decode cX8_copy 87 = .ok (.invokevirtual 52, 3) := by decide +kernel
theorem dX8_copy_90 : decode cX8_copy 90 = .ok (.iinc 2 1, 3) := by decide +kernel
theorem dX8_copy_93 : decode cX8_copy 93 = .ok (.goto (-23), 3) := by decide +kernel
theorem dX8_copy_96 : decode cX8_copy 96 = .ok (.iconst 0, 1) := by decide +kernel
theorem dX8_copy_97 : decode cX8_copy 97 = .ok (.istore_n 2, 1) := by decide +kernel
theorem dX8_copy_98 : decode cX8_copy 98 = .ok (.iload_n 2, 1) := by decide +kernel
theorem dX8_copy_99 : decode cX8_copy 99 = .ok (.iconst 2, 1) := by decide +kernel
theorem dX8_copy_100 : decode cX8_copy 100 = .ok (.if_icmp .ge 24, 3) := by decide +kernel
theorem dX8_copy_103 : decode cX8_copy 103 = .ok (.aload_n 0, 1) := by decide +kernel
theorem dX8_copy_104 : decode cX8_copy 104 = .ok (.getfield 34, 3) := by decide +kernel
theorem dX8_copy_107 : decode cX8_copy 107 = .ok (.iload_n 2, 1) := by decide +kernel
theorem dX8_copy_108 : decode cX8_copy 108 = .ok (.aaload, 1) := by decide +kernel
theorem dX8_copy_109 : decode cX8_copy 109 = .ok (.aload_n 1, 1) := by decide +kernel
theorem dX8_copy_110 : decode cX8_copy 110 = .ok (.getfield 34, 3) := by decide +kernel
theorem dX8_copy_113 : decode cX8_copy 113 = .ok (.iload_n 2, 1) := by decide +kernel
theorem dX8_copy_114 : decode cX8_copy 114 = .ok (.aaload, 1) := by decide +kernel
theorem dX8_copy_115 : decode cX8_copy 115 = .ok (.invokevirtual 56, 3) := by decide +kernel
theorem dX8_copy_118 : decode cX8_copy 118 = .ok (.iinc 2 1, 3) := by decide +kernel
theorem dX8_copy_121 : decode cX8_copy 121 = .ok (.goto (-23), 3) := by decide +kernel
theorem dX8_copy_124 : decode cX8_copy 124 = .ok (.return_, 1) := by decide +kernel
theorem cpX8_46 : CPw RX8 46 := ⟨(lw_gi 1252 (by decide +kernel) rfl : Cond.methodLink RX8 46 arraycopyName ∈ lw_g), (lw_gi 779 (by decide +kernel) rfl : Cond.native arraycopyName ∈ lw_g), (lw_gi 778 (by decide +kernel) rfl : Cond.static arraycopyName ∈ lw_g), (lw_gi 135 (by decide +kernel) rfl : Cond.initialized "java/lang/System" ∈ lw_g)⟩
def CPB (d ds df s ss sf : Nat) (X X1 : XT) : Prop := X1.1 d 0 = X.1 s 0 ∧ X1.1 d 1 = X.1 s 1 ∧ X1.2.1 d 2 = X.2.1 s 2 ∧ X1.2.1 d 3 = X.2.1 s 3 ∧ X1.1 d 4 = X.1 s 4 ∧ ∀ j, j < 6 → X1.1 ds j = X.1 ss j ∧ X1.1 df j = X.1 sf j
def CPG (d dr df s sr sf : Nat) (X X1 : XT) : Prop := X1.1 d 0 = X.1 s 0 ∧ ∀ j, j < 30 → X1.2.1 dr j = X.2.1 sr j ∧ X1.1 df j = X.1 sf j
theorem CPB.fr {d ds df s ss sf : Nat} {m0 m1 : List (Nat × Option Nat)} {X Y Y1 X1 : XT} (h : CPB d ds df s ss sf Y Y1) (h0 : FR m0 X Y) (o0 : ∀ i, inM m0 s i = false ∧ inM m0 ss i = false ∧ inM m0 sf i = false) (h1 : FR m1 Y1 X1) (o1 : ∀ i, inM m1 d i = false ∧ inM m1 ds i = false ∧ inM m1 df i = false) : CPB d ds df s ss sf X X1 :=
  ⟨by rw [(h1 d _ (o1 _).1).1, h.1, (h0 s _ (o0 _).1).1], by rw [(h1 d _ (o1 _).1).1, h.2.1, (h0 s _ (o0 _).1).1], by rw [(h1 d _ (o1 _).1).2.1, h.2.2.1, (h0 s _ (o0 _).1).2.1], by rw [(h1 d _ (o1 _).1).2.1, h.2.2.2.1, (h0 s _ (o0 _).1).2.1], by rw [(h1 d _ (o1 _).1).1, h.2.2.2.2.1, (h0 s _ (o0 _).1).1], fun j hj => ⟨by rw [(h1 ds _ (o1 _).2.1).1, (h.2.2.2.2.2 j hj).1, (h0 ss _ (o0 _).2.1).1], by rw [(h1 df _ (o1 _).2.2).1, (h.2.2.2.2.2 j hj).2, (h0 sf _ (o0 _).2.2).1]⟩⟩
theorem CPG.fr {d dr df s sr sf : Nat} {m0 m1 : List (Nat × Option Nat)} {X Y Y1 X1 : XT} (h : CPG d dr df s sr sf Y Y1) (h0 : FR m0 X Y) (o0 : ∀ i, inM m0 s i = false ∧ inM m0 sr i = false ∧ inM m0 sf i = false) (h1 : FR m1 Y1 X1) (o1 : ∀ i, inM m1 d i = false ∧ inM m1 dr i = false ∧ inM m1 df i = false) : CPG d dr df s sr sf X X1 :=
  ⟨by rw [(h1 d _ (o1 _).1).1, h.1, (h0 s _ (o0 _).1).1], fun j hj => ⟨by rw [(h1 dr _ (o1 _).2.1).2.1, (h.2 j hj).1, (h0 sr _ (o0 _).2.1).2.1], by rw [(h1 df _ (o1 _).2.2).1, (h.2 j hj).2, (h0 sf _ (o0 _).2.2).1]⟩⟩
abbrev mdKB110 : List (Nat × Option Nat) := [(110, some 0), (110, some 1), (110, some 2), (110, some 3), (110, some 4), (111, none), (112, none)]
set_option maxHeartbeats 4000000 in
set_option maxRecDepth 100000 in
theorem c_kb110_7 {D : va_G} {ad : Nat → Nat} {cA : Nat → ClassId} {X0 : XT} (hH : HG vX X0) (hF : FR mdKB110 X0 X0) : MetX (wX D ad cA) yX0_copy cX0_copy 2 none 1 60 [.ref 110, .ref 7] X0 (fun r X1 => r = none ∧ HG vX X1 ∧ FR mdKB110 X0 X1 ∧ CPB 110 111 112 7 8 9 X0 X1) := by
  refine MetX.mk (own := RX0) (by decide +kernel) rfl (nle rfl) (fun E C hQ => ?_)
  refine Wx_lv (lv' := [(0, .ref 110), (1, .ref 7)]) rfl ?_
  refine x_aload_n (i := 0) C dX0_copy_0 rfl rfl ?_
  refine x_aload_n (i := 1) C dX0_copy_1 rfl rfl ?_
  refine x_getI C fkX_X0_18 (nlt rfl) rfl dX0_copy_2 ?_
  refine x_gen (fun v1 ev1 => ?_)
  have qv1 : (0 : Int) ≤ v1 ∧ v1 ≤ (6 : Int) := by
    rw [ev1]
    exact hH.rF (k := 7) (i := 0) rfl rfl
  refine x_putI C pkX_X0_18 (nlt rfl) rfl dX0_copy_5 ?_
  refine x_gX (fun Yy2 eYy2 => ?_)
  have hHy2 : HG vX Yy2 := by
    rw [eYy2]
    exact hg_wF hH (p := (0, 6)) rfl ⟨by omega, by omega⟩
  have hFy2 : FR mdKB110 X0 Yy2 := by
    rw [eYy2]
    exact FR.upI hF (rfl)
  replace eYy2 : Yy2 = upI X0 110 0 (v1) := eYy2
  refine x_aload_n (i := 0) C dX0_copy_8 rfl rfl ?_
  refine x_aload_n (i := 1) C dX0_copy_9 rfl rfl ?_
  refine x_getI C fkX_X0_22 (nlt rfl) rfl dX0_copy_10 ?_
  refine x_gen (fun v3 ev3 => ?_)
  have qv3 : (0 : Int) ≤ v3 ∧ v3 ≤ (6 : Int) := by
    rw [ev3]
    exact hHy2.rF (k := 7) (i := 1) rfl rfl
  have kv3 : v3 = X0.1 7 1 := by rw [ev3, eYy2, upI_nc (by decide)]
  refine x_putI C pkX_X0_22 (nlt rfl) rfl dX0_copy_13 ?_
  refine x_gX (fun Yy4 eYy4 => ?_)
  have hHy4 : HG vX Yy4 := by
    rw [eYy4]
    exact hg_wF hHy2 (p := (0, 6)) rfl ⟨by omega, by omega⟩
  have hFy4 : FR mdKB110 X0 Yy4 := by
    rw [eYy4]
    exact FR.upI hFy2 (rfl)
  replace eYy4 : Yy4 = upI Yy2 110 1 (v3) := eYy4
  refine x_aload_n (i := 0) C dX0_copy_16 rfl rfl ?_
  refine x_aload_n (i := 1) C dX0_copy_17 rfl rfl ?_
  refine x_getL C fkX_X0_25 (nlt rfl) rfl dX0_copy_18 ?_
  refine x_genL (fun l5 el5 => ?_)
  refine x_putL C pkX_X0_25 (nlt rfl) rfl dX0_copy_21 ?_
  refine x_gX (fun Yy6 eYy6 => ?_)
  have hHy6 : HG vX Yy6 := by
    rw [eYy6]
    exact hg_wLF hHy4 (p := ((-9223372036854775808), 9223372036854775807)) rfl (l64 _)
  have hFy6 : FR mdKB110 X0 Yy6 := by
    rw [eYy6]
    exact FR.upL hFy4 (rfl)
  replace eYy6 : Yy6 = upL Yy4 110 2 (l5) := eYy6
  refine x_aload_n (i := 0) C dX0_copy_24 rfl rfl ?_
  refine x_aload_n (i := 1) C dX0_copy_25 rfl rfl ?_
  refine x_getL C fkX_X0_29 (nlt rfl) rfl dX0_copy_26 ?_
  refine x_genL (fun l7 el7 => ?_)
  refine x_putL C pkX_X0_29 (nlt rfl) rfl dX0_copy_29 ?_
  refine x_gX (fun Yy8 eYy8 => ?_)
  have hHy8 : HG vX Yy8 := by
    rw [eYy8]
    exact hg_wLF hHy6 (p := ((-9223372036854775808), 9223372036854775807)) rfl (l64 _)
  have hFy8 : FR mdKB110 X0 Yy8 := by
    rw [eYy8]
    exact FR.upL hFy6 (rfl)
  replace eYy8 : Yy8 = upL Yy6 110 3 (l7) := eYy8
  refine x_aload_n (i := 0) C dX0_copy_32 rfl rfl ?_
  refine x_aload_n (i := 1) C dX0_copy_33 rfl rfl ?_
  refine x_getI C fkX_X0_32 (nlt rfl) rfl dX0_copy_34 ?_
  refine x_gen (fun v9 ev9 => ?_)
  have qv9 : (0 : Int) ≤ v9 ∧ v9 ≤ (6 : Int) := by
    rw [ev9]
    exact hHy8.rF (k := 7) (i := 4) rfl rfl
  have kv9 : v9 = X0.1 7 4 := by rw [ev9, eYy8, upL_1, eYy6, upL_1, eYy4, upI_nc (by decide), eYy2, upI_nc (by decide)]
  refine x_putI C pkX_X0_32 (nlt rfl) rfl dX0_copy_37 ?_
  refine x_gX (fun Yy10 eYy10 => ?_)
  have hHy10 : HG vX Yy10 := by
    rw [eYy10]
    exact hg_wF hHy8 (p := (0, 6)) rfl ⟨by omega, by omega⟩
  have hFy10 : FR mdKB110 X0 Yy10 := by
    rw [eYy10]
    exact FR.upI hFy8 (rfl)
  replace eYy10 : Yy10 = upI Yy8 110 4 (v9) := eYy10
  refine x_aload_n (i := 1) C dX0_copy_40 rfl rfl ?_
  refine x_getRs (r := 8) C fkX_X0_9 (nlt rfl) rfl (HG.rR hHy10 (k := 7) (i := 5) rfl rfl) dX0_copy_41 ?_
  refine x_iconst C dX0_copy_44 ?_
  refine x_aload_n (i := 0) C dX0_copy_45 rfl rfl ?_
  refine x_getRs (r := 111) C fkX_X0_9 (nlt rfl) rfl (HG.rR hHy10 (k := 110) (i := 5) rfl rfl) dX0_copy_46 ?_
  refine x_iconst C dX0_copy_49 ?_
  refine x_bipush C dX0_copy_50 (by decide) ?_
  refine x_cpyI C cpX0_35 (nlt rfl) rfl rfl (nlt rfl) rfl rfl rfl (by omega) (by omega) (by omega) (by omega) (by omega) (nle rfl) (nle rfl) (nle rfl) (nle rfl) dX0_copy_52 ?_
  refine x_gX (fun Yy11 eYy11 => ?_)
  have hHy11 : HG vX Yy11 := by
    rw [eYy11]
    exact HG.cpI hHy10 (nlt rfl) rfl (nle rfl) (by decide +kernel)
  have hFy11 : FR mdKB110 X0 Yy11 := by
    rw [eYy11]
    exact FR.cpI hFy10 (fun _ => rfl)
  refine x_aload_n (i := 1) C dX0_copy_55 rfl rfl ?_
  refine x_getRs (r := 9) C fkX_X0_15 (nlt rfl) rfl (HG.rR hHy11 (k := 7) (i := 6) rfl rfl) dX0_copy_56 ?_
  refine x_iconst C dX0_copy_59 ?_
  refine x_aload_n (i := 0) C dX0_copy_60 rfl rfl ?_
  refine x_getRs (r := 112) C fkX_X0_15 (nlt rfl) rfl (HG.rR hHy11 (k := 110) (i := 6) rfl rfl) dX0_copy_61 ?_
  refine x_iconst C dX0_copy_64 ?_
  refine x_bipush C dX0_copy_65 (by decide) ?_
  refine x_cpyI C cpX0_35 (nlt rfl) rfl rfl (nlt rfl) rfl rfl rfl (by omega) (by omega) (by omega) (by omega) (by omega) (nle rfl) (nle rfl) (nle rfl) (nle rfl) dX0_copy_67 ?_
  refine x_gX (fun Yy12 eYy12 => ?_)
  have hHy12 : HG vX Yy12 := by
    rw [eYy12]
    exact HG.cpI hHy11 (nlt rfl) rfl (nle rfl) (by decide +kernel)
  have hFy12 : FR mdKB110 X0 Yy12 := by
    rw [eYy12]
    exact FR.cpI hFy11 (fun _ => rfl)
  exact x_vret C hQ dX0_copy_70 (⟨rfl, hHy12, hFy12, ⟨by rw [eYy12, cpI_o1 (by decide), eYy11, cpI_o1 (by decide), eYy10, upI_ne (by decide), eYy8, upL_1, eYy6, upL_1, eYy4, upI_ne (by decide), eYy2, upI_at]; omega, by rw [eYy12, cpI_o1 (by decide), eYy11, cpI_o1 (by decide), eYy10, upI_ne (by decide), eYy8, upL_1, eYy6, upL_1, eYy4, upI_at]; omega, by rw [eYy12, cpI_2, eYy11, cpI_2, eYy10, upI_2, eYy8, upL_ne (by decide), eYy6, upL_at]; rw [el5, eYy4, upI_2, eYy2, upI_2], by rw [eYy12, cpI_2, eYy11, cpI_2, eYy10, upI_2, eYy8, upL_at]; rw [el7, eYy6, upL_nc (by decide), eYy4, upI_2, eYy2, upI_2], by rw [eYy12, cpI_o1 (by decide), eYy11, cpI_o1 (by decide), eYy10, upI_at]; omega, fun j hj => ⟨by rw [eYy12, cpI_o1 (by decide), eYy11, cpI_r hj, eYy10, upI_nc (by decide), eYy8, upL_1, eYy6, upL_1, eYy4, upI_nc (by decide), eYy2, upI_nc (by decide)], by rw [eYy12, cpI_r hj, eYy11, cpI_o1 (by decide), eYy10, upI_nc (by decide), eYy8, upL_1, eYy6, upL_1, eYy4, upI_nc (by decide), eYy2, upI_nc (by decide)]⟩⟩⟩)
abbrev mdKG116 : List (Nat × Option Nat) := [(116, some 0), (117, none), (118, none)]
set_option maxHeartbeats 4000000 in
set_option maxRecDepth 100000 in
theorem c_kg116_13 {D : va_G} {ad : Nat → Nat} {cA : Nat → ClassId} {X0 : XT} (hH : HG vX X0) (hF : FR mdKG116 X0 X0) : MetX (wX D ad cA) yX2_copy cX2_copy 2 none 1 60 [.ref 116, .ref 13] X0 (fun r X1 => r = none ∧ HG vX X1 ∧ FR mdKG116 X0 X1 ∧ CPG 116 117 118 13 14 15 X0 X1) := by
  refine MetX.mk (own := RX2) (by decide +kernel) rfl (nle rfl) (fun E C hQ => ?_)
  refine Wx_lv (lv' := [(0, .ref 116), (1, .ref 13)]) rfl ?_
  refine x_aload_n (i := 0) C dX2_copy_0 rfl rfl ?_
  refine x_aload_n (i := 1) C dX2_copy_1 rfl rfl ?_
  refine x_getI C fkX_X2_19 (nlt rfl) rfl dX2_copy_2 ?_
  refine x_gen (fun v1 ev1 => ?_)
  have qv1 : (0 : Int) ≤ v1 ∧ v1 ≤ (30 : Int) := by
    rw [ev1]
    exact hH.rF (k := 13) (i := 0) rfl rfl
  refine x_putI C pkX_X2_19 (nlt rfl) rfl dX2_copy_5 ?_
  refine x_gX (fun Yy2 eYy2 => ?_)
  have hHy2 : HG vX Yy2 := by
    rw [eYy2]
    exact hg_wF hH (p := (0, 30)) rfl ⟨by omega, by omega⟩
  have hFy2 : FR mdKG116 X0 Yy2 := by
    rw [eYy2]
    exact FR.upI hF (rfl)
  replace eYy2 : Yy2 = upI X0 116 0 (v1) := eYy2
  refine x_aload_n (i := 1) C dX2_copy_8 rfl rfl ?_
  refine x_getRs (r := 14) C fkX_X2_9 (nlt rfl) rfl (HG.rR hHy2 (k := 13) (i := 1) rfl rfl) dX2_copy_9 ?_
  refine x_iconst C dX2_copy_12 ?_
  refine x_aload_n (i := 0) C dX2_copy_13 rfl rfl ?_
  refine x_getRs (r := 117) C fkX_X2_9 (nlt rfl) rfl (HG.rR hHy2 (k := 116) (i := 1) rfl rfl) dX2_copy_14 ?_
  refine x_iconst C dX2_copy_17 ?_
  refine x_bipush C dX2_copy_18 (by decide) ?_
  refine x_cpyL C cpX2_23 (nlt rfl) rfl rfl (nlt rfl) rfl rfl (by omega) (by omega) (by omega) (by omega) (by omega) (nle rfl) (nle rfl) (nle rfl) (nle rfl) dX2_copy_20 ?_
  refine x_gX (fun Yy3 eYy3 => ?_)
  have hHy3 : HG vX Yy3 := by
    rw [eYy3]
    exact HG.cpL hHy2 (nlt rfl) rfl (nle rfl) (by decide +kernel)
  have hFy3 : FR mdKG116 X0 Yy3 := by
    rw [eYy3]
    exact FR.cpL hFy2 (fun _ => rfl)
  refine x_aload_n (i := 1) C dX2_copy_23 rfl rfl ?_
  refine x_getRs (r := 15) C fkX_X2_15 (nlt rfl) rfl (HG.rR hHy3 (k := 13) (i := 2) rfl rfl) dX2_copy_24 ?_
  refine x_iconst C dX2_copy_27 ?_
  refine x_aload_n (i := 0) C dX2_copy_28 rfl rfl ?_
  refine x_getRs (r := 118) C fkX_X2_15 (nlt rfl) rfl (HG.rR hHy3 (k := 116) (i := 2) rfl rfl) dX2_copy_29 ?_
  refine x_iconst C dX2_copy_32 ?_
  refine x_bipush C dX2_copy_33 (by decide) ?_
  refine x_cpyI C cpX2_23 (nlt rfl) rfl rfl (nlt rfl) rfl rfl rfl (by omega) (by omega) (by omega) (by omega) (by omega) (nle rfl) (nle rfl) (nle rfl) (nle rfl) dX2_copy_35 ?_
  refine x_gX (fun Yy4 eYy4 => ?_)
  have hHy4 : HG vX Yy4 := by
    rw [eYy4]
    exact HG.cpI hHy3 (nlt rfl) rfl (nle rfl) (by decide +kernel)
  have hFy4 : FR mdKG116 X0 Yy4 := by
    rw [eYy4]
    exact FR.cpI hFy3 (fun _ => rfl)
  exact x_vret C hQ dX2_copy_38 (⟨rfl, hHy4, hFy4, ⟨by rw [eYy4, cpI_o1 (by decide), eYy3, cpL_1, eYy2, upI_at]; omega, fun j hj => ⟨by rw [eYy4, cpI_2, eYy3, cpL_r hj, eYy2, upI_2], by rw [eYy4, cpI_r hj, eYy3, cpL_1, eYy2, upI_nc (by decide)]⟩⟩⟩)
abbrev mdKB113 : List (Nat × Option Nat) := [(113, some 0), (113, some 1), (113, some 2), (113, some 3), (113, some 4), (114, none), (115, none)]
set_option maxHeartbeats 4000000 in
set_option maxRecDepth 100000 in
theorem c_kb113_10 {D : va_G} {ad : Nat → Nat} {cA : Nat → ClassId} {X0 : XT} (hH : HG vX X0) (hF : FR mdKB113 X0 X0) : MetX (wX D ad cA) yX0_copy cX0_copy 2 none 1 60 [.ref 113, .ref 10] X0 (fun r X1 => r = none ∧ HG vX X1 ∧ FR mdKB113 X0 X1 ∧ CPB 113 114 115 10 11 12 X0 X1) := by
  refine MetX.mk (own := RX0) (by decide +kernel) rfl (nle rfl) (fun E C hQ => ?_)
  refine Wx_lv (lv' := [(0, .ref 113), (1, .ref 10)]) rfl ?_
  refine x_aload_n (i := 0) C dX0_copy_0 rfl rfl ?_
  refine x_aload_n (i := 1) C dX0_copy_1 rfl rfl ?_
  refine x_getI C fkX_X0_18 (nlt rfl) rfl dX0_copy_2 ?_
  refine x_gen (fun v1 ev1 => ?_)
  have qv1 : (0 : Int) ≤ v1 ∧ v1 ≤ (6 : Int) := by
    rw [ev1]
    exact hH.rF (k := 10) (i := 0) rfl rfl
  refine x_putI C pkX_X0_18 (nlt rfl) rfl dX0_copy_5 ?_
  refine x_gX (fun Yy2 eYy2 => ?_)
  have hHy2 : HG vX Yy2 := by
    rw [eYy2]
    exact hg_wF hH (p := (0, 6)) rfl ⟨by omega, by omega⟩
  have hFy2 : FR mdKB113 X0 Yy2 := by
    rw [eYy2]
    exact FR.upI hF (rfl)
  replace eYy2 : Yy2 = upI X0 113 0 (v1) := eYy2
  refine x_aload_n (i := 0) C dX0_copy_8 rfl rfl ?_
  refine x_aload_n (i := 1) C dX0_copy_9 rfl rfl ?_
  refine x_getI C fkX_X0_22 (nlt rfl) rfl dX0_copy_10 ?_
  refine x_gen (fun v3 ev3 => ?_)
  have qv3 : (0 : Int) ≤ v3 ∧ v3 ≤ (6 : Int) := by
    rw [ev3]
    exact hHy2.rF (k := 10) (i := 1) rfl rfl
  have kv3 : v3 = X0.1 10 1 := by rw [ev3, eYy2, upI_nc (by decide)]
  refine x_putI C pkX_X0_22 (nlt rfl) rfl dX0_copy_13 ?_
  refine x_gX (fun Yy4 eYy4 => ?_)
  have hHy4 : HG vX Yy4 := by
    rw [eYy4]
    exact hg_wF hHy2 (p := (0, 6)) rfl ⟨by omega, by omega⟩
  have hFy4 : FR mdKB113 X0 Yy4 := by
    rw [eYy4]
    exact FR.upI hFy2 (rfl)
  replace eYy4 : Yy4 = upI Yy2 113 1 (v3) := eYy4
  refine x_aload_n (i := 0) C dX0_copy_16 rfl rfl ?_
  refine x_aload_n (i := 1) C dX0_copy_17 rfl rfl ?_
  refine x_getL C fkX_X0_25 (nlt rfl) rfl dX0_copy_18 ?_
  refine x_genL (fun l5 el5 => ?_)
  refine x_putL C pkX_X0_25 (nlt rfl) rfl dX0_copy_21 ?_
  refine x_gX (fun Yy6 eYy6 => ?_)
  have hHy6 : HG vX Yy6 := by
    rw [eYy6]
    exact hg_wLF hHy4 (p := ((-9223372036854775808), 9223372036854775807)) rfl (l64 _)
  have hFy6 : FR mdKB113 X0 Yy6 := by
    rw [eYy6]
    exact FR.upL hFy4 (rfl)
  replace eYy6 : Yy6 = upL Yy4 113 2 (l5) := eYy6
  refine x_aload_n (i := 0) C dX0_copy_24 rfl rfl ?_
  refine x_aload_n (i := 1) C dX0_copy_25 rfl rfl ?_
  refine x_getL C fkX_X0_29 (nlt rfl) rfl dX0_copy_26 ?_
  refine x_genL (fun l7 el7 => ?_)
  refine x_putL C pkX_X0_29 (nlt rfl) rfl dX0_copy_29 ?_
  refine x_gX (fun Yy8 eYy8 => ?_)
  have hHy8 : HG vX Yy8 := by
    rw [eYy8]
    exact hg_wLF hHy6 (p := ((-9223372036854775808), 9223372036854775807)) rfl (l64 _)
  have hFy8 : FR mdKB113 X0 Yy8 := by
    rw [eYy8]
    exact FR.upL hFy6 (rfl)
  replace eYy8 : Yy8 = upL Yy6 113 3 (l7) := eYy8
  refine x_aload_n (i := 0) C dX0_copy_32 rfl rfl ?_
  refine x_aload_n (i := 1) C dX0_copy_33 rfl rfl ?_
  refine x_getI C fkX_X0_32 (nlt rfl) rfl dX0_copy_34 ?_
  refine x_gen (fun v9 ev9 => ?_)
  have qv9 : (0 : Int) ≤ v9 ∧ v9 ≤ (6 : Int) := by
    rw [ev9]
    exact hHy8.rF (k := 10) (i := 4) rfl rfl
  have kv9 : v9 = X0.1 10 4 := by rw [ev9, eYy8, upL_1, eYy6, upL_1, eYy4, upI_nc (by decide), eYy2, upI_nc (by decide)]
  refine x_putI C pkX_X0_32 (nlt rfl) rfl dX0_copy_37 ?_
  refine x_gX (fun Yy10 eYy10 => ?_)
  have hHy10 : HG vX Yy10 := by
    rw [eYy10]
    exact hg_wF hHy8 (p := (0, 6)) rfl ⟨by omega, by omega⟩
  have hFy10 : FR mdKB113 X0 Yy10 := by
    rw [eYy10]
    exact FR.upI hFy8 (rfl)
  replace eYy10 : Yy10 = upI Yy8 113 4 (v9) := eYy10
  refine x_aload_n (i := 1) C dX0_copy_40 rfl rfl ?_
  refine x_getRs (r := 11) C fkX_X0_9 (nlt rfl) rfl (HG.rR hHy10 (k := 10) (i := 5) rfl rfl) dX0_copy_41 ?_
  refine x_iconst C dX0_copy_44 ?_
  refine x_aload_n (i := 0) C dX0_copy_45 rfl rfl ?_
  refine x_getRs (r := 114) C fkX_X0_9 (nlt rfl) rfl (HG.rR hHy10 (k := 113) (i := 5) rfl rfl) dX0_copy_46 ?_
  refine x_iconst C dX0_copy_49 ?_
  refine x_bipush C dX0_copy_50 (by decide) ?_
  refine x_cpyI C cpX0_35 (nlt rfl) rfl rfl (nlt rfl) rfl rfl rfl (by omega) (by omega) (by omega) (by omega) (by omega) (nle rfl) (nle rfl) (nle rfl) (nle rfl) dX0_copy_52 ?_
  refine x_gX (fun Yy11 eYy11 => ?_)
  have hHy11 : HG vX Yy11 := by
    rw [eYy11]
    exact HG.cpI hHy10 (nlt rfl) rfl (nle rfl) (by decide +kernel)
  have hFy11 : FR mdKB113 X0 Yy11 := by
    rw [eYy11]
    exact FR.cpI hFy10 (fun _ => rfl)
  refine x_aload_n (i := 1) C dX0_copy_55 rfl rfl ?_
  refine x_getRs (r := 12) C fkX_X0_15 (nlt rfl) rfl (HG.rR hHy11 (k := 10) (i := 6) rfl rfl) dX0_copy_56 ?_
  refine x_iconst C dX0_copy_59 ?_
  refine x_aload_n (i := 0) C dX0_copy_60 rfl rfl ?_
  refine x_getRs (r := 115) C fkX_X0_15 (nlt rfl) rfl (HG.rR hHy11 (k := 113) (i := 6) rfl rfl) dX0_copy_61 ?_
  refine x_iconst C dX0_copy_64 ?_
  refine x_bipush C dX0_copy_65 (by decide) ?_
  refine x_cpyI C cpX0_35 (nlt rfl) rfl rfl (nlt rfl) rfl rfl rfl (by omega) (by omega) (by omega) (by omega) (by omega) (nle rfl) (nle rfl) (nle rfl) (nle rfl) dX0_copy_67 ?_
  refine x_gX (fun Yy12 eYy12 => ?_)
  have hHy12 : HG vX Yy12 := by
    rw [eYy12]
    exact HG.cpI hHy11 (nlt rfl) rfl (nle rfl) (by decide +kernel)
  have hFy12 : FR mdKB113 X0 Yy12 := by
    rw [eYy12]
    exact FR.cpI hFy11 (fun _ => rfl)
  exact x_vret C hQ dX0_copy_70 (⟨rfl, hHy12, hFy12, ⟨by rw [eYy12, cpI_o1 (by decide), eYy11, cpI_o1 (by decide), eYy10, upI_ne (by decide), eYy8, upL_1, eYy6, upL_1, eYy4, upI_ne (by decide), eYy2, upI_at]; omega, by rw [eYy12, cpI_o1 (by decide), eYy11, cpI_o1 (by decide), eYy10, upI_ne (by decide), eYy8, upL_1, eYy6, upL_1, eYy4, upI_at]; omega, by rw [eYy12, cpI_2, eYy11, cpI_2, eYy10, upI_2, eYy8, upL_ne (by decide), eYy6, upL_at]; rw [el5, eYy4, upI_2, eYy2, upI_2], by rw [eYy12, cpI_2, eYy11, cpI_2, eYy10, upI_2, eYy8, upL_at]; rw [el7, eYy6, upL_nc (by decide), eYy4, upI_2, eYy2, upI_2], by rw [eYy12, cpI_o1 (by decide), eYy11, cpI_o1 (by decide), eYy10, upI_at]; omega, fun j hj => ⟨by rw [eYy12, cpI_o1 (by decide), eYy11, cpI_r hj, eYy10, upI_nc (by decide), eYy8, upL_1, eYy6, upL_1, eYy4, upI_nc (by decide), eYy2, upI_nc (by decide)], by rw [eYy12, cpI_r hj, eYy11, cpI_o1 (by decide), eYy10, upI_nc (by decide), eYy8, upL_1, eYy6, upL_1, eYy4, upI_nc (by decide), eYy2, upI_nc (by decide)]⟩⟩⟩)
abbrev mdKG119 : List (Nat × Option Nat) := [(119, some 0), (120, none), (121, none)]
set_option maxHeartbeats 4000000 in
set_option maxRecDepth 100000 in
theorem c_kg119_16 {D : va_G} {ad : Nat → Nat} {cA : Nat → ClassId} {X0 : XT} (hH : HG vX X0) (hF : FR mdKG119 X0 X0) : MetX (wX D ad cA) yX2_copy cX2_copy 2 none 1 60 [.ref 119, .ref 16] X0 (fun r X1 => r = none ∧ HG vX X1 ∧ FR mdKG119 X0 X1 ∧ CPG 119 120 121 16 17 18 X0 X1) := by
  refine MetX.mk (own := RX2) (by decide +kernel) rfl (nle rfl) (fun E C hQ => ?_)
  refine Wx_lv (lv' := [(0, .ref 119), (1, .ref 16)]) rfl ?_
  refine x_aload_n (i := 0) C dX2_copy_0 rfl rfl ?_
  refine x_aload_n (i := 1) C dX2_copy_1 rfl rfl ?_
  refine x_getI C fkX_X2_19 (nlt rfl) rfl dX2_copy_2 ?_
  refine x_gen (fun v1 ev1 => ?_)
  have qv1 : (0 : Int) ≤ v1 ∧ v1 ≤ (30 : Int) := by
    rw [ev1]
    exact hH.rF (k := 16) (i := 0) rfl rfl
  refine x_putI C pkX_X2_19 (nlt rfl) rfl dX2_copy_5 ?_
  refine x_gX (fun Yy2 eYy2 => ?_)
  have hHy2 : HG vX Yy2 := by
    rw [eYy2]
    exact hg_wF hH (p := (0, 30)) rfl ⟨by omega, by omega⟩
  have hFy2 : FR mdKG119 X0 Yy2 := by
    rw [eYy2]
    exact FR.upI hF (rfl)
  replace eYy2 : Yy2 = upI X0 119 0 (v1) := eYy2
  refine x_aload_n (i := 1) C dX2_copy_8 rfl rfl ?_
  refine x_getRs (r := 17) C fkX_X2_9 (nlt rfl) rfl (HG.rR hHy2 (k := 16) (i := 1) rfl rfl) dX2_copy_9 ?_
  refine x_iconst C dX2_copy_12 ?_
  refine x_aload_n (i := 0) C dX2_copy_13 rfl rfl ?_
  refine x_getRs (r := 120) C fkX_X2_9 (nlt rfl) rfl (HG.rR hHy2 (k := 119) (i := 1) rfl rfl) dX2_copy_14 ?_
  refine x_iconst C dX2_copy_17 ?_
  refine x_bipush C dX2_copy_18 (by decide) ?_
  refine x_cpyL C cpX2_23 (nlt rfl) rfl rfl (nlt rfl) rfl rfl (by omega) (by omega) (by omega) (by omega) (by omega) (nle rfl) (nle rfl) (nle rfl) (nle rfl) dX2_copy_20 ?_
  refine x_gX (fun Yy3 eYy3 => ?_)
  have hHy3 : HG vX Yy3 := by
    rw [eYy3]
    exact HG.cpL hHy2 (nlt rfl) rfl (nle rfl) (by decide +kernel)
  have hFy3 : FR mdKG119 X0 Yy3 := by
    rw [eYy3]
    exact FR.cpL hFy2 (fun _ => rfl)
  refine x_aload_n (i := 1) C dX2_copy_23 rfl rfl ?_
  refine x_getRs (r := 18) C fkX_X2_15 (nlt rfl) rfl (HG.rR hHy3 (k := 16) (i := 2) rfl rfl) dX2_copy_24 ?_
  refine x_iconst C dX2_copy_27 ?_
  refine x_aload_n (i := 0) C dX2_copy_28 rfl rfl ?_
  refine x_getRs (r := 121) C fkX_X2_15 (nlt rfl) rfl (HG.rR hHy3 (k := 119) (i := 2) rfl rfl) dX2_copy_29 ?_
  refine x_iconst C dX2_copy_32 ?_
  refine x_bipush C dX2_copy_33 (by decide) ?_
  refine x_cpyI C cpX2_23 (nlt rfl) rfl rfl (nlt rfl) rfl rfl rfl (by omega) (by omega) (by omega) (by omega) (by omega) (nle rfl) (nle rfl) (nle rfl) (nle rfl) dX2_copy_35 ?_
  refine x_gX (fun Yy4 eYy4 => ?_)
  have hHy4 : HG vX Yy4 := by
    rw [eYy4]
    exact HG.cpI hHy3 (nlt rfl) rfl (nle rfl) (by decide +kernel)
  have hFy4 : FR mdKG119 X0 Yy4 := by
    rw [eYy4]
    exact FR.cpI hFy3 (fun _ => rfl)
  exact x_vret C hQ dX2_copy_38 (⟨rfl, hHy4, hFy4, ⟨by rw [eYy4, cpI_o1 (by decide), eYy3, cpL_1, eYy2, upI_at]; omega, fun j hj => ⟨by rw [eYy4, cpI_2, eYy3, cpL_r hj, eYy2, upI_2], by rw [eYy4, cpI_r hj, eYy3, cpL_1, eYy2, upI_nc (by decide)]⟩⟩⟩)
abbrev mdKB128 : List (Nat × Option Nat) := [(128, some 0), (128, some 1), (128, some 2), (128, some 3), (128, some 4), (129, none), (130, none)]
set_option maxHeartbeats 4000000 in
set_option maxRecDepth 100000 in
theorem c_kb128_7 {D : va_G} {ad : Nat → Nat} {cA : Nat → ClassId} {X0 : XT} (hH : HG vX X0) (hF : FR mdKB128 X0 X0) : MetX (wX D ad cA) yX0_copy cX0_copy 2 none 1 60 [.ref 128, .ref 7] X0 (fun r X1 => r = none ∧ HG vX X1 ∧ FR mdKB128 X0 X1 ∧ CPB 128 129 130 7 8 9 X0 X1) := by
  refine MetX.mk (own := RX0) (by decide +kernel) rfl (nle rfl) (fun E C hQ => ?_)
  refine Wx_lv (lv' := [(0, .ref 128), (1, .ref 7)]) rfl ?_
  refine x_aload_n (i := 0) C dX0_copy_0 rfl rfl ?_
  refine x_aload_n (i := 1) C dX0_copy_1 rfl rfl ?_
  refine x_getI C fkX_X0_18 (nlt rfl) rfl dX0_copy_2 ?_
  refine x_gen (fun v1 ev1 => ?_)
  have qv1 : (0 : Int) ≤ v1 ∧ v1 ≤ (6 : Int) := by
    rw [ev1]
    exact hH.rF (k := 7) (i := 0) rfl rfl
  refine x_putI C pkX_X0_18 (nlt rfl) rfl dX0_copy_5 ?_
  refine x_gX (fun Yy2 eYy2 => ?_)
  have hHy2 : HG vX Yy2 := by
    rw [eYy2]
    exact hg_wF hH (p := (0, 6)) rfl ⟨by omega, by omega⟩
  have hFy2 : FR mdKB128 X0 Yy2 := by
    rw [eYy2]
    exact FR.upI hF (rfl)
  replace eYy2 : Yy2 = upI X0 128 0 (v1) := eYy2
  refine x_aload_n (i := 0) C dX0_copy_8 rfl rfl ?_
  refine x_aload_n (i := 1) C dX0_copy_9 rfl rfl ?_
  refine x_getI C fkX_X0_22 (nlt rfl) rfl dX0_copy_10 ?_
  refine x_gen (fun v3 ev3 => ?_)
  have qv3 : (0 : Int) ≤ v3 ∧ v3 ≤ (6 : Int) := by
    rw [ev3]
    exact hHy2.rF (k := 7) (i := 1) rfl rfl
  have kv3 : v3 = X0.1 7 1 := by rw [ev3, eYy2, upI_nc (by decide)]
  refine x_putI C pkX_X0_22 (nlt rfl) rfl dX0_copy_13 ?_
  refine x_gX (fun Yy4 eYy4 => ?_)
  have hHy4 : HG vX Yy4 := by
    rw [eYy4]
    exact hg_wF hHy2 (p := (0, 6)) rfl ⟨by omega, by omega⟩
  have hFy4 : FR mdKB128 X0 Yy4 := by
    rw [eYy4]
    exact FR.upI hFy2 (rfl)
  replace eYy4 : Yy4 = upI Yy2 128 1 (v3) := eYy4
  refine x_aload_n (i := 0) C dX0_copy_16 rfl rfl ?_
  refine x_aload_n (i := 1) C dX0_copy_17 rfl rfl ?_
  refine x_getL C fkX_X0_25 (nlt rfl) rfl dX0_copy_18 ?_
  refine x_genL (fun l5 el5 => ?_)
  refine x_putL C pkX_X0_25 (nlt rfl) rfl dX0_copy_21 ?_
  refine x_gX (fun Yy6 eYy6 => ?_)
  have hHy6 : HG vX Yy6 := by
    rw [eYy6]
    exact hg_wLF hHy4 (p := ((-9223372036854775808), 9223372036854775807)) rfl (l64 _)
  have hFy6 : FR mdKB128 X0 Yy6 := by
    rw [eYy6]
    exact FR.upL hFy4 (rfl)
  replace eYy6 : Yy6 = upL Yy4 128 2 (l5) := eYy6
  refine x_aload_n (i := 0) C dX0_copy_24 rfl rfl ?_
  refine x_aload_n (i := 1) C dX0_copy_25 rfl rfl ?_
  refine x_getL C fkX_X0_29 (nlt rfl) rfl dX0_copy_26 ?_
  refine x_genL (fun l7 el7 => ?_)
  refine x_putL C pkX_X0_29 (nlt rfl) rfl dX0_copy_29 ?_
  refine x_gX (fun Yy8 eYy8 => ?_)
  have hHy8 : HG vX Yy8 := by
    rw [eYy8]
    exact hg_wLF hHy6 (p := ((-9223372036854775808), 9223372036854775807)) rfl (l64 _)
  have hFy8 : FR mdKB128 X0 Yy8 := by
    rw [eYy8]
    exact FR.upL hFy6 (rfl)
  replace eYy8 : Yy8 = upL Yy6 128 3 (l7) := eYy8
  refine x_aload_n (i := 0) C dX0_copy_32 rfl rfl ?_
  refine x_aload_n (i := 1) C dX0_copy_33 rfl rfl ?_
  refine x_getI C fkX_X0_32 (nlt rfl) rfl dX0_copy_34 ?_
  refine x_gen (fun v9 ev9 => ?_)
  have qv9 : (0 : Int) ≤ v9 ∧ v9 ≤ (6 : Int) := by
    rw [ev9]
    exact hHy8.rF (k := 7) (i := 4) rfl rfl
  have kv9 : v9 = X0.1 7 4 := by rw [ev9, eYy8, upL_1, eYy6, upL_1, eYy4, upI_nc (by decide), eYy2, upI_nc (by decide)]
  refine x_putI C pkX_X0_32 (nlt rfl) rfl dX0_copy_37 ?_
  refine x_gX (fun Yy10 eYy10 => ?_)
  have hHy10 : HG vX Yy10 := by
    rw [eYy10]
    exact hg_wF hHy8 (p := (0, 6)) rfl ⟨by omega, by omega⟩
  have hFy10 : FR mdKB128 X0 Yy10 := by
    rw [eYy10]
    exact FR.upI hFy8 (rfl)
  replace eYy10 : Yy10 = upI Yy8 128 4 (v9) := eYy10
  refine x_aload_n (i := 1) C dX0_copy_40 rfl rfl ?_
  refine x_getRs (r := 8) C fkX_X0_9 (nlt rfl) rfl (HG.rR hHy10 (k := 7) (i := 5) rfl rfl) dX0_copy_41 ?_
  refine x_iconst C dX0_copy_44 ?_
  refine x_aload_n (i := 0) C dX0_copy_45 rfl rfl ?_
  refine x_getRs (r := 129) C fkX_X0_9 (nlt rfl) rfl (HG.rR hHy10 (k := 128) (i := 5) rfl rfl) dX0_copy_46 ?_
  refine x_iconst C dX0_copy_49 ?_
  refine x_bipush C dX0_copy_50 (by decide) ?_
  refine x_cpyI C cpX0_35 (nlt rfl) rfl rfl (nlt rfl) rfl rfl rfl (by omega) (by omega) (by omega) (by omega) (by omega) (nle rfl) (nle rfl) (nle rfl) (nle rfl) dX0_copy_52 ?_
  refine x_gX (fun Yy11 eYy11 => ?_)
  have hHy11 : HG vX Yy11 := by
    rw [eYy11]
    exact HG.cpI hHy10 (nlt rfl) rfl (nle rfl) (by decide +kernel)
  have hFy11 : FR mdKB128 X0 Yy11 := by
    rw [eYy11]
    exact FR.cpI hFy10 (fun _ => rfl)
  refine x_aload_n (i := 1) C dX0_copy_55 rfl rfl ?_
  refine x_getRs (r := 9) C fkX_X0_15 (nlt rfl) rfl (HG.rR hHy11 (k := 7) (i := 6) rfl rfl) dX0_copy_56 ?_
  refine x_iconst C dX0_copy_59 ?_
  refine x_aload_n (i := 0) C dX0_copy_60 rfl rfl ?_
  refine x_getRs (r := 130) C fkX_X0_15 (nlt rfl) rfl (HG.rR hHy11 (k := 128) (i := 6) rfl rfl) dX0_copy_61 ?_
  refine x_iconst C dX0_copy_64 ?_
  refine x_bipush C dX0_copy_65 (by decide) ?_
  refine x_cpyI C cpX0_35 (nlt rfl) rfl rfl (nlt rfl) rfl rfl rfl (by omega) (by omega) (by omega) (by omega) (by omega) (nle rfl) (nle rfl) (nle rfl) (nle rfl) dX0_copy_67 ?_
  refine x_gX (fun Yy12 eYy12 => ?_)
  have hHy12 : HG vX Yy12 := by
    rw [eYy12]
    exact HG.cpI hHy11 (nlt rfl) rfl (nle rfl) (by decide +kernel)
  have hFy12 : FR mdKB128 X0 Yy12 := by
    rw [eYy12]
    exact FR.cpI hFy11 (fun _ => rfl)
  exact x_vret C hQ dX0_copy_70 (⟨rfl, hHy12, hFy12, ⟨by rw [eYy12, cpI_o1 (by decide), eYy11, cpI_o1 (by decide), eYy10, upI_ne (by decide), eYy8, upL_1, eYy6, upL_1, eYy4, upI_ne (by decide), eYy2, upI_at]; omega, by rw [eYy12, cpI_o1 (by decide), eYy11, cpI_o1 (by decide), eYy10, upI_ne (by decide), eYy8, upL_1, eYy6, upL_1, eYy4, upI_at]; omega, by rw [eYy12, cpI_2, eYy11, cpI_2, eYy10, upI_2, eYy8, upL_ne (by decide), eYy6, upL_at]; rw [el5, eYy4, upI_2, eYy2, upI_2], by rw [eYy12, cpI_2, eYy11, cpI_2, eYy10, upI_2, eYy8, upL_at]; rw [el7, eYy6, upL_nc (by decide), eYy4, upI_2, eYy2, upI_2], by rw [eYy12, cpI_o1 (by decide), eYy11, cpI_o1 (by decide), eYy10, upI_at]; omega, fun j hj => ⟨by rw [eYy12, cpI_o1 (by decide), eYy11, cpI_r hj, eYy10, upI_nc (by decide), eYy8, upL_1, eYy6, upL_1, eYy4, upI_nc (by decide), eYy2, upI_nc (by decide)], by rw [eYy12, cpI_r hj, eYy11, cpI_o1 (by decide), eYy10, upI_nc (by decide), eYy8, upL_1, eYy6, upL_1, eYy4, upI_nc (by decide), eYy2, upI_nc (by decide)]⟩⟩⟩)
abbrev mdKG134 : List (Nat × Option Nat) := [(134, some 0), (135, none), (136, none)]
set_option maxHeartbeats 4000000 in
set_option maxRecDepth 100000 in
theorem c_kg134_13 {D : va_G} {ad : Nat → Nat} {cA : Nat → ClassId} {X0 : XT} (hH : HG vX X0) (hF : FR mdKG134 X0 X0) : MetX (wX D ad cA) yX2_copy cX2_copy 2 none 1 60 [.ref 134, .ref 13] X0 (fun r X1 => r = none ∧ HG vX X1 ∧ FR mdKG134 X0 X1 ∧ CPG 134 135 136 13 14 15 X0 X1) := by
  refine MetX.mk (own := RX2) (by decide +kernel) rfl (nle rfl) (fun E C hQ => ?_)
  refine Wx_lv (lv' := [(0, .ref 134), (1, .ref 13)]) rfl ?_
  refine x_aload_n (i := 0) C dX2_copy_0 rfl rfl ?_
  refine x_aload_n (i := 1) C dX2_copy_1 rfl rfl ?_
  refine x_getI C fkX_X2_19 (nlt rfl) rfl dX2_copy_2 ?_
  refine x_gen (fun v1 ev1 => ?_)
  have qv1 : (0 : Int) ≤ v1 ∧ v1 ≤ (30 : Int) := by
    rw [ev1]
    exact hH.rF (k := 13) (i := 0) rfl rfl
  refine x_putI C pkX_X2_19 (nlt rfl) rfl dX2_copy_5 ?_
  refine x_gX (fun Yy2 eYy2 => ?_)
  have hHy2 : HG vX Yy2 := by
    rw [eYy2]
    exact hg_wF hH (p := (0, 30)) rfl ⟨by omega, by omega⟩
  have hFy2 : FR mdKG134 X0 Yy2 := by
    rw [eYy2]
    exact FR.upI hF (rfl)
  replace eYy2 : Yy2 = upI X0 134 0 (v1) := eYy2
  refine x_aload_n (i := 1) C dX2_copy_8 rfl rfl ?_
  refine x_getRs (r := 14) C fkX_X2_9 (nlt rfl) rfl (HG.rR hHy2 (k := 13) (i := 1) rfl rfl) dX2_copy_9 ?_
  refine x_iconst C dX2_copy_12 ?_
  refine x_aload_n (i := 0) C dX2_copy_13 rfl rfl ?_
  refine x_getRs (r := 135) C fkX_X2_9 (nlt rfl) rfl (HG.rR hHy2 (k := 134) (i := 1) rfl rfl) dX2_copy_14 ?_
  refine x_iconst C dX2_copy_17 ?_
  refine x_bipush C dX2_copy_18 (by decide) ?_
  refine x_cpyL C cpX2_23 (nlt rfl) rfl rfl (nlt rfl) rfl rfl (by omega) (by omega) (by omega) (by omega) (by omega) (nle rfl) (nle rfl) (nle rfl) (nle rfl) dX2_copy_20 ?_
  refine x_gX (fun Yy3 eYy3 => ?_)
  have hHy3 : HG vX Yy3 := by
    rw [eYy3]
    exact HG.cpL hHy2 (nlt rfl) rfl (nle rfl) (by decide +kernel)
  have hFy3 : FR mdKG134 X0 Yy3 := by
    rw [eYy3]
    exact FR.cpL hFy2 (fun _ => rfl)
  refine x_aload_n (i := 1) C dX2_copy_23 rfl rfl ?_
  refine x_getRs (r := 15) C fkX_X2_15 (nlt rfl) rfl (HG.rR hHy3 (k := 13) (i := 2) rfl rfl) dX2_copy_24 ?_
  refine x_iconst C dX2_copy_27 ?_
  refine x_aload_n (i := 0) C dX2_copy_28 rfl rfl ?_
  refine x_getRs (r := 136) C fkX_X2_15 (nlt rfl) rfl (HG.rR hHy3 (k := 134) (i := 2) rfl rfl) dX2_copy_29 ?_
  refine x_iconst C dX2_copy_32 ?_
  refine x_bipush C dX2_copy_33 (by decide) ?_
  refine x_cpyI C cpX2_23 (nlt rfl) rfl rfl (nlt rfl) rfl rfl rfl (by omega) (by omega) (by omega) (by omega) (by omega) (nle rfl) (nle rfl) (nle rfl) (nle rfl) dX2_copy_35 ?_
  refine x_gX (fun Yy4 eYy4 => ?_)
  have hHy4 : HG vX Yy4 := by
    rw [eYy4]
    exact HG.cpI hHy3 (nlt rfl) rfl (nle rfl) (by decide +kernel)
  have hFy4 : FR mdKG134 X0 Yy4 := by
    rw [eYy4]
    exact FR.cpI hFy3 (fun _ => rfl)
  exact x_vret C hQ dX2_copy_38 (⟨rfl, hHy4, hFy4, ⟨by rw [eYy4, cpI_o1 (by decide), eYy3, cpL_1, eYy2, upI_at]; omega, fun j hj => ⟨by rw [eYy4, cpI_2, eYy3, cpL_r hj, eYy2, upI_2], by rw [eYy4, cpI_r hj, eYy3, cpL_1, eYy2, upI_nc (by decide)]⟩⟩⟩)
abbrev mdKB131 : List (Nat × Option Nat) := [(131, some 0), (131, some 1), (131, some 2), (131, some 3), (131, some 4), (132, none), (133, none)]
set_option maxHeartbeats 4000000 in
set_option maxRecDepth 100000 in
theorem c_kb131_10 {D : va_G} {ad : Nat → Nat} {cA : Nat → ClassId} {X0 : XT} (hH : HG vX X0) (hF : FR mdKB131 X0 X0) : MetX (wX D ad cA) yX0_copy cX0_copy 2 none 1 60 [.ref 131, .ref 10] X0 (fun r X1 => r = none ∧ HG vX X1 ∧ FR mdKB131 X0 X1 ∧ CPB 131 132 133 10 11 12 X0 X1) := by
  refine MetX.mk (own := RX0) (by decide +kernel) rfl (nle rfl) (fun E C hQ => ?_)
  refine Wx_lv (lv' := [(0, .ref 131), (1, .ref 10)]) rfl ?_
  refine x_aload_n (i := 0) C dX0_copy_0 rfl rfl ?_
  refine x_aload_n (i := 1) C dX0_copy_1 rfl rfl ?_
  refine x_getI C fkX_X0_18 (nlt rfl) rfl dX0_copy_2 ?_
  refine x_gen (fun v1 ev1 => ?_)
  have qv1 : (0 : Int) ≤ v1 ∧ v1 ≤ (6 : Int) := by
    rw [ev1]
    exact hH.rF (k := 10) (i := 0) rfl rfl
  refine x_putI C pkX_X0_18 (nlt rfl) rfl dX0_copy_5 ?_
  refine x_gX (fun Yy2 eYy2 => ?_)
  have hHy2 : HG vX Yy2 := by
    rw [eYy2]
    exact hg_wF hH (p := (0, 6)) rfl ⟨by omega, by omega⟩
  have hFy2 : FR mdKB131 X0 Yy2 := by
    rw [eYy2]
    exact FR.upI hF (rfl)
  replace eYy2 : Yy2 = upI X0 131 0 (v1) := eYy2
  refine x_aload_n (i := 0) C dX0_copy_8 rfl rfl ?_
  refine x_aload_n (i := 1) C dX0_copy_9 rfl rfl ?_
  refine x_getI C fkX_X0_22 (nlt rfl) rfl dX0_copy_10 ?_
  refine x_gen (fun v3 ev3 => ?_)
  have qv3 : (0 : Int) ≤ v3 ∧ v3 ≤ (6 : Int) := by
    rw [ev3]
    exact hHy2.rF (k := 10) (i := 1) rfl rfl
  have kv3 : v3 = X0.1 10 1 := by rw [ev3, eYy2, upI_nc (by decide)]
  refine x_putI C pkX_X0_22 (nlt rfl) rfl dX0_copy_13 ?_
  refine x_gX (fun Yy4 eYy4 => ?_)
  have hHy4 : HG vX Yy4 := by
    rw [eYy4]
    exact hg_wF hHy2 (p := (0, 6)) rfl ⟨by omega, by omega⟩
  have hFy4 : FR mdKB131 X0 Yy4 := by
    rw [eYy4]
    exact FR.upI hFy2 (rfl)
  replace eYy4 : Yy4 = upI Yy2 131 1 (v3) := eYy4
  refine x_aload_n (i := 0) C dX0_copy_16 rfl rfl ?_
  refine x_aload_n (i := 1) C dX0_copy_17 rfl rfl ?_
  refine x_getL C fkX_X0_25 (nlt rfl) rfl dX0_copy_18 ?_
  refine x_genL (fun l5 el5 => ?_)
  refine x_putL C pkX_X0_25 (nlt rfl) rfl dX0_copy_21 ?_
  refine x_gX (fun Yy6 eYy6 => ?_)
  have hHy6 : HG vX Yy6 := by
    rw [eYy6]
    exact hg_wLF hHy4 (p := ((-9223372036854775808), 9223372036854775807)) rfl (l64 _)
  have hFy6 : FR mdKB131 X0 Yy6 := by
    rw [eYy6]
    exact FR.upL hFy4 (rfl)
  replace eYy6 : Yy6 = upL Yy4 131 2 (l5) := eYy6
  refine x_aload_n (i := 0) C dX0_copy_24 rfl rfl ?_
  refine x_aload_n (i := 1) C dX0_copy_25 rfl rfl ?_
  refine x_getL C fkX_X0_29 (nlt rfl) rfl dX0_copy_26 ?_
  refine x_genL (fun l7 el7 => ?_)
  refine x_putL C pkX_X0_29 (nlt rfl) rfl dX0_copy_29 ?_
  refine x_gX (fun Yy8 eYy8 => ?_)
  have hHy8 : HG vX Yy8 := by
    rw [eYy8]
    exact hg_wLF hHy6 (p := ((-9223372036854775808), 9223372036854775807)) rfl (l64 _)
  have hFy8 : FR mdKB131 X0 Yy8 := by
    rw [eYy8]
    exact FR.upL hFy6 (rfl)
  replace eYy8 : Yy8 = upL Yy6 131 3 (l7) := eYy8
  refine x_aload_n (i := 0) C dX0_copy_32 rfl rfl ?_
  refine x_aload_n (i := 1) C dX0_copy_33 rfl rfl ?_
  refine x_getI C fkX_X0_32 (nlt rfl) rfl dX0_copy_34 ?_
  refine x_gen (fun v9 ev9 => ?_)
  have qv9 : (0 : Int) ≤ v9 ∧ v9 ≤ (6 : Int) := by
    rw [ev9]
    exact hHy8.rF (k := 10) (i := 4) rfl rfl
  have kv9 : v9 = X0.1 10 4 := by rw [ev9, eYy8, upL_1, eYy6, upL_1, eYy4, upI_nc (by decide), eYy2, upI_nc (by decide)]
  refine x_putI C pkX_X0_32 (nlt rfl) rfl dX0_copy_37 ?_
  refine x_gX (fun Yy10 eYy10 => ?_)
  have hHy10 : HG vX Yy10 := by
    rw [eYy10]
    exact hg_wF hHy8 (p := (0, 6)) rfl ⟨by omega, by omega⟩
  have hFy10 : FR mdKB131 X0 Yy10 := by
    rw [eYy10]
    exact FR.upI hFy8 (rfl)
  replace eYy10 : Yy10 = upI Yy8 131 4 (v9) := eYy10
  refine x_aload_n (i := 1) C dX0_copy_40 rfl rfl ?_
  refine x_getRs (r := 11) C fkX_X0_9 (nlt rfl) rfl (HG.rR hHy10 (k := 10) (i := 5) rfl rfl) dX0_copy_41 ?_
  refine x_iconst C dX0_copy_44 ?_
  refine x_aload_n (i := 0) C dX0_copy_45 rfl rfl ?_
  refine x_getRs (r := 132) C fkX_X0_9 (nlt rfl) rfl (HG.rR hHy10 (k := 131) (i := 5) rfl rfl) dX0_copy_46 ?_
  refine x_iconst C dX0_copy_49 ?_
  refine x_bipush C dX0_copy_50 (by decide) ?_
  refine x_cpyI C cpX0_35 (nlt rfl) rfl rfl (nlt rfl) rfl rfl rfl (by omega) (by omega) (by omega) (by omega) (by omega) (nle rfl) (nle rfl) (nle rfl) (nle rfl) dX0_copy_52 ?_
  refine x_gX (fun Yy11 eYy11 => ?_)
  have hHy11 : HG vX Yy11 := by
    rw [eYy11]
    exact HG.cpI hHy10 (nlt rfl) rfl (nle rfl) (by decide +kernel)
  have hFy11 : FR mdKB131 X0 Yy11 := by
    rw [eYy11]
    exact FR.cpI hFy10 (fun _ => rfl)
  refine x_aload_n (i := 1) C dX0_copy_55 rfl rfl ?_
  refine x_getRs (r := 12) C fkX_X0_15 (nlt rfl) rfl (HG.rR hHy11 (k := 10) (i := 6) rfl rfl) dX0_copy_56 ?_
  refine x_iconst C dX0_copy_59 ?_
  refine x_aload_n (i := 0) C dX0_copy_60 rfl rfl ?_
  refine x_getRs (r := 133) C fkX_X0_15 (nlt rfl) rfl (HG.rR hHy11 (k := 131) (i := 6) rfl rfl) dX0_copy_61 ?_
  refine x_iconst C dX0_copy_64 ?_
  refine x_bipush C dX0_copy_65 (by decide) ?_
  refine x_cpyI C cpX0_35 (nlt rfl) rfl rfl (nlt rfl) rfl rfl rfl (by omega) (by omega) (by omega) (by omega) (by omega) (nle rfl) (nle rfl) (nle rfl) (nle rfl) dX0_copy_67 ?_
  refine x_gX (fun Yy12 eYy12 => ?_)
  have hHy12 : HG vX Yy12 := by
    rw [eYy12]
    exact HG.cpI hHy11 (nlt rfl) rfl (nle rfl) (by decide +kernel)
  have hFy12 : FR mdKB131 X0 Yy12 := by
    rw [eYy12]
    exact FR.cpI hFy11 (fun _ => rfl)
  exact x_vret C hQ dX0_copy_70 (⟨rfl, hHy12, hFy12, ⟨by rw [eYy12, cpI_o1 (by decide), eYy11, cpI_o1 (by decide), eYy10, upI_ne (by decide), eYy8, upL_1, eYy6, upL_1, eYy4, upI_ne (by decide), eYy2, upI_at]; omega, by rw [eYy12, cpI_o1 (by decide), eYy11, cpI_o1 (by decide), eYy10, upI_ne (by decide), eYy8, upL_1, eYy6, upL_1, eYy4, upI_at]; omega, by rw [eYy12, cpI_2, eYy11, cpI_2, eYy10, upI_2, eYy8, upL_ne (by decide), eYy6, upL_at]; rw [el5, eYy4, upI_2, eYy2, upI_2], by rw [eYy12, cpI_2, eYy11, cpI_2, eYy10, upI_2, eYy8, upL_at]; rw [el7, eYy6, upL_nc (by decide), eYy4, upI_2, eYy2, upI_2], by rw [eYy12, cpI_o1 (by decide), eYy11, cpI_o1 (by decide), eYy10, upI_at]; omega, fun j hj => ⟨by rw [eYy12, cpI_o1 (by decide), eYy11, cpI_r hj, eYy10, upI_nc (by decide), eYy8, upL_1, eYy6, upL_1, eYy4, upI_nc (by decide), eYy2, upI_nc (by decide)], by rw [eYy12, cpI_r hj, eYy11, cpI_o1 (by decide), eYy10, upI_nc (by decide), eYy8, upL_1, eYy6, upL_1, eYy4, upI_nc (by decide), eYy2, upI_nc (by decide)]⟩⟩⟩)
abbrev mdKG137 : List (Nat × Option Nat) := [(137, some 0), (138, none), (139, none)]
set_option maxHeartbeats 4000000 in
set_option maxRecDepth 100000 in
theorem c_kg137_16 {D : va_G} {ad : Nat → Nat} {cA : Nat → ClassId} {X0 : XT} (hH : HG vX X0) (hF : FR mdKG137 X0 X0) : MetX (wX D ad cA) yX2_copy cX2_copy 2 none 1 60 [.ref 137, .ref 16] X0 (fun r X1 => r = none ∧ HG vX X1 ∧ FR mdKG137 X0 X1 ∧ CPG 137 138 139 16 17 18 X0 X1) := by
  refine MetX.mk (own := RX2) (by decide +kernel) rfl (nle rfl) (fun E C hQ => ?_)
  refine Wx_lv (lv' := [(0, .ref 137), (1, .ref 16)]) rfl ?_
  refine x_aload_n (i := 0) C dX2_copy_0 rfl rfl ?_
  refine x_aload_n (i := 1) C dX2_copy_1 rfl rfl ?_
  refine x_getI C fkX_X2_19 (nlt rfl) rfl dX2_copy_2 ?_
  refine x_gen (fun v1 ev1 => ?_)
  have qv1 : (0 : Int) ≤ v1 ∧ v1 ≤ (30 : Int) := by
    rw [ev1]
    exact hH.rF (k := 16) (i := 0) rfl rfl
  refine x_putI C pkX_X2_19 (nlt rfl) rfl dX2_copy_5 ?_
  refine x_gX (fun Yy2 eYy2 => ?_)
  have hHy2 : HG vX Yy2 := by
    rw [eYy2]
    exact hg_wF hH (p := (0, 30)) rfl ⟨by omega, by omega⟩
  have hFy2 : FR mdKG137 X0 Yy2 := by
    rw [eYy2]
    exact FR.upI hF (rfl)
  replace eYy2 : Yy2 = upI X0 137 0 (v1) := eYy2
  refine x_aload_n (i := 1) C dX2_copy_8 rfl rfl ?_
  refine x_getRs (r := 17) C fkX_X2_9 (nlt rfl) rfl (HG.rR hHy2 (k := 16) (i := 1) rfl rfl) dX2_copy_9 ?_
  refine x_iconst C dX2_copy_12 ?_
  refine x_aload_n (i := 0) C dX2_copy_13 rfl rfl ?_
  refine x_getRs (r := 138) C fkX_X2_9 (nlt rfl) rfl (HG.rR hHy2 (k := 137) (i := 1) rfl rfl) dX2_copy_14 ?_
  refine x_iconst C dX2_copy_17 ?_
  refine x_bipush C dX2_copy_18 (by decide) ?_
  refine x_cpyL C cpX2_23 (nlt rfl) rfl rfl (nlt rfl) rfl rfl (by omega) (by omega) (by omega) (by omega) (by omega) (nle rfl) (nle rfl) (nle rfl) (nle rfl) dX2_copy_20 ?_
  refine x_gX (fun Yy3 eYy3 => ?_)
  have hHy3 : HG vX Yy3 := by
    rw [eYy3]
    exact HG.cpL hHy2 (nlt rfl) rfl (nle rfl) (by decide +kernel)
  have hFy3 : FR mdKG137 X0 Yy3 := by
    rw [eYy3]
    exact FR.cpL hFy2 (fun _ => rfl)
  refine x_aload_n (i := 1) C dX2_copy_23 rfl rfl ?_
  refine x_getRs (r := 18) C fkX_X2_15 (nlt rfl) rfl (HG.rR hHy3 (k := 16) (i := 2) rfl rfl) dX2_copy_24 ?_
  refine x_iconst C dX2_copy_27 ?_
  refine x_aload_n (i := 0) C dX2_copy_28 rfl rfl ?_
  refine x_getRs (r := 139) C fkX_X2_15 (nlt rfl) rfl (HG.rR hHy3 (k := 137) (i := 2) rfl rfl) dX2_copy_29 ?_
  refine x_iconst C dX2_copy_32 ?_
  refine x_bipush C dX2_copy_33 (by decide) ?_
  refine x_cpyI C cpX2_23 (nlt rfl) rfl rfl (nlt rfl) rfl rfl rfl (by omega) (by omega) (by omega) (by omega) (by omega) (nle rfl) (nle rfl) (nle rfl) (nle rfl) dX2_copy_35 ?_
  refine x_gX (fun Yy4 eYy4 => ?_)
  have hHy4 : HG vX Yy4 := by
    rw [eYy4]
    exact HG.cpI hHy3 (nlt rfl) rfl (nle rfl) (by decide +kernel)
  have hFy4 : FR mdKG137 X0 Yy4 := by
    rw [eYy4]
    exact FR.cpI hFy3 (fun _ => rfl)
  exact x_vret C hQ dX2_copy_38 (⟨rfl, hHy4, hFy4, ⟨by rw [eYy4, cpI_o1 (by decide), eYy3, cpL_1, eYy2, upI_at]; omega, fun j hj => ⟨by rw [eYy4, cpI_2, eYy3, cpL_r hj, eYy2, upI_2], by rw [eYy4, cpI_r hj, eYy3, cpL_1, eYy2, upI_nc (by decide)]⟩⟩⟩)
abbrev mdKB146 : List (Nat × Option Nat) := [(146, some 0), (146, some 1), (146, some 2), (146, some 3), (146, some 4), (147, none), (148, none)]
set_option maxHeartbeats 4000000 in
set_option maxRecDepth 100000 in
theorem c_kb146_7 {D : va_G} {ad : Nat → Nat} {cA : Nat → ClassId} {X0 : XT} (hH : HG vX X0) (hF : FR mdKB146 X0 X0) : MetX (wX D ad cA) yX0_copy cX0_copy 2 none 1 60 [.ref 146, .ref 7] X0 (fun r X1 => r = none ∧ HG vX X1 ∧ FR mdKB146 X0 X1 ∧ CPB 146 147 148 7 8 9 X0 X1) := by
  refine MetX.mk (own := RX0) (by decide +kernel) rfl (nle rfl) (fun E C hQ => ?_)
  refine Wx_lv (lv' := [(0, .ref 146), (1, .ref 7)]) rfl ?_
  refine x_aload_n (i := 0) C dX0_copy_0 rfl rfl ?_
  refine x_aload_n (i := 1) C dX0_copy_1 rfl rfl ?_
  refine x_getI C fkX_X0_18 (nlt rfl) rfl dX0_copy_2 ?_
  refine x_gen (fun v1 ev1 => ?_)
  have qv1 : (0 : Int) ≤ v1 ∧ v1 ≤ (6 : Int) := by
    rw [ev1]
    exact hH.rF (k := 7) (i := 0) rfl rfl
  refine x_putI C pkX_X0_18 (nlt rfl) rfl dX0_copy_5 ?_
  refine x_gX (fun Yy2 eYy2 => ?_)
  have hHy2 : HG vX Yy2 := by
    rw [eYy2]
    exact hg_wF hH (p := (0, 6)) rfl ⟨by omega, by omega⟩
  have hFy2 : FR mdKB146 X0 Yy2 := by
    rw [eYy2]
    exact FR.upI hF (rfl)
  replace eYy2 : Yy2 = upI X0 146 0 (v1) := eYy2
  refine x_aload_n (i := 0) C dX0_copy_8 rfl rfl ?_
  refine x_aload_n (i := 1) C dX0_copy_9 rfl rfl ?_
  refine x_getI C fkX_X0_22 (nlt rfl) rfl dX0_copy_10 ?_
  refine x_gen (fun v3 ev3 => ?_)
  have qv3 : (0 : Int) ≤ v3 ∧ v3 ≤ (6 : Int) := by
    rw [ev3]
    exact hHy2.rF (k := 7) (i := 1) rfl rfl
  have kv3 : v3 = X0.1 7 1 := by rw [ev3, eYy2, upI_nc (by decide)]
  refine x_putI C pkX_X0_22 (nlt rfl) rfl dX0_copy_13 ?_
  refine x_gX (fun Yy4 eYy4 => ?_)
  have hHy4 : HG vX Yy4 := by
    rw [eYy4]
    exact hg_wF hHy2 (p := (0, 6)) rfl ⟨by omega, by omega⟩
  have hFy4 : FR mdKB146 X0 Yy4 := by
    rw [eYy4]
    exact FR.upI hFy2 (rfl)
  replace eYy4 : Yy4 = upI Yy2 146 1 (v3) := eYy4
  refine x_aload_n (i := 0) C dX0_copy_16 rfl rfl ?_
  refine x_aload_n (i := 1) C dX0_copy_17 rfl rfl ?_
  refine x_getL C fkX_X0_25 (nlt rfl) rfl dX0_copy_18 ?_
  refine x_genL (fun l5 el5 => ?_)
  refine x_putL C pkX_X0_25 (nlt rfl) rfl dX0_copy_21 ?_
  refine x_gX (fun Yy6 eYy6 => ?_)
  have hHy6 : HG vX Yy6 := by
    rw [eYy6]
    exact hg_wLF hHy4 (p := ((-9223372036854775808), 9223372036854775807)) rfl (l64 _)
  have hFy6 : FR mdKB146 X0 Yy6 := by
    rw [eYy6]
    exact FR.upL hFy4 (rfl)
  replace eYy6 : Yy6 = upL Yy4 146 2 (l5) := eYy6
  refine x_aload_n (i := 0) C dX0_copy_24 rfl rfl ?_
  refine x_aload_n (i := 1) C dX0_copy_25 rfl rfl ?_
  refine x_getL C fkX_X0_29 (nlt rfl) rfl dX0_copy_26 ?_
  refine x_genL (fun l7 el7 => ?_)
  refine x_putL C pkX_X0_29 (nlt rfl) rfl dX0_copy_29 ?_
  refine x_gX (fun Yy8 eYy8 => ?_)
  have hHy8 : HG vX Yy8 := by
    rw [eYy8]
    exact hg_wLF hHy6 (p := ((-9223372036854775808), 9223372036854775807)) rfl (l64 _)
  have hFy8 : FR mdKB146 X0 Yy8 := by
    rw [eYy8]
    exact FR.upL hFy6 (rfl)
  replace eYy8 : Yy8 = upL Yy6 146 3 (l7) := eYy8
  refine x_aload_n (i := 0) C dX0_copy_32 rfl rfl ?_
  refine x_aload_n (i := 1) C dX0_copy_33 rfl rfl ?_
  refine x_getI C fkX_X0_32 (nlt rfl) rfl dX0_copy_34 ?_
  refine x_gen (fun v9 ev9 => ?_)
  have qv9 : (0 : Int) ≤ v9 ∧ v9 ≤ (6 : Int) := by
    rw [ev9]
    exact hHy8.rF (k := 7) (i := 4) rfl rfl
  have kv9 : v9 = X0.1 7 4 := by rw [ev9, eYy8, upL_1, eYy6, upL_1, eYy4, upI_nc (by decide), eYy2, upI_nc (by decide)]
  refine x_putI C pkX_X0_32 (nlt rfl) rfl dX0_copy_37 ?_
  refine x_gX (fun Yy10 eYy10 => ?_)
  have hHy10 : HG vX Yy10 := by
    rw [eYy10]
    exact hg_wF hHy8 (p := (0, 6)) rfl ⟨by omega, by omega⟩
  have hFy10 : FR mdKB146 X0 Yy10 := by
    rw [eYy10]
    exact FR.upI hFy8 (rfl)
  replace eYy10 : Yy10 = upI Yy8 146 4 (v9) := eYy10
  refine x_aload_n (i := 1) C dX0_copy_40 rfl rfl ?_
  refine x_getRs (r := 8) C fkX_X0_9 (nlt rfl) rfl (HG.rR hHy10 (k := 7) (i := 5) rfl rfl) dX0_copy_41 ?_
  refine x_iconst C dX0_copy_44 ?_
  refine x_aload_n (i := 0) C dX0_copy_45 rfl rfl ?_
  refine x_getRs (r := 147) C fkX_X0_9 (nlt rfl) rfl (HG.rR hHy10 (k := 146) (i := 5) rfl rfl) dX0_copy_46 ?_
  refine x_iconst C dX0_copy_49 ?_
  refine x_bipush C dX0_copy_50 (by decide) ?_
  refine x_cpyI C cpX0_35 (nlt rfl) rfl rfl (nlt rfl) rfl rfl rfl (by omega) (by omega) (by omega) (by omega) (by omega) (nle rfl) (nle rfl) (nle rfl) (nle rfl) dX0_copy_52 ?_
  refine x_gX (fun Yy11 eYy11 => ?_)
  have hHy11 : HG vX Yy11 := by
    rw [eYy11]
    exact HG.cpI hHy10 (nlt rfl) rfl (nle rfl) (by decide +kernel)
  have hFy11 : FR mdKB146 X0 Yy11 := by
    rw [eYy11]
    exact FR.cpI hFy10 (fun _ => rfl)
  refine x_aload_n (i := 1) C dX0_copy_55 rfl rfl ?_
  refine x_getRs (r := 9) C fkX_X0_15 (nlt rfl) rfl (HG.rR hHy11 (k := 7) (i := 6) rfl rfl) dX0_copy_56 ?_
  refine x_iconst C dX0_copy_59 ?_
  refine x_aload_n (i := 0) C dX0_copy_60 rfl rfl ?_
  refine x_getRs (r := 148) C fkX_X0_15 (nlt rfl) rfl (HG.rR hHy11 (k := 146) (i := 6) rfl rfl) dX0_copy_61 ?_
  refine x_iconst C dX0_copy_64 ?_
  refine x_bipush C dX0_copy_65 (by decide) ?_
  refine x_cpyI C cpX0_35 (nlt rfl) rfl rfl (nlt rfl) rfl rfl rfl (by omega) (by omega) (by omega) (by omega) (by omega) (nle rfl) (nle rfl) (nle rfl) (nle rfl) dX0_copy_67 ?_
  refine x_gX (fun Yy12 eYy12 => ?_)
  have hHy12 : HG vX Yy12 := by
    rw [eYy12]
    exact HG.cpI hHy11 (nlt rfl) rfl (nle rfl) (by decide +kernel)
  have hFy12 : FR mdKB146 X0 Yy12 := by
    rw [eYy12]
    exact FR.cpI hFy11 (fun _ => rfl)
  exact x_vret C hQ dX0_copy_70 (⟨rfl, hHy12, hFy12, ⟨by rw [eYy12, cpI_o1 (by decide), eYy11, cpI_o1 (by decide), eYy10, upI_ne (by decide), eYy8, upL_1, eYy6, upL_1, eYy4, upI_ne (by decide), eYy2, upI_at]; omega, by rw [eYy12, cpI_o1 (by decide), eYy11, cpI_o1 (by decide), eYy10, upI_ne (by decide), eYy8, upL_1, eYy6, upL_1, eYy4, upI_at]; omega, by rw [eYy12, cpI_2, eYy11, cpI_2, eYy10, upI_2, eYy8, upL_ne (by decide), eYy6, upL_at]; rw [el5, eYy4, upI_2, eYy2, upI_2], by rw [eYy12, cpI_2, eYy11, cpI_2, eYy10, upI_2, eYy8, upL_at]; rw [el7, eYy6, upL_nc (by decide), eYy4, upI_2, eYy2, upI_2], by rw [eYy12, cpI_o1 (by decide), eYy11, cpI_o1 (by decide), eYy10, upI_at]; omega, fun j hj => ⟨by rw [eYy12, cpI_o1 (by decide), eYy11, cpI_r hj, eYy10, upI_nc (by decide), eYy8, upL_1, eYy6, upL_1, eYy4, upI_nc (by decide), eYy2, upI_nc (by decide)], by rw [eYy12, cpI_r hj, eYy11, cpI_o1 (by decide), eYy10, upI_nc (by decide), eYy8, upL_1, eYy6, upL_1, eYy4, upI_nc (by decide), eYy2, upI_nc (by decide)]⟩⟩⟩)
abbrev mdKG152 : List (Nat × Option Nat) := [(152, some 0), (153, none), (154, none)]
set_option maxHeartbeats 4000000 in
set_option maxRecDepth 100000 in
theorem c_kg152_13 {D : va_G} {ad : Nat → Nat} {cA : Nat → ClassId} {X0 : XT} (hH : HG vX X0) (hF : FR mdKG152 X0 X0) : MetX (wX D ad cA) yX2_copy cX2_copy 2 none 1 60 [.ref 152, .ref 13] X0 (fun r X1 => r = none ∧ HG vX X1 ∧ FR mdKG152 X0 X1 ∧ CPG 152 153 154 13 14 15 X0 X1) := by
  refine MetX.mk (own := RX2) (by decide +kernel) rfl (nle rfl) (fun E C hQ => ?_)
  refine Wx_lv (lv' := [(0, .ref 152), (1, .ref 13)]) rfl ?_
  refine x_aload_n (i := 0) C dX2_copy_0 rfl rfl ?_
  refine x_aload_n (i := 1) C dX2_copy_1 rfl rfl ?_
  refine x_getI C fkX_X2_19 (nlt rfl) rfl dX2_copy_2 ?_
  refine x_gen (fun v1 ev1 => ?_)
  have qv1 : (0 : Int) ≤ v1 ∧ v1 ≤ (30 : Int) := by
    rw [ev1]
    exact hH.rF (k := 13) (i := 0) rfl rfl
  refine x_putI C pkX_X2_19 (nlt rfl) rfl dX2_copy_5 ?_
  refine x_gX (fun Yy2 eYy2 => ?_)
  have hHy2 : HG vX Yy2 := by
    rw [eYy2]
    exact hg_wF hH (p := (0, 30)) rfl ⟨by omega, by omega⟩
  have hFy2 : FR mdKG152 X0 Yy2 := by
    rw [eYy2]
    exact FR.upI hF (rfl)
  replace eYy2 : Yy2 = upI X0 152 0 (v1) := eYy2
  refine x_aload_n (i := 1) C dX2_copy_8 rfl rfl ?_
  refine x_getRs (r := 14) C fkX_X2_9 (nlt rfl) rfl (HG.rR hHy2 (k := 13) (i := 1) rfl rfl) dX2_copy_9 ?_
  refine x_iconst C dX2_copy_12 ?_
  refine x_aload_n (i := 0) C dX2_copy_13 rfl rfl ?_
  refine x_getRs (r := 153) C fkX_X2_9 (nlt rfl) rfl (HG.rR hHy2 (k := 152) (i := 1) rfl rfl) dX2_copy_14 ?_
  refine x_iconst C dX2_copy_17 ?_
  refine x_bipush C dX2_copy_18 (by decide) ?_
  refine x_cpyL C cpX2_23 (nlt rfl) rfl rfl (nlt rfl) rfl rfl (by omega) (by omega) (by omega) (by omega) (by omega) (nle rfl) (nle rfl) (nle rfl) (nle rfl) dX2_copy_20 ?_
  refine x_gX (fun Yy3 eYy3 => ?_)
  have hHy3 : HG vX Yy3 := by
    rw [eYy3]
    exact HG.cpL hHy2 (nlt rfl) rfl (nle rfl) (by decide +kernel)
  have hFy3 : FR mdKG152 X0 Yy3 := by
    rw [eYy3]
    exact FR.cpL hFy2 (fun _ => rfl)
  refine x_aload_n (i := 1) C dX2_copy_23 rfl rfl ?_
  refine x_getRs (r := 15) C fkX_X2_15 (nlt rfl) rfl (HG.rR hHy3 (k := 13) (i := 2) rfl rfl) dX2_copy_24 ?_
  refine x_iconst C dX2_copy_27 ?_
  refine x_aload_n (i := 0) C dX2_copy_28 rfl rfl ?_
  refine x_getRs (r := 154) C fkX_X2_15 (nlt rfl) rfl (HG.rR hHy3 (k := 152) (i := 2) rfl rfl) dX2_copy_29 ?_
  refine x_iconst C dX2_copy_32 ?_
  refine x_bipush C dX2_copy_33 (by decide) ?_
  refine x_cpyI C cpX2_23 (nlt rfl) rfl rfl (nlt rfl) rfl rfl rfl (by omega) (by omega) (by omega) (by omega) (by omega) (nle rfl) (nle rfl) (nle rfl) (nle rfl) dX2_copy_35 ?_
  refine x_gX (fun Yy4 eYy4 => ?_)
  have hHy4 : HG vX Yy4 := by
    rw [eYy4]
    exact HG.cpI hHy3 (nlt rfl) rfl (nle rfl) (by decide +kernel)
  have hFy4 : FR mdKG152 X0 Yy4 := by
    rw [eYy4]
    exact FR.cpI hFy3 (fun _ => rfl)
  exact x_vret C hQ dX2_copy_38 (⟨rfl, hHy4, hFy4, ⟨by rw [eYy4, cpI_o1 (by decide), eYy3, cpL_1, eYy2, upI_at]; omega, fun j hj => ⟨by rw [eYy4, cpI_2, eYy3, cpL_r hj, eYy2, upI_2], by rw [eYy4, cpI_r hj, eYy3, cpL_1, eYy2, upI_nc (by decide)]⟩⟩⟩)
abbrev mdKB149 : List (Nat × Option Nat) := [(149, some 0), (149, some 1), (149, some 2), (149, some 3), (149, some 4), (150, none), (151, none)]
set_option maxHeartbeats 4000000 in
set_option maxRecDepth 100000 in
theorem c_kb149_10 {D : va_G} {ad : Nat → Nat} {cA : Nat → ClassId} {X0 : XT} (hH : HG vX X0) (hF : FR mdKB149 X0 X0) : MetX (wX D ad cA) yX0_copy cX0_copy 2 none 1 60 [.ref 149, .ref 10] X0 (fun r X1 => r = none ∧ HG vX X1 ∧ FR mdKB149 X0 X1 ∧ CPB 149 150 151 10 11 12 X0 X1) := by
  refine MetX.mk (own := RX0) (by decide +kernel) rfl (nle rfl) (fun E C hQ => ?_)
  refine Wx_lv (lv' := [(0, .ref 149), (1, .ref 10)]) rfl ?_
  refine x_aload_n (i := 0) C dX0_copy_0 rfl rfl ?_
  refine x_aload_n (i := 1) C dX0_copy_1 rfl rfl ?_
  refine x_getI C fkX_X0_18 (nlt rfl) rfl dX0_copy_2 ?_
  refine x_gen (fun v1 ev1 => ?_)
  have qv1 : (0 : Int) ≤ v1 ∧ v1 ≤ (6 : Int) := by
    rw [ev1]
    exact hH.rF (k := 10) (i := 0) rfl rfl
  refine x_putI C pkX_X0_18 (nlt rfl) rfl dX0_copy_5 ?_
  refine x_gX (fun Yy2 eYy2 => ?_)
  have hHy2 : HG vX Yy2 := by
    rw [eYy2]
    exact hg_wF hH (p := (0, 6)) rfl ⟨by omega, by omega⟩
  have hFy2 : FR mdKB149 X0 Yy2 := by
    rw [eYy2]
    exact FR.upI hF (rfl)
  replace eYy2 : Yy2 = upI X0 149 0 (v1) := eYy2
  refine x_aload_n (i := 0) C dX0_copy_8 rfl rfl ?_
  refine x_aload_n (i := 1) C dX0_copy_9 rfl rfl ?_
  refine x_getI C fkX_X0_22 (nlt rfl) rfl dX0_copy_10 ?_
  refine x_gen (fun v3 ev3 => ?_)
  have qv3 : (0 : Int) ≤ v3 ∧ v3 ≤ (6 : Int) := by
    rw [ev3]
    exact hHy2.rF (k := 10) (i := 1) rfl rfl
  have kv3 : v3 = X0.1 10 1 := by rw [ev3, eYy2, upI_nc (by decide)]
  refine x_putI C pkX_X0_22 (nlt rfl) rfl dX0_copy_13 ?_
  refine x_gX (fun Yy4 eYy4 => ?_)
  have hHy4 : HG vX Yy4 := by
    rw [eYy4]
    exact hg_wF hHy2 (p := (0, 6)) rfl ⟨by omega, by omega⟩
  have hFy4 : FR mdKB149 X0 Yy4 := by
    rw [eYy4]
    exact FR.upI hFy2 (rfl)
  replace eYy4 : Yy4 = upI Yy2 149 1 (v3) := eYy4
  refine x_aload_n (i := 0) C dX0_copy_16 rfl rfl ?_
  refine x_aload_n (i := 1) C dX0_copy_17 rfl rfl ?_
  refine x_getL C fkX_X0_25 (nlt rfl) rfl dX0_copy_18 ?_
  refine x_genL (fun l5 el5 => ?_)
  refine x_putL C pkX_X0_25 (nlt rfl) rfl dX0_copy_21 ?_
  refine x_gX (fun Yy6 eYy6 => ?_)
  have hHy6 : HG vX Yy6 := by
    rw [eYy6]
    exact hg_wLF hHy4 (p := ((-9223372036854775808), 9223372036854775807)) rfl (l64 _)
  have hFy6 : FR mdKB149 X0 Yy6 := by
    rw [eYy6]
    exact FR.upL hFy4 (rfl)
  replace eYy6 : Yy6 = upL Yy4 149 2 (l5) := eYy6
  refine x_aload_n (i := 0) C dX0_copy_24 rfl rfl ?_
  refine x_aload_n (i := 1) C dX0_copy_25 rfl rfl ?_
  refine x_getL C fkX_X0_29 (nlt rfl) rfl dX0_copy_26 ?_
  refine x_genL (fun l7 el7 => ?_)
  refine x_putL C pkX_X0_29 (nlt rfl) rfl dX0_copy_29 ?_
  refine x_gX (fun Yy8 eYy8 => ?_)
  have hHy8 : HG vX Yy8 := by
    rw [eYy8]
    exact hg_wLF hHy6 (p := ((-9223372036854775808), 9223372036854775807)) rfl (l64 _)
  have hFy8 : FR mdKB149 X0 Yy8 := by
    rw [eYy8]
    exact FR.upL hFy6 (rfl)
  replace eYy8 : Yy8 = upL Yy6 149 3 (l7) := eYy8
  refine x_aload_n (i := 0) C dX0_copy_32 rfl rfl ?_
  refine x_aload_n (i := 1) C dX0_copy_33 rfl rfl ?_
  refine x_getI C fkX_X0_32 (nlt rfl) rfl dX0_copy_34 ?_
  refine x_gen (fun v9 ev9 => ?_)
  have qv9 : (0 : Int) ≤ v9 ∧ v9 ≤ (6 : Int) := by
    rw [ev9]
    exact hHy8.rF (k := 10) (i := 4) rfl rfl
  have kv9 : v9 = X0.1 10 4 := by rw [ev9, eYy8, upL_1, eYy6, upL_1, eYy4, upI_nc (by decide), eYy2, upI_nc (by decide)]
  refine x_putI C pkX_X0_32 (nlt rfl) rfl dX0_copy_37 ?_
  refine x_gX (fun Yy10 eYy10 => ?_)
  have hHy10 : HG vX Yy10 := by
    rw [eYy10]
    exact hg_wF hHy8 (p := (0, 6)) rfl ⟨by omega, by omega⟩
  have hFy10 : FR mdKB149 X0 Yy10 := by
    rw [eYy10]
    exact FR.upI hFy8 (rfl)
  replace eYy10 : Yy10 = upI Yy8 149 4 (v9) := eYy10
  refine x_aload_n (i := 1) C dX0_copy_40 rfl rfl ?_
  refine x_getRs (r := 11) C fkX_X0_9 (nlt rfl) rfl (HG.rR hHy10 (k := 10) (i := 5) rfl rfl) dX0_copy_41 ?_
  refine x_iconst C dX0_copy_44 ?_
  refine x_aload_n (i := 0) C dX0_copy_45 rfl rfl ?_
  refine x_getRs (r := 150) C fkX_X0_9 (nlt rfl) rfl (HG.rR hHy10 (k := 149) (i := 5) rfl rfl) dX0_copy_46 ?_
  refine x_iconst C dX0_copy_49 ?_
  refine x_bipush C dX0_copy_50 (by decide) ?_
  refine x_cpyI C cpX0_35 (nlt rfl) rfl rfl (nlt rfl) rfl rfl rfl (by omega) (by omega) (by omega) (by omega) (by omega) (nle rfl) (nle rfl) (nle rfl) (nle rfl) dX0_copy_52 ?_
  refine x_gX (fun Yy11 eYy11 => ?_)
  have hHy11 : HG vX Yy11 := by
    rw [eYy11]
    exact HG.cpI hHy10 (nlt rfl) rfl (nle rfl) (by decide +kernel)
  have hFy11 : FR mdKB149 X0 Yy11 := by
    rw [eYy11]
    exact FR.cpI hFy10 (fun _ => rfl)
  refine x_aload_n (i := 1) C dX0_copy_55 rfl rfl ?_
  refine x_getRs (r := 12) C fkX_X0_15 (nlt rfl) rfl (HG.rR hHy11 (k := 10) (i := 6) rfl rfl) dX0_copy_56 ?_
  refine x_iconst C dX0_copy_59 ?_
  refine x_aload_n (i := 0) C dX0_copy_60 rfl rfl ?_
  refine x_getRs (r := 151) C fkX_X0_15 (nlt rfl) rfl (HG.rR hHy11 (k := 149) (i := 6) rfl rfl) dX0_copy_61 ?_
  refine x_iconst C dX0_copy_64 ?_
  refine x_bipush C dX0_copy_65 (by decide) ?_
  refine x_cpyI C cpX0_35 (nlt rfl) rfl rfl (nlt rfl) rfl rfl rfl (by omega) (by omega) (by omega) (by omega) (by omega) (nle rfl) (nle rfl) (nle rfl) (nle rfl) dX0_copy_67 ?_
  refine x_gX (fun Yy12 eYy12 => ?_)
  have hHy12 : HG vX Yy12 := by
    rw [eYy12]
    exact HG.cpI hHy11 (nlt rfl) rfl (nle rfl) (by decide +kernel)
  have hFy12 : FR mdKB149 X0 Yy12 := by
    rw [eYy12]
    exact FR.cpI hFy11 (fun _ => rfl)
  exact x_vret C hQ dX0_copy_70 (⟨rfl, hHy12, hFy12, ⟨by rw [eYy12, cpI_o1 (by decide), eYy11, cpI_o1 (by decide), eYy10, upI_ne (by decide), eYy8, upL_1, eYy6, upL_1, eYy4, upI_ne (by decide), eYy2, upI_at]; omega, by rw [eYy12, cpI_o1 (by decide), eYy11, cpI_o1 (by decide), eYy10, upI_ne (by decide), eYy8, upL_1, eYy6, upL_1, eYy4, upI_at]; omega, by rw [eYy12, cpI_2, eYy11, cpI_2, eYy10, upI_2, eYy8, upL_ne (by decide), eYy6, upL_at]; rw [el5, eYy4, upI_2, eYy2, upI_2], by rw [eYy12, cpI_2, eYy11, cpI_2, eYy10, upI_2, eYy8, upL_at]; rw [el7, eYy6, upL_nc (by decide), eYy4, upI_2, eYy2, upI_2], by rw [eYy12, cpI_o1 (by decide), eYy11, cpI_o1 (by decide), eYy10, upI_at]; omega, fun j hj => ⟨by rw [eYy12, cpI_o1 (by decide), eYy11, cpI_r hj, eYy10, upI_nc (by decide), eYy8, upL_1, eYy6, upL_1, eYy4, upI_nc (by decide), eYy2, upI_nc (by decide)], by rw [eYy12, cpI_r hj, eYy11, cpI_o1 (by decide), eYy10, upI_nc (by decide), eYy8, upL_1, eYy6, upL_1, eYy4, upI_nc (by decide), eYy2, upI_nc (by decide)]⟩⟩⟩)
abbrev mdKG155 : List (Nat × Option Nat) := [(155, some 0), (156, none), (157, none)]
set_option maxHeartbeats 4000000 in
set_option maxRecDepth 100000 in
theorem c_kg155_16 {D : va_G} {ad : Nat → Nat} {cA : Nat → ClassId} {X0 : XT} (hH : HG vX X0) (hF : FR mdKG155 X0 X0) : MetX (wX D ad cA) yX2_copy cX2_copy 2 none 1 60 [.ref 155, .ref 16] X0 (fun r X1 => r = none ∧ HG vX X1 ∧ FR mdKG155 X0 X1 ∧ CPG 155 156 157 16 17 18 X0 X1) := by
  refine MetX.mk (own := RX2) (by decide +kernel) rfl (nle rfl) (fun E C hQ => ?_)
  refine Wx_lv (lv' := [(0, .ref 155), (1, .ref 16)]) rfl ?_
  refine x_aload_n (i := 0) C dX2_copy_0 rfl rfl ?_
  refine x_aload_n (i := 1) C dX2_copy_1 rfl rfl ?_
  refine x_getI C fkX_X2_19 (nlt rfl) rfl dX2_copy_2 ?_
  refine x_gen (fun v1 ev1 => ?_)
  have qv1 : (0 : Int) ≤ v1 ∧ v1 ≤ (30 : Int) := by
    rw [ev1]
    exact hH.rF (k := 16) (i := 0) rfl rfl
  refine x_putI C pkX_X2_19 (nlt rfl) rfl dX2_copy_5 ?_
  refine x_gX (fun Yy2 eYy2 => ?_)
  have hHy2 : HG vX Yy2 := by
    rw [eYy2]
    exact hg_wF hH (p := (0, 30)) rfl ⟨by omega, by omega⟩
  have hFy2 : FR mdKG155 X0 Yy2 := by
    rw [eYy2]
    exact FR.upI hF (rfl)
  replace eYy2 : Yy2 = upI X0 155 0 (v1) := eYy2
  refine x_aload_n (i := 1) C dX2_copy_8 rfl rfl ?_
  refine x_getRs (r := 17) C fkX_X2_9 (nlt rfl) rfl (HG.rR hHy2 (k := 16) (i := 1) rfl rfl) dX2_copy_9 ?_
  refine x_iconst C dX2_copy_12 ?_
  refine x_aload_n (i := 0) C dX2_copy_13 rfl rfl ?_
  refine x_getRs (r := 156) C fkX_X2_9 (nlt rfl) rfl (HG.rR hHy2 (k := 155) (i := 1) rfl rfl) dX2_copy_14 ?_
  refine x_iconst C dX2_copy_17 ?_
  refine x_bipush C dX2_copy_18 (by decide) ?_
  refine x_cpyL C cpX2_23 (nlt rfl) rfl rfl (nlt rfl) rfl rfl (by omega) (by omega) (by omega) (by omega) (by omega) (nle rfl) (nle rfl) (nle rfl) (nle rfl) dX2_copy_20 ?_
  refine x_gX (fun Yy3 eYy3 => ?_)
  have hHy3 : HG vX Yy3 := by
    rw [eYy3]
    exact HG.cpL hHy2 (nlt rfl) rfl (nle rfl) (by decide +kernel)
  have hFy3 : FR mdKG155 X0 Yy3 := by
    rw [eYy3]
    exact FR.cpL hFy2 (fun _ => rfl)
  refine x_aload_n (i := 1) C dX2_copy_23 rfl rfl ?_
  refine x_getRs (r := 18) C fkX_X2_15 (nlt rfl) rfl (HG.rR hHy3 (k := 16) (i := 2) rfl rfl) dX2_copy_24 ?_
  refine x_iconst C dX2_copy_27 ?_
  refine x_aload_n (i := 0) C dX2_copy_28 rfl rfl ?_
  refine x_getRs (r := 157) C fkX_X2_15 (nlt rfl) rfl (HG.rR hHy3 (k := 155) (i := 2) rfl rfl) dX2_copy_29 ?_
  refine x_iconst C dX2_copy_32 ?_
  refine x_bipush C dX2_copy_33 (by decide) ?_
  refine x_cpyI C cpX2_23 (nlt rfl) rfl rfl (nlt rfl) rfl rfl rfl (by omega) (by omega) (by omega) (by omega) (by omega) (nle rfl) (nle rfl) (nle rfl) (nle rfl) dX2_copy_35 ?_
  refine x_gX (fun Yy4 eYy4 => ?_)
  have hHy4 : HG vX Yy4 := by
    rw [eYy4]
    exact HG.cpI hHy3 (nlt rfl) rfl (nle rfl) (by decide +kernel)
  have hFy4 : FR mdKG155 X0 Yy4 := by
    rw [eYy4]
    exact FR.cpI hFy3 (fun _ => rfl)
  exact x_vret C hQ dX2_copy_38 (⟨rfl, hHy4, hFy4, ⟨by rw [eYy4, cpI_o1 (by decide), eYy3, cpL_1, eYy2, upI_at]; omega, fun j hj => ⟨by rw [eYy4, cpI_2, eYy3, cpL_r hj, eYy2, upI_2], by rw [eYy4, cpI_r hj, eYy3, cpL_1, eYy2, upI_nc (by decide)]⟩⟩⟩)
abbrev mdKB7 : List (Nat × Option Nat) := [(7, some 0), (7, some 1), (7, some 2), (7, some 3), (7, some 4), (8, none), (9, none)]
set_option maxHeartbeats 4000000 in
set_option maxRecDepth 100000 in
theorem c_kb7_110 {D : va_G} {ad : Nat → Nat} {cA : Nat → ClassId} {X0 : XT} (hH : HG vX X0) (hF : FR mdKB7 X0 X0) : MetX (wX D ad cA) yX0_copy cX0_copy 2 none 1 60 [.ref 7, .ref 110] X0 (fun r X1 => r = none ∧ HG vX X1 ∧ FR mdKB7 X0 X1 ∧ CPB 7 8 9 110 111 112 X0 X1) := by
  refine MetX.mk (own := RX0) (by decide +kernel) rfl (nle rfl) (fun E C hQ => ?_)
  refine Wx_lv (lv' := [(0, .ref 7), (1, .ref 110)]) rfl ?_
  refine x_aload_n (i := 0) C dX0_copy_0 rfl rfl ?_
  refine x_aload_n (i := 1) C dX0_copy_1 rfl rfl ?_
  refine x_getI C fkX_X0_18 (nlt rfl) rfl dX0_copy_2 ?_
  refine x_gen (fun v1 ev1 => ?_)
  have qv1 : (0 : Int) ≤ v1 ∧ v1 ≤ (6 : Int) := by
    rw [ev1]
    exact hH.rF (k := 110) (i := 0) rfl rfl
  refine x_putI C pkX_X0_18 (nlt rfl) rfl dX0_copy_5 ?_
  refine x_gX (fun Yy2 eYy2 => ?_)
  have hHy2 : HG vX Yy2 := by
    rw [eYy2]
    exact hg_wF hH (p := (0, 6)) rfl ⟨by omega, by omega⟩
  have hFy2 : FR mdKB7 X0 Yy2 := by
    rw [eYy2]
    exact FR.upI hF (rfl)
  replace eYy2 : Yy2 = upI X0 7 0 (v1) := eYy2
  refine x_aload_n (i := 0) C dX0_copy_8 rfl rfl ?_
  refine x_aload_n (i := 1) C dX0_copy_9 rfl rfl ?_
  refine x_getI C fkX_X0_22 (nlt rfl) rfl dX0_copy_10 ?_
  refine x_gen (fun v3 ev3 => ?_)
  have qv3 : (0 : Int) ≤ v3 ∧ v3 ≤ (6 : Int) := by
    rw [ev3]
    exact hHy2.rF (k := 110) (i := 1) rfl rfl
  have kv3 : v3 = X0.1 110 1 := by rw [ev3, eYy2, upI_nc (by decide)]
  refine x_putI C pkX_X0_22 (nlt rfl) rfl dX0_copy_13 ?_
  refine x_gX (fun Yy4 eYy4 => ?_)
  have hHy4 : HG vX Yy4 := by
    rw [eYy4]
    exact hg_wF hHy2 (p := (0, 6)) rfl ⟨by omega, by omega⟩
  have hFy4 : FR mdKB7 X0 Yy4 := by
    rw [eYy4]
    exact FR.upI hFy2 (rfl)
  replace eYy4 : Yy4 = upI Yy2 7 1 (v3) := eYy4
  refine x_aload_n (i := 0) C dX0_copy_16 rfl rfl ?_
  refine x_aload_n (i := 1) C dX0_copy_17 rfl rfl ?_
  refine x_getL C fkX_X0_25 (nlt rfl) rfl dX0_copy_18 ?_
  refine x_genL (fun l5 el5 => ?_)
  refine x_putL C pkX_X0_25 (nlt rfl) rfl dX0_copy_21 ?_
  refine x_gX (fun Yy6 eYy6 => ?_)
  have hHy6 : HG vX Yy6 := by
    rw [eYy6]
    exact hg_wLF hHy4 (p := ((-9223372036854775808), 9223372036854775807)) rfl (l64 _)
  have hFy6 : FR mdKB7 X0 Yy6 := by
    rw [eYy6]
    exact FR.upL hFy4 (rfl)
  replace eYy6 : Yy6 = upL Yy4 7 2 (l5) := eYy6
  refine x_aload_n (i := 0) C dX0_copy_24 rfl rfl ?_
  refine x_aload_n (i := 1) C dX0_copy_25 rfl rfl ?_
  refine x_getL C fkX_X0_29 (nlt rfl) rfl dX0_copy_26 ?_
  refine x_genL (fun l7 el7 => ?_)
  refine x_putL C pkX_X0_29 (nlt rfl) rfl dX0_copy_29 ?_
  refine x_gX (fun Yy8 eYy8 => ?_)
  have hHy8 : HG vX Yy8 := by
    rw [eYy8]
    exact hg_wLF hHy6 (p := ((-9223372036854775808), 9223372036854775807)) rfl (l64 _)
  have hFy8 : FR mdKB7 X0 Yy8 := by
    rw [eYy8]
    exact FR.upL hFy6 (rfl)
  replace eYy8 : Yy8 = upL Yy6 7 3 (l7) := eYy8
  refine x_aload_n (i := 0) C dX0_copy_32 rfl rfl ?_
  refine x_aload_n (i := 1) C dX0_copy_33 rfl rfl ?_
  refine x_getI C fkX_X0_32 (nlt rfl) rfl dX0_copy_34 ?_
  refine x_gen (fun v9 ev9 => ?_)
  have qv9 : (0 : Int) ≤ v9 ∧ v9 ≤ (6 : Int) := by
    rw [ev9]
    exact hHy8.rF (k := 110) (i := 4) rfl rfl
  have kv9 : v9 = X0.1 110 4 := by rw [ev9, eYy8, upL_1, eYy6, upL_1, eYy4, upI_nc (by decide), eYy2, upI_nc (by decide)]
  refine x_putI C pkX_X0_32 (nlt rfl) rfl dX0_copy_37 ?_
  refine x_gX (fun Yy10 eYy10 => ?_)
  have hHy10 : HG vX Yy10 := by
    rw [eYy10]
    exact hg_wF hHy8 (p := (0, 6)) rfl ⟨by omega, by omega⟩
  have hFy10 : FR mdKB7 X0 Yy10 := by
    rw [eYy10]
    exact FR.upI hFy8 (rfl)
  replace eYy10 : Yy10 = upI Yy8 7 4 (v9) := eYy10
  refine x_aload_n (i := 1) C dX0_copy_40 rfl rfl ?_
  refine x_getRs (r := 111) C fkX_X0_9 (nlt rfl) rfl (HG.rR hHy10 (k := 110) (i := 5) rfl rfl) dX0_copy_41 ?_
  refine x_iconst C dX0_copy_44 ?_
  refine x_aload_n (i := 0) C dX0_copy_45 rfl rfl ?_
  refine x_getRs (r := 8) C fkX_X0_9 (nlt rfl) rfl (HG.rR hHy10 (k := 7) (i := 5) rfl rfl) dX0_copy_46 ?_
  refine x_iconst C dX0_copy_49 ?_
  refine x_bipush C dX0_copy_50 (by decide) ?_
  refine x_cpyI C cpX0_35 (nlt rfl) rfl rfl (nlt rfl) rfl rfl rfl (by omega) (by omega) (by omega) (by omega) (by omega) (nle rfl) (nle rfl) (nle rfl) (nle rfl) dX0_copy_52 ?_
  refine x_gX (fun Yy11 eYy11 => ?_)
  have hHy11 : HG vX Yy11 := by
    rw [eYy11]
    exact HG.cpI hHy10 (nlt rfl) rfl (nle rfl) (by decide +kernel)
  have hFy11 : FR mdKB7 X0 Yy11 := by
    rw [eYy11]
    exact FR.cpI hFy10 (fun _ => rfl)
  refine x_aload_n (i := 1) C dX0_copy_55 rfl rfl ?_
  refine x_getRs (r := 112) C fkX_X0_15 (nlt rfl) rfl (HG.rR hHy11 (k := 110) (i := 6) rfl rfl) dX0_copy_56 ?_
  refine x_iconst C dX0_copy_59 ?_
  refine x_aload_n (i := 0) C dX0_copy_60 rfl rfl ?_
  refine x_getRs (r := 9) C fkX_X0_15 (nlt rfl) rfl (HG.rR hHy11 (k := 7) (i := 6) rfl rfl) dX0_copy_61 ?_
  refine x_iconst C dX0_copy_64 ?_
  refine x_bipush C dX0_copy_65 (by decide) ?_
  refine x_cpyI C cpX0_35 (nlt rfl) rfl rfl (nlt rfl) rfl rfl rfl (by omega) (by omega) (by omega) (by omega) (by omega) (nle rfl) (nle rfl) (nle rfl) (nle rfl) dX0_copy_67 ?_
  refine x_gX (fun Yy12 eYy12 => ?_)
  have hHy12 : HG vX Yy12 := by
    rw [eYy12]
    exact HG.cpI hHy11 (nlt rfl) rfl (nle rfl) (by decide +kernel)
  have hFy12 : FR mdKB7 X0 Yy12 := by
    rw [eYy12]
    exact FR.cpI hFy11 (fun _ => rfl)
  exact x_vret C hQ dX0_copy_70 (⟨rfl, hHy12, hFy12, ⟨by rw [eYy12, cpI_o1 (by decide), eYy11, cpI_o1 (by decide), eYy10, upI_ne (by decide), eYy8, upL_1, eYy6, upL_1, eYy4, upI_ne (by decide), eYy2, upI_at]; omega, by rw [eYy12, cpI_o1 (by decide), eYy11, cpI_o1 (by decide), eYy10, upI_ne (by decide), eYy8, upL_1, eYy6, upL_1, eYy4, upI_at]; omega, by rw [eYy12, cpI_2, eYy11, cpI_2, eYy10, upI_2, eYy8, upL_ne (by decide), eYy6, upL_at]; rw [el5, eYy4, upI_2, eYy2, upI_2], by rw [eYy12, cpI_2, eYy11, cpI_2, eYy10, upI_2, eYy8, upL_at]; rw [el7, eYy6, upL_nc (by decide), eYy4, upI_2, eYy2, upI_2], by rw [eYy12, cpI_o1 (by decide), eYy11, cpI_o1 (by decide), eYy10, upI_at]; omega, fun j hj => ⟨by rw [eYy12, cpI_o1 (by decide), eYy11, cpI_r hj, eYy10, upI_nc (by decide), eYy8, upL_1, eYy6, upL_1, eYy4, upI_nc (by decide), eYy2, upI_nc (by decide)], by rw [eYy12, cpI_r hj, eYy11, cpI_o1 (by decide), eYy10, upI_nc (by decide), eYy8, upL_1, eYy6, upL_1, eYy4, upI_nc (by decide), eYy2, upI_nc (by decide)]⟩⟩⟩)
abbrev mdKG13 : List (Nat × Option Nat) := [(13, some 0), (14, none), (15, none)]
set_option maxHeartbeats 4000000 in
set_option maxRecDepth 100000 in
theorem c_kg13_116 {D : va_G} {ad : Nat → Nat} {cA : Nat → ClassId} {X0 : XT} (hH : HG vX X0) (hF : FR mdKG13 X0 X0) : MetX (wX D ad cA) yX2_copy cX2_copy 2 none 1 60 [.ref 13, .ref 116] X0 (fun r X1 => r = none ∧ HG vX X1 ∧ FR mdKG13 X0 X1 ∧ CPG 13 14 15 116 117 118 X0 X1) := by
  refine MetX.mk (own := RX2) (by decide +kernel) rfl (nle rfl) (fun E C hQ => ?_)
  refine Wx_lv (lv' := [(0, .ref 13), (1, .ref 116)]) rfl ?_
  refine x_aload_n (i := 0) C dX2_copy_0 rfl rfl ?_
  refine x_aload_n (i := 1) C dX2_copy_1 rfl rfl ?_
  refine x_getI C fkX_X2_19 (nlt rfl) rfl dX2_copy_2 ?_
  refine x_gen (fun v1 ev1 => ?_)
  have qv1 : (0 : Int) ≤ v1 ∧ v1 ≤ (30 : Int) := by
    rw [ev1]
    exact hH.rF (k := 116) (i := 0) rfl rfl
  refine x_putI C pkX_X2_19 (nlt rfl) rfl dX2_copy_5 ?_
  refine x_gX (fun Yy2 eYy2 => ?_)
  have hHy2 : HG vX Yy2 := by
    rw [eYy2]
    exact hg_wF hH (p := (0, 30)) rfl ⟨by omega, by omega⟩
  have hFy2 : FR mdKG13 X0 Yy2 := by
    rw [eYy2]
    exact FR.upI hF (rfl)
  replace eYy2 : Yy2 = upI X0 13 0 (v1) := eYy2
  refine x_aload_n (i := 1) C dX2_copy_8 rfl rfl ?_
  refine x_getRs (r := 117) C fkX_X2_9 (nlt rfl) rfl (HG.rR hHy2 (k := 116) (i := 1) rfl rfl) dX2_copy_9 ?_
  refine x_iconst C dX2_copy_12 ?_
  refine x_aload_n (i := 0) C dX2_copy_13 rfl rfl ?_
  refine x_getRs (r := 14) C fkX_X2_9 (nlt rfl) rfl (HG.rR hHy2 (k := 13) (i := 1) rfl rfl) dX2_copy_14 ?_
  refine x_iconst C dX2_copy_17 ?_
  refine x_bipush C dX2_copy_18 (by decide) ?_
  refine x_cpyL C cpX2_23 (nlt rfl) rfl rfl (nlt rfl) rfl rfl (by omega) (by omega) (by omega) (by omega) (by omega) (nle rfl) (nle rfl) (nle rfl) (nle rfl) dX2_copy_20 ?_
  refine x_gX (fun Yy3 eYy3 => ?_)
  have hHy3 : HG vX Yy3 := by
    rw [eYy3]
    exact HG.cpL hHy2 (nlt rfl) rfl (nle rfl) (by decide +kernel)
  have hFy3 : FR mdKG13 X0 Yy3 := by
    rw [eYy3]
    exact FR.cpL hFy2 (fun _ => rfl)
  refine x_aload_n (i := 1) C dX2_copy_23 rfl rfl ?_
  refine x_getRs (r := 118) C fkX_X2_15 (nlt rfl) rfl (HG.rR hHy3 (k := 116) (i := 2) rfl rfl) dX2_copy_24 ?_
  refine x_iconst C dX2_copy_27 ?_
  refine x_aload_n (i := 0) C dX2_copy_28 rfl rfl ?_
  refine x_getRs (r := 15) C fkX_X2_15 (nlt rfl) rfl (HG.rR hHy3 (k := 13) (i := 2) rfl rfl) dX2_copy_29 ?_
  refine x_iconst C dX2_copy_32 ?_
  refine x_bipush C dX2_copy_33 (by decide) ?_
  refine x_cpyI C cpX2_23 (nlt rfl) rfl rfl (nlt rfl) rfl rfl rfl (by omega) (by omega) (by omega) (by omega) (by omega) (nle rfl) (nle rfl) (nle rfl) (nle rfl) dX2_copy_35 ?_
  refine x_gX (fun Yy4 eYy4 => ?_)
  have hHy4 : HG vX Yy4 := by
    rw [eYy4]
    exact HG.cpI hHy3 (nlt rfl) rfl (nle rfl) (by decide +kernel)
  have hFy4 : FR mdKG13 X0 Yy4 := by
    rw [eYy4]
    exact FR.cpI hFy3 (fun _ => rfl)
  exact x_vret C hQ dX2_copy_38 (⟨rfl, hHy4, hFy4, ⟨by rw [eYy4, cpI_o1 (by decide), eYy3, cpL_1, eYy2, upI_at]; omega, fun j hj => ⟨by rw [eYy4, cpI_2, eYy3, cpL_r hj, eYy2, upI_2], by rw [eYy4, cpI_r hj, eYy3, cpL_1, eYy2, upI_nc (by decide)]⟩⟩⟩)
abbrev mdKB10 : List (Nat × Option Nat) := [(10, some 0), (10, some 1), (10, some 2), (10, some 3), (10, some 4), (11, none), (12, none)]
set_option maxHeartbeats 4000000 in
set_option maxRecDepth 100000 in
theorem c_kb10_113 {D : va_G} {ad : Nat → Nat} {cA : Nat → ClassId} {X0 : XT} (hH : HG vX X0) (hF : FR mdKB10 X0 X0) : MetX (wX D ad cA) yX0_copy cX0_copy 2 none 1 60 [.ref 10, .ref 113] X0 (fun r X1 => r = none ∧ HG vX X1 ∧ FR mdKB10 X0 X1 ∧ CPB 10 11 12 113 114 115 X0 X1) := by
  refine MetX.mk (own := RX0) (by decide +kernel) rfl (nle rfl) (fun E C hQ => ?_)
  refine Wx_lv (lv' := [(0, .ref 10), (1, .ref 113)]) rfl ?_
  refine x_aload_n (i := 0) C dX0_copy_0 rfl rfl ?_
  refine x_aload_n (i := 1) C dX0_copy_1 rfl rfl ?_
  refine x_getI C fkX_X0_18 (nlt rfl) rfl dX0_copy_2 ?_
  refine x_gen (fun v1 ev1 => ?_)
  have qv1 : (0 : Int) ≤ v1 ∧ v1 ≤ (6 : Int) := by
    rw [ev1]
    exact hH.rF (k := 113) (i := 0) rfl rfl
  refine x_putI C pkX_X0_18 (nlt rfl) rfl dX0_copy_5 ?_
  refine x_gX (fun Yy2 eYy2 => ?_)
  have hHy2 : HG vX Yy2 := by
    rw [eYy2]
    exact hg_wF hH (p := (0, 6)) rfl ⟨by omega, by omega⟩
  have hFy2 : FR mdKB10 X0 Yy2 := by
    rw [eYy2]
    exact FR.upI hF (rfl)
  replace eYy2 : Yy2 = upI X0 10 0 (v1) := eYy2
  refine x_aload_n (i := 0) C dX0_copy_8 rfl rfl ?_
  refine x_aload_n (i := 1) C dX0_copy_9 rfl rfl ?_
  refine x_getI C fkX_X0_22 (nlt rfl) rfl dX0_copy_10 ?_
  refine x_gen (fun v3 ev3 => ?_)
  have qv3 : (0 : Int) ≤ v3 ∧ v3 ≤ (6 : Int) := by
    rw [ev3]
    exact hHy2.rF (k := 113) (i := 1) rfl rfl
  have kv3 : v3 = X0.1 113 1 := by rw [ev3, eYy2, upI_nc (by decide)]
  refine x_putI C pkX_X0_22 (nlt rfl) rfl dX0_copy_13 ?_
  refine x_gX (fun Yy4 eYy4 => ?_)
  have hHy4 : HG vX Yy4 := by
    rw [eYy4]
    exact hg_wF hHy2 (p := (0, 6)) rfl ⟨by omega, by omega⟩
  have hFy4 : FR mdKB10 X0 Yy4 := by
    rw [eYy4]
    exact FR.upI hFy2 (rfl)
  replace eYy4 : Yy4 = upI Yy2 10 1 (v3) := eYy4
  refine x_aload_n (i := 0) C dX0_copy_16 rfl rfl ?_
  refine x_aload_n (i := 1) C dX0_copy_17 rfl rfl ?_
  refine x_getL C fkX_X0_25 (nlt rfl) rfl dX0_copy_18 ?_
  refine x_genL (fun l5 el5 => ?_)
  refine x_putL C pkX_X0_25 (nlt rfl) rfl dX0_copy_21 ?_
  refine x_gX (fun Yy6 eYy6 => ?_)
  have hHy6 : HG vX Yy6 := by
    rw [eYy6]
    exact hg_wLF hHy4 (p := ((-9223372036854775808), 9223372036854775807)) rfl (l64 _)
  have hFy6 : FR mdKB10 X0 Yy6 := by
    rw [eYy6]
    exact FR.upL hFy4 (rfl)
  replace eYy6 : Yy6 = upL Yy4 10 2 (l5) := eYy6
  refine x_aload_n (i := 0) C dX0_copy_24 rfl rfl ?_
  refine x_aload_n (i := 1) C dX0_copy_25 rfl rfl ?_
  refine x_getL C fkX_X0_29 (nlt rfl) rfl dX0_copy_26 ?_
  refine x_genL (fun l7 el7 => ?_)
  refine x_putL C pkX_X0_29 (nlt rfl) rfl dX0_copy_29 ?_
  refine x_gX (fun Yy8 eYy8 => ?_)
  have hHy8 : HG vX Yy8 := by
    rw [eYy8]
    exact hg_wLF hHy6 (p := ((-9223372036854775808), 9223372036854775807)) rfl (l64 _)
  have hFy8 : FR mdKB10 X0 Yy8 := by
    rw [eYy8]
    exact FR.upL hFy6 (rfl)
  replace eYy8 : Yy8 = upL Yy6 10 3 (l7) := eYy8
  refine x_aload_n (i := 0) C dX0_copy_32 rfl rfl ?_
  refine x_aload_n (i := 1) C dX0_copy_33 rfl rfl ?_
  refine x_getI C fkX_X0_32 (nlt rfl) rfl dX0_copy_34 ?_
  refine x_gen (fun v9 ev9 => ?_)
  have qv9 : (0 : Int) ≤ v9 ∧ v9 ≤ (6 : Int) := by
    rw [ev9]
    exact hHy8.rF (k := 113) (i := 4) rfl rfl
  have kv9 : v9 = X0.1 113 4 := by rw [ev9, eYy8, upL_1, eYy6, upL_1, eYy4, upI_nc (by decide), eYy2, upI_nc (by decide)]
  refine x_putI C pkX_X0_32 (nlt rfl) rfl dX0_copy_37 ?_
  refine x_gX (fun Yy10 eYy10 => ?_)
  have hHy10 : HG vX Yy10 := by
    rw [eYy10]
    exact hg_wF hHy8 (p := (0, 6)) rfl ⟨by omega, by omega⟩
  have hFy10 : FR mdKB10 X0 Yy10 := by
    rw [eYy10]
    exact FR.upI hFy8 (rfl)
  replace eYy10 : Yy10 = upI Yy8 10 4 (v9) := eYy10
  refine x_aload_n (i := 1) C dX0_copy_40 rfl rfl ?_
  refine x_getRs (r := 114) C fkX_X0_9 (nlt rfl) rfl (HG.rR hHy10 (k := 113) (i := 5) rfl rfl) dX0_copy_41 ?_
  refine x_iconst C dX0_copy_44 ?_
  refine x_aload_n (i := 0) C dX0_copy_45 rfl rfl ?_
  refine x_getRs (r := 11) C fkX_X0_9 (nlt rfl) rfl (HG.rR hHy10 (k := 10) (i := 5) rfl rfl) dX0_copy_46 ?_
  refine x_iconst C dX0_copy_49 ?_
  refine x_bipush C dX0_copy_50 (by decide) ?_
  refine x_cpyI C cpX0_35 (nlt rfl) rfl rfl (nlt rfl) rfl rfl rfl (by omega) (by omega) (by omega) (by omega) (by omega) (nle rfl) (nle rfl) (nle rfl) (nle rfl) dX0_copy_52 ?_
  refine x_gX (fun Yy11 eYy11 => ?_)
  have hHy11 : HG vX Yy11 := by
    rw [eYy11]
    exact HG.cpI hHy10 (nlt rfl) rfl (nle rfl) (by decide +kernel)
  have hFy11 : FR mdKB10 X0 Yy11 := by
    rw [eYy11]
    exact FR.cpI hFy10 (fun _ => rfl)
  refine x_aload_n (i := 1) C dX0_copy_55 rfl rfl ?_
  refine x_getRs (r := 115) C fkX_X0_15 (nlt rfl) rfl (HG.rR hHy11 (k := 113) (i := 6) rfl rfl) dX0_copy_56 ?_
  refine x_iconst C dX0_copy_59 ?_
  refine x_aload_n (i := 0) C dX0_copy_60 rfl rfl ?_
  refine x_getRs (r := 12) C fkX_X0_15 (nlt rfl) rfl (HG.rR hHy11 (k := 10) (i := 6) rfl rfl) dX0_copy_61 ?_
  refine x_iconst C dX0_copy_64 ?_
  refine x_bipush C dX0_copy_65 (by decide) ?_
  refine x_cpyI C cpX0_35 (nlt rfl) rfl rfl (nlt rfl) rfl rfl rfl (by omega) (by omega) (by omega) (by omega) (by omega) (nle rfl) (nle rfl) (nle rfl) (nle rfl) dX0_copy_67 ?_
  refine x_gX (fun Yy12 eYy12 => ?_)
  have hHy12 : HG vX Yy12 := by
    rw [eYy12]
    exact HG.cpI hHy11 (nlt rfl) rfl (nle rfl) (by decide +kernel)
  have hFy12 : FR mdKB10 X0 Yy12 := by
    rw [eYy12]
    exact FR.cpI hFy11 (fun _ => rfl)
  exact x_vret C hQ dX0_copy_70 (⟨rfl, hHy12, hFy12, ⟨by rw [eYy12, cpI_o1 (by decide), eYy11, cpI_o1 (by decide), eYy10, upI_ne (by decide), eYy8, upL_1, eYy6, upL_1, eYy4, upI_ne (by decide), eYy2, upI_at]; omega, by rw [eYy12, cpI_o1 (by decide), eYy11, cpI_o1 (by decide), eYy10, upI_ne (by decide), eYy8, upL_1, eYy6, upL_1, eYy4, upI_at]; omega, by rw [eYy12, cpI_2, eYy11, cpI_2, eYy10, upI_2, eYy8, upL_ne (by decide), eYy6, upL_at]; rw [el5, eYy4, upI_2, eYy2, upI_2], by rw [eYy12, cpI_2, eYy11, cpI_2, eYy10, upI_2, eYy8, upL_at]; rw [el7, eYy6, upL_nc (by decide), eYy4, upI_2, eYy2, upI_2], by rw [eYy12, cpI_o1 (by decide), eYy11, cpI_o1 (by decide), eYy10, upI_at]; omega, fun j hj => ⟨by rw [eYy12, cpI_o1 (by decide), eYy11, cpI_r hj, eYy10, upI_nc (by decide), eYy8, upL_1, eYy6, upL_1, eYy4, upI_nc (by decide), eYy2, upI_nc (by decide)], by rw [eYy12, cpI_r hj, eYy11, cpI_o1 (by decide), eYy10, upI_nc (by decide), eYy8, upL_1, eYy6, upL_1, eYy4, upI_nc (by decide), eYy2, upI_nc (by decide)]⟩⟩⟩)
abbrev mdKG16 : List (Nat × Option Nat) := [(16, some 0), (17, none), (18, none)]
set_option maxHeartbeats 4000000 in
set_option maxRecDepth 100000 in
theorem c_kg16_119 {D : va_G} {ad : Nat → Nat} {cA : Nat → ClassId} {X0 : XT} (hH : HG vX X0) (hF : FR mdKG16 X0 X0) : MetX (wX D ad cA) yX2_copy cX2_copy 2 none 1 60 [.ref 16, .ref 119] X0 (fun r X1 => r = none ∧ HG vX X1 ∧ FR mdKG16 X0 X1 ∧ CPG 16 17 18 119 120 121 X0 X1) := by
  refine MetX.mk (own := RX2) (by decide +kernel) rfl (nle rfl) (fun E C hQ => ?_)
  refine Wx_lv (lv' := [(0, .ref 16), (1, .ref 119)]) rfl ?_
  refine x_aload_n (i := 0) C dX2_copy_0 rfl rfl ?_
  refine x_aload_n (i := 1) C dX2_copy_1 rfl rfl ?_
  refine x_getI C fkX_X2_19 (nlt rfl) rfl dX2_copy_2 ?_
  refine x_gen (fun v1 ev1 => ?_)
  have qv1 : (0 : Int) ≤ v1 ∧ v1 ≤ (30 : Int) := by
    rw [ev1]
    exact hH.rF (k := 119) (i := 0) rfl rfl
  refine x_putI C pkX_X2_19 (nlt rfl) rfl dX2_copy_5 ?_
  refine x_gX (fun Yy2 eYy2 => ?_)
  have hHy2 : HG vX Yy2 := by
    rw [eYy2]
    exact hg_wF hH (p := (0, 30)) rfl ⟨by omega, by omega⟩
  have hFy2 : FR mdKG16 X0 Yy2 := by
    rw [eYy2]
    exact FR.upI hF (rfl)
  replace eYy2 : Yy2 = upI X0 16 0 (v1) := eYy2
  refine x_aload_n (i := 1) C dX2_copy_8 rfl rfl ?_
  refine x_getRs (r := 120) C fkX_X2_9 (nlt rfl) rfl (HG.rR hHy2 (k := 119) (i := 1) rfl rfl) dX2_copy_9 ?_
  refine x_iconst C dX2_copy_12 ?_
  refine x_aload_n (i := 0) C dX2_copy_13 rfl rfl ?_
  refine x_getRs (r := 17) C fkX_X2_9 (nlt rfl) rfl (HG.rR hHy2 (k := 16) (i := 1) rfl rfl) dX2_copy_14 ?_
  refine x_iconst C dX2_copy_17 ?_
  refine x_bipush C dX2_copy_18 (by decide) ?_
  refine x_cpyL C cpX2_23 (nlt rfl) rfl rfl (nlt rfl) rfl rfl (by omega) (by omega) (by omega) (by omega) (by omega) (nle rfl) (nle rfl) (nle rfl) (nle rfl) dX2_copy_20 ?_
  refine x_gX (fun Yy3 eYy3 => ?_)
  have hHy3 : HG vX Yy3 := by
    rw [eYy3]
    exact HG.cpL hHy2 (nlt rfl) rfl (nle rfl) (by decide +kernel)
  have hFy3 : FR mdKG16 X0 Yy3 := by
    rw [eYy3]
    exact FR.cpL hFy2 (fun _ => rfl)
  refine x_aload_n (i := 1) C dX2_copy_23 rfl rfl ?_
  refine x_getRs (r := 121) C fkX_X2_15 (nlt rfl) rfl (HG.rR hHy3 (k := 119) (i := 2) rfl rfl) dX2_copy_24 ?_
  refine x_iconst C dX2_copy_27 ?_
  refine x_aload_n (i := 0) C dX2_copy_28 rfl rfl ?_
  refine x_getRs (r := 18) C fkX_X2_15 (nlt rfl) rfl (HG.rR hHy3 (k := 16) (i := 2) rfl rfl) dX2_copy_29 ?_
  refine x_iconst C dX2_copy_32 ?_
  refine x_bipush C dX2_copy_33 (by decide) ?_
  refine x_cpyI C cpX2_23 (nlt rfl) rfl rfl (nlt rfl) rfl rfl rfl (by omega) (by omega) (by omega) (by omega) (by omega) (nle rfl) (nle rfl) (nle rfl) (nle rfl) dX2_copy_35 ?_
  refine x_gX (fun Yy4 eYy4 => ?_)
  have hHy4 : HG vX Yy4 := by
    rw [eYy4]
    exact HG.cpI hHy3 (nlt rfl) rfl (nle rfl) (by decide +kernel)
  have hFy4 : FR mdKG16 X0 Yy4 := by
    rw [eYy4]
    exact FR.cpI hFy3 (fun _ => rfl)
  exact x_vret C hQ dX2_copy_38 (⟨rfl, hHy4, hFy4, ⟨by rw [eYy4, cpI_o1 (by decide), eYy3, cpL_1, eYy2, upI_at]; omega, fun j hj => ⟨by rw [eYy4, cpI_2, eYy3, cpL_r hj, eYy2, upI_2], by rw [eYy4, cpI_r hj, eYy3, cpL_1, eYy2, upI_nc (by decide)]⟩⟩⟩)
set_option maxHeartbeats 4000000 in
set_option maxRecDepth 100000 in
theorem c_kb7_128 {D : va_G} {ad : Nat → Nat} {cA : Nat → ClassId} {X0 : XT} (hH : HG vX X0) (hF : FR mdKB7 X0 X0) : MetX (wX D ad cA) yX0_copy cX0_copy 2 none 1 60 [.ref 7, .ref 128] X0 (fun r X1 => r = none ∧ HG vX X1 ∧ FR mdKB7 X0 X1 ∧ CPB 7 8 9 128 129 130 X0 X1) := by
  refine MetX.mk (own := RX0) (by decide +kernel) rfl (nle rfl) (fun E C hQ => ?_)
  refine Wx_lv (lv' := [(0, .ref 7), (1, .ref 128)]) rfl ?_
  refine x_aload_n (i := 0) C dX0_copy_0 rfl rfl ?_
  refine x_aload_n (i := 1) C dX0_copy_1 rfl rfl ?_
  refine x_getI C fkX_X0_18 (nlt rfl) rfl dX0_copy_2 ?_
  refine x_gen (fun v1 ev1 => ?_)
  have qv1 : (0 : Int) ≤ v1 ∧ v1 ≤ (6 : Int) := by
    rw [ev1]
    exact hH.rF (k := 128) (i := 0) rfl rfl
  refine x_putI C pkX_X0_18 (nlt rfl) rfl dX0_copy_5 ?_
  refine x_gX (fun Yy2 eYy2 => ?_)
  have hHy2 : HG vX Yy2 := by
    rw [eYy2]
    exact hg_wF hH (p := (0, 6)) rfl ⟨by omega, by omega⟩
  have hFy2 : FR mdKB7 X0 Yy2 := by
    rw [eYy2]
    exact FR.upI hF (rfl)
  replace eYy2 : Yy2 = upI X0 7 0 (v1) := eYy2
  refine x_aload_n (i := 0) C dX0_copy_8 rfl rfl ?_
  refine x_aload_n (i := 1) C dX0_copy_9 rfl rfl ?_
  refine x_getI C fkX_X0_22 (nlt rfl) rfl dX0_copy_10 ?_
  refine x_gen (fun v3 ev3 => ?_)
  have qv3 : (0 : Int) ≤ v3 ∧ v3 ≤ (6 : Int) := by
    rw [ev3]
    exact hHy2.rF (k := 128) (i := 1) rfl rfl
  have kv3 : v3 = X0.1 128 1 := by rw [ev3, eYy2, upI_nc (by decide)]
  refine x_putI C pkX_X0_22 (nlt rfl) rfl dX0_copy_13 ?_
  refine x_gX (fun Yy4 eYy4 => ?_)
  have hHy4 : HG vX Yy4 := by
    rw [eYy4]
    exact hg_wF hHy2 (p := (0, 6)) rfl ⟨by omega, by omega⟩
  have hFy4 : FR mdKB7 X0 Yy4 := by
    rw [eYy4]
    exact FR.upI hFy2 (rfl)
  replace eYy4 : Yy4 = upI Yy2 7 1 (v3) := eYy4
  refine x_aload_n (i := 0) C dX0_copy_16 rfl rfl ?_
  refine x_aload_n (i := 1) C dX0_copy_17 rfl rfl ?_
  refine x_getL C fkX_X0_25 (nlt rfl) rfl dX0_copy_18 ?_
  refine x_genL (fun l5 el5 => ?_)
  refine x_putL C pkX_X0_25 (nlt rfl) rfl dX0_copy_21 ?_
  refine x_gX (fun Yy6 eYy6 => ?_)
  have hHy6 : HG vX Yy6 := by
    rw [eYy6]
    exact hg_wLF hHy4 (p := ((-9223372036854775808), 9223372036854775807)) rfl (l64 _)
  have hFy6 : FR mdKB7 X0 Yy6 := by
    rw [eYy6]
    exact FR.upL hFy4 (rfl)
  replace eYy6 : Yy6 = upL Yy4 7 2 (l5) := eYy6
  refine x_aload_n (i := 0) C dX0_copy_24 rfl rfl ?_
  refine x_aload_n (i := 1) C dX0_copy_25 rfl rfl ?_
  refine x_getL C fkX_X0_29 (nlt rfl) rfl dX0_copy_26 ?_
  refine x_genL (fun l7 el7 => ?_)
  refine x_putL C pkX_X0_29 (nlt rfl) rfl dX0_copy_29 ?_
  refine x_gX (fun Yy8 eYy8 => ?_)
  have hHy8 : HG vX Yy8 := by
    rw [eYy8]
    exact hg_wLF hHy6 (p := ((-9223372036854775808), 9223372036854775807)) rfl (l64 _)
  have hFy8 : FR mdKB7 X0 Yy8 := by
    rw [eYy8]
    exact FR.upL hFy6 (rfl)
  replace eYy8 : Yy8 = upL Yy6 7 3 (l7) := eYy8
  refine x_aload_n (i := 0) C dX0_copy_32 rfl rfl ?_
  refine x_aload_n (i := 1) C dX0_copy_33 rfl rfl ?_
  refine x_getI C fkX_X0_32 (nlt rfl) rfl dX0_copy_34 ?_
  refine x_gen (fun v9 ev9 => ?_)
  have qv9 : (0 : Int) ≤ v9 ∧ v9 ≤ (6 : Int) := by
    rw [ev9]
    exact hHy8.rF (k := 128) (i := 4) rfl rfl
  have kv9 : v9 = X0.1 128 4 := by rw [ev9, eYy8, upL_1, eYy6, upL_1, eYy4, upI_nc (by decide), eYy2, upI_nc (by decide)]
  refine x_putI C pkX_X0_32 (nlt rfl) rfl dX0_copy_37 ?_
  refine x_gX (fun Yy10 eYy10 => ?_)
  have hHy10 : HG vX Yy10 := by
    rw [eYy10]
    exact hg_wF hHy8 (p := (0, 6)) rfl ⟨by omega, by omega⟩
  have hFy10 : FR mdKB7 X0 Yy10 := by
    rw [eYy10]
    exact FR.upI hFy8 (rfl)
  replace eYy10 : Yy10 = upI Yy8 7 4 (v9) := eYy10
  refine x_aload_n (i := 1) C dX0_copy_40 rfl rfl ?_
  refine x_getRs (r := 129) C fkX_X0_9 (nlt rfl) rfl (HG.rR hHy10 (k := 128) (i := 5) rfl rfl) dX0_copy_41 ?_
  refine x_iconst C dX0_copy_44 ?_
  refine x_aload_n (i := 0) C dX0_copy_45 rfl rfl ?_
  refine x_getRs (r := 8) C fkX_X0_9 (nlt rfl) rfl (HG.rR hHy10 (k := 7) (i := 5) rfl rfl) dX0_copy_46 ?_
  refine x_iconst C dX0_copy_49 ?_
  refine x_bipush C dX0_copy_50 (by decide) ?_
  refine x_cpyI C cpX0_35 (nlt rfl) rfl rfl (nlt rfl) rfl rfl rfl (by omega) (by omega) (by omega) (by omega) (by omega) (nle rfl) (nle rfl) (nle rfl) (nle rfl) dX0_copy_52 ?_
  refine x_gX (fun Yy11 eYy11 => ?_)
  have hHy11 : HG vX Yy11 := by
    rw [eYy11]
    exact HG.cpI hHy10 (nlt rfl) rfl (nle rfl) (by decide +kernel)
  have hFy11 : FR mdKB7 X0 Yy11 := by
    rw [eYy11]
    exact FR.cpI hFy10 (fun _ => rfl)
  refine x_aload_n (i := 1) C dX0_copy_55 rfl rfl ?_
  refine x_getRs (r := 130) C fkX_X0_15 (nlt rfl) rfl (HG.rR hHy11 (k := 128) (i := 6) rfl rfl) dX0_copy_56 ?_
  refine x_iconst C dX0_copy_59 ?_
  refine x_aload_n (i := 0) C dX0_copy_60 rfl rfl ?_
  refine x_getRs (r := 9) C fkX_X0_15 (nlt rfl) rfl (HG.rR hHy11 (k := 7) (i := 6) rfl rfl) dX0_copy_61 ?_
  refine x_iconst C dX0_copy_64 ?_
  refine x_bipush C dX0_copy_65 (by decide) ?_
  refine x_cpyI C cpX0_35 (nlt rfl) rfl rfl (nlt rfl) rfl rfl rfl (by omega) (by omega) (by omega) (by omega) (by omega) (nle rfl) (nle rfl) (nle rfl) (nle rfl) dX0_copy_67 ?_
  refine x_gX (fun Yy12 eYy12 => ?_)
  have hHy12 : HG vX Yy12 := by
    rw [eYy12]
    exact HG.cpI hHy11 (nlt rfl) rfl (nle rfl) (by decide +kernel)
  have hFy12 : FR mdKB7 X0 Yy12 := by
    rw [eYy12]
    exact FR.cpI hFy11 (fun _ => rfl)
  exact x_vret C hQ dX0_copy_70 (⟨rfl, hHy12, hFy12, ⟨by rw [eYy12, cpI_o1 (by decide), eYy11, cpI_o1 (by decide), eYy10, upI_ne (by decide), eYy8, upL_1, eYy6, upL_1, eYy4, upI_ne (by decide), eYy2, upI_at]; omega, by rw [eYy12, cpI_o1 (by decide), eYy11, cpI_o1 (by decide), eYy10, upI_ne (by decide), eYy8, upL_1, eYy6, upL_1, eYy4, upI_at]; omega, by rw [eYy12, cpI_2, eYy11, cpI_2, eYy10, upI_2, eYy8, upL_ne (by decide), eYy6, upL_at]; rw [el5, eYy4, upI_2, eYy2, upI_2], by rw [eYy12, cpI_2, eYy11, cpI_2, eYy10, upI_2, eYy8, upL_at]; rw [el7, eYy6, upL_nc (by decide), eYy4, upI_2, eYy2, upI_2], by rw [eYy12, cpI_o1 (by decide), eYy11, cpI_o1 (by decide), eYy10, upI_at]; omega, fun j hj => ⟨by rw [eYy12, cpI_o1 (by decide), eYy11, cpI_r hj, eYy10, upI_nc (by decide), eYy8, upL_1, eYy6, upL_1, eYy4, upI_nc (by decide), eYy2, upI_nc (by decide)], by rw [eYy12, cpI_r hj, eYy11, cpI_o1 (by decide), eYy10, upI_nc (by decide), eYy8, upL_1, eYy6, upL_1, eYy4, upI_nc (by decide), eYy2, upI_nc (by decide)]⟩⟩⟩)
set_option maxHeartbeats 4000000 in
set_option maxRecDepth 100000 in
theorem c_kg13_134 {D : va_G} {ad : Nat → Nat} {cA : Nat → ClassId} {X0 : XT} (hH : HG vX X0) (hF : FR mdKG13 X0 X0) : MetX (wX D ad cA) yX2_copy cX2_copy 2 none 1 60 [.ref 13, .ref 134] X0 (fun r X1 => r = none ∧ HG vX X1 ∧ FR mdKG13 X0 X1 ∧ CPG 13 14 15 134 135 136 X0 X1) := by
  refine MetX.mk (own := RX2) (by decide +kernel) rfl (nle rfl) (fun E C hQ => ?_)
  refine Wx_lv (lv' := [(0, .ref 13), (1, .ref 134)]) rfl ?_
  refine x_aload_n (i := 0) C dX2_copy_0 rfl rfl ?_
  refine x_aload_n (i := 1) C dX2_copy_1 rfl rfl ?_
  refine x_getI C fkX_X2_19 (nlt rfl) rfl dX2_copy_2 ?_
  refine x_gen (fun v1 ev1 => ?_)
  have qv1 : (0 : Int) ≤ v1 ∧ v1 ≤ (30 : Int) := by
    rw [ev1]
    exact hH.rF (k := 134) (i := 0) rfl rfl
  refine x_putI C pkX_X2_19 (nlt rfl) rfl dX2_copy_5 ?_
  refine x_gX (fun Yy2 eYy2 => ?_)
  have hHy2 : HG vX Yy2 := by
    rw [eYy2]
    exact hg_wF hH (p := (0, 30)) rfl ⟨by omega, by omega⟩
  have hFy2 : FR mdKG13 X0 Yy2 := by
    rw [eYy2]
    exact FR.upI hF (rfl)
  replace eYy2 : Yy2 = upI X0 13 0 (v1) := eYy2
  refine x_aload_n (i := 1) C dX2_copy_8 rfl rfl ?_
  refine x_getRs (r := 135) C fkX_X2_9 (nlt rfl) rfl (HG.rR hHy2 (k := 134) (i := 1) rfl rfl) dX2_copy_9 ?_
  refine x_iconst C dX2_copy_12 ?_
  refine x_aload_n (i := 0) C dX2_copy_13 rfl rfl ?_
  refine x_getRs (r := 14) C fkX_X2_9 (nlt rfl) rfl (HG.rR hHy2 (k := 13) (i := 1) rfl rfl) dX2_copy_14 ?_
  refine x_iconst C dX2_copy_17 ?_
  refine x_bipush C dX2_copy_18 (by decide) ?_
  refine x_cpyL C cpX2_23 (nlt rfl) rfl rfl (nlt rfl) rfl rfl (by omega) (by omega) (by omega) (by omega) (by omega) (nle rfl) (nle rfl) (nle rfl) (nle rfl) dX2_copy_20 ?_
  refine x_gX (fun Yy3 eYy3 => ?_)
  have hHy3 : HG vX Yy3 := by
    rw [eYy3]
    exact HG.cpL hHy2 (nlt rfl) rfl (nle rfl) (by decide +kernel)
  have hFy3 : FR mdKG13 X0 Yy3 := by
    rw [eYy3]
    exact FR.cpL hFy2 (fun _ => rfl)
  refine x_aload_n (i := 1) C dX2_copy_23 rfl rfl ?_
  refine x_getRs (r := 136) C fkX_X2_15 (nlt rfl) rfl (HG.rR hHy3 (k := 134) (i := 2) rfl rfl) dX2_copy_24 ?_
  refine x_iconst C dX2_copy_27 ?_
  refine x_aload_n (i := 0) C dX2_copy_28 rfl rfl ?_
  refine x_getRs (r := 15) C fkX_X2_15 (nlt rfl) rfl (HG.rR hHy3 (k := 13) (i := 2) rfl rfl) dX2_copy_29 ?_
  refine x_iconst C dX2_copy_32 ?_
  refine x_bipush C dX2_copy_33 (by decide) ?_
  refine x_cpyI C cpX2_23 (nlt rfl) rfl rfl (nlt rfl) rfl rfl rfl (by omega) (by omega) (by omega) (by omega) (by omega) (nle rfl) (nle rfl) (nle rfl) (nle rfl) dX2_copy_35 ?_
  refine x_gX (fun Yy4 eYy4 => ?_)
  have hHy4 : HG vX Yy4 := by
    rw [eYy4]
    exact HG.cpI hHy3 (nlt rfl) rfl (nle rfl) (by decide +kernel)
  have hFy4 : FR mdKG13 X0 Yy4 := by
    rw [eYy4]
    exact FR.cpI hFy3 (fun _ => rfl)
  exact x_vret C hQ dX2_copy_38 (⟨rfl, hHy4, hFy4, ⟨by rw [eYy4, cpI_o1 (by decide), eYy3, cpL_1, eYy2, upI_at]; omega, fun j hj => ⟨by rw [eYy4, cpI_2, eYy3, cpL_r hj, eYy2, upI_2], by rw [eYy4, cpI_r hj, eYy3, cpL_1, eYy2, upI_nc (by decide)]⟩⟩⟩)
set_option maxHeartbeats 4000000 in
set_option maxRecDepth 100000 in
theorem c_kb10_131 {D : va_G} {ad : Nat → Nat} {cA : Nat → ClassId} {X0 : XT} (hH : HG vX X0) (hF : FR mdKB10 X0 X0) : MetX (wX D ad cA) yX0_copy cX0_copy 2 none 1 60 [.ref 10, .ref 131] X0 (fun r X1 => r = none ∧ HG vX X1 ∧ FR mdKB10 X0 X1 ∧ CPB 10 11 12 131 132 133 X0 X1) := by
  refine MetX.mk (own := RX0) (by decide +kernel) rfl (nle rfl) (fun E C hQ => ?_)
  refine Wx_lv (lv' := [(0, .ref 10), (1, .ref 131)]) rfl ?_
  refine x_aload_n (i := 0) C dX0_copy_0 rfl rfl ?_
  refine x_aload_n (i := 1) C dX0_copy_1 rfl rfl ?_
  refine x_getI C fkX_X0_18 (nlt rfl) rfl dX0_copy_2 ?_
  refine x_gen (fun v1 ev1 => ?_)
  have qv1 : (0 : Int) ≤ v1 ∧ v1 ≤ (6 : Int) := by
    rw [ev1]
    exact hH.rF (k := 131) (i := 0) rfl rfl
  refine x_putI C pkX_X0_18 (nlt rfl) rfl dX0_copy_5 ?_
  refine x_gX (fun Yy2 eYy2 => ?_)
  have hHy2 : HG vX Yy2 := by
    rw [eYy2]
    exact hg_wF hH (p := (0, 6)) rfl ⟨by omega, by omega⟩
  have hFy2 : FR mdKB10 X0 Yy2 := by
    rw [eYy2]
    exact FR.upI hF (rfl)
  replace eYy2 : Yy2 = upI X0 10 0 (v1) := eYy2
  refine x_aload_n (i := 0) C dX0_copy_8 rfl rfl ?_
  refine x_aload_n (i := 1) C dX0_copy_9 rfl rfl ?_
  refine x_getI C fkX_X0_22 (nlt rfl) rfl dX0_copy_10 ?_
  refine x_gen (fun v3 ev3 => ?_)
  have qv3 : (0 : Int) ≤ v3 ∧ v3 ≤ (6 : Int) := by
    rw [ev3]
    exact hHy2.rF (k := 131) (i := 1) rfl rfl
  have kv3 : v3 = X0.1 131 1 := by rw [ev3, eYy2, upI_nc (by decide)]
  refine x_putI C pkX_X0_22 (nlt rfl) rfl dX0_copy_13 ?_
  refine x_gX (fun Yy4 eYy4 => ?_)
  have hHy4 : HG vX Yy4 := by
    rw [eYy4]
    exact hg_wF hHy2 (p := (0, 6)) rfl ⟨by omega, by omega⟩
  have hFy4 : FR mdKB10 X0 Yy4 := by
    rw [eYy4]
    exact FR.upI hFy2 (rfl)
  replace eYy4 : Yy4 = upI Yy2 10 1 (v3) := eYy4
  refine x_aload_n (i := 0) C dX0_copy_16 rfl rfl ?_
  refine x_aload_n (i := 1) C dX0_copy_17 rfl rfl ?_
  refine x_getL C fkX_X0_25 (nlt rfl) rfl dX0_copy_18 ?_
  refine x_genL (fun l5 el5 => ?_)
  refine x_putL C pkX_X0_25 (nlt rfl) rfl dX0_copy_21 ?_
  refine x_gX (fun Yy6 eYy6 => ?_)
  have hHy6 : HG vX Yy6 := by
    rw [eYy6]
    exact hg_wLF hHy4 (p := ((-9223372036854775808), 9223372036854775807)) rfl (l64 _)
  have hFy6 : FR mdKB10 X0 Yy6 := by
    rw [eYy6]
    exact FR.upL hFy4 (rfl)
  replace eYy6 : Yy6 = upL Yy4 10 2 (l5) := eYy6
  refine x_aload_n (i := 0) C dX0_copy_24 rfl rfl ?_
  refine x_aload_n (i := 1) C dX0_copy_25 rfl rfl ?_
  refine x_getL C fkX_X0_29 (nlt rfl) rfl dX0_copy_26 ?_
  refine x_genL (fun l7 el7 => ?_)
  refine x_putL C pkX_X0_29 (nlt rfl) rfl dX0_copy_29 ?_
  refine x_gX (fun Yy8 eYy8 => ?_)
  have hHy8 : HG vX Yy8 := by
    rw [eYy8]
    exact hg_wLF hHy6 (p := ((-9223372036854775808), 9223372036854775807)) rfl (l64 _)
  have hFy8 : FR mdKB10 X0 Yy8 := by
    rw [eYy8]
    exact FR.upL hFy6 (rfl)
  replace eYy8 : Yy8 = upL Yy6 10 3 (l7) := eYy8
  refine x_aload_n (i := 0) C dX0_copy_32 rfl rfl ?_
  refine x_aload_n (i := 1) C dX0_copy_33 rfl rfl ?_
  refine x_getI C fkX_X0_32 (nlt rfl) rfl dX0_copy_34 ?_
  refine x_gen (fun v9 ev9 => ?_)
  have qv9 : (0 : Int) ≤ v9 ∧ v9 ≤ (6 : Int) := by
    rw [ev9]
    exact hHy8.rF (k := 131) (i := 4) rfl rfl
  have kv9 : v9 = X0.1 131 4 := by rw [ev9, eYy8, upL_1, eYy6, upL_1, eYy4, upI_nc (by decide), eYy2, upI_nc (by decide)]
  refine x_putI C pkX_X0_32 (nlt rfl) rfl dX0_copy_37 ?_
  refine x_gX (fun Yy10 eYy10 => ?_)
  have hHy10 : HG vX Yy10 := by
    rw [eYy10]
    exact hg_wF hHy8 (p := (0, 6)) rfl ⟨by omega, by omega⟩
  have hFy10 : FR mdKB10 X0 Yy10 := by
    rw [eYy10]
    exact FR.upI hFy8 (rfl)
  replace eYy10 : Yy10 = upI Yy8 10 4 (v9) := eYy10
  refine x_aload_n (i := 1) C dX0_copy_40 rfl rfl ?_
  refine x_getRs (r := 132) C fkX_X0_9 (nlt rfl) rfl (HG.rR hHy10 (k := 131) (i := 5) rfl rfl) dX0_copy_41 ?_
  refine x_iconst C dX0_copy_44 ?_
  refine x_aload_n (i := 0) C dX0_copy_45 rfl rfl ?_
  refine x_getRs (r := 11) C fkX_X0_9 (nlt rfl) rfl (HG.rR hHy10 (k := 10) (i := 5) rfl rfl) dX0_copy_46 ?_
  refine x_iconst C dX0_copy_49 ?_
  refine x_bipush C dX0_copy_50 (by decide) ?_
  refine x_cpyI C cpX0_35 (nlt rfl) rfl rfl (nlt rfl) rfl rfl rfl (by omega) (by omega) (by omega) (by omega) (by omega) (nle rfl) (nle rfl) (nle rfl) (nle rfl) dX0_copy_52 ?_
  refine x_gX (fun Yy11 eYy11 => ?_)
  have hHy11 : HG vX Yy11 := by
    rw [eYy11]
    exact HG.cpI hHy10 (nlt rfl) rfl (nle rfl) (by decide +kernel)
  have hFy11 : FR mdKB10 X0 Yy11 := by
    rw [eYy11]
    exact FR.cpI hFy10 (fun _ => rfl)
  refine x_aload_n (i := 1) C dX0_copy_55 rfl rfl ?_
  refine x_getRs (r := 133) C fkX_X0_15 (nlt rfl) rfl (HG.rR hHy11 (k := 131) (i := 6) rfl rfl) dX0_copy_56 ?_
  refine x_iconst C dX0_copy_59 ?_
  refine x_aload_n (i := 0) C dX0_copy_60 rfl rfl ?_
  refine x_getRs (r := 12) C fkX_X0_15 (nlt rfl) rfl (HG.rR hHy11 (k := 10) (i := 6) rfl rfl) dX0_copy_61 ?_
  refine x_iconst C dX0_copy_64 ?_
  refine x_bipush C dX0_copy_65 (by decide) ?_
  refine x_cpyI C cpX0_35 (nlt rfl) rfl rfl (nlt rfl) rfl rfl rfl (by omega) (by omega) (by omega) (by omega) (by omega) (nle rfl) (nle rfl) (nle rfl) (nle rfl) dX0_copy_67 ?_
  refine x_gX (fun Yy12 eYy12 => ?_)
  have hHy12 : HG vX Yy12 := by
    rw [eYy12]
    exact HG.cpI hHy11 (nlt rfl) rfl (nle rfl) (by decide +kernel)
  have hFy12 : FR mdKB10 X0 Yy12 := by
    rw [eYy12]
    exact FR.cpI hFy11 (fun _ => rfl)
  exact x_vret C hQ dX0_copy_70 (⟨rfl, hHy12, hFy12, ⟨by rw [eYy12, cpI_o1 (by decide), eYy11, cpI_o1 (by decide), eYy10, upI_ne (by decide), eYy8, upL_1, eYy6, upL_1, eYy4, upI_ne (by decide), eYy2, upI_at]; omega, by rw [eYy12, cpI_o1 (by decide), eYy11, cpI_o1 (by decide), eYy10, upI_ne (by decide), eYy8, upL_1, eYy6, upL_1, eYy4, upI_at]; omega, by rw [eYy12, cpI_2, eYy11, cpI_2, eYy10, upI_2, eYy8, upL_ne (by decide), eYy6, upL_at]; rw [el5, eYy4, upI_2, eYy2, upI_2], by rw [eYy12, cpI_2, eYy11, cpI_2, eYy10, upI_2, eYy8, upL_at]; rw [el7, eYy6, upL_nc (by decide), eYy4, upI_2, eYy2, upI_2], by rw [eYy12, cpI_o1 (by decide), eYy11, cpI_o1 (by decide), eYy10, upI_at]; omega, fun j hj => ⟨by rw [eYy12, cpI_o1 (by decide), eYy11, cpI_r hj, eYy10, upI_nc (by decide), eYy8, upL_1, eYy6, upL_1, eYy4, upI_nc (by decide), eYy2, upI_nc (by decide)], by rw [eYy12, cpI_r hj, eYy11, cpI_o1 (by decide), eYy10, upI_nc (by decide), eYy8, upL_1, eYy6, upL_1, eYy4, upI_nc (by decide), eYy2, upI_nc (by decide)]⟩⟩⟩)
set_option maxHeartbeats 4000000 in
set_option maxRecDepth 100000 in
theorem c_kg16_137 {D : va_G} {ad : Nat → Nat} {cA : Nat → ClassId} {X0 : XT} (hH : HG vX X0) (hF : FR mdKG16 X0 X0) : MetX (wX D ad cA) yX2_copy cX2_copy 2 none 1 60 [.ref 16, .ref 137] X0 (fun r X1 => r = none ∧ HG vX X1 ∧ FR mdKG16 X0 X1 ∧ CPG 16 17 18 137 138 139 X0 X1) := by
  refine MetX.mk (own := RX2) (by decide +kernel) rfl (nle rfl) (fun E C hQ => ?_)
  refine Wx_lv (lv' := [(0, .ref 16), (1, .ref 137)]) rfl ?_
  refine x_aload_n (i := 0) C dX2_copy_0 rfl rfl ?_
  refine x_aload_n (i := 1) C dX2_copy_1 rfl rfl ?_
  refine x_getI C fkX_X2_19 (nlt rfl) rfl dX2_copy_2 ?_
  refine x_gen (fun v1 ev1 => ?_)
  have qv1 : (0 : Int) ≤ v1 ∧ v1 ≤ (30 : Int) := by
    rw [ev1]
    exact hH.rF (k := 137) (i := 0) rfl rfl
  refine x_putI C pkX_X2_19 (nlt rfl) rfl dX2_copy_5 ?_
  refine x_gX (fun Yy2 eYy2 => ?_)
  have hHy2 : HG vX Yy2 := by
    rw [eYy2]
    exact hg_wF hH (p := (0, 30)) rfl ⟨by omega, by omega⟩
  have hFy2 : FR mdKG16 X0 Yy2 := by
    rw [eYy2]
    exact FR.upI hF (rfl)
  replace eYy2 : Yy2 = upI X0 16 0 (v1) := eYy2
  refine x_aload_n (i := 1) C dX2_copy_8 rfl rfl ?_
  refine x_getRs (r := 138) C fkX_X2_9 (nlt rfl) rfl (HG.rR hHy2 (k := 137) (i := 1) rfl rfl) dX2_copy_9 ?_
  refine x_iconst C dX2_copy_12 ?_
  refine x_aload_n (i := 0) C dX2_copy_13 rfl rfl ?_
  refine x_getRs (r := 17) C fkX_X2_9 (nlt rfl) rfl (HG.rR hHy2 (k := 16) (i := 1) rfl rfl) dX2_copy_14 ?_
  refine x_iconst C dX2_copy_17 ?_
  refine x_bipush C dX2_copy_18 (by decide) ?_
  refine x_cpyL C cpX2_23 (nlt rfl) rfl rfl (nlt rfl) rfl rfl (by omega) (by omega) (by omega) (by omega) (by omega) (nle rfl) (nle rfl) (nle rfl) (nle rfl) dX2_copy_20 ?_
  refine x_gX (fun Yy3 eYy3 => ?_)
  have hHy3 : HG vX Yy3 := by
    rw [eYy3]
    exact HG.cpL hHy2 (nlt rfl) rfl (nle rfl) (by decide +kernel)
  have hFy3 : FR mdKG16 X0 Yy3 := by
    rw [eYy3]
    exact FR.cpL hFy2 (fun _ => rfl)
  refine x_aload_n (i := 1) C dX2_copy_23 rfl rfl ?_
  refine x_getRs (r := 139) C fkX_X2_15 (nlt rfl) rfl (HG.rR hHy3 (k := 137) (i := 2) rfl rfl) dX2_copy_24 ?_
  refine x_iconst C dX2_copy_27 ?_
  refine x_aload_n (i := 0) C dX2_copy_28 rfl rfl ?_
  refine x_getRs (r := 18) C fkX_X2_15 (nlt rfl) rfl (HG.rR hHy3 (k := 16) (i := 2) rfl rfl) dX2_copy_29 ?_
  refine x_iconst C dX2_copy_32 ?_
  refine x_bipush C dX2_copy_33 (by decide) ?_
  refine x_cpyI C cpX2_23 (nlt rfl) rfl rfl (nlt rfl) rfl rfl rfl (by omega) (by omega) (by omega) (by omega) (by omega) (nle rfl) (nle rfl) (nle rfl) (nle rfl) dX2_copy_35 ?_
  refine x_gX (fun Yy4 eYy4 => ?_)
  have hHy4 : HG vX Yy4 := by
    rw [eYy4]
    exact HG.cpI hHy3 (nlt rfl) rfl (nle rfl) (by decide +kernel)
  have hFy4 : FR mdKG16 X0 Yy4 := by
    rw [eYy4]
    exact FR.cpI hFy3 (fun _ => rfl)
  exact x_vret C hQ dX2_copy_38 (⟨rfl, hHy4, hFy4, ⟨by rw [eYy4, cpI_o1 (by decide), eYy3, cpL_1, eYy2, upI_at]; omega, fun j hj => ⟨by rw [eYy4, cpI_2, eYy3, cpL_r hj, eYy2, upI_2], by rw [eYy4, cpI_r hj, eYy3, cpL_1, eYy2, upI_nc (by decide)]⟩⟩⟩)
set_option maxHeartbeats 4000000 in
set_option maxRecDepth 100000 in
theorem c_kb7_146 {D : va_G} {ad : Nat → Nat} {cA : Nat → ClassId} {X0 : XT} (hH : HG vX X0) (hF : FR mdKB7 X0 X0) : MetX (wX D ad cA) yX0_copy cX0_copy 2 none 1 60 [.ref 7, .ref 146] X0 (fun r X1 => r = none ∧ HG vX X1 ∧ FR mdKB7 X0 X1 ∧ CPB 7 8 9 146 147 148 X0 X1) := by
  refine MetX.mk (own := RX0) (by decide +kernel) rfl (nle rfl) (fun E C hQ => ?_)
  refine Wx_lv (lv' := [(0, .ref 7), (1, .ref 146)]) rfl ?_
  refine x_aload_n (i := 0) C dX0_copy_0 rfl rfl ?_
  refine x_aload_n (i := 1) C dX0_copy_1 rfl rfl ?_
  refine x_getI C fkX_X0_18 (nlt rfl) rfl dX0_copy_2 ?_
  refine x_gen (fun v1 ev1 => ?_)
  have qv1 : (0 : Int) ≤ v1 ∧ v1 ≤ (6 : Int) := by
    rw [ev1]
    exact hH.rF (k := 146) (i := 0) rfl rfl
  refine x_putI C pkX_X0_18 (nlt rfl) rfl dX0_copy_5 ?_
  refine x_gX (fun Yy2 eYy2 => ?_)
  have hHy2 : HG vX Yy2 := by
    rw [eYy2]
    exact hg_wF hH (p := (0, 6)) rfl ⟨by omega, by omega⟩
  have hFy2 : FR mdKB7 X0 Yy2 := by
    rw [eYy2]
    exact FR.upI hF (rfl)
  replace eYy2 : Yy2 = upI X0 7 0 (v1) := eYy2
  refine x_aload_n (i := 0) C dX0_copy_8 rfl rfl ?_
  refine x_aload_n (i := 1) C dX0_copy_9 rfl rfl ?_
  refine x_getI C fkX_X0_22 (nlt rfl) rfl dX0_copy_10 ?_
  refine x_gen (fun v3 ev3 => ?_)
  have qv3 : (0 : Int) ≤ v3 ∧ v3 ≤ (6 : Int) := by
    rw [ev3]
    exact hHy2.rF (k := 146) (i := 1) rfl rfl
  have kv3 : v3 = X0.1 146 1 := by rw [ev3, eYy2, upI_nc (by decide)]
  refine x_putI C pkX_X0_22 (nlt rfl) rfl dX0_copy_13 ?_
  refine x_gX (fun Yy4 eYy4 => ?_)
  have hHy4 : HG vX Yy4 := by
    rw [eYy4]
    exact hg_wF hHy2 (p := (0, 6)) rfl ⟨by omega, by omega⟩
  have hFy4 : FR mdKB7 X0 Yy4 := by
    rw [eYy4]
    exact FR.upI hFy2 (rfl)
  replace eYy4 : Yy4 = upI Yy2 7 1 (v3) := eYy4
  refine x_aload_n (i := 0) C dX0_copy_16 rfl rfl ?_
  refine x_aload_n (i := 1) C dX0_copy_17 rfl rfl ?_
  refine x_getL C fkX_X0_25 (nlt rfl) rfl dX0_copy_18 ?_
  refine x_genL (fun l5 el5 => ?_)
  refine x_putL C pkX_X0_25 (nlt rfl) rfl dX0_copy_21 ?_
  refine x_gX (fun Yy6 eYy6 => ?_)
  have hHy6 : HG vX Yy6 := by
    rw [eYy6]
    exact hg_wLF hHy4 (p := ((-9223372036854775808), 9223372036854775807)) rfl (l64 _)
  have hFy6 : FR mdKB7 X0 Yy6 := by
    rw [eYy6]
    exact FR.upL hFy4 (rfl)
  replace eYy6 : Yy6 = upL Yy4 7 2 (l5) := eYy6
  refine x_aload_n (i := 0) C dX0_copy_24 rfl rfl ?_
  refine x_aload_n (i := 1) C dX0_copy_25 rfl rfl ?_
  refine x_getL C fkX_X0_29 (nlt rfl) rfl dX0_copy_26 ?_
  refine x_genL (fun l7 el7 => ?_)
  refine x_putL C pkX_X0_29 (nlt rfl) rfl dX0_copy_29 ?_
  refine x_gX (fun Yy8 eYy8 => ?_)
  have hHy8 : HG vX Yy8 := by
    rw [eYy8]
    exact hg_wLF hHy6 (p := ((-9223372036854775808), 9223372036854775807)) rfl (l64 _)
  have hFy8 : FR mdKB7 X0 Yy8 := by
    rw [eYy8]
    exact FR.upL hFy6 (rfl)
  replace eYy8 : Yy8 = upL Yy6 7 3 (l7) := eYy8
  refine x_aload_n (i := 0) C dX0_copy_32 rfl rfl ?_
  refine x_aload_n (i := 1) C dX0_copy_33 rfl rfl ?_
  refine x_getI C fkX_X0_32 (nlt rfl) rfl dX0_copy_34 ?_
  refine x_gen (fun v9 ev9 => ?_)
  have qv9 : (0 : Int) ≤ v9 ∧ v9 ≤ (6 : Int) := by
    rw [ev9]
    exact hHy8.rF (k := 146) (i := 4) rfl rfl
  have kv9 : v9 = X0.1 146 4 := by rw [ev9, eYy8, upL_1, eYy6, upL_1, eYy4, upI_nc (by decide), eYy2, upI_nc (by decide)]
  refine x_putI C pkX_X0_32 (nlt rfl) rfl dX0_copy_37 ?_
  refine x_gX (fun Yy10 eYy10 => ?_)
  have hHy10 : HG vX Yy10 := by
    rw [eYy10]
    exact hg_wF hHy8 (p := (0, 6)) rfl ⟨by omega, by omega⟩
  have hFy10 : FR mdKB7 X0 Yy10 := by
    rw [eYy10]
    exact FR.upI hFy8 (rfl)
  replace eYy10 : Yy10 = upI Yy8 7 4 (v9) := eYy10
  refine x_aload_n (i := 1) C dX0_copy_40 rfl rfl ?_
  refine x_getRs (r := 147) C fkX_X0_9 (nlt rfl) rfl (HG.rR hHy10 (k := 146) (i := 5) rfl rfl) dX0_copy_41 ?_
  refine x_iconst C dX0_copy_44 ?_
  refine x_aload_n (i := 0) C dX0_copy_45 rfl rfl ?_
  refine x_getRs (r := 8) C fkX_X0_9 (nlt rfl) rfl (HG.rR hHy10 (k := 7) (i := 5) rfl rfl) dX0_copy_46 ?_
  refine x_iconst C dX0_copy_49 ?_
  refine x_bipush C dX0_copy_50 (by decide) ?_
  refine x_cpyI C cpX0_35 (nlt rfl) rfl rfl (nlt rfl) rfl rfl rfl (by omega) (by omega) (by omega) (by omega) (by omega) (nle rfl) (nle rfl) (nle rfl) (nle rfl) dX0_copy_52 ?_
  refine x_gX (fun Yy11 eYy11 => ?_)
  have hHy11 : HG vX Yy11 := by
    rw [eYy11]
    exact HG.cpI hHy10 (nlt rfl) rfl (nle rfl) (by decide +kernel)
  have hFy11 : FR mdKB7 X0 Yy11 := by
    rw [eYy11]
    exact FR.cpI hFy10 (fun _ => rfl)
  refine x_aload_n (i := 1) C dX0_copy_55 rfl rfl ?_
  refine x_getRs (r := 148) C fkX_X0_15 (nlt rfl) rfl (HG.rR hHy11 (k := 146) (i := 6) rfl rfl) dX0_copy_56 ?_
  refine x_iconst C dX0_copy_59 ?_
  refine x_aload_n (i := 0) C dX0_copy_60 rfl rfl ?_
  refine x_getRs (r := 9) C fkX_X0_15 (nlt rfl) rfl (HG.rR hHy11 (k := 7) (i := 6) rfl rfl) dX0_copy_61 ?_
  refine x_iconst C dX0_copy_64 ?_
  refine x_bipush C dX0_copy_65 (by decide) ?_
  refine x_cpyI C cpX0_35 (nlt rfl) rfl rfl (nlt rfl) rfl rfl rfl (by omega) (by omega) (by omega) (by omega) (by omega) (nle rfl) (nle rfl) (nle rfl) (nle rfl) dX0_copy_67 ?_
  refine x_gX (fun Yy12 eYy12 => ?_)
  have hHy12 : HG vX Yy12 := by
    rw [eYy12]
    exact HG.cpI hHy11 (nlt rfl) rfl (nle rfl) (by decide +kernel)
  have hFy12 : FR mdKB7 X0 Yy12 := by
    rw [eYy12]
    exact FR.cpI hFy11 (fun _ => rfl)
  exact x_vret C hQ dX0_copy_70 (⟨rfl, hHy12, hFy12, ⟨by rw [eYy12, cpI_o1 (by decide), eYy11, cpI_o1 (by decide), eYy10, upI_ne (by decide), eYy8, upL_1, eYy6, upL_1, eYy4, upI_ne (by decide), eYy2, upI_at]; omega, by rw [eYy12, cpI_o1 (by decide), eYy11, cpI_o1 (by decide), eYy10, upI_ne (by decide), eYy8, upL_1, eYy6, upL_1, eYy4, upI_at]; omega, by rw [eYy12, cpI_2, eYy11, cpI_2, eYy10, upI_2, eYy8, upL_ne (by decide), eYy6, upL_at]; rw [el5, eYy4, upI_2, eYy2, upI_2], by rw [eYy12, cpI_2, eYy11, cpI_2, eYy10, upI_2, eYy8, upL_at]; rw [el7, eYy6, upL_nc (by decide), eYy4, upI_2, eYy2, upI_2], by rw [eYy12, cpI_o1 (by decide), eYy11, cpI_o1 (by decide), eYy10, upI_at]; omega, fun j hj => ⟨by rw [eYy12, cpI_o1 (by decide), eYy11, cpI_r hj, eYy10, upI_nc (by decide), eYy8, upL_1, eYy6, upL_1, eYy4, upI_nc (by decide), eYy2, upI_nc (by decide)], by rw [eYy12, cpI_r hj, eYy11, cpI_o1 (by decide), eYy10, upI_nc (by decide), eYy8, upL_1, eYy6, upL_1, eYy4, upI_nc (by decide), eYy2, upI_nc (by decide)]⟩⟩⟩)
set_option maxHeartbeats 4000000 in
set_option maxRecDepth 100000 in
theorem c_kg13_152 {D : va_G} {ad : Nat → Nat} {cA : Nat → ClassId} {X0 : XT} (hH : HG vX X0) (hF : FR mdKG13 X0 X0) : MetX (wX D ad cA) yX2_copy cX2_copy 2 none 1 60 [.ref 13, .ref 152] X0 (fun r X1 => r = none ∧ HG vX X1 ∧ FR mdKG13 X0 X1 ∧ CPG 13 14 15 152 153 154 X0 X1) := by
  refine MetX.mk (own := RX2) (by decide +kernel) rfl (nle rfl) (fun E C hQ => ?_)
  refine Wx_lv (lv' := [(0, .ref 13), (1, .ref 152)]) rfl ?_
  refine x_aload_n (i := 0) C dX2_copy_0 rfl rfl ?_
  refine x_aload_n (i := 1) C dX2_copy_1 rfl rfl ?_
  refine x_getI C fkX_X2_19 (nlt rfl) rfl dX2_copy_2 ?_
  refine x_gen (fun v1 ev1 => ?_)
  have qv1 : (0 : Int) ≤ v1 ∧ v1 ≤ (30 : Int) := by
    rw [ev1]
    exact hH.rF (k := 152) (i := 0) rfl rfl
  refine x_putI C pkX_X2_19 (nlt rfl) rfl dX2_copy_5 ?_
  refine x_gX (fun Yy2 eYy2 => ?_)
  have hHy2 : HG vX Yy2 := by
    rw [eYy2]
    exact hg_wF hH (p := (0, 30)) rfl ⟨by omega, by omega⟩
  have hFy2 : FR mdKG13 X0 Yy2 := by
    rw [eYy2]
    exact FR.upI hF (rfl)
  replace eYy2 : Yy2 = upI X0 13 0 (v1) := eYy2
  refine x_aload_n (i := 1) C dX2_copy_8 rfl rfl ?_
  refine x_getRs (r := 153) C fkX_X2_9 (nlt rfl) rfl (HG.rR hHy2 (k := 152) (i := 1) rfl rfl) dX2_copy_9 ?_
  refine x_iconst C dX2_copy_12 ?_
  refine x_aload_n (i := 0) C dX2_copy_13 rfl rfl ?_
  refine x_getRs (r := 14) C fkX_X2_9 (nlt rfl) rfl (HG.rR hHy2 (k := 13) (i := 1) rfl rfl) dX2_copy_14 ?_
  refine x_iconst C dX2_copy_17 ?_
  refine x_bipush C dX2_copy_18 (by decide) ?_
  refine x_cpyL C cpX2_23 (nlt rfl) rfl rfl (nlt rfl) rfl rfl (by omega) (by omega) (by omega) (by omega) (by omega) (nle rfl) (nle rfl) (nle rfl) (nle rfl) dX2_copy_20 ?_
  refine x_gX (fun Yy3 eYy3 => ?_)
  have hHy3 : HG vX Yy3 := by
    rw [eYy3]
    exact HG.cpL hHy2 (nlt rfl) rfl (nle rfl) (by decide +kernel)
  have hFy3 : FR mdKG13 X0 Yy3 := by
    rw [eYy3]
    exact FR.cpL hFy2 (fun _ => rfl)
  refine x_aload_n (i := 1) C dX2_copy_23 rfl rfl ?_
  refine x_getRs (r := 154) C fkX_X2_15 (nlt rfl) rfl (HG.rR hHy3 (k := 152) (i := 2) rfl rfl) dX2_copy_24 ?_
  refine x_iconst C dX2_copy_27 ?_
  refine x_aload_n (i := 0) C dX2_copy_28 rfl rfl ?_
  refine x_getRs (r := 15) C fkX_X2_15 (nlt rfl) rfl (HG.rR hHy3 (k := 13) (i := 2) rfl rfl) dX2_copy_29 ?_
  refine x_iconst C dX2_copy_32 ?_
  refine x_bipush C dX2_copy_33 (by decide) ?_
  refine x_cpyI C cpX2_23 (nlt rfl) rfl rfl (nlt rfl) rfl rfl rfl (by omega) (by omega) (by omega) (by omega) (by omega) (nle rfl) (nle rfl) (nle rfl) (nle rfl) dX2_copy_35 ?_
  refine x_gX (fun Yy4 eYy4 => ?_)
  have hHy4 : HG vX Yy4 := by
    rw [eYy4]
    exact HG.cpI hHy3 (nlt rfl) rfl (nle rfl) (by decide +kernel)
  have hFy4 : FR mdKG13 X0 Yy4 := by
    rw [eYy4]
    exact FR.cpI hFy3 (fun _ => rfl)
  exact x_vret C hQ dX2_copy_38 (⟨rfl, hHy4, hFy4, ⟨by rw [eYy4, cpI_o1 (by decide), eYy3, cpL_1, eYy2, upI_at]; omega, fun j hj => ⟨by rw [eYy4, cpI_2, eYy3, cpL_r hj, eYy2, upI_2], by rw [eYy4, cpI_r hj, eYy3, cpL_1, eYy2, upI_nc (by decide)]⟩⟩⟩)
set_option maxHeartbeats 4000000 in
set_option maxRecDepth 100000 in
theorem c_kb10_149 {D : va_G} {ad : Nat → Nat} {cA : Nat → ClassId} {X0 : XT} (hH : HG vX X0) (hF : FR mdKB10 X0 X0) : MetX (wX D ad cA) yX0_copy cX0_copy 2 none 1 60 [.ref 10, .ref 149] X0 (fun r X1 => r = none ∧ HG vX X1 ∧ FR mdKB10 X0 X1 ∧ CPB 10 11 12 149 150 151 X0 X1) := by
  refine MetX.mk (own := RX0) (by decide +kernel) rfl (nle rfl) (fun E C hQ => ?_)
  refine Wx_lv (lv' := [(0, .ref 10), (1, .ref 149)]) rfl ?_
  refine x_aload_n (i := 0) C dX0_copy_0 rfl rfl ?_
  refine x_aload_n (i := 1) C dX0_copy_1 rfl rfl ?_
  refine x_getI C fkX_X0_18 (nlt rfl) rfl dX0_copy_2 ?_
  refine x_gen (fun v1 ev1 => ?_)
  have qv1 : (0 : Int) ≤ v1 ∧ v1 ≤ (6 : Int) := by
    rw [ev1]
    exact hH.rF (k := 149) (i := 0) rfl rfl
  refine x_putI C pkX_X0_18 (nlt rfl) rfl dX0_copy_5 ?_
  refine x_gX (fun Yy2 eYy2 => ?_)
  have hHy2 : HG vX Yy2 := by
    rw [eYy2]
    exact hg_wF hH (p := (0, 6)) rfl ⟨by omega, by omega⟩
  have hFy2 : FR mdKB10 X0 Yy2 := by
    rw [eYy2]
    exact FR.upI hF (rfl)
  replace eYy2 : Yy2 = upI X0 10 0 (v1) := eYy2
  refine x_aload_n (i := 0) C dX0_copy_8 rfl rfl ?_
  refine x_aload_n (i := 1) C dX0_copy_9 rfl rfl ?_
  refine x_getI C fkX_X0_22 (nlt rfl) rfl dX0_copy_10 ?_
  refine x_gen (fun v3 ev3 => ?_)
  have qv3 : (0 : Int) ≤ v3 ∧ v3 ≤ (6 : Int) := by
    rw [ev3]
    exact hHy2.rF (k := 149) (i := 1) rfl rfl
  have kv3 : v3 = X0.1 149 1 := by rw [ev3, eYy2, upI_nc (by decide)]
  refine x_putI C pkX_X0_22 (nlt rfl) rfl dX0_copy_13 ?_
  refine x_gX (fun Yy4 eYy4 => ?_)
  have hHy4 : HG vX Yy4 := by
    rw [eYy4]
    exact hg_wF hHy2 (p := (0, 6)) rfl ⟨by omega, by omega⟩
  have hFy4 : FR mdKB10 X0 Yy4 := by
    rw [eYy4]
    exact FR.upI hFy2 (rfl)
  replace eYy4 : Yy4 = upI Yy2 10 1 (v3) := eYy4
  refine x_aload_n (i := 0) C dX0_copy_16 rfl rfl ?_
  refine x_aload_n (i := 1) C dX0_copy_17 rfl rfl ?_
  refine x_getL C fkX_X0_25 (nlt rfl) rfl dX0_copy_18 ?_
  refine x_genL (fun l5 el5 => ?_)
  refine x_putL C pkX_X0_25 (nlt rfl) rfl dX0_copy_21 ?_
  refine x_gX (fun Yy6 eYy6 => ?_)
  have hHy6 : HG vX Yy6 := by
    rw [eYy6]
    exact hg_wLF hHy4 (p := ((-9223372036854775808), 9223372036854775807)) rfl (l64 _)
  have hFy6 : FR mdKB10 X0 Yy6 := by
    rw [eYy6]
    exact FR.upL hFy4 (rfl)
  replace eYy6 : Yy6 = upL Yy4 10 2 (l5) := eYy6
  refine x_aload_n (i := 0) C dX0_copy_24 rfl rfl ?_
  refine x_aload_n (i := 1) C dX0_copy_25 rfl rfl ?_
  refine x_getL C fkX_X0_29 (nlt rfl) rfl dX0_copy_26 ?_
  refine x_genL (fun l7 el7 => ?_)
  refine x_putL C pkX_X0_29 (nlt rfl) rfl dX0_copy_29 ?_
  refine x_gX (fun Yy8 eYy8 => ?_)
  have hHy8 : HG vX Yy8 := by
    rw [eYy8]
    exact hg_wLF hHy6 (p := ((-9223372036854775808), 9223372036854775807)) rfl (l64 _)
  have hFy8 : FR mdKB10 X0 Yy8 := by
    rw [eYy8]
    exact FR.upL hFy6 (rfl)
  replace eYy8 : Yy8 = upL Yy6 10 3 (l7) := eYy8
  refine x_aload_n (i := 0) C dX0_copy_32 rfl rfl ?_
  refine x_aload_n (i := 1) C dX0_copy_33 rfl rfl ?_
  refine x_getI C fkX_X0_32 (nlt rfl) rfl dX0_copy_34 ?_
  refine x_gen (fun v9 ev9 => ?_)
  have qv9 : (0 : Int) ≤ v9 ∧ v9 ≤ (6 : Int) := by
    rw [ev9]
    exact hHy8.rF (k := 149) (i := 4) rfl rfl
  have kv9 : v9 = X0.1 149 4 := by rw [ev9, eYy8, upL_1, eYy6, upL_1, eYy4, upI_nc (by decide), eYy2, upI_nc (by decide)]
  refine x_putI C pkX_X0_32 (nlt rfl) rfl dX0_copy_37 ?_
  refine x_gX (fun Yy10 eYy10 => ?_)
  have hHy10 : HG vX Yy10 := by
    rw [eYy10]
    exact hg_wF hHy8 (p := (0, 6)) rfl ⟨by omega, by omega⟩
  have hFy10 : FR mdKB10 X0 Yy10 := by
    rw [eYy10]
    exact FR.upI hFy8 (rfl)
  replace eYy10 : Yy10 = upI Yy8 10 4 (v9) := eYy10
  refine x_aload_n (i := 1) C dX0_copy_40 rfl rfl ?_
  refine x_getRs (r := 150) C fkX_X0_9 (nlt rfl) rfl (HG.rR hHy10 (k := 149) (i := 5) rfl rfl) dX0_copy_41 ?_
  refine x_iconst C dX0_copy_44 ?_
  refine x_aload_n (i := 0) C dX0_copy_45 rfl rfl ?_
  refine x_getRs (r := 11) C fkX_X0_9 (nlt rfl) rfl (HG.rR hHy10 (k := 10) (i := 5) rfl rfl) dX0_copy_46 ?_
  refine x_iconst C dX0_copy_49 ?_
  refine x_bipush C dX0_copy_50 (by decide) ?_
  refine x_cpyI C cpX0_35 (nlt rfl) rfl rfl (nlt rfl) rfl rfl rfl (by omega) (by omega) (by omega) (by omega) (by omega) (nle rfl) (nle rfl) (nle rfl) (nle rfl) dX0_copy_52 ?_
  refine x_gX (fun Yy11 eYy11 => ?_)
  have hHy11 : HG vX Yy11 := by
    rw [eYy11]
    exact HG.cpI hHy10 (nlt rfl) rfl (nle rfl) (by decide +kernel)
  have hFy11 : FR mdKB10 X0 Yy11 := by
    rw [eYy11]
    exact FR.cpI hFy10 (fun _ => rfl)
  refine x_aload_n (i := 1) C dX0_copy_55 rfl rfl ?_
  refine x_getRs (r := 151) C fkX_X0_15 (nlt rfl) rfl (HG.rR hHy11 (k := 149) (i := 6) rfl rfl) dX0_copy_56 ?_
  refine x_iconst C dX0_copy_59 ?_
  refine x_aload_n (i := 0) C dX0_copy_60 rfl rfl ?_
  refine x_getRs (r := 12) C fkX_X0_15 (nlt rfl) rfl (HG.rR hHy11 (k := 10) (i := 6) rfl rfl) dX0_copy_61 ?_
  refine x_iconst C dX0_copy_64 ?_
  refine x_bipush C dX0_copy_65 (by decide) ?_
  refine x_cpyI C cpX0_35 (nlt rfl) rfl rfl (nlt rfl) rfl rfl rfl (by omega) (by omega) (by omega) (by omega) (by omega) (nle rfl) (nle rfl) (nle rfl) (nle rfl) dX0_copy_67 ?_
  refine x_gX (fun Yy12 eYy12 => ?_)
  have hHy12 : HG vX Yy12 := by
    rw [eYy12]
    exact HG.cpI hHy11 (nlt rfl) rfl (nle rfl) (by decide +kernel)
  have hFy12 : FR mdKB10 X0 Yy12 := by
    rw [eYy12]
    exact FR.cpI hFy11 (fun _ => rfl)
  exact x_vret C hQ dX0_copy_70 (⟨rfl, hHy12, hFy12, ⟨by rw [eYy12, cpI_o1 (by decide), eYy11, cpI_o1 (by decide), eYy10, upI_ne (by decide), eYy8, upL_1, eYy6, upL_1, eYy4, upI_ne (by decide), eYy2, upI_at]; omega, by rw [eYy12, cpI_o1 (by decide), eYy11, cpI_o1 (by decide), eYy10, upI_ne (by decide), eYy8, upL_1, eYy6, upL_1, eYy4, upI_at]; omega, by rw [eYy12, cpI_2, eYy11, cpI_2, eYy10, upI_2, eYy8, upL_ne (by decide), eYy6, upL_at]; rw [el5, eYy4, upI_2, eYy2, upI_2], by rw [eYy12, cpI_2, eYy11, cpI_2, eYy10, upI_2, eYy8, upL_at]; rw [el7, eYy6, upL_nc (by decide), eYy4, upI_2, eYy2, upI_2], by rw [eYy12, cpI_o1 (by decide), eYy11, cpI_o1 (by decide), eYy10, upI_at]; omega, fun j hj => ⟨by rw [eYy12, cpI_o1 (by decide), eYy11, cpI_r hj, eYy10, upI_nc (by decide), eYy8, upL_1, eYy6, upL_1, eYy4, upI_nc (by decide), eYy2, upI_nc (by decide)], by rw [eYy12, cpI_r hj, eYy11, cpI_o1 (by decide), eYy10, upI_nc (by decide), eYy8, upL_1, eYy6, upL_1, eYy4, upI_nc (by decide), eYy2, upI_nc (by decide)]⟩⟩⟩)
set_option maxHeartbeats 4000000 in
set_option maxRecDepth 100000 in
theorem c_kg16_155 {D : va_G} {ad : Nat → Nat} {cA : Nat → ClassId} {X0 : XT} (hH : HG vX X0) (hF : FR mdKG16 X0 X0) : MetX (wX D ad cA) yX2_copy cX2_copy 2 none 1 60 [.ref 16, .ref 155] X0 (fun r X1 => r = none ∧ HG vX X1 ∧ FR mdKG16 X0 X1 ∧ CPG 16 17 18 155 156 157 X0 X1) := by
  refine MetX.mk (own := RX2) (by decide +kernel) rfl (nle rfl) (fun E C hQ => ?_)
  refine Wx_lv (lv' := [(0, .ref 16), (1, .ref 155)]) rfl ?_
  refine x_aload_n (i := 0) C dX2_copy_0 rfl rfl ?_
  refine x_aload_n (i := 1) C dX2_copy_1 rfl rfl ?_
  refine x_getI C fkX_X2_19 (nlt rfl) rfl dX2_copy_2 ?_
  refine x_gen (fun v1 ev1 => ?_)
  have qv1 : (0 : Int) ≤ v1 ∧ v1 ≤ (30 : Int) := by
    rw [ev1]
    exact hH.rF (k := 155) (i := 0) rfl rfl
  refine x_putI C pkX_X2_19 (nlt rfl) rfl dX2_copy_5 ?_
  refine x_gX (fun Yy2 eYy2 => ?_)
  have hHy2 : HG vX Yy2 := by
    rw [eYy2]
    exact hg_wF hH (p := (0, 30)) rfl ⟨by omega, by omega⟩
  have hFy2 : FR mdKG16 X0 Yy2 := by
    rw [eYy2]
    exact FR.upI hF (rfl)
  replace eYy2 : Yy2 = upI X0 16 0 (v1) := eYy2
  refine x_aload_n (i := 1) C dX2_copy_8 rfl rfl ?_
  refine x_getRs (r := 156) C fkX_X2_9 (nlt rfl) rfl (HG.rR hHy2 (k := 155) (i := 1) rfl rfl) dX2_copy_9 ?_
  refine x_iconst C dX2_copy_12 ?_
  refine x_aload_n (i := 0) C dX2_copy_13 rfl rfl ?_
  refine x_getRs (r := 17) C fkX_X2_9 (nlt rfl) rfl (HG.rR hHy2 (k := 16) (i := 1) rfl rfl) dX2_copy_14 ?_
  refine x_iconst C dX2_copy_17 ?_
  refine x_bipush C dX2_copy_18 (by decide) ?_
  refine x_cpyL C cpX2_23 (nlt rfl) rfl rfl (nlt rfl) rfl rfl (by omega) (by omega) (by omega) (by omega) (by omega) (nle rfl) (nle rfl) (nle rfl) (nle rfl) dX2_copy_20 ?_
  refine x_gX (fun Yy3 eYy3 => ?_)
  have hHy3 : HG vX Yy3 := by
    rw [eYy3]
    exact HG.cpL hHy2 (nlt rfl) rfl (nle rfl) (by decide +kernel)
  have hFy3 : FR mdKG16 X0 Yy3 := by
    rw [eYy3]
    exact FR.cpL hFy2 (fun _ => rfl)
  refine x_aload_n (i := 1) C dX2_copy_23 rfl rfl ?_
  refine x_getRs (r := 157) C fkX_X2_15 (nlt rfl) rfl (HG.rR hHy3 (k := 155) (i := 2) rfl rfl) dX2_copy_24 ?_
  refine x_iconst C dX2_copy_27 ?_
  refine x_aload_n (i := 0) C dX2_copy_28 rfl rfl ?_
  refine x_getRs (r := 18) C fkX_X2_15 (nlt rfl) rfl (HG.rR hHy3 (k := 16) (i := 2) rfl rfl) dX2_copy_29 ?_
  refine x_iconst C dX2_copy_32 ?_
  refine x_bipush C dX2_copy_33 (by decide) ?_
  refine x_cpyI C cpX2_23 (nlt rfl) rfl rfl (nlt rfl) rfl rfl rfl (by omega) (by omega) (by omega) (by omega) (by omega) (nle rfl) (nle rfl) (nle rfl) (nle rfl) dX2_copy_35 ?_
  refine x_gX (fun Yy4 eYy4 => ?_)
  have hHy4 : HG vX Yy4 := by
    rw [eYy4]
    exact HG.cpI hHy3 (nlt rfl) rfl (nle rfl) (by decide +kernel)
  have hFy4 : FR mdKG16 X0 Yy4 := by
    rw [eYy4]
    exact FR.cpI hFy3 (fun _ => rfl)
  exact x_vret C hQ dX2_copy_38 (⟨rfl, hHy4, hFy4, ⟨by rw [eYy4, cpI_o1 (by decide), eYy3, cpL_1, eYy2, upI_at]; omega, fun j hj => ⟨by rw [eYy4, cpI_2, eYy3, cpL_r hj, eYy2, upI_2], by rw [eYy4, cpI_r hj, eYy3, cpL_1, eYy2, upI_nc (by decide)]⟩⟩⟩)
abbrev mdKT104 : List (Nat × Option Nat) := [(104, some 0), (104, some 1), (104, some 2), (105, none), (106, none), (108, none), (110, some 0), (110, some 1), (110, some 2), (110, some 3), (110, some 4), (111, none), (112, none), (113, some 0), (113, some 1), (113, some 2), (113, some 3), (113, some 4), (114, none), (115, none), (116, some 0), (117, none), (118, none), (119, some 0), (120, none), (121, none)]
abbrev mdKT104r0 : List (Nat × Option Nat) := [(113, some 0), (113, some 1), (113, some 2), (113, some 3), (113, some 4), (114, none), (115, none), (116, some 0), (117, none), (118, none), (119, some 0), (120, none), (121, none)]
abbrev mdKT104r1 : List (Nat × Option Nat) := [(116, some 0), (117, none), (118, none), (119, some 0), (120, none), (121, none)]
abbrev mdKT104r2 : List (Nat × Option Nat) := [(119, some 0), (120, none), (121, none)]
set_option maxHeartbeats 4000000 in
set_option maxRecDepth 100000 in
theorem c_kt104_1 {D : va_G} {ad : Nat → Nat} {cA : Nat → ClassId} {X0 : XT} (hH : HG vX X0) (hF : FR mdKT104 X0 X0) : MetX (wX D ad cA) yX8_copy cX8_copy 3 none 2 81 [.ref 104, .ref 1] X0 (fun r X1 => r = none ∧ HG vX X1 ∧ FR mdKT104 X0 X1 ∧ X1.1 104 0 = X0.1 1 0 ∧ X1.1 104 1 = X0.1 1 1 ∧ X1.1 104 2 = X0.1 1 2 ∧ (∀ j, j < 600 → X1.1 105 j = X0.1 2 j) ∧ (∀ j, j < 3 → X1.1 106 j = X0.1 3 j) ∧ (∀ j, j < 3 → X1.2.1 108 j = X0.2.1 5 j) ∧ CPB 110 111 112 7 8 9 X0 X1 ∧ CPB 113 114 115 10 11 12 X0 X1 ∧ CPG 116 117 118 13 14 15 X0 X1 ∧ CPG 119 120 121 16 17 18 X0 X1) := by
  refine MetX.mk (own := RX8) (by decide +kernel) rfl (nle rfl) (fun E C hQ => ?_)
  refine Wx_lv (lv' := [(0, .ref 104), (1, .ref 1)]) rfl ?_
  refine x_aload_n (i := 0) C dX8_copy_0 rfl rfl ?_
  refine x_aload_n (i := 1) C dX8_copy_1 rfl rfl ?_
  refine x_getI C fkX_X8_40 (nlt rfl) rfl dX8_copy_2 ?_
  refine x_gen (fun v1 ev1 => ?_)
  have qv1 : (0 : Int) ≤ v1 ∧ v1 ≤ (600 : Int) := by
    rw [ev1]
    exact hH.rF (k := 1) (i := 0) rfl rfl
  refine x_putI C pkX_X8_40 (nlt rfl) rfl dX8_copy_5 ?_
  refine x_gX (fun Yy2 eYy2 => ?_)
  have hHy2 : HG vX Yy2 := by
    rw [eYy2]
    exact hg_wF hH (p := (0, 600)) rfl ⟨by omega, by omega⟩
  have hFy2 : FR mdKT104 X0 Yy2 := by
    rw [eYy2]
    exact FR.upI hF (rfl)
  replace eYy2 : Yy2 = upI X0 104 0 (v1) := eYy2
  refine x_aload_n (i := 0) C dX8_copy_8 rfl rfl ?_
  refine x_aload_n (i := 1) C dX8_copy_9 rfl rfl ?_
  refine x_getI C fkX_X8_43 (nlt rfl) rfl dX8_copy_10 ?_
  refine x_gen (fun v3 ev3 => ?_)
  have qv3 : (0 : Int) ≤ v3 ∧ v3 ≤ (4 : Int) := by
    rw [ev3]
    exact hHy2.rF (k := 1) (i := 1) rfl rfl
  have kv3 : v3 = X0.1 1 1 := by rw [ev3, eYy2, upI_nc (by decide)]
  refine x_putI C pkX_X8_43 (nlt rfl) rfl dX8_copy_13 ?_
  refine x_gX (fun Yy4 eYy4 => ?_)
  have hHy4 : HG vX Yy4 := by
    rw [eYy4]
    exact hg_wF hHy2 (p := (0, 4)) rfl ⟨by omega, by omega⟩
  have hFy4 : FR mdKT104 X0 Yy4 := by
    rw [eYy4]
    exact FR.upI hFy2 (rfl)
  replace eYy4 : Yy4 = upI Yy2 104 1 (v3) := eYy4
  refine x_aload_n (i := 0) C dX8_copy_16 rfl rfl ?_
  refine x_aload_n (i := 1) C dX8_copy_17 rfl rfl ?_
  refine x_getI C fkX_X8_9 (nlt rfl) rfl dX8_copy_18 ?_
  refine x_gen (fun v5 ev5 => ?_)
  have qv5 : ((-1) : Int) ≤ v5 ∧ v5 ≤ (600 : Int) := by
    rw [ev5]
    exact hHy4.rF (k := 1) (i := 2) rfl rfl
  have kv5 : v5 = X0.1 1 2 := by rw [ev5, eYy4, upI_nc (by decide), eYy2, upI_nc (by decide)]
  refine x_putI C pkX_X8_9 (nlt rfl) rfl dX8_copy_21 ?_
  refine x_gX (fun Yy6 eYy6 => ?_)
  have hHy6 : HG vX Yy6 := by
    rw [eYy6]
    exact hg_wF hHy4 (p := ((-1), 600)) rfl ⟨by omega, by omega⟩
  have hFy6 : FR mdKT104 X0 Yy6 := by
    rw [eYy6]
    exact FR.upI hFy4 (rfl)
  replace eYy6 : Yy6 = upI Yy4 104 2 (v5) := eYy6
  refine x_aload_n (i := 1) C dX8_copy_24 rfl rfl ?_
  refine x_getRs (r := 2) C fkX_X8_15 (nlt rfl) rfl (HG.rR hHy6 (k := 1) (i := 3) rfl rfl) dX8_copy_25 ?_
  refine x_iconst C dX8_copy_28 ?_
  refine x_aload_n (i := 0) C dX8_copy_29 rfl rfl ?_
  refine x_getRs (r := 105) C fkX_X8_15 (nlt rfl) rfl (HG.rR hHy6 (k := 104) (i := 3) rfl rfl) dX8_copy_30 ?_
  refine x_iconst C dX8_copy_33 ?_
  refine x_sipush C dX8_copy_34 (by decide) ?_
  refine x_cpyI C cpX8_46 (nlt rfl) rfl rfl (nlt rfl) rfl rfl rfl (by omega) (by omega) (by omega) (by omega) (by omega) (nle rfl) (nle rfl) (nle rfl) (nle rfl) dX8_copy_37 ?_
  refine x_gX (fun Yy7 eYy7 => ?_)
  have hHy7 : HG vX Yy7 := by
    rw [eYy7]
    exact HG.cpI hHy6 (nlt rfl) rfl (nle rfl) (by decide +kernel)
  have hFy7 : FR mdKT104 X0 Yy7 := by
    rw [eYy7]
    exact FR.cpI hFy6 (fun _ => rfl)
  refine x_aload_n (i := 1) C dX8_copy_40 rfl rfl ?_
  refine x_getRs (r := 3) C fkX_X8_19 (nlt rfl) rfl (HG.rR hHy7 (k := 1) (i := 4) rfl rfl) dX8_copy_41 ?_
  refine x_iconst C dX8_copy_44 ?_
  refine x_aload_n (i := 0) C dX8_copy_45 rfl rfl ?_
  refine x_getRs (r := 106) C fkX_X8_19 (nlt rfl) rfl (HG.rR hHy7 (k := 104) (i := 4) rfl rfl) dX8_copy_46 ?_
  refine x_iconst C dX8_copy_49 ?_
  refine x_iconst C dX8_copy_50 ?_
  refine x_cpyI C cpX8_46 (nlt rfl) rfl rfl (nlt rfl) rfl rfl rfl (by omega) (by omega) (by omega) (by omega) (by omega) (nle rfl) (nle rfl) (nle rfl) (nle rfl) dX8_copy_51 ?_
  refine x_gX (fun Yy8 eYy8 => ?_)
  have hHy8 : HG vX Yy8 := by
    rw [eYy8]
    exact HG.cpI hHy7 (nlt rfl) rfl (nle rfl) (by decide +kernel)
  have hFy8 : FR mdKT104 X0 Yy8 := by
    rw [eYy8]
    exact FR.cpI hFy7 (fun _ => rfl)
  refine x_aload_n (i := 1) C dX8_copy_54 rfl rfl ?_
  refine x_getRs (r := 5) C fkX_X8_28 (nlt rfl) rfl (HG.rR hHy8 (k := 1) (i := 6) rfl rfl) dX8_copy_55 ?_
  refine x_iconst C dX8_copy_58 ?_
  refine x_aload_n (i := 0) C dX8_copy_59 rfl rfl ?_
  refine x_getRs (r := 108) C fkX_X8_28 (nlt rfl) rfl (HG.rR hHy8 (k := 104) (i := 6) rfl rfl) dX8_copy_60 ?_
  refine x_iconst C dX8_copy_63 ?_
  refine x_iconst C dX8_copy_64 ?_
  refine x_cpyL C cpX8_46 (nlt rfl) rfl rfl (nlt rfl) rfl rfl (by omega) (by omega) (by omega) (by omega) (by omega) (nle rfl) (nle rfl) (nle rfl) (nle rfl) dX8_copy_65 ?_
  refine x_gX (fun Yy9 eYy9 => ?_)
  have hHy9 : HG vX Yy9 := by
    rw [eYy9]
    exact HG.cpL hHy8 (nlt rfl) rfl (nle rfl) (by decide +kernel)
  have hFy9 : FR mdKT104 X0 Yy9 := by
    rw [eYy9]
    exact FR.cpL hFy8 (fun _ => rfl)
  refine x_iconst C dX8_copy_68 ?_
  refine x_istore_n (i := 2) (lv' := [(2, .int (iI (0))), (0, .ref 104), (1, .ref 1)]) C dX8_copy_69 rfl (nlt rfl) rfl ?_
  refine x_iload_n (i := 2) C dX8_copy_70 rfl rfl ?_
  refine x_iconst C dX8_copy_71 ?_
  refine x_icmp_ge (tgt := 96) C dX8_copy_72 (by decide) ⟨by omega, by omega⟩ ⟨by omega, by omega⟩ (fun h10 => by exfalso; omega) (fun h10 => ?_)
  refine x_aload_n (i := 0) C dX8_copy_75 rfl rfl ?_
  refine x_getRs (r := 107) C fkX_X8_24 (nlt rfl) rfl (HG.rR hHy9 (k := 104) (i := 5) rfl rfl) dX8_copy_76 ?_
  refine x_iload_n (i := 2) C dX8_copy_79 rfl rfl ?_
  refine x_aald (r := some 110) C (nlt rfl) rfl rfl (nle rfl) (by omega) (by omega) (HG.rR hHy9 (k := 107) (i := 0) rfl rfl) dX8_copy_80 ?_
  refine x_aload_n (i := 1) C dX8_copy_81 rfl rfl ?_
  refine x_getRs (r := 4) C fkX_X8_24 (nlt rfl) rfl (HG.rR hHy9 (k := 1) (i := 5) rfl rfl) dX8_copy_82 ?_
  refine x_iload_n (i := 2) C dX8_copy_85 rfl rfl ?_
  refine x_aald (r := some 7) C (nlt rfl) rfl rfl (nle rfl) (by omega) (by omega) (HG.rR hHy9 (k := 4) (i := 0) rfl rfl) dX8_copy_86 ?_
  refine x_callV (As := [.ref 7]) C (by exact (c_kb110_7 hHy9 FR.rf)) ckX8_52 im_X0_copy se_X0_copy (nlt rfl) rfl rfl rfl rfl (nle rfl) (by exact ⟨nle rfl, nle rfl⟩) dX8_copy_87 ?_
  rintro _ Yy11 ⟨rfl, hHy11, hGy11, ccy11⟩
  have hFy11 : FR mdKT104 X0 Yy11 := FR.tr hFy9 hGy11 (by decide)
  refine Wx_st (st' := []) rfl ?_
  refine x_iinc (lv' := [(2, .int (iI (0 + 1))), (0, .ref 104), (1, .ref 1)]) C dX8_copy_90 rfl (nlt rfl) rfl ?_
  refine Wx_lv (lv' := [(2, .int (iI (1))), (0, .ref 104), (1, .ref 1)]) rfl ?_
  refine x_goto (tgt := 70) C dX8_copy_93 (by decide) ?_
  refine x_iload_n (i := 2) C dX8_copy_70 rfl rfl ?_
  refine x_iconst C dX8_copy_71 ?_
  refine x_icmp_ge (tgt := 96) C dX8_copy_72 (by decide) ⟨by omega, by omega⟩ ⟨by omega, by omega⟩ (fun h12 => by exfalso; omega) (fun h12 => ?_)
  refine x_aload_n (i := 0) C dX8_copy_75 rfl rfl ?_
  refine x_getRs (r := 107) C fkX_X8_24 (nlt rfl) rfl (HG.rR hHy11 (k := 104) (i := 5) rfl rfl) dX8_copy_76 ?_
  refine x_iload_n (i := 2) C dX8_copy_79 rfl rfl ?_
  refine x_aald (r := some 113) C (nlt rfl) rfl rfl (nle rfl) (by omega) (by omega) (HG.rR hHy11 (k := 107) (i := 1) rfl rfl) dX8_copy_80 ?_
  refine x_aload_n (i := 1) C dX8_copy_81 rfl rfl ?_
  refine x_getRs (r := 4) C fkX_X8_24 (nlt rfl) rfl (HG.rR hHy11 (k := 1) (i := 5) rfl rfl) dX8_copy_82 ?_
  refine x_iload_n (i := 2) C dX8_copy_85 rfl rfl ?_
  refine x_aald (r := some 10) C (nlt rfl) rfl rfl (nle rfl) (by omega) (by omega) (HG.rR hHy11 (k := 4) (i := 1) rfl rfl) dX8_copy_86 ?_
  refine x_callV (As := [.ref 10]) C (by exact (c_kb113_10 hHy11 FR.rf)) ckX8_52 im_X0_copy se_X0_copy (nlt rfl) rfl rfl rfl rfl (nle rfl) (by exact ⟨nle rfl, nle rfl⟩) dX8_copy_87 ?_
  rintro _ Yy13 ⟨rfl, hHy13, hGy13, ccy13⟩
  have hFy13 : FR mdKT104 X0 Yy13 := FR.tr hFy11 hGy13 (by decide)
  refine Wx_st (st' := []) rfl ?_
  refine x_iinc (lv' := [(2, .int (iI (1 + 1))), (0, .ref 104), (1, .ref 1)]) C dX8_copy_90 rfl (nlt rfl) rfl ?_
  refine Wx_lv (lv' := [(2, .int (iI (2))), (0, .ref 104), (1, .ref 1)]) rfl ?_
  refine x_goto (tgt := 70) C dX8_copy_93 (by decide) ?_
  refine x_iload_n (i := 2) C dX8_copy_70 rfl rfl ?_
  refine x_iconst C dX8_copy_71 ?_
  refine x_icmp_ge (tgt := 96) C dX8_copy_72 (by decide) ⟨by omega, by omega⟩ ⟨by omega, by omega⟩ (fun h14 => ?_) (fun h14 => by exfalso; omega)
  refine x_iconst C dX8_copy_96 ?_
  refine x_istore_n (i := 2) (lv' := [(2, .int (iI (0))), (0, .ref 104), (1, .ref 1)]) C dX8_copy_97 rfl (nlt rfl) rfl ?_
  refine x_iload_n (i := 2) C dX8_copy_98 rfl rfl ?_
  refine x_iconst C dX8_copy_99 ?_
  refine x_icmp_ge (tgt := 124) C dX8_copy_100 (by decide) ⟨by omega, by omega⟩ ⟨by omega, by omega⟩ (fun h15 => by exfalso; omega) (fun h15 => ?_)
  refine x_aload_n (i := 0) C dX8_copy_103 rfl rfl ?_
  refine x_getRs (r := 109) C fkX_X8_34 (nlt rfl) rfl (HG.rR hHy13 (k := 104) (i := 7) rfl rfl) dX8_copy_104 ?_
  refine x_iload_n (i := 2) C dX8_copy_107 rfl rfl ?_
  refine x_aald (r := some 116) C (nlt rfl) rfl rfl (nle rfl) (by omega) (by omega) (HG.rR hHy13 (k := 109) (i := 0) rfl rfl) dX8_copy_108 ?_
  refine x_aload_n (i := 1) C dX8_copy_109 rfl rfl ?_
  refine x_getRs (r := 6) C fkX_X8_34 (nlt rfl) rfl (HG.rR hHy13 (k := 1) (i := 7) rfl rfl) dX8_copy_110 ?_
  refine x_iload_n (i := 2) C dX8_copy_113 rfl rfl ?_
  refine x_aald (r := some 13) C (nlt rfl) rfl rfl (nle rfl) (by omega) (by omega) (HG.rR hHy13 (k := 6) (i := 0) rfl rfl) dX8_copy_114 ?_
  refine x_callV (As := [.ref 13]) C (by exact (c_kg116_13 hHy13 FR.rf)) ckX8_56 im_X2_copy se_X2_copy (nlt rfl) rfl rfl rfl rfl (nle rfl) (by exact ⟨nle rfl, nle rfl⟩) dX8_copy_115 ?_
  rintro _ Yy16 ⟨rfl, hHy16, hGy16, ccy16⟩
  have hFy16 : FR mdKT104 X0 Yy16 := FR.tr hFy13 hGy16 (by decide)
  refine Wx_st (st' := []) rfl ?_
  refine x_iinc (lv' := [(2, .int (iI (0 + 1))), (0, .ref 104), (1, .ref 1)]) C dX8_copy_118 rfl (nlt rfl) rfl ?_
  refine Wx_lv (lv' := [(2, .int (iI (1))), (0, .ref 104), (1, .ref 1)]) rfl ?_
  refine x_goto (tgt := 98) C dX8_copy_121 (by decide) ?_
  refine x_iload_n (i := 2) C dX8_copy_98 rfl rfl ?_
  refine x_iconst C dX8_copy_99 ?_
  refine x_icmp_ge (tgt := 124) C dX8_copy_100 (by decide) ⟨by omega, by omega⟩ ⟨by omega, by omega⟩ (fun h17 => by exfalso; omega) (fun h17 => ?_)
  refine x_aload_n (i := 0) C dX8_copy_103 rfl rfl ?_
  refine x_getRs (r := 109) C fkX_X8_34 (nlt rfl) rfl (HG.rR hHy16 (k := 104) (i := 7) rfl rfl) dX8_copy_104 ?_
  refine x_iload_n (i := 2) C dX8_copy_107 rfl rfl ?_
  refine x_aald (r := some 119) C (nlt rfl) rfl rfl (nle rfl) (by omega) (by omega) (HG.rR hHy16 (k := 109) (i := 1) rfl rfl) dX8_copy_108 ?_
  refine x_aload_n (i := 1) C dX8_copy_109 rfl rfl ?_
  refine x_getRs (r := 6) C fkX_X8_34 (nlt rfl) rfl (HG.rR hHy16 (k := 1) (i := 7) rfl rfl) dX8_copy_110 ?_
  refine x_iload_n (i := 2) C dX8_copy_113 rfl rfl ?_
  refine x_aald (r := some 16) C (nlt rfl) rfl rfl (nle rfl) (by omega) (by omega) (HG.rR hHy16 (k := 6) (i := 1) rfl rfl) dX8_copy_114 ?_
  refine x_callV (As := [.ref 16]) C (by exact (c_kg119_16 hHy16 FR.rf)) ckX8_56 im_X2_copy se_X2_copy (nlt rfl) rfl rfl rfl rfl (nle rfl) (by exact ⟨nle rfl, nle rfl⟩) dX8_copy_115 ?_
  rintro _ Yy18 ⟨rfl, hHy18, hGy18, ccy18⟩
  have hFy18 : FR mdKT104 X0 Yy18 := FR.tr hFy16 hGy18 (by decide)
  refine Wx_st (st' := []) rfl ?_
  refine x_iinc (lv' := [(2, .int (iI (1 + 1))), (0, .ref 104), (1, .ref 1)]) C dX8_copy_118 rfl (nlt rfl) rfl ?_
  refine Wx_lv (lv' := [(2, .int (iI (2))), (0, .ref 104), (1, .ref 1)]) rfl ?_
  refine x_goto (tgt := 98) C dX8_copy_121 (by decide) ?_
  refine x_iload_n (i := 2) C dX8_copy_98 rfl rfl ?_
  refine x_iconst C dX8_copy_99 ?_
  refine x_icmp_ge (tgt := 124) C dX8_copy_100 (by decide) ⟨by omega, by omega⟩ ⟨by omega, by omega⟩ (fun h19 => ?_) (fun h19 => by exfalso; omega)
  exact x_vret C hQ dX8_copy_124 (⟨rfl, hHy18, hFy18, by rw [(hGy18 104 0 rfl).1, (hGy16 104 0 rfl).1, (hGy13 104 0 rfl).1, (hGy11 104 0 rfl).1, eYy9, cpL_1, eYy8, cpI_o1 (by decide), eYy7, cpI_o1 (by decide), eYy6, upI_ne (by decide), eYy4, upI_ne (by decide), eYy2, upI_at]; omega, by rw [(hGy18 104 1 rfl).1, (hGy16 104 1 rfl).1, (hGy13 104 1 rfl).1, (hGy11 104 1 rfl).1, eYy9, cpL_1, eYy8, cpI_o1 (by decide), eYy7, cpI_o1 (by decide), eYy6, upI_ne (by decide), eYy4, upI_at]; omega, by rw [(hGy18 104 2 rfl).1, (hGy16 104 2 rfl).1, (hGy13 104 2 rfl).1, (hGy11 104 2 rfl).1, eYy9, cpL_1, eYy8, cpI_o1 (by decide), eYy7, cpI_o1 (by decide), eYy6, upI_at]; omega, fun j hj => by rw [(hGy18 105 j rfl).1, (hGy16 105 j rfl).1, (hGy13 105 j rfl).1, (hGy11 105 j rfl).1, eYy9, cpL_1, eYy8, cpI_o1 (by decide), eYy7, cpI_r hj, eYy6, upI_nc (by decide), eYy4, upI_nc (by decide), eYy2, upI_nc (by decide)], fun j hj => by rw [(hGy18 106 j rfl).1, (hGy16 106 j rfl).1, (hGy13 106 j rfl).1, (hGy11 106 j rfl).1, eYy9, cpL_1, eYy8, cpI_r hj, eYy7, cpI_o1 (by decide), eYy6, upI_nc (by decide), eYy4, upI_nc (by decide), eYy2, upI_nc (by decide)], fun j hj => by rw [(hGy18 108 j rfl).2.1, (hGy16 108 j rfl).2.1, (hGy13 108 j rfl).2.1, (hGy11 108 j rfl).2.1, eYy9, cpL_r hj, eYy8, cpI_2, eYy7, cpI_2, eYy6, upI_2, eYy4, upI_2, eYy2, upI_2], (CPB.fr ccy11 hFy9 (fun _ => ⟨rfl, rfl, rfl⟩) (FR.tr (FR.tr (FR.tr (FR.rf : FR mdKT104r0 Yy11 Yy11) hGy13 (by decide)) hGy16 (by decide)) hGy18 (by decide)) (fun _ => ⟨rfl, rfl, rfl⟩)), (CPB.fr ccy13 hFy11 (fun _ => ⟨rfl, rfl, rfl⟩) (FR.tr (FR.tr (FR.rf : FR mdKT104r1 Yy13 Yy13) hGy16 (by decide)) hGy18 (by decide)) (fun _ => ⟨rfl, rfl, rfl⟩)), (CPG.fr ccy16 hFy13 (fun _ => ⟨rfl, rfl, rfl⟩) (FR.tr (FR.rf : FR mdKT104r2 Yy16 Yy16) hGy18 (by decide)) (fun _ => ⟨rfl, rfl, rfl⟩)), (CPG.fr ccy18 hFy16 (fun _ => ⟨rfl, rfl, rfl⟩) (FR.rf : FR [] Yy18 Yy18) (fun _ => ⟨rfl, rfl, rfl⟩))⟩)
abbrev mdKT122 : List (Nat × Option Nat) := [(122, some 0), (122, some 1), (122, some 2), (123, none), (124, none), (126, none), (128, some 0), (128, some 1), (128, some 2), (128, some 3), (128, some 4), (129, none), (130, none), (131, some 0), (131, some 1), (131, some 2), (131, some 3), (131, some 4), (132, none), (133, none), (134, some 0), (135, none), (136, none), (137, some 0), (138, none), (139, none)]
abbrev mdKT122r0 : List (Nat × Option Nat) := [(131, some 0), (131, some 1), (131, some 2), (131, some 3), (131, some 4), (132, none), (133, none), (134, some 0), (135, none), (136, none), (137, some 0), (138, none), (139, none)]
abbrev mdKT122r1 : List (Nat × Option Nat) := [(134, some 0), (135, none), (136, none), (137, some 0), (138, none), (139, none)]
abbrev mdKT122r2 : List (Nat × Option Nat) := [(137, some 0), (138, none), (139, none)]
set_option maxHeartbeats 4000000 in
set_option maxRecDepth 100000 in
theorem c_kt122_1 {D : va_G} {ad : Nat → Nat} {cA : Nat → ClassId} {X0 : XT} (hH : HG vX X0) (hF : FR mdKT122 X0 X0) : MetX (wX D ad cA) yX8_copy cX8_copy 3 none 2 81 [.ref 122, .ref 1] X0 (fun r X1 => r = none ∧ HG vX X1 ∧ FR mdKT122 X0 X1 ∧ X1.1 122 0 = X0.1 1 0 ∧ X1.1 122 1 = X0.1 1 1 ∧ X1.1 122 2 = X0.1 1 2 ∧ (∀ j, j < 600 → X1.1 123 j = X0.1 2 j) ∧ (∀ j, j < 3 → X1.1 124 j = X0.1 3 j) ∧ (∀ j, j < 3 → X1.2.1 126 j = X0.2.1 5 j) ∧ CPB 128 129 130 7 8 9 X0 X1 ∧ CPB 131 132 133 10 11 12 X0 X1 ∧ CPG 134 135 136 13 14 15 X0 X1 ∧ CPG 137 138 139 16 17 18 X0 X1) := by
  refine MetX.mk (own := RX8) (by decide +kernel) rfl (nle rfl) (fun E C hQ => ?_)
  refine Wx_lv (lv' := [(0, .ref 122), (1, .ref 1)]) rfl ?_
  refine x_aload_n (i := 0) C dX8_copy_0 rfl rfl ?_
  refine x_aload_n (i := 1) C dX8_copy_1 rfl rfl ?_
  refine x_getI C fkX_X8_40 (nlt rfl) rfl dX8_copy_2 ?_
  refine x_gen (fun v1 ev1 => ?_)
  have qv1 : (0 : Int) ≤ v1 ∧ v1 ≤ (600 : Int) := by
    rw [ev1]
    exact hH.rF (k := 1) (i := 0) rfl rfl
  refine x_putI C pkX_X8_40 (nlt rfl) rfl dX8_copy_5 ?_
  refine x_gX (fun Yy2 eYy2 => ?_)
  have hHy2 : HG vX Yy2 := by
    rw [eYy2]
    exact hg_wF hH (p := (0, 600)) rfl ⟨by omega, by omega⟩
  have hFy2 : FR mdKT122 X0 Yy2 := by
    rw [eYy2]
    exact FR.upI hF (rfl)
  replace eYy2 : Yy2 = upI X0 122 0 (v1) := eYy2
  refine x_aload_n (i := 0) C dX8_copy_8 rfl rfl ?_
  refine x_aload_n (i := 1) C dX8_copy_9 rfl rfl ?_
  refine x_getI C fkX_X8_43 (nlt rfl) rfl dX8_copy_10 ?_
  refine x_gen (fun v3 ev3 => ?_)
  have qv3 : (0 : Int) ≤ v3 ∧ v3 ≤ (4 : Int) := by
    rw [ev3]
    exact hHy2.rF (k := 1) (i := 1) rfl rfl
  have kv3 : v3 = X0.1 1 1 := by rw [ev3, eYy2, upI_nc (by decide)]
  refine x_putI C pkX_X8_43 (nlt rfl) rfl dX8_copy_13 ?_
  refine x_gX (fun Yy4 eYy4 => ?_)
  have hHy4 : HG vX Yy4 := by
    rw [eYy4]
    exact hg_wF hHy2 (p := (0, 4)) rfl ⟨by omega, by omega⟩
  have hFy4 : FR mdKT122 X0 Yy4 := by
    rw [eYy4]
    exact FR.upI hFy2 (rfl)
  replace eYy4 : Yy4 = upI Yy2 122 1 (v3) := eYy4
  refine x_aload_n (i := 0) C dX8_copy_16 rfl rfl ?_
  refine x_aload_n (i := 1) C dX8_copy_17 rfl rfl ?_
  refine x_getI C fkX_X8_9 (nlt rfl) rfl dX8_copy_18 ?_
  refine x_gen (fun v5 ev5 => ?_)
  have qv5 : ((-1) : Int) ≤ v5 ∧ v5 ≤ (600 : Int) := by
    rw [ev5]
    exact hHy4.rF (k := 1) (i := 2) rfl rfl
  have kv5 : v5 = X0.1 1 2 := by rw [ev5, eYy4, upI_nc (by decide), eYy2, upI_nc (by decide)]
  refine x_putI C pkX_X8_9 (nlt rfl) rfl dX8_copy_21 ?_
  refine x_gX (fun Yy6 eYy6 => ?_)
  have hHy6 : HG vX Yy6 := by
    rw [eYy6]
    exact hg_wF hHy4 (p := ((-1), 600)) rfl ⟨by omega, by omega⟩
  have hFy6 : FR mdKT122 X0 Yy6 := by
    rw [eYy6]
    exact FR.upI hFy4 (rfl)
  replace eYy6 : Yy6 = upI Yy4 122 2 (v5) := eYy6
  refine x_aload_n (i := 1) C dX8_copy_24 rfl rfl ?_
  refine x_getRs (r := 2) C fkX_X8_15 (nlt rfl) rfl (HG.rR hHy6 (k := 1) (i := 3) rfl rfl) dX8_copy_25 ?_
  refine x_iconst C dX8_copy_28 ?_
  refine x_aload_n (i := 0) C dX8_copy_29 rfl rfl ?_
  refine x_getRs (r := 123) C fkX_X8_15 (nlt rfl) rfl (HG.rR hHy6 (k := 122) (i := 3) rfl rfl) dX8_copy_30 ?_
  refine x_iconst C dX8_copy_33 ?_
  refine x_sipush C dX8_copy_34 (by decide) ?_
  refine x_cpyI C cpX8_46 (nlt rfl) rfl rfl (nlt rfl) rfl rfl rfl (by omega) (by omega) (by omega) (by omega) (by omega) (nle rfl) (nle rfl) (nle rfl) (nle rfl) dX8_copy_37 ?_
  refine x_gX (fun Yy7 eYy7 => ?_)
  have hHy7 : HG vX Yy7 := by
    rw [eYy7]
    exact HG.cpI hHy6 (nlt rfl) rfl (nle rfl) (by decide +kernel)
  have hFy7 : FR mdKT122 X0 Yy7 := by
    rw [eYy7]
    exact FR.cpI hFy6 (fun _ => rfl)
  refine x_aload_n (i := 1) C dX8_copy_40 rfl rfl ?_
  refine x_getRs (r := 3) C fkX_X8_19 (nlt rfl) rfl (HG.rR hHy7 (k := 1) (i := 4) rfl rfl) dX8_copy_41 ?_
  refine x_iconst C dX8_copy_44 ?_
  refine x_aload_n (i := 0) C dX8_copy_45 rfl rfl ?_
  refine x_getRs (r := 124) C fkX_X8_19 (nlt rfl) rfl (HG.rR hHy7 (k := 122) (i := 4) rfl rfl) dX8_copy_46 ?_
  refine x_iconst C dX8_copy_49 ?_
  refine x_iconst C dX8_copy_50 ?_
  refine x_cpyI C cpX8_46 (nlt rfl) rfl rfl (nlt rfl) rfl rfl rfl (by omega) (by omega) (by omega) (by omega) (by omega) (nle rfl) (nle rfl) (nle rfl) (nle rfl) dX8_copy_51 ?_
  refine x_gX (fun Yy8 eYy8 => ?_)
  have hHy8 : HG vX Yy8 := by
    rw [eYy8]
    exact HG.cpI hHy7 (nlt rfl) rfl (nle rfl) (by decide +kernel)
  have hFy8 : FR mdKT122 X0 Yy8 := by
    rw [eYy8]
    exact FR.cpI hFy7 (fun _ => rfl)
  refine x_aload_n (i := 1) C dX8_copy_54 rfl rfl ?_
  refine x_getRs (r := 5) C fkX_X8_28 (nlt rfl) rfl (HG.rR hHy8 (k := 1) (i := 6) rfl rfl) dX8_copy_55 ?_
  refine x_iconst C dX8_copy_58 ?_
  refine x_aload_n (i := 0) C dX8_copy_59 rfl rfl ?_
  refine x_getRs (r := 126) C fkX_X8_28 (nlt rfl) rfl (HG.rR hHy8 (k := 122) (i := 6) rfl rfl) dX8_copy_60 ?_
  refine x_iconst C dX8_copy_63 ?_
  refine x_iconst C dX8_copy_64 ?_
  refine x_cpyL C cpX8_46 (nlt rfl) rfl rfl (nlt rfl) rfl rfl (by omega) (by omega) (by omega) (by omega) (by omega) (nle rfl) (nle rfl) (nle rfl) (nle rfl) dX8_copy_65 ?_
  refine x_gX (fun Yy9 eYy9 => ?_)
  have hHy9 : HG vX Yy9 := by
    rw [eYy9]
    exact HG.cpL hHy8 (nlt rfl) rfl (nle rfl) (by decide +kernel)
  have hFy9 : FR mdKT122 X0 Yy9 := by
    rw [eYy9]
    exact FR.cpL hFy8 (fun _ => rfl)
  refine x_iconst C dX8_copy_68 ?_
  refine x_istore_n (i := 2) (lv' := [(2, .int (iI (0))), (0, .ref 122), (1, .ref 1)]) C dX8_copy_69 rfl (nlt rfl) rfl ?_
  refine x_iload_n (i := 2) C dX8_copy_70 rfl rfl ?_
  refine x_iconst C dX8_copy_71 ?_
  refine x_icmp_ge (tgt := 96) C dX8_copy_72 (by decide) ⟨by omega, by omega⟩ ⟨by omega, by omega⟩ (fun h10 => by exfalso; omega) (fun h10 => ?_)
  refine x_aload_n (i := 0) C dX8_copy_75 rfl rfl ?_
  refine x_getRs (r := 125) C fkX_X8_24 (nlt rfl) rfl (HG.rR hHy9 (k := 122) (i := 5) rfl rfl) dX8_copy_76 ?_
  refine x_iload_n (i := 2) C dX8_copy_79 rfl rfl ?_
  refine x_aald (r := some 128) C (nlt rfl) rfl rfl (nle rfl) (by omega) (by omega) (HG.rR hHy9 (k := 125) (i := 0) rfl rfl) dX8_copy_80 ?_
  refine x_aload_n (i := 1) C dX8_copy_81 rfl rfl ?_
  refine x_getRs (r := 4) C fkX_X8_24 (nlt rfl) rfl (HG.rR hHy9 (k := 1) (i := 5) rfl rfl) dX8_copy_82 ?_
  refine x_iload_n (i := 2) C dX8_copy_85 rfl rfl ?_
  refine x_aald (r := some 7) C (nlt rfl) rfl rfl (nle rfl) (by omega) (by omega) (HG.rR hHy9 (k := 4) (i := 0) rfl rfl) dX8_copy_86 ?_
  refine x_callV (As := [.ref 7]) C (by exact (c_kb128_7 hHy9 FR.rf)) ckX8_52 im_X0_copy se_X0_copy (nlt rfl) rfl rfl rfl rfl (nle rfl) (by exact ⟨nle rfl, nle rfl⟩) dX8_copy_87 ?_
  rintro _ Yy11 ⟨rfl, hHy11, hGy11, ccy11⟩
  have hFy11 : FR mdKT122 X0 Yy11 := FR.tr hFy9 hGy11 (by decide)
  refine Wx_st (st' := []) rfl ?_
  refine x_iinc (lv' := [(2, .int (iI (0 + 1))), (0, .ref 122), (1, .ref 1)]) C dX8_copy_90 rfl (nlt rfl) rfl ?_
  refine Wx_lv (lv' := [(2, .int (iI (1))), (0, .ref 122), (1, .ref 1)]) rfl ?_
  refine x_goto (tgt := 70) C dX8_copy_93 (by decide) ?_
  refine x_iload_n (i := 2) C dX8_copy_70 rfl rfl ?_
  refine x_iconst C dX8_copy_71 ?_
  refine x_icmp_ge (tgt := 96) C dX8_copy_72 (by decide) ⟨by omega, by omega⟩ ⟨by omega, by omega⟩ (fun h12 => by exfalso; omega) (fun h12 => ?_)
  refine x_aload_n (i := 0) C dX8_copy_75 rfl rfl ?_
  refine x_getRs (r := 125) C fkX_X8_24 (nlt rfl) rfl (HG.rR hHy11 (k := 122) (i := 5) rfl rfl) dX8_copy_76 ?_
  refine x_iload_n (i := 2) C dX8_copy_79 rfl rfl ?_
  refine x_aald (r := some 131) C (nlt rfl) rfl rfl (nle rfl) (by omega) (by omega) (HG.rR hHy11 (k := 125) (i := 1) rfl rfl) dX8_copy_80 ?_
  refine x_aload_n (i := 1) C dX8_copy_81 rfl rfl ?_
  refine x_getRs (r := 4) C fkX_X8_24 (nlt rfl) rfl (HG.rR hHy11 (k := 1) (i := 5) rfl rfl) dX8_copy_82 ?_
  refine x_iload_n (i := 2) C dX8_copy_85 rfl rfl ?_
  refine x_aald (r := some 10) C (nlt rfl) rfl rfl (nle rfl) (by omega) (by omega) (HG.rR hHy11 (k := 4) (i := 1) rfl rfl) dX8_copy_86 ?_
  refine x_callV (As := [.ref 10]) C (by exact (c_kb131_10 hHy11 FR.rf)) ckX8_52 im_X0_copy se_X0_copy (nlt rfl) rfl rfl rfl rfl (nle rfl) (by exact ⟨nle rfl, nle rfl⟩) dX8_copy_87 ?_
  rintro _ Yy13 ⟨rfl, hHy13, hGy13, ccy13⟩
  have hFy13 : FR mdKT122 X0 Yy13 := FR.tr hFy11 hGy13 (by decide)
  refine Wx_st (st' := []) rfl ?_
  refine x_iinc (lv' := [(2, .int (iI (1 + 1))), (0, .ref 122), (1, .ref 1)]) C dX8_copy_90 rfl (nlt rfl) rfl ?_
  refine Wx_lv (lv' := [(2, .int (iI (2))), (0, .ref 122), (1, .ref 1)]) rfl ?_
  refine x_goto (tgt := 70) C dX8_copy_93 (by decide) ?_
  refine x_iload_n (i := 2) C dX8_copy_70 rfl rfl ?_
  refine x_iconst C dX8_copy_71 ?_
  refine x_icmp_ge (tgt := 96) C dX8_copy_72 (by decide) ⟨by omega, by omega⟩ ⟨by omega, by omega⟩ (fun h14 => ?_) (fun h14 => by exfalso; omega)
  refine x_iconst C dX8_copy_96 ?_
  refine x_istore_n (i := 2) (lv' := [(2, .int (iI (0))), (0, .ref 122), (1, .ref 1)]) C dX8_copy_97 rfl (nlt rfl) rfl ?_
  refine x_iload_n (i := 2) C dX8_copy_98 rfl rfl ?_
  refine x_iconst C dX8_copy_99 ?_
  refine x_icmp_ge (tgt := 124) C dX8_copy_100 (by decide) ⟨by omega, by omega⟩ ⟨by omega, by omega⟩ (fun h15 => by exfalso; omega) (fun h15 => ?_)
  refine x_aload_n (i := 0) C dX8_copy_103 rfl rfl ?_
  refine x_getRs (r := 127) C fkX_X8_34 (nlt rfl) rfl (HG.rR hHy13 (k := 122) (i := 7) rfl rfl) dX8_copy_104 ?_
  refine x_iload_n (i := 2) C dX8_copy_107 rfl rfl ?_
  refine x_aald (r := some 134) C (nlt rfl) rfl rfl (nle rfl) (by omega) (by omega) (HG.rR hHy13 (k := 127) (i := 0) rfl rfl) dX8_copy_108 ?_
  refine x_aload_n (i := 1) C dX8_copy_109 rfl rfl ?_
  refine x_getRs (r := 6) C fkX_X8_34 (nlt rfl) rfl (HG.rR hHy13 (k := 1) (i := 7) rfl rfl) dX8_copy_110 ?_
  refine x_iload_n (i := 2) C dX8_copy_113 rfl rfl ?_
  refine x_aald (r := some 13) C (nlt rfl) rfl rfl (nle rfl) (by omega) (by omega) (HG.rR hHy13 (k := 6) (i := 0) rfl rfl) dX8_copy_114 ?_
  refine x_callV (As := [.ref 13]) C (by exact (c_kg134_13 hHy13 FR.rf)) ckX8_56 im_X2_copy se_X2_copy (nlt rfl) rfl rfl rfl rfl (nle rfl) (by exact ⟨nle rfl, nle rfl⟩) dX8_copy_115 ?_
  rintro _ Yy16 ⟨rfl, hHy16, hGy16, ccy16⟩
  have hFy16 : FR mdKT122 X0 Yy16 := FR.tr hFy13 hGy16 (by decide)
  refine Wx_st (st' := []) rfl ?_
  refine x_iinc (lv' := [(2, .int (iI (0 + 1))), (0, .ref 122), (1, .ref 1)]) C dX8_copy_118 rfl (nlt rfl) rfl ?_
  refine Wx_lv (lv' := [(2, .int (iI (1))), (0, .ref 122), (1, .ref 1)]) rfl ?_
  refine x_goto (tgt := 98) C dX8_copy_121 (by decide) ?_
  refine x_iload_n (i := 2) C dX8_copy_98 rfl rfl ?_
  refine x_iconst C dX8_copy_99 ?_
  refine x_icmp_ge (tgt := 124) C dX8_copy_100 (by decide) ⟨by omega, by omega⟩ ⟨by omega, by omega⟩ (fun h17 => by exfalso; omega) (fun h17 => ?_)
  refine x_aload_n (i := 0) C dX8_copy_103 rfl rfl ?_
  refine x_getRs (r := 127) C fkX_X8_34 (nlt rfl) rfl (HG.rR hHy16 (k := 122) (i := 7) rfl rfl) dX8_copy_104 ?_
  refine x_iload_n (i := 2) C dX8_copy_107 rfl rfl ?_
  refine x_aald (r := some 137) C (nlt rfl) rfl rfl (nle rfl) (by omega) (by omega) (HG.rR hHy16 (k := 127) (i := 1) rfl rfl) dX8_copy_108 ?_
  refine x_aload_n (i := 1) C dX8_copy_109 rfl rfl ?_
  refine x_getRs (r := 6) C fkX_X8_34 (nlt rfl) rfl (HG.rR hHy16 (k := 1) (i := 7) rfl rfl) dX8_copy_110 ?_
  refine x_iload_n (i := 2) C dX8_copy_113 rfl rfl ?_
  refine x_aald (r := some 16) C (nlt rfl) rfl rfl (nle rfl) (by omega) (by omega) (HG.rR hHy16 (k := 6) (i := 1) rfl rfl) dX8_copy_114 ?_
  refine x_callV (As := [.ref 16]) C (by exact (c_kg137_16 hHy16 FR.rf)) ckX8_56 im_X2_copy se_X2_copy (nlt rfl) rfl rfl rfl rfl (nle rfl) (by exact ⟨nle rfl, nle rfl⟩) dX8_copy_115 ?_
  rintro _ Yy18 ⟨rfl, hHy18, hGy18, ccy18⟩
  have hFy18 : FR mdKT122 X0 Yy18 := FR.tr hFy16 hGy18 (by decide)
  refine Wx_st (st' := []) rfl ?_
  refine x_iinc (lv' := [(2, .int (iI (1 + 1))), (0, .ref 122), (1, .ref 1)]) C dX8_copy_118 rfl (nlt rfl) rfl ?_
  refine Wx_lv (lv' := [(2, .int (iI (2))), (0, .ref 122), (1, .ref 1)]) rfl ?_
  refine x_goto (tgt := 98) C dX8_copy_121 (by decide) ?_
  refine x_iload_n (i := 2) C dX8_copy_98 rfl rfl ?_
  refine x_iconst C dX8_copy_99 ?_
  refine x_icmp_ge (tgt := 124) C dX8_copy_100 (by decide) ⟨by omega, by omega⟩ ⟨by omega, by omega⟩ (fun h19 => ?_) (fun h19 => by exfalso; omega)
  exact x_vret C hQ dX8_copy_124 (⟨rfl, hHy18, hFy18, by rw [(hGy18 122 0 rfl).1, (hGy16 122 0 rfl).1, (hGy13 122 0 rfl).1, (hGy11 122 0 rfl).1, eYy9, cpL_1, eYy8, cpI_o1 (by decide), eYy7, cpI_o1 (by decide), eYy6, upI_ne (by decide), eYy4, upI_ne (by decide), eYy2, upI_at]; omega, by rw [(hGy18 122 1 rfl).1, (hGy16 122 1 rfl).1, (hGy13 122 1 rfl).1, (hGy11 122 1 rfl).1, eYy9, cpL_1, eYy8, cpI_o1 (by decide), eYy7, cpI_o1 (by decide), eYy6, upI_ne (by decide), eYy4, upI_at]; omega, by rw [(hGy18 122 2 rfl).1, (hGy16 122 2 rfl).1, (hGy13 122 2 rfl).1, (hGy11 122 2 rfl).1, eYy9, cpL_1, eYy8, cpI_o1 (by decide), eYy7, cpI_o1 (by decide), eYy6, upI_at]; omega, fun j hj => by rw [(hGy18 123 j rfl).1, (hGy16 123 j rfl).1, (hGy13 123 j rfl).1, (hGy11 123 j rfl).1, eYy9, cpL_1, eYy8, cpI_o1 (by decide), eYy7, cpI_r hj, eYy6, upI_nc (by decide), eYy4, upI_nc (by decide), eYy2, upI_nc (by decide)], fun j hj => by rw [(hGy18 124 j rfl).1, (hGy16 124 j rfl).1, (hGy13 124 j rfl).1, (hGy11 124 j rfl).1, eYy9, cpL_1, eYy8, cpI_r hj, eYy7, cpI_o1 (by decide), eYy6, upI_nc (by decide), eYy4, upI_nc (by decide), eYy2, upI_nc (by decide)], fun j hj => by rw [(hGy18 126 j rfl).2.1, (hGy16 126 j rfl).2.1, (hGy13 126 j rfl).2.1, (hGy11 126 j rfl).2.1, eYy9, cpL_r hj, eYy8, cpI_2, eYy7, cpI_2, eYy6, upI_2, eYy4, upI_2, eYy2, upI_2], (CPB.fr ccy11 hFy9 (fun _ => ⟨rfl, rfl, rfl⟩) (FR.tr (FR.tr (FR.tr (FR.rf : FR mdKT122r0 Yy11 Yy11) hGy13 (by decide)) hGy16 (by decide)) hGy18 (by decide)) (fun _ => ⟨rfl, rfl, rfl⟩)), (CPB.fr ccy13 hFy11 (fun _ => ⟨rfl, rfl, rfl⟩) (FR.tr (FR.tr (FR.rf : FR mdKT122r1 Yy13 Yy13) hGy16 (by decide)) hGy18 (by decide)) (fun _ => ⟨rfl, rfl, rfl⟩)), (CPG.fr ccy16 hFy13 (fun _ => ⟨rfl, rfl, rfl⟩) (FR.tr (FR.rf : FR mdKT122r2 Yy16 Yy16) hGy18 (by decide)) (fun _ => ⟨rfl, rfl, rfl⟩)), (CPG.fr ccy18 hFy16 (fun _ => ⟨rfl, rfl, rfl⟩) (FR.rf : FR [] Yy18 Yy18) (fun _ => ⟨rfl, rfl, rfl⟩))⟩)
abbrev mdKT140 : List (Nat × Option Nat) := [(140, some 0), (140, some 1), (140, some 2), (141, none), (142, none), (144, none), (146, some 0), (146, some 1), (146, some 2), (146, some 3), (146, some 4), (147, none), (148, none), (149, some 0), (149, some 1), (149, some 2), (149, some 3), (149, some 4), (150, none), (151, none), (152, some 0), (153, none), (154, none), (155, some 0), (156, none), (157, none)]
abbrev mdKT140r0 : List (Nat × Option Nat) := [(149, some 0), (149, some 1), (149, some 2), (149, some 3), (149, some 4), (150, none), (151, none), (152, some 0), (153, none), (154, none), (155, some 0), (156, none), (157, none)]
abbrev mdKT140r1 : List (Nat × Option Nat) := [(152, some 0), (153, none), (154, none), (155, some 0), (156, none), (157, none)]
abbrev mdKT140r2 : List (Nat × Option Nat) := [(155, some 0), (156, none), (157, none)]
set_option maxHeartbeats 4000000 in
set_option maxRecDepth 100000 in
theorem c_kt140_1 {D : va_G} {ad : Nat → Nat} {cA : Nat → ClassId} {X0 : XT} (hH : HG vX X0) (hF : FR mdKT140 X0 X0) : MetX (wX D ad cA) yX8_copy cX8_copy 3 none 2 81 [.ref 140, .ref 1] X0 (fun r X1 => r = none ∧ HG vX X1 ∧ FR mdKT140 X0 X1 ∧ X1.1 140 0 = X0.1 1 0 ∧ X1.1 140 1 = X0.1 1 1 ∧ X1.1 140 2 = X0.1 1 2 ∧ (∀ j, j < 600 → X1.1 141 j = X0.1 2 j) ∧ (∀ j, j < 3 → X1.1 142 j = X0.1 3 j) ∧ (∀ j, j < 3 → X1.2.1 144 j = X0.2.1 5 j) ∧ CPB 146 147 148 7 8 9 X0 X1 ∧ CPB 149 150 151 10 11 12 X0 X1 ∧ CPG 152 153 154 13 14 15 X0 X1 ∧ CPG 155 156 157 16 17 18 X0 X1) := by
  refine MetX.mk (own := RX8) (by decide +kernel) rfl (nle rfl) (fun E C hQ => ?_)
  refine Wx_lv (lv' := [(0, .ref 140), (1, .ref 1)]) rfl ?_
  refine x_aload_n (i := 0) C dX8_copy_0 rfl rfl ?_
  refine x_aload_n (i := 1) C dX8_copy_1 rfl rfl ?_
  refine x_getI C fkX_X8_40 (nlt rfl) rfl dX8_copy_2 ?_
  refine x_gen (fun v1 ev1 => ?_)
  have qv1 : (0 : Int) ≤ v1 ∧ v1 ≤ (600 : Int) := by
    rw [ev1]
    exact hH.rF (k := 1) (i := 0) rfl rfl
  refine x_putI C pkX_X8_40 (nlt rfl) rfl dX8_copy_5 ?_
  refine x_gX (fun Yy2 eYy2 => ?_)
  have hHy2 : HG vX Yy2 := by
    rw [eYy2]
    exact hg_wF hH (p := (0, 600)) rfl ⟨by omega, by omega⟩
  have hFy2 : FR mdKT140 X0 Yy2 := by
    rw [eYy2]
    exact FR.upI hF (rfl)
  replace eYy2 : Yy2 = upI X0 140 0 (v1) := eYy2
  refine x_aload_n (i := 0) C dX8_copy_8 rfl rfl ?_
  refine x_aload_n (i := 1) C dX8_copy_9 rfl rfl ?_
  refine x_getI C fkX_X8_43 (nlt rfl) rfl dX8_copy_10 ?_
  refine x_gen (fun v3 ev3 => ?_)
  have qv3 : (0 : Int) ≤ v3 ∧ v3 ≤ (4 : Int) := by
    rw [ev3]
    exact hHy2.rF (k := 1) (i := 1) rfl rfl
  have kv3 : v3 = X0.1 1 1 := by rw [ev3, eYy2, upI_nc (by decide)]
  refine x_putI C pkX_X8_43 (nlt rfl) rfl dX8_copy_13 ?_
  refine x_gX (fun Yy4 eYy4 => ?_)
  have hHy4 : HG vX Yy4 := by
    rw [eYy4]
    exact hg_wF hHy2 (p := (0, 4)) rfl ⟨by omega, by omega⟩
  have hFy4 : FR mdKT140 X0 Yy4 := by
    rw [eYy4]
    exact FR.upI hFy2 (rfl)
  replace eYy4 : Yy4 = upI Yy2 140 1 (v3) := eYy4
  refine x_aload_n (i := 0) C dX8_copy_16 rfl rfl ?_
  refine x_aload_n (i := 1) C dX8_copy_17 rfl rfl ?_
  refine x_getI C fkX_X8_9 (nlt rfl) rfl dX8_copy_18 ?_
  refine x_gen (fun v5 ev5 => ?_)
  have qv5 : ((-1) : Int) ≤ v5 ∧ v5 ≤ (600 : Int) := by
    rw [ev5]
    exact hHy4.rF (k := 1) (i := 2) rfl rfl
  have kv5 : v5 = X0.1 1 2 := by rw [ev5, eYy4, upI_nc (by decide), eYy2, upI_nc (by decide)]
  refine x_putI C pkX_X8_9 (nlt rfl) rfl dX8_copy_21 ?_
  refine x_gX (fun Yy6 eYy6 => ?_)
  have hHy6 : HG vX Yy6 := by
    rw [eYy6]
    exact hg_wF hHy4 (p := ((-1), 600)) rfl ⟨by omega, by omega⟩
  have hFy6 : FR mdKT140 X0 Yy6 := by
    rw [eYy6]
    exact FR.upI hFy4 (rfl)
  replace eYy6 : Yy6 = upI Yy4 140 2 (v5) := eYy6
  refine x_aload_n (i := 1) C dX8_copy_24 rfl rfl ?_
  refine x_getRs (r := 2) C fkX_X8_15 (nlt rfl) rfl (HG.rR hHy6 (k := 1) (i := 3) rfl rfl) dX8_copy_25 ?_
  refine x_iconst C dX8_copy_28 ?_
  refine x_aload_n (i := 0) C dX8_copy_29 rfl rfl ?_
  refine x_getRs (r := 141) C fkX_X8_15 (nlt rfl) rfl (HG.rR hHy6 (k := 140) (i := 3) rfl rfl) dX8_copy_30 ?_
  refine x_iconst C dX8_copy_33 ?_
  refine x_sipush C dX8_copy_34 (by decide) ?_
  refine x_cpyI C cpX8_46 (nlt rfl) rfl rfl (nlt rfl) rfl rfl rfl (by omega) (by omega) (by omega) (by omega) (by omega) (nle rfl) (nle rfl) (nle rfl) (nle rfl) dX8_copy_37 ?_
  refine x_gX (fun Yy7 eYy7 => ?_)
  have hHy7 : HG vX Yy7 := by
    rw [eYy7]
    exact HG.cpI hHy6 (nlt rfl) rfl (nle rfl) (by decide +kernel)
  have hFy7 : FR mdKT140 X0 Yy7 := by
    rw [eYy7]
    exact FR.cpI hFy6 (fun _ => rfl)
  refine x_aload_n (i := 1) C dX8_copy_40 rfl rfl ?_
  refine x_getRs (r := 3) C fkX_X8_19 (nlt rfl) rfl (HG.rR hHy7 (k := 1) (i := 4) rfl rfl) dX8_copy_41 ?_
  refine x_iconst C dX8_copy_44 ?_
  refine x_aload_n (i := 0) C dX8_copy_45 rfl rfl ?_
  refine x_getRs (r := 142) C fkX_X8_19 (nlt rfl) rfl (HG.rR hHy7 (k := 140) (i := 4) rfl rfl) dX8_copy_46 ?_
  refine x_iconst C dX8_copy_49 ?_
  refine x_iconst C dX8_copy_50 ?_
  refine x_cpyI C cpX8_46 (nlt rfl) rfl rfl (nlt rfl) rfl rfl rfl (by omega) (by omega) (by omega) (by omega) (by omega) (nle rfl) (nle rfl) (nle rfl) (nle rfl) dX8_copy_51 ?_
  refine x_gX (fun Yy8 eYy8 => ?_)
  have hHy8 : HG vX Yy8 := by
    rw [eYy8]
    exact HG.cpI hHy7 (nlt rfl) rfl (nle rfl) (by decide +kernel)
  have hFy8 : FR mdKT140 X0 Yy8 := by
    rw [eYy8]
    exact FR.cpI hFy7 (fun _ => rfl)
  refine x_aload_n (i := 1) C dX8_copy_54 rfl rfl ?_
  refine x_getRs (r := 5) C fkX_X8_28 (nlt rfl) rfl (HG.rR hHy8 (k := 1) (i := 6) rfl rfl) dX8_copy_55 ?_
  refine x_iconst C dX8_copy_58 ?_
  refine x_aload_n (i := 0) C dX8_copy_59 rfl rfl ?_
  refine x_getRs (r := 144) C fkX_X8_28 (nlt rfl) rfl (HG.rR hHy8 (k := 140) (i := 6) rfl rfl) dX8_copy_60 ?_
  refine x_iconst C dX8_copy_63 ?_
  refine x_iconst C dX8_copy_64 ?_
  refine x_cpyL C cpX8_46 (nlt rfl) rfl rfl (nlt rfl) rfl rfl (by omega) (by omega) (by omega) (by omega) (by omega) (nle rfl) (nle rfl) (nle rfl) (nle rfl) dX8_copy_65 ?_
  refine x_gX (fun Yy9 eYy9 => ?_)
  have hHy9 : HG vX Yy9 := by
    rw [eYy9]
    exact HG.cpL hHy8 (nlt rfl) rfl (nle rfl) (by decide +kernel)
  have hFy9 : FR mdKT140 X0 Yy9 := by
    rw [eYy9]
    exact FR.cpL hFy8 (fun _ => rfl)
  refine x_iconst C dX8_copy_68 ?_
  refine x_istore_n (i := 2) (lv' := [(2, .int (iI (0))), (0, .ref 140), (1, .ref 1)]) C dX8_copy_69 rfl (nlt rfl) rfl ?_
  refine x_iload_n (i := 2) C dX8_copy_70 rfl rfl ?_
  refine x_iconst C dX8_copy_71 ?_
  refine x_icmp_ge (tgt := 96) C dX8_copy_72 (by decide) ⟨by omega, by omega⟩ ⟨by omega, by omega⟩ (fun h10 => by exfalso; omega) (fun h10 => ?_)
  refine x_aload_n (i := 0) C dX8_copy_75 rfl rfl ?_
  refine x_getRs (r := 143) C fkX_X8_24 (nlt rfl) rfl (HG.rR hHy9 (k := 140) (i := 5) rfl rfl) dX8_copy_76 ?_
  refine x_iload_n (i := 2) C dX8_copy_79 rfl rfl ?_
  refine x_aald (r := some 146) C (nlt rfl) rfl rfl (nle rfl) (by omega) (by omega) (HG.rR hHy9 (k := 143) (i := 0) rfl rfl) dX8_copy_80 ?_
  refine x_aload_n (i := 1) C dX8_copy_81 rfl rfl ?_
  refine x_getRs (r := 4) C fkX_X8_24 (nlt rfl) rfl (HG.rR hHy9 (k := 1) (i := 5) rfl rfl) dX8_copy_82 ?_
  refine x_iload_n (i := 2) C dX8_copy_85 rfl rfl ?_
  refine x_aald (r := some 7) C (nlt rfl) rfl rfl (nle rfl) (by omega) (by omega) (HG.rR hHy9 (k := 4) (i := 0) rfl rfl) dX8_copy_86 ?_
  refine x_callV (As := [.ref 7]) C (by exact (c_kb146_7 hHy9 FR.rf)) ckX8_52 im_X0_copy se_X0_copy (nlt rfl) rfl rfl rfl rfl (nle rfl) (by exact ⟨nle rfl, nle rfl⟩) dX8_copy_87 ?_
  rintro _ Yy11 ⟨rfl, hHy11, hGy11, ccy11⟩
  have hFy11 : FR mdKT140 X0 Yy11 := FR.tr hFy9 hGy11 (by decide)
  refine Wx_st (st' := []) rfl ?_
  refine x_iinc (lv' := [(2, .int (iI (0 + 1))), (0, .ref 140), (1, .ref 1)]) C dX8_copy_90 rfl (nlt rfl) rfl ?_
  refine Wx_lv (lv' := [(2, .int (iI (1))), (0, .ref 140), (1, .ref 1)]) rfl ?_
  refine x_goto (tgt := 70) C dX8_copy_93 (by decide) ?_
  refine x_iload_n (i := 2) C dX8_copy_70 rfl rfl ?_
  refine x_iconst C dX8_copy_71 ?_
  refine x_icmp_ge (tgt := 96) C dX8_copy_72 (by decide) ⟨by omega, by omega⟩ ⟨by omega, by omega⟩ (fun h12 => by exfalso; omega) (fun h12 => ?_)
  refine x_aload_n (i := 0) C dX8_copy_75 rfl rfl ?_
  refine x_getRs (r := 143) C fkX_X8_24 (nlt rfl) rfl (HG.rR hHy11 (k := 140) (i := 5) rfl rfl) dX8_copy_76 ?_
  refine x_iload_n (i := 2) C dX8_copy_79 rfl rfl ?_
  refine x_aald (r := some 149) C (nlt rfl) rfl rfl (nle rfl) (by omega) (by omega) (HG.rR hHy11 (k := 143) (i := 1) rfl rfl) dX8_copy_80 ?_
  refine x_aload_n (i := 1) C dX8_copy_81 rfl rfl ?_
  refine x_getRs (r := 4) C fkX_X8_24 (nlt rfl) rfl (HG.rR hHy11 (k := 1) (i := 5) rfl rfl) dX8_copy_82 ?_
  refine x_iload_n (i := 2) C dX8_copy_85 rfl rfl ?_
  refine x_aald (r := some 10) C (nlt rfl) rfl rfl (nle rfl) (by omega) (by omega) (HG.rR hHy11 (k := 4) (i := 1) rfl rfl) dX8_copy_86 ?_
  refine x_callV (As := [.ref 10]) C (by exact (c_kb149_10 hHy11 FR.rf)) ckX8_52 im_X0_copy se_X0_copy (nlt rfl) rfl rfl rfl rfl (nle rfl) (by exact ⟨nle rfl, nle rfl⟩) dX8_copy_87 ?_
  rintro _ Yy13 ⟨rfl, hHy13, hGy13, ccy13⟩
  have hFy13 : FR mdKT140 X0 Yy13 := FR.tr hFy11 hGy13 (by decide)
  refine Wx_st (st' := []) rfl ?_
  refine x_iinc (lv' := [(2, .int (iI (1 + 1))), (0, .ref 140), (1, .ref 1)]) C dX8_copy_90 rfl (nlt rfl) rfl ?_
  refine Wx_lv (lv' := [(2, .int (iI (2))), (0, .ref 140), (1, .ref 1)]) rfl ?_
  refine x_goto (tgt := 70) C dX8_copy_93 (by decide) ?_
  refine x_iload_n (i := 2) C dX8_copy_70 rfl rfl ?_
  refine x_iconst C dX8_copy_71 ?_
  refine x_icmp_ge (tgt := 96) C dX8_copy_72 (by decide) ⟨by omega, by omega⟩ ⟨by omega, by omega⟩ (fun h14 => ?_) (fun h14 => by exfalso; omega)
  refine x_iconst C dX8_copy_96 ?_
  refine x_istore_n (i := 2) (lv' := [(2, .int (iI (0))), (0, .ref 140), (1, .ref 1)]) C dX8_copy_97 rfl (nlt rfl) rfl ?_
  refine x_iload_n (i := 2) C dX8_copy_98 rfl rfl ?_
  refine x_iconst C dX8_copy_99 ?_
  refine x_icmp_ge (tgt := 124) C dX8_copy_100 (by decide) ⟨by omega, by omega⟩ ⟨by omega, by omega⟩ (fun h15 => by exfalso; omega) (fun h15 => ?_)
  refine x_aload_n (i := 0) C dX8_copy_103 rfl rfl ?_
  refine x_getRs (r := 145) C fkX_X8_34 (nlt rfl) rfl (HG.rR hHy13 (k := 140) (i := 7) rfl rfl) dX8_copy_104 ?_
  refine x_iload_n (i := 2) C dX8_copy_107 rfl rfl ?_
  refine x_aald (r := some 152) C (nlt rfl) rfl rfl (nle rfl) (by omega) (by omega) (HG.rR hHy13 (k := 145) (i := 0) rfl rfl) dX8_copy_108 ?_
  refine x_aload_n (i := 1) C dX8_copy_109 rfl rfl ?_
  refine x_getRs (r := 6) C fkX_X8_34 (nlt rfl) rfl (HG.rR hHy13 (k := 1) (i := 7) rfl rfl) dX8_copy_110 ?_
  refine x_iload_n (i := 2) C dX8_copy_113 rfl rfl ?_
  refine x_aald (r := some 13) C (nlt rfl) rfl rfl (nle rfl) (by omega) (by omega) (HG.rR hHy13 (k := 6) (i := 0) rfl rfl) dX8_copy_114 ?_
  refine x_callV (As := [.ref 13]) C (by exact (c_kg152_13 hHy13 FR.rf)) ckX8_56 im_X2_copy se_X2_copy (nlt rfl) rfl rfl rfl rfl (nle rfl) (by exact ⟨nle rfl, nle rfl⟩) dX8_copy_115 ?_
  rintro _ Yy16 ⟨rfl, hHy16, hGy16, ccy16⟩
  have hFy16 : FR mdKT140 X0 Yy16 := FR.tr hFy13 hGy16 (by decide)
  refine Wx_st (st' := []) rfl ?_
  refine x_iinc (lv' := [(2, .int (iI (0 + 1))), (0, .ref 140), (1, .ref 1)]) C dX8_copy_118 rfl (nlt rfl) rfl ?_
  refine Wx_lv (lv' := [(2, .int (iI (1))), (0, .ref 140), (1, .ref 1)]) rfl ?_
  refine x_goto (tgt := 98) C dX8_copy_121 (by decide) ?_
  refine x_iload_n (i := 2) C dX8_copy_98 rfl rfl ?_
  refine x_iconst C dX8_copy_99 ?_
  refine x_icmp_ge (tgt := 124) C dX8_copy_100 (by decide) ⟨by omega, by omega⟩ ⟨by omega, by omega⟩ (fun h17 => by exfalso; omega) (fun h17 => ?_)
  refine x_aload_n (i := 0) C dX8_copy_103 rfl rfl ?_
  refine x_getRs (r := 145) C fkX_X8_34 (nlt rfl) rfl (HG.rR hHy16 (k := 140) (i := 7) rfl rfl) dX8_copy_104 ?_
  refine x_iload_n (i := 2) C dX8_copy_107 rfl rfl ?_
  refine x_aald (r := some 155) C (nlt rfl) rfl rfl (nle rfl) (by omega) (by omega) (HG.rR hHy16 (k := 145) (i := 1) rfl rfl) dX8_copy_108 ?_
  refine x_aload_n (i := 1) C dX8_copy_109 rfl rfl ?_
  refine x_getRs (r := 6) C fkX_X8_34 (nlt rfl) rfl (HG.rR hHy16 (k := 1) (i := 7) rfl rfl) dX8_copy_110 ?_
  refine x_iload_n (i := 2) C dX8_copy_113 rfl rfl ?_
  refine x_aald (r := some 16) C (nlt rfl) rfl rfl (nle rfl) (by omega) (by omega) (HG.rR hHy16 (k := 6) (i := 1) rfl rfl) dX8_copy_114 ?_
  refine x_callV (As := [.ref 16]) C (by exact (c_kg155_16 hHy16 FR.rf)) ckX8_56 im_X2_copy se_X2_copy (nlt rfl) rfl rfl rfl rfl (nle rfl) (by exact ⟨nle rfl, nle rfl⟩) dX8_copy_115 ?_
  rintro _ Yy18 ⟨rfl, hHy18, hGy18, ccy18⟩
  have hFy18 : FR mdKT140 X0 Yy18 := FR.tr hFy16 hGy18 (by decide)
  refine Wx_st (st' := []) rfl ?_
  refine x_iinc (lv' := [(2, .int (iI (1 + 1))), (0, .ref 140), (1, .ref 1)]) C dX8_copy_118 rfl (nlt rfl) rfl ?_
  refine Wx_lv (lv' := [(2, .int (iI (2))), (0, .ref 140), (1, .ref 1)]) rfl ?_
  refine x_goto (tgt := 98) C dX8_copy_121 (by decide) ?_
  refine x_iload_n (i := 2) C dX8_copy_98 rfl rfl ?_
  refine x_iconst C dX8_copy_99 ?_
  refine x_icmp_ge (tgt := 124) C dX8_copy_100 (by decide) ⟨by omega, by omega⟩ ⟨by omega, by omega⟩ (fun h19 => ?_) (fun h19 => by exfalso; omega)
  exact x_vret C hQ dX8_copy_124 (⟨rfl, hHy18, hFy18, by rw [(hGy18 140 0 rfl).1, (hGy16 140 0 rfl).1, (hGy13 140 0 rfl).1, (hGy11 140 0 rfl).1, eYy9, cpL_1, eYy8, cpI_o1 (by decide), eYy7, cpI_o1 (by decide), eYy6, upI_ne (by decide), eYy4, upI_ne (by decide), eYy2, upI_at]; omega, by rw [(hGy18 140 1 rfl).1, (hGy16 140 1 rfl).1, (hGy13 140 1 rfl).1, (hGy11 140 1 rfl).1, eYy9, cpL_1, eYy8, cpI_o1 (by decide), eYy7, cpI_o1 (by decide), eYy6, upI_ne (by decide), eYy4, upI_at]; omega, by rw [(hGy18 140 2 rfl).1, (hGy16 140 2 rfl).1, (hGy13 140 2 rfl).1, (hGy11 140 2 rfl).1, eYy9, cpL_1, eYy8, cpI_o1 (by decide), eYy7, cpI_o1 (by decide), eYy6, upI_at]; omega, fun j hj => by rw [(hGy18 141 j rfl).1, (hGy16 141 j rfl).1, (hGy13 141 j rfl).1, (hGy11 141 j rfl).1, eYy9, cpL_1, eYy8, cpI_o1 (by decide), eYy7, cpI_r hj, eYy6, upI_nc (by decide), eYy4, upI_nc (by decide), eYy2, upI_nc (by decide)], fun j hj => by rw [(hGy18 142 j rfl).1, (hGy16 142 j rfl).1, (hGy13 142 j rfl).1, (hGy11 142 j rfl).1, eYy9, cpL_1, eYy8, cpI_r hj, eYy7, cpI_o1 (by decide), eYy6, upI_nc (by decide), eYy4, upI_nc (by decide), eYy2, upI_nc (by decide)], fun j hj => by rw [(hGy18 144 j rfl).2.1, (hGy16 144 j rfl).2.1, (hGy13 144 j rfl).2.1, (hGy11 144 j rfl).2.1, eYy9, cpL_r hj, eYy8, cpI_2, eYy7, cpI_2, eYy6, upI_2, eYy4, upI_2, eYy2, upI_2], (CPB.fr ccy11 hFy9 (fun _ => ⟨rfl, rfl, rfl⟩) (FR.tr (FR.tr (FR.tr (FR.rf : FR mdKT140r0 Yy11 Yy11) hGy13 (by decide)) hGy16 (by decide)) hGy18 (by decide)) (fun _ => ⟨rfl, rfl, rfl⟩)), (CPB.fr ccy13 hFy11 (fun _ => ⟨rfl, rfl, rfl⟩) (FR.tr (FR.tr (FR.rf : FR mdKT140r1 Yy13 Yy13) hGy16 (by decide)) hGy18 (by decide)) (fun _ => ⟨rfl, rfl, rfl⟩)), (CPG.fr ccy16 hFy13 (fun _ => ⟨rfl, rfl, rfl⟩) (FR.tr (FR.rf : FR mdKT140r2 Yy16 Yy16) hGy18 (by decide)) (fun _ => ⟨rfl, rfl, rfl⟩)), (CPG.fr ccy18 hFy16 (fun _ => ⟨rfl, rfl, rfl⟩) (FR.rf : FR [] Yy18 Yy18) (fun _ => ⟨rfl, rfl, rfl⟩))⟩)
abbrev mdKT1 : List (Nat × Option Nat) := [(1, some 0), (1, some 1), (1, some 2), (2, none), (3, none), (5, none), (7, some 0), (7, some 1), (7, some 2), (7, some 3), (7, some 4), (8, none), (9, none), (10, some 0), (10, some 1), (10, some 2), (10, some 3), (10, some 4), (11, none), (12, none), (13, some 0), (14, none), (15, none), (16, some 0), (17, none), (18, none)]
abbrev mdKT1r0 : List (Nat × Option Nat) := [(10, some 0), (10, some 1), (10, some 2), (10, some 3), (10, some 4), (11, none), (12, none), (13, some 0), (14, none), (15, none), (16, some 0), (17, none), (18, none)]
abbrev mdKT1r1 : List (Nat × Option Nat) := [(13, some 0), (14, none), (15, none), (16, some 0), (17, none), (18, none)]
abbrev mdKT1r2 : List (Nat × Option Nat) := [(16, some 0), (17, none), (18, none)]
set_option maxHeartbeats 4000000 in
set_option maxRecDepth 100000 in
theorem c_kt1_104 {D : va_G} {ad : Nat → Nat} {cA : Nat → ClassId} {X0 : XT} (hH : HG vX X0) (hF : FR mdKT1 X0 X0) : MetX (wX D ad cA) yX8_copy cX8_copy 3 none 2 81 [.ref 1, .ref 104] X0 (fun r X1 => r = none ∧ HG vX X1 ∧ FR mdKT1 X0 X1 ∧ X1.1 1 0 = X0.1 104 0 ∧ X1.1 1 1 = X0.1 104 1 ∧ X1.1 1 2 = X0.1 104 2 ∧ (∀ j, j < 600 → X1.1 2 j = X0.1 105 j) ∧ (∀ j, j < 3 → X1.1 3 j = X0.1 106 j) ∧ (∀ j, j < 3 → X1.2.1 5 j = X0.2.1 108 j) ∧ CPB 7 8 9 110 111 112 X0 X1 ∧ CPB 10 11 12 113 114 115 X0 X1 ∧ CPG 13 14 15 116 117 118 X0 X1 ∧ CPG 16 17 18 119 120 121 X0 X1) := by
  refine MetX.mk (own := RX8) (by decide +kernel) rfl (nle rfl) (fun E C hQ => ?_)
  refine Wx_lv (lv' := [(0, .ref 1), (1, .ref 104)]) rfl ?_
  refine x_aload_n (i := 0) C dX8_copy_0 rfl rfl ?_
  refine x_aload_n (i := 1) C dX8_copy_1 rfl rfl ?_
  refine x_getI C fkX_X8_40 (nlt rfl) rfl dX8_copy_2 ?_
  refine x_gen (fun v1 ev1 => ?_)
  have qv1 : (0 : Int) ≤ v1 ∧ v1 ≤ (600 : Int) := by
    rw [ev1]
    exact hH.rF (k := 104) (i := 0) rfl rfl
  refine x_putI C pkX_X8_40 (nlt rfl) rfl dX8_copy_5 ?_
  refine x_gX (fun Yy2 eYy2 => ?_)
  have hHy2 : HG vX Yy2 := by
    rw [eYy2]
    exact hg_wF hH (p := (0, 600)) rfl ⟨by omega, by omega⟩
  have hFy2 : FR mdKT1 X0 Yy2 := by
    rw [eYy2]
    exact FR.upI hF (rfl)
  replace eYy2 : Yy2 = upI X0 1 0 (v1) := eYy2
  refine x_aload_n (i := 0) C dX8_copy_8 rfl rfl ?_
  refine x_aload_n (i := 1) C dX8_copy_9 rfl rfl ?_
  refine x_getI C fkX_X8_43 (nlt rfl) rfl dX8_copy_10 ?_
  refine x_gen (fun v3 ev3 => ?_)
  have qv3 : (0 : Int) ≤ v3 ∧ v3 ≤ (4 : Int) := by
    rw [ev3]
    exact hHy2.rF (k := 104) (i := 1) rfl rfl
  have kv3 : v3 = X0.1 104 1 := by rw [ev3, eYy2, upI_nc (by decide)]
  refine x_putI C pkX_X8_43 (nlt rfl) rfl dX8_copy_13 ?_
  refine x_gX (fun Yy4 eYy4 => ?_)
  have hHy4 : HG vX Yy4 := by
    rw [eYy4]
    exact hg_wF hHy2 (p := (0, 4)) rfl ⟨by omega, by omega⟩
  have hFy4 : FR mdKT1 X0 Yy4 := by
    rw [eYy4]
    exact FR.upI hFy2 (rfl)
  replace eYy4 : Yy4 = upI Yy2 1 1 (v3) := eYy4
  refine x_aload_n (i := 0) C dX8_copy_16 rfl rfl ?_
  refine x_aload_n (i := 1) C dX8_copy_17 rfl rfl ?_
  refine x_getI C fkX_X8_9 (nlt rfl) rfl dX8_copy_18 ?_
  refine x_gen (fun v5 ev5 => ?_)
  have qv5 : ((-1) : Int) ≤ v5 ∧ v5 ≤ (600 : Int) := by
    rw [ev5]
    exact hHy4.rF (k := 104) (i := 2) rfl rfl
  have kv5 : v5 = X0.1 104 2 := by rw [ev5, eYy4, upI_nc (by decide), eYy2, upI_nc (by decide)]
  refine x_putI C pkX_X8_9 (nlt rfl) rfl dX8_copy_21 ?_
  refine x_gX (fun Yy6 eYy6 => ?_)
  have hHy6 : HG vX Yy6 := by
    rw [eYy6]
    exact hg_wF hHy4 (p := ((-1), 600)) rfl ⟨by omega, by omega⟩
  have hFy6 : FR mdKT1 X0 Yy6 := by
    rw [eYy6]
    exact FR.upI hFy4 (rfl)
  replace eYy6 : Yy6 = upI Yy4 1 2 (v5) := eYy6
  refine x_aload_n (i := 1) C dX8_copy_24 rfl rfl ?_
  refine x_getRs (r := 105) C fkX_X8_15 (nlt rfl) rfl (HG.rR hHy6 (k := 104) (i := 3) rfl rfl) dX8_copy_25 ?_
  refine x_iconst C dX8_copy_28 ?_
  refine x_aload_n (i := 0) C dX8_copy_29 rfl rfl ?_
  refine x_getRs (r := 2) C fkX_X8_15 (nlt rfl) rfl (HG.rR hHy6 (k := 1) (i := 3) rfl rfl) dX8_copy_30 ?_
  refine x_iconst C dX8_copy_33 ?_
  refine x_sipush C dX8_copy_34 (by decide) ?_
  refine x_cpyI C cpX8_46 (nlt rfl) rfl rfl (nlt rfl) rfl rfl rfl (by omega) (by omega) (by omega) (by omega) (by omega) (nle rfl) (nle rfl) (nle rfl) (nle rfl) dX8_copy_37 ?_
  refine x_gX (fun Yy7 eYy7 => ?_)
  have hHy7 : HG vX Yy7 := by
    rw [eYy7]
    exact HG.cpI hHy6 (nlt rfl) rfl (nle rfl) (by decide +kernel)
  have hFy7 : FR mdKT1 X0 Yy7 := by
    rw [eYy7]
    exact FR.cpI hFy6 (fun _ => rfl)
  refine x_aload_n (i := 1) C dX8_copy_40 rfl rfl ?_
  refine x_getRs (r := 106) C fkX_X8_19 (nlt rfl) rfl (HG.rR hHy7 (k := 104) (i := 4) rfl rfl) dX8_copy_41 ?_
  refine x_iconst C dX8_copy_44 ?_
  refine x_aload_n (i := 0) C dX8_copy_45 rfl rfl ?_
  refine x_getRs (r := 3) C fkX_X8_19 (nlt rfl) rfl (HG.rR hHy7 (k := 1) (i := 4) rfl rfl) dX8_copy_46 ?_
  refine x_iconst C dX8_copy_49 ?_
  refine x_iconst C dX8_copy_50 ?_
  refine x_cpyI C cpX8_46 (nlt rfl) rfl rfl (nlt rfl) rfl rfl rfl (by omega) (by omega) (by omega) (by omega) (by omega) (nle rfl) (nle rfl) (nle rfl) (nle rfl) dX8_copy_51 ?_
  refine x_gX (fun Yy8 eYy8 => ?_)
  have hHy8 : HG vX Yy8 := by
    rw [eYy8]
    exact HG.cpI hHy7 (nlt rfl) rfl (nle rfl) (by decide +kernel)
  have hFy8 : FR mdKT1 X0 Yy8 := by
    rw [eYy8]
    exact FR.cpI hFy7 (fun _ => rfl)
  refine x_aload_n (i := 1) C dX8_copy_54 rfl rfl ?_
  refine x_getRs (r := 108) C fkX_X8_28 (nlt rfl) rfl (HG.rR hHy8 (k := 104) (i := 6) rfl rfl) dX8_copy_55 ?_
  refine x_iconst C dX8_copy_58 ?_
  refine x_aload_n (i := 0) C dX8_copy_59 rfl rfl ?_
  refine x_getRs (r := 5) C fkX_X8_28 (nlt rfl) rfl (HG.rR hHy8 (k := 1) (i := 6) rfl rfl) dX8_copy_60 ?_
  refine x_iconst C dX8_copy_63 ?_
  refine x_iconst C dX8_copy_64 ?_
  refine x_cpyL C cpX8_46 (nlt rfl) rfl rfl (nlt rfl) rfl rfl (by omega) (by omega) (by omega) (by omega) (by omega) (nle rfl) (nle rfl) (nle rfl) (nle rfl) dX8_copy_65 ?_
  refine x_gX (fun Yy9 eYy9 => ?_)
  have hHy9 : HG vX Yy9 := by
    rw [eYy9]
    exact HG.cpL hHy8 (nlt rfl) rfl (nle rfl) (by decide +kernel)
  have hFy9 : FR mdKT1 X0 Yy9 := by
    rw [eYy9]
    exact FR.cpL hFy8 (fun _ => rfl)
  refine x_iconst C dX8_copy_68 ?_
  refine x_istore_n (i := 2) (lv' := [(2, .int (iI (0))), (0, .ref 1), (1, .ref 104)]) C dX8_copy_69 rfl (nlt rfl) rfl ?_
  refine x_iload_n (i := 2) C dX8_copy_70 rfl rfl ?_
  refine x_iconst C dX8_copy_71 ?_
  refine x_icmp_ge (tgt := 96) C dX8_copy_72 (by decide) ⟨by omega, by omega⟩ ⟨by omega, by omega⟩ (fun h10 => by exfalso; omega) (fun h10 => ?_)
  refine x_aload_n (i := 0) C dX8_copy_75 rfl rfl ?_
  refine x_getRs (r := 4) C fkX_X8_24 (nlt rfl) rfl (HG.rR hHy9 (k := 1) (i := 5) rfl rfl) dX8_copy_76 ?_
  refine x_iload_n (i := 2) C dX8_copy_79 rfl rfl ?_
  refine x_aald (r := some 7) C (nlt rfl) rfl rfl (nle rfl) (by omega) (by omega) (HG.rR hHy9 (k := 4) (i := 0) rfl rfl) dX8_copy_80 ?_
  refine x_aload_n (i := 1) C dX8_copy_81 rfl rfl ?_
  refine x_getRs (r := 107) C fkX_X8_24 (nlt rfl) rfl (HG.rR hHy9 (k := 104) (i := 5) rfl rfl) dX8_copy_82 ?_
  refine x_iload_n (i := 2) C dX8_copy_85 rfl rfl ?_
  refine x_aald (r := some 110) C (nlt rfl) rfl rfl (nle rfl) (by omega) (by omega) (HG.rR hHy9 (k := 107) (i := 0) rfl rfl) dX8_copy_86 ?_
  refine x_callV (As := [.ref 110]) C (by exact (c_kb7_110 hHy9 FR.rf)) ckX8_52 im_X0_copy se_X0_copy (nlt rfl) rfl rfl rfl rfl (nle rfl) (by exact ⟨nle rfl, nle rfl⟩) dX8_copy_87 ?_
  rintro _ Yy11 ⟨rfl, hHy11, hGy11, ccy11⟩
  have hFy11 : FR mdKT1 X0 Yy11 := FR.tr hFy9 hGy11 (by decide)
  refine Wx_st (st' := []) rfl ?_
  refine x_iinc (lv' := [(2, .int (iI (0 + 1))), (0, .ref 1), (1, .ref 104)]) C dX8_copy_90 rfl (nlt rfl) rfl ?_
  refine Wx_lv (lv' := [(2, .int (iI (1))), (0, .ref 1), (1, .ref 104)]) rfl ?_
  refine x_goto (tgt := 70) C dX8_copy_93 (by decide) ?_
  refine x_iload_n (i := 2) C dX8_copy_70 rfl rfl ?_
  refine x_iconst C dX8_copy_71 ?_
  refine x_icmp_ge (tgt := 96) C dX8_copy_72 (by decide) ⟨by omega, by omega⟩ ⟨by omega, by omega⟩ (fun h12 => by exfalso; omega) (fun h12 => ?_)
  refine x_aload_n (i := 0) C dX8_copy_75 rfl rfl ?_
  refine x_getRs (r := 4) C fkX_X8_24 (nlt rfl) rfl (HG.rR hHy11 (k := 1) (i := 5) rfl rfl) dX8_copy_76 ?_
  refine x_iload_n (i := 2) C dX8_copy_79 rfl rfl ?_
  refine x_aald (r := some 10) C (nlt rfl) rfl rfl (nle rfl) (by omega) (by omega) (HG.rR hHy11 (k := 4) (i := 1) rfl rfl) dX8_copy_80 ?_
  refine x_aload_n (i := 1) C dX8_copy_81 rfl rfl ?_
  refine x_getRs (r := 107) C fkX_X8_24 (nlt rfl) rfl (HG.rR hHy11 (k := 104) (i := 5) rfl rfl) dX8_copy_82 ?_
  refine x_iload_n (i := 2) C dX8_copy_85 rfl rfl ?_
  refine x_aald (r := some 113) C (nlt rfl) rfl rfl (nle rfl) (by omega) (by omega) (HG.rR hHy11 (k := 107) (i := 1) rfl rfl) dX8_copy_86 ?_
  refine x_callV (As := [.ref 113]) C (by exact (c_kb10_113 hHy11 FR.rf)) ckX8_52 im_X0_copy se_X0_copy (nlt rfl) rfl rfl rfl rfl (nle rfl) (by exact ⟨nle rfl, nle rfl⟩) dX8_copy_87 ?_
  rintro _ Yy13 ⟨rfl, hHy13, hGy13, ccy13⟩
  have hFy13 : FR mdKT1 X0 Yy13 := FR.tr hFy11 hGy13 (by decide)
  refine Wx_st (st' := []) rfl ?_
  refine x_iinc (lv' := [(2, .int (iI (1 + 1))), (0, .ref 1), (1, .ref 104)]) C dX8_copy_90 rfl (nlt rfl) rfl ?_
  refine Wx_lv (lv' := [(2, .int (iI (2))), (0, .ref 1), (1, .ref 104)]) rfl ?_
  refine x_goto (tgt := 70) C dX8_copy_93 (by decide) ?_
  refine x_iload_n (i := 2) C dX8_copy_70 rfl rfl ?_
  refine x_iconst C dX8_copy_71 ?_
  refine x_icmp_ge (tgt := 96) C dX8_copy_72 (by decide) ⟨by omega, by omega⟩ ⟨by omega, by omega⟩ (fun h14 => ?_) (fun h14 => by exfalso; omega)
  refine x_iconst C dX8_copy_96 ?_
  refine x_istore_n (i := 2) (lv' := [(2, .int (iI (0))), (0, .ref 1), (1, .ref 104)]) C dX8_copy_97 rfl (nlt rfl) rfl ?_
  refine x_iload_n (i := 2) C dX8_copy_98 rfl rfl ?_
  refine x_iconst C dX8_copy_99 ?_
  refine x_icmp_ge (tgt := 124) C dX8_copy_100 (by decide) ⟨by omega, by omega⟩ ⟨by omega, by omega⟩ (fun h15 => by exfalso; omega) (fun h15 => ?_)
  refine x_aload_n (i := 0) C dX8_copy_103 rfl rfl ?_
  refine x_getRs (r := 6) C fkX_X8_34 (nlt rfl) rfl (HG.rR hHy13 (k := 1) (i := 7) rfl rfl) dX8_copy_104 ?_
  refine x_iload_n (i := 2) C dX8_copy_107 rfl rfl ?_
  refine x_aald (r := some 13) C (nlt rfl) rfl rfl (nle rfl) (by omega) (by omega) (HG.rR hHy13 (k := 6) (i := 0) rfl rfl) dX8_copy_108 ?_
  refine x_aload_n (i := 1) C dX8_copy_109 rfl rfl ?_
  refine x_getRs (r := 109) C fkX_X8_34 (nlt rfl) rfl (HG.rR hHy13 (k := 104) (i := 7) rfl rfl) dX8_copy_110 ?_
  refine x_iload_n (i := 2) C dX8_copy_113 rfl rfl ?_
  refine x_aald (r := some 116) C (nlt rfl) rfl rfl (nle rfl) (by omega) (by omega) (HG.rR hHy13 (k := 109) (i := 0) rfl rfl) dX8_copy_114 ?_
  refine x_callV (As := [.ref 116]) C (by exact (c_kg13_116 hHy13 FR.rf)) ckX8_56 im_X2_copy se_X2_copy (nlt rfl) rfl rfl rfl rfl (nle rfl) (by exact ⟨nle rfl, nle rfl⟩) dX8_copy_115 ?_
  rintro _ Yy16 ⟨rfl, hHy16, hGy16, ccy16⟩
  have hFy16 : FR mdKT1 X0 Yy16 := FR.tr hFy13 hGy16 (by decide)
  refine Wx_st (st' := []) rfl ?_
  refine x_iinc (lv' := [(2, .int (iI (0 + 1))), (0, .ref 1), (1, .ref 104)]) C dX8_copy_118 rfl (nlt rfl) rfl ?_
  refine Wx_lv (lv' := [(2, .int (iI (1))), (0, .ref 1), (1, .ref 104)]) rfl ?_
  refine x_goto (tgt := 98) C dX8_copy_121 (by decide) ?_
  refine x_iload_n (i := 2) C dX8_copy_98 rfl rfl ?_
  refine x_iconst C dX8_copy_99 ?_
  refine x_icmp_ge (tgt := 124) C dX8_copy_100 (by decide) ⟨by omega, by omega⟩ ⟨by omega, by omega⟩ (fun h17 => by exfalso; omega) (fun h17 => ?_)
  refine x_aload_n (i := 0) C dX8_copy_103 rfl rfl ?_
  refine x_getRs (r := 6) C fkX_X8_34 (nlt rfl) rfl (HG.rR hHy16 (k := 1) (i := 7) rfl rfl) dX8_copy_104 ?_
  refine x_iload_n (i := 2) C dX8_copy_107 rfl rfl ?_
  refine x_aald (r := some 16) C (nlt rfl) rfl rfl (nle rfl) (by omega) (by omega) (HG.rR hHy16 (k := 6) (i := 1) rfl rfl) dX8_copy_108 ?_
  refine x_aload_n (i := 1) C dX8_copy_109 rfl rfl ?_
  refine x_getRs (r := 109) C fkX_X8_34 (nlt rfl) rfl (HG.rR hHy16 (k := 104) (i := 7) rfl rfl) dX8_copy_110 ?_
  refine x_iload_n (i := 2) C dX8_copy_113 rfl rfl ?_
  refine x_aald (r := some 119) C (nlt rfl) rfl rfl (nle rfl) (by omega) (by omega) (HG.rR hHy16 (k := 109) (i := 1) rfl rfl) dX8_copy_114 ?_
  refine x_callV (As := [.ref 119]) C (by exact (c_kg16_119 hHy16 FR.rf)) ckX8_56 im_X2_copy se_X2_copy (nlt rfl) rfl rfl rfl rfl (nle rfl) (by exact ⟨nle rfl, nle rfl⟩) dX8_copy_115 ?_
  rintro _ Yy18 ⟨rfl, hHy18, hGy18, ccy18⟩
  have hFy18 : FR mdKT1 X0 Yy18 := FR.tr hFy16 hGy18 (by decide)
  refine Wx_st (st' := []) rfl ?_
  refine x_iinc (lv' := [(2, .int (iI (1 + 1))), (0, .ref 1), (1, .ref 104)]) C dX8_copy_118 rfl (nlt rfl) rfl ?_
  refine Wx_lv (lv' := [(2, .int (iI (2))), (0, .ref 1), (1, .ref 104)]) rfl ?_
  refine x_goto (tgt := 98) C dX8_copy_121 (by decide) ?_
  refine x_iload_n (i := 2) C dX8_copy_98 rfl rfl ?_
  refine x_iconst C dX8_copy_99 ?_
  refine x_icmp_ge (tgt := 124) C dX8_copy_100 (by decide) ⟨by omega, by omega⟩ ⟨by omega, by omega⟩ (fun h19 => ?_) (fun h19 => by exfalso; omega)
  exact x_vret C hQ dX8_copy_124 (⟨rfl, hHy18, hFy18, by rw [(hGy18 1 0 rfl).1, (hGy16 1 0 rfl).1, (hGy13 1 0 rfl).1, (hGy11 1 0 rfl).1, eYy9, cpL_1, eYy8, cpI_o1 (by decide), eYy7, cpI_o1 (by decide), eYy6, upI_ne (by decide), eYy4, upI_ne (by decide), eYy2, upI_at]; omega, by rw [(hGy18 1 1 rfl).1, (hGy16 1 1 rfl).1, (hGy13 1 1 rfl).1, (hGy11 1 1 rfl).1, eYy9, cpL_1, eYy8, cpI_o1 (by decide), eYy7, cpI_o1 (by decide), eYy6, upI_ne (by decide), eYy4, upI_at]; omega, by rw [(hGy18 1 2 rfl).1, (hGy16 1 2 rfl).1, (hGy13 1 2 rfl).1, (hGy11 1 2 rfl).1, eYy9, cpL_1, eYy8, cpI_o1 (by decide), eYy7, cpI_o1 (by decide), eYy6, upI_at]; omega, fun j hj => by rw [(hGy18 2 j rfl).1, (hGy16 2 j rfl).1, (hGy13 2 j rfl).1, (hGy11 2 j rfl).1, eYy9, cpL_1, eYy8, cpI_o1 (by decide), eYy7, cpI_r hj, eYy6, upI_nc (by decide), eYy4, upI_nc (by decide), eYy2, upI_nc (by decide)], fun j hj => by rw [(hGy18 3 j rfl).1, (hGy16 3 j rfl).1, (hGy13 3 j rfl).1, (hGy11 3 j rfl).1, eYy9, cpL_1, eYy8, cpI_r hj, eYy7, cpI_o1 (by decide), eYy6, upI_nc (by decide), eYy4, upI_nc (by decide), eYy2, upI_nc (by decide)], fun j hj => by rw [(hGy18 5 j rfl).2.1, (hGy16 5 j rfl).2.1, (hGy13 5 j rfl).2.1, (hGy11 5 j rfl).2.1, eYy9, cpL_r hj, eYy8, cpI_2, eYy7, cpI_2, eYy6, upI_2, eYy4, upI_2, eYy2, upI_2], (CPB.fr ccy11 hFy9 (fun _ => ⟨rfl, rfl, rfl⟩) (FR.tr (FR.tr (FR.tr (FR.rf : FR mdKT1r0 Yy11 Yy11) hGy13 (by decide)) hGy16 (by decide)) hGy18 (by decide)) (fun _ => ⟨rfl, rfl, rfl⟩)), (CPB.fr ccy13 hFy11 (fun _ => ⟨rfl, rfl, rfl⟩) (FR.tr (FR.tr (FR.rf : FR mdKT1r1 Yy13 Yy13) hGy16 (by decide)) hGy18 (by decide)) (fun _ => ⟨rfl, rfl, rfl⟩)), (CPG.fr ccy16 hFy13 (fun _ => ⟨rfl, rfl, rfl⟩) (FR.tr (FR.rf : FR mdKT1r2 Yy16 Yy16) hGy18 (by decide)) (fun _ => ⟨rfl, rfl, rfl⟩)), (CPG.fr ccy18 hFy16 (fun _ => ⟨rfl, rfl, rfl⟩) (FR.rf : FR [] Yy18 Yy18) (fun _ => ⟨rfl, rfl, rfl⟩))⟩)
set_option maxHeartbeats 4000000 in
set_option maxRecDepth 100000 in
theorem c_kt1_122 {D : va_G} {ad : Nat → Nat} {cA : Nat → ClassId} {X0 : XT} (hH : HG vX X0) (hF : FR mdKT1 X0 X0) : MetX (wX D ad cA) yX8_copy cX8_copy 3 none 2 81 [.ref 1, .ref 122] X0 (fun r X1 => r = none ∧ HG vX X1 ∧ FR mdKT1 X0 X1 ∧ X1.1 1 0 = X0.1 122 0 ∧ X1.1 1 1 = X0.1 122 1 ∧ X1.1 1 2 = X0.1 122 2 ∧ (∀ j, j < 600 → X1.1 2 j = X0.1 123 j) ∧ (∀ j, j < 3 → X1.1 3 j = X0.1 124 j) ∧ (∀ j, j < 3 → X1.2.1 5 j = X0.2.1 126 j) ∧ CPB 7 8 9 128 129 130 X0 X1 ∧ CPB 10 11 12 131 132 133 X0 X1 ∧ CPG 13 14 15 134 135 136 X0 X1 ∧ CPG 16 17 18 137 138 139 X0 X1) := by
  refine MetX.mk (own := RX8) (by decide +kernel) rfl (nle rfl) (fun E C hQ => ?_)
  refine Wx_lv (lv' := [(0, .ref 1), (1, .ref 122)]) rfl ?_
  refine x_aload_n (i := 0) C dX8_copy_0 rfl rfl ?_
  refine x_aload_n (i := 1) C dX8_copy_1 rfl rfl ?_
  refine x_getI C fkX_X8_40 (nlt rfl) rfl dX8_copy_2 ?_
  refine x_gen (fun v1 ev1 => ?_)
  have qv1 : (0 : Int) ≤ v1 ∧ v1 ≤ (600 : Int) := by
    rw [ev1]
    exact hH.rF (k := 122) (i := 0) rfl rfl
  refine x_putI C pkX_X8_40 (nlt rfl) rfl dX8_copy_5 ?_
  refine x_gX (fun Yy2 eYy2 => ?_)
  have hHy2 : HG vX Yy2 := by
    rw [eYy2]
    exact hg_wF hH (p := (0, 600)) rfl ⟨by omega, by omega⟩
  have hFy2 : FR mdKT1 X0 Yy2 := by
    rw [eYy2]
    exact FR.upI hF (rfl)
  replace eYy2 : Yy2 = upI X0 1 0 (v1) := eYy2
  refine x_aload_n (i := 0) C dX8_copy_8 rfl rfl ?_
  refine x_aload_n (i := 1) C dX8_copy_9 rfl rfl ?_
  refine x_getI C fkX_X8_43 (nlt rfl) rfl dX8_copy_10 ?_
  refine x_gen (fun v3 ev3 => ?_)
  have qv3 : (0 : Int) ≤ v3 ∧ v3 ≤ (4 : Int) := by
    rw [ev3]
    exact hHy2.rF (k := 122) (i := 1) rfl rfl
  have kv3 : v3 = X0.1 122 1 := by rw [ev3, eYy2, upI_nc (by decide)]
  refine x_putI C pkX_X8_43 (nlt rfl) rfl dX8_copy_13 ?_
  refine x_gX (fun Yy4 eYy4 => ?_)
  have hHy4 : HG vX Yy4 := by
    rw [eYy4]
    exact hg_wF hHy2 (p := (0, 4)) rfl ⟨by omega, by omega⟩
  have hFy4 : FR mdKT1 X0 Yy4 := by
    rw [eYy4]
    exact FR.upI hFy2 (rfl)
  replace eYy4 : Yy4 = upI Yy2 1 1 (v3) := eYy4
  refine x_aload_n (i := 0) C dX8_copy_16 rfl rfl ?_
  refine x_aload_n (i := 1) C dX8_copy_17 rfl rfl ?_
  refine x_getI C fkX_X8_9 (nlt rfl) rfl dX8_copy_18 ?_
  refine x_gen (fun v5 ev5 => ?_)
  have qv5 : ((-1) : Int) ≤ v5 ∧ v5 ≤ (600 : Int) := by
    rw [ev5]
    exact hHy4.rF (k := 122) (i := 2) rfl rfl
  have kv5 : v5 = X0.1 122 2 := by rw [ev5, eYy4, upI_nc (by decide), eYy2, upI_nc (by decide)]
  refine x_putI C pkX_X8_9 (nlt rfl) rfl dX8_copy_21 ?_
  refine x_gX (fun Yy6 eYy6 => ?_)
  have hHy6 : HG vX Yy6 := by
    rw [eYy6]
    exact hg_wF hHy4 (p := ((-1), 600)) rfl ⟨by omega, by omega⟩
  have hFy6 : FR mdKT1 X0 Yy6 := by
    rw [eYy6]
    exact FR.upI hFy4 (rfl)
  replace eYy6 : Yy6 = upI Yy4 1 2 (v5) := eYy6
  refine x_aload_n (i := 1) C dX8_copy_24 rfl rfl ?_
  refine x_getRs (r := 123) C fkX_X8_15 (nlt rfl) rfl (HG.rR hHy6 (k := 122) (i := 3) rfl rfl) dX8_copy_25 ?_
  refine x_iconst C dX8_copy_28 ?_
  refine x_aload_n (i := 0) C dX8_copy_29 rfl rfl ?_
  refine x_getRs (r := 2) C fkX_X8_15 (nlt rfl) rfl (HG.rR hHy6 (k := 1) (i := 3) rfl rfl) dX8_copy_30 ?_
  refine x_iconst C dX8_copy_33 ?_
  refine x_sipush C dX8_copy_34 (by decide) ?_
  refine x_cpyI C cpX8_46 (nlt rfl) rfl rfl (nlt rfl) rfl rfl rfl (by omega) (by omega) (by omega) (by omega) (by omega) (nle rfl) (nle rfl) (nle rfl) (nle rfl) dX8_copy_37 ?_
  refine x_gX (fun Yy7 eYy7 => ?_)
  have hHy7 : HG vX Yy7 := by
    rw [eYy7]
    exact HG.cpI hHy6 (nlt rfl) rfl (nle rfl) (by decide +kernel)
  have hFy7 : FR mdKT1 X0 Yy7 := by
    rw [eYy7]
    exact FR.cpI hFy6 (fun _ => rfl)
  refine x_aload_n (i := 1) C dX8_copy_40 rfl rfl ?_
  refine x_getRs (r := 124) C fkX_X8_19 (nlt rfl) rfl (HG.rR hHy7 (k := 122) (i := 4) rfl rfl) dX8_copy_41 ?_
  refine x_iconst C dX8_copy_44 ?_
  refine x_aload_n (i := 0) C dX8_copy_45 rfl rfl ?_
  refine x_getRs (r := 3) C fkX_X8_19 (nlt rfl) rfl (HG.rR hHy7 (k := 1) (i := 4) rfl rfl) dX8_copy_46 ?_
  refine x_iconst C dX8_copy_49 ?_
  refine x_iconst C dX8_copy_50 ?_
  refine x_cpyI C cpX8_46 (nlt rfl) rfl rfl (nlt rfl) rfl rfl rfl (by omega) (by omega) (by omega) (by omega) (by omega) (nle rfl) (nle rfl) (nle rfl) (nle rfl) dX8_copy_51 ?_
  refine x_gX (fun Yy8 eYy8 => ?_)
  have hHy8 : HG vX Yy8 := by
    rw [eYy8]
    exact HG.cpI hHy7 (nlt rfl) rfl (nle rfl) (by decide +kernel)
  have hFy8 : FR mdKT1 X0 Yy8 := by
    rw [eYy8]
    exact FR.cpI hFy7 (fun _ => rfl)
  refine x_aload_n (i := 1) C dX8_copy_54 rfl rfl ?_
  refine x_getRs (r := 126) C fkX_X8_28 (nlt rfl) rfl (HG.rR hHy8 (k := 122) (i := 6) rfl rfl) dX8_copy_55 ?_
  refine x_iconst C dX8_copy_58 ?_
  refine x_aload_n (i := 0) C dX8_copy_59 rfl rfl ?_
  refine x_getRs (r := 5) C fkX_X8_28 (nlt rfl) rfl (HG.rR hHy8 (k := 1) (i := 6) rfl rfl) dX8_copy_60 ?_
  refine x_iconst C dX8_copy_63 ?_
  refine x_iconst C dX8_copy_64 ?_
  refine x_cpyL C cpX8_46 (nlt rfl) rfl rfl (nlt rfl) rfl rfl (by omega) (by omega) (by omega) (by omega) (by omega) (nle rfl) (nle rfl) (nle rfl) (nle rfl) dX8_copy_65 ?_
  refine x_gX (fun Yy9 eYy9 => ?_)
  have hHy9 : HG vX Yy9 := by
    rw [eYy9]
    exact HG.cpL hHy8 (nlt rfl) rfl (nle rfl) (by decide +kernel)
  have hFy9 : FR mdKT1 X0 Yy9 := by
    rw [eYy9]
    exact FR.cpL hFy8 (fun _ => rfl)
  refine x_iconst C dX8_copy_68 ?_
  refine x_istore_n (i := 2) (lv' := [(2, .int (iI (0))), (0, .ref 1), (1, .ref 122)]) C dX8_copy_69 rfl (nlt rfl) rfl ?_
  refine x_iload_n (i := 2) C dX8_copy_70 rfl rfl ?_
  refine x_iconst C dX8_copy_71 ?_
  refine x_icmp_ge (tgt := 96) C dX8_copy_72 (by decide) ⟨by omega, by omega⟩ ⟨by omega, by omega⟩ (fun h10 => by exfalso; omega) (fun h10 => ?_)
  refine x_aload_n (i := 0) C dX8_copy_75 rfl rfl ?_
  refine x_getRs (r := 4) C fkX_X8_24 (nlt rfl) rfl (HG.rR hHy9 (k := 1) (i := 5) rfl rfl) dX8_copy_76 ?_
  refine x_iload_n (i := 2) C dX8_copy_79 rfl rfl ?_
  refine x_aald (r := some 7) C (nlt rfl) rfl rfl (nle rfl) (by omega) (by omega) (HG.rR hHy9 (k := 4) (i := 0) rfl rfl) dX8_copy_80 ?_
  refine x_aload_n (i := 1) C dX8_copy_81 rfl rfl ?_
  refine x_getRs (r := 125) C fkX_X8_24 (nlt rfl) rfl (HG.rR hHy9 (k := 122) (i := 5) rfl rfl) dX8_copy_82 ?_
  refine x_iload_n (i := 2) C dX8_copy_85 rfl rfl ?_
  refine x_aald (r := some 128) C (nlt rfl) rfl rfl (nle rfl) (by omega) (by omega) (HG.rR hHy9 (k := 125) (i := 0) rfl rfl) dX8_copy_86 ?_
  refine x_callV (As := [.ref 128]) C (by exact (c_kb7_128 hHy9 FR.rf)) ckX8_52 im_X0_copy se_X0_copy (nlt rfl) rfl rfl rfl rfl (nle rfl) (by exact ⟨nle rfl, nle rfl⟩) dX8_copy_87 ?_
  rintro _ Yy11 ⟨rfl, hHy11, hGy11, ccy11⟩
  have hFy11 : FR mdKT1 X0 Yy11 := FR.tr hFy9 hGy11 (by decide)
  refine Wx_st (st' := []) rfl ?_
  refine x_iinc (lv' := [(2, .int (iI (0 + 1))), (0, .ref 1), (1, .ref 122)]) C dX8_copy_90 rfl (nlt rfl) rfl ?_
  refine Wx_lv (lv' := [(2, .int (iI (1))), (0, .ref 1), (1, .ref 122)]) rfl ?_
  refine x_goto (tgt := 70) C dX8_copy_93 (by decide) ?_
  refine x_iload_n (i := 2) C dX8_copy_70 rfl rfl ?_
  refine x_iconst C dX8_copy_71 ?_
  refine x_icmp_ge (tgt := 96) C dX8_copy_72 (by decide) ⟨by omega, by omega⟩ ⟨by omega, by omega⟩ (fun h12 => by exfalso; omega) (fun h12 => ?_)
  refine x_aload_n (i := 0) C dX8_copy_75 rfl rfl ?_
  refine x_getRs (r := 4) C fkX_X8_24 (nlt rfl) rfl (HG.rR hHy11 (k := 1) (i := 5) rfl rfl) dX8_copy_76 ?_
  refine x_iload_n (i := 2) C dX8_copy_79 rfl rfl ?_
  refine x_aald (r := some 10) C (nlt rfl) rfl rfl (nle rfl) (by omega) (by omega) (HG.rR hHy11 (k := 4) (i := 1) rfl rfl) dX8_copy_80 ?_
  refine x_aload_n (i := 1) C dX8_copy_81 rfl rfl ?_
  refine x_getRs (r := 125) C fkX_X8_24 (nlt rfl) rfl (HG.rR hHy11 (k := 122) (i := 5) rfl rfl) dX8_copy_82 ?_
  refine x_iload_n (i := 2) C dX8_copy_85 rfl rfl ?_
  refine x_aald (r := some 131) C (nlt rfl) rfl rfl (nle rfl) (by omega) (by omega) (HG.rR hHy11 (k := 125) (i := 1) rfl rfl) dX8_copy_86 ?_
  refine x_callV (As := [.ref 131]) C (by exact (c_kb10_131 hHy11 FR.rf)) ckX8_52 im_X0_copy se_X0_copy (nlt rfl) rfl rfl rfl rfl (nle rfl) (by exact ⟨nle rfl, nle rfl⟩) dX8_copy_87 ?_
  rintro _ Yy13 ⟨rfl, hHy13, hGy13, ccy13⟩
  have hFy13 : FR mdKT1 X0 Yy13 := FR.tr hFy11 hGy13 (by decide)
  refine Wx_st (st' := []) rfl ?_
  refine x_iinc (lv' := [(2, .int (iI (1 + 1))), (0, .ref 1), (1, .ref 122)]) C dX8_copy_90 rfl (nlt rfl) rfl ?_
  refine Wx_lv (lv' := [(2, .int (iI (2))), (0, .ref 1), (1, .ref 122)]) rfl ?_
  refine x_goto (tgt := 70) C dX8_copy_93 (by decide) ?_
  refine x_iload_n (i := 2) C dX8_copy_70 rfl rfl ?_
  refine x_iconst C dX8_copy_71 ?_
  refine x_icmp_ge (tgt := 96) C dX8_copy_72 (by decide) ⟨by omega, by omega⟩ ⟨by omega, by omega⟩ (fun h14 => ?_) (fun h14 => by exfalso; omega)
  refine x_iconst C dX8_copy_96 ?_
  refine x_istore_n (i := 2) (lv' := [(2, .int (iI (0))), (0, .ref 1), (1, .ref 122)]) C dX8_copy_97 rfl (nlt rfl) rfl ?_
  refine x_iload_n (i := 2) C dX8_copy_98 rfl rfl ?_
  refine x_iconst C dX8_copy_99 ?_
  refine x_icmp_ge (tgt := 124) C dX8_copy_100 (by decide) ⟨by omega, by omega⟩ ⟨by omega, by omega⟩ (fun h15 => by exfalso; omega) (fun h15 => ?_)
  refine x_aload_n (i := 0) C dX8_copy_103 rfl rfl ?_
  refine x_getRs (r := 6) C fkX_X8_34 (nlt rfl) rfl (HG.rR hHy13 (k := 1) (i := 7) rfl rfl) dX8_copy_104 ?_
  refine x_iload_n (i := 2) C dX8_copy_107 rfl rfl ?_
  refine x_aald (r := some 13) C (nlt rfl) rfl rfl (nle rfl) (by omega) (by omega) (HG.rR hHy13 (k := 6) (i := 0) rfl rfl) dX8_copy_108 ?_
  refine x_aload_n (i := 1) C dX8_copy_109 rfl rfl ?_
  refine x_getRs (r := 127) C fkX_X8_34 (nlt rfl) rfl (HG.rR hHy13 (k := 122) (i := 7) rfl rfl) dX8_copy_110 ?_
  refine x_iload_n (i := 2) C dX8_copy_113 rfl rfl ?_
  refine x_aald (r := some 134) C (nlt rfl) rfl rfl (nle rfl) (by omega) (by omega) (HG.rR hHy13 (k := 127) (i := 0) rfl rfl) dX8_copy_114 ?_
  refine x_callV (As := [.ref 134]) C (by exact (c_kg13_134 hHy13 FR.rf)) ckX8_56 im_X2_copy se_X2_copy (nlt rfl) rfl rfl rfl rfl (nle rfl) (by exact ⟨nle rfl, nle rfl⟩) dX8_copy_115 ?_
  rintro _ Yy16 ⟨rfl, hHy16, hGy16, ccy16⟩
  have hFy16 : FR mdKT1 X0 Yy16 := FR.tr hFy13 hGy16 (by decide)
  refine Wx_st (st' := []) rfl ?_
  refine x_iinc (lv' := [(2, .int (iI (0 + 1))), (0, .ref 1), (1, .ref 122)]) C dX8_copy_118 rfl (nlt rfl) rfl ?_
  refine Wx_lv (lv' := [(2, .int (iI (1))), (0, .ref 1), (1, .ref 122)]) rfl ?_
  refine x_goto (tgt := 98) C dX8_copy_121 (by decide) ?_
  refine x_iload_n (i := 2) C dX8_copy_98 rfl rfl ?_
  refine x_iconst C dX8_copy_99 ?_
  refine x_icmp_ge (tgt := 124) C dX8_copy_100 (by decide) ⟨by omega, by omega⟩ ⟨by omega, by omega⟩ (fun h17 => by exfalso; omega) (fun h17 => ?_)
  refine x_aload_n (i := 0) C dX8_copy_103 rfl rfl ?_
  refine x_getRs (r := 6) C fkX_X8_34 (nlt rfl) rfl (HG.rR hHy16 (k := 1) (i := 7) rfl rfl) dX8_copy_104 ?_
  refine x_iload_n (i := 2) C dX8_copy_107 rfl rfl ?_
  refine x_aald (r := some 16) C (nlt rfl) rfl rfl (nle rfl) (by omega) (by omega) (HG.rR hHy16 (k := 6) (i := 1) rfl rfl) dX8_copy_108 ?_
  refine x_aload_n (i := 1) C dX8_copy_109 rfl rfl ?_
  refine x_getRs (r := 127) C fkX_X8_34 (nlt rfl) rfl (HG.rR hHy16 (k := 122) (i := 7) rfl rfl) dX8_copy_110 ?_
  refine x_iload_n (i := 2) C dX8_copy_113 rfl rfl ?_
  refine x_aald (r := some 137) C (nlt rfl) rfl rfl (nle rfl) (by omega) (by omega) (HG.rR hHy16 (k := 127) (i := 1) rfl rfl) dX8_copy_114 ?_
  refine x_callV (As := [.ref 137]) C (by exact (c_kg16_137 hHy16 FR.rf)) ckX8_56 im_X2_copy se_X2_copy (nlt rfl) rfl rfl rfl rfl (nle rfl) (by exact ⟨nle rfl, nle rfl⟩) dX8_copy_115 ?_
  rintro _ Yy18 ⟨rfl, hHy18, hGy18, ccy18⟩
  have hFy18 : FR mdKT1 X0 Yy18 := FR.tr hFy16 hGy18 (by decide)
  refine Wx_st (st' := []) rfl ?_
  refine x_iinc (lv' := [(2, .int (iI (1 + 1))), (0, .ref 1), (1, .ref 122)]) C dX8_copy_118 rfl (nlt rfl) rfl ?_
  refine Wx_lv (lv' := [(2, .int (iI (2))), (0, .ref 1), (1, .ref 122)]) rfl ?_
  refine x_goto (tgt := 98) C dX8_copy_121 (by decide) ?_
  refine x_iload_n (i := 2) C dX8_copy_98 rfl rfl ?_
  refine x_iconst C dX8_copy_99 ?_
  refine x_icmp_ge (tgt := 124) C dX8_copy_100 (by decide) ⟨by omega, by omega⟩ ⟨by omega, by omega⟩ (fun h19 => ?_) (fun h19 => by exfalso; omega)
  exact x_vret C hQ dX8_copy_124 (⟨rfl, hHy18, hFy18, by rw [(hGy18 1 0 rfl).1, (hGy16 1 0 rfl).1, (hGy13 1 0 rfl).1, (hGy11 1 0 rfl).1, eYy9, cpL_1, eYy8, cpI_o1 (by decide), eYy7, cpI_o1 (by decide), eYy6, upI_ne (by decide), eYy4, upI_ne (by decide), eYy2, upI_at]; omega, by rw [(hGy18 1 1 rfl).1, (hGy16 1 1 rfl).1, (hGy13 1 1 rfl).1, (hGy11 1 1 rfl).1, eYy9, cpL_1, eYy8, cpI_o1 (by decide), eYy7, cpI_o1 (by decide), eYy6, upI_ne (by decide), eYy4, upI_at]; omega, by rw [(hGy18 1 2 rfl).1, (hGy16 1 2 rfl).1, (hGy13 1 2 rfl).1, (hGy11 1 2 rfl).1, eYy9, cpL_1, eYy8, cpI_o1 (by decide), eYy7, cpI_o1 (by decide), eYy6, upI_at]; omega, fun j hj => by rw [(hGy18 2 j rfl).1, (hGy16 2 j rfl).1, (hGy13 2 j rfl).1, (hGy11 2 j rfl).1, eYy9, cpL_1, eYy8, cpI_o1 (by decide), eYy7, cpI_r hj, eYy6, upI_nc (by decide), eYy4, upI_nc (by decide), eYy2, upI_nc (by decide)], fun j hj => by rw [(hGy18 3 j rfl).1, (hGy16 3 j rfl).1, (hGy13 3 j rfl).1, (hGy11 3 j rfl).1, eYy9, cpL_1, eYy8, cpI_r hj, eYy7, cpI_o1 (by decide), eYy6, upI_nc (by decide), eYy4, upI_nc (by decide), eYy2, upI_nc (by decide)], fun j hj => by rw [(hGy18 5 j rfl).2.1, (hGy16 5 j rfl).2.1, (hGy13 5 j rfl).2.1, (hGy11 5 j rfl).2.1, eYy9, cpL_r hj, eYy8, cpI_2, eYy7, cpI_2, eYy6, upI_2, eYy4, upI_2, eYy2, upI_2], (CPB.fr ccy11 hFy9 (fun _ => ⟨rfl, rfl, rfl⟩) (FR.tr (FR.tr (FR.tr (FR.rf : FR mdKT1r0 Yy11 Yy11) hGy13 (by decide)) hGy16 (by decide)) hGy18 (by decide)) (fun _ => ⟨rfl, rfl, rfl⟩)), (CPB.fr ccy13 hFy11 (fun _ => ⟨rfl, rfl, rfl⟩) (FR.tr (FR.tr (FR.rf : FR mdKT1r1 Yy13 Yy13) hGy16 (by decide)) hGy18 (by decide)) (fun _ => ⟨rfl, rfl, rfl⟩)), (CPG.fr ccy16 hFy13 (fun _ => ⟨rfl, rfl, rfl⟩) (FR.tr (FR.rf : FR mdKT1r2 Yy16 Yy16) hGy18 (by decide)) (fun _ => ⟨rfl, rfl, rfl⟩)), (CPG.fr ccy18 hFy16 (fun _ => ⟨rfl, rfl, rfl⟩) (FR.rf : FR [] Yy18 Yy18) (fun _ => ⟨rfl, rfl, rfl⟩))⟩)
set_option maxHeartbeats 4000000 in
set_option maxRecDepth 100000 in
theorem c_kt1_140 {D : va_G} {ad : Nat → Nat} {cA : Nat → ClassId} {X0 : XT} (hH : HG vX X0) (hF : FR mdKT1 X0 X0) : MetX (wX D ad cA) yX8_copy cX8_copy 3 none 2 81 [.ref 1, .ref 140] X0 (fun r X1 => r = none ∧ HG vX X1 ∧ FR mdKT1 X0 X1 ∧ X1.1 1 0 = X0.1 140 0 ∧ X1.1 1 1 = X0.1 140 1 ∧ X1.1 1 2 = X0.1 140 2 ∧ (∀ j, j < 600 → X1.1 2 j = X0.1 141 j) ∧ (∀ j, j < 3 → X1.1 3 j = X0.1 142 j) ∧ (∀ j, j < 3 → X1.2.1 5 j = X0.2.1 144 j) ∧ CPB 7 8 9 146 147 148 X0 X1 ∧ CPB 10 11 12 149 150 151 X0 X1 ∧ CPG 13 14 15 152 153 154 X0 X1 ∧ CPG 16 17 18 155 156 157 X0 X1) := by
  refine MetX.mk (own := RX8) (by decide +kernel) rfl (nle rfl) (fun E C hQ => ?_)
  refine Wx_lv (lv' := [(0, .ref 1), (1, .ref 140)]) rfl ?_
  refine x_aload_n (i := 0) C dX8_copy_0 rfl rfl ?_
  refine x_aload_n (i := 1) C dX8_copy_1 rfl rfl ?_
  refine x_getI C fkX_X8_40 (nlt rfl) rfl dX8_copy_2 ?_
  refine x_gen (fun v1 ev1 => ?_)
  have qv1 : (0 : Int) ≤ v1 ∧ v1 ≤ (600 : Int) := by
    rw [ev1]
    exact hH.rF (k := 140) (i := 0) rfl rfl
  refine x_putI C pkX_X8_40 (nlt rfl) rfl dX8_copy_5 ?_
  refine x_gX (fun Yy2 eYy2 => ?_)
  have hHy2 : HG vX Yy2 := by
    rw [eYy2]
    exact hg_wF hH (p := (0, 600)) rfl ⟨by omega, by omega⟩
  have hFy2 : FR mdKT1 X0 Yy2 := by
    rw [eYy2]
    exact FR.upI hF (rfl)
  replace eYy2 : Yy2 = upI X0 1 0 (v1) := eYy2
  refine x_aload_n (i := 0) C dX8_copy_8 rfl rfl ?_
  refine x_aload_n (i := 1) C dX8_copy_9 rfl rfl ?_
  refine x_getI C fkX_X8_43 (nlt rfl) rfl dX8_copy_10 ?_
  refine x_gen (fun v3 ev3 => ?_)
  have qv3 : (0 : Int) ≤ v3 ∧ v3 ≤ (4 : Int) := by
    rw [ev3]
    exact hHy2.rF (k := 140) (i := 1) rfl rfl
  have kv3 : v3 = X0.1 140 1 := by rw [ev3, eYy2, upI_nc (by decide)]
  refine x_putI C pkX_X8_43 (nlt rfl) rfl dX8_copy_13 ?_
  refine x_gX (fun Yy4 eYy4 => ?_)
  have hHy4 : HG vX Yy4 := by
    rw [eYy4]
    exact hg_wF hHy2 (p := (0, 4)) rfl ⟨by omega, by omega⟩
  have hFy4 : FR mdKT1 X0 Yy4 := by
    rw [eYy4]
    exact FR.upI hFy2 (rfl)
  replace eYy4 : Yy4 = upI Yy2 1 1 (v3) := eYy4
  refine x_aload_n (i := 0) C dX8_copy_16 rfl rfl ?_
  refine x_aload_n (i := 1) C dX8_copy_17 rfl rfl ?_
  refine x_getI C fkX_X8_9 (nlt rfl) rfl dX8_copy_18 ?_
  refine x_gen (fun v5 ev5 => ?_)
  have qv5 : ((-1) : Int) ≤ v5 ∧ v5 ≤ (600 : Int) := by
    rw [ev5]
    exact hHy4.rF (k := 140) (i := 2) rfl rfl
  have kv5 : v5 = X0.1 140 2 := by rw [ev5, eYy4, upI_nc (by decide), eYy2, upI_nc (by decide)]
  refine x_putI C pkX_X8_9 (nlt rfl) rfl dX8_copy_21 ?_
  refine x_gX (fun Yy6 eYy6 => ?_)
  have hHy6 : HG vX Yy6 := by
    rw [eYy6]
    exact hg_wF hHy4 (p := ((-1), 600)) rfl ⟨by omega, by omega⟩
  have hFy6 : FR mdKT1 X0 Yy6 := by
    rw [eYy6]
    exact FR.upI hFy4 (rfl)
  replace eYy6 : Yy6 = upI Yy4 1 2 (v5) := eYy6
  refine x_aload_n (i := 1) C dX8_copy_24 rfl rfl ?_
  refine x_getRs (r := 141) C fkX_X8_15 (nlt rfl) rfl (HG.rR hHy6 (k := 140) (i := 3) rfl rfl) dX8_copy_25 ?_
  refine x_iconst C dX8_copy_28 ?_
  refine x_aload_n (i := 0) C dX8_copy_29 rfl rfl ?_
  refine x_getRs (r := 2) C fkX_X8_15 (nlt rfl) rfl (HG.rR hHy6 (k := 1) (i := 3) rfl rfl) dX8_copy_30 ?_
  refine x_iconst C dX8_copy_33 ?_
  refine x_sipush C dX8_copy_34 (by decide) ?_
  refine x_cpyI C cpX8_46 (nlt rfl) rfl rfl (nlt rfl) rfl rfl rfl (by omega) (by omega) (by omega) (by omega) (by omega) (nle rfl) (nle rfl) (nle rfl) (nle rfl) dX8_copy_37 ?_
  refine x_gX (fun Yy7 eYy7 => ?_)
  have hHy7 : HG vX Yy7 := by
    rw [eYy7]
    exact HG.cpI hHy6 (nlt rfl) rfl (nle rfl) (by decide +kernel)
  have hFy7 : FR mdKT1 X0 Yy7 := by
    rw [eYy7]
    exact FR.cpI hFy6 (fun _ => rfl)
  refine x_aload_n (i := 1) C dX8_copy_40 rfl rfl ?_
  refine x_getRs (r := 142) C fkX_X8_19 (nlt rfl) rfl (HG.rR hHy7 (k := 140) (i := 4) rfl rfl) dX8_copy_41 ?_
  refine x_iconst C dX8_copy_44 ?_
  refine x_aload_n (i := 0) C dX8_copy_45 rfl rfl ?_
  refine x_getRs (r := 3) C fkX_X8_19 (nlt rfl) rfl (HG.rR hHy7 (k := 1) (i := 4) rfl rfl) dX8_copy_46 ?_
  refine x_iconst C dX8_copy_49 ?_
  refine x_iconst C dX8_copy_50 ?_
  refine x_cpyI C cpX8_46 (nlt rfl) rfl rfl (nlt rfl) rfl rfl rfl (by omega) (by omega) (by omega) (by omega) (by omega) (nle rfl) (nle rfl) (nle rfl) (nle rfl) dX8_copy_51 ?_
  refine x_gX (fun Yy8 eYy8 => ?_)
  have hHy8 : HG vX Yy8 := by
    rw [eYy8]
    exact HG.cpI hHy7 (nlt rfl) rfl (nle rfl) (by decide +kernel)
  have hFy8 : FR mdKT1 X0 Yy8 := by
    rw [eYy8]
    exact FR.cpI hFy7 (fun _ => rfl)
  refine x_aload_n (i := 1) C dX8_copy_54 rfl rfl ?_
  refine x_getRs (r := 144) C fkX_X8_28 (nlt rfl) rfl (HG.rR hHy8 (k := 140) (i := 6) rfl rfl) dX8_copy_55 ?_
  refine x_iconst C dX8_copy_58 ?_
  refine x_aload_n (i := 0) C dX8_copy_59 rfl rfl ?_
  refine x_getRs (r := 5) C fkX_X8_28 (nlt rfl) rfl (HG.rR hHy8 (k := 1) (i := 6) rfl rfl) dX8_copy_60 ?_
  refine x_iconst C dX8_copy_63 ?_
  refine x_iconst C dX8_copy_64 ?_
  refine x_cpyL C cpX8_46 (nlt rfl) rfl rfl (nlt rfl) rfl rfl (by omega) (by omega) (by omega) (by omega) (by omega) (nle rfl) (nle rfl) (nle rfl) (nle rfl) dX8_copy_65 ?_
  refine x_gX (fun Yy9 eYy9 => ?_)
  have hHy9 : HG vX Yy9 := by
    rw [eYy9]
    exact HG.cpL hHy8 (nlt rfl) rfl (nle rfl) (by decide +kernel)
  have hFy9 : FR mdKT1 X0 Yy9 := by
    rw [eYy9]
    exact FR.cpL hFy8 (fun _ => rfl)
  refine x_iconst C dX8_copy_68 ?_
  refine x_istore_n (i := 2) (lv' := [(2, .int (iI (0))), (0, .ref 1), (1, .ref 140)]) C dX8_copy_69 rfl (nlt rfl) rfl ?_
  refine x_iload_n (i := 2) C dX8_copy_70 rfl rfl ?_
  refine x_iconst C dX8_copy_71 ?_
  refine x_icmp_ge (tgt := 96) C dX8_copy_72 (by decide) ⟨by omega, by omega⟩ ⟨by omega, by omega⟩ (fun h10 => by exfalso; omega) (fun h10 => ?_)
  refine x_aload_n (i := 0) C dX8_copy_75 rfl rfl ?_
  refine x_getRs (r := 4) C fkX_X8_24 (nlt rfl) rfl (HG.rR hHy9 (k := 1) (i := 5) rfl rfl) dX8_copy_76 ?_
  refine x_iload_n (i := 2) C dX8_copy_79 rfl rfl ?_
  refine x_aald (r := some 7) C (nlt rfl) rfl rfl (nle rfl) (by omega) (by omega) (HG.rR hHy9 (k := 4) (i := 0) rfl rfl) dX8_copy_80 ?_
  refine x_aload_n (i := 1) C dX8_copy_81 rfl rfl ?_
  refine x_getRs (r := 143) C fkX_X8_24 (nlt rfl) rfl (HG.rR hHy9 (k := 140) (i := 5) rfl rfl) dX8_copy_82 ?_
  refine x_iload_n (i := 2) C dX8_copy_85 rfl rfl ?_
  refine x_aald (r := some 146) C (nlt rfl) rfl rfl (nle rfl) (by omega) (by omega) (HG.rR hHy9 (k := 143) (i := 0) rfl rfl) dX8_copy_86 ?_
  refine x_callV (As := [.ref 146]) C (by exact (c_kb7_146 hHy9 FR.rf)) ckX8_52 im_X0_copy se_X0_copy (nlt rfl) rfl rfl rfl rfl (nle rfl) (by exact ⟨nle rfl, nle rfl⟩) dX8_copy_87 ?_
  rintro _ Yy11 ⟨rfl, hHy11, hGy11, ccy11⟩
  have hFy11 : FR mdKT1 X0 Yy11 := FR.tr hFy9 hGy11 (by decide)
  refine Wx_st (st' := []) rfl ?_
  refine x_iinc (lv' := [(2, .int (iI (0 + 1))), (0, .ref 1), (1, .ref 140)]) C dX8_copy_90 rfl (nlt rfl) rfl ?_
  refine Wx_lv (lv' := [(2, .int (iI (1))), (0, .ref 1), (1, .ref 140)]) rfl ?_
  refine x_goto (tgt := 70) C dX8_copy_93 (by decide) ?_
  refine x_iload_n (i := 2) C dX8_copy_70 rfl rfl ?_
  refine x_iconst C dX8_copy_71 ?_
  refine x_icmp_ge (tgt := 96) C dX8_copy_72 (by decide) ⟨by omega, by omega⟩ ⟨by omega, by omega⟩ (fun h12 => by exfalso; omega) (fun h12 => ?_)
  refine x_aload_n (i := 0) C dX8_copy_75 rfl rfl ?_
  refine x_getRs (r := 4) C fkX_X8_24 (nlt rfl) rfl (HG.rR hHy11 (k := 1) (i := 5) rfl rfl) dX8_copy_76 ?_
  refine x_iload_n (i := 2) C dX8_copy_79 rfl rfl ?_
  refine x_aald (r := some 10) C (nlt rfl) rfl rfl (nle rfl) (by omega) (by omega) (HG.rR hHy11 (k := 4) (i := 1) rfl rfl) dX8_copy_80 ?_
  refine x_aload_n (i := 1) C dX8_copy_81 rfl rfl ?_
  refine x_getRs (r := 143) C fkX_X8_24 (nlt rfl) rfl (HG.rR hHy11 (k := 140) (i := 5) rfl rfl) dX8_copy_82 ?_
  refine x_iload_n (i := 2) C dX8_copy_85 rfl rfl ?_
  refine x_aald (r := some 149) C (nlt rfl) rfl rfl (nle rfl) (by omega) (by omega) (HG.rR hHy11 (k := 143) (i := 1) rfl rfl) dX8_copy_86 ?_
  refine x_callV (As := [.ref 149]) C (by exact (c_kb10_149 hHy11 FR.rf)) ckX8_52 im_X0_copy se_X0_copy (nlt rfl) rfl rfl rfl rfl (nle rfl) (by exact ⟨nle rfl, nle rfl⟩) dX8_copy_87 ?_
  rintro _ Yy13 ⟨rfl, hHy13, hGy13, ccy13⟩
  have hFy13 : FR mdKT1 X0 Yy13 := FR.tr hFy11 hGy13 (by decide)
  refine Wx_st (st' := []) rfl ?_
  refine x_iinc (lv' := [(2, .int (iI (1 + 1))), (0, .ref 1), (1, .ref 140)]) C dX8_copy_90 rfl (nlt rfl) rfl ?_
  refine Wx_lv (lv' := [(2, .int (iI (2))), (0, .ref 1), (1, .ref 140)]) rfl ?_
  refine x_goto (tgt := 70) C dX8_copy_93 (by decide) ?_
  refine x_iload_n (i := 2) C dX8_copy_70 rfl rfl ?_
  refine x_iconst C dX8_copy_71 ?_
  refine x_icmp_ge (tgt := 96) C dX8_copy_72 (by decide) ⟨by omega, by omega⟩ ⟨by omega, by omega⟩ (fun h14 => ?_) (fun h14 => by exfalso; omega)
  refine x_iconst C dX8_copy_96 ?_
  refine x_istore_n (i := 2) (lv' := [(2, .int (iI (0))), (0, .ref 1), (1, .ref 140)]) C dX8_copy_97 rfl (nlt rfl) rfl ?_
  refine x_iload_n (i := 2) C dX8_copy_98 rfl rfl ?_
  refine x_iconst C dX8_copy_99 ?_
  refine x_icmp_ge (tgt := 124) C dX8_copy_100 (by decide) ⟨by omega, by omega⟩ ⟨by omega, by omega⟩ (fun h15 => by exfalso; omega) (fun h15 => ?_)
  refine x_aload_n (i := 0) C dX8_copy_103 rfl rfl ?_
  refine x_getRs (r := 6) C fkX_X8_34 (nlt rfl) rfl (HG.rR hHy13 (k := 1) (i := 7) rfl rfl) dX8_copy_104 ?_
  refine x_iload_n (i := 2) C dX8_copy_107 rfl rfl ?_
  refine x_aald (r := some 13) C (nlt rfl) rfl rfl (nle rfl) (by omega) (by omega) (HG.rR hHy13 (k := 6) (i := 0) rfl rfl) dX8_copy_108 ?_
  refine x_aload_n (i := 1) C dX8_copy_109 rfl rfl ?_
  refine x_getRs (r := 145) C fkX_X8_34 (nlt rfl) rfl (HG.rR hHy13 (k := 140) (i := 7) rfl rfl) dX8_copy_110 ?_
  refine x_iload_n (i := 2) C dX8_copy_113 rfl rfl ?_
  refine x_aald (r := some 152) C (nlt rfl) rfl rfl (nle rfl) (by omega) (by omega) (HG.rR hHy13 (k := 145) (i := 0) rfl rfl) dX8_copy_114 ?_
  refine x_callV (As := [.ref 152]) C (by exact (c_kg13_152 hHy13 FR.rf)) ckX8_56 im_X2_copy se_X2_copy (nlt rfl) rfl rfl rfl rfl (nle rfl) (by exact ⟨nle rfl, nle rfl⟩) dX8_copy_115 ?_
  rintro _ Yy16 ⟨rfl, hHy16, hGy16, ccy16⟩
  have hFy16 : FR mdKT1 X0 Yy16 := FR.tr hFy13 hGy16 (by decide)
  refine Wx_st (st' := []) rfl ?_
  refine x_iinc (lv' := [(2, .int (iI (0 + 1))), (0, .ref 1), (1, .ref 140)]) C dX8_copy_118 rfl (nlt rfl) rfl ?_
  refine Wx_lv (lv' := [(2, .int (iI (1))), (0, .ref 1), (1, .ref 140)]) rfl ?_
  refine x_goto (tgt := 98) C dX8_copy_121 (by decide) ?_
  refine x_iload_n (i := 2) C dX8_copy_98 rfl rfl ?_
  refine x_iconst C dX8_copy_99 ?_
  refine x_icmp_ge (tgt := 124) C dX8_copy_100 (by decide) ⟨by omega, by omega⟩ ⟨by omega, by omega⟩ (fun h17 => by exfalso; omega) (fun h17 => ?_)
  refine x_aload_n (i := 0) C dX8_copy_103 rfl rfl ?_
  refine x_getRs (r := 6) C fkX_X8_34 (nlt rfl) rfl (HG.rR hHy16 (k := 1) (i := 7) rfl rfl) dX8_copy_104 ?_
  refine x_iload_n (i := 2) C dX8_copy_107 rfl rfl ?_
  refine x_aald (r := some 16) C (nlt rfl) rfl rfl (nle rfl) (by omega) (by omega) (HG.rR hHy16 (k := 6) (i := 1) rfl rfl) dX8_copy_108 ?_
  refine x_aload_n (i := 1) C dX8_copy_109 rfl rfl ?_
  refine x_getRs (r := 145) C fkX_X8_34 (nlt rfl) rfl (HG.rR hHy16 (k := 140) (i := 7) rfl rfl) dX8_copy_110 ?_
  refine x_iload_n (i := 2) C dX8_copy_113 rfl rfl ?_
  refine x_aald (r := some 155) C (nlt rfl) rfl rfl (nle rfl) (by omega) (by omega) (HG.rR hHy16 (k := 145) (i := 1) rfl rfl) dX8_copy_114 ?_
  refine x_callV (As := [.ref 155]) C (by exact (c_kg16_155 hHy16 FR.rf)) ckX8_56 im_X2_copy se_X2_copy (nlt rfl) rfl rfl rfl rfl (nle rfl) (by exact ⟨nle rfl, nle rfl⟩) dX8_copy_115 ?_
  rintro _ Yy18 ⟨rfl, hHy18, hGy18, ccy18⟩
  have hFy18 : FR mdKT1 X0 Yy18 := FR.tr hFy16 hGy18 (by decide)
  refine Wx_st (st' := []) rfl ?_
  refine x_iinc (lv' := [(2, .int (iI (1 + 1))), (0, .ref 1), (1, .ref 140)]) C dX8_copy_118 rfl (nlt rfl) rfl ?_
  refine Wx_lv (lv' := [(2, .int (iI (2))), (0, .ref 1), (1, .ref 140)]) rfl ?_
  refine x_goto (tgt := 98) C dX8_copy_121 (by decide) ?_
  refine x_iload_n (i := 2) C dX8_copy_98 rfl rfl ?_
  refine x_iconst C dX8_copy_99 ?_
  refine x_icmp_ge (tgt := 124) C dX8_copy_100 (by decide) ⟨by omega, by omega⟩ ⟨by omega, by omega⟩ (fun h19 => ?_) (fun h19 => by exfalso; omega)
  exact x_vret C hQ dX8_copy_124 (⟨rfl, hHy18, hFy18, by rw [(hGy18 1 0 rfl).1, (hGy16 1 0 rfl).1, (hGy13 1 0 rfl).1, (hGy11 1 0 rfl).1, eYy9, cpL_1, eYy8, cpI_o1 (by decide), eYy7, cpI_o1 (by decide), eYy6, upI_ne (by decide), eYy4, upI_ne (by decide), eYy2, upI_at]; omega, by rw [(hGy18 1 1 rfl).1, (hGy16 1 1 rfl).1, (hGy13 1 1 rfl).1, (hGy11 1 1 rfl).1, eYy9, cpL_1, eYy8, cpI_o1 (by decide), eYy7, cpI_o1 (by decide), eYy6, upI_ne (by decide), eYy4, upI_at]; omega, by rw [(hGy18 1 2 rfl).1, (hGy16 1 2 rfl).1, (hGy13 1 2 rfl).1, (hGy11 1 2 rfl).1, eYy9, cpL_1, eYy8, cpI_o1 (by decide), eYy7, cpI_o1 (by decide), eYy6, upI_at]; omega, fun j hj => by rw [(hGy18 2 j rfl).1, (hGy16 2 j rfl).1, (hGy13 2 j rfl).1, (hGy11 2 j rfl).1, eYy9, cpL_1, eYy8, cpI_o1 (by decide), eYy7, cpI_r hj, eYy6, upI_nc (by decide), eYy4, upI_nc (by decide), eYy2, upI_nc (by decide)], fun j hj => by rw [(hGy18 3 j rfl).1, (hGy16 3 j rfl).1, (hGy13 3 j rfl).1, (hGy11 3 j rfl).1, eYy9, cpL_1, eYy8, cpI_r hj, eYy7, cpI_o1 (by decide), eYy6, upI_nc (by decide), eYy4, upI_nc (by decide), eYy2, upI_nc (by decide)], fun j hj => by rw [(hGy18 5 j rfl).2.1, (hGy16 5 j rfl).2.1, (hGy13 5 j rfl).2.1, (hGy11 5 j rfl).2.1, eYy9, cpL_r hj, eYy8, cpI_2, eYy7, cpI_2, eYy6, upI_2, eYy4, upI_2, eYy2, upI_2], (CPB.fr ccy11 hFy9 (fun _ => ⟨rfl, rfl, rfl⟩) (FR.tr (FR.tr (FR.tr (FR.rf : FR mdKT1r0 Yy11 Yy11) hGy13 (by decide)) hGy16 (by decide)) hGy18 (by decide)) (fun _ => ⟨rfl, rfl, rfl⟩)), (CPB.fr ccy13 hFy11 (fun _ => ⟨rfl, rfl, rfl⟩) (FR.tr (FR.tr (FR.rf : FR mdKT1r1 Yy13 Yy13) hGy16 (by decide)) hGy18 (by decide)) (fun _ => ⟨rfl, rfl, rfl⟩)), (CPG.fr ccy16 hFy13 (fun _ => ⟨rfl, rfl, rfl⟩) (FR.tr (FR.rf : FR mdKT1r2 Yy16 Yy16) hGy18 (by decide)) (fun _ => ⟨rfl, rfl, rfl⟩)), (CPG.fr ccy18 hFy16 (fun _ => ⟨rfl, rfl, rfl⟩) (FR.rf : FR [] Yy18 Yy18) (fun _ => ⟨rfl, rfl, rfl⟩))⟩)
