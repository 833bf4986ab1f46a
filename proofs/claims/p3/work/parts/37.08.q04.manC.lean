/-! ===== the reference: is() of boards, copyAll ===== -/
theorem dX12_is_0 : decode cX12_is 0 = .ok (.iload_n 2, 1) := by decide +kernel
theorem dX12_is_1 : decode cX12_is 1 = .ok (.iconst 0, 1) := by decide +kernel
theorem dX12_is_2 : decode cX12_is 2 = .ok (.aload_n 0, 1) := by decide +kernel
theorem dX12_is_3 : decode cX12_is 3 = .ok (.getfield 23, 3) := by decide +kernel
theorem dX12_is_6 : decode cX12_is 6 = .ok (.iload_n 1, 1) := by decide +kernel
theorem dX12_is_7 : decode cX12_is 7 = .ok (.iaload, 1) := by decide +kernel
theorem dX12_is_8 : decode cX12_is 8 = .ok (.iconst 1, 1) := by decide +kernel
theorem dX12_is_9 : decode cX12_is 9 = .ok (.isub, 1) := by decide +kernel
theorem dX12_is_10 : decode cX12_is 10 = .ok (.invokestatic 165, 3) := by decide +kernel
theorem dX12_is_13 : decode cX12_is 13 = .ok (.ireturn, 1) := by decide +kernel
theorem dX12_copyRow_0 : decode cX12_copyRow 0 = .ok (.iconst 0, 1) := by decide +kernel
theorem dX12_copyRow_1 : decode cX12_copyRow 1 = .ok (.istore 4, 2) := by decide +kernel
theorem dX12_copyRow_3 : decode cX12_copyRow 3 = .ok (.iload 4, 2) := by decide +kernel
theorem dX12_copyRow_5 : decode cX12_copyRow 5 = .ok (.iload_n 1, 1) := by decide +kernel
theorem dX12_copyRow_6 : decode cX12_copyRow 6 = .ok (.if_icmp .ge 25, 3) := by decide +kernel
theorem dX12_copyRow_9 : decode cX12_copyRow 9 = .ok (.aload_n 0, 1) := by decide +kernel
theorem dX12_copyRow_10 : decode cX12_copyRow 10 = .ok (.iload_n 1, 1) := by decide +kernel
theorem dX12_copyRow_11 : decode cX12_copyRow 11 = .ok (.iload_n 3, 1) := by decide +kernel
theorem dX12_copyRow_12 : decode cX12_copyRow 12 = .ok (.imul, 1) := by decide +kernel
theorem dX12_copyRow_13 : decode cX12_copyRow 13 = .ok (.iload 4, 2) := by decide +kernel
theorem dX12_copyRow_15 : decode cX12_copyRow 15 = .ok (.iadd, 1) := by decide +kernel
theorem dX12_copyRow_16 : decode cX12_copyRow 16 = .ok (.aload_n 0, 1) := by decide +kernel
theorem dX12_copyRow_17 : decode cX12_copyRow 17 = .ok (.iload_n 1, 1) := by decide +kernel
theorem dX12_copyRow_18 : decode cX12_copyRow 18 = .ok (.iload_n 2, 1) := by decide +kernel
theorem dX12_copyRow_19 : decode cX12_copyRow 19 = .ok (.imul, 1) := by decide +kernel
theorem dX12_copyRow_20 : decode cX12_copyRow 20 = .ok (.iload 4, 2) := by decide +kernel
theorem dX12_copyRow_22 : decode cX12_copyRow 22 = .ok (.iadd, 1) := by decide +kernel
theorem dX12_copyRow_23 : decode cX12_copyRow 23 = .ok (.iaload, 1) := by decide +kernel
theorem dX12_copyRow_24 : decode cX12_copyRow 24 = .ok (.iastore, 1) := by decide +kernel
theorem dX12_copyRow_25 : decode cX12_copyRow 25 = .ok (.iinc 4 1, 3) := by decide +kernel
theorem dX12_copyRow_28 : decode cX12_copyRow 28 = .ok (.goto (-25), 3) := by decide +kernel
theorem dX12_copyRow_31 : decode cX12_copyRow 31 = .ok (.return_, 1) := by decide +kernel
theorem dX12_copyAll_0 : decode cX12_copyAll 0 = .ok (.iconst 0, 1) := by decide +kernel
theorem dX12_copyAll_1 : decode cX12_copyAll 1 = .ok (.istore_n 3, 1) := by decide +kernel
theorem dX12_copyAll_2 : decode cX12_copyAll 2 = .ok (.iload_n 3, 1) := by decide +kernel
theorem dX12_copyAll_3 : decode cX12_copyAll 3 = .ok (.sipush 600, 3) := by decide +kernel
theorem dX12_copyAll_6 : decode cX12_copyAll 6 = .ok (.if_icmp .ge 33, 3) := by decide +kernel
theorem dX12_copyAll_9 : decode cX12_copyAll 9 = .ok (.aload_n 0, 1) := by decide +kernel
theorem dX12_copyAll_10 : decode cX12_copyAll 10 = .ok (.getfield 7, 3) := by decide +kernel
theorem dX12_copyAll_13 : decode cX12_copyAll 13 = .ok (.sipush 600, 3) := by decide +kernel
theorem dX12_copyAll_16 : decode cX12_copyAll 16 = .ok (.iload_n 2, 1) := by decide +kernel
theorem dX12_copyAll_17 : decode cX12_copyAll 17 = .ok (.imul, 1) := by decide +kernel
theorem dX12_copyAll_18 : decode cX12_copyAll 18 = .ok (.iload_n 3, 1) := by decide +kernel
theorem dX12_copyAll_19 : decode cX12_copyAll 19 = .ok (.iadd, 1) := by decide +kernel
theorem dX12_copyAll_20 : decode cX12_copyAll 20 = .ok (.aload_n 0, 1) := by decide +kernel
theorem dX12_copyAll_21 : decode cX12_copyAll 21 = .ok (.getfield 7, 3) := by decide +kernel
theorem dX12_copyAll_24 : decode cX12_copyAll 24 = .ok (.sipush 600, 3) := by decide +kernel
theorem dX12_copyAll_27 : decode cX12_copyAll 27 = .ok (.iload_n 1, 1) := by decide +kernel
theorem dX12_copyAll_28 : decode cX12_copyAll 28 = .ok (.imul, 1) := by decide +kernel
theorem dX12_copyAll_29 : decode cX12_copyAll 29 = .ok (.iload_n 3, 1) := by decide +kernel
theorem dX12_copyAll_30 : decode cX12_copyAll 30 = .ok (.iadd, 1) := by decide +kernel
theorem dX12_copyAll_31 : decode cX12_copyAll 31 = .ok (.baload, 1) := by decide +kernel
theorem dX12_copyAll_32 : decode cX12_copyAll 32 = .ok (.bastore, 1) := by decide +kernel
theorem dX12_copyAll_33 : decode cX12_copyAll 33 = .ok (.iinc 3 1, 3) := by decide +kernel
theorem dX12_copyAll_36 : decode cX12_copyAll 36 = .ok (.goto (-34), 3) := by decide +kernel
theorem dX12_copyAll_39 : decode cX12_copyAll 39 = .ok (.aload_n 0, 1) := by decide +kernel
theorem dX12_copyAll_40 : decode cX12_copyAll 40 = .ok (.getfield 13, 3) := by decide +kernel
theorem dX12_copyAll_43 : decode cX12_copyAll 43 = .ok (.iconst 1, 1) := by decide +kernel
theorem dX12_copyAll_44 : decode cX12_copyAll 44 = .ok (.iload_n 1, 1) := by decide +kernel
theorem dX12_copyAll_45 : decode cX12_copyAll 45 = .ok (.iload_n 2, 1) := by decide +kernel
theorem dX12_copyAll_46 : decode cX12_copyAll 46 = .ok (.invokestatic 161, 3) := by decide +kernel
theorem dX12_copyAll_49 : decode cX12_copyAll 49 = .ok (.aload_n 0, 1) := by decide +kernel
theorem dX12_copyAll_50 : decode cX12_copyAll 50 = .ok (.getfield 17, 3) := by decide +kernel
theorem dX12_copyAll_53 : decode cX12_copyAll 53 = .ok (.iconst 1, 1) := by decide +kernel
theorem dX12_copyAll_54 : decode cX12_copyAll 54 = .ok (.iload_n 1, 1) := by decide +kernel
theorem dX12_copyAll_55 : decode cX12_copyAll 55 = .ok (.iload_n 2, 1) := by decide +kernel
theorem dX12_copyAll_56 : decode cX12_copyAll 56 = .ok (.invokestatic 161, 3) := by decide +kernel
theorem dX12_copyAll_59 : decode cX12_copyAll 59 = .ok (.aload_n 0, 1) := by decide +kernel
theorem dX12_copyAll_60 : decode cX12_copyAll 60 = .ok (.getfield 20, 3) := by decide +kernel
theorem dX12_copyAll_63 : decode cX12_copyAll 63 = .ok (.iconst 1, 1) := by decide +kernel
theorem dX12_copyAll_64 : decode cX12_copyAll 64 = .ok (.iload_n 1, 1) := by decide +kernel
theorem dX12_copyAll_65 : decode cX12_copyAll 65 = .ok (.iload_n 2, 1) := by decide +kernel
theorem dX12_copyAll_66 : decode cX12_copyAll 66 = .ok (.invokestatic 161, 3) := by decide +kernel
theorem dX12_copyAll_69 : decode cX12_copyAll 69 = .ok (.aload_n 0, 1) := by decide +kernel
theorem dX12_copyAll_70 : decode cX12_copyAll 70 = .ok (.getfield 23, 3) := by decide +kernel
theorem dX12_copyAll_73 : decode cX12_copyAll 73 = .ok (.iconst 3, 1) := by decide +kernel
theorem dX12_copyAll_74 : decode cX12_copyAll 74 = .ok (.iload_n 1, 1) := by decide +kernel
theorem dX12_copyAll_75 : decode cX12_copyAll 75 = .ok (.iload_n 2, 1) := by decide +kernel
theorem dX12_copyAll_76 : decode cX12_copyAll 76 = .ok (.invokestatic 161, 3) := by decide +kernel
theorem dX12_copyAll_79 : decode cX12_copyAll 79 = .ok (.aload_n 0, 1) := by decide +kernel
theorem dX12_copyAll_80 : decode cX12_copyAll 80 = .ok (.getfield 26, 3) := by decide +kernel
theorem dX12_copyAll_83 : decode cX12_copyAll 83 = .ok (.bipush 102, 2) := by decide +kernel
theorem dX12_copyAll_85 : decode cX12_copyAll 85 = .ok (.iload_n 1, 1) := by decide +kernel
theorem dX12_copyAll_86 : decode cX12_copyAll 86 = .ok (.iload_n 2, 1) := by decide +kernel
theorem dX12_copyAll_87 : decode cX12_copyAll 87 = .ok (.invokestatic 161, 3) := by decide +kernel
theorem dX12_copyAll_90 : decode cX12_copyAll 90 = .ok (.aload_n 0, 1) := by decide +kernel
theorem dX12_copyAll_91 : decode cX12_copyAll 91 = .ok (.getfield 29, 3) := by decide +kernel
theorem dX12_copyAll_94 : decode cX12_copyAll 94 = .ok (.bipush 30, 2) := by decide +kernel
theorem dX12_copyAll_96 : decode cX12_copyAll 96 = .ok (.iload_n 1, 1) := by decide +kernel
theorem dX12_copyAll_97 : decode cX12_copyAll 97 = .ok (.iload_n 2, 1) := by decide +kernel
theorem dX12_copyAll_98 : decode cX12_copyAll 98 = .ok (.invokestatic 161, 3) := by decide +kernel
theorem dX12_copyAll_101 : decode cX12_copyAll 101 = .ok (.aload_n 0, 1) := by decide +kernel
theorem dX12_copyAll_102 : decode cX12_copyAll 102 = .ok (.getfield 32, 3) := by decide +kernel
theorem dX12_copyAll_105 : decode cX12_copyAll 105 = .ok (.sipush 662, 3) := by decide +kernel
theorem dX12_copyAll_108 : decode cX12_copyAll 108 = .ok (.iload_n 1, 1) := by decide +kernel
theorem dX12_copyAll_109 : decode cX12_copyAll 109 = .ok (.iload_n 2, 1) := by decide +kernel
theorem dX12_copyAll_110 : decode cX12_copyAll 110 = .ok (.invokestatic 161, 3) := by decide +kernel
theorem dX12_copyAll_113 : decode cX12_copyAll 113 = .ok (.return_, 1) := by decide +kernel
def CPQ (k n f q : Nat) (X X1 : XT) : Prop := (∀ p, p < n → X1.1 k (n * q + p) = X.1 k (n * f + p)) ∧ ∀ j, (j < n * q ∨ n * q + n ≤ j) → X1.1 k j = X.1 k j
theorem bok_cp {X X1 : XT} {f q : Nat} (hf : f ≤ 3) (hq : q ≤ 3) (h : BOK X) (c5 : CPQ 5 3 f q X X1) (c6 : CPQ 6 102 f q X X1) : BOK X1 := by
  intro s hs k hk hj
  by_cases e : s = q
  · subst e
    have m := c5.1 0 (by omega)
    have hj : (k : Int) < X1.1 5 (3 * s + 0) := hj
    rw [m] at hj
    have t := h f (by omega) k hk hj
    have b0 := c6.1 (51 * k) (by omega)
    have b1 := c6.1 (51 * k + 1) (by omega)
    refine ⟨by rw [b0]; exact t.1, ?_⟩
    rw [show 102 * s + 51 * k + 1 = 102 * s + (51 * k + 1) from rfl, b1]
    exact t.2
  · rw [c5.2 (3 * s) (by omega)] at hj
    have t := h s hs k hk hj
    rw [c6.2 (102 * s + 51 * k) (by omega), c6.2 (102 * s + 51 * k + 1) (by omega)]
    exact t
set_option maxHeartbeats 4000000 in
set_option maxRecDepth 100000 in
theorem q_isB {D : va_G} {ad : Nat → Nat} {cA : Nat → ClassId} {X : XT} {k : Int} (kk : inR k) (hH : HG vM X) : MetX (wM D ad cA) yX12_is cX12_is 3 (some .boolean) 1 22 [.ref 0, .int (iI (0)), .int (iI (k))] X (fun r X' => X' = X ∧ ∃ u : Int, r = some (.int (iI u)) ∧ ((u = 1 ∧ 0 ≤ k ∧ k < X.1 5 0) ∨ (u = 0 ∧ ¬ (0 ≤ k ∧ k < X.1 5 0)))) := by
  unfold inR at kk
  refine MetX.mk (own := RX12) (by decide +kernel) rfl (nle rfl) (fun E C hQ => ?_)
  refine Wx_lv (lv' := [(0, .ref 0), (1, .int (iI (0))), (2, .int (iI (k)))]) rfl ?_
  refine x_iload_n (i := 2) C dX12_is_0 rfl rfl ?_
  refine x_iconst C dX12_is_1 ?_
  refine x_aload_n (i := 0) C dX12_is_2 rfl rfl ?_
  refine x_getRs (r := 5) C fkM_X12_23 (nlt rfl) rfl (HG.rR hH (k := 0) (i := 5) rfl rfl) dX12_is_3 ?_
  refine x_iload_n (i := 1) C dX12_is_6 rfl rfl ?_
  refine x_iald C (nlt rfl) rfl rfl (nle rfl) (by omega) (by omega) dX12_is_7 ?_
  refine x_gen (fun v1 ev1 => ?_)
  replace ev1 : v1 = X.1 5 0 := ev1
  have qv1 : (0 : Int) ≤ v1 ∧ v1 ≤ (2 : Int) := by
    rw [ev1]
    exact hH.rF (k := 5) (i := 0) (p := (0, 2)) rfl rfl
  refine x_iconst C dX12_is_8 ?_
  refine x_isub C dX12_is_9 ?_
  refine x_callS (As := [.int (iI (k)), .int (iI (0)), .int (iI (v1 - 1))]) C (by exact (q_in (v := k) (a := 0) (b := v1 - 1) ⟨by omega, by omega⟩ ⟨by omega, by omega⟩ ⟨by omega, by omega⟩)) ckX12_165 sm_X12_in rfl rfl (nle rfl) (by exact ⟨nle rfl, nle rfl⟩) dX12_is_10 ?_
  rintro _ Xv2 ⟨hxv2, v2, rfl, ev2⟩
  rw [hxv2]
  refine Wx_st (st' := [.int (iI (v2))]) rfl ?_
  exact x_zret C hQ (by omega) dX12_is_13 (⟨rfl, _, rfl, by omega⟩)
set_option maxRecDepth 10000 in
theorem t_M_9 {D : va_G} {ad : Nat → Nat} {cA : Nat → ClassId} : CTR mtM vM gM (wM D ad cA) k_M_9 := by
  intro g X hpre
  obtain ⟨h00, hei, hel, hdl, hH, hE⟩ := hpre
  have h0 : (0 : Int) ≤ g.1 0 ∧ g.1 0 ≤ (0 : Int) := hei 0 _ rfl
  have h1 : (0 : Int) ≤ g.1 1 ∧ g.1 1 ≤ (0 : Int) := hei 1 _ rfl
  have h2 : ((-2147483648) : Int) ≤ g.1 2 ∧ g.1 2 ≤ (2147483647 : Int) := hei 2 _ rfl
  have ea : (cAr k_M_9).map (dn g) = [.ref 0, .int (iI 0), .int (iI (g.1 2 + 0))] := by
    show [_, Value.int (iI (g.1 1 + 0)), _] = _
    rw [show g.1 1 + 0 = 0 by omega]
    rfl
  rw [ea]
  refine MetX.imp (fun r X1 hp => ?_) (q_isB (X := X) (k := g.1 2 + 0) ⟨by omega, by omega⟩ hH)
  obtain ⟨rfl, u, rfl, hu⟩ := hp
  rcases hu with ⟨rfl, u1, u2⟩ | ⟨rfl, u1⟩
  · have hm : (0 : Int) ≤ X1.1 5 0 ∧ X1.1 5 0 ≤ 2 := hH.rF (k := 5) (i := 0) rfl rfl
    have b0 := hE 0 (by decide)
    rcases (show g.1 2 = 0 ∨ g.1 2 = 1 by omega) with hk | hk
    · have cc := b0 0 (by decide) (show ((0 : Nat) : Int) < X1.1 5 0 by omega)
      have c0 : 2 ≤ X1.1 6 0 ∧ X1.1 6 0 ≤ 6 := cc.1
      have c1 : 2 ≤ X1.1 6 1 ∧ X1.1 6 1 ≤ 6 := cc.2
      exact (altM_mk 1 [1, (X1.1 6 0), (X1.1 6 1)] rfl (ei_cons ⟨by show (0 : Int) ≤ g.1 0; omega, by show g.1 0 ≤ (0 : Int); omega⟩ (ei_cons ⟨by show (0 : Int) ≤ g.1 1; omega, by show g.1 1 ≤ (0 : Int); omega⟩ (ei_cons ⟨by show (0 : Int) ≤ g.1 2; omega, by show g.1 2 ≤ (0 : Int); omega⟩ (ei_cons ⟨by show (1 : Int) ≤ 1; omega, by show 1 ≤ (1 : Int); omega⟩ (ei_cons ⟨by show (2 : Int) ≤ (X1.1 6 0); omega, by show (X1.1 6 0) ≤ (6 : Int); omega⟩ (ei_cons ⟨by show (2 : Int) ≤ (X1.1 6 1); omega, by show (X1.1 6 1) ≤ (6 : Int); omega⟩ ei_nil)))))) el_nil (by rfl) (dl_cons (by show X1.1 6 0 = X1.1 6 0 + 0; omega) (dl_cons (by show X1.1 6 1 = X1.1 6 1 + 0; omega) dl_nil)) gd_nil hH hE FR.rf)
    · have cc := b0 1 (by decide) (show ((1 : Nat) : Int) < X1.1 5 0 by omega)
      have c0 : 2 ≤ X1.1 6 51 ∧ X1.1 6 51 ≤ 6 := cc.1
      have c1 : 2 ≤ X1.1 6 52 ∧ X1.1 6 52 ≤ 6 := cc.2
      exact (altM_mk 2 [1, (X1.1 6 51), (X1.1 6 52)] rfl (ei_cons ⟨by show (0 : Int) ≤ g.1 0; omega, by show g.1 0 ≤ (0 : Int); omega⟩ (ei_cons ⟨by show (0 : Int) ≤ g.1 1; omega, by show g.1 1 ≤ (0 : Int); omega⟩ (ei_cons ⟨by show (1 : Int) ≤ g.1 2; omega, by show g.1 2 ≤ (1 : Int); omega⟩ (ei_cons ⟨by show (1 : Int) ≤ 1; omega, by show 1 ≤ (1 : Int); omega⟩ (ei_cons ⟨by show (2 : Int) ≤ (X1.1 6 51); omega, by show (X1.1 6 51) ≤ (6 : Int); omega⟩ (ei_cons ⟨by show (2 : Int) ≤ (X1.1 6 52); omega, by show (X1.1 6 52) ≤ (6 : Int); omega⟩ ei_nil)))))) el_nil (by rfl) (dl_cons (by show X1.1 6 51 = X1.1 6 51 + 0; omega) (dl_cons (by show X1.1 6 52 = X1.1 6 52 + 0; omega) dl_nil)) gd_nil hH hE FR.rf)
  · exact (altM_mk 0 [0] rfl (ei_cons ⟨by show (0 : Int) ≤ g.1 0; omega, by show g.1 0 ≤ (0 : Int); omega⟩ (ei_cons ⟨by show (0 : Int) ≤ g.1 1; omega, by show g.1 1 ≤ (0 : Int); omega⟩ (ei_cons ⟨by show ((-2147483648) : Int) ≤ g.1 2; omega, by show g.1 2 ≤ (2147483647 : Int); omega⟩ (ei_cons ⟨by show (0 : Int) ≤ 0; omega, by show 0 ≤ (0 : Int); omega⟩ ei_nil)))) el_nil (by rfl) dl_nil gd_nil hH hE FR.rf)
abbrev mmC2 : List (Nat × Option Nat) := [(2, none)]
set_option maxHeartbeats 4000000 in
set_option maxRecDepth 100000 in
theorem lq_cpr2 {D : va_G} {ad : Nat → Nat} {cA : Nat → ClassId} {X0 : XT} {f q : Nat} (f1 : f ≤ 3) (q1 : q ≤ 3) {E : ET} {rm : Room} (C : CX E (wM D ad cA) cX12_copyRow 5 RX12 none rm) (hQ : EQ E (wM D ad cA) (fun r X1 => r = none ∧ HG vM X1 ∧ FR mmC2 X0 X1 ∧ CPQ 2 1 f q X0 X1)) : ∀ (n : Nat) (i : Nat) (X : XT), ((2 - i : Nat) : Int) < n → HG vM X → FR mmC2 X0 X → i ≤ 1 → (∀ p, p < i → X.1 2 (1 * q + p) = X0.1 2 (1 * f + p)) → (∀ j, (j < 1 * q ∨ 1 * q + i ≤ j) → X.1 2 j = X0.1 2 j) → Wx E (wM D ad cA) 5 (PX (wM D ad cA) X) 3 [(0, .ref 2), (1, .int (iI (1))), (2, .int (iI ((f : Int)))), (3, .int (iI ((q : Int)))), (4, .int (iI ((i : Int))))] [] := by
  intro n
  induction n with
  | zero => intro i X hn hH hF il c1 c2; exfalso; omega
  | succ n ih =>
    intro i X hn hH hF il c1 c2
    refine x_iload C dX12_copyRow_3 rfl ?_
    refine x_iload_n (i := 1) C dX12_copyRow_5 rfl rfl ?_
    refine x_icmp_ge (tgt := 31) C dX12_copyRow_6 (by decide) ⟨by omega, by omega⟩ ⟨by omega, by omega⟩ (fun h1 => ?_) (fun h1 => ?_)
    · exact x_vret C hQ dX12_copyRow_31 (⟨rfl, hH, hF, fun p hp => c1 p (by omega), fun j hj => c2 j (by omega)⟩)
    · refine x_aload_n (i := 0) C dX12_copyRow_9 rfl rfl ?_
      refine x_iload_n (i := 1) C dX12_copyRow_10 rfl rfl ?_
      refine x_iload_n (i := 3) C dX12_copyRow_11 rfl rfl ?_
      refine x_imul C dX12_copyRow_12 ?_
      refine x_iload C dX12_copyRow_13 rfl ?_
      refine x_iadd C dX12_copyRow_15 ?_
      refine x_aload_n (i := 0) C dX12_copyRow_16 rfl rfl ?_
      refine x_iload_n (i := 1) C dX12_copyRow_17 rfl rfl ?_
      refine x_iload_n (i := 2) C dX12_copyRow_18 rfl rfl ?_
      refine x_imul C dX12_copyRow_19 ?_
      refine x_iload C dX12_copyRow_20 rfl ?_
      refine x_iadd C dX12_copyRow_22 ?_
      refine x_iald C (nlt rfl) rfl rfl (nle rfl) (by omega) (by omega) dX12_copyRow_23 ?_
      refine x_gen (fun v2 ev2 => ?_)
      have qv2 : (0 : Int) ≤ v2 ∧ v2 ≤ (600 : Int) := by
        rw [ev2]
        exact hH.rA (k := 2) (n := 4) (p := (0, 600)) (nlt rfl) rfl (by decide +kernel) (by omega)
      have zt : v2 = X0.1 2 (1 * f + i) := by rw [ev2, show ((1 * ((f : Int))) + ((i : Int))).toNat = 1 * f + i by omega]; exact c2 _ (by omega)
      refine x_iast C (nlt rfl) rfl rfl (nle rfl) (by omega) (by omega) dX12_copyRow_24 ?_
      refine x_gX (fun Yy3 eYy3 => ?_)
      have hHy3 : HG vM Yy3 := by
        rw [eYy3]
        exact (by rw [ev2]; exact hg_cp hH (nlt rfl) rfl (by omega) (by show _ % 1 = _ % 1; omega))
      have hFy3 : FR mmC2 X0 Yy3 := by
        rw [eYy3]
        exact FR.upI hF rfl
      rw [show ((1 * ((q : Int))) + ((i : Int))).toNat = 1 * q + i by omega] at eYy3
      refine x_iinc (lv' := [(4, .int (iI ((i : Int) + 1))), (0, .ref 2), (1, .int (iI (1))), (2, .int (iI ((f : Int)))), (3, .int (iI ((q : Int))))]) C dX12_copyRow_25 rfl (nlt rfl) rfl ?_
      refine x_goto (tgt := 3) C dX12_copyRow_28 (by decide) ?_
      rw [show iI ((i : Int) + 1) = iI (((i + 1 : Nat) : Int)) by congr 1]
      refine Wx_pick [0, 1, 2, 3, 4] ?_
      refine Wx_lv (lv' := [(0, .ref 2), (1, .int (iI (1))), (2, .int (iI ((f : Int)))), (3, .int (iI ((q : Int)))), (4, .int (iI (((i + 1 : Nat) : Int))))]) rfl ?_
      refine ih (i + 1) _ (by omega) hHy3 hFy3 (by omega) (fun p hp => ?_) (fun j hj => ?_)
      · by_cases ep : p = i
        · subst ep
          rw [eYy3, upI_at]
          exact zt
        · rw [eYy3, upI_ne (by omega)]
          exact c1 p (by omega)
      · rw [eYy3, upI_ne (by omega)]
        exact c2 j (by omega)
set_option maxHeartbeats 4000000 in
set_option maxRecDepth 100000 in
theorem q_cpr2 {D : va_G} {ad : Nat → Nat} {cA : Nat → ClassId} {X0 : XT} {f q : Nat} (f1 : f ≤ 3) (q1 : q ≤ 3) (hH : HG vM X0) (hF : FR mmC2 X0 X0) : MetX (wM D ad cA) yX12_copyRow cX12_copyRow 5 none 0 0 [.ref 2, .int (iI (1)), .int (iI ((f : Int))), .int (iI ((q : Int)))] X0 (fun r X1 => r = none ∧ HG vM X1 ∧ FR mmC2 X0 X1 ∧ CPQ 2 1 f q X0 X1) := by
  refine MetX.mk (own := RX12) (by decide +kernel) rfl (nle rfl) (fun E C hQ => ?_)
  refine Wx_lv (lv' := [(0, .ref 2), (1, .int (iI (1))), (2, .int (iI ((f : Int)))), (3, .int (iI ((q : Int))))]) rfl ?_
  refine x_iconst C dX12_copyRow_0 ?_
  refine x_istore (lv' := [(4, .int (iI (0))), (0, .ref 2), (1, .int (iI (1))), (2, .int (iI ((f : Int)))), (3, .int (iI ((q : Int))))]) C dX12_copyRow_1 (nlt rfl) rfl ?_
  refine Wx_pick [0, 1, 2, 3, 4] ?_
  refine Wx_lv (lv' := [(0, .ref 2), (1, .int (iI (1))), (2, .int (iI ((f : Int)))), (3, .int (iI ((q : Int)))), (4, .int (iI (0)))]) rfl ?_
  exact lq_cpr2 f1 q1 C hQ 3 0 X0 (by decide) hH hF (by omega) (fun p hp => absurd hp (by omega)) (fun j hj => rfl)
abbrev mmC3 : List (Nat × Option Nat) := [(3, none)]
set_option maxHeartbeats 4000000 in
set_option maxRecDepth 100000 in
theorem lq_cpr3 {D : va_G} {ad : Nat → Nat} {cA : Nat → ClassId} {X0 : XT} {f q : Nat} (f1 : f ≤ 3) (q1 : q ≤ 3) {E : ET} {rm : Room} (C : CX E (wM D ad cA) cX12_copyRow 5 RX12 none rm) (hQ : EQ E (wM D ad cA) (fun r X1 => r = none ∧ HG vM X1 ∧ FR mmC3 X0 X1 ∧ CPQ 3 1 f q X0 X1)) : ∀ (n : Nat) (i : Nat) (X : XT), ((2 - i : Nat) : Int) < n → HG vM X → FR mmC3 X0 X → i ≤ 1 → (∀ p, p < i → X.1 3 (1 * q + p) = X0.1 3 (1 * f + p)) → (∀ j, (j < 1 * q ∨ 1 * q + i ≤ j) → X.1 3 j = X0.1 3 j) → Wx E (wM D ad cA) 5 (PX (wM D ad cA) X) 3 [(0, .ref 3), (1, .int (iI (1))), (2, .int (iI ((f : Int)))), (3, .int (iI ((q : Int)))), (4, .int (iI ((i : Int))))] [] := by
  intro n
  induction n with
  | zero => intro i X hn hH hF il c1 c2; exfalso; omega
  | succ n ih =>
    intro i X hn hH hF il c1 c2
    refine x_iload C dX12_copyRow_3 rfl ?_
    refine x_iload_n (i := 1) C dX12_copyRow_5 rfl rfl ?_
    refine x_icmp_ge (tgt := 31) C dX12_copyRow_6 (by decide) ⟨by omega, by omega⟩ ⟨by omega, by omega⟩ (fun h1 => ?_) (fun h1 => ?_)
    · exact x_vret C hQ dX12_copyRow_31 (⟨rfl, hH, hF, fun p hp => c1 p (by omega), fun j hj => c2 j (by omega)⟩)
    · refine x_aload_n (i := 0) C dX12_copyRow_9 rfl rfl ?_
      refine x_iload_n (i := 1) C dX12_copyRow_10 rfl rfl ?_
      refine x_iload_n (i := 3) C dX12_copyRow_11 rfl rfl ?_
      refine x_imul C dX12_copyRow_12 ?_
      refine x_iload C dX12_copyRow_13 rfl ?_
      refine x_iadd C dX12_copyRow_15 ?_
      refine x_aload_n (i := 0) C dX12_copyRow_16 rfl rfl ?_
      refine x_iload_n (i := 1) C dX12_copyRow_17 rfl rfl ?_
      refine x_iload_n (i := 2) C dX12_copyRow_18 rfl rfl ?_
      refine x_imul C dX12_copyRow_19 ?_
      refine x_iload C dX12_copyRow_20 rfl ?_
      refine x_iadd C dX12_copyRow_22 ?_
      refine x_iald C (nlt rfl) rfl rfl (nle rfl) (by omega) (by omega) dX12_copyRow_23 ?_
      refine x_gen (fun v2 ev2 => ?_)
      have qv2 : ((-2147483648) : Int) ≤ v2 ∧ v2 ≤ (2147483647 : Int) := by
        rw [ev2]
        exact hH.rA (k := 3) (n := 4) (p := ((-2147483648), 2147483647)) (nlt rfl) rfl (by decide +kernel) (by omega)
      have zt : v2 = X0.1 3 (1 * f + i) := by rw [ev2, show ((1 * ((f : Int))) + ((i : Int))).toNat = 1 * f + i by omega]; exact c2 _ (by omega)
      refine x_iast C (nlt rfl) rfl rfl (nle rfl) (by omega) (by omega) dX12_copyRow_24 ?_
      refine x_gX (fun Yy3 eYy3 => ?_)
      have hHy3 : HG vM Yy3 := by
        rw [eYy3]
        exact (by rw [ev2]; exact hg_cp hH (nlt rfl) rfl (by omega) (by show _ % 1 = _ % 1; omega))
      have hFy3 : FR mmC3 X0 Yy3 := by
        rw [eYy3]
        exact FR.upI hF rfl
      rw [show ((1 * ((q : Int))) + ((i : Int))).toNat = 1 * q + i by omega] at eYy3
      refine x_iinc (lv' := [(4, .int (iI ((i : Int) + 1))), (0, .ref 3), (1, .int (iI (1))), (2, .int (iI ((f : Int)))), (3, .int (iI ((q : Int))))]) C dX12_copyRow_25 rfl (nlt rfl) rfl ?_
      refine x_goto (tgt := 3) C dX12_copyRow_28 (by decide) ?_
      rw [show iI ((i : Int) + 1) = iI (((i + 1 : Nat) : Int)) by congr 1]
      refine Wx_pick [0, 1, 2, 3, 4] ?_
      refine Wx_lv (lv' := [(0, .ref 3), (1, .int (iI (1))), (2, .int (iI ((f : Int)))), (3, .int (iI ((q : Int)))), (4, .int (iI (((i + 1 : Nat) : Int))))]) rfl ?_
      refine ih (i + 1) _ (by omega) hHy3 hFy3 (by omega) (fun p hp => ?_) (fun j hj => ?_)
      · by_cases ep : p = i
        · subst ep
          rw [eYy3, upI_at]
          exact zt
        · rw [eYy3, upI_ne (by omega)]
          exact c1 p (by omega)
      · rw [eYy3, upI_ne (by omega)]
        exact c2 j (by omega)
set_option maxHeartbeats 4000000 in
set_option maxRecDepth 100000 in
theorem q_cpr3 {D : va_G} {ad : Nat → Nat} {cA : Nat → ClassId} {X0 : XT} {f q : Nat} (f1 : f ≤ 3) (q1 : q ≤ 3) (hH : HG vM X0) (hF : FR mmC3 X0 X0) : MetX (wM D ad cA) yX12_copyRow cX12_copyRow 5 none 0 0 [.ref 3, .int (iI (1)), .int (iI ((f : Int))), .int (iI ((q : Int)))] X0 (fun r X1 => r = none ∧ HG vM X1 ∧ FR mmC3 X0 X1 ∧ CPQ 3 1 f q X0 X1) := by
  refine MetX.mk (own := RX12) (by decide +kernel) rfl (nle rfl) (fun E C hQ => ?_)
  refine Wx_lv (lv' := [(0, .ref 3), (1, .int (iI (1))), (2, .int (iI ((f : Int)))), (3, .int (iI ((q : Int))))]) rfl ?_
  refine x_iconst C dX12_copyRow_0 ?_
  refine x_istore (lv' := [(4, .int (iI (0))), (0, .ref 3), (1, .int (iI (1))), (2, .int (iI ((f : Int)))), (3, .int (iI ((q : Int))))]) C dX12_copyRow_1 (nlt rfl) rfl ?_
  refine Wx_pick [0, 1, 2, 3, 4] ?_
  refine Wx_lv (lv' := [(0, .ref 3), (1, .int (iI (1))), (2, .int (iI ((f : Int)))), (3, .int (iI ((q : Int)))), (4, .int (iI (0)))]) rfl ?_
  exact lq_cpr3 f1 q1 C hQ 3 0 X0 (by decide) hH hF (by omega) (fun p hp => absurd hp (by omega)) (fun j hj => rfl)
abbrev mmC4 : List (Nat × Option Nat) := [(4, none)]
set_option maxHeartbeats 4000000 in
set_option maxRecDepth 100000 in
theorem lq_cpr4 {D : va_G} {ad : Nat → Nat} {cA : Nat → ClassId} {X0 : XT} {f q : Nat} (f1 : f ≤ 3) (q1 : q ≤ 3) {E : ET} {rm : Room} (C : CX E (wM D ad cA) cX12_copyRow 5 RX12 none rm) (hQ : EQ E (wM D ad cA) (fun r X1 => r = none ∧ HG vM X1 ∧ FR mmC4 X0 X1 ∧ CPQ 4 1 f q X0 X1)) : ∀ (n : Nat) (i : Nat) (X : XT), ((2 - i : Nat) : Int) < n → HG vM X → FR mmC4 X0 X → i ≤ 1 → (∀ p, p < i → X.1 4 (1 * q + p) = X0.1 4 (1 * f + p)) → (∀ j, (j < 1 * q ∨ 1 * q + i ≤ j) → X.1 4 j = X0.1 4 j) → Wx E (wM D ad cA) 5 (PX (wM D ad cA) X) 3 [(0, .ref 4), (1, .int (iI (1))), (2, .int (iI ((f : Int)))), (3, .int (iI ((q : Int)))), (4, .int (iI ((i : Int))))] [] := by
  intro n
  induction n with
  | zero => intro i X hn hH hF il c1 c2; exfalso; omega
  | succ n ih =>
    intro i X hn hH hF il c1 c2
    refine x_iload C dX12_copyRow_3 rfl ?_
    refine x_iload_n (i := 1) C dX12_copyRow_5 rfl rfl ?_
    refine x_icmp_ge (tgt := 31) C dX12_copyRow_6 (by decide) ⟨by omega, by omega⟩ ⟨by omega, by omega⟩ (fun h1 => ?_) (fun h1 => ?_)
    · exact x_vret C hQ dX12_copyRow_31 (⟨rfl, hH, hF, fun p hp => c1 p (by omega), fun j hj => c2 j (by omega)⟩)
    · refine x_aload_n (i := 0) C dX12_copyRow_9 rfl rfl ?_
      refine x_iload_n (i := 1) C dX12_copyRow_10 rfl rfl ?_
      refine x_iload_n (i := 3) C dX12_copyRow_11 rfl rfl ?_
      refine x_imul C dX12_copyRow_12 ?_
      refine x_iload C dX12_copyRow_13 rfl ?_
      refine x_iadd C dX12_copyRow_15 ?_
      refine x_aload_n (i := 0) C dX12_copyRow_16 rfl rfl ?_
      refine x_iload_n (i := 1) C dX12_copyRow_17 rfl rfl ?_
      refine x_iload_n (i := 2) C dX12_copyRow_18 rfl rfl ?_
      refine x_imul C dX12_copyRow_19 ?_
      refine x_iload C dX12_copyRow_20 rfl ?_
      refine x_iadd C dX12_copyRow_22 ?_
      refine x_iald C (nlt rfl) rfl rfl (nle rfl) (by omega) (by omega) dX12_copyRow_23 ?_
      refine x_gen (fun v2 ev2 => ?_)
      have qv2 : ((-2147483648) : Int) ≤ v2 ∧ v2 ≤ (2147483647 : Int) := by
        rw [ev2]
        exact hH.rA (k := 4) (n := 4) (p := ((-2147483648), 2147483647)) (nlt rfl) rfl (by decide +kernel) (by omega)
      have zt : v2 = X0.1 4 (1 * f + i) := by rw [ev2, show ((1 * ((f : Int))) + ((i : Int))).toNat = 1 * f + i by omega]; exact c2 _ (by omega)
      refine x_iast C (nlt rfl) rfl rfl (nle rfl) (by omega) (by omega) dX12_copyRow_24 ?_
      refine x_gX (fun Yy3 eYy3 => ?_)
      have hHy3 : HG vM Yy3 := by
        rw [eYy3]
        exact (by rw [ev2]; exact hg_cp hH (nlt rfl) rfl (by omega) (by show _ % 1 = _ % 1; omega))
      have hFy3 : FR mmC4 X0 Yy3 := by
        rw [eYy3]
        exact FR.upI hF rfl
      rw [show ((1 * ((q : Int))) + ((i : Int))).toNat = 1 * q + i by omega] at eYy3
      refine x_iinc (lv' := [(4, .int (iI ((i : Int) + 1))), (0, .ref 4), (1, .int (iI (1))), (2, .int (iI ((f : Int)))), (3, .int (iI ((q : Int))))]) C dX12_copyRow_25 rfl (nlt rfl) rfl ?_
      refine x_goto (tgt := 3) C dX12_copyRow_28 (by decide) ?_
      rw [show iI ((i : Int) + 1) = iI (((i + 1 : Nat) : Int)) by congr 1]
      refine Wx_pick [0, 1, 2, 3, 4] ?_
      refine Wx_lv (lv' := [(0, .ref 4), (1, .int (iI (1))), (2, .int (iI ((f : Int)))), (3, .int (iI ((q : Int)))), (4, .int (iI (((i + 1 : Nat) : Int))))]) rfl ?_
      refine ih (i + 1) _ (by omega) hHy3 hFy3 (by omega) (fun p hp => ?_) (fun j hj => ?_)
      · by_cases ep : p = i
        · subst ep
          rw [eYy3, upI_at]
          exact zt
        · rw [eYy3, upI_ne (by omega)]
          exact c1 p (by omega)
      · rw [eYy3, upI_ne (by omega)]
        exact c2 j (by omega)
set_option maxHeartbeats 4000000 in
set_option maxRecDepth 100000 in
theorem q_cpr4 {D : va_G} {ad : Nat → Nat} {cA : Nat → ClassId} {X0 : XT} {f q : Nat} (f1 : f ≤ 3) (q1 : q ≤ 3) (hH : HG vM X0) (hF : FR mmC4 X0 X0) : MetX (wM D ad cA) yX12_copyRow cX12_copyRow 5 none 0 0 [.ref 4, .int (iI (1)), .int (iI ((f : Int))), .int (iI ((q : Int)))] X0 (fun r X1 => r = none ∧ HG vM X1 ∧ FR mmC4 X0 X1 ∧ CPQ 4 1 f q X0 X1) := by
  refine MetX.mk (own := RX12) (by decide +kernel) rfl (nle rfl) (fun E C hQ => ?_)
  refine Wx_lv (lv' := [(0, .ref 4), (1, .int (iI (1))), (2, .int (iI ((f : Int)))), (3, .int (iI ((q : Int))))]) rfl ?_
  refine x_iconst C dX12_copyRow_0 ?_
  refine x_istore (lv' := [(4, .int (iI (0))), (0, .ref 4), (1, .int (iI (1))), (2, .int (iI ((f : Int)))), (3, .int (iI ((q : Int))))]) C dX12_copyRow_1 (nlt rfl) rfl ?_
  refine Wx_pick [0, 1, 2, 3, 4] ?_
  refine Wx_lv (lv' := [(0, .ref 4), (1, .int (iI (1))), (2, .int (iI ((f : Int)))), (3, .int (iI ((q : Int)))), (4, .int (iI (0)))]) rfl ?_
  exact lq_cpr4 f1 q1 C hQ 3 0 X0 (by decide) hH hF (by omega) (fun p hp => absurd hp (by omega)) (fun j hj => rfl)
abbrev mmC5 : List (Nat × Option Nat) := [(5, none)]
set_option maxHeartbeats 4000000 in
set_option maxRecDepth 100000 in
theorem lq_cpr5 {D : va_G} {ad : Nat → Nat} {cA : Nat → ClassId} {X0 : XT} {f q : Nat} (f1 : f ≤ 3) (q1 : q ≤ 3) {E : ET} {rm : Room} (C : CX E (wM D ad cA) cX12_copyRow 5 RX12 none rm) (hQ : EQ E (wM D ad cA) (fun r X1 => r = none ∧ HG vM X1 ∧ FR mmC5 X0 X1 ∧ CPQ 5 3 f q X0 X1)) : ∀ (n : Nat) (i : Nat) (X : XT), ((4 - i : Nat) : Int) < n → HG vM X → FR mmC5 X0 X → i ≤ 3 → (∀ p, p < i → X.1 5 (3 * q + p) = X0.1 5 (3 * f + p)) → (∀ j, (j < 3 * q ∨ 3 * q + i ≤ j) → X.1 5 j = X0.1 5 j) → Wx E (wM D ad cA) 5 (PX (wM D ad cA) X) 3 [(0, .ref 5), (1, .int (iI (3))), (2, .int (iI ((f : Int)))), (3, .int (iI ((q : Int)))), (4, .int (iI ((i : Int))))] [] := by
  intro n
  induction n with
  | zero => intro i X hn hH hF il c1 c2; exfalso; omega
  | succ n ih =>
    intro i X hn hH hF il c1 c2
    refine x_iload C dX12_copyRow_3 rfl ?_
    refine x_iload_n (i := 1) C dX12_copyRow_5 rfl rfl ?_
    refine x_icmp_ge (tgt := 31) C dX12_copyRow_6 (by decide) ⟨by omega, by omega⟩ ⟨by omega, by omega⟩ (fun h1 => ?_) (fun h1 => ?_)
    · exact x_vret C hQ dX12_copyRow_31 (⟨rfl, hH, hF, fun p hp => c1 p (by omega), fun j hj => c2 j (by omega)⟩)
    · refine x_aload_n (i := 0) C dX12_copyRow_9 rfl rfl ?_
      refine x_iload_n (i := 1) C dX12_copyRow_10 rfl rfl ?_
      refine x_iload_n (i := 3) C dX12_copyRow_11 rfl rfl ?_
      refine x_imul C dX12_copyRow_12 ?_
      refine x_iload C dX12_copyRow_13 rfl ?_
      refine x_iadd C dX12_copyRow_15 ?_
      refine x_aload_n (i := 0) C dX12_copyRow_16 rfl rfl ?_
      refine x_iload_n (i := 1) C dX12_copyRow_17 rfl rfl ?_
      refine x_iload_n (i := 2) C dX12_copyRow_18 rfl rfl ?_
      refine x_imul C dX12_copyRow_19 ?_
      refine x_iload C dX12_copyRow_20 rfl ?_
      refine x_iadd C dX12_copyRow_22 ?_
      refine x_iald C (nlt rfl) rfl rfl (nle rfl) (by omega) (by omega) dX12_copyRow_23 ?_
      refine x_gen (fun v2 ev2 => ?_)
      have qv2 : (0 : Int) ≤ v2 ∧ v2 ≤ (3 : Int) := by
        rw [ev2]
        exact hH.rA (k := 5) (n := 12) (p := (0, 3)) (nlt rfl) rfl (by decide +kernel) (by omega)
      have zt : v2 = X0.1 5 (3 * f + i) := by rw [ev2, show ((3 * ((f : Int))) + ((i : Int))).toNat = 3 * f + i by omega]; exact c2 _ (by omega)
      refine x_iast C (nlt rfl) rfl rfl (nle rfl) (by omega) (by omega) dX12_copyRow_24 ?_
      refine x_gX (fun Yy3 eYy3 => ?_)
      have hHy3 : HG vM Yy3 := by
        rw [eYy3]
        exact (by rw [ev2]; exact hg_cp hH (nlt rfl) rfl (by omega) (by show _ % 3 = _ % 3; omega))
      have hFy3 : FR mmC5 X0 Yy3 := by
        rw [eYy3]
        exact FR.upI hF rfl
      rw [show ((3 * ((q : Int))) + ((i : Int))).toNat = 3 * q + i by omega] at eYy3
      refine x_iinc (lv' := [(4, .int (iI ((i : Int) + 1))), (0, .ref 5), (1, .int (iI (3))), (2, .int (iI ((f : Int)))), (3, .int (iI ((q : Int))))]) C dX12_copyRow_25 rfl (nlt rfl) rfl ?_
      refine x_goto (tgt := 3) C dX12_copyRow_28 (by decide) ?_
      rw [show iI ((i : Int) + 1) = iI (((i + 1 : Nat) : Int)) by congr 1]
      refine Wx_pick [0, 1, 2, 3, 4] ?_
      refine Wx_lv (lv' := [(0, .ref 5), (1, .int (iI (3))), (2, .int (iI ((f : Int)))), (3, .int (iI ((q : Int)))), (4, .int (iI (((i + 1 : Nat) : Int))))]) rfl ?_
      refine ih (i + 1) _ (by omega) hHy3 hFy3 (by omega) (fun p hp => ?_) (fun j hj => ?_)
      · by_cases ep : p = i
        · subst ep
          rw [eYy3, upI_at]
          exact zt
        · rw [eYy3, upI_ne (by omega)]
          exact c1 p (by omega)
      · rw [eYy3, upI_ne (by omega)]
        exact c2 j (by omega)
set_option maxHeartbeats 4000000 in
set_option maxRecDepth 100000 in
theorem q_cpr5 {D : va_G} {ad : Nat → Nat} {cA : Nat → ClassId} {X0 : XT} {f q : Nat} (f1 : f ≤ 3) (q1 : q ≤ 3) (hH : HG vM X0) (hF : FR mmC5 X0 X0) : MetX (wM D ad cA) yX12_copyRow cX12_copyRow 5 none 0 0 [.ref 5, .int (iI (3)), .int (iI ((f : Int))), .int (iI ((q : Int)))] X0 (fun r X1 => r = none ∧ HG vM X1 ∧ FR mmC5 X0 X1 ∧ CPQ 5 3 f q X0 X1) := by
  refine MetX.mk (own := RX12) (by decide +kernel) rfl (nle rfl) (fun E C hQ => ?_)
  refine Wx_lv (lv' := [(0, .ref 5), (1, .int (iI (3))), (2, .int (iI ((f : Int)))), (3, .int (iI ((q : Int))))]) rfl ?_
  refine x_iconst C dX12_copyRow_0 ?_
  refine x_istore (lv' := [(4, .int (iI (0))), (0, .ref 5), (1, .int (iI (3))), (2, .int (iI ((f : Int)))), (3, .int (iI ((q : Int))))]) C dX12_copyRow_1 (nlt rfl) rfl ?_
  refine Wx_pick [0, 1, 2, 3, 4] ?_
  refine Wx_lv (lv' := [(0, .ref 5), (1, .int (iI (3))), (2, .int (iI ((f : Int)))), (3, .int (iI ((q : Int)))), (4, .int (iI (0)))]) rfl ?_
  exact lq_cpr5 f1 q1 C hQ 5 0 X0 (by decide) hH hF (by omega) (fun p hp => absurd hp (by omega)) (fun j hj => rfl)
abbrev mmC6 : List (Nat × Option Nat) := [(6, none)]
set_option maxHeartbeats 4000000 in
set_option maxRecDepth 100000 in
theorem lq_cpr6 {D : va_G} {ad : Nat → Nat} {cA : Nat → ClassId} {X0 : XT} {f q : Nat} (f1 : f ≤ 3) (q1 : q ≤ 3) {E : ET} {rm : Room} (C : CX E (wM D ad cA) cX12_copyRow 5 RX12 none rm) (hQ : EQ E (wM D ad cA) (fun r X1 => r = none ∧ HG vM X1 ∧ FR mmC6 X0 X1 ∧ CPQ 6 102 f q X0 X1)) : ∀ (n : Nat) (i : Nat) (X : XT), ((103 - i : Nat) : Int) < n → HG vM X → FR mmC6 X0 X → i ≤ 102 → (∀ p, p < i → X.1 6 (102 * q + p) = X0.1 6 (102 * f + p)) → (∀ j, (j < 102 * q ∨ 102 * q + i ≤ j) → X.1 6 j = X0.1 6 j) → Wx E (wM D ad cA) 5 (PX (wM D ad cA) X) 3 [(0, .ref 6), (1, .int (iI (102))), (2, .int (iI ((f : Int)))), (3, .int (iI ((q : Int)))), (4, .int (iI ((i : Int))))] [] := by
  intro n
  induction n with
  | zero => intro i X hn hH hF il c1 c2; exfalso; omega
  | succ n ih =>
    intro i X hn hH hF il c1 c2
    refine x_iload C dX12_copyRow_3 rfl ?_
    refine x_iload_n (i := 1) C dX12_copyRow_5 rfl rfl ?_
    refine x_icmp_ge (tgt := 31) C dX12_copyRow_6 (by decide) ⟨by omega, by omega⟩ ⟨by omega, by omega⟩ (fun h1 => ?_) (fun h1 => ?_)
    · exact x_vret C hQ dX12_copyRow_31 (⟨rfl, hH, hF, fun p hp => c1 p (by omega), fun j hj => c2 j (by omega)⟩)
    · refine x_aload_n (i := 0) C dX12_copyRow_9 rfl rfl ?_
      refine x_iload_n (i := 1) C dX12_copyRow_10 rfl rfl ?_
      refine x_iload_n (i := 3) C dX12_copyRow_11 rfl rfl ?_
      refine x_imul C dX12_copyRow_12 ?_
      refine x_iload C dX12_copyRow_13 rfl ?_
      refine x_iadd C dX12_copyRow_15 ?_
      refine x_aload_n (i := 0) C dX12_copyRow_16 rfl rfl ?_
      refine x_iload_n (i := 1) C dX12_copyRow_17 rfl rfl ?_
      refine x_iload_n (i := 2) C dX12_copyRow_18 rfl rfl ?_
      refine x_imul C dX12_copyRow_19 ?_
      refine x_iload C dX12_copyRow_20 rfl ?_
      refine x_iadd C dX12_copyRow_22 ?_
      refine x_iald C (nlt rfl) rfl rfl (nle rfl) (by omega) (by omega) dX12_copyRow_23 ?_
      refine x_gen (fun v2 ev2 => ?_)
      have qv2 : (0 : Int) ≤ v2 ∧ v2 ≤ (35 : Int) := by
        rw [ev2]
        exact hH.rA (k := 6) (n := 408) (p := (0, 35)) (nlt rfl) rfl (by decide +kernel) (by omega)
      have zt : v2 = X0.1 6 (102 * f + i) := by rw [ev2, show ((102 * ((f : Int))) + ((i : Int))).toNat = 102 * f + i by omega]; exact c2 _ (by omega)
      refine x_iast C (nlt rfl) rfl rfl (nle rfl) (by omega) (by omega) dX12_copyRow_24 ?_
      refine x_gX (fun Yy3 eYy3 => ?_)
      have hHy3 : HG vM Yy3 := by
        rw [eYy3]
        exact (by rw [ev2]; exact hg_cp hH (nlt rfl) rfl (by omega) (by show _ % 51 = _ % 51; omega))
      have hFy3 : FR mmC6 X0 Yy3 := by
        rw [eYy3]
        exact FR.upI hF rfl
      rw [show ((102 * ((q : Int))) + ((i : Int))).toNat = 102 * q + i by omega] at eYy3
      refine x_iinc (lv' := [(4, .int (iI ((i : Int) + 1))), (0, .ref 6), (1, .int (iI (102))), (2, .int (iI ((f : Int)))), (3, .int (iI ((q : Int))))]) C dX12_copyRow_25 rfl (nlt rfl) rfl ?_
      refine x_goto (tgt := 3) C dX12_copyRow_28 (by decide) ?_
      rw [show iI ((i : Int) + 1) = iI (((i + 1 : Nat) : Int)) by congr 1]
      refine Wx_pick [0, 1, 2, 3, 4] ?_
      refine Wx_lv (lv' := [(0, .ref 6), (1, .int (iI (102))), (2, .int (iI ((f : Int)))), (3, .int (iI ((q : Int)))), (4, .int (iI (((i + 1 : Nat) : Int))))]) rfl ?_
      refine ih (i + 1) _ (by omega) hHy3 hFy3 (by omega) (fun p hp => ?_) (fun j hj => ?_)
      · by_cases ep : p = i
        · subst ep
          rw [eYy3, upI_at]
          exact zt
        · rw [eYy3, upI_ne (by omega)]
          exact c1 p (by omega)
      · rw [eYy3, upI_ne (by omega)]
        exact c2 j (by omega)
set_option maxHeartbeats 4000000 in
set_option maxRecDepth 100000 in
theorem q_cpr6 {D : va_G} {ad : Nat → Nat} {cA : Nat → ClassId} {X0 : XT} {f q : Nat} (f1 : f ≤ 3) (q1 : q ≤ 3) (hH : HG vM X0) (hF : FR mmC6 X0 X0) : MetX (wM D ad cA) yX12_copyRow cX12_copyRow 5 none 0 0 [.ref 6, .int (iI (102)), .int (iI ((f : Int))), .int (iI ((q : Int)))] X0 (fun r X1 => r = none ∧ HG vM X1 ∧ FR mmC6 X0 X1 ∧ CPQ 6 102 f q X0 X1) := by
  refine MetX.mk (own := RX12) (by decide +kernel) rfl (nle rfl) (fun E C hQ => ?_)
  refine Wx_lv (lv' := [(0, .ref 6), (1, .int (iI (102))), (2, .int (iI ((f : Int)))), (3, .int (iI ((q : Int))))]) rfl ?_
  refine x_iconst C dX12_copyRow_0 ?_
  refine x_istore (lv' := [(4, .int (iI (0))), (0, .ref 6), (1, .int (iI (102))), (2, .int (iI ((f : Int)))), (3, .int (iI ((q : Int))))]) C dX12_copyRow_1 (nlt rfl) rfl ?_
  refine Wx_pick [0, 1, 2, 3, 4] ?_
  refine Wx_lv (lv' := [(0, .ref 6), (1, .int (iI (102))), (2, .int (iI ((f : Int)))), (3, .int (iI ((q : Int)))), (4, .int (iI (0)))]) rfl ?_
  exact lq_cpr6 f1 q1 C hQ 104 0 X0 (by decide) hH hF (by omega) (fun p hp => absurd hp (by omega)) (fun j hj => rfl)
abbrev mmC7 : List (Nat × Option Nat) := [(7, none)]
set_option maxHeartbeats 4000000 in
set_option maxRecDepth 100000 in
theorem lq_cpr7 {D : va_G} {ad : Nat → Nat} {cA : Nat → ClassId} {X0 : XT} {f q : Nat} (f1 : f ≤ 3) (q1 : q ≤ 3) {E : ET} {rm : Room} (C : CX E (wM D ad cA) cX12_copyRow 5 RX12 none rm) (hQ : EQ E (wM D ad cA) (fun r X1 => r = none ∧ HG vM X1 ∧ FR mmC7 X0 X1 ∧ CPQ 7 30 f q X0 X1)) : ∀ (n : Nat) (i : Nat) (X : XT), ((31 - i : Nat) : Int) < n → HG vM X → FR mmC7 X0 X → i ≤ 30 → (∀ p, p < i → X.1 7 (30 * q + p) = X0.1 7 (30 * f + p)) → (∀ j, (j < 30 * q ∨ 30 * q + i ≤ j) → X.1 7 j = X0.1 7 j) → Wx E (wM D ad cA) 5 (PX (wM D ad cA) X) 3 [(0, .ref 7), (1, .int (iI (30))), (2, .int (iI ((f : Int)))), (3, .int (iI ((q : Int)))), (4, .int (iI ((i : Int))))] [] := by
  intro n
  induction n with
  | zero => intro i X hn hH hF il c1 c2; exfalso; omega
  | succ n ih =>
    intro i X hn hH hF il c1 c2
    refine x_iload C dX12_copyRow_3 rfl ?_
    refine x_iload_n (i := 1) C dX12_copyRow_5 rfl rfl ?_
    refine x_icmp_ge (tgt := 31) C dX12_copyRow_6 (by decide) ⟨by omega, by omega⟩ ⟨by omega, by omega⟩ (fun h1 => ?_) (fun h1 => ?_)
    · exact x_vret C hQ dX12_copyRow_31 (⟨rfl, hH, hF, fun p hp => c1 p (by omega), fun j hj => c2 j (by omega)⟩)
    · refine x_aload_n (i := 0) C dX12_copyRow_9 rfl rfl ?_
      refine x_iload_n (i := 1) C dX12_copyRow_10 rfl rfl ?_
      refine x_iload_n (i := 3) C dX12_copyRow_11 rfl rfl ?_
      refine x_imul C dX12_copyRow_12 ?_
      refine x_iload C dX12_copyRow_13 rfl ?_
      refine x_iadd C dX12_copyRow_15 ?_
      refine x_aload_n (i := 0) C dX12_copyRow_16 rfl rfl ?_
      refine x_iload_n (i := 1) C dX12_copyRow_17 rfl rfl ?_
      refine x_iload_n (i := 2) C dX12_copyRow_18 rfl rfl ?_
      refine x_imul C dX12_copyRow_19 ?_
      refine x_iload C dX12_copyRow_20 rfl ?_
      refine x_iadd C dX12_copyRow_22 ?_
      refine x_iald C (nlt rfl) rfl rfl (nle rfl) (by omega) (by omega) dX12_copyRow_23 ?_
      refine x_gen (fun v2 ev2 => ?_)
      have qv2 : (0 : Int) ≤ v2 ∧ v2 ≤ (10 : Int) := by
        rw [ev2]
        exact hH.rA (k := 7) (n := 120) (p := (0, 10)) (nlt rfl) rfl (by decide +kernel) (by omega)
      have zt : v2 = X0.1 7 (30 * f + i) := by rw [ev2, show ((30 * ((f : Int))) + ((i : Int))).toNat = 30 * f + i by omega]; exact c2 _ (by omega)
      refine x_iast C (nlt rfl) rfl rfl (nle rfl) (by omega) (by omega) dX12_copyRow_24 ?_
      refine x_gX (fun Yy3 eYy3 => ?_)
      have hHy3 : HG vM Yy3 := by
        rw [eYy3]
        exact (by rw [ev2]; exact hg_cp hH (nlt rfl) rfl (by omega) (by show _ % 10 = _ % 10; omega))
      have hFy3 : FR mmC7 X0 Yy3 := by
        rw [eYy3]
        exact FR.upI hF rfl
      rw [show ((30 * ((q : Int))) + ((i : Int))).toNat = 30 * q + i by omega] at eYy3
      refine x_iinc (lv' := [(4, .int (iI ((i : Int) + 1))), (0, .ref 7), (1, .int (iI (30))), (2, .int (iI ((f : Int)))), (3, .int (iI ((q : Int))))]) C dX12_copyRow_25 rfl (nlt rfl) rfl ?_
      refine x_goto (tgt := 3) C dX12_copyRow_28 (by decide) ?_
      rw [show iI ((i : Int) + 1) = iI (((i + 1 : Nat) : Int)) by congr 1]
      refine Wx_pick [0, 1, 2, 3, 4] ?_
      refine Wx_lv (lv' := [(0, .ref 7), (1, .int (iI (30))), (2, .int (iI ((f : Int)))), (3, .int (iI ((q : Int)))), (4, .int (iI (((i + 1 : Nat) : Int))))]) rfl ?_
      refine ih (i + 1) _ (by omega) hHy3 hFy3 (by omega) (fun p hp => ?_) (fun j hj => ?_)
      · by_cases ep : p = i
        · subst ep
          rw [eYy3, upI_at]
          exact zt
        · rw [eYy3, upI_ne (by omega)]
          exact c1 p (by omega)
      · rw [eYy3, upI_ne (by omega)]
        exact c2 j (by omega)
set_option maxHeartbeats 4000000 in
set_option maxRecDepth 100000 in
theorem q_cpr7 {D : va_G} {ad : Nat → Nat} {cA : Nat → ClassId} {X0 : XT} {f q : Nat} (f1 : f ≤ 3) (q1 : q ≤ 3) (hH : HG vM X0) (hF : FR mmC7 X0 X0) : MetX (wM D ad cA) yX12_copyRow cX12_copyRow 5 none 0 0 [.ref 7, .int (iI (30)), .int (iI ((f : Int))), .int (iI ((q : Int)))] X0 (fun r X1 => r = none ∧ HG vM X1 ∧ FR mmC7 X0 X1 ∧ CPQ 7 30 f q X0 X1) := by
  refine MetX.mk (own := RX12) (by decide +kernel) rfl (nle rfl) (fun E C hQ => ?_)
  refine Wx_lv (lv' := [(0, .ref 7), (1, .int (iI (30))), (2, .int (iI ((f : Int)))), (3, .int (iI ((q : Int))))]) rfl ?_
  refine x_iconst C dX12_copyRow_0 ?_
  refine x_istore (lv' := [(4, .int (iI (0))), (0, .ref 7), (1, .int (iI (30))), (2, .int (iI ((f : Int)))), (3, .int (iI ((q : Int))))]) C dX12_copyRow_1 (nlt rfl) rfl ?_
  refine Wx_pick [0, 1, 2, 3, 4] ?_
  refine Wx_lv (lv' := [(0, .ref 7), (1, .int (iI (30))), (2, .int (iI ((f : Int)))), (3, .int (iI ((q : Int)))), (4, .int (iI (0)))]) rfl ?_
  exact lq_cpr7 f1 q1 C hQ 32 0 X0 (by decide) hH hF (by omega) (fun p hp => absurd hp (by omega)) (fun j hj => rfl)
abbrev mmC8 : List (Nat × Option Nat) := [(8, none)]
set_option maxHeartbeats 4000000 in
set_option maxRecDepth 100000 in
theorem lq_cpr8 {D : va_G} {ad : Nat → Nat} {cA : Nat → ClassId} {X0 : XT} {f q : Nat} (f1 : f ≤ 3) (q1 : q ≤ 3) {E : ET} {rm : Room} (C : CX E (wM D ad cA) cX12_copyRow 5 RX12 none rm) (hQ : EQ E (wM D ad cA) (fun r X1 => r = none ∧ HG vM X1 ∧ FR mmC8 X0 X1 ∧ CPQ 8 662 f q X0 X1)) : ∀ (n : Nat) (i : Nat) (X : XT), ((663 - i : Nat) : Int) < n → HG vM X → FR mmC8 X0 X → i ≤ 662 → (∀ p, p < i → X.1 8 (662 * q + p) = X0.1 8 (662 * f + p)) → (∀ j, (j < 662 * q ∨ 662 * q + i ≤ j) → X.1 8 j = X0.1 8 j) → Wx E (wM D ad cA) 5 (PX (wM D ad cA) X) 3 [(0, .ref 8), (1, .int (iI (662))), (2, .int (iI ((f : Int)))), (3, .int (iI ((q : Int)))), (4, .int (iI ((i : Int))))] [] := by
  intro n
  induction n with
  | zero => intro i X hn hH hF il c1 c2; exfalso; omega
  | succ n ih =>
    intro i X hn hH hF il c1 c2
    refine x_iload C dX12_copyRow_3 rfl ?_
    refine x_iload_n (i := 1) C dX12_copyRow_5 rfl rfl ?_
    refine x_icmp_ge (tgt := 31) C dX12_copyRow_6 (by decide) ⟨by omega, by omega⟩ ⟨by omega, by omega⟩ (fun h1 => ?_) (fun h1 => ?_)
    · exact x_vret C hQ dX12_copyRow_31 (⟨rfl, hH, hF, fun p hp => c1 p (by omega), fun j hj => c2 j (by omega)⟩)
    · refine x_aload_n (i := 0) C dX12_copyRow_9 rfl rfl ?_
      refine x_iload_n (i := 1) C dX12_copyRow_10 rfl rfl ?_
      refine x_iload_n (i := 3) C dX12_copyRow_11 rfl rfl ?_
      refine x_imul C dX12_copyRow_12 ?_
      refine x_iload C dX12_copyRow_13 rfl ?_
      refine x_iadd C dX12_copyRow_15 ?_
      refine x_aload_n (i := 0) C dX12_copyRow_16 rfl rfl ?_
      refine x_iload_n (i := 1) C dX12_copyRow_17 rfl rfl ?_
      refine x_iload_n (i := 2) C dX12_copyRow_18 rfl rfl ?_
      refine x_imul C dX12_copyRow_19 ?_
      refine x_iload C dX12_copyRow_20 rfl ?_
      refine x_iadd C dX12_copyRow_22 ?_
      refine x_iald C (nlt rfl) rfl rfl (nle rfl) (by omega) (by omega) dX12_copyRow_23 ?_
      refine x_gen (fun v2 ev2 => ?_)
      have qv2 : ((-1) : Int) ≤ v2 ∧ v2 ≤ (35 : Int) := by
        rw [ev2]
        exact hH.rA (k := 8) (n := 2648) (p := ((-1), 35)) (nlt rfl) rfl (by decide +kernel) (by omega)
      have zt : v2 = X0.1 8 (662 * f + i) := by rw [ev2, show ((662 * ((f : Int))) + ((i : Int))).toNat = 662 * f + i by omega]; exact c2 _ (by omega)
      refine x_iast C (nlt rfl) rfl rfl (nle rfl) (by omega) (by omega) dX12_copyRow_24 ?_
      refine x_gX (fun Yy3 eYy3 => ?_)
      have hHy3 : HG vM Yy3 := by
        rw [eYy3]
        exact (by rw [ev2]; exact hg_cp hH (nlt rfl) rfl (by omega) (by show _ % 331 = _ % 331; omega))
      have hFy3 : FR mmC8 X0 Yy3 := by
        rw [eYy3]
        exact FR.upI hF rfl
      rw [show ((662 * ((q : Int))) + ((i : Int))).toNat = 662 * q + i by omega] at eYy3
      refine x_iinc (lv' := [(4, .int (iI ((i : Int) + 1))), (0, .ref 8), (1, .int (iI (662))), (2, .int (iI ((f : Int)))), (3, .int (iI ((q : Int))))]) C dX12_copyRow_25 rfl (nlt rfl) rfl ?_
      refine x_goto (tgt := 3) C dX12_copyRow_28 (by decide) ?_
      rw [show iI ((i : Int) + 1) = iI (((i + 1 : Nat) : Int)) by congr 1]
      refine Wx_pick [0, 1, 2, 3, 4] ?_
      refine Wx_lv (lv' := [(0, .ref 8), (1, .int (iI (662))), (2, .int (iI ((f : Int)))), (3, .int (iI ((q : Int)))), (4, .int (iI (((i + 1 : Nat) : Int))))]) rfl ?_
      refine ih (i + 1) _ (by omega) hHy3 hFy3 (by omega) (fun p hp => ?_) (fun j hj => ?_)
      · by_cases ep : p = i
        · subst ep
          rw [eYy3, upI_at]
          exact zt
        · rw [eYy3, upI_ne (by omega)]
          exact c1 p (by omega)
      · rw [eYy3, upI_ne (by omega)]
        exact c2 j (by omega)
set_option maxHeartbeats 4000000 in
set_option maxRecDepth 100000 in
theorem q_cpr8 {D : va_G} {ad : Nat → Nat} {cA : Nat → ClassId} {X0 : XT} {f q : Nat} (f1 : f ≤ 3) (q1 : q ≤ 3) (hH : HG vM X0) (hF : FR mmC8 X0 X0) : MetX (wM D ad cA) yX12_copyRow cX12_copyRow 5 none 0 0 [.ref 8, .int (iI (662)), .int (iI ((f : Int))), .int (iI ((q : Int)))] X0 (fun r X1 => r = none ∧ HG vM X1 ∧ FR mmC8 X0 X1 ∧ CPQ 8 662 f q X0 X1) := by
  refine MetX.mk (own := RX12) (by decide +kernel) rfl (nle rfl) (fun E C hQ => ?_)
  refine Wx_lv (lv' := [(0, .ref 8), (1, .int (iI (662))), (2, .int (iI ((f : Int)))), (3, .int (iI ((q : Int))))]) rfl ?_
  refine x_iconst C dX12_copyRow_0 ?_
  refine x_istore (lv' := [(4, .int (iI (0))), (0, .ref 8), (1, .int (iI (662))), (2, .int (iI ((f : Int)))), (3, .int (iI ((q : Int))))]) C dX12_copyRow_1 (nlt rfl) rfl ?_
  refine Wx_pick [0, 1, 2, 3, 4] ?_
  refine Wx_lv (lv' := [(0, .ref 8), (1, .int (iI (662))), (2, .int (iI ((f : Int)))), (3, .int (iI ((q : Int)))), (4, .int (iI (0)))]) rfl ?_
  exact lq_cpr8 f1 q1 C hQ 664 0 X0 (by decide) hH hF (by omega) (fun p hp => absurd hp (by omega)) (fun j hj => rfl)
abbrev mmCA : List (Nat × Option Nat) := [(1, none), (2, none), (3, none), (4, none), (5, none), (6, none), (7, none), (8, none)]
abbrev mmC1 : List (Nat × Option Nat) := [(1, none)]
set_option maxHeartbeats 4000000 in
set_option maxRecDepth 100000 in
theorem q_caB {D : va_G} {ad : Nat → Nat} {cA : Nat → ClassId} {X0 : XT} {f q : Nat} (f1 : f ≤ 3) (q1 : q ≤ 3) {X : XT} (hF : FR mmC1 X0 X) (c1 : ∀ p, p < 600 → X.1 1 (600 * q + p) = X0.1 1 (600 * f + p)) (c2 : ∀ j, (j < 600 * q ∨ 600 * q + 600 ≤ j) → X.1 1 j = X0.1 1 j) {E : ET} (C : CX E (wM D ad cA) cX12_copyAll 4 RX12 none { frames := 1, cells := 0, slots := 0, locals := 24 }) (hQ : EQ E (wM D ad cA) (fun r X1 => r = none ∧ HG vM X1 ∧ FR mmCA X0 X1 ∧ CPQ 1 600 f q X0 X1 ∧ CPQ 2 1 f q X0 X1 ∧ CPQ 3 1 f q X0 X1 ∧ CPQ 4 1 f q X0 X1 ∧ CPQ 5 3 f q X0 X1 ∧ CPQ 6 102 f q X0 X1 ∧ CPQ 7 30 f q X0 X1 ∧ CPQ 8 662 f q X0 X1)) : ∀ (n : Nat) , (0 : Int) < n → HG vM X → Wx E (wM D ad cA) 4 (PX (wM D ad cA) X) 39 [(0, .ref 0), (1, .int (iI ((f : Int)))), (2, .int (iI ((q : Int))))] [] := by
  intro n
  induction n with
  | zero => intro  hn hH; exfalso; omega
  | succ n ih =>
    intro  hn hH
    have hG := hF
    refine x_aload_n (i := 0) C dX12_copyAll_39 rfl rfl ?_
    refine x_getRs (r := 2) C fkM_X12_13 (nlt rfl) rfl (HG.rR hH (k := 0) (i := 2) rfl rfl) dX12_copyAll_40 ?_
    refine x_iconst C dX12_copyAll_43 ?_
    refine x_iload_n (i := 1) C dX12_copyAll_44 rfl rfl ?_
    refine x_iload_n (i := 2) C dX12_copyAll_45 rfl rfl ?_
    refine x_callS (As := [.ref 2, .int (iI (1)), .int (iI ((f : Int))), .int (iI ((q : Int)))]) C (by exact (q_cpr2 (f := f) (q := q) f1 q1 hH FR.rf)) ckX12_161 sm_X12_copyRow rfl rfl (nle rfl) (by exact ⟨nle rfl, nle rfl⟩) dX12_copyAll_46 ?_
    rintro _ Yy1 ⟨rfl, hHy1, hGy1, cp2⟩
    have hFy1 : FR mmCA X0 Yy1 := FR.tr (FR.tr FR.rf hG (by decide) : FR mmCA X0 X) hGy1 (by decide)
    refine Wx_st (st' := []) rfl ?_
    refine x_aload_n (i := 0) C dX12_copyAll_49 rfl rfl ?_
    refine x_getRs (r := 3) C fkM_X12_17 (nlt rfl) rfl (HG.rR hHy1 (k := 0) (i := 3) rfl rfl) dX12_copyAll_50 ?_
    refine x_iconst C dX12_copyAll_53 ?_
    refine x_iload_n (i := 1) C dX12_copyAll_54 rfl rfl ?_
    refine x_iload_n (i := 2) C dX12_copyAll_55 rfl rfl ?_
    refine x_callS (As := [.ref 3, .int (iI (1)), .int (iI ((f : Int))), .int (iI ((q : Int)))]) C (by exact (q_cpr3 (f := f) (q := q) f1 q1 hHy1 FR.rf)) ckX12_161 sm_X12_copyRow rfl rfl (nle rfl) (by exact ⟨nle rfl, nle rfl⟩) dX12_copyAll_56 ?_
    rintro _ Yy2 ⟨rfl, hHy2, hGy2, cp3⟩
    have hFy2 : FR mmCA X0 Yy2 := FR.tr hFy1 hGy2 (by decide)
    refine Wx_st (st' := []) rfl ?_
    refine x_aload_n (i := 0) C dX12_copyAll_59 rfl rfl ?_
    refine x_getRs (r := 4) C fkM_X12_20 (nlt rfl) rfl (HG.rR hHy2 (k := 0) (i := 4) rfl rfl) dX12_copyAll_60 ?_
    refine x_iconst C dX12_copyAll_63 ?_
    refine x_iload_n (i := 1) C dX12_copyAll_64 rfl rfl ?_
    refine x_iload_n (i := 2) C dX12_copyAll_65 rfl rfl ?_
    refine x_callS (As := [.ref 4, .int (iI (1)), .int (iI ((f : Int))), .int (iI ((q : Int)))]) C (by exact (q_cpr4 (f := f) (q := q) f1 q1 hHy2 FR.rf)) ckX12_161 sm_X12_copyRow rfl rfl (nle rfl) (by exact ⟨nle rfl, nle rfl⟩) dX12_copyAll_66 ?_
    rintro _ Yy3 ⟨rfl, hHy3, hGy3, cp4⟩
    have hFy3 : FR mmCA X0 Yy3 := FR.tr hFy2 hGy3 (by decide)
    refine Wx_st (st' := []) rfl ?_
    refine x_aload_n (i := 0) C dX12_copyAll_69 rfl rfl ?_
    refine x_getRs (r := 5) C fkM_X12_23 (nlt rfl) rfl (HG.rR hHy3 (k := 0) (i := 5) rfl rfl) dX12_copyAll_70 ?_
    refine x_iconst C dX12_copyAll_73 ?_
    refine x_iload_n (i := 1) C dX12_copyAll_74 rfl rfl ?_
    refine x_iload_n (i := 2) C dX12_copyAll_75 rfl rfl ?_
    refine x_callS (As := [.ref 5, .int (iI (3)), .int (iI ((f : Int))), .int (iI ((q : Int)))]) C (by exact (q_cpr5 (f := f) (q := q) f1 q1 hHy3 FR.rf)) ckX12_161 sm_X12_copyRow rfl rfl (nle rfl) (by exact ⟨nle rfl, nle rfl⟩) dX12_copyAll_76 ?_
    rintro _ Yy4 ⟨rfl, hHy4, hGy4, cp5⟩
    have hFy4 : FR mmCA X0 Yy4 := FR.tr hFy3 hGy4 (by decide)
    refine Wx_st (st' := []) rfl ?_
    refine x_aload_n (i := 0) C dX12_copyAll_79 rfl rfl ?_
    refine x_getRs (r := 6) C fkM_X12_26 (nlt rfl) rfl (HG.rR hHy4 (k := 0) (i := 6) rfl rfl) dX12_copyAll_80 ?_
    refine x_bipush C dX12_copyAll_83 (by decide) ?_
    refine x_iload_n (i := 1) C dX12_copyAll_85 rfl rfl ?_
    refine x_iload_n (i := 2) C dX12_copyAll_86 rfl rfl ?_
    refine x_callS (As := [.ref 6, .int (iI (102)), .int (iI ((f : Int))), .int (iI ((q : Int)))]) C (by exact (q_cpr6 (f := f) (q := q) f1 q1 hHy4 FR.rf)) ckX12_161 sm_X12_copyRow rfl rfl (nle rfl) (by exact ⟨nle rfl, nle rfl⟩) dX12_copyAll_87 ?_
    rintro _ Yy5 ⟨rfl, hHy5, hGy5, cp6⟩
    have hFy5 : FR mmCA X0 Yy5 := FR.tr hFy4 hGy5 (by decide)
    refine Wx_st (st' := []) rfl ?_
    refine x_aload_n (i := 0) C dX12_copyAll_90 rfl rfl ?_
    refine x_getRs (r := 7) C fkM_X12_29 (nlt rfl) rfl (HG.rR hHy5 (k := 0) (i := 7) rfl rfl) dX12_copyAll_91 ?_
    refine x_bipush C dX12_copyAll_94 (by decide) ?_
    refine x_iload_n (i := 1) C dX12_copyAll_96 rfl rfl ?_
    refine x_iload_n (i := 2) C dX12_copyAll_97 rfl rfl ?_
    refine x_callS (As := [.ref 7, .int (iI (30)), .int (iI ((f : Int))), .int (iI ((q : Int)))]) C (by exact (q_cpr7 (f := f) (q := q) f1 q1 hHy5 FR.rf)) ckX12_161 sm_X12_copyRow rfl rfl (nle rfl) (by exact ⟨nle rfl, nle rfl⟩) dX12_copyAll_98 ?_
    rintro _ Yy6 ⟨rfl, hHy6, hGy6, cp7⟩
    have hFy6 : FR mmCA X0 Yy6 := FR.tr hFy5 hGy6 (by decide)
    refine Wx_st (st' := []) rfl ?_
    refine x_aload_n (i := 0) C dX12_copyAll_101 rfl rfl ?_
    refine x_getRs (r := 8) C fkM_X12_32 (nlt rfl) rfl (HG.rR hHy6 (k := 0) (i := 8) rfl rfl) dX12_copyAll_102 ?_
    refine x_sipush C dX12_copyAll_105 (by decide) ?_
    refine x_iload_n (i := 1) C dX12_copyAll_108 rfl rfl ?_
    refine x_iload_n (i := 2) C dX12_copyAll_109 rfl rfl ?_
    refine x_callS (As := [.ref 8, .int (iI (662)), .int (iI ((f : Int))), .int (iI ((q : Int)))]) C (by exact (q_cpr8 (f := f) (q := q) f1 q1 hHy6 FR.rf)) ckX12_161 sm_X12_copyRow rfl rfl (nle rfl) (by exact ⟨nle rfl, nle rfl⟩) dX12_copyAll_110 ?_
    rintro _ Yy7 ⟨rfl, hHy7, hGy7, cp8⟩
    have hFy7 : FR mmCA X0 Yy7 := FR.tr hFy6 hGy7 (by decide)
    refine Wx_st (st' := []) rfl ?_
    exact x_vret C hQ dX12_copyAll_113 (⟨rfl, hHy7, hFy7, ⟨fun p hp => by rw [(hGy7 1 (600 * q + p) rfl).1, (hGy6 1 (600 * q + p) rfl).1, (hGy5 1 (600 * q + p) rfl).1, (hGy4 1 (600 * q + p) rfl).1, (hGy3 1 (600 * q + p) rfl).1, (hGy2 1 (600 * q + p) rfl).1, (hGy1 1 (600 * q + p) rfl).1]; exact c1 p (by omega), fun j hj => by rw [(hGy7 1 j rfl).1, (hGy6 1 j rfl).1, (hGy5 1 j rfl).1, (hGy4 1 j rfl).1, (hGy3 1 j rfl).1, (hGy2 1 j rfl).1, (hGy1 1 j rfl).1]; exact c2 j (by omega)⟩, ⟨fun p hp => by rw [(hGy7 2 (1 * q + p) rfl).1, (hGy6 2 (1 * q + p) rfl).1, (hGy5 2 (1 * q + p) rfl).1, (hGy4 2 (1 * q + p) rfl).1, (hGy3 2 (1 * q + p) rfl).1, (hGy2 2 (1 * q + p) rfl).1]; rw [cp2.1 p hp]; exact (hF 2 _ rfl).1, fun j hj => by rw [(hGy7 2 j rfl).1, (hGy6 2 j rfl).1, (hGy5 2 j rfl).1, (hGy4 2 j rfl).1, (hGy3 2 j rfl).1, (hGy2 2 j rfl).1]; rw [cp2.2 j hj]; exact (hF 2 _ rfl).1⟩, ⟨fun p hp => by rw [(hGy7 3 (1 * q + p) rfl).1, (hGy6 3 (1 * q + p) rfl).1, (hGy5 3 (1 * q + p) rfl).1, (hGy4 3 (1 * q + p) rfl).1, (hGy3 3 (1 * q + p) rfl).1]; rw [cp3.1 p hp]; rw [(hGy1 3 (1 * f + p) rfl).1]; exact (hF 3 _ rfl).1, fun j hj => by rw [(hGy7 3 j rfl).1, (hGy6 3 j rfl).1, (hGy5 3 j rfl).1, (hGy4 3 j rfl).1, (hGy3 3 j rfl).1]; rw [cp3.2 j hj]; rw [(hGy1 3 j rfl).1]; exact (hF 3 _ rfl).1⟩, ⟨fun p hp => by rw [(hGy7 4 (1 * q + p) rfl).1, (hGy6 4 (1 * q + p) rfl).1, (hGy5 4 (1 * q + p) rfl).1, (hGy4 4 (1 * q + p) rfl).1]; rw [cp4.1 p hp]; rw [(hGy2 4 (1 * f + p) rfl).1, (hGy1 4 (1 * f + p) rfl).1]; exact (hF 4 _ rfl).1, fun j hj => by rw [(hGy7 4 j rfl).1, (hGy6 4 j rfl).1, (hGy5 4 j rfl).1, (hGy4 4 j rfl).1]; rw [cp4.2 j hj]; rw [(hGy2 4 j rfl).1, (hGy1 4 j rfl).1]; exact (hF 4 _ rfl).1⟩, ⟨fun p hp => by rw [(hGy7 5 (3 * q + p) rfl).1, (hGy6 5 (3 * q + p) rfl).1, (hGy5 5 (3 * q + p) rfl).1]; rw [cp5.1 p hp]; rw [(hGy3 5 (3 * f + p) rfl).1, (hGy2 5 (3 * f + p) rfl).1, (hGy1 5 (3 * f + p) rfl).1]; exact (hF 5 _ rfl).1, fun j hj => by rw [(hGy7 5 j rfl).1, (hGy6 5 j rfl).1, (hGy5 5 j rfl).1]; rw [cp5.2 j hj]; rw [(hGy3 5 j rfl).1, (hGy2 5 j rfl).1, (hGy1 5 j rfl).1]; exact (hF 5 _ rfl).1⟩, ⟨fun p hp => by rw [(hGy7 6 (102 * q + p) rfl).1, (hGy6 6 (102 * q + p) rfl).1]; rw [cp6.1 p hp]; rw [(hGy4 6 (102 * f + p) rfl).1, (hGy3 6 (102 * f + p) rfl).1, (hGy2 6 (102 * f + p) rfl).1, (hGy1 6 (102 * f + p) rfl).1]; exact (hF 6 _ rfl).1, fun j hj => by rw [(hGy7 6 j rfl).1, (hGy6 6 j rfl).1]; rw [cp6.2 j hj]; rw [(hGy4 6 j rfl).1, (hGy3 6 j rfl).1, (hGy2 6 j rfl).1, (hGy1 6 j rfl).1]; exact (hF 6 _ rfl).1⟩, ⟨fun p hp => by rw [(hGy7 7 (30 * q + p) rfl).1]; rw [cp7.1 p hp]; rw [(hGy5 7 (30 * f + p) rfl).1, (hGy4 7 (30 * f + p) rfl).1, (hGy3 7 (30 * f + p) rfl).1, (hGy2 7 (30 * f + p) rfl).1, (hGy1 7 (30 * f + p) rfl).1]; exact (hF 7 _ rfl).1, fun j hj => by rw [(hGy7 7 j rfl).1]; rw [cp7.2 j hj]; rw [(hGy5 7 j rfl).1, (hGy4 7 j rfl).1, (hGy3 7 j rfl).1, (hGy2 7 j rfl).1, (hGy1 7 j rfl).1]; exact (hF 7 _ rfl).1⟩, ⟨fun p hp => by rw [cp8.1 p hp]; rw [(hGy6 8 (662 * f + p) rfl).1, (hGy5 8 (662 * f + p) rfl).1, (hGy4 8 (662 * f + p) rfl).1, (hGy3 8 (662 * f + p) rfl).1, (hGy2 8 (662 * f + p) rfl).1, (hGy1 8 (662 * f + p) rfl).1]; exact (hF 8 _ rfl).1, fun j hj => by rw [cp8.2 j hj]; rw [(hGy6 8 j rfl).1, (hGy5 8 j rfl).1, (hGy4 8 j rfl).1, (hGy3 8 j rfl).1, (hGy2 8 j rfl).1, (hGy1 8 j rfl).1]; exact (hF 8 _ rfl).1⟩⟩)
set_option maxHeartbeats 4000000 in
set_option maxRecDepth 100000 in
theorem lq_caA {D : va_G} {ad : Nat → Nat} {cA : Nat → ClassId} {X0 : XT} {f q : Nat} (f1 : f ≤ 3) (q1 : q ≤ 3) {E : ET} (C : CX E (wM D ad cA) cX12_copyAll 4 RX12 none { frames := 1, cells := 0, slots := 0, locals := 24 }) (hQ : EQ E (wM D ad cA) (fun r X1 => r = none ∧ HG vM X1 ∧ FR mmCA X0 X1 ∧ CPQ 1 600 f q X0 X1 ∧ CPQ 2 1 f q X0 X1 ∧ CPQ 3 1 f q X0 X1 ∧ CPQ 4 1 f q X0 X1 ∧ CPQ 5 3 f q X0 X1 ∧ CPQ 6 102 f q X0 X1 ∧ CPQ 7 30 f q X0 X1 ∧ CPQ 8 662 f q X0 X1)) : ∀ (n : Nat) (i : Nat) (X : XT), ((601 - i : Nat) : Int) < n → HG vM X → FR mmC1 X0 X → i ≤ 600 → (∀ p, p < i → X.1 1 (600 * q + p) = X0.1 1 (600 * f + p)) → (∀ j, (j < 600 * q ∨ 600 * q + i ≤ j) → X.1 1 j = X0.1 1 j) → Wx E (wM D ad cA) 4 (PX (wM D ad cA) X) 2 [(0, .ref 0), (1, .int (iI ((f : Int)))), (2, .int (iI ((q : Int)))), (3, .int (iI ((i : Int))))] [] := by
  intro n
  induction n with
  | zero => intro i X hn hH hF il c1 c2; exfalso; omega
  | succ n ih =>
    intro i X hn hH hF il c1 c2
    refine x_iload_n (i := 3) C dX12_copyAll_2 rfl rfl ?_
    refine x_sipush C dX12_copyAll_3 (by decide) ?_
    refine x_icmp_ge (tgt := 39) C dX12_copyAll_6 (by decide) ⟨by omega, by omega⟩ ⟨by omega, by omega⟩ (fun h1 => ?_) (fun h1 => ?_)
    · refine Wx_pick [0, 1, 2] ?_
      refine Wx_lv (lv' := [(0, .ref 0), (1, .int (iI ((f : Int)))), (2, .int (iI ((q : Int))))]) rfl ?_
      exact q_caB f1 q1 (X := X) hF (fun p hp => c1 p (by omega)) (fun j hj => c2 j (by omega)) C hQ 1 (by decide) hH
    · refine x_aload_n (i := 0) C dX12_copyAll_9 rfl rfl ?_
      refine x_getRs (r := 1) C fkM_X12_7 (nlt rfl) rfl (HG.rR hH (k := 0) (i := 1) rfl rfl) dX12_copyAll_10 ?_
      refine x_sipush C dX12_copyAll_13 (by decide) ?_
      refine x_iload_n (i := 2) C dX12_copyAll_16 rfl rfl ?_
      refine x_imul C dX12_copyAll_17 ?_
      refine x_iload_n (i := 3) C dX12_copyAll_18 rfl rfl ?_
      refine x_iadd C dX12_copyAll_19 ?_
      refine x_aload_n (i := 0) C dX12_copyAll_20 rfl rfl ?_
      refine x_getRs (r := 1) C fkM_X12_7 (nlt rfl) rfl (HG.rR hH (k := 0) (i := 1) rfl rfl) dX12_copyAll_21 ?_
      refine x_sipush C dX12_copyAll_24 (by decide) ?_
      refine x_iload_n (i := 1) C dX12_copyAll_27 rfl rfl ?_
      refine x_imul C dX12_copyAll_28 ?_
      refine x_iload_n (i := 3) C dX12_copyAll_29 rfl rfl ?_
      refine x_iadd C dX12_copyAll_30 ?_
      refine x_bald C (nlt rfl) rfl rfl (nle rfl) (by omega) (by omega) dX12_copyAll_31 ?_
      refine x_gen (fun v2 ev2 => ?_)
      have qv2 : ((-128) : Int) ≤ v2 ∧ v2 ≤ (127 : Int) := by
        rw [ev2]
        exact hH.rA (k := 1) (n := 2400) (p := ((-128), 127)) (nlt rfl) rfl (by decide +kernel) (by omega)
      have zt : v2 = X0.1 1 (600 * f + i) := by rw [ev2, show ((600 * ((f : Int))) + ((i : Int))).toNat = 600 * f + i by omega]; exact c2 _ (by omega)
      refine x_bast C (nlt rfl) rfl rfl (nle rfl) (by omega) (by omega) ⟨by omega, by omega⟩ dX12_copyAll_32 ?_
      refine x_gX (fun Yy3 eYy3 => ?_)
      have hHy3 : HG vM Yy3 := by
        rw [eYy3]
        exact hg_wA hH (n := 2400) (p := ((-128), 127)) (by decide +kernel) (by omega) ⟨by omega, by omega⟩
      have hFy3 : FR mmC1 X0 Yy3 := by
        rw [eYy3]
        exact FR.upI hF (rfl)
      rw [show ((600 * ((q : Int))) + ((i : Int))).toNat = 600 * q + i by omega] at eYy3
      refine x_iinc (lv' := [(3, .int (iI ((i : Int) + 1))), (0, .ref 0), (1, .int (iI ((f : Int)))), (2, .int (iI ((q : Int))))]) C dX12_copyAll_33 rfl (nlt rfl) rfl ?_
      refine x_goto (tgt := 2) C dX12_copyAll_36 (by decide) ?_
      rw [show iI ((i : Int) + 1) = iI (((i + 1 : Nat) : Int)) by congr 1]
      refine Wx_pick [0, 1, 2, 3] ?_
      refine Wx_lv (lv' := [(0, .ref 0), (1, .int (iI ((f : Int)))), (2, .int (iI ((q : Int)))), (3, .int (iI (((i + 1 : Nat) : Int))))]) rfl ?_
      refine ih (i + 1) _ (by omega) hHy3 hFy3 (by omega) (fun p hp => ?_) (fun j hj => ?_)
      · by_cases ep : p = i
        · subst ep
          rw [eYy3, upI_at]
          exact zt
        · rw [eYy3, upI_ne (by omega)]
          exact c1 p (by omega)
      · rw [eYy3, upI_ne (by omega)]
        exact c2 j (by omega)
set_option maxHeartbeats 4000000 in
set_option maxRecDepth 100000 in
theorem q_copyAll {D : va_G} {ad : Nat → Nat} {cA : Nat → ClassId} {X0 : XT} {f q : Nat} (f1 : f ≤ 3) (q1 : q ≤ 3) (hH : HG vM X0) (hF : FR mmC1 X0 X0) : MetX (wM D ad cA) yX12_copyAll cX12_copyAll 4 none 1 24 [.ref 0, .int (iI ((f : Int))), .int (iI ((q : Int)))] X0 (fun r X1 => r = none ∧ HG vM X1 ∧ FR mmCA X0 X1 ∧ CPQ 1 600 f q X0 X1 ∧ CPQ 2 1 f q X0 X1 ∧ CPQ 3 1 f q X0 X1 ∧ CPQ 4 1 f q X0 X1 ∧ CPQ 5 3 f q X0 X1 ∧ CPQ 6 102 f q X0 X1 ∧ CPQ 7 30 f q X0 X1 ∧ CPQ 8 662 f q X0 X1) := by
  refine MetX.mk (own := RX12) (by decide +kernel) rfl (nle rfl) (fun E C hQ => ?_)
  refine Wx_lv (lv' := [(0, .ref 0), (1, .int (iI ((f : Int)))), (2, .int (iI ((q : Int))))]) rfl ?_
  refine x_iconst C dX12_copyAll_0 ?_
  refine x_istore_n (i := 3) (lv' := [(3, .int (iI (0))), (0, .ref 0), (1, .int (iI ((f : Int)))), (2, .int (iI ((q : Int))))]) C dX12_copyAll_1 rfl (nlt rfl) rfl ?_
  refine Wx_pick [0, 1, 2, 3] ?_
  refine Wx_lv (lv' := [(0, .ref 0), (1, .int (iI ((f : Int)))), (2, .int (iI ((q : Int)))), (3, .int (iI (0)))]) rfl ?_
  exact lq_caA f1 q1 C hQ 602 0 X0 (by decide) hH hF (by omega) (fun p hp => absurd hp (by omega)) (fun j hj => rfl)
set_option maxRecDepth 10000 in
theorem t_M_221 {D : va_G} {ad : Nat → Nat} {cA : Nat → ClassId} : CTR mtM vM gM (wM D ad cA) k_M_221 := by
  intro g X hpre
  obtain ⟨h00, hei, hel, hdl, hH, hE⟩ := hpre
  have h0 : (0 : Int) ≤ g.1 0 ∧ g.1 0 ≤ (0 : Int) := hei 0 _ rfl
  have h1 : (0 : Int) ≤ g.1 1 ∧ g.1 1 ≤ (0 : Int) := hei 1 _ rfl
  have h2 : (3 : Int) ≤ g.1 2 ∧ g.1 2 ≤ (3 : Int) := hei 2 _ rfl
  have h3 : (0 : Int) ≤ g.1 3 ∧ g.1 3 ≤ (600 : Int) := hei 3 _ rfl
  have h4 : (0 : Int) ≤ g.1 4 ∧ g.1 4 ≤ (600 : Int) := hei 4 _ rfl
  have h5 : (0 : Int) ≤ g.1 5 ∧ g.1 5 ≤ (600 : Int) := hei 5 _ rfl
  have h6 : (0 : Int) ≤ g.1 6 ∧ g.1 6 ≤ (600 : Int) := hei 6 _ rfl
  have s0 : X.1 2 0 = g.1 3 + 0 := (hdl ((2, 0), (0, 3, 0)) (.head _))
  have s1 : X.1 2 1 = g.1 4 + 0 := (hdl ((2, 1), (0, 4, 0)) (.tail _ (.head _)))
  have s2 : X.1 2 2 = g.1 5 + 0 := (hdl ((2, 2), (0, 5, 0)) (.tail _ (.tail _ (.head _))))
  have s3 : X.1 2 3 = g.1 6 + 0 := (hdl ((2, 3), (0, 6, 0)) (.tail _ (.tail _ (.tail _ (.head _)))))
  have ea : (cAr k_M_221).map (dn g) = [.ref 0, .int (iI ((0 : Nat) : Int)), .int (iI ((3 : Nat) : Int))] := by
    show [_, Value.int (iI (g.1 1 + 0)), Value.int (iI (g.1 2 + 0))] = _
    rw [show g.1 1 + 0 = ((0 : Nat) : Int) by omega, show g.1 2 + 0 = ((3 : Nat) : Int) by omega]
    rfl
  rw [ea]
  refine MetX.imp (fun r X1 hp => ?_) (q_copyAll (X0 := X) (f := 0) (q := 3) (by omega) (by omega) hH FR.rf)
  obtain ⟨rfl, hH1, hF1, cp1, cp2, cp3, cp4, cp5, cp6, cp7, cp8⟩ := hp
  have z3 : X1.1 2 3 = X.1 2 0 := cp2.1 0 (by decide)
  have z0 : X1.1 2 0 = X.1 2 0 := cp2.2 0 (by decide)
  have z1 : X1.1 2 1 = X.1 2 1 := cp2.2 1 (by decide)
  have z2 : X1.1 2 2 = X.1 2 2 := cp2.2 2 (by decide)
  exact (altM_mk 0 [] rfl (ei_cons ⟨by show (0 : Int) ≤ g.1 0; omega, by show g.1 0 ≤ (0 : Int); omega⟩ (ei_cons ⟨by show (0 : Int) ≤ g.1 1; omega, by show g.1 1 ≤ (0 : Int); omega⟩ (ei_cons ⟨by show (3 : Int) ≤ g.1 2; omega, by show g.1 2 ≤ (3 : Int); omega⟩ (ei_cons ⟨by show (0 : Int) ≤ g.1 3; omega, by show g.1 3 ≤ (600 : Int); omega⟩ (ei_cons ⟨by show (0 : Int) ≤ g.1 4; omega, by show g.1 4 ≤ (600 : Int); omega⟩ (ei_cons ⟨by show (0 : Int) ≤ g.1 5; omega, by show g.1 5 ≤ (600 : Int); omega⟩ (ei_cons ⟨by show (0 : Int) ≤ g.1 6; omega, by show g.1 6 ≤ (600 : Int); omega⟩ ei_nil))))))) el_nil (by rfl) (dl_cons (by show X1.1 2 0 = g.1 3 + 0; omega) (dl_cons (by show X1.1 2 1 = g.1 4 + 0; omega) (dl_cons (by show X1.1 2 2 = g.1 5 + 0; omega) (dl_cons (by show X1.1 2 3 = g.1 3 + 0; omega) dl_nil)))) gd_nil hH1 (bok_cp (by omega) (by omega) hE cp5 cp6) hF1)
set_option maxRecDepth 10000 in
theorem t_M_222 {D : va_G} {ad : Nat → Nat} {cA : Nat → ClassId} : CTR mtM vM gM (wM D ad cA) k_M_222 := by
  intro g X hpre
  obtain ⟨h00, hei, hel, hdl, hH, hE⟩ := hpre
  have h0 : (0 : Int) ≤ g.1 0 ∧ g.1 0 ≤ (0 : Int) := hei 0 _ rfl
  have h1 : (0 : Int) ≤ g.1 1 ∧ g.1 1 ≤ (0 : Int) := hei 1 _ rfl
  have h2 : (2 : Int) ≤ g.1 2 ∧ g.1 2 ≤ (2 : Int) := hei 2 _ rfl
  have h3 : (0 : Int) ≤ g.1 3 ∧ g.1 3 ≤ (600 : Int) := hei 3 _ rfl
  have h4 : (0 : Int) ≤ g.1 4 ∧ g.1 4 ≤ (600 : Int) := hei 4 _ rfl
  have h5 : (0 : Int) ≤ g.1 5 ∧ g.1 5 ≤ (600 : Int) := hei 5 _ rfl
  have h6 : (0 : Int) ≤ g.1 6 ∧ g.1 6 ≤ (600 : Int) := hei 6 _ rfl
  have s0 : X.1 2 0 = g.1 3 + 0 := (hdl ((2, 0), (0, 3, 0)) (.head _))
  have s1 : X.1 2 1 = g.1 4 + 0 := (hdl ((2, 1), (0, 4, 0)) (.tail _ (.head _)))
  have s2 : X.1 2 2 = g.1 5 + 0 := (hdl ((2, 2), (0, 5, 0)) (.tail _ (.tail _ (.head _))))
  have s3 : X.1 2 3 = g.1 6 + 0 := (hdl ((2, 3), (0, 6, 0)) (.tail _ (.tail _ (.tail _ (.head _)))))
  have ea : (cAr k_M_222).map (dn g) = [.ref 0, .int (iI ((0 : Nat) : Int)), .int (iI ((2 : Nat) : Int))] := by
    show [_, Value.int (iI (g.1 1 + 0)), Value.int (iI (g.1 2 + 0))] = _
    rw [show g.1 1 + 0 = ((0 : Nat) : Int) by omega, show g.1 2 + 0 = ((2 : Nat) : Int) by omega]
    rfl
  rw [ea]
  refine MetX.imp (fun r X1 hp => ?_) (q_copyAll (X0 := X) (f := 0) (q := 2) (by omega) (by omega) hH FR.rf)
  obtain ⟨rfl, hH1, hF1, cp1, cp2, cp3, cp4, cp5, cp6, cp7, cp8⟩ := hp
  have z2 : X1.1 2 2 = X.1 2 0 := cp2.1 0 (by decide)
  have z0 : X1.1 2 0 = X.1 2 0 := cp2.2 0 (by decide)
  have z1 : X1.1 2 1 = X.1 2 1 := cp2.2 1 (by decide)
  have z3 : X1.1 2 3 = X.1 2 3 := cp2.2 3 (by decide)
  exact (altM_mk 0 [] rfl (ei_cons ⟨by show (0 : Int) ≤ g.1 0; omega, by show g.1 0 ≤ (0 : Int); omega⟩ (ei_cons ⟨by show (0 : Int) ≤ g.1 1; omega, by show g.1 1 ≤ (0 : Int); omega⟩ (ei_cons ⟨by show (2 : Int) ≤ g.1 2; omega, by show g.1 2 ≤ (2 : Int); omega⟩ (ei_cons ⟨by show (0 : Int) ≤ g.1 3; omega, by show g.1 3 ≤ (600 : Int); omega⟩ (ei_cons ⟨by show (0 : Int) ≤ g.1 4; omega, by show g.1 4 ≤ (600 : Int); omega⟩ (ei_cons ⟨by show (0 : Int) ≤ g.1 5; omega, by show g.1 5 ≤ (600 : Int); omega⟩ (ei_cons ⟨by show (0 : Int) ≤ g.1 6; omega, by show g.1 6 ≤ (600 : Int); omega⟩ ei_nil))))))) el_nil (by rfl) (dl_cons (by show X1.1 2 0 = g.1 3 + 0; omega) (dl_cons (by show X1.1 2 1 = g.1 4 + 0; omega) (dl_cons (by show X1.1 2 2 = g.1 3 + 0; omega) (dl_cons (by show X1.1 2 3 = g.1 6 + 0; omega) dl_nil)))) gd_nil hH1 (bok_cp (by omega) (by omega) hE cp5 cp6) hF1)
set_option maxRecDepth 10000 in
theorem t_M_223 {D : va_G} {ad : Nat → Nat} {cA : Nat → ClassId} : CTR mtM vM gM (wM D ad cA) k_M_223 := by
  intro g X hpre
  obtain ⟨h00, hei, hel, hdl, hH, hE⟩ := hpre
  have h0 : (0 : Int) ≤ g.1 0 ∧ g.1 0 ≤ (0 : Int) := hei 0 _ rfl
  have h1 : (0 : Int) ≤ g.1 1 ∧ g.1 1 ≤ (0 : Int) := hei 1 _ rfl
  have h2 : (1 : Int) ≤ g.1 2 ∧ g.1 2 ≤ (1 : Int) := hei 2 _ rfl
  have h3 : (0 : Int) ≤ g.1 3 ∧ g.1 3 ≤ (600 : Int) := hei 3 _ rfl
  have h4 : (0 : Int) ≤ g.1 4 ∧ g.1 4 ≤ (600 : Int) := hei 4 _ rfl
  have h5 : (0 : Int) ≤ g.1 5 ∧ g.1 5 ≤ (600 : Int) := hei 5 _ rfl
  have h6 : (0 : Int) ≤ g.1 6 ∧ g.1 6 ≤ (600 : Int) := hei 6 _ rfl
  have s0 : X.1 2 0 = g.1 3 + 0 := (hdl ((2, 0), (0, 3, 0)) (.head _))
  have s1 : X.1 2 1 = g.1 4 + 0 := (hdl ((2, 1), (0, 4, 0)) (.tail _ (.head _)))
  have s2 : X.1 2 2 = g.1 5 + 0 := (hdl ((2, 2), (0, 5, 0)) (.tail _ (.tail _ (.head _))))
  have s3 : X.1 2 3 = g.1 6 + 0 := (hdl ((2, 3), (0, 6, 0)) (.tail _ (.tail _ (.tail _ (.head _)))))
  have ea : (cAr k_M_223).map (dn g) = [.ref 0, .int (iI ((0 : Nat) : Int)), .int (iI ((1 : Nat) : Int))] := by
    show [_, Value.int (iI (g.1 1 + 0)), Value.int (iI (g.1 2 + 0))] = _
    rw [show g.1 1 + 0 = ((0 : Nat) : Int) by omega, show g.1 2 + 0 = ((1 : Nat) : Int) by omega]
    rfl
  rw [ea]
  refine MetX.imp (fun r X1 hp => ?_) (q_copyAll (X0 := X) (f := 0) (q := 1) (by omega) (by omega) hH FR.rf)
  obtain ⟨rfl, hH1, hF1, cp1, cp2, cp3, cp4, cp5, cp6, cp7, cp8⟩ := hp
  have z1 : X1.1 2 1 = X.1 2 0 := cp2.1 0 (by decide)
  have z0 : X1.1 2 0 = X.1 2 0 := cp2.2 0 (by decide)
  have z2 : X1.1 2 2 = X.1 2 2 := cp2.2 2 (by decide)
  have z3 : X1.1 2 3 = X.1 2 3 := cp2.2 3 (by decide)
  exact (altM_mk 0 [] rfl (ei_cons ⟨by show (0 : Int) ≤ g.1 0; omega, by show g.1 0 ≤ (0 : Int); omega⟩ (ei_cons ⟨by show (0 : Int) ≤ g.1 1; omega, by show g.1 1 ≤ (0 : Int); omega⟩ (ei_cons ⟨by show (1 : Int) ≤ g.1 2; omega, by show g.1 2 ≤ (1 : Int); omega⟩ (ei_cons ⟨by show (0 : Int) ≤ g.1 3; omega, by show g.1 3 ≤ (600 : Int); omega⟩ (ei_cons ⟨by show (0 : Int) ≤ g.1 4; omega, by show g.1 4 ≤ (600 : Int); omega⟩ (ei_cons ⟨by show (0 : Int) ≤ g.1 5; omega, by show g.1 5 ≤ (600 : Int); omega⟩ (ei_cons ⟨by show (0 : Int) ≤ g.1 6; omega, by show g.1 6 ≤ (600 : Int); omega⟩ ei_nil))))))) el_nil (by rfl) (dl_cons (by show X1.1 2 0 = g.1 3 + 0; omega) (dl_cons (by show X1.1 2 1 = g.1 3 + 0; omega) (dl_cons (by show X1.1 2 2 = g.1 5 + 0; omega) (dl_cons (by show X1.1 2 3 = g.1 6 + 0; omega) dl_nil)))) gd_nil hH1 (bok_cp (by omega) (by omega) hE cp5 cp6) hF1)
set_option maxRecDepth 10000 in
theorem t_M_225 {D : va_G} {ad : Nat → Nat} {cA : Nat → ClassId} : CTR mtM vM gM (wM D ad cA) k_M_225 := by
  intro g X hpre
  obtain ⟨h00, hei, hel, hdl, hH, hE⟩ := hpre
  have h0 : (0 : Int) ≤ g.1 0 ∧ g.1 0 ≤ (0 : Int) := hei 0 _ rfl
  have h1 : (3 : Int) ≤ g.1 1 ∧ g.1 1 ≤ (3 : Int) := hei 1 _ rfl
  have h2 : (0 : Int) ≤ g.1 2 ∧ g.1 2 ≤ (0 : Int) := hei 2 _ rfl
  have h3 : (0 : Int) ≤ g.1 3 ∧ g.1 3 ≤ (600 : Int) := hei 3 _ rfl
  have h4 : (0 : Int) ≤ g.1 4 ∧ g.1 4 ≤ (600 : Int) := hei 4 _ rfl
  have h5 : (0 : Int) ≤ g.1 5 ∧ g.1 5 ≤ (600 : Int) := hei 5 _ rfl
  have h6 : (0 : Int) ≤ g.1 6 ∧ g.1 6 ≤ (600 : Int) := hei 6 _ rfl
  have s0 : X.1 2 0 = g.1 3 + 0 := (hdl ((2, 0), (0, 3, 0)) (.head _))
  have s1 : X.1 2 1 = g.1 4 + 0 := (hdl ((2, 1), (0, 4, 0)) (.tail _ (.head _)))
  have s2 : X.1 2 2 = g.1 5 + 0 := (hdl ((2, 2), (0, 5, 0)) (.tail _ (.tail _ (.head _))))
  have s3 : X.1 2 3 = g.1 6 + 0 := (hdl ((2, 3), (0, 6, 0)) (.tail _ (.tail _ (.tail _ (.head _)))))
  have ea : (cAr k_M_225).map (dn g) = [.ref 0, .int (iI ((3 : Nat) : Int)), .int (iI ((0 : Nat) : Int))] := by
    show [_, Value.int (iI (g.1 1 + 0)), Value.int (iI (g.1 2 + 0))] = _
    rw [show g.1 1 + 0 = ((3 : Nat) : Int) by omega, show g.1 2 + 0 = ((0 : Nat) : Int) by omega]
    rfl
  rw [ea]
  refine MetX.imp (fun r X1 hp => ?_) (q_copyAll (X0 := X) (f := 3) (q := 0) (by omega) (by omega) hH FR.rf)
  obtain ⟨rfl, hH1, hF1, cp1, cp2, cp3, cp4, cp5, cp6, cp7, cp8⟩ := hp
  have z0 : X1.1 2 0 = X.1 2 3 := cp2.1 0 (by decide)
  have z1 : X1.1 2 1 = X.1 2 1 := cp2.2 1 (by decide)
  have z2 : X1.1 2 2 = X.1 2 2 := cp2.2 2 (by decide)
  have z3 : X1.1 2 3 = X.1 2 3 := cp2.2 3 (by decide)
  exact (altM_mk 0 [] rfl (ei_cons ⟨by show (0 : Int) ≤ g.1 0; omega, by show g.1 0 ≤ (0 : Int); omega⟩ (ei_cons ⟨by show (3 : Int) ≤ g.1 1; omega, by show g.1 1 ≤ (3 : Int); omega⟩ (ei_cons ⟨by show (0 : Int) ≤ g.1 2; omega, by show g.1 2 ≤ (0 : Int); omega⟩ (ei_cons ⟨by show (0 : Int) ≤ g.1 3; omega, by show g.1 3 ≤ (600 : Int); omega⟩ (ei_cons ⟨by show (0 : Int) ≤ g.1 4; omega, by show g.1 4 ≤ (600 : Int); omega⟩ (ei_cons ⟨by show (0 : Int) ≤ g.1 5; omega, by show g.1 5 ≤ (600 : Int); omega⟩ (ei_cons ⟨by show (0 : Int) ≤ g.1 6; omega, by show g.1 6 ≤ (600 : Int); omega⟩ ei_nil))))))) el_nil (by rfl) (dl_cons (by show X1.1 2 0 = g.1 6 + 0; omega) (dl_cons (by show X1.1 2 1 = g.1 4 + 0; omega) (dl_cons (by show X1.1 2 2 = g.1 5 + 0; omega) (dl_cons (by show X1.1 2 3 = g.1 6 + 0; omega) dl_nil)))) gd_nil hH1 (bok_cp (by omega) (by omega) hE cp5 cp6) hF1)
set_option maxRecDepth 10000 in
theorem t_M_226 {D : va_G} {ad : Nat → Nat} {cA : Nat → ClassId} : CTR mtM vM gM (wM D ad cA) k_M_226 := by
  intro g X hpre
  obtain ⟨h00, hei, hel, hdl, hH, hE⟩ := hpre
  have h0 : (0 : Int) ≤ g.1 0 ∧ g.1 0 ≤ (0 : Int) := hei 0 _ rfl
  have h1 : (2 : Int) ≤ g.1 1 ∧ g.1 1 ≤ (2 : Int) := hei 1 _ rfl
  have h2 : (0 : Int) ≤ g.1 2 ∧ g.1 2 ≤ (0 : Int) := hei 2 _ rfl
  have h3 : (0 : Int) ≤ g.1 3 ∧ g.1 3 ≤ (600 : Int) := hei 3 _ rfl
  have h4 : (0 : Int) ≤ g.1 4 ∧ g.1 4 ≤ (600 : Int) := hei 4 _ rfl
  have h5 : (0 : Int) ≤ g.1 5 ∧ g.1 5 ≤ (600 : Int) := hei 5 _ rfl
  have h6 : (0 : Int) ≤ g.1 6 ∧ g.1 6 ≤ (600 : Int) := hei 6 _ rfl
  have s0 : X.1 2 0 = g.1 3 + 0 := (hdl ((2, 0), (0, 3, 0)) (.head _))
  have s1 : X.1 2 1 = g.1 4 + 0 := (hdl ((2, 1), (0, 4, 0)) (.tail _ (.head _)))
  have s2 : X.1 2 2 = g.1 5 + 0 := (hdl ((2, 2), (0, 5, 0)) (.tail _ (.tail _ (.head _))))
  have s3 : X.1 2 3 = g.1 6 + 0 := (hdl ((2, 3), (0, 6, 0)) (.tail _ (.tail _ (.tail _ (.head _)))))
  have ea : (cAr k_M_226).map (dn g) = [.ref 0, .int (iI ((2 : Nat) : Int)), .int (iI ((0 : Nat) : Int))] := by
    show [_, Value.int (iI (g.1 1 + 0)), Value.int (iI (g.1 2 + 0))] = _
    rw [show g.1 1 + 0 = ((2 : Nat) : Int) by omega, show g.1 2 + 0 = ((0 : Nat) : Int) by omega]
    rfl
  rw [ea]
  refine MetX.imp (fun r X1 hp => ?_) (q_copyAll (X0 := X) (f := 2) (q := 0) (by omega) (by omega) hH FR.rf)
  obtain ⟨rfl, hH1, hF1, cp1, cp2, cp3, cp4, cp5, cp6, cp7, cp8⟩ := hp
  have z0 : X1.1 2 0 = X.1 2 2 := cp2.1 0 (by decide)
  have z1 : X1.1 2 1 = X.1 2 1 := cp2.2 1 (by decide)
  have z2 : X1.1 2 2 = X.1 2 2 := cp2.2 2 (by decide)
  have z3 : X1.1 2 3 = X.1 2 3 := cp2.2 3 (by decide)
  exact (altM_mk 0 [] rfl (ei_cons ⟨by show (0 : Int) ≤ g.1 0; omega, by show g.1 0 ≤ (0 : Int); omega⟩ (ei_cons ⟨by show (2 : Int) ≤ g.1 1; omega, by show g.1 1 ≤ (2 : Int); omega⟩ (ei_cons ⟨by show (0 : Int) ≤ g.1 2; omega, by show g.1 2 ≤ (0 : Int); omega⟩ (ei_cons ⟨by show (0 : Int) ≤ g.1 3; omega, by show g.1 3 ≤ (600 : Int); omega⟩ (ei_cons ⟨by show (0 : Int) ≤ g.1 4; omega, by show g.1 4 ≤ (600 : Int); omega⟩ (ei_cons ⟨by show (0 : Int) ≤ g.1 5; omega, by show g.1 5 ≤ (600 : Int); omega⟩ (ei_cons ⟨by show (0 : Int) ≤ g.1 6; omega, by show g.1 6 ≤ (600 : Int); omega⟩ ei_nil))))))) el_nil (by rfl) (dl_cons (by show X1.1 2 0 = g.1 5 + 0; omega) (dl_cons (by show X1.1 2 1 = g.1 4 + 0; omega) (dl_cons (by show X1.1 2 2 = g.1 5 + 0; omega) (dl_cons (by show X1.1 2 3 = g.1 6 + 0; omega) dl_nil)))) gd_nil hH1 (bok_cp (by omega) (by omega) hE cp5 cp6) hF1)
set_option maxRecDepth 10000 in
theorem t_M_227 {D : va_G} {ad : Nat → Nat} {cA : Nat → ClassId} : CTR mtM vM gM (wM D ad cA) k_M_227 := by
  intro g X hpre
  obtain ⟨h00, hei, hel, hdl, hH, hE⟩ := hpre
  have h0 : (0 : Int) ≤ g.1 0 ∧ g.1 0 ≤ (0 : Int) := hei 0 _ rfl
  have h1 : (1 : Int) ≤ g.1 1 ∧ g.1 1 ≤ (1 : Int) := hei 1 _ rfl
  have h2 : (0 : Int) ≤ g.1 2 ∧ g.1 2 ≤ (0 : Int) := hei 2 _ rfl
  have h3 : (0 : Int) ≤ g.1 3 ∧ g.1 3 ≤ (600 : Int) := hei 3 _ rfl
  have h4 : (0 : Int) ≤ g.1 4 ∧ g.1 4 ≤ (600 : Int) := hei 4 _ rfl
  have h5 : (0 : Int) ≤ g.1 5 ∧ g.1 5 ≤ (600 : Int) := hei 5 _ rfl
  have h6 : (0 : Int) ≤ g.1 6 ∧ g.1 6 ≤ (600 : Int) := hei 6 _ rfl
  have s0 : X.1 2 0 = g.1 3 + 0 := (hdl ((2, 0), (0, 3, 0)) (.head _))
  have s1 : X.1 2 1 = g.1 4 + 0 := (hdl ((2, 1), (0, 4, 0)) (.tail _ (.head _)))
  have s2 : X.1 2 2 = g.1 5 + 0 := (hdl ((2, 2), (0, 5, 0)) (.tail _ (.tail _ (.head _))))
  have s3 : X.1 2 3 = g.1 6 + 0 := (hdl ((2, 3), (0, 6, 0)) (.tail _ (.tail _ (.tail _ (.head _)))))
  have ea : (cAr k_M_227).map (dn g) = [.ref 0, .int (iI ((1 : Nat) : Int)), .int (iI ((0 : Nat) : Int))] := by
    show [_, Value.int (iI (g.1 1 + 0)), Value.int (iI (g.1 2 + 0))] = _
    rw [show g.1 1 + 0 = ((1 : Nat) : Int) by omega, show g.1 2 + 0 = ((0 : Nat) : Int) by omega]
    rfl
  rw [ea]
  refine MetX.imp (fun r X1 hp => ?_) (q_copyAll (X0 := X) (f := 1) (q := 0) (by omega) (by omega) hH FR.rf)
  obtain ⟨rfl, hH1, hF1, cp1, cp2, cp3, cp4, cp5, cp6, cp7, cp8⟩ := hp
  have z0 : X1.1 2 0 = X.1 2 1 := cp2.1 0 (by decide)
  have z1 : X1.1 2 1 = X.1 2 1 := cp2.2 1 (by decide)
  have z2 : X1.1 2 2 = X.1 2 2 := cp2.2 2 (by decide)
  have z3 : X1.1 2 3 = X.1 2 3 := cp2.2 3 (by decide)
  exact (altM_mk 0 [] rfl (ei_cons ⟨by show (0 : Int) ≤ g.1 0; omega, by show g.1 0 ≤ (0 : Int); omega⟩ (ei_cons ⟨by show (1 : Int) ≤ g.1 1; omega, by show g.1 1 ≤ (1 : Int); omega⟩ (ei_cons ⟨by show (0 : Int) ≤ g.1 2; omega, by show g.1 2 ≤ (0 : Int); omega⟩ (ei_cons ⟨by show (0 : Int) ≤ g.1 3; omega, by show g.1 3 ≤ (600 : Int); omega⟩ (ei_cons ⟨by show (0 : Int) ≤ g.1 4; omega, by show g.1 4 ≤ (600 : Int); omega⟩ (ei_cons ⟨by show (0 : Int) ≤ g.1 5; omega, by show g.1 5 ≤ (600 : Int); omega⟩ (ei_cons ⟨by show (0 : Int) ≤ g.1 6; omega, by show g.1 6 ≤ (600 : Int); omega⟩ ei_nil))))))) el_nil (by rfl) (dl_cons (by show X1.1 2 0 = g.1 4 + 0; omega) (dl_cons (by show X1.1 2 1 = g.1 4 + 0; omega) (dl_cons (by show X1.1 2 2 = g.1 5 + 0; omega) (dl_cons (by show X1.1 2 3 = g.1 6 + 0; omega) dl_nil)))) gd_nil hH1 (bok_cp (by omega) (by omega) hE cp5 cp6) hF1)
set_option maxRecDepth 10000 in
theorem t_M_220 {D : va_G} {ad : Nat → Nat} {cA : Nat → ClassId} : CTR mtM vM gM (wM D ad cA) k_M_220 := by
  intro g X hpre
  obtain ⟨h00, hei, hel, hdl, hH, hE⟩ := hpre
  have h0 : (0 : Int) ≤ g.1 0 ∧ g.1 0 ≤ (0 : Int) := hei 0 _ rfl
  have h1 : ((-2147483648) : Int) ≤ g.1 1 ∧ g.1 1 ≤ (2147483647 : Int) := hei 1 _ rfl
  have h2 : (0 : Int) ≤ g.1 2 ∧ g.1 2 ≤ (0 : Int) := hei 2 _ rfl
  have h3 : (2 : Int) ≤ g.1 3 ∧ g.1 3 ≤ (2 : Int) := hei 3 _ rfl
  refine MetX.imp (fun r X1 hp => ?_) (q_in (X := X) (v := g.1 1 + 0) (a := g.1 2 + 0) (b := g.1 3 + 0) ⟨by omega, by omega⟩ ⟨by omega, by omega⟩ ⟨by omega, by omega⟩)
  obtain ⟨rfl, u, rfl, hu⟩ := hp
  rcases hu with ⟨rfl, u1, u2⟩ | ⟨rfl, u1⟩
  · exact (altM_mk 0 [1] rfl (ei_cons ⟨by show (0 : Int) ≤ g.1 0; omega, by show g.1 0 ≤ (0 : Int); omega⟩ (ei_cons ⟨by show (0 : Int) ≤ g.1 1; omega, by show g.1 1 ≤ (2 : Int); omega⟩ (ei_cons ⟨by show (0 : Int) ≤ g.1 2; omega, by show g.1 2 ≤ (0 : Int); omega⟩ (ei_cons ⟨by show (2 : Int) ≤ g.1 3; omega, by show g.1 3 ≤ (2 : Int); omega⟩ (ei_cons ⟨by show (1 : Int) ≤ 1; omega, by show 1 ≤ (1 : Int); omega⟩ ei_nil))))) el_nil (by rfl) dl_nil gd_nil hH hE FR.rf)
  · by_cases hn : g.1 1 < 0
    · exact (altM_mk 1 [0] rfl (ei_cons ⟨by show (0 : Int) ≤ g.1 0; omega, by show g.1 0 ≤ (0 : Int); omega⟩ (ei_cons ⟨by show ((-2147483648) : Int) ≤ g.1 1; omega, by show g.1 1 ≤ ((-1) : Int); omega⟩ (ei_cons ⟨by show (0 : Int) ≤ g.1 2; omega, by show g.1 2 ≤ (0 : Int); omega⟩ (ei_cons ⟨by show (2 : Int) ≤ g.1 3; omega, by show g.1 3 ≤ (2 : Int); omega⟩ (ei_cons ⟨by show (0 : Int) ≤ 0; omega, by show 0 ≤ (0 : Int); omega⟩ ei_nil))))) el_nil (by rfl) dl_nil gd_nil hH hE FR.rf)
    · exact (altM_mk 2 [0] rfl (ei_cons ⟨by show (0 : Int) ≤ g.1 0; omega, by show g.1 0 ≤ (0 : Int); omega⟩ (ei_cons ⟨by show (3 : Int) ≤ g.1 1; omega, by show g.1 1 ≤ (2147483647 : Int); omega⟩ (ei_cons ⟨by show (0 : Int) ≤ g.1 2; omega, by show g.1 2 ≤ (0 : Int); omega⟩ (ei_cons ⟨by show (2 : Int) ≤ g.1 3; omega, by show g.1 3 ≤ (2 : Int); omega⟩ (ei_cons ⟨by show (0 : Int) ≤ 0; omega, by show 0 ≤ (0 : Int); omega⟩ ei_nil))))) el_nil (by rfl) dl_nil gd_nil hH hE FR.rf)
