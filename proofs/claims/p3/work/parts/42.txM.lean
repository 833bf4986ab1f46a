/-! ===== the reference reads: tokens ===== -/
theorem dX12_see_0 : decode cX12_see 0 = .ok (.aload_n 0, 1) := by decide +kernel
theorem dX12_see_1 : decode cX12_see 1 = .ok (.getfield 173, 3) := by decide +kernel
theorem dX12_see_4 : decode cX12_see 4 = .ok (.aload_n 0, 1) := by decide +kernel
theorem dX12_see_5 : decode cX12_see 5 = .ok (.getfield 176, 3) := by decide +kernel
theorem dX12_see_8 : decode cX12_see 8 = .ok (.if_icmp .ge 19, 3) := by decide +kernel
theorem dX12_see_11 : decode cX12_see 11 = .ok (.aload_n 0, 1) := by decide +kernel
theorem dX12_see_12 : decode cX12_see 12 = .ok (.getfield 7, 3) := by decide +kernel
theorem dX12_see_15 : decode cX12_see 15 = .ok (.aload_n 0, 1) := by decide +kernel
theorem dX12_see_16 : decode cX12_see 16 = .ok (.getfield 173, 3) := by decide +kernel
theorem dX12_see_19 : decode cX12_see 19 = .ok (.baload, 1) := by decide +kernel
theorem dX12_see_20 : decode cX12_see 20 = .ok (.sipush 255, 3) := by decide +kernel
theorem dX12_see_23 : decode cX12_see 23 = .ok (.iand, 1) := by decide +kernel
theorem dX12_see_24 : decode cX12_see 24 = .ok (.goto 4, 3) := by decide +kernel
theorem dX12_see_27 : decode cX12_see 27 = .ok (.iconst (-1), 1) := by decide +kernel
theorem dX12_see_28 : decode cX12_see 28 = .ok (.ireturn, 1) := by decide +kernel
theorem dX12_token_0 : decode cX12_token 0 = .ok (.aload_n 0, 1) := by decide +kernel
theorem dX12_token_1 : decode cX12_token 1 = .ok (.invokevirtual 179, 3) := by decide +kernel
theorem dX12_token_4 : decode cX12_token 4 = .ok (.bipush 10, 2) := by decide +kernel
theorem dX12_token_6 : decode cX12_token 6 = .ok (.if_icmp .eq 12, 3) := by decide +kernel
theorem dX12_token_9 : decode cX12_token 9 = .ok (.aload_n 0, 1) := by decide +kernel
theorem dX12_token_10 : decode cX12_token 10 = .ok (.invokevirtual 179, 3) := by decide +kernel
theorem dX12_token_13 : decode cX12_token 13 = .ok (.bipush 32, 2) := by decide +kernel
theorem dX12_token_15 : decode cX12_token 15 = .ok (.if_icmp .ne 16, 3) := by decide +kernel
theorem dX12_token_18 : decode cX12_token 18 = .ok (.aload_n 0, 1) := by decide +kernel
theorem dX12_token_19 : decode cX12_token 19 = .ok (.dup, 1) := by decide +kernel
theorem dX12_token_20 : decode cX12_token 20 = .ok (.getfield 173, 3) := by decide +kernel
theorem dX12_token_23 : decode cX12_token 23 = .ok (.iconst 1, 1) := by decide +kernel
theorem dX12_token_24 : decode cX12_token 24 = .ok (.iadd, 1) := by decide +kernel
theorem dX12_token_25 : decode cX12_token 25 = .ok (.putfield 173, 3) := by decide +kernel
theorem dX12_token_28 : decode cX12_token 28 = .ok (.goto (-28), 3) := by decide +kernel
theorem dX12_token_31 : decode cX12_token 31 = .ok (.aload_n 0, 1) := by decide +kernel
theorem dX12_token_32 : decode cX12_token 32 = .ok (.aload_n 0, 1) := by decide +kernel
theorem dX12_token_33 : decode cX12_token 33 = .ok (.getfield 173, 3) := by decide +kernel
theorem dX12_token_36 : decode cX12_token 36 = .ok (.putfield 183, 3) := by decide +kernel
theorem dX12_token_39 : decode cX12_token 39 = .ok (.aload_n 0, 1) := by decide +kernel
theorem dX12_token_40 : decode cX12_token 40 = .ok (.invokevirtual 179, 3) := by decide +kernel
theorem dX12_token_43 : decode cX12_token 43 = .ok (.istore_n 1, 1) := by decide +kernel
theorem dX12_token_44 : decode cX12_token 44 = .ok (.aload_n 0, 1) := by decide +kernel
theorem dX12_token_45 : decode cX12_token 45 = .ok (.lconst 0, 1) := by decide +kernel
theorem dX12_token_46 : decode cX12_token 46 = .ok (.putfield 186, 3) := by decide +kernel
theorem dX12_token_49 : decode cX12_token 49 = .ok (.iconst 0, 1) := by decide +kernel
theorem dX12_token_50 : decode cX12_token 50 = .ok (.istore_n 2, 1) := by decide +kernel
theorem dX12_token_51 : decode cX12_token 51 = .ok (.iload_n 1, 1) := by decide +kernel
theorem dX12_token_52 : decode cX12_token 52 = .ok (.ifCond .ge 11, 3) := by decide +kernel
theorem dX12_token_55 : decode cX12_token 55 = .ok (.aload_n 0, 1) := by decide +kernel
theorem dX12_token_56 : decode cX12_token 56 = .ok (.iconst 0, 1) := by decide +kernel
theorem dX12_token_57 : decode cX12_token 57 = .ok (.putfield 190, 3) := by decide +kernel
theorem dX12_token_60 : decode cX12_token 60 = .ok (.goto 206, 3) := by decide +kernel
theorem dX12_token_63 : decode cX12_token 63 = .ok (.iload_n 1, 1) := by decide +kernel
theorem dX12_token_64 : decode cX12_token 64 = .ok (.bipush 97, 2) := by decide +kernel
theorem dX12_token_66 : decode cX12_token 66 = .ok (.bipush 122, 2) := by decide +kernel
theorem dX12_token_68 : decode cX12_token 68 = .ok (.invokestatic 165, 3) := by decide +kernel
theorem dX12_token_71 : decode cX12_token 71 = .ok (.ifCond .eq 76, 3) := by decide +kernel
theorem dX12_token_74 : decode cX12_token 74 = .ok (.aload_n 0, 1) := by decide +kernel
theorem dX12_token_75 : decode cX12_token 75 = .ok (.invokevirtual 179, 3) := by decide +kernel
theorem dX12_token_78 : decode cX12_token 78 = .ok (.bipush 97, 2) := by decide +kernel
theorem dX12_token_80 : decode cX12_token 80 = .ok (.bipush 122, 2) := by decide +kernel
theorem dX12_token_82 : decode cX12_token 82 = .ok (.invokestatic 165, 3) := by decide +kernel
theorem dX12_token_85 : decode cX12_token 85 = .ok (.ifCond .eq 36, 3) := by decide +kernel
theorem dX12_token_88 : decode cX12_token 88 = .ok (.aload_n 0, 1) := by decide +kernel
theorem dX12_token_89 : decode cX12_token 89 = .ok (.aload_n 0, 1) := by decide +kernel
theorem dX12_token_90 : decode cX12_token 90 = .ok (.getfield 186, 3) := by decide +kernel
theorem dX12_token_93 : decode cX12_token 93 = .ok (.bipush 8, 2) := by decide +kernel
theorem dX12_token_95 : decode cX12_token 95 = .ok (.lshl, 1) := by decide +kernel
theorem dX12_token_96 : decode cX12_token 96 = .ok (.aload_n 0, 1) := by decide +kernel
theorem dX12_token_97 : decode cX12_token 97 = .ok (.invokevirtual 179, 3) := by decide +kernel
theorem dX12_token_100 : decode cX12_token 100 = .ok (.i2l, 1) := by decide +kernel
theorem dX12_token_101 : decode cX12_token 101 = .ok (.lor, 1) := by decide +kernel
theorem dX12_token_102 : decode cX12_token 102 = .ok (.putfield 186, 3) := by decide +kernel
theorem dX12_token_105 : decode cX12_token 105 = .ok (.aload_n 0, 1) := by decide +kernel
theorem dX12_token_106 : decode cX12_token 106 = .ok (.dup, 1) := by decide +kernel
theorem dX12_token_107 : decode cX12_token 107 = .ok (.getfield 173, 3) := by decide +kernel
theorem dX12_token_110 : decode cX12_token 110 = .ok (.iconst 1, 1) := by decide +kernel
theorem dX12_token_111 : decode cX12_token 111 = .ok (.iadd, 1) := by decide +kernel
theorem dX12_token_112 : decode cX12_token 112 = .ok (.putfield 173, 3) := by decide +kernel
theorem dX12_token_115 : decode cX12_token 115 = .ok (.iinc 2 1, 3) := by decide +kernel
theorem dX12_token_118 : decode cX12_token 118 = .ok (.goto (-44), 3) := by decide +kernel
theorem dX12_token_121 : decode cX12_token 121 = .ok (.aload_n 0, 1) := by decide +kernel
theorem dX12_token_122 : decode cX12_token 122 = .ok (.iload_n 2, 1) := by decide +kernel
theorem dX12_token_123 : decode cX12_token 123 = .ok (.bipush 8, 2) := by decide +kernel
theorem dX12_token_125 : decode cX12_token 125 = .ok (.if_icmp .le 7, 3) := by decide +kernel
theorem dX12_token_128 : decode cX12_token 128 = .ok (.lconst 0, 1) := by decide +kernel
theorem dX12_token_129 : decode cX12_token 129 = .ok (.goto 7, 3) := by decide +kernel
theorem dX12_token_132 : decode cX12_token 132 = .ok (.aload_n 0, 1) := by decide +kernel
theorem dX12_token_133 : decode cX12_token 133 = .ok (.getfield 186, 3) := by decide +kernel
theorem dX12_token_136 : decode cX12_token 136 = .ok (.putfield 186, 3) := by decide +kernel
theorem dX12_token_139 : decode cX12_token 139 = .ok (.aload_n 0, 1) := by decide +kernel
theorem dX12_token_140 : decode cX12_token 140 = .ok (.iconst 2, 1) := by decide +kernel
theorem dX12_token_141 : decode cX12_token 141 = .ok (.putfield 190, 3) := by decide +kernel
theorem dX12_token_144 : decode cX12_token 144 = .ok (.goto 122, 3) := by decide +kernel
theorem dX12_token_147 : decode cX12_token 147 = .ok (.iload_n 1, 1) := by decide +kernel
theorem dX12_token_148 : decode cX12_token 148 = .ok (.bipush 48, 2) := by decide +kernel
theorem dX12_token_150 : decode cX12_token 150 = .ok (.bipush 57, 2) := by decide +kernel
theorem dX12_token_152 : decode cX12_token 152 = .ok (.invokestatic 165, 3) := by decide +kernel
theorem dX12_token_155 : decode cX12_token 155 = .ok (.ifCond .eq 86, 3) := by decide +kernel
theorem dX12_token_158 : decode cX12_token 158 = .ok (.aload_n 0, 1) := by decide +kernel
theorem dX12_token_159 : decode cX12_token 159 = .ok (.iconst 0, 1) := by decide +kernel
theorem dX12_token_160 : decode cX12_token 160 = .ok (.putfield 193, 3) := by decide +kernel
theorem dX12_token_163 : decode cX12_token 163 = .ok (.aload_n 0, 1) := by decide +kernel
theorem dX12_token_164 : decode cX12_token 164 = .ok (.invokevirtual 179, 3) := by decide +kernel
theorem dX12_token_167 : decode cX12_token 167 = .ok (.bipush 48, 2) := by decide +kernel
theorem dX12_token_169 : decode cX12_token 169 = .ok (.bipush 57, 2) := by decide +kernel
theorem dX12_token_171 : decode cX12_token 171 = .ok (.invokestatic 165, 3) := by decide +kernel
theorem dX12_token_174 : decode cX12_token 174 = .ok (.ifCond .eq 50, 3) := by decide +kernel
theorem dX12_token_177 : decode cX12_token 177 = .ok (.aload_n 0, 1) := by decide +kernel
theorem dX12_token_178 : decode cX12_token 178 = .ok (.iload_n 2, 1) := by decide +kernel
theorem dX12_token_179 : decode cX12_token 179 = .ok (.iconst 2, 1) := by decide +kernel
theorem dX12_token_180 : decode cX12_token 180 = .ok (.if_icmp .ge 21, 3) := by decide +kernel
theorem dX12_token_183 : decode cX12_token 183 = .ok (.bipush 10, 2) := by decide +kernel
theorem dX12_token_185 : decode cX12_token 185 = .ok (.aload_n 0, 1) := by decide +kernel
theorem dX12_token_186 : decode cX12_token 186 = .ok (.getfield 193, 3) := by decide +kernel
theorem dX12_token_189 : decode cX12_token 189 = .ok (.imul, 1) := by decide +kernel
theorem dX12_token_190 : decode cX12_token 190 = .ok (.aload_n 0, 1) := by decide +kernel
theorem dX12_token_191 : decode cX12_token 191 = .ok (.invokevirtual 179, 3) := by decide +kernel
theorem dX12_token_194 : decode cX12_token 194 = .ok (.iadd, 1) := by decide +kernel
theorem dX12_token_195 : decode cX12_token 195 = .ok (.bipush 48, 2) := by decide +kernel
theorem dX12_token_197 : decode cX12_token 197 = .ok (.isub, 1) := by decide +kernel
theorem dX12_token_198 : decode cX12_token 198 = .ok (.goto 7, 3) := by decide +kernel
theorem dX12_token_201 : decode cX12_token 201 = .ok (.aload_n 0, 1) := by decide +kernel
theorem dX12_token_202 : decode cX12_token 202 = .ok (.getfield 193, 3) := by decide +kernel
theorem dX12_token_205 : decode cX12_token 205 = .ok (.putfield 193, 3) := by decide +kernel
theorem dX12_token_208 : decode cX12_token 208 = .ok (.aload_n 0, 1) := by decide +kernel
theorem dX12_token_209 : decode cX12_token 209 = .ok (.dup, 1) := by decide +kernel
theorem dX12_token_210 : decode cX12_token 210 = .ok (.getfield 173, 3) := by decide +kernel
theorem dX12_token_213 : decode cX12_token 213 = .ok (.iconst 1, 1) := by decide +kernel
theorem dX12_token_214 : decode cX12_token 214 = .ok (.iadd, 1) := by decide +kernel
theorem dX12_token_215 : decode cX12_token 215 = .ok (.putfield 173, 3) := by decide +kernel
theorem dX12_token_218 : decode cX12_token 218 = .ok (.iinc 2 1, 3) := by decide +kernel
theorem dX12_token_221 : decode cX12_token 221 = .ok (.goto (-58), 3) := by decide +kernel
theorem dX12_token_224 : decode cX12_token 224 = .ok (.aload_n 0, 1) := by decide +kernel
theorem dX12_token_225 : decode cX12_token 225 = .ok (.iload_n 2, 1) := by decide +kernel
theorem dX12_token_226 : decode cX12_token 226 = .ok (.iconst 2, 1) := by decide +kernel
theorem dX12_token_227 : decode cX12_token 227 = .ok (.if_icmp .le 7, 3) := by decide +kernel
theorem dX12_token_230 : decode cX12_token 230 = .ok (.iconst 1, 1) := by decide +kernel
theorem dX12_token_231 : decode cX12_token 231 = .ok (.goto 4, 3) := by decide +kernel
theorem dX12_token_234 : decode cX12_token 234 = .ok (.iconst 3, 1) := by decide +kernel
theorem dX12_token_235 : decode cX12_token 235 = .ok (.putfield 190, 3) := by decide +kernel
theorem dX12_token_238 : decode cX12_token 238 = .ok (.goto 28, 3) := by decide +kernel
theorem dX12_token_241 : decode cX12_token 241 = .ok (.aload_n 0, 1) := by decide +kernel
theorem dX12_token_242 : decode cX12_token 242 = .ok (.dup, 1) := by decide +kernel
theorem dX12_token_243 : decode cX12_token 243 = .ok (.getfield 173, 3) := by decide +kernel
theorem dX12_token_246 : decode cX12_token 246 = .ok (.iconst 1, 1) := by decide +kernel
theorem dX12_token_247 : decode cX12_token 247 = .ok (.iadd, 1) := by decide +kernel
theorem dX12_token_248 : decode cX12_token 248 = .ok (.putfield 173, 3) := by decide +kernel
theorem dX12_token_251 : decode cX12_token 251 = .ok (.aload_n 0, 1) := by decide +kernel
theorem dX12_token_252 : decode cX12_token 252 = .ok (.iload_n 1, 1) := by decide +kernel
theorem dX12_token_253 : decode cX12_token 253 = .ok (.bipush 59, 2) := by decide +kernel
theorem dX12_token_255 : decode cX12_token 255 = .ok (.if_icmp .ne 7, 3) := by decide +kernel
theorem dX12_token_258 : decode cX12_token 258 = .ok (.iconst 4, 1) := by decide +kernel
theorem dX12_token_259 : decode cX12_token 259 = .ok (.goto 4, 3) := by decide +kernel
theorem dX12_token_262 : decode cX12_token 262 = .ok (.iconst 1, 1) := by decide +kernel
theorem dX12_token_263 : decode cX12_token 263 = .ok (.putfield 190, 3) := by decide +kernel
theorem dX12_token_266 : decode cX12_token 266 = .ok (.return_, 1) := by decide +kernel
theorem dX12_stops_0 : decode cX12_stops 0 = .ok (.aload_n 0, 1) := by decide +kernel
theorem dX12_stops_1 : decode cX12_stops 1 = .ok (.aload_n 0, 1) := by decide +kernel
theorem dX12_stops_2 : decode cX12_stops 2 = .ok (.getfield 183, 3) := by decide +kernel
theorem dX12_stops_5 : decode cX12_stops 5 = .ok (.putfield 196, 3) := by decide +kernel
theorem dX12_stops_8 : decode cX12_stops 8 = .ok (.iconst 0, 1) := by decide +kernel
theorem dX12_stops_9 : decode cX12_stops 9 = .ok (.ireturn, 1) := by decide +kernel
theorem dX12_later_0 : decode cX12_later 0 = .ok (.aload_n 0, 1) := by decide +kernel
theorem dX12_later_1 : decode cX12_later 1 = .ok (.getfield 199, 3) := by decide +kernel
theorem dX12_later_4 : decode cX12_later 4 = .ok (.ifCond .eq 27, 3) := by decide +kernel
theorem dX12_later_7 : decode cX12_later 7 = .ok (.iload_n 2, 1) := by decide +kernel
theorem dX12_later_8 : decode cX12_later 8 = .ok (.aload_n 0, 1) := by decide +kernel
theorem dX12_later_9 : decode cX12_later 9 = .ok (.getfield 202, 3) := by decide +kernel
theorem dX12_later_12 : decode cX12_later 12 = .ok (.if_icmp .lt 19, 3) := by decide +kernel
theorem dX12_later_15 : decode cX12_later 15 = .ok (.iload_n 2, 1) := by decide +kernel
theorem dX12_later_16 : decode cX12_later 16 = .ok (.aload_n 0, 1) := by decide +kernel
theorem dX12_later_17 : decode cX12_later 17 = .ok (.getfield 202, 3) := by decide +kernel
theorem dX12_later_20 : decode cX12_later 20 = .ok (.if_icmp .ne 21, 3) := by decide +kernel
theorem dX12_later_23 : decode cX12_later 23 = .ok (.iload_n 1, 1) := by decide +kernel
theorem dX12_later_24 : decode cX12_later 24 = .ok (.aload_n 0, 1) := by decide +kernel
theorem dX12_later_25 : decode cX12_later 25 = .ok (.getfield 199, 3) := by decide +kernel
theorem dX12_later_28 : decode cX12_later 28 = .ok (.if_icmp .ge 13, 3) := by decide +kernel
theorem dX12_later_31 : decode cX12_later 31 = .ok (.aload_n 0, 1) := by decide +kernel
theorem dX12_later_32 : decode cX12_later 32 = .ok (.iload_n 1, 1) := by decide +kernel
theorem dX12_later_33 : decode cX12_later 33 = .ok (.putfield 199, 3) := by decide +kernel
theorem dX12_later_36 : decode cX12_later 36 = .ok (.aload_n 0, 1) := by decide +kernel
theorem dX12_later_37 : decode cX12_later 37 = .ok (.iload_n 2, 1) := by decide +kernel
theorem dX12_later_38 : decode cX12_later 38 = .ok (.putfield 202, 3) := by decide +kernel
theorem dX12_later_41 : decode cX12_later 41 = .ok (.return_, 1) := by decide +kernel

def seF (b : Nat → Int) (N r : Nat) : Int := if r < N then b r else -1
theorem seF_bd {b : Nat → Int} {N r : Nat} {X : XT} (h : TPM b N X) : -1 ≤ seF b N r ∧ seF b N r ≤ 255 ∧ (r < N → seF b N r = b r ∧ 0 ≤ b r) ∧ (¬ r < N → seF b N r = -1) := by
  unfold seF
  split
  · rename_i q
    have := h.2.2.2 r q
    exact ⟨by omega, by omega, fun _ => ⟨rfl, this.1⟩, fun g => absurd q g⟩
  · exact ⟨by omega, by omega, fun g => absurd g (by assumption), fun _ => rfl⟩
set_option maxHeartbeats 4000000 in
set_option maxRecDepth 100000 in
theorem r_see {D : va_G} {ad : Nat → Nat} {cA : Nat → ClassId} {X : XT} {b : Nat → Int} {N : Nat} {r : Nat} (hT0 : TPM b N X) (hH : HG vM X) (hF : FR mmTM X X) (hr : X.1 0 9 = (r : Int)) : MetX (wM D ad cA) yX12_see cX12_see 1 (some .int) 0 0 [.ref 0] X (fun r1 X' => X' = X ∧ ∃ u : Int, r1 = some (.int (iI u)) ∧ u = seF b N r) := by
  have n6 := hT0.2.1
  refine MetX.mk (own := RX12) (by decide +kernel) rfl (nle rfl) (fun E C hQ => ?_)
  refine Wx_lv (lv' := [(0, .ref 0)]) rfl ?_
  refine x_aload_n (i := 0) C dX12_see_0 rfl rfl ?_
  refine x_getI C fkM_X12_173 (nlt rfl) rfl dX12_see_1 ?_
  refine x_gen (fun v1 ev1 => ?_)
  have qv1 : ((-2147483648) : Int) ≤ v1 ∧ v1 ≤ (2147483647 : Int) := by
    rw [ev1]
    exact hH.rF (k := 0) (i := 9) rfl rfl
  refine x_aload_n (i := 0) C dX12_see_4 rfl rfl ?_
  refine x_getI C fkM_X12_176 (nlt rfl) rfl dX12_see_5 ?_
  refine x_gen (fun v2 ev2 => ?_)
  have qv2 : ((-2147483648) : Int) ≤ v2 ∧ v2 ≤ (2147483647 : Int) := by
    rw [ev2]
    exact hH.rF (k := 0) (i := 10) rfl rfl
  have nv2 : v2 = (N : Int) := by rw [ev2]; exact (hT0.fr hF rfl).1
  refine x_icmp_ge (tgt := 27) C dX12_see_8 (by decide) ⟨by omega, by omega⟩ ⟨by omega, by omega⟩ (fun h3 => ?_) (fun h3 => ?_)
  · refine x_iconst C dX12_see_27 ?_
    exact x_iret C hQ dX12_see_28 (⟨rfl, _, rfl, by unfold seF; rw [if_neg (by omega)]⟩)
  · refine x_aload_n (i := 0) C dX12_see_11 rfl rfl ?_
    refine x_getRs (r := 1) C fkM_X12_7 (nlt rfl) rfl (HG.rR hH (k := 0) (i := 1) rfl rfl) dX12_see_12 ?_
    refine x_aload_n (i := 0) C dX12_see_15 rfl rfl ?_
    refine x_getI C fkM_X12_173 (nlt rfl) rfl dX12_see_16 ?_
    refine x_gen (fun v4 ev4 => ?_)
    have qv4 : ((-2147483648) : Int) ≤ v4 ∧ v4 ≤ (2147483647 : Int) := by
      rw [ev4]
      exact hH.rF (k := 0) (i := 9) rfl rfl
    refine x_bald C (nlt rfl) rfl rfl (nle rfl) (by omega) (by omega) dX12_see_19 ?_
    refine x_gen (fun v5 ev5 => ?_)
    have qv5 : ((-128) : Int) ≤ v5 ∧ v5 ≤ (127 : Int) := by
      rw [ev5]
      exact hH.rA (k := 1) (n := 2400) (p := ((-128), 127)) (nlt rfl) rfl (by decide +kernel) (by omega)
    have tv5 : v5 % 256 = b (v4).toNat := by rw [ev5]; exact (hT0.fr hF rfl).2.2.1 _ (by omega)
    refine x_sipush C dX12_see_20 (by decide) ?_
    refine x_iand C dX12_see_23 ?_
    refine x_topi (fun v6 rv6 ev6 => ?_)
    unfold inR at rv6
    have bv6 := and_bd (m := 255) (by decide) (by decide) rv6 ev6
    have yv6 := and255m (v := v5) (by omega) (by omega) rv6 ev6
    refine x_goto (tgt := 28) C dX12_see_24 (by decide) ?_
    exact x_iret C hQ dX12_see_28 (⟨rfl, _, rfl, by unfold seF; rw [if_pos (by omega), show b r = v5 % 256 by (rw [tv5]; congr 1; omega)]; exact yv6⟩)
set_option maxHeartbeats 4000000 in
set_option maxRecDepth 100000 in
theorem r_tok2 {D : va_G} {ad : Nat → Nat} {cA : Nat → ClassId} {X0 : XT} {b : Nat → Int} {N : Nat} {p : Nat} (hp : p ≤ N) (hT0 : TPM b N X0) {q : Nat} (hq : q = tS b N p) (qN : q < N) (tc : tC b N q = 1) {E : ET} (C : CX E (wM D ad cA) cX12_token 3 RX12 none { frames := 1, cells := 0, slots := 0, locals := 22 }) (hQ : EQ E (wM D ad cA) (fun r X1 => r = none ∧ HG vM X1 ∧ FR mmTM X0 X1 ∧ TKM b N (tS b N p) X1)) : ∀ (n : Nat) (r : Nat) (X : XT), ((N + 1 - r : Nat) : Int) < n → HG vM X → FR mmTM X0 X → X.1 0 11 = (q : Int) → X.1 0 9 = (r : Int) → X.2.1 0 14 = wP b q (r - q) → q < r ∨ r = q → r ≤ N → (∀ i, q ≤ i → i < r → isK b 1 i = true) → Wx E (wM D ad cA) 3 (PX (wM D ad cA) X) 74 [(2, .int (iI ((r : Int) - q))), (0, .ref 0)] [] := by
  intro n
  induction n with
  | zero => intro r X hn hH hF hb hr hw q1 r1 hl; exfalso; omega
  | succ n ih =>
    intro r X hn hH hF hb hr hw q1 r1 hl
    have n6 := hT0.2.1
    have b0 := hT0.2.2.2
    refine x_aload_n (i := 0) C dX12_token_74 rfl rfl ?_
    refine x_callV (As := []) C (by exact (r_see (r := r) (hT0.fr hF rfl) hH FR.rf hr)) ckX12_179 im_X12_see se_X12_see (nlt rfl) rfl rfl rfl rfl (nle rfl) (by exact ⟨nle rfl, nle rfl⟩) dX12_token_75 ?_
    rintro _ Xv1 ⟨hxv1, v1, rfl, ev1⟩
    rw [hxv1]
    have bv1 := seF_bd (r := r) (hT0.fr hF rfl)
    rw [← ev1] at bv1
    refine Wx_st (st' := [.int (iI (v1))]) rfl ?_
    refine x_bipush C dX12_token_78 (by decide) ?_
    refine x_bipush C dX12_token_80 (by decide) ?_
    refine x_callS (As := [.int (iI (v1)), .int (iI (97)), .int (iI (122))]) C (by exact (q_in (v := v1) (a := 97) (b := 122) ⟨by omega, by omega⟩ ⟨by omega, by omega⟩ ⟨by omega, by omega⟩)) ckX12_165 sm_X12_in rfl rfl (nle rfl) (by exact ⟨nle rfl, nle rfl⟩) dX12_token_82 ?_
    rintro _ Xv2 ⟨hxv2, v2, rfl, ev2⟩
    rw [hxv2]
    refine Wx_st (st' := [.int (iI (v2))]) rfl ?_
    refine x_if_eq (tgt := 121) C dX12_token_85 (by decide) ⟨by omega, by omega⟩ (fun h3 => ?_) (fun h3 => ?_)
    · have kq := kOf_1.mp (show kOf (b q) = 1 by unfold tC at tc; rw [if_pos qN] at tc; exact tc)
      have qr : q < r := by
        rcases Nat.lt_or_ge q r with g | g
        · exact g
        · exfalso
          have kr : 97 ≤ b r ∧ b r ≤ 122 := by rw [show r = q by omega]; exact kq
          omega
      have er : r = tE b N q := by
        unfold tE
        rw [if_pos qN, if_pos (.inl tc), tc]
        refine (runTo_eq (N - (q + 1)) (q + 1) r (by omega) (by omega) (fun i a d => hl i (by omega) d) ?_).symm
        by_cases rn : r < N
        · right
          exact decide_eq_false (fun hb2 => by have := kOf_1.mp hb2; omega)
        · left
          omega
      have tk : tK b N q = 1 := by unfold tK; rw [if_neg (by omega)]; exact tc
      refine x_aload_n (i := 0) C dX12_token_121 rfl rfl ?_
      refine x_iload_n (i := 2) C dX12_token_122 rfl rfl ?_
      refine x_bipush C dX12_token_123 (by decide) ?_
      refine x_icmp_le (tgt := 132) C dX12_token_125 (by decide) ⟨by omega, by omega⟩ ⟨by omega, by omega⟩ (fun h4 => ?_) (fun h4 => ?_)
      · refine x_aload_n (i := 0) C dX12_token_132 rfl rfl ?_
        refine x_getL C fkM_X12_186 (nlt rfl) rfl dX12_token_133 ?_
        refine x_genL (fun l5 el5 => ?_)
        refine x_putL C pkM_X12_186 (nlt rfl) rfl dX12_token_136 ?_
        refine x_gX (fun Yy6 eYy6 => ?_)
        have hHy6 : HG vM Yy6 := by
          rw [eYy6]
          exact hg_wLF hH (p := ((-9223372036854775808), 9223372036854775807)) rfl (l64 _)
        have hFy6 : FR mmTM X0 Yy6 := by
          rw [eYy6]
          exact FR.upL hF (rfl)
        replace eYy6 : Yy6 = upL X 0 14 (l5) := eYy6
        refine x_aload_n (i := 0) C dX12_token_139 rfl rfl ?_
        refine x_iconst C dX12_token_140 ?_
        refine x_putI C pkM_X12_190 (nlt rfl) rfl dX12_token_141 ?_
        refine x_gX (fun Yy7 eYy7 => ?_)
        have hHy7 : HG vM Yy7 := by
          rw [eYy7]
          exact hg_wF hHy6 (p := ((-2147483648), 2147483647)) rfl ⟨by omega, by omega⟩
        have hFy7 : FR mmTM X0 Yy7 := by
          rw [eYy7]
          exact FR.upI hFy6 (rfl)
        refine x_goto (tgt := 266) C dX12_token_144 (by decide) ?_
        exact x_vret C hQ dX12_token_266 (⟨rfl, hHy7, hFy7, by rw [← hq]; exact ⟨by rw [eYy7, upI_ne (by decide), eYy6, upL_1]; exact hb, by rw [eYy7, upI_at, tk]; rfl, by rw [eYy7, upI_ne (by decide), eYy6, upL_1]; omega, fun k => absurd (k.symm.trans tk) (by decide), fun _ => by rw [eYy7, upI_2, eYy6, upL_at]; unfold wdT; rw [if_neg (by omega), el5, ← er]; exact hw, by omega, by omega⟩⟩)
      · refine x_lconst C dX12_token_128 ?_
        refine x_eqL (b := 0) rfl ?_
        refine x_goto (tgt := 136) C dX12_token_129 (by decide) ?_
        refine x_putL C pkM_X12_186 (nlt rfl) rfl dX12_token_136 ?_
        refine x_gX (fun Yy8 eYy8 => ?_)
        have hHy8 : HG vM Yy8 := by
          rw [eYy8]
          exact hg_wLF hH (p := ((-9223372036854775808), 9223372036854775807)) rfl (l64 _)
        have hFy8 : FR mmTM X0 Yy8 := by
          rw [eYy8]
          exact FR.upL hF (rfl)
        replace eYy8 : Yy8 = upL X 0 14 (0) := eYy8
        refine x_aload_n (i := 0) C dX12_token_139 rfl rfl ?_
        refine x_iconst C dX12_token_140 ?_
        refine x_putI C pkM_X12_190 (nlt rfl) rfl dX12_token_141 ?_
        refine x_gX (fun Yy9 eYy9 => ?_)
        have hHy9 : HG vM Yy9 := by
          rw [eYy9]
          exact hg_wF hHy8 (p := ((-2147483648), 2147483647)) rfl ⟨by omega, by omega⟩
        have hFy9 : FR mmTM X0 Yy9 := by
          rw [eYy9]
          exact FR.upI hFy8 (rfl)
        refine x_goto (tgt := 266) C dX12_token_144 (by decide) ?_
        exact x_vret C hQ dX12_token_266 (⟨rfl, hHy9, hFy9, by rw [← hq]; exact ⟨by rw [eYy9, upI_ne (by decide), eYy8, upL_1]; exact hb, by rw [eYy9, upI_at, tk]; rfl, by rw [eYy9, upI_ne (by decide), eYy8, upL_1]; omega, fun k => absurd (k.symm.trans tk) (by decide), fun _ => by rw [eYy9, upI_2, eYy8, upL_at]; unfold wdT; rw [if_pos (by omega)], by omega, by omega⟩⟩)
    · refine x_aload_n (i := 0) C dX12_token_88 rfl rfl ?_
      refine x_aload_n (i := 0) C dX12_token_89 rfl rfl ?_
      refine x_getL C fkM_X12_186 (nlt rfl) rfl dX12_token_90 ?_
      refine x_genL (fun l10 el10 => ?_)
      refine x_bipush C dX12_token_93 (by decide) ?_
      refine x_lshl C dX12_token_95 ?_
      refine x_genL (fun l11 el11 => ?_)
      refine x_aload_n (i := 0) C dX12_token_96 rfl rfl ?_
      refine x_callV (As := []) C (by exact (r_see (r := r) (hT0.fr hF rfl) hH FR.rf hr)) ckX12_179 im_X12_see se_X12_see (nlt rfl) rfl rfl rfl rfl (nle rfl) (by exact ⟨nle rfl, nle rfl⟩) dX12_token_97 ?_
      rintro _ Xv12 ⟨hxv12, v12, rfl, ev12⟩
      rw [hxv12]
      have bv12 := seF_bd (r := r) (hT0.fr hF rfl)
      rw [← ev12] at bv12
      refine Wx_st (st' := [.int (iI (v12)), .long (l11), .ref 0]) rfl ?_
      refine x_i2l C dX12_token_100 ?_
      refine x_genL (fun l13 el13 => ?_)
      refine x_lor C dX12_token_101 ?_
      refine x_genL (fun l14 el14 => ?_)
      refine x_putL C pkM_X12_186 (nlt rfl) rfl dX12_token_102 ?_
      refine x_gX (fun Yy15 eYy15 => ?_)
      have hHy15 : HG vM Yy15 := by
        rw [eYy15]
        exact hg_wLF hH (p := ((-9223372036854775808), 9223372036854775807)) rfl (l64 _)
      have hFy15 : FR mmTM X0 Yy15 := by
        rw [eYy15]
        exact FR.upL hF (rfl)
      replace eYy15 : Yy15 = upL X 0 14 (l14) := eYy15
      refine x_aload_n (i := 0) C dX12_token_105 rfl rfl ?_
      refine x_dup C dX12_token_106 rfl ?_
      refine x_getI C fkM_X12_173 (nlt rfl) rfl dX12_token_107 ?_
      refine x_gen (fun v16 ev16 => ?_)
      have qv16 : ((-2147483648) : Int) ≤ v16 ∧ v16 ≤ (2147483647 : Int) := by
        rw [ev16]
        exact hHy15.rF (k := 0) (i := 9) rfl rfl
      have kv16 : v16 = X.1 0 9 := by rw [ev16, eYy15, upL_1]
      refine x_iconst C dX12_token_110 ?_
      refine x_iadd C dX12_token_111 ?_
      refine x_putI C pkM_X12_173 (nlt rfl) rfl dX12_token_112 ?_
      refine x_gX (fun Yy17 eYy17 => ?_)
      have hHy17 : HG vM Yy17 := by
        rw [eYy17]
        exact hg_wF hHy15 (p := ((-2147483648), 2147483647)) rfl ⟨by omega, by omega⟩
      have hFy17 : FR mmTM X0 Yy17 := by
        rw [eYy17]
        exact FR.upI hFy15 (rfl)
      refine x_iinc (lv' := [(2, .int (iI ((r : Int) - q + 1))), (0, .ref 0)]) C dX12_token_115 rfl (nlt rfl) rfl ?_
      refine x_goto (tgt := 74) C dX12_token_118 (by decide) ?_
      refine Wx_pick [2, 0] ?_
      refine Wx_lv (lv' := [(2, .int (iI ((r : Int) - q + 1))), (0, .ref 0)]) rfl ?_
      rw [show iI ((r : Int) - q + 1) = iI (((r + 1 : Nat) : Int) - q) by congr 1; omega]
      refine ih (r + 1) _ (by omega) hHy17 hFy17 (by rw [eYy17, upI_ne (by decide), eYy15, upL_1]; exact hb) (by rw [eYy17, upI_at]; omega) (by rw [eYy17, upI_2, eYy15, upL_at]; rw [show r + 1 - q = (r - q) + 1 by omega]; show l14 = (wP b q (r - q) <<< ((iI 8).toInt64 &&& 63)) ||| (iI (b (q + (r - q)))).toInt64; rw [el14, el11, el10, hw, el13, show v12 = b (q + (r - q)) by (rw [show q + (r - q) = r by omega]; omega)]) (by omega) (by omega) (fun i a d => ?_)
      by_cases ei : i = r
      · subst ei
        exact decide_eq_true (kOf_1.mpr (by omega))
      · exact hl i a (by omega)
set_option maxHeartbeats 4000000 in
set_option maxRecDepth 100000 in
theorem r_tok3 {D : va_G} {ad : Nat → Nat} {cA : Nat → ClassId} {X0 : XT} {b : Nat → Int} {N : Nat} {p : Nat} (hp : p ≤ N) (hT0 : TPM b N X0) {q : Nat} (hq : q = tS b N p) (qN : q < N) (tc : tC b N q = 2) {E : ET} (C : CX E (wM D ad cA) cX12_token 3 RX12 none { frames := 1, cells := 0, slots := 0, locals := 22 }) (hQ : EQ E (wM D ad cA) (fun r X1 => r = none ∧ HG vM X1 ∧ FR mmTM X0 X1 ∧ TKM b N (tS b N p) X1)) : ∀ (n : Nat) (r : Nat) (X : XT), ((N + 1 - r : Nat) : Int) < n → HG vM X → FR mmTM X0 X → X.1 0 11 = (q : Int) → X.1 0 9 = (r : Int) → X.1 0 13 = vP b q (min (r - q) 2) → q < r ∨ r = q → r ≤ N → (∀ i, q ≤ i → i < r → isK b 2 i = true) → Wx E (wM D ad cA) 3 (PX (wM D ad cA) X) 163 [(2, .int (iI ((r : Int) - q))), (0, .ref 0)] [] := by
  intro n
  induction n with
  | zero => intro r X hn hH hF hb hr hw q1 r1 hl; exfalso; omega
  | succ n ih =>
    intro r X hn hH hF hb hr hw q1 r1 hl
    have n6 := hT0.2.1
    have b0 := hT0.2.2.2
    have v9 : r - q < 2 → 0 ≤ X.1 0 13 ∧ X.1 0 13 ≤ 9 := fun g => by
      rw [hw, show min (r - q) 2 = r - q by omega]
      rcases (show r - q = 0 ∨ r - q = 1 by omega) with e | e
      · rw [e]; exact ⟨Int.le_refl _, by show (0 : Int) ≤ 9; decide⟩
      · rw [e]; exact vP_bd (fun _ _ _ => trivial) (kOf_2.mp (of_decide_eq_true (hl q (Nat.le_refl q) (by omega))))
    refine x_aload_n (i := 0) C dX12_token_163 rfl rfl ?_
    refine x_callV (As := []) C (by exact (r_see (r := r) (hT0.fr hF rfl) hH FR.rf hr)) ckX12_179 im_X12_see se_X12_see (nlt rfl) rfl rfl rfl rfl (nle rfl) (by exact ⟨nle rfl, nle rfl⟩) dX12_token_164 ?_
    rintro _ Xv1 ⟨hxv1, v1, rfl, ev1⟩
    rw [hxv1]
    have bv1 := seF_bd (r := r) (hT0.fr hF rfl)
    rw [← ev1] at bv1
    refine Wx_st (st' := [.int (iI (v1))]) rfl ?_
    refine x_bipush C dX12_token_167 (by decide) ?_
    refine x_bipush C dX12_token_169 (by decide) ?_
    refine x_callS (As := [.int (iI (v1)), .int (iI (48)), .int (iI (57))]) C (by exact (q_in (v := v1) (a := 48) (b := 57) ⟨by omega, by omega⟩ ⟨by omega, by omega⟩ ⟨by omega, by omega⟩)) ckX12_165 sm_X12_in rfl rfl (nle rfl) (by exact ⟨nle rfl, nle rfl⟩) dX12_token_171 ?_
    rintro _ Xv2 ⟨hxv2, v2, rfl, ev2⟩
    rw [hxv2]
    refine Wx_st (st' := [.int (iI (v2))]) rfl ?_
    refine x_if_eq (tgt := 224) C dX12_token_174 (by decide) ⟨by omega, by omega⟩ (fun h3 => ?_) (fun h3 => ?_)
    · have kq := kOf_2.mp (show kOf (b q) = 2 by unfold tC at tc; rw [if_pos qN] at tc; exact tc)
      have qr : q < r := by
        rcases Nat.lt_or_ge q r with g | g
        · exact g
        · exfalso
          have kr : 48 ≤ b r ∧ b r ≤ 57 := by rw [show r = q by omega]; exact kq
          omega
      have er : r = tE b N q := by
        unfold tE
        rw [if_pos qN, if_pos (.inr tc), tc]
        refine (runTo_eq (N - (q + 1)) (q + 1) r (by omega) (by omega) (fun i a d => hl i (by omega) d) ?_).symm
        by_cases rn : r < N
        · right
          exact decide_eq_false (fun hb2 => by have := kOf_2.mp hb2; omega)
        · left
          omega
      refine x_aload_n (i := 0) C dX12_token_224 rfl rfl ?_
      refine x_iload_n (i := 2) C dX12_token_225 rfl rfl ?_
      refine x_iconst C dX12_token_226 ?_
      refine x_icmp_le (tgt := 234) C dX12_token_227 (by decide) ⟨by omega, by omega⟩ ⟨by omega, by omega⟩ (fun h4 => ?_) (fun h4 => ?_)
      · have tk : tK b N q = 2 := by unfold tK; rw [if_neg (by omega)]; exact tc
        refine x_iconst C dX12_token_234 ?_
        refine x_putI C pkM_X12_190 (nlt rfl) rfl dX12_token_235 ?_
        refine x_gX (fun Yy5 eYy5 => ?_)
        have hHy5 : HG vM Yy5 := by
          rw [eYy5]
          exact hg_wF hH (p := ((-2147483648), 2147483647)) rfl ⟨by omega, by omega⟩
        have hFy5 : FR mmTM X0 Yy5 := by
          rw [eYy5]
          exact FR.upI hF (rfl)
        refine x_goto (tgt := 266) C dX12_token_238 (by decide) ?_
        exact x_vret C hQ dX12_token_266 (⟨rfl, hHy5, hFy5, by rw [← hq]; exact ⟨by rw [eYy5, upI_ne (by decide)]; exact hb, by rw [eYy5, upI_at, tk]; rfl, by rw [eYy5, upI_ne (by decide)]; omega, fun _ => by rw [eYy5, upI_ne (by decide)]; unfold tV; rw [if_pos tk, ← er]; rw [show min (r - q) 2 = r - q by omega] at hw; exact hw, fun k => absurd (k.symm.trans tk) (by decide), by omega, by omega⟩⟩)
      · have tk : tK b N q = 4 := by unfold tK; rw [if_pos ⟨tc, by omega⟩]
        refine x_iconst C dX12_token_230 ?_
        refine x_goto (tgt := 235) C dX12_token_231 (by decide) ?_
        refine x_putI C pkM_X12_190 (nlt rfl) rfl dX12_token_235 ?_
        refine x_gX (fun Yy6 eYy6 => ?_)
        have hHy6 : HG vM Yy6 := by
          rw [eYy6]
          exact hg_wF hH (p := ((-2147483648), 2147483647)) rfl ⟨by omega, by omega⟩
        have hFy6 : FR mmTM X0 Yy6 := by
          rw [eYy6]
          exact FR.upI hF (rfl)
        refine x_goto (tgt := 266) C dX12_token_238 (by decide) ?_
        exact x_vret C hQ dX12_token_266 (⟨rfl, hHy6, hFy6, by rw [← hq]; exact ⟨by rw [eYy6, upI_ne (by decide)]; exact hb, by rw [eYy6, upI_at, tk]; rfl, by rw [eYy6, upI_ne (by decide)]; omega, fun k => absurd (k.symm.trans tk) (by decide), fun k => absurd (k.symm.trans tk) (by decide), by omega, by omega⟩⟩)
    · refine x_aload_n (i := 0) C dX12_token_177 rfl rfl ?_
      refine x_iload_n (i := 2) C dX12_token_178 rfl rfl ?_
      refine x_iconst C dX12_token_179 ?_
      refine x_icmp_ge (tgt := 201) C dX12_token_180 (by decide) ⟨by omega, by omega⟩ ⟨by omega, by omega⟩ (fun h7 => ?_) (fun h7 => ?_)
      · refine x_aload_n (i := 0) C dX12_token_201 rfl rfl ?_
        refine x_getI C fkM_X12_193 (nlt rfl) rfl dX12_token_202 ?_
        refine x_gen (fun v8 ev8 => ?_)
        have qv8 : ((-2147483648) : Int) ≤ v8 ∧ v8 ≤ (2147483647 : Int) := by
          rw [ev8]
          exact hH.rF (k := 0) (i := 13) rfl rfl
        refine x_putI C pkM_X12_193 (nlt rfl) rfl dX12_token_205 ?_
        refine x_gX (fun Yy9 eYy9 => ?_)
        have hHy9 : HG vM Yy9 := by
          rw [eYy9]
          exact hg_wF hH (p := ((-2147483648), 2147483647)) rfl ⟨by omega, by omega⟩
        have hFy9 : FR mmTM X0 Yy9 := by
          rw [eYy9]
          exact FR.upI hF (rfl)
        refine x_aload_n (i := 0) C dX12_token_208 rfl rfl ?_
        refine x_dup C dX12_token_209 rfl ?_
        refine x_getI C fkM_X12_173 (nlt rfl) rfl dX12_token_210 ?_
        refine x_gen (fun v10 ev10 => ?_)
        have qv10 : ((-2147483648) : Int) ≤ v10 ∧ v10 ≤ (2147483647 : Int) := by
          rw [ev10]
          exact hHy9.rF (k := 0) (i := 9) rfl rfl
        have kv10 : v10 = X.1 0 9 := by rw [ev10, eYy9, upI_ne (by decide)]
        refine x_iconst C dX12_token_213 ?_
        refine x_iadd C dX12_token_214 ?_
        refine x_putI C pkM_X12_173 (nlt rfl) rfl dX12_token_215 ?_
        refine x_gX (fun Yy11 eYy11 => ?_)
        have hHy11 : HG vM Yy11 := by
          rw [eYy11]
          exact hg_wF hHy9 (p := ((-2147483648), 2147483647)) rfl ⟨by omega, by omega⟩
        have hFy11 : FR mmTM X0 Yy11 := by
          rw [eYy11]
          exact FR.upI hFy9 (rfl)
        refine x_iinc (lv' := [(2, .int (iI ((r : Int) - q + 1))), (0, .ref 0)]) C dX12_token_218 rfl (nlt rfl) rfl ?_
        refine x_goto (tgt := 163) C dX12_token_221 (by decide) ?_
        refine Wx_pick [2, 0] ?_
        refine Wx_lv (lv' := [(2, .int (iI ((r : Int) - q + 1))), (0, .ref 0)]) rfl ?_
        rw [show iI ((r : Int) - q + 1) = iI (((r + 1 : Nat) : Int) - q) by congr 1; omega]
        refine ih (r + 1) _ (by omega) hHy11 hFy11 (by rw [eYy11, upI_ne (by decide), eYy9, upI_ne (by decide)]; exact hb) (by rw [eYy11, upI_at]; omega) (by rw [eYy11, upI_ne (by decide), eYy9, upI_at]; rw [show r + 1 - q = (r - q) + 1 by omega]; rw [show min ((r - q) + 1) 2 = min (r - q) 2 by omega]; omega) (by omega) (by omega) (fun i a d => ?_)
        by_cases ei : i = r
        · subst ei
          exact decide_eq_true (kOf_2.mpr (by omega))
        · exact hl i a (by omega)
      · refine x_bipush C dX12_token_183 (by decide) ?_
        refine x_aload_n (i := 0) C dX12_token_185 rfl rfl ?_
        refine x_getI C fkM_X12_193 (nlt rfl) rfl dX12_token_186 ?_
        refine x_gen (fun v12 ev12 => ?_)
        have qv12 : ((-2147483648) : Int) ≤ v12 ∧ v12 ≤ (2147483647 : Int) := by
          rw [ev12]
          exact hH.rF (k := 0) (i := 13) rfl rfl
        refine x_imul C dX12_token_189 ?_
        refine x_aload_n (i := 0) C dX12_token_190 rfl rfl ?_
        refine x_callV (As := []) C (by exact (r_see (r := r) (hT0.fr hF rfl) hH FR.rf hr)) ckX12_179 im_X12_see se_X12_see (nlt rfl) rfl rfl rfl rfl (nle rfl) (by exact ⟨nle rfl, nle rfl⟩) dX12_token_191 ?_
        rintro _ Xv13 ⟨hxv13, v13, rfl, ev13⟩
        rw [hxv13]
        have bv13 := seF_bd (r := r) (hT0.fr hF rfl)
        rw [← ev13] at bv13
        refine Wx_st (st' := [.int (iI (v13)), .int (iI (10 * v12)), .ref 0]) rfl ?_
        refine x_iadd C dX12_token_194 ?_
        refine x_bipush C dX12_token_195 (by decide) ?_
        refine x_isub C dX12_token_197 ?_
        refine x_goto (tgt := 205) C dX12_token_198 (by decide) ?_
        refine x_putI C pkM_X12_193 (nlt rfl) rfl dX12_token_205 ?_
        refine x_gX (fun Yy14 eYy14 => ?_)
        have hHy14 : HG vM Yy14 := by
          rw [eYy14]
          exact hg_wF hH (p := ((-2147483648), 2147483647)) rfl ⟨by omega, by omega⟩
        have hFy14 : FR mmTM X0 Yy14 := by
          rw [eYy14]
          exact FR.upI hF (rfl)
        refine x_aload_n (i := 0) C dX12_token_208 rfl rfl ?_
        refine x_dup C dX12_token_209 rfl ?_
        refine x_getI C fkM_X12_173 (nlt rfl) rfl dX12_token_210 ?_
        refine x_gen (fun v15 ev15 => ?_)
        have qv15 : ((-2147483648) : Int) ≤ v15 ∧ v15 ≤ (2147483647 : Int) := by
          rw [ev15]
          exact hHy14.rF (k := 0) (i := 9) rfl rfl
        have kv15 : v15 = X.1 0 9 := by rw [ev15, eYy14, upI_ne (by decide)]
        refine x_iconst C dX12_token_213 ?_
        refine x_iadd C dX12_token_214 ?_
        refine x_putI C pkM_X12_173 (nlt rfl) rfl dX12_token_215 ?_
        refine x_gX (fun Yy16 eYy16 => ?_)
        have hHy16 : HG vM Yy16 := by
          rw [eYy16]
          exact hg_wF hHy14 (p := ((-2147483648), 2147483647)) rfl ⟨by omega, by omega⟩
        have hFy16 : FR mmTM X0 Yy16 := by
          rw [eYy16]
          exact FR.upI hFy14 (rfl)
        refine x_iinc (lv' := [(2, .int (iI ((r : Int) - q + 1))), (0, .ref 0)]) C dX12_token_218 rfl (nlt rfl) rfl ?_
        refine x_goto (tgt := 163) C dX12_token_221 (by decide) ?_
        refine Wx_pick [2, 0] ?_
        refine Wx_lv (lv' := [(2, .int (iI ((r : Int) - q + 1))), (0, .ref 0)]) rfl ?_
        rw [show iI ((r : Int) - q + 1) = iI (((r + 1 : Nat) : Int) - q) by congr 1; omega]
        refine ih (r + 1) _ (by omega) hHy16 hFy16 (by rw [eYy16, upI_ne (by decide), eYy14, upI_ne (by decide)]; exact hb) (by rw [eYy16, upI_at]; omega) (by rw [eYy16, upI_ne (by decide), eYy14, upI_at]; rw [show r + 1 - q = (r - q) + 1 by omega]; rw [show min ((r - q) + 1) 2 = (r - q) + 1 by omega]; show _ = 10 * vP b q (r - q) + b (q + (r - q)) - 48; rw [show q + (r - q) = r by omega]; rw [show min (r - q) 2 = r - q by omega] at hw; omega) (by omega) (by omega) (fun i a d => ?_)
        by_cases ei : i = r
        · subst ei
          exact decide_eq_true (kOf_2.mpr (by omega))
        · exact hl i a (by omega)
set_option maxHeartbeats 4000000 in
set_option maxRecDepth 100000 in
theorem r_tok1 {D : va_G} {ad : Nat → Nat} {cA : Nat → ClassId} {X0 : XT} {b : Nat → Int} {N : Nat} {p : Nat} (hp : p ≤ N) (hT0 : TPM b N X0) {E : ET} (C : CX E (wM D ad cA) cX12_token 3 RX12 none { frames := 1, cells := 0, slots := 0, locals := 22 }) (hQ : EQ E (wM D ad cA) (fun r X1 => r = none ∧ HG vM X1 ∧ FR mmTM X0 X1 ∧ TKM b N (tS b N p) X1)) : ∀ (n : Nat) (q : Nat) (X : XT), ((N + 1 - q : Nat) : Int) < n → HG vM X → FR mmTM X0 X → X.1 0 9 = (q : Int) → p ≤ q → q ≤ N → (∀ i, p ≤ i → i < q → isK b 0 i = true) → Wx E (wM D ad cA) 3 (PX (wM D ad cA) X) 0 [(0, .ref 0)] [] := by
  intro n
  induction n with
  | zero => intro q X hn hH hF hr q0 q1 hl; exfalso; omega
  | succ n ih =>
    intro q X hn hH hF hr q0 q1 hl
    have n6 := hT0.2.1
    have b0 := hT0.2.2.2
    refine x_aload_n (i := 0) C dX12_token_0 rfl rfl ?_
    refine x_callV (As := []) C (by exact (r_see (r := q) (hT0.fr hF rfl) hH FR.rf hr)) ckX12_179 im_X12_see se_X12_see (nlt rfl) rfl rfl rfl rfl (nle rfl) (by exact ⟨nle rfl, nle rfl⟩) dX12_token_1 ?_
    rintro _ Xv1 ⟨hxv1, v1, rfl, ev1⟩
    rw [hxv1]
    have bv1 := seF_bd (r := q) (hT0.fr hF rfl)
    rw [← ev1] at bv1
    refine Wx_st (st' := [.int (iI (v1))]) rfl ?_
    refine x_bipush C dX12_token_4 (by decide) ?_
    refine x_icmp_eq (tgt := 18) C dX12_token_6 (by decide) ⟨by omega, by omega⟩ ⟨by omega, by omega⟩ (fun h2 => ?_) (fun h2 => ?_)
    · refine x_aload_n (i := 0) C dX12_token_18 rfl rfl ?_
      refine x_dup C dX12_token_19 rfl ?_
      refine x_getI C fkM_X12_173 (nlt rfl) rfl dX12_token_20 ?_
      refine x_gen (fun v3 ev3 => ?_)
      have qv3 : ((-2147483648) : Int) ≤ v3 ∧ v3 ≤ (2147483647 : Int) := by
        rw [ev3]
        exact hH.rF (k := 0) (i := 9) rfl rfl
      refine x_iconst C dX12_token_23 ?_
      refine x_iadd C dX12_token_24 ?_
      refine x_putI C pkM_X12_173 (nlt rfl) rfl dX12_token_25 ?_
      refine x_gX (fun Yy4 eYy4 => ?_)
      have hHy4 : HG vM Yy4 := by
        rw [eYy4]
        exact hg_wF hH (p := ((-2147483648), 2147483647)) rfl ⟨by omega, by omega⟩
      have hFy4 : FR mmTM X0 Yy4 := by
        rw [eYy4]
        exact FR.upI hF (rfl)
      have hGy4 : FR [(0, some 9)] X Yy4 := by
        rw [eYy4]
        exact FR.upI FR.rf rfl
      refine x_goto (tgt := 0) C dX12_token_28 (by decide) ?_
      refine ih (q + 1) _ (by omega) hHy4 hFy4 (by rw [eYy4, upI_at]; omega) (by omega) (by omega) (fun i a d => ?_)
      by_cases ei : i = q
      · subst ei
        exact decide_eq_true (kOf_0.mpr (by omega))
      · exact hl i a (by omega)
    · refine x_aload_n (i := 0) C dX12_token_9 rfl rfl ?_
      refine x_callV (As := []) C (by exact (r_see (r := q) (hT0.fr hF rfl) hH FR.rf hr)) ckX12_179 im_X12_see se_X12_see (nlt rfl) rfl rfl rfl rfl (nle rfl) (by exact ⟨nle rfl, nle rfl⟩) dX12_token_10 ?_
      rintro _ Xv5 ⟨hxv5, v5, rfl, ev5⟩
      rw [hxv5]
      have bv5 := seF_bd (r := q) (hT0.fr hF rfl)
      rw [← ev5] at bv5
      refine Wx_st (st' := [.int (iI (v5))]) rfl ?_
      refine x_bipush C dX12_token_13 (by decide) ?_
      refine x_icmp_ne (tgt := 31) C dX12_token_15 (by decide) ⟨by omega, by omega⟩ ⟨by omega, by omega⟩ (fun h6 => ?_) (fun h6 => ?_)
      · have eq1 : q = tS b N p := by
          unfold tS
          refine (runTo_eq (N - p) p q q0 (by omega) hl ?_).symm
          by_cases rn : q < N
          · right
            exact decide_eq_false (fun hb2 => by have := kOf_0.mp hb2; omega)
          · left
            omega
        refine x_aload_n (i := 0) C dX12_token_31 rfl rfl ?_
        refine x_aload_n (i := 0) C dX12_token_32 rfl rfl ?_
        refine x_getI C fkM_X12_173 (nlt rfl) rfl dX12_token_33 ?_
        refine x_gen (fun v7 ev7 => ?_)
        have qv7 : ((-2147483648) : Int) ≤ v7 ∧ v7 ≤ (2147483647 : Int) := by
          rw [ev7]
          exact hH.rF (k := 0) (i := 9) rfl rfl
        refine x_putI C pkM_X12_183 (nlt rfl) rfl dX12_token_36 ?_
        refine x_gX (fun Yy8 eYy8 => ?_)
        have hHy8 : HG vM Yy8 := by
          rw [eYy8]
          exact hg_wF hH (p := ((-2147483648), 2147483647)) rfl ⟨by omega, by omega⟩
        have hFy8 : FR mmTM X0 Yy8 := by
          rw [eYy8]
          exact FR.upI hF (rfl)
        have hGy8 : FR [(0, some 11)] X Yy8 := by
          rw [eYy8]
          exact FR.upI FR.rf rfl
        refine x_aload_n (i := 0) C dX12_token_39 rfl rfl ?_
        refine x_callV (As := []) C (by exact (r_see (r := q) (hT0.fr hFy8 rfl) hHy8 FR.rf (by rw [eYy8, upI_ne (by decide)]; exact hr))) ckX12_179 im_X12_see se_X12_see (nlt rfl) rfl rfl rfl rfl (nle rfl) (by exact ⟨nle rfl, nle rfl⟩) dX12_token_40 ?_
        rintro _ Xv9 ⟨hxv9, v9, rfl, ev9⟩
        rw [hxv9]
        have bv9 := seF_bd (r := q) (hT0.fr hFy8 rfl)
        rw [← ev9] at bv9
        refine Wx_st (st' := [.int (iI (v9))]) rfl ?_
        refine x_istore_n (i := 1) (lv' := [(1, .int (iI (v9))), (0, .ref 0)]) C dX12_token_43 rfl (nlt rfl) rfl ?_
        refine x_aload_n (i := 0) C dX12_token_44 rfl rfl ?_
        refine x_lconst C dX12_token_45 ?_
        refine x_eqL (b := 0) rfl ?_
        refine x_putL C pkM_X12_186 (nlt rfl) rfl dX12_token_46 ?_
        refine x_gX (fun Yy10 eYy10 => ?_)
        have hHy10 : HG vM Yy10 := by
          rw [eYy10]
          exact hg_wLF hHy8 (p := ((-9223372036854775808), 9223372036854775807)) rfl (l64 _)
        have hFy10 : FR mmTM X0 Yy10 := by
          rw [eYy10]
          exact FR.upL hFy8 (rfl)
        replace eYy10 : Yy10 = upL Yy8 0 14 (0) := eYy10
        have hGy10 : FR [(0, some 14)] Yy8 Yy10 := by
          rw [eYy10]
          exact FR.upL FR.rf rfl
        refine x_iconst C dX12_token_49 ?_
        refine x_istore_n (i := 2) (lv' := [(2, .int (iI (0))), (1, .int (iI (v9))), (0, .ref 0)]) C dX12_token_50 rfl (nlt rfl) rfl ?_
        refine x_iload_n (i := 1) C dX12_token_51 rfl rfl ?_
        refine x_if_ge (tgt := 63) C dX12_token_52 (by decide) ⟨by omega, by omega⟩ (fun h11 => ?_) (fun h11 => ?_)
        · refine x_iload_n (i := 1) C dX12_token_63 rfl rfl ?_
          refine x_bipush C dX12_token_64 (by decide) ?_
          refine x_bipush C dX12_token_66 (by decide) ?_
          refine x_callS (As := [.int (iI (v9)), .int (iI (97)), .int (iI (122))]) C (by exact (q_in (v := v9) (a := 97) (b := 122) ⟨by omega, by omega⟩ ⟨by omega, by omega⟩ ⟨by omega, by omega⟩)) ckX12_165 sm_X12_in rfl rfl (nle rfl) (by exact ⟨nle rfl, nle rfl⟩) dX12_token_68 ?_
          rintro _ Xv12 ⟨hxv12, v12, rfl, ev12⟩
          rw [hxv12]
          refine Wx_st (st' := [.int (iI (v12))]) rfl ?_
          refine x_if_eq (tgt := 147) C dX12_token_71 (by decide) ⟨by omega, by omega⟩ (fun h13 => ?_) (fun h13 => ?_)
          · refine x_iload_n (i := 1) C dX12_token_147 rfl rfl ?_
            refine x_bipush C dX12_token_148 (by decide) ?_
            refine x_bipush C dX12_token_150 (by decide) ?_
            refine x_callS (As := [.int (iI (v9)), .int (iI (48)), .int (iI (57))]) C (by exact (q_in (v := v9) (a := 48) (b := 57) ⟨by omega, by omega⟩ ⟨by omega, by omega⟩ ⟨by omega, by omega⟩)) ckX12_165 sm_X12_in rfl rfl (nle rfl) (by exact ⟨nle rfl, nle rfl⟩) dX12_token_152 ?_
            rintro _ Xv14 ⟨hxv14, v14, rfl, ev14⟩
            rw [hxv14]
            refine Wx_st (st' := [.int (iI (v14))]) rfl ?_
            refine x_if_eq (tgt := 241) C dX12_token_155 (by decide) ⟨by omega, by omega⟩ (fun h15 => ?_) (fun h15 => ?_)
            · refine x_aload_n (i := 0) C dX12_token_241 rfl rfl ?_
              refine x_dup C dX12_token_242 rfl ?_
              refine x_getI C fkM_X12_173 (nlt rfl) rfl dX12_token_243 ?_
              refine x_gen (fun v16 ev16 => ?_)
              have qv16 : ((-2147483648) : Int) ≤ v16 ∧ v16 ≤ (2147483647 : Int) := by
                rw [ev16]
                exact hHy10.rF (k := 0) (i := 9) rfl rfl
              have kv16 : v16 = X.1 0 9 := by rw [ev16, eYy10, upL_1, eYy8, upI_ne (by decide)]
              refine x_iconst C dX12_token_246 ?_
              refine x_iadd C dX12_token_247 ?_
              refine x_putI C pkM_X12_173 (nlt rfl) rfl dX12_token_248 ?_
              refine x_gX (fun Yy17 eYy17 => ?_)
              have hHy17 : HG vM Yy17 := by
                rw [eYy17]
                exact hg_wF hHy10 (p := ((-2147483648), 2147483647)) rfl ⟨by omega, by omega⟩
              have hFy17 : FR mmTM X0 Yy17 := by
                rw [eYy17]
                exact FR.upI hFy10 (rfl)
              have hGy17 : FR [(0, some 9)] Yy10 Yy17 := by
                rw [eYy17]
                exact FR.upI FR.rf rfl
              refine x_aload_n (i := 0) C dX12_token_251 rfl rfl ?_
              refine x_iload_n (i := 1) C dX12_token_252 rfl rfl ?_
              refine x_bipush C dX12_token_253 (by decide) ?_
              refine x_icmp_ne (tgt := 262) C dX12_token_255 (by decide) ⟨by omega, by omega⟩ ⟨by omega, by omega⟩ (fun h18 => ?_) (fun h18 => ?_)
              · refine x_iconst C dX12_token_262 ?_
                refine x_putI C pkM_X12_190 (nlt rfl) rfl dX12_token_263 ?_
                refine x_gX (fun Yy19 eYy19 => ?_)
                have hHy19 : HG vM Yy19 := by
                  rw [eYy19]
                  exact hg_wF hHy17 (p := ((-2147483648), 2147483647)) rfl ⟨by omega, by omega⟩
                have hFy19 : FR mmTM X0 Yy19 := by
                  rw [eYy19]
                  exact FR.upI hFy17 (rfl)
                have hGy19 : FR [(0, some 12)] Yy17 Yy19 := by
                  rw [eYy19]
                  exact FR.upI FR.rf rfl
                exact x_vret C hQ dX12_token_266 (by (have qN : q < N := (by omega)); (have kk : kOf (b q) = 4 := (by have c1 := kOf_bd (b q); have c0 := fun (g : kOf (b q) = 0) => kOf_0.mp g; have c2 := fun (g : kOf (b q) = 1) => kOf_1.mp g; have c3 := fun (g : kOf (b q) = 2) => kOf_2.mp g; have c4 := fun (g : kOf (b q) = 3) => kOf_3.mp g; rcases (show kOf (b q) = 0 ∨ kOf (b q) = 1 ∨ kOf (b q) = 2 ∨ kOf (b q) = 3 ∨ kOf (b q) = 4 by omega) with g | g | g | g | g; (have := c0 g; omega); (have := c2 g; omega); (have := c3 g; omega); (have := c4 g; omega); (exact g))); (have tc : tC b N q = 4 := (by unfold tC; rw [if_pos qN]; exact kk)); (have tk : tK b N q = 4 := (by unfold tK; rw [if_neg (by omega)]; exact tc)); (have te : tE b N q = q + 1 := (by unfold tE; rw [if_pos qN, if_neg (by omega)])); exact ⟨rfl, hHy19, hFy19, by rw [← eq1]; exact ⟨by rw [eYy19, upI_ne (by decide), eYy17, upI_ne (by decide), eYy10, upL_1, eYy8, upI_at]; omega, by rw [eYy19, upI_at, tk]; rfl, by rw [eYy19, upI_ne (by decide), eYy17, upI_at]; omega, fun k => absurd (k.symm.trans tk) (by decide), fun k => absurd (k.symm.trans tk) (by decide), by omega, by omega⟩⟩)
              · refine x_iconst C dX12_token_258 ?_
                refine x_goto (tgt := 263) C dX12_token_259 (by decide) ?_
                refine x_putI C pkM_X12_190 (nlt rfl) rfl dX12_token_263 ?_
                refine x_gX (fun Yy20 eYy20 => ?_)
                have hHy20 : HG vM Yy20 := by
                  rw [eYy20]
                  exact hg_wF hHy17 (p := ((-2147483648), 2147483647)) rfl ⟨by omega, by omega⟩
                have hFy20 : FR mmTM X0 Yy20 := by
                  rw [eYy20]
                  exact FR.upI hFy17 (rfl)
                have hGy20 : FR [(0, some 12)] Yy17 Yy20 := by
                  rw [eYy20]
                  exact FR.upI FR.rf rfl
                exact x_vret C hQ dX12_token_266 (by (have qN : q < N := (by omega)); (have kk : kOf (b q) = 3 := kOf_3.mpr (by omega)); (have tc : tC b N q = 3 := (by unfold tC; rw [if_pos qN]; exact kk)); (have tk : tK b N q = 3 := (by unfold tK; rw [if_neg (by omega)]; exact tc)); (have te : tE b N q = q + 1 := (by unfold tE; rw [if_pos qN, if_neg (by omega)])); exact ⟨rfl, hHy20, hFy20, by rw [← eq1]; exact ⟨by rw [eYy20, upI_ne (by decide), eYy17, upI_ne (by decide), eYy10, upL_1, eYy8, upI_at]; omega, by rw [eYy20, upI_at, tk]; rfl, by rw [eYy20, upI_ne (by decide), eYy17, upI_at]; omega, fun k => absurd (k.symm.trans tk) (by decide), fun k => absurd (k.symm.trans tk) (by decide), by omega, by omega⟩⟩)
            · refine x_aload_n (i := 0) C dX12_token_158 rfl rfl ?_
              refine x_iconst C dX12_token_159 ?_
              refine x_putI C pkM_X12_193 (nlt rfl) rfl dX12_token_160 ?_
              refine x_gX (fun Yy21 eYy21 => ?_)
              have hHy21 : HG vM Yy21 := by
                rw [eYy21]
                exact hg_wF hHy10 (p := ((-2147483648), 2147483647)) rfl ⟨by omega, by omega⟩
              have hFy21 : FR mmTM X0 Yy21 := by
                rw [eYy21]
                exact FR.upI hFy10 (rfl)
              have hGy21 : FR [(0, some 13)] Yy10 Yy21 := by
                rw [eYy21]
                exact FR.upI FR.rf rfl
              have qN : q < N := by omega
              have kk : kOf (b q) = 2 := kOf_2.mpr (by omega)
              have tc : tC b N q = 2 := by unfold tC; rw [if_pos qN]; exact kk
              rw [show iI 0 = iI (((q : Nat) : Int) - q) by rw [Int.sub_self]]
              refine Wx_pick [2, 0] ?_
              refine Wx_lv (lv' := [(2, .int (iI (((q : Nat) : Int) - q))), (0, .ref 0)]) rfl ?_
              exact r_tok3 hp hT0 eq1 qN tc C hQ (N + 2) q _ (by omega) hHy21 hFy21 (by rw [eYy21, upI_ne (by decide), eYy10, upL_1, eYy8, upI_at]; omega) (by rw [eYy21, upI_ne (by decide), eYy10, upL_1, eYy8, upI_ne (by decide)]; omega) (by rw [eYy21, upI_at, Nat.sub_self]; rfl) (.inr rfl) (by omega) (fun i a d => absurd d (by omega))
          · have qN : q < N := by omega
            have kk : kOf (b q) = 1 := kOf_1.mpr (by omega)
            have tc : tC b N q = 1 := by unfold tC; rw [if_pos qN]; exact kk
            rw [show iI 0 = iI (((q : Nat) : Int) - q) by rw [Int.sub_self]]
            refine Wx_pick [2, 0] ?_
            refine Wx_lv (lv' := [(2, .int (iI (((q : Nat) : Int) - q))), (0, .ref 0)]) rfl ?_
            exact r_tok2 hp hT0 eq1 qN tc C hQ (N + 2) q _ (by omega) hHy10 hFy10 (by rw [eYy10, upL_1, eYy8, upI_at]; omega) (by rw [eYy10, upL_1, eYy8, upI_ne (by decide)]; omega) (by rw [eYy10, upL_at, Nat.sub_self]; rfl) (.inr rfl) (by omega) (fun i a d => absurd d (by omega))
        · refine x_aload_n (i := 0) C dX12_token_55 rfl rfl ?_
          refine x_iconst C dX12_token_56 ?_
          refine x_putI C pkM_X12_190 (nlt rfl) rfl dX12_token_57 ?_
          refine x_gX (fun Yy22 eYy22 => ?_)
          have hHy22 : HG vM Yy22 := by
            rw [eYy22]
            exact hg_wF hHy10 (p := ((-2147483648), 2147483647)) rfl ⟨by omega, by omega⟩
          have hFy22 : FR mmTM X0 Yy22 := by
            rw [eYy22]
            exact FR.upI hFy10 (rfl)
          have hGy22 : FR [(0, some 12)] Yy10 Yy22 := by
            rw [eYy22]
            exact FR.upI FR.rf rfl
          refine x_goto (tgt := 266) C dX12_token_60 (by decide) ?_
          exact x_vret C hQ dX12_token_266 (by (have tc : tC b N q = 5 := (by unfold tC; rw [if_neg (by omega)])); (have tk : tK b N q = 5 := (by unfold tK; rw [if_neg (by omega)]; exact tc)); (have te : tE b N q = q := (by unfold tE; rw [if_neg (by omega)])); exact ⟨rfl, hHy22, hFy22, by rw [← eq1]; exact ⟨by rw [eYy22, upI_ne (by decide), eYy10, upL_1, eYy8, upI_at]; omega, by rw [eYy22, upI_at, tk]; rfl, by rw [eYy22, upI_ne (by decide), eYy10, upL_1, eYy8, upI_ne (by decide)]; omega, fun k => absurd (k.symm.trans tk) (by decide), fun k => absurd (k.symm.trans tk) (by decide), by omega, by omega⟩⟩)
      · refine x_aload_n (i := 0) C dX12_token_18 rfl rfl ?_
        refine x_dup C dX12_token_19 rfl ?_
        refine x_getI C fkM_X12_173 (nlt rfl) rfl dX12_token_20 ?_
        refine x_gen (fun v23 ev23 => ?_)
        have qv23 : ((-2147483648) : Int) ≤ v23 ∧ v23 ≤ (2147483647 : Int) := by
          rw [ev23]
          exact hH.rF (k := 0) (i := 9) rfl rfl
        refine x_iconst C dX12_token_23 ?_
        refine x_iadd C dX12_token_24 ?_
        refine x_putI C pkM_X12_173 (nlt rfl) rfl dX12_token_25 ?_
        refine x_gX (fun Yy24 eYy24 => ?_)
        have hHy24 : HG vM Yy24 := by
          rw [eYy24]
          exact hg_wF hH (p := ((-2147483648), 2147483647)) rfl ⟨by omega, by omega⟩
        have hFy24 : FR mmTM X0 Yy24 := by
          rw [eYy24]
          exact FR.upI hF (rfl)
        have hGy24 : FR [(0, some 9)] X Yy24 := by
          rw [eYy24]
          exact FR.upI FR.rf rfl
        refine x_goto (tgt := 0) C dX12_token_28 (by decide) ?_
        refine ih (q + 1) _ (by omega) hHy24 hFy24 (by rw [eYy24, upI_at]; omega) (by omega) (by omega) (fun i a d => ?_)
        by_cases ei : i = q
        · subst ei
          exact decide_eq_true (kOf_0.mpr (by omega))
        · exact hl i a (by omega)
theorem r_token {D : va_G} {ad : Nat → Nat} {cA : Nat → ClassId} {X0 : XT} {b : Nat → Int} {N : Nat} {p : Nat} (hp : p ≤ N) (hT0 : TPM b N X0) (hF : FR mmTM X0 X0) (hH : HG vM X0) (hr : X0.1 0 9 = (p : Int)) : MetX (wM D ad cA) yX12_token cX12_token 3 none 1 22 [.ref 0] X0 (fun r X1 => r = none ∧ HG vM X1 ∧ FR mmTM X0 X1 ∧ TKM b N (tS b N p) X1) := by
  refine MetX.mk (own := RX12) (by decide +kernel) rfl (nle rfl) (fun E C hQ => ?_)
  refine Wx_lv (lv' := [(0, .ref 0)]) rfl ?_
  exact r_tok1 hp hT0 C hQ (N + 2) p X0 (by omega) hH hF hr (Nat.le_refl p) hp (fun i a d => absurd d (by omega))
theorem r_tok {D : va_G} {ad : Nat → Nat} {cA : Nat → ClassId} {X0 : XT} {b : Nat → Int} {N : Nat} (hT0 : TPM b N X0) (hH : HG vM X0) {s : Nat} (hK : TKM b N s X0) (hF : FR mmTM X0 X0) : MetX (wM D ad cA) yX12_token cX12_token 3 none 1 22 [.ref 0] X0 (fun r X1 => r = none ∧ HG vM X1 ∧ FR mmTM X0 X1 ∧ TKM b N (nx b N s) X1) := r_token (tE_bd b N s hK.2.2.2.2.2.1).2.1 hT0 hF hH hK.2.2.1
set_option maxHeartbeats 4000000 in
set_option maxRecDepth 100000 in
theorem r_stops {D : va_G} {ad : Nat → Nat} {cA : Nat → ClassId} {X0 : XT} {b : Nat → Int} {N : Nat} {s : Nat} (hH : HG vM X0) (hF : FR mmWR X0 X0) (hK : TKM b N s X0) : MetX (wM D ad cA) yX12_stops cX12_stops 1 (some .boolean) 0 0 [.ref 0] X0 (fun r X1 => ∃ u : Int, r = some (.int (iI u)) ∧ u = 0 ∧ HG vM X1 ∧ FR mmWR X0 X1 ∧ X1.1 0 15 = (s : Int) ∧ TKM b N s X1) := by
  refine MetX.mk (own := RX12) (by decide +kernel) rfl (nle rfl) (fun E C hQ => ?_)
  refine Wx_lv (lv' := [(0, .ref 0)]) rfl ?_
  refine x_aload_n (i := 0) C dX12_stops_0 rfl rfl ?_
  refine x_aload_n (i := 0) C dX12_stops_1 rfl rfl ?_
  refine x_getI C fkM_X12_183 (nlt rfl) rfl dX12_stops_2 ?_
  refine x_gen (fun v1 ev1 => ?_)
  have qv1 : ((-2147483648) : Int) ≤ v1 ∧ v1 ≤ (2147483647 : Int) := by
    rw [ev1]
    exact hH.rF (k := 0) (i := 11) rfl rfl
  refine x_putI C pkM_X12_196 (nlt rfl) rfl dX12_stops_5 ?_
  refine x_gX (fun Yy2 eYy2 => ?_)
  have hHy2 : HG vM Yy2 := by
    rw [eYy2]
    exact hg_wF hH (p := ((-2147483648), 2147483647)) rfl ⟨by omega, by omega⟩
  have hFy2 : FR mmWR X0 Yy2 := by
    rw [eYy2]
    exact FR.upI hF (rfl)
  have hGy2 : FR [(0, some 15)] X0 Yy2 := by
    rw [eYy2]
    exact FR.upI FR.rf rfl
  have hKy2 := hK.fr hGy2 rfl
  refine x_iconst C dX12_stops_8 ?_
  exact x_zret C hQ (by omega) dX12_stops_9 (⟨_, rfl, rfl, hHy2, hFy2, by rw [eYy2, upI_at]; have := hK.1; omega, hKy2⟩)
set_option maxHeartbeats 4000000 in
set_option maxRecDepth 100000 in
theorem r_later {D : va_G} {ad : Nat → Nat} {cA : Nat → ClassId} {X0 : XT} {F : Int × Int} {f p : Int} (f1 : 1 ≤ f) (f4 : f ≤ 4) (pp : inR p) (ho : F.1 ≠ 0 → F.2 < p) (hH : HG vM X0) (hF : FR mmLT X0 X0) (hL : FLM F X0) : MetX (wM D ad cA) yX12_later cX12_later 3 none 0 0 [.ref 0, .int (iI (f)), .int (iI (p))] X0 (fun r X1 => r = none ∧ HG vM X1 ∧ FR mmLT X0 X1 ∧ FLM (ntF F f p) X1) := by
  unfold inR at pp
  have l0 := hL.1
  have l1 : F.1 ≠ 0 → X0.1 0 17 < p := fun q => by rw [hL.2 q]; exact ho q
  refine MetX.mk (own := RX12) (by decide +kernel) rfl (nle rfl) (fun E C hQ => ?_)
  refine Wx_lv (lv' := [(0, .ref 0), (1, .int (iI (f))), (2, .int (iI (p)))]) rfl ?_
  refine x_aload_n (i := 0) C dX12_later_0 rfl rfl ?_
  refine x_getI C fkM_X12_199 (nlt rfl) rfl dX12_later_1 ?_
  refine x_gen (fun v1 ev1 => ?_)
  have qv1 : ((-2147483648) : Int) ≤ v1 ∧ v1 ≤ (2147483647 : Int) := by
    rw [ev1]
    exact hH.rF (k := 0) (i := 16) rfl rfl
  refine x_if_eq (tgt := 31) C dX12_later_4 (by decide) ⟨by omega, by omega⟩ (fun h2 => ?_) (fun h2 => ?_)
  · refine x_aload_n (i := 0) C dX12_later_31 rfl rfl ?_
    refine x_iload_n (i := 1) C dX12_later_32 rfl rfl ?_
    refine x_putI C pkM_X12_199 (nlt rfl) rfl dX12_later_33 ?_
    refine x_gX (fun Yy3 eYy3 => ?_)
    have hHy3 : HG vM Yy3 := by
      rw [eYy3]
      exact hg_wF hH (p := ((-2147483648), 2147483647)) rfl ⟨by omega, by omega⟩
    have hFy3 : FR mmLT X0 Yy3 := by
      rw [eYy3]
      exact FR.upI hF (rfl)
    have hGy3 : FR [(0, some 16)] X0 Yy3 := by
      rw [eYy3]
      exact FR.upI FR.rf rfl
    refine x_aload_n (i := 0) C dX12_later_36 rfl rfl ?_
    refine x_iload_n (i := 2) C dX12_later_37 rfl rfl ?_
    refine x_putI C pkM_X12_202 (nlt rfl) rfl dX12_later_38 ?_
    refine x_gX (fun Yy4 eYy4 => ?_)
    have hHy4 : HG vM Yy4 := by
      rw [eYy4]
      exact hg_wF hHy3 (p := ((-2147483648), 2147483647)) rfl ⟨by omega, by omega⟩
    have hFy4 : FR mmLT X0 Yy4 := by
      rw [eYy4]
      exact FR.upI hFy3 (rfl)
    have hGy4 : FR [(0, some 17)] Yy3 Yy4 := by
      rw [eYy4]
      exact FR.upI FR.rf rfl
    exact x_vret C hQ dX12_later_41 (⟨rfl, hHy4, hFy4, by unfold ntF; rw [if_pos (by have l0 := hL.1; have l1 := hL.2; by_cases q : F.1 = 0; (exact q); (have l2 := l1 q; have := ho q; omega))]; exact ⟨by rw [eYy4, upI_ne (by decide), eYy3, upI_at], fun _ => by rw [eYy4, upI_at]⟩⟩)
  · refine x_iload_n (i := 2) C dX12_later_7 rfl rfl ?_
    refine x_aload_n (i := 0) C dX12_later_8 rfl rfl ?_
    refine x_getI C fkM_X12_202 (nlt rfl) rfl dX12_later_9 ?_
    refine x_gen (fun v5 ev5 => ?_)
    have qv5 : ((-2147483648) : Int) ≤ v5 ∧ v5 ≤ (2147483647 : Int) := by
      rw [ev5]
      exact hH.rF (k := 0) (i := 17) rfl rfl
    refine x_icmp_lt (tgt := 31) C dX12_later_12 (by decide) ⟨by omega, by omega⟩ ⟨by omega, by omega⟩ (fun h6 => ?_) (fun h6 => ?_)
    · refine x_aload_n (i := 0) C dX12_later_31 rfl rfl ?_
      refine x_iload_n (i := 1) C dX12_later_32 rfl rfl ?_
      refine x_putI C pkM_X12_199 (nlt rfl) rfl dX12_later_33 ?_
      refine x_gX (fun Yy7 eYy7 => ?_)
      have hHy7 : HG vM Yy7 := by
        rw [eYy7]
        exact hg_wF hH (p := ((-2147483648), 2147483647)) rfl ⟨by omega, by omega⟩
      have hFy7 : FR mmLT X0 Yy7 := by
        rw [eYy7]
        exact FR.upI hF (rfl)
      have hGy7 : FR [(0, some 16)] X0 Yy7 := by
        rw [eYy7]
        exact FR.upI FR.rf rfl
      refine x_aload_n (i := 0) C dX12_later_36 rfl rfl ?_
      refine x_iload_n (i := 2) C dX12_later_37 rfl rfl ?_
      refine x_putI C pkM_X12_202 (nlt rfl) rfl dX12_later_38 ?_
      refine x_gX (fun Yy8 eYy8 => ?_)
      have hHy8 : HG vM Yy8 := by
        rw [eYy8]
        exact hg_wF hHy7 (p := ((-2147483648), 2147483647)) rfl ⟨by omega, by omega⟩
      have hFy8 : FR mmLT X0 Yy8 := by
        rw [eYy8]
        exact FR.upI hFy7 (rfl)
      have hGy8 : FR [(0, some 17)] Yy7 Yy8 := by
        rw [eYy8]
        exact FR.upI FR.rf rfl
      exact x_vret C hQ dX12_later_41 (⟨rfl, hHy8, hFy8, by unfold ntF; rw [if_pos (by have l0 := hL.1; have l1 := hL.2; by_cases q : F.1 = 0; (exact q); (have l2 := l1 q; have := ho q; omega))]; exact ⟨by rw [eYy8, upI_ne (by decide), eYy7, upI_at], fun _ => by rw [eYy8, upI_at]⟩⟩)
    · refine x_iload_n (i := 2) C dX12_later_15 rfl rfl ?_
      refine x_aload_n (i := 0) C dX12_later_16 rfl rfl ?_
      refine x_getI C fkM_X12_202 (nlt rfl) rfl dX12_later_17 ?_
      refine x_gen (fun v9 ev9 => ?_)
      have qv9 : ((-2147483648) : Int) ≤ v9 ∧ v9 ≤ (2147483647 : Int) := by
        rw [ev9]
        exact hH.rF (k := 0) (i := 17) rfl rfl
      refine x_icmp_ne (tgt := 41) C dX12_later_20 (by decide) ⟨by omega, by omega⟩ ⟨by omega, by omega⟩ (fun h10 => ?_) (fun h10 => ?_)
      · exact x_vret C hQ dX12_later_41 (⟨rfl, hH, hF, by unfold ntF; rw [if_neg (by omega)]; exact hL⟩)
      · refine x_iload_n (i := 1) C dX12_later_23 rfl rfl ?_
        refine x_aload_n (i := 0) C dX12_later_24 rfl rfl ?_
        refine x_getI C fkM_X12_199 (nlt rfl) rfl dX12_later_25 ?_
        refine x_gen (fun v11 ev11 => ?_)
        have qv11 : ((-2147483648) : Int) ≤ v11 ∧ v11 ≤ (2147483647 : Int) := by
          rw [ev11]
          exact hH.rF (k := 0) (i := 16) rfl rfl
        refine x_icmp_ge (tgt := 41) C dX12_later_28 (by decide) ⟨by omega, by omega⟩ ⟨by omega, by omega⟩ (fun h12 => ?_) (fun h12 => ?_)
        · exact x_vret C hQ dX12_later_41 (⟨rfl, hH, hF, by unfold ntF; rw [if_neg (by omega)]; exact hL⟩)
        · refine x_aload_n (i := 0) C dX12_later_31 rfl rfl ?_
          refine x_iload_n (i := 1) C dX12_later_32 rfl rfl ?_
          refine x_putI C pkM_X12_199 (nlt rfl) rfl dX12_later_33 ?_
          refine x_gX (fun Yy13 eYy13 => ?_)
          have hHy13 : HG vM Yy13 := by
            rw [eYy13]
            exact hg_wF hH (p := ((-2147483648), 2147483647)) rfl ⟨by omega, by omega⟩
          have hFy13 : FR mmLT X0 Yy13 := by
            rw [eYy13]
            exact FR.upI hF (rfl)
          have hGy13 : FR [(0, some 16)] X0 Yy13 := by
            rw [eYy13]
            exact FR.upI FR.rf rfl
          refine x_aload_n (i := 0) C dX12_later_36 rfl rfl ?_
          refine x_iload_n (i := 2) C dX12_later_37 rfl rfl ?_
          refine x_putI C pkM_X12_202 (nlt rfl) rfl dX12_later_38 ?_
          refine x_gX (fun Yy14 eYy14 => ?_)
          have hHy14 : HG vM Yy14 := by
            rw [eYy14]
            exact hg_wF hHy13 (p := ((-2147483648), 2147483647)) rfl ⟨by omega, by omega⟩
          have hFy14 : FR mmLT X0 Yy14 := by
            rw [eYy14]
            exact FR.upI hFy13 (rfl)
          have hGy14 : FR [(0, some 17)] Yy13 Yy14 := by
            rw [eYy14]
            exact FR.upI FR.rf rfl
          exact x_vret C hQ dX12_later_41 (⟨rfl, hHy14, hFy14, by unfold ntF; rw [if_pos (by have l0 := hL.1; have l1 := hL.2; by_cases q : F.1 = 0; (exact q); (have l2 := l1 q; have := ho q; omega))]; exact ⟨by rw [eYy14, upI_ne (by decide), eYy13, upI_at], fun _ => by rw [eYy14, upI_at]⟩⟩)
