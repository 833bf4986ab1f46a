/-! ===== the reference reads: FIELDS of walls and pits ===== -/
theorem dX12_boardLine_0 : decode cX12_boardLine 0 = .ok (.lload_n 1, 1) := by decide +kernel
theorem dX12_boardLine_1 : decode cX12_boardLine 1 = .ok (.ldc2_w 230, 3) := by decide +kernel
theorem dX12_boardLine_4 : decode cX12_boardLine 4 = .ok (.lcmp, 1) := by decide +kernel
theorem dX12_boardLine_5 : decode cX12_boardLine 5 = .ok (.ifCond .eq 32, 3) := by decide +kernel
theorem dX12_boardLine_8 : decode cX12_boardLine 8 = .ok (.lload_n 1, 1) := by decide +kernel
theorem dX12_boardLine_9 : decode cX12_boardLine 9 = .ok (.ldc2_w 232, 3) := by decide +kernel
theorem dX12_boardLine_12 : decode cX12_boardLine 12 = .ok (.lcmp, 1) := by decide +kernel
theorem dX12_boardLine_13 : decode cX12_boardLine 13 = .ok (.ifCond .eq 24, 3) := by decide +kernel
theorem dX12_boardLine_16 : decode cX12_boardLine 16 = .ok (.lload_n 1, 1) := by decide +kernel
theorem dX12_boardLine_17 : decode cX12_boardLine 17 = .ok (.ldc2_w 234, 3) := by decide +kernel
theorem dX12_boardLine_20 : decode cX12_boardLine 20 = .ok (.lcmp, 1) := by decide +kernel
theorem dX12_boardLine_21 : decode cX12_boardLine 21 = .ok (.ifCond .eq 16, 3) := by decide +kernel
theorem dX12_boardLine_24 : decode cX12_boardLine 24 = .ok (.lload_n 1, 1) := by decide +kernel
theorem dX12_boardLine_25 : decode cX12_boardLine 25 = .ok (.ldc2_w 236, 3) := by decide +kernel
theorem dX12_boardLine_28 : decode cX12_boardLine 28 = .ok (.lcmp, 1) := by decide +kernel
theorem dX12_boardLine_29 : decode cX12_boardLine 29 = .ok (.ifCond .eq 8, 3) := by decide +kernel
theorem dX12_boardLine_32 : decode cX12_boardLine 32 = .ok (.aload_n 0, 1) := by decide +kernel
theorem dX12_boardLine_33 : decode cX12_boardLine 33 = .ok (.invokevirtual 205, 3) := by decide +kernel
theorem dX12_boardLine_36 : decode cX12_boardLine 36 = .ok (.ireturn, 1) := by decide +kernel
theorem dX12_boardLine_37 : decode cX12_boardLine 37 = .ok (.lload_n 1, 1) := by decide +kernel
theorem dX12_boardLine_38 : decode cX12_boardLine 38 = .ok (.ldc2_w 236, 3) := by decide +kernel
theorem dX12_boardLine_41 : decode cX12_boardLine 41 = .ok (.lcmp, 1) := by decide +kernel
theorem dX12_boardLine_42 : decode cX12_boardLine 42 = .ok (.ifCond .ne 20, 3) := by decide +kernel
theorem dX12_boardLine_45 : decode cX12_boardLine 45 = .ok (.aload_n 0, 1) := by decide +kernel
theorem dX12_boardLine_46 : decode cX12_boardLine 46 = .ok (.getfield 35, 3) := by decide +kernel
theorem dX12_boardLine_49 : decode cX12_boardLine 49 = .ok (.iconst 2, 1) := by decide +kernel
theorem dX12_boardLine_50 : decode cX12_boardLine 50 = .ok (.iaload, 1) := by decide +kernel
theorem dX12_boardLine_51 : decode cX12_boardLine 51 = .ok (.bipush 6, 2) := by decide +kernel
theorem dX12_boardLine_53 : decode cX12_boardLine 53 = .ok (.if_icmp .ne 9, 3) := by decide +kernel
theorem dX12_boardLine_56 : decode cX12_boardLine 56 = .ok (.aload_n 0, 1) := by decide +kernel
theorem dX12_boardLine_57 : decode cX12_boardLine 57 = .ok (.iconst 3, 1) := by decide +kernel
theorem dX12_boardLine_58 : decode cX12_boardLine 58 = .ok (.iload_n 3, 1) := by decide +kernel
theorem dX12_boardLine_59 : decode cX12_boardLine 59 = .ok (.invokevirtual 212, 3) := by decide +kernel
theorem dX12_boardLine_62 : decode cX12_boardLine 62 = .ok (.aload_n 0, 1) := by decide +kernel
theorem dX12_boardLine_63 : decode cX12_boardLine 63 = .ok (.invokevirtual 216, 3) := by decide +kernel
theorem dX12_boardLine_66 : decode cX12_boardLine 66 = .ok (.lload_n 1, 1) := by decide +kernel
theorem dX12_boardLine_67 : decode cX12_boardLine 67 = .ok (.ldc2_w 230, 3) := by decide +kernel
theorem dX12_boardLine_70 : decode cX12_boardLine 70 = .ok (.lcmp, 1) := by decide +kernel
theorem dX12_boardLine_71 : decode cX12_boardLine 71 = .ok (.ifCond .ne 43, 3) := by decide +kernel
theorem dX12_boardLine_74 : decode cX12_boardLine 74 = .ok (.iconst 0, 1) := by decide +kernel
theorem dX12_boardLine_75 : decode cX12_boardLine 75 = .ok (.istore 4, 2) := by decide +kernel
theorem dX12_boardLine_77 : decode cX12_boardLine 77 = .ok (.iload 4, 2) := by decide +kernel
theorem dX12_boardLine_79 : decode cX12_boardLine 79 = .ok (.iconst 2, 1) := by decide +kernel
theorem dX12_boardLine_80 : decode cX12_boardLine 80 = .ok (.if_icmp .ge 32, 3) := by decide +kernel
theorem dX12_boardLine_83 : decode cX12_boardLine 83 = .ok (.aload_n 0, 1) := by decide +kernel
theorem dX12_boardLine_84 : decode cX12_boardLine 84 = .ok (.iconst 2, 1) := by decide +kernel
theorem dX12_boardLine_85 : decode cX12_boardLine 85 = .ok (.bipush 6, 2) := by decide +kernel
theorem dX12_boardLine_87 : decode cX12_boardLine 87 = .ok (.invokevirtual 219, 3) := by decide +kernel
theorem dX12_boardLine_90 : decode cX12_boardLine 90 = .ok (.ifCond .ne 5, 3) := by decide +kernel
theorem dX12_boardLine_93 : decode cX12_boardLine 93 = .ok (.iconst 0, 1) := by decide +kernel
theorem dX12_boardLine_94 : decode cX12_boardLine 94 = .ok (.ireturn, 1) := by decide +kernel
theorem dX12_boardLine_95 : decode cX12_boardLine 95 = .ok (.aload_n 0, 1) := by decide +kernel
theorem dX12_boardLine_96 : decode cX12_boardLine 96 = .ok (.getfield 35, 3) := by decide +kernel
theorem dX12_boardLine_99 : decode cX12_boardLine 99 = .ok (.iload 4, 2) := by decide +kernel
theorem dX12_boardLine_101 : decode cX12_boardLine 101 = .ok (.aload_n 0, 1) := by decide +kernel
theorem dX12_boardLine_102 : decode cX12_boardLine 102 = .ok (.getfield 209, 3) := by decide +kernel
theorem dX12_boardLine_105 : decode cX12_boardLine 105 = .ok (.iastore, 1) := by decide +kernel
theorem dX12_boardLine_106 : decode cX12_boardLine 106 = .ok (.iinc 4 1, 3) := by decide +kernel
theorem dX12_boardLine_109 : decode cX12_boardLine 109 = .ok (.goto (-32), 3) := by decide +kernel
theorem dX12_boardLine_112 : decode cX12_boardLine 112 = .ok (.iconst 1, 1) := by decide +kernel
theorem dX12_boardLine_113 : decode cX12_boardLine 113 = .ok (.ireturn, 1) := by decide +kernel
theorem dX12_boardLine_114 : decode cX12_boardLine 114 = .ok (.lload_n 1, 1) := by decide +kernel
theorem dX12_boardLine_115 : decode cX12_boardLine 115 = .ok (.ldc2_w 236, 3) := by decide +kernel
theorem dX12_boardLine_118 : decode cX12_boardLine 118 = .ok (.lcmp, 1) := by decide +kernel
theorem dX12_boardLine_119 : decode cX12_boardLine 119 = .ok (.ifCond .ne 90, 3) := by decide +kernel
theorem dX12_boardLine_122 : decode cX12_boardLine 122 = .ok (.aload_n 0, 1) := by decide +kernel
theorem dX12_boardLine_123 : decode cX12_boardLine 123 = .ok (.iconst 0, 1) := by decide +kernel
theorem dX12_boardLine_124 : decode cX12_boardLine 124 = .ok (.iconst 1, 1) := by decide +kernel
theorem dX12_boardLine_125 : decode cX12_boardLine 125 = .ok (.invokevirtual 219, 3) := by decide +kernel
theorem dX12_boardLine_128 : decode cX12_boardLine 128 = .ok (.ifCond .ne 5, 3) := by decide +kernel
theorem dX12_boardLine_131 : decode cX12_boardLine 131 = .ok (.iconst 0, 1) := by decide +kernel
theorem dX12_boardLine_132 : decode cX12_boardLine 132 = .ok (.ireturn, 1) := by decide +kernel
theorem dX12_boardLine_133 : decode cX12_boardLine 133 = .ok (.aload_n 0, 1) := by decide +kernel
theorem dX12_boardLine_134 : decode cX12_boardLine 134 = .ok (.getfield 209, 3) := by decide +kernel
theorem dX12_boardLine_137 : decode cX12_boardLine 137 = .ok (.istore 4, 2) := by decide +kernel
theorem dX12_boardLine_139 : decode cX12_boardLine 139 = .ok (.aload_n 0, 1) := by decide +kernel
theorem dX12_boardLine_140 : decode cX12_boardLine 140 = .ok (.invokevirtual 238, 3) := by decide +kernel
theorem dX12_boardLine_143 : decode cX12_boardLine 143 = .ok (.ifCond .ne 5, 3) := by decide +kernel
theorem dX12_boardLine_146 : decode cX12_boardLine 146 = .ok (.iconst 0, 1) := by decide +kernel
theorem dX12_boardLine_147 : decode cX12_boardLine 147 = .ok (.ireturn, 1) := by decide +kernel
theorem dX12_boardLine_148 : decode cX12_boardLine 148 = .ok (.aload_n 0, 1) := by decide +kernel
theorem dX12_boardLine_149 : decode cX12_boardLine 149 = .ok (.getfield 35, 3) := by decide +kernel
theorem dX12_boardLine_152 : decode cX12_boardLine 152 = .ok (.iconst 2, 1) := by decide +kernel
theorem dX12_boardLine_153 : decode cX12_boardLine 153 = .ok (.iaload, 1) := by decide +kernel
theorem dX12_boardLine_154 : decode cX12_boardLine 154 = .ok (.bipush 6, 2) := by decide +kernel
theorem dX12_boardLine_156 : decode cX12_boardLine 156 = .ok (.if_icmp .ge 51, 3) := by decide +kernel
theorem dX12_boardLine_159 : decode cX12_boardLine 159 = .ok (.aload_n 0, 1) := by decide +kernel
theorem dX12_boardLine_160 : decode cX12_boardLine 160 = .ok (.getfield 35, 3) := by decide +kernel
theorem dX12_boardLine_163 : decode cX12_boardLine 163 = .ok (.iconst 3, 1) := by decide +kernel
theorem dX12_boardLine_164 : decode cX12_boardLine 164 = .ok (.iconst 2, 1) := by decide +kernel
theorem dX12_boardLine_165 : decode cX12_boardLine 165 = .ok (.aload_n 0, 1) := by decide +kernel
theorem dX12_boardLine_166 : decode cX12_boardLine 166 = .ok (.getfield 35, 3) := by decide +kernel
theorem dX12_boardLine_169 : decode cX12_boardLine 169 = .ok (.iconst 2, 1) := by decide +kernel
theorem dX12_boardLine_170 : decode cX12_boardLine 170 = .ok (.iaload, 1) := by decide +kernel
theorem dX12_boardLine_171 : decode cX12_boardLine 171 = .ok (.imul, 1) := by decide +kernel
theorem dX12_boardLine_172 : decode cX12_boardLine 172 = .ok (.iadd, 1) := by decide +kernel
theorem dX12_boardLine_173 : decode cX12_boardLine 173 = .ok (.iload 4, 2) := by decide +kernel
theorem dX12_boardLine_175 : decode cX12_boardLine 175 = .ok (.iastore, 1) := by decide +kernel
theorem dX12_boardLine_176 : decode cX12_boardLine 176 = .ok (.aload_n 0, 1) := by decide +kernel
theorem dX12_boardLine_177 : decode cX12_boardLine 177 = .ok (.getfield 35, 3) := by decide +kernel
theorem dX12_boardLine_180 : decode cX12_boardLine 180 = .ok (.iconst 3, 1) := by decide +kernel
theorem dX12_boardLine_181 : decode cX12_boardLine 181 = .ok (.iconst 2, 1) := by decide +kernel
theorem dX12_boardLine_182 : decode cX12_boardLine 182 = .ok (.aload_n 0, 1) := by decide +kernel
theorem dX12_boardLine_183 : decode cX12_boardLine 183 = .ok (.getfield 35, 3) := by decide +kernel
theorem dX12_boardLine_186 : decode cX12_boardLine 186 = .ok (.iconst 2, 1) := by decide +kernel
theorem dX12_boardLine_187 : decode cX12_boardLine 187 = .ok (.iaload, 1) := by decide +kernel
theorem dX12_boardLine_188 : decode cX12_boardLine 188 = .ok (.imul, 1) := by decide +kernel
theorem dX12_boardLine_189 : decode cX12_boardLine 189 = .ok (.iadd, 1) := by decide +kernel
theorem dX12_boardLine_190 : decode cX12_boardLine 190 = .ok (.iconst 1, 1) := by decide +kernel
theorem dX12_boardLine_191 : decode cX12_boardLine 191 = .ok (.iadd, 1) := by decide +kernel
theorem dX12_boardLine_192 : decode cX12_boardLine 192 = .ok (.aload_n 0, 1) := by decide +kernel
theorem dX12_boardLine_193 : decode cX12_boardLine 193 = .ok (.getfield 209, 3) := by decide +kernel
theorem dX12_boardLine_196 : decode cX12_boardLine 196 = .ok (.iastore, 1) := by decide +kernel
theorem dX12_boardLine_197 : decode cX12_boardLine 197 = .ok (.aload_n 0, 1) := by decide +kernel
theorem dX12_boardLine_198 : decode cX12_boardLine 198 = .ok (.getfield 35, 3) := by decide +kernel
theorem dX12_boardLine_201 : decode cX12_boardLine 201 = .ok (.iconst 2, 1) := by decide +kernel
theorem dX12_boardLine_202 : decode cX12_boardLine 202 = .ok (.dup2, 1) := by decide +kernel
theorem dX12_boardLine_203 : decode cX12_boardLine 203 = .ok (.iaload, 1) := by decide +kernel
theorem dX12_boardLine_204 : decode cX12_boardLine 204 = .ok (.iconst 1, 1) := by decide +kernel
theorem dX12_boardLine_205 : decode cX12_boardLine 205 = .ok (.iadd, 1) := by decide +kernel
theorem dX12_boardLine_206 : decode cX12_boardLine 206 = .ok (.iastore, 1) := by decide +kernel
theorem dX12_boardLine_207 : decode cX12_boardLine 207 = .ok (.iconst 1, 1) := by decide +kernel
theorem dX12_boardLine_208 : decode cX12_boardLine 208 = .ok (.ireturn, 1) := by decide +kernel
theorem dX12_boardLine_209 : decode cX12_boardLine 209 = .ok (.aload_n 0, 1) := by decide +kernel
theorem dX12_boardLine_210 : decode cX12_boardLine 210 = .ok (.invokevirtual 238, 3) := by decide +kernel
theorem dX12_boardLine_213 : decode cX12_boardLine 213 = .ok (.ifCond .ne 5, 3) := by decide +kernel
theorem dX12_boardLine_216 : decode cX12_boardLine 216 = .ok (.iconst 0, 1) := by decide +kernel
theorem dX12_boardLine_217 : decode cX12_boardLine 217 = .ok (.ireturn, 1) := by decide +kernel
theorem dX12_boardLine_218 : decode cX12_boardLine 218 = .ok (.aload_n 0, 1) := by decide +kernel
theorem dX12_boardLine_219 : decode cX12_boardLine 219 = .ok (.getfield 209, 3) := by decide +kernel
theorem dX12_boardLine_222 : decode cX12_boardLine 222 = .ok (.bipush 36, 2) := by decide +kernel
theorem dX12_boardLine_224 : decode cX12_boardLine 224 = .ok (.if_icmp .ge 10, 3) := by decide +kernel
theorem dX12_boardLine_227 : decode cX12_boardLine 227 = .ok (.aload_n 0, 1) := by decide +kernel
theorem dX12_boardLine_228 : decode cX12_boardLine 228 = .ok (.getfield 209, 3) := by decide +kernel
theorem dX12_boardLine_231 : decode cX12_boardLine 231 = .ok (.goto 4, 3) := by decide +kernel
theorem dX12_boardLine_234 : decode cX12_boardLine 234 = .ok (.iconst 0, 1) := by decide +kernel
theorem dX12_boardLine_235 : decode cX12_boardLine 235 = .ok (.istore 4, 2) := by decide +kernel
theorem dX12_boardLine_237 : decode cX12_boardLine 237 = .ok (.aload_n 0, 1) := by decide +kernel
theorem dX12_boardLine_238 : decode cX12_boardLine 238 = .ok (.getfield 35, 3) := by decide +kernel
theorem dX12_boardLine_241 : decode cX12_boardLine 241 = .ok (.bipush 15, 2) := by decide +kernel
theorem dX12_boardLine_243 : decode cX12_boardLine 243 = .ok (.iload 4, 2) := by decide +kernel
theorem dX12_boardLine_245 : decode cX12_boardLine 245 = .ok (.iadd, 1) := by decide +kernel
theorem dX12_boardLine_246 : decode cX12_boardLine 246 = .ok (.lload_n 1, 1) := by decide +kernel
theorem dX12_boardLine_247 : decode cX12_boardLine 247 = .ok (.ldc2_w 232, 3) := by decide +kernel
theorem dX12_boardLine_250 : decode cX12_boardLine 250 = .ok (.lcmp, 1) := by decide +kernel
theorem dX12_boardLine_251 : decode cX12_boardLine 251 = .ok (.ifCond .ne 7, 3) := by decide +kernel
theorem dX12_boardLine_254 : decode cX12_boardLine 254 = .ok (.iconst 1, 1) := by decide +kernel
theorem dX12_boardLine_255 : decode cX12_boardLine 255 = .ok (.goto 22, 3) := by decide +kernel
theorem dX12_boardLine_258 : decode cX12_boardLine 258 = .ok (.aload_n 0, 1) := by decide +kernel
theorem dX12_boardLine_259 : decode cX12_boardLine 259 = .ok (.getfield 35, 3) := by decide +kernel
theorem dX12_boardLine_262 : decode cX12_boardLine 262 = .ok (.bipush 15, 2) := by decide +kernel
theorem dX12_boardLine_264 : decode cX12_boardLine 264 = .ok (.iload 4, 2) := by decide +kernel
theorem dX12_boardLine_266 : decode cX12_boardLine 266 = .ok (.iadd, 1) := by decide +kernel
theorem dX12_boardLine_267 : decode cX12_boardLine 267 = .ok (.iaload, 1) := by decide +kernel
theorem dX12_boardLine_268 : decode cX12_boardLine 268 = .ok (.iconst 1, 1) := by decide +kernel
theorem dX12_boardLine_269 : decode cX12_boardLine 269 = .ok (.if_icmp .ne 7, 3) := by decide +kernel
theorem dX12_boardLine_272 : decode cX12_boardLine 272 = .ok (.iconst 1, 1) := by decide +kernel
theorem dX12_boardLine_273 : decode cX12_boardLine 273 = .ok (.goto 4, 3) := by decide +kernel
theorem dX12_boardLine_276 : decode cX12_boardLine 276 = .ok (.iconst 2, 1) := by decide +kernel
theorem dX12_boardLine_277 : decode cX12_boardLine 277 = .ok (.iastore, 1) := by decide +kernel
theorem dX12_boardLine_278 : decode cX12_boardLine 278 = .ok (.aload_n 0, 1) := by decide +kernel
theorem dX12_boardLine_279 : decode cX12_boardLine 279 = .ok (.getfield 190, 3) := by decide +kernel
theorem dX12_boardLine_282 : decode cX12_boardLine 282 = .ok (.iconst 3, 1) := by decide +kernel
theorem dX12_boardLine_283 : decode cX12_boardLine 283 = .ok (.if_icmp .eq (-74), 3) := by decide +kernel
theorem dX12_boardLine_286 : decode cX12_boardLine 286 = .ok (.iconst 1, 1) := by decide +kernel
theorem dX12_boardLine_287 : decode cX12_boardLine 287 = .ok (.ireturn, 1) := by decide +kernel
theorem cnX12_232 : Cond.constantLong RX12 232 (2002873452) ∈ lw_g := lw_gi 1551 (by decide +kernel) rfl
abbrev mmBL : List (Nat × Option Nat) := [(0, some 9), (0, some 11), (0, some 12), (0, some 13), (0, some 14), (0, some 16), (0, some 17), (0, some 15), (0, some 20), (0, some 21), (9, none)]
set_option maxHeartbeats 4000000 in
set_option maxRecDepth 100000 in
theorem r_ground2 {D : va_G} {ad : Nat → Nat} {cA : Nat → ClassId} {X0 : XT} {b : Nat → Int} {N : Nat} (hT0 : TPM b N X0) {s : Nat} {F : Int × Int} {B : BC} {wd : Int64} (e2 : wd = 2002873452) (n0 : ¬ isW b N 0 s) (n1 : ¬ isW b N 1 s) (wk : isW b N 2 s) {E : ET} (C : CX E (wM D ad cA) cX12_boardLine 5 RX12 (some .boolean) { frames := 4, cells := 0, slots := 0, locals := 87 }) (hQ : EQ E (wM D ad cA) (fun r X1 => ∃ u : Int, r = some (.int (iI u)) ∧ HG vM X1 ∧ FR mmBL X0 X1 ∧ LPB b N s F B X1 u)) : ∀ (n : Nat) (k : Nat) (w : Int64) (t : Nat) (Gf : Int × Int) (X : XT), ((N + 1 - t : Nat) : Int) < n → HG vM X → FR mmBL X0 X → TKM b N t X → FLM Gf X → FO Gf t → BDM Gf (bwl B w) X → rF b N k t Gf w = rF b N 600 (nx b N s) F 0 → N - t ≤ k → (w = 0 ∨ tK b N t = 2) → nx b N s ≤ t → Wx E (wM D ad cA) 5 (PX (wM D ad cA) X) 209 [(0, .ref 0), (1, .long (wd))] [] := by
  intro n
  induction n with
  | zero => intro k w t Gf X hn hH hF hK hL hO hB hr hk hw st; exfalso; omega
  | succ n ih =>
    intro k w t Gf X hn hH hF hK hL hO hB hr hk hw st
    have tN := hK.2.2.2.2.2.1
    have n6 := hT0.2.1
    refine x_aload_n (i := 0) C dX12_boardLine_209 rfl rfl ?_
    refine x_callV (As := []) C (by exact (r_takeField (s := t) (F := Gf) (hT0.fr hF rfl) hH FR.rf hK hL hO hB.2.2.2.2.2.1)) ckX12_238 im_X12_takeField se_X12_takeField (nlt rfl) rfl rfl rfl rfl (nle rfl) (by exact ⟨nle rfl, nle rfl⟩) dX12_boardLine_210 ?_
    rintro _ Yy1 ⟨v2, rfl, hHy1, hGy1, hKy1, hLy1, gtv2, tkv2⟩
    have hFy1 : FR mmBL X0 Yy1 := FR.tr hF hGy1 (by decide)
    have hOy1 := hO.tn (b := b) (lo := 0) (hi := 35) hK.2.2.2.2.2.1
    have sby1 := tnS_bd b N t hK.2.2.2.2.2.1
    refine Wx_st (st' := [.int (iI (v2))]) rfl ?_
    refine x_if_ne (tgt := 218) C dX12_boardLine_213 (by decide) ⟨by omega, by omega⟩ (fun h3 => ?_) (fun h3 => ?_)
    · have k2 : tK b N t = 2 := tkv2.elim (fun g => g.2.1) (fun g => by exfalso; have := g.1; omega)
      have vb := tnV_y k2 tN
      have ev : tnV b N t = tV b N t := if_pos k2
      have es : tnS b N t = nx b N t := if_pos k2
      have tl := (tK_2 k2).2.2
      have tx := nx_bd b N t tN
      refine x_aload_n (i := 0) C dX12_boardLine_218 rfl rfl ?_
      refine x_getI C fkM_X12_209 (nlt rfl) rfl dX12_boardLine_219 ?_
      refine x_gen (fun v4 ev4 => ?_)
      have qv4 : ((-2147483648) : Int) ≤ v4 ∧ v4 ≤ (2147483647 : Int) := by
        rw [ev4]
        exact hHy1.rF (k := 0) (i := 20) rfl rfl
      have rvv4 : v4 = tnV b N t := by rw [ev4]; exact tkv2.elim (fun g => g.2.2) (fun g => by exfalso; have := g.1; omega)
      refine x_bipush C dX12_boardLine_222 (by decide) ?_
      refine x_icmp_ge (tgt := 234) C dX12_boardLine_224 (by decide) ⟨by omega, by omega⟩ ⟨by omega, by omega⟩ (fun h5 => ?_) (fun h5 => ?_)
      · refine x_iconst C dX12_boardLine_234 ?_
        refine x_istore (lv' := [(4, .int (iI (0))), (0, .ref 0), (1, .long (wd))]) C dX12_boardLine_235 (nlt rfl) rfl ?_
        refine x_aload_n (i := 0) C dX12_boardLine_237 rfl rfl ?_
        refine x_getRs (r := 9) C fkM_X12_35 (nlt rfl) rfl (HG.rR hHy1 (k := 0) (i := 18) rfl rfl) dX12_boardLine_238 ?_
        refine x_bipush C dX12_boardLine_241 (by decide) ?_
        refine x_iload C dX12_boardLine_243 rfl ?_
        refine x_iadd C dX12_boardLine_245 ?_
        refine x_eq (b := 15) rfl ?_
        refine x_lload_n (i := 1) C dX12_boardLine_246 rfl rfl ?_
        refine x_ldc2 C dX12_boardLine_247 cnX12_232 ?_
        refine x_lcmp C dX12_boardLine_250 ?_
        refine x_topi (fun v6 rv6 ev6 => ?_)
        have cv6 := lcmp_iff rv6 ev6
        unfold inR at rv6
        have zzv6 : v6 = 0 := cv6.1.mpr e2
        refine x_if_ne (tgt := 258) C dX12_boardLine_251 (by decide) ⟨by omega, by omega⟩ (fun h7 => by exfalso; omega) (fun h7 => ?_)
        refine x_iconst C dX12_boardLine_254 ?_
        refine x_goto (tgt := 277) C dX12_boardLine_255 (by decide) ?_
        refine x_iast C (nlt rfl) rfl rfl (nle rfl) (by omega) (by omega) dX12_boardLine_277 ?_
        refine x_gX (fun Yy8 eYy8 => ?_)
        have hHy8 : HG vM Yy8 := by
          rw [eYy8]
          exact hg_wF hHy1 (p := ((-1), 99)) rfl ⟨by omega, by omega⟩
        have hFy8 : FR mmBL X0 Yy8 := by
          rw [eYy8]
          exact FR.upI hFy1 (rfl)
        replace eYy8 : Yy8 = upI Yy1 9 15 (1) := eYy8
        have hGy8 : FR [(9, some 15)] Yy1 Yy8 := by
          rw [eYy8]
          exact FR.upI FR.rf rfl
        have hKy8 := hKy1.fr hGy8 rfl
        have hLy8 := hLy1.fr hGy8 rfl
        have hBn : BDM (tnF b N 0 35 t Gf) (bwl B (w ||| bitI (tnV b N t))) Yy8 := by
          refine ⟨by rw [eYy8, upI_ne (by omega), (hGy1 9 0 rfl).1]; exact hB.1, by rw [eYy8, upI_ne (by omega), (hGy1 9 1 rfl).1]; exact hB.2.1, by rw [eYy8, upI_ne (by omega), (hGy1 9 2 rfl).1]; exact hB.2.2.1, fun j hj => by exact ⟨by rw [eYy8, upI_ne (by omega), (hGy1 9 (3 + 2 * j) rfl).1]; exact (hB.2.2.2.1 j hj).1, by rw [eYy8, upI_ne (by omega), (hGy1 9 (4 + 2 * j) rfl).1]; exact (hB.2.2.2.1 j hj).2⟩, fun q => ?_, by rw [eYy8, upI_nc (by decide)]; rw [gtv2]; have := gtm_ge (X.1 0 21) (tnV b N t); have := hB.2.2.2.2.2.1; omega, hB.2.2.2.2.2.2⟩
          have q2 := tnF_0 q
          have q3 := q2.2 (by omega)
          exfalso
          omega
        refine x_aload_n (i := 0) C dX12_boardLine_278 rfl rfl ?_
        refine x_getI C fkM_X12_190 (nlt rfl) rfl dX12_boardLine_279 ?_
        refine x_gen (fun v9 ev9 => ?_)
        have qv9 : ((-2147483648) : Int) ≤ v9 ∧ v9 ≤ (2147483647 : Int) := by
          rw [ev9]
          exact hHy8.rF (k := 0) (i := 12) rfl rfl
        have kv9 : v9 = Yy1.1 0 12 := by rw [ev9, eYy8, upI_nc (by decide)]
        refine x_iconst C dX12_boardLine_282 ?_
        refine x_icmp_eq (tgt := 209) C dX12_boardLine_283 (by decide) ⟨by omega, by omega⟩ ⟨by omega, by omega⟩ (fun h10 => ?_) (fun h10 => ?_)
        · have kk : tK b N (tnS b N t) = 2 := (sK_3 hKy8.2.2.2.2.2.2 (tK_bd b N _).2).mp (by have := hKy8.2.1; omega)
          obtain ⟨k1, rfl⟩ : ∃ k1, k = k1 + 1 := ⟨k - 1, by omega⟩
          rw [rF_S k2, ← ev] at hr
          refine Wx_pick [0, 1] ?_
          refine Wx_lv (lv' := [(0, .ref 0), (1, .long (wd))]) rfl ?_
          exact ih k1 _ (nx b N t) _ _ (by omega) hHy8 hFy8 (by rw [← es]; exact hKy8) hLy8 (by rw [← es]; exact hOy1) hBn hr (by omega) (.inr (by rw [← es]; exact kk)) (by omega)
        · have kn : tK b N (tnS b N t) ≠ 2 := fun g => by
            have g1 := (sK_3 hKy8.2.2.2.2.2.2 (tK_bd b N _).2).mpr g
            have g2 := hKy8.2.1
            omega
          obtain ⟨k1, rfl⟩ : ∃ k1, k = k1 + 1 := ⟨k - 1, by omega⟩
          rw [rF_S k2, rF_E (by rw [← es]; exact kn), ← ev] at hr
          refine x_iconst C dX12_boardLine_286 ?_
          exact x_zret C hQ (by omega) dX12_boardLine_287 (⟨_, rfl, hHy8, hFy8, nx b N t, tnF b N 0 35 t Gf, bwl B (w ||| bitI (tnV b N t)), by rw [← es]; exact hKy8, hLy8, by rw [← es]; exact hOy1, .inl ⟨rfl, by omega, by rw [bL_2 n0 n1 wk, ← hr, finB_ok (show w ||| bitI (tnV b N t) ≠ 0 from bitI_0)], hBn⟩⟩)
      · refine x_aload_n (i := 0) C dX12_boardLine_227 rfl rfl ?_
        refine x_getI C fkM_X12_209 (nlt rfl) rfl dX12_boardLine_228 ?_
        refine x_gen (fun v11 ev11 => ?_)
        have qv11 : ((-2147483648) : Int) ≤ v11 ∧ v11 ≤ (2147483647 : Int) := by
          rw [ev11]
          exact hHy1.rF (k := 0) (i := 20) rfl rfl
        have rvv11 : v11 = tnV b N t := by rw [ev11]; exact tkv2.elim (fun g => g.2.2) (fun g => by exfalso; have := g.1; omega)
        refine x_goto (tgt := 235) C dX12_boardLine_231 (by decide) ?_
        refine x_istore (lv' := [(4, .int (iI (v11))), (0, .ref 0), (1, .long (wd))]) C dX12_boardLine_235 (nlt rfl) rfl ?_
        refine x_aload_n (i := 0) C dX12_boardLine_237 rfl rfl ?_
        refine x_getRs (r := 9) C fkM_X12_35 (nlt rfl) rfl (HG.rR hHy1 (k := 0) (i := 18) rfl rfl) dX12_boardLine_238 ?_
        refine x_bipush C dX12_boardLine_241 (by decide) ?_
        refine x_iload C dX12_boardLine_243 rfl ?_
        refine x_iadd C dX12_boardLine_245 ?_
        refine x_lload_n (i := 1) C dX12_boardLine_246 rfl rfl ?_
        refine x_ldc2 C dX12_boardLine_247 cnX12_232 ?_
        refine x_lcmp C dX12_boardLine_250 ?_
        refine x_topi (fun v12 rv12 ev12 => ?_)
        have cv12 := lcmp_iff rv12 ev12
        unfold inR at rv12
        have zzv12 : v12 = 0 := cv12.1.mpr e2
        refine x_if_ne (tgt := 258) C dX12_boardLine_251 (by decide) ⟨by omega, by omega⟩ (fun h13 => by exfalso; omega) (fun h13 => ?_)
        refine x_iconst C dX12_boardLine_254 ?_
        refine x_goto (tgt := 277) C dX12_boardLine_255 (by decide) ?_
        refine x_iast C (nlt rfl) rfl rfl (nle rfl) (by omega) (by omega) dX12_boardLine_277 ?_
        refine x_gX (fun Yy14 eYy14 => ?_)
        have hHy14 : HG vM Yy14 := by
          rw [eYy14]
          exact hg_wA hHy1 (n := 331) (p := ((-1), 99)) (by decide +kernel) (by omega) ⟨by omega, by omega⟩
        have hFy14 : FR mmBL X0 Yy14 := by
          rw [eYy14]
          exact FR.upI hFy1 (rfl)
        have hGy14 : FR [(9, none)] Yy1 Yy14 := by
          rw [eYy14]
          exact FR.upI FR.rf rfl
        have hKy14 := hKy1.fr hGy14 rfl
        have hLy14 := hLy1.fr hGy14 rfl
        have hBn : BDM (tnF b N 0 35 t Gf) (bwl B (w ||| bitI (tnV b N t))) Yy14 := by
          refine ⟨by rw [eYy14, upI_ne (by omega), (hGy1 9 0 rfl).1]; exact hB.1, by rw [eYy14, upI_ne (by omega), (hGy1 9 1 rfl).1]; exact hB.2.1, by rw [eYy14, upI_ne (by omega), (hGy1 9 2 rfl).1]; exact hB.2.2.1, fun j hj => by exact ⟨by rw [eYy14, upI_ne (by omega), (hGy1 9 (3 + 2 * j) rfl).1]; exact (hB.2.2.2.1 j hj).1, by rw [eYy14, upI_ne (by omega), (hGy1 9 (4 + 2 * j) rfl).1]; exact (hB.2.2.2.1 j hj).2⟩, fun q => ?_, by rw [eYy14, upI_nc (by decide)]; rw [gtv2]; have := gtm_ge (X.1 0 21) (tnV b N t); have := hB.2.2.2.2.2.1; omega, hB.2.2.2.2.2.2⟩
          have q2 := tnF_0 q
          have q3 := q2.2 (by omega)
          have q4 := hB.2.2.2.2.1 q2.1
          refine ⟨fun f hf => ?_, by rw [eYy14, upI_nc (by decide)]; rw [gtv2]; exact gOK_w q4.2 q3.1 q3.2⟩
          have g1 := q4.1 f hf
          show _ = grF (B.2.2.1 ||| (w ||| bitI (tnV b N t))) B.2.2.2.1 f
          rw [← Int64.or_assoc, grF_w q3.1 q3.2]
          by_cases e : (f : Int) = tnV b N t
          · rw [if_pos e, show 15 + f = (15 + v11).toNat by omega, eYy14, upI_at]
          · rw [if_neg e, eYy14, upI_ne (by omega), (hGy1 9 (15 + f) rfl).1]
            exact g1
        refine x_aload_n (i := 0) C dX12_boardLine_278 rfl rfl ?_
        refine x_getI C fkM_X12_190 (nlt rfl) rfl dX12_boardLine_279 ?_
        refine x_gen (fun v15 ev15 => ?_)
        have qv15 : ((-2147483648) : Int) ≤ v15 ∧ v15 ≤ (2147483647 : Int) := by
          rw [ev15]
          exact hHy14.rF (k := 0) (i := 12) rfl rfl
        have kv15 : v15 = Yy1.1 0 12 := by rw [ev15, eYy14, upI_nc (by decide)]
        refine x_iconst C dX12_boardLine_282 ?_
        refine x_icmp_eq (tgt := 209) C dX12_boardLine_283 (by decide) ⟨by omega, by omega⟩ ⟨by omega, by omega⟩ (fun h16 => ?_) (fun h16 => ?_)
        · have kk : tK b N (tnS b N t) = 2 := (sK_3 hKy14.2.2.2.2.2.2 (tK_bd b N _).2).mp (by have := hKy14.2.1; omega)
          obtain ⟨k1, rfl⟩ : ∃ k1, k = k1 + 1 := ⟨k - 1, by omega⟩
          rw [rF_S k2, ← ev] at hr
          refine Wx_pick [0, 1] ?_
          refine Wx_lv (lv' := [(0, .ref 0), (1, .long (wd))]) rfl ?_
          exact ih k1 _ (nx b N t) _ _ (by omega) hHy14 hFy14 (by rw [← es]; exact hKy14) hLy14 (by rw [← es]; exact hOy1) hBn hr (by omega) (.inr (by rw [← es]; exact kk)) (by omega)
        · have kn : tK b N (tnS b N t) ≠ 2 := fun g => by
            have g1 := (sK_3 hKy14.2.2.2.2.2.2 (tK_bd b N _).2).mpr g
            have g2 := hKy14.2.1
            omega
          obtain ⟨k1, rfl⟩ : ∃ k1, k = k1 + 1 := ⟨k - 1, by omega⟩
          rw [rF_S k2, rF_E (by rw [← es]; exact kn), ← ev] at hr
          refine x_iconst C dX12_boardLine_286 ?_
          exact x_zret C hQ (by omega) dX12_boardLine_287 (⟨_, rfl, hHy14, hFy14, nx b N t, tnF b N 0 35 t Gf, bwl B (w ||| bitI (tnV b N t)), by rw [← es]; exact hKy14, hLy14, by rw [← es]; exact hOy1, .inl ⟨rfl, by omega, by rw [bL_2 n0 n1 wk, ← hr, finB_ok (show w ||| bitI (tnV b N t) ≠ 0 from bitI_0)], hBn⟩⟩)
    · have k2 : tK b N t ≠ 2 := tkv2.elim (fun g => by exfalso; have := g.1; omega) (fun g => g.2.1)
      have w0 : w = 0 := hw.elim id (fun g => absurd g k2)
      rw [rF_E k2, w0] at hr
      have hK1 := hKy1
      rw [tnS_n k2] at hK1
      have hL1 := hLy1
      rw [tnF_n k2] at hL1
      refine x_iconst C dX12_boardLine_216 ?_
      exact x_zret C hQ (by omega) dX12_boardLine_217 (⟨_, rfl, hHy1, hFy1, t, Gf, bwl B 0, hK1, hL1, hO, .inr ⟨rfl, tkv2.elim (fun g => by exfalso; have := g.1; omega) (fun g => g.2.2), by rw [bL_2 n0 n1 wk, ← hr, finB_n (.inl (fun g => g rfl))]⟩⟩)
set_option maxHeartbeats 4000000 in
set_option maxRecDepth 100000 in
theorem r_ground3 {D : va_G} {ad : Nat → Nat} {cA : Nat → ClassId} {X0 : XT} {b : Nat → Int} {N : Nat} (hT0 : TPM b N X0) {s : Nat} {F : Int × Int} {B : BC} {wd : Int64} (e2 : wd ≠ 2002873452) (n0 : ¬ isW b N 0 s) (n1 : ¬ isW b N 1 s) (n2 : ¬ isW b N 2 s) (wk : isW b N 3 s) {E : ET} (C : CX E (wM D ad cA) cX12_boardLine 5 RX12 (some .boolean) { frames := 4, cells := 0, slots := 0, locals := 87 }) (hQ : EQ E (wM D ad cA) (fun r X1 => ∃ u : Int, r = some (.int (iI u)) ∧ HG vM X1 ∧ FR mmBL X0 X1 ∧ LPB b N s F B X1 u)) : ∀ (n : Nat) (k : Nat) (w : Int64) (t : Nat) (Gf : Int × Int) (X : XT), ((N + 1 - t : Nat) : Int) < n → HG vM X → FR mmBL X0 X → TKM b N t X → FLM Gf X → FO Gf t → BDM Gf (bpt B w) X → rF b N k t Gf w = rF b N 600 (nx b N s) F 0 → N - t ≤ k → (w = 0 ∨ tK b N t = 2) → nx b N s ≤ t → Wx E (wM D ad cA) 5 (PX (wM D ad cA) X) 209 [(0, .ref 0), (1, .long (wd))] [] := by
  intro n
  induction n with
  | zero => intro k w t Gf X hn hH hF hK hL hO hB hr hk hw st; exfalso; omega
  | succ n ih =>
    intro k w t Gf X hn hH hF hK hL hO hB hr hk hw st
    have tN := hK.2.2.2.2.2.1
    have n6 := hT0.2.1
    refine x_aload_n (i := 0) C dX12_boardLine_209 rfl rfl ?_
    refine x_callV (As := []) C (by exact (r_takeField (s := t) (F := Gf) (hT0.fr hF rfl) hH FR.rf hK hL hO hB.2.2.2.2.2.1)) ckX12_238 im_X12_takeField se_X12_takeField (nlt rfl) rfl rfl rfl rfl (nle rfl) (by exact ⟨nle rfl, nle rfl⟩) dX12_boardLine_210 ?_
    rintro _ Yy1 ⟨v2, rfl, hHy1, hGy1, hKy1, hLy1, gtv2, tkv2⟩
    have hFy1 : FR mmBL X0 Yy1 := FR.tr hF hGy1 (by decide)
    have hOy1 := hO.tn (b := b) (lo := 0) (hi := 35) hK.2.2.2.2.2.1
    have sby1 := tnS_bd b N t hK.2.2.2.2.2.1
    refine Wx_st (st' := [.int (iI (v2))]) rfl ?_
    refine x_if_ne (tgt := 218) C dX12_boardLine_213 (by decide) ⟨by omega, by omega⟩ (fun h3 => ?_) (fun h3 => ?_)
    · have k2 : tK b N t = 2 := tkv2.elim (fun g => g.2.1) (fun g => by exfalso; have := g.1; omega)
      have vb := tnV_y k2 tN
      have ev : tnV b N t = tV b N t := if_pos k2
      have es : tnS b N t = nx b N t := if_pos k2
      have tl := (tK_2 k2).2.2
      have tx := nx_bd b N t tN
      refine x_aload_n (i := 0) C dX12_boardLine_218 rfl rfl ?_
      refine x_getI C fkM_X12_209 (nlt rfl) rfl dX12_boardLine_219 ?_
      refine x_gen (fun v4 ev4 => ?_)
      have qv4 : ((-2147483648) : Int) ≤ v4 ∧ v4 ≤ (2147483647 : Int) := by
        rw [ev4]
        exact hHy1.rF (k := 0) (i := 20) rfl rfl
      have rvv4 : v4 = tnV b N t := by rw [ev4]; exact tkv2.elim (fun g => g.2.2) (fun g => by exfalso; have := g.1; omega)
      refine x_bipush C dX12_boardLine_222 (by decide) ?_
      refine x_icmp_ge (tgt := 234) C dX12_boardLine_224 (by decide) ⟨by omega, by omega⟩ ⟨by omega, by omega⟩ (fun h5 => ?_) (fun h5 => ?_)
      · refine x_iconst C dX12_boardLine_234 ?_
        refine x_istore (lv' := [(4, .int (iI (0))), (0, .ref 0), (1, .long (wd))]) C dX12_boardLine_235 (nlt rfl) rfl ?_
        refine x_aload_n (i := 0) C dX12_boardLine_237 rfl rfl ?_
        refine x_getRs (r := 9) C fkM_X12_35 (nlt rfl) rfl (HG.rR hHy1 (k := 0) (i := 18) rfl rfl) dX12_boardLine_238 ?_
        refine x_bipush C dX12_boardLine_241 (by decide) ?_
        refine x_iload C dX12_boardLine_243 rfl ?_
        refine x_iadd C dX12_boardLine_245 ?_
        refine x_eq (b := 15) rfl ?_
        refine x_lload_n (i := 1) C dX12_boardLine_246 rfl rfl ?_
        refine x_ldc2 C dX12_boardLine_247 cnX12_232 ?_
        refine x_lcmp C dX12_boardLine_250 ?_
        refine x_topi (fun v6 rv6 ev6 => ?_)
        have cv6 := lcmp_iff rv6 ev6
        unfold inR at rv6
        have zzv6 : v6 ≠ 0 := fun g => e2 (cv6.1.mp g)
        refine x_if_ne (tgt := 258) C dX12_boardLine_251 (by decide) ⟨by omega, by omega⟩ (fun h7 => ?_) (fun h7 => by exfalso; omega)
        refine x_aload_n (i := 0) C dX12_boardLine_258 rfl rfl ?_
        refine x_getRs (r := 9) C fkM_X12_35 (nlt rfl) rfl (HG.rR hHy1 (k := 0) (i := 18) rfl rfl) dX12_boardLine_259 ?_
        refine x_bipush C dX12_boardLine_262 (by decide) ?_
        refine x_iload C dX12_boardLine_264 rfl ?_
        refine x_iadd C dX12_boardLine_266 ?_
        refine x_eq (b := 15) rfl ?_
        refine x_iald C (nlt rfl) rfl rfl (nle rfl) (by omega) (by omega) dX12_boardLine_267 ?_
        refine x_gen (fun v8 ev8 => ?_)
        replace ev8 : v8 = Yy1.1 9 15 := ev8
        have qv8 : ((-1) : Int) ≤ v8 ∧ v8 ≤ (99 : Int) := by
          rw [ev8]
          exact hHy1.rF (k := 9) (i := 15) (p := ((-1), 99)) rfl rfl
        have kv8 : v8 = X.1 9 15 := by rw [ev8, (hGy1 9 15 rfl).1]
        have ktv8 : v8 = X.1 9 15 := by rw [ev8, (hGy1 9 15 rfl).1]
        refine x_iconst C dX12_boardLine_268 ?_
        refine x_icmp_ne (tgt := 276) C dX12_boardLine_269 (by decide) ⟨by omega, by omega⟩ ⟨by omega, by omega⟩ (fun h9 => ?_) (fun h9 => ?_)
        · refine x_iconst C dX12_boardLine_276 ?_
          refine x_iast C (nlt rfl) rfl rfl (nle rfl) (by omega) (by omega) dX12_boardLine_277 ?_
          refine x_gX (fun Yy10 eYy10 => ?_)
          have hHy10 : HG vM Yy10 := by
            rw [eYy10]
            exact hg_wF hHy1 (p := ((-1), 99)) rfl ⟨by omega, by omega⟩
          have hFy10 : FR mmBL X0 Yy10 := by
            rw [eYy10]
            exact FR.upI hFy1 (rfl)
          replace eYy10 : Yy10 = upI Yy1 9 15 (2) := eYy10
          have hGy10 : FR [(9, some 15)] Yy1 Yy10 := by
            rw [eYy10]
            exact FR.upI FR.rf rfl
          have hKy10 := hKy1.fr hGy10 rfl
          have hLy10 := hLy1.fr hGy10 rfl
          have hBn : BDM (tnF b N 0 35 t Gf) (bpt B (w ||| bitI (tnV b N t))) Yy10 := by
            refine ⟨by rw [eYy10, upI_ne (by omega), (hGy1 9 0 rfl).1]; exact hB.1, by rw [eYy10, upI_ne (by omega), (hGy1 9 1 rfl).1]; exact hB.2.1, by rw [eYy10, upI_ne (by omega), (hGy1 9 2 rfl).1]; exact hB.2.2.1, fun j hj => by exact ⟨by rw [eYy10, upI_ne (by omega), (hGy1 9 (3 + 2 * j) rfl).1]; exact (hB.2.2.2.1 j hj).1, by rw [eYy10, upI_ne (by omega), (hGy1 9 (4 + 2 * j) rfl).1]; exact (hB.2.2.2.1 j hj).2⟩, fun q => ?_, by rw [eYy10, upI_nc (by decide)]; rw [gtv2]; have := gtm_ge (X.1 0 21) (tnV b N t); have := hB.2.2.2.2.2.1; omega, hB.2.2.2.2.2.2⟩
            have q2 := tnF_0 q
            have q3 := q2.2 (by omega)
            exfalso
            omega
          refine x_aload_n (i := 0) C dX12_boardLine_278 rfl rfl ?_
          refine x_getI C fkM_X12_190 (nlt rfl) rfl dX12_boardLine_279 ?_
          refine x_gen (fun v11 ev11 => ?_)
          have qv11 : ((-2147483648) : Int) ≤ v11 ∧ v11 ≤ (2147483647 : Int) := by
            rw [ev11]
            exact hHy10.rF (k := 0) (i := 12) rfl rfl
          have kv11 : v11 = Yy1.1 0 12 := by rw [ev11, eYy10, upI_nc (by decide)]
          refine x_iconst C dX12_boardLine_282 ?_
          refine x_icmp_eq (tgt := 209) C dX12_boardLine_283 (by decide) ⟨by omega, by omega⟩ ⟨by omega, by omega⟩ (fun h12 => ?_) (fun h12 => ?_)
          · have kk : tK b N (tnS b N t) = 2 := (sK_3 hKy10.2.2.2.2.2.2 (tK_bd b N _).2).mp (by have := hKy10.2.1; omega)
            obtain ⟨k1, rfl⟩ : ∃ k1, k = k1 + 1 := ⟨k - 1, by omega⟩
            rw [rF_S k2, ← ev] at hr
            refine Wx_pick [0, 1] ?_
            refine Wx_lv (lv' := [(0, .ref 0), (1, .long (wd))]) rfl ?_
            exact ih k1 _ (nx b N t) _ _ (by omega) hHy10 hFy10 (by rw [← es]; exact hKy10) hLy10 (by rw [← es]; exact hOy1) hBn hr (by omega) (.inr (by rw [← es]; exact kk)) (by omega)
          · have kn : tK b N (tnS b N t) ≠ 2 := fun g => by
              have g1 := (sK_3 hKy10.2.2.2.2.2.2 (tK_bd b N _).2).mpr g
              have g2 := hKy10.2.1
              omega
            obtain ⟨k1, rfl⟩ : ∃ k1, k = k1 + 1 := ⟨k - 1, by omega⟩
            rw [rF_S k2, rF_E (by rw [← es]; exact kn), ← ev] at hr
            refine x_iconst C dX12_boardLine_286 ?_
            exact x_zret C hQ (by omega) dX12_boardLine_287 (⟨_, rfl, hHy10, hFy10, nx b N t, tnF b N 0 35 t Gf, bpt B (w ||| bitI (tnV b N t)), by rw [← es]; exact hKy10, hLy10, by rw [← es]; exact hOy1, .inl ⟨rfl, by omega, by rw [bL_3 n0 n1 n2 wk, ← hr, finB_ok (show w ||| bitI (tnV b N t) ≠ 0 from bitI_0)], hBn⟩⟩)
        · refine x_iconst C dX12_boardLine_272 ?_
          refine x_goto (tgt := 277) C dX12_boardLine_273 (by decide) ?_
          refine x_iast C (nlt rfl) rfl rfl (nle rfl) (by omega) (by omega) dX12_boardLine_277 ?_
          refine x_gX (fun Yy13 eYy13 => ?_)
          have hHy13 : HG vM Yy13 := by
            rw [eYy13]
            exact hg_wF hHy1 (p := ((-1), 99)) rfl ⟨by omega, by omega⟩
          have hFy13 : FR mmBL X0 Yy13 := by
            rw [eYy13]
            exact FR.upI hFy1 (rfl)
          replace eYy13 : Yy13 = upI Yy1 9 15 (1) := eYy13
          have hGy13 : FR [(9, some 15)] Yy1 Yy13 := by
            rw [eYy13]
            exact FR.upI FR.rf rfl
          have hKy13 := hKy1.fr hGy13 rfl
          have hLy13 := hLy1.fr hGy13 rfl
          have hBn : BDM (tnF b N 0 35 t Gf) (bpt B (w ||| bitI (tnV b N t))) Yy13 := by
            refine ⟨by rw [eYy13, upI_ne (by omega), (hGy1 9 0 rfl).1]; exact hB.1, by rw [eYy13, upI_ne (by omega), (hGy1 9 1 rfl).1]; exact hB.2.1, by rw [eYy13, upI_ne (by omega), (hGy1 9 2 rfl).1]; exact hB.2.2.1, fun j hj => by exact ⟨by rw [eYy13, upI_ne (by omega), (hGy1 9 (3 + 2 * j) rfl).1]; exact (hB.2.2.2.1 j hj).1, by rw [eYy13, upI_ne (by omega), (hGy1 9 (4 + 2 * j) rfl).1]; exact (hB.2.2.2.1 j hj).2⟩, fun q => ?_, by rw [eYy13, upI_nc (by decide)]; rw [gtv2]; have := gtm_ge (X.1 0 21) (tnV b N t); have := hB.2.2.2.2.2.1; omega, hB.2.2.2.2.2.2⟩
            have q2 := tnF_0 q
            have q3 := q2.2 (by omega)
            exfalso
            omega
          refine x_aload_n (i := 0) C dX12_boardLine_278 rfl rfl ?_
          refine x_getI C fkM_X12_190 (nlt rfl) rfl dX12_boardLine_279 ?_
          refine x_gen (fun v14 ev14 => ?_)
          have qv14 : ((-2147483648) : Int) ≤ v14 ∧ v14 ≤ (2147483647 : Int) := by
            rw [ev14]
            exact hHy13.rF (k := 0) (i := 12) rfl rfl
          have kv14 : v14 = Yy1.1 0 12 := by rw [ev14, eYy13, upI_nc (by decide)]
          refine x_iconst C dX12_boardLine_282 ?_
          refine x_icmp_eq (tgt := 209) C dX12_boardLine_283 (by decide) ⟨by omega, by omega⟩ ⟨by omega, by omega⟩ (fun h15 => ?_) (fun h15 => ?_)
          · have kk : tK b N (tnS b N t) = 2 := (sK_3 hKy13.2.2.2.2.2.2 (tK_bd b N _).2).mp (by have := hKy13.2.1; omega)
            obtain ⟨k1, rfl⟩ : ∃ k1, k = k1 + 1 := ⟨k - 1, by omega⟩
            rw [rF_S k2, ← ev] at hr
            refine Wx_pick [0, 1] ?_
            refine Wx_lv (lv' := [(0, .ref 0), (1, .long (wd))]) rfl ?_
            exact ih k1 _ (nx b N t) _ _ (by omega) hHy13 hFy13 (by rw [← es]; exact hKy13) hLy13 (by rw [← es]; exact hOy1) hBn hr (by omega) (.inr (by rw [← es]; exact kk)) (by omega)
          · have kn : tK b N (tnS b N t) ≠ 2 := fun g => by
              have g1 := (sK_3 hKy13.2.2.2.2.2.2 (tK_bd b N _).2).mpr g
              have g2 := hKy13.2.1
              omega
            obtain ⟨k1, rfl⟩ : ∃ k1, k = k1 + 1 := ⟨k - 1, by omega⟩
            rw [rF_S k2, rF_E (by rw [← es]; exact kn), ← ev] at hr
            refine x_iconst C dX12_boardLine_286 ?_
            exact x_zret C hQ (by omega) dX12_boardLine_287 (⟨_, rfl, hHy13, hFy13, nx b N t, tnF b N 0 35 t Gf, bpt B (w ||| bitI (tnV b N t)), by rw [← es]; exact hKy13, hLy13, by rw [← es]; exact hOy1, .inl ⟨rfl, by omega, by rw [bL_3 n0 n1 n2 wk, ← hr, finB_ok (show w ||| bitI (tnV b N t) ≠ 0 from bitI_0)], hBn⟩⟩)
      · refine x_aload_n (i := 0) C dX12_boardLine_227 rfl rfl ?_
        refine x_getI C fkM_X12_209 (nlt rfl) rfl dX12_boardLine_228 ?_
        refine x_gen (fun v16 ev16 => ?_)
        have qv16 : ((-2147483648) : Int) ≤ v16 ∧ v16 ≤ (2147483647 : Int) := by
          rw [ev16]
          exact hHy1.rF (k := 0) (i := 20) rfl rfl
        have rvv16 : v16 = tnV b N t := by rw [ev16]; exact tkv2.elim (fun g => g.2.2) (fun g => by exfalso; have := g.1; omega)
        refine x_goto (tgt := 235) C dX12_boardLine_231 (by decide) ?_
        refine x_istore (lv' := [(4, .int (iI (v16))), (0, .ref 0), (1, .long (wd))]) C dX12_boardLine_235 (nlt rfl) rfl ?_
        refine x_aload_n (i := 0) C dX12_boardLine_237 rfl rfl ?_
        refine x_getRs (r := 9) C fkM_X12_35 (nlt rfl) rfl (HG.rR hHy1 (k := 0) (i := 18) rfl rfl) dX12_boardLine_238 ?_
        refine x_bipush C dX12_boardLine_241 (by decide) ?_
        refine x_iload C dX12_boardLine_243 rfl ?_
        refine x_iadd C dX12_boardLine_245 ?_
        refine x_lload_n (i := 1) C dX12_boardLine_246 rfl rfl ?_
        refine x_ldc2 C dX12_boardLine_247 cnX12_232 ?_
        refine x_lcmp C dX12_boardLine_250 ?_
        refine x_topi (fun v17 rv17 ev17 => ?_)
        have cv17 := lcmp_iff rv17 ev17
        unfold inR at rv17
        have zzv17 : v17 ≠ 0 := fun g => e2 (cv17.1.mp g)
        refine x_if_ne (tgt := 258) C dX12_boardLine_251 (by decide) ⟨by omega, by omega⟩ (fun h18 => ?_) (fun h18 => by exfalso; omega)
        refine x_aload_n (i := 0) C dX12_boardLine_258 rfl rfl ?_
        refine x_getRs (r := 9) C fkM_X12_35 (nlt rfl) rfl (HG.rR hHy1 (k := 0) (i := 18) rfl rfl) dX12_boardLine_259 ?_
        refine x_bipush C dX12_boardLine_262 (by decide) ?_
        refine x_iload C dX12_boardLine_264 rfl ?_
        refine x_iadd C dX12_boardLine_266 ?_
        refine x_iald C (nlt rfl) rfl rfl (nle rfl) (by omega) (by omega) dX12_boardLine_267 ?_
        refine x_gen (fun v19 ev19 => ?_)
        have qv19 : ((-1) : Int) ≤ v19 ∧ v19 ≤ (99 : Int) := by
          rw [ev19]
          exact hHy1.rA (k := 9) (n := 331) (p := ((-1), 99)) (nlt rfl) rfl (by decide +kernel) (by omega)
        have ktv19 : v19 = X.1 9 (15 + v16).toNat := by rw [ev19, (hGy1 9 (15 + v16).toNat rfl).1]
        refine x_iconst C dX12_boardLine_268 ?_
        refine x_icmp_ne (tgt := 276) C dX12_boardLine_269 (by decide) ⟨by omega, by omega⟩ ⟨by omega, by omega⟩ (fun h20 => ?_) (fun h20 => ?_)
        · refine x_iconst C dX12_boardLine_276 ?_
          refine x_iast C (nlt rfl) rfl rfl (nle rfl) (by omega) (by omega) dX12_boardLine_277 ?_
          refine x_gX (fun Yy21 eYy21 => ?_)
          have hHy21 : HG vM Yy21 := by
            rw [eYy21]
            exact hg_wA hHy1 (n := 331) (p := ((-1), 99)) (by decide +kernel) (by omega) ⟨by omega, by omega⟩
          have hFy21 : FR mmBL X0 Yy21 := by
            rw [eYy21]
            exact FR.upI hFy1 (rfl)
          have hGy21 : FR [(9, none)] Yy1 Yy21 := by
            rw [eYy21]
            exact FR.upI FR.rf rfl
          have hKy21 := hKy1.fr hGy21 rfl
          have hLy21 := hLy1.fr hGy21 rfl
          have hBn : BDM (tnF b N 0 35 t Gf) (bpt B (w ||| bitI (tnV b N t))) Yy21 := by
            refine ⟨by rw [eYy21, upI_ne (by omega), (hGy1 9 0 rfl).1]; exact hB.1, by rw [eYy21, upI_ne (by omega), (hGy1 9 1 rfl).1]; exact hB.2.1, by rw [eYy21, upI_ne (by omega), (hGy1 9 2 rfl).1]; exact hB.2.2.1, fun j hj => by exact ⟨by rw [eYy21, upI_ne (by omega), (hGy1 9 (3 + 2 * j) rfl).1]; exact (hB.2.2.2.1 j hj).1, by rw [eYy21, upI_ne (by omega), (hGy1 9 (4 + 2 * j) rfl).1]; exact (hB.2.2.2.1 j hj).2⟩, fun q => ?_, by rw [eYy21, upI_nc (by decide)]; rw [gtv2]; have := gtm_ge (X.1 0 21) (tnV b N t); have := hB.2.2.2.2.2.1; omega, hB.2.2.2.2.2.2⟩
            have q2 := tnF_0 q
            have q3 := q2.2 (by omega)
            have q4 := hB.2.2.2.2.1 q2.1
            refine ⟨fun f hf => ?_, by rw [eYy21, upI_nc (by decide)]; rw [gtv2]; exact gOK_p q4.2 q3.1 q3.2⟩
            have g1 := q4.1 f hf
            show _ = grF B.2.2.1 (B.2.2.2.1 ||| (w ||| bitI (tnV b N t))) f
            rw [← Int64.or_assoc, grF_p q3.1 q3.2]
            by_cases e : (f : Int) = tnV b N t
            · have g2 := ktv19
              rw [show (15 + v16).toNat = 15 + f by omega] at g2
              have g2 := g2.trans g1
              rw [if_pos e, show 15 + f = (15 + v16).toNat by omega, eYy21, upI_at]
              rw [if_neg (show ¬ grF B.2.2.1 (B.2.2.2.1 ||| w) f = 1 from fun g => absurd (g2.trans g) (by omega))]
            · rw [if_neg e, eYy21, upI_ne (by omega), (hGy1 9 (15 + f) rfl).1]
              exact g1
          refine x_aload_n (i := 0) C dX12_boardLine_278 rfl rfl ?_
          refine x_getI C fkM_X12_190 (nlt rfl) rfl dX12_boardLine_279 ?_
          refine x_gen (fun v22 ev22 => ?_)
          have qv22 : ((-2147483648) : Int) ≤ v22 ∧ v22 ≤ (2147483647 : Int) := by
            rw [ev22]
            exact hHy21.rF (k := 0) (i := 12) rfl rfl
          have kv22 : v22 = Yy1.1 0 12 := by rw [ev22, eYy21, upI_nc (by decide)]
          refine x_iconst C dX12_boardLine_282 ?_
          refine x_icmp_eq (tgt := 209) C dX12_boardLine_283 (by decide) ⟨by omega, by omega⟩ ⟨by omega, by omega⟩ (fun h23 => ?_) (fun h23 => ?_)
          · have kk : tK b N (tnS b N t) = 2 := (sK_3 hKy21.2.2.2.2.2.2 (tK_bd b N _).2).mp (by have := hKy21.2.1; omega)
            obtain ⟨k1, rfl⟩ : ∃ k1, k = k1 + 1 := ⟨k - 1, by omega⟩
            rw [rF_S k2, ← ev] at hr
            refine Wx_pick [0, 1] ?_
            refine Wx_lv (lv' := [(0, .ref 0), (1, .long (wd))]) rfl ?_
            exact ih k1 _ (nx b N t) _ _ (by omega) hHy21 hFy21 (by rw [← es]; exact hKy21) hLy21 (by rw [← es]; exact hOy1) hBn hr (by omega) (.inr (by rw [← es]; exact kk)) (by omega)
          · have kn : tK b N (tnS b N t) ≠ 2 := fun g => by
              have g1 := (sK_3 hKy21.2.2.2.2.2.2 (tK_bd b N _).2).mpr g
              have g2 := hKy21.2.1
              omega
            obtain ⟨k1, rfl⟩ : ∃ k1, k = k1 + 1 := ⟨k - 1, by omega⟩
            rw [rF_S k2, rF_E (by rw [← es]; exact kn), ← ev] at hr
            refine x_iconst C dX12_boardLine_286 ?_
            exact x_zret C hQ (by omega) dX12_boardLine_287 (⟨_, rfl, hHy21, hFy21, nx b N t, tnF b N 0 35 t Gf, bpt B (w ||| bitI (tnV b N t)), by rw [← es]; exact hKy21, hLy21, by rw [← es]; exact hOy1, .inl ⟨rfl, by omega, by rw [bL_3 n0 n1 n2 wk, ← hr, finB_ok (show w ||| bitI (tnV b N t) ≠ 0 from bitI_0)], hBn⟩⟩)
        · refine x_iconst C dX12_boardLine_272 ?_
          refine x_goto (tgt := 277) C dX12_boardLine_273 (by decide) ?_
          refine x_iast C (nlt rfl) rfl rfl (nle rfl) (by omega) (by omega) dX12_boardLine_277 ?_
          refine x_gX (fun Yy24 eYy24 => ?_)
          have hHy24 : HG vM Yy24 := by
            rw [eYy24]
            exact hg_wA hHy1 (n := 331) (p := ((-1), 99)) (by decide +kernel) (by omega) ⟨by omega, by omega⟩
          have hFy24 : FR mmBL X0 Yy24 := by
            rw [eYy24]
            exact FR.upI hFy1 (rfl)
          have hGy24 : FR [(9, none)] Yy1 Yy24 := by
            rw [eYy24]
            exact FR.upI FR.rf rfl
          have hKy24 := hKy1.fr hGy24 rfl
          have hLy24 := hLy1.fr hGy24 rfl
          have hBn : BDM (tnF b N 0 35 t Gf) (bpt B (w ||| bitI (tnV b N t))) Yy24 := by
            refine ⟨by rw [eYy24, upI_ne (by omega), (hGy1 9 0 rfl).1]; exact hB.1, by rw [eYy24, upI_ne (by omega), (hGy1 9 1 rfl).1]; exact hB.2.1, by rw [eYy24, upI_ne (by omega), (hGy1 9 2 rfl).1]; exact hB.2.2.1, fun j hj => by exact ⟨by rw [eYy24, upI_ne (by omega), (hGy1 9 (3 + 2 * j) rfl).1]; exact (hB.2.2.2.1 j hj).1, by rw [eYy24, upI_ne (by omega), (hGy1 9 (4 + 2 * j) rfl).1]; exact (hB.2.2.2.1 j hj).2⟩, fun q => ?_, by rw [eYy24, upI_nc (by decide)]; rw [gtv2]; have := gtm_ge (X.1 0 21) (tnV b N t); have := hB.2.2.2.2.2.1; omega, hB.2.2.2.2.2.2⟩
            have q2 := tnF_0 q
            have q3 := q2.2 (by omega)
            have q4 := hB.2.2.2.2.1 q2.1
            refine ⟨fun f hf => ?_, by rw [eYy24, upI_nc (by decide)]; rw [gtv2]; exact gOK_p q4.2 q3.1 q3.2⟩
            have g1 := q4.1 f hf
            show _ = grF B.2.2.1 (B.2.2.2.1 ||| (w ||| bitI (tnV b N t))) f
            rw [← Int64.or_assoc, grF_p q3.1 q3.2]
            by_cases e : (f : Int) = tnV b N t
            · have g2 := ktv19
              rw [show (15 + v16).toNat = 15 + f by omega] at g2
              have g2 := g2.trans g1
              rw [if_pos e, show 15 + f = (15 + v16).toNat by omega, eYy24, upI_at]
              rw [if_pos (show grF B.2.2.1 (B.2.2.2.1 ||| w) f = 1 from g2.symm.trans (by omega))]
            · rw [if_neg e, eYy24, upI_ne (by omega), (hGy1 9 (15 + f) rfl).1]
              exact g1
          refine x_aload_n (i := 0) C dX12_boardLine_278 rfl rfl ?_
          refine x_getI C fkM_X12_190 (nlt rfl) rfl dX12_boardLine_279 ?_
          refine x_gen (fun v25 ev25 => ?_)
          have qv25 : ((-2147483648) : Int) ≤ v25 ∧ v25 ≤ (2147483647 : Int) := by
            rw [ev25]
            exact hHy24.rF (k := 0) (i := 12) rfl rfl
          have kv25 : v25 = Yy1.1 0 12 := by rw [ev25, eYy24, upI_nc (by decide)]
          refine x_iconst C dX12_boardLine_282 ?_
          refine x_icmp_eq (tgt := 209) C dX12_boardLine_283 (by decide) ⟨by omega, by omega⟩ ⟨by omega, by omega⟩ (fun h26 => ?_) (fun h26 => ?_)
          · have kk : tK b N (tnS b N t) = 2 := (sK_3 hKy24.2.2.2.2.2.2 (tK_bd b N _).2).mp (by have := hKy24.2.1; omega)
            obtain ⟨k1, rfl⟩ : ∃ k1, k = k1 + 1 := ⟨k - 1, by omega⟩
            rw [rF_S k2, ← ev] at hr
            refine Wx_pick [0, 1] ?_
            refine Wx_lv (lv' := [(0, .ref 0), (1, .long (wd))]) rfl ?_
            exact ih k1 _ (nx b N t) _ _ (by omega) hHy24 hFy24 (by rw [← es]; exact hKy24) hLy24 (by rw [← es]; exact hOy1) hBn hr (by omega) (.inr (by rw [← es]; exact kk)) (by omega)
          · have kn : tK b N (tnS b N t) ≠ 2 := fun g => by
              have g1 := (sK_3 hKy24.2.2.2.2.2.2 (tK_bd b N _).2).mpr g
              have g2 := hKy24.2.1
              omega
            obtain ⟨k1, rfl⟩ : ∃ k1, k = k1 + 1 := ⟨k - 1, by omega⟩
            rw [rF_S k2, rF_E (by rw [← es]; exact kn), ← ev] at hr
            refine x_iconst C dX12_boardLine_286 ?_
            exact x_zret C hQ (by omega) dX12_boardLine_287 (⟨_, rfl, hHy24, hFy24, nx b N t, tnF b N 0 35 t Gf, bpt B (w ||| bitI (tnV b N t)), by rw [← es]; exact hKy24, hLy24, by rw [← es]; exact hOy1, .inl ⟨rfl, by omega, by rw [bL_3 n0 n1 n2 wk, ← hr, finB_ok (show w ||| bitI (tnV b N t) ≠ 0 from bitI_0)], hBn⟩⟩)
    · have k2 : tK b N t ≠ 2 := tkv2.elim (fun g => by exfalso; have := g.1; omega) (fun g => g.2.1)
      have w0 : w = 0 := hw.elim id (fun g => absurd g k2)
      rw [rF_E k2, w0] at hr
      have hK1 := hKy1
      rw [tnS_n k2] at hK1
      have hL1 := hLy1
      rw [tnF_n k2] at hL1
      refine x_iconst C dX12_boardLine_216 ?_
      exact x_zret C hQ (by omega) dX12_boardLine_217 (⟨_, rfl, hHy1, hFy1, t, Gf, bpt B 0, hK1, hL1, hO, .inr ⟨rfl, tkv2.elim (fun g => by exfalso; have := g.1; omega) (fun g => g.2.2), by rw [bL_3 n0 n1 n2 wk, ← hr, finB_n (.inl (fun g => g rfl))]⟩⟩)
