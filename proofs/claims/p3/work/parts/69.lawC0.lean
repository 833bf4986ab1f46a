set_option maxHeartbeats 4000000 in
theorem lc_0 {E : ET} {D : va_G} {ad ad2 : Nat → Nat} {cA cA2 : Nat → ClassId} {b L i : Nat} {zs : Nat → Int} (C : CX E (wI D) cL_law 4 RL (some .boolean) room_1) (hX : LAW E b L (fun j => iI (zs j))) (hz : ∀ j, inR (zs j)) (hW : LW E D ad ad2 cA cA2) (i6 : i + 6 ≤ L) (hL : L ≤ 3072) {X Y : XT} (hHx : HG vX X) (hEx : gX.2 X) (hHy : HG vM Y) (hEy : gM.2 Y) (hR : TRL X Y) (hE : ∀ X1 Y1 : XT, HG vX X1 → gX.2 X1 → HG vM Y1 → gM.2 Y1 → TRL X1 Y1 → Wx E (wI D) 4 (fun H => PX (wX D ad cA) X1 H ∧ PX (wM D ad2 cA2) Y1 H) 1443 [(3, .int (iI ((i : Int)))), (2, .ref (ad2 0)), (1, .ref (ad 0)), (0, .ref b)] []) : Wx E (wI D) 4 (fun H => PX (wX D ad cA) X H ∧ PX (wM D ad2 cA2) Y H) 164 [(3, .int (iI ((i : Int)))), (2, .ref (ad2 0)), (1, .ref (ad 0)), (0, .ref b)] [] := by
  refine x_aload_n (i := 1) C dL_law_164 rfl rfl ?_
  refine x_aload_n (i := 0) C dL_law_165 rfl rfl ?_
  refine x_iload_n (i := 3) C dL_law_166 rfl rfl ?_
  refine x_iconst C dL_law_167 ?_
  refine x_iadd C dL_law_168 ?_
  refine L_sldz (j := i + 1) C hX (by omega) (by omega) (by omega) dL_law_169 ?_
  refine x_aload_n (i := 0) C dL_law_170 rfl rfl ?_
  refine x_iload_n (i := 3) C dL_law_171 rfl rfl ?_
  refine x_iconst C dL_law_172 ?_
  refine x_iadd C dL_law_173 ?_
  refine L_sldz (j := i + 2) C hX (by omega) (by omega) (by omega) dL_law_174 ?_
  refine x_aload_n (i := 0) C dL_law_175 rfl rfl ?_
  refine x_iload_n (i := 3) C dL_law_176 rfl rfl ?_
  refine x_iconst C dL_law_177 ?_
  refine x_iadd C dL_law_178 ?_
  refine L_sldz (j := i + 3) C hX (by omega) (by omega) (by omega) dL_law_179 ?_
  refine x_aload_n (i := 0) C dL_law_180 rfl rfl ?_
  refine x_iload_n (i := 3) C dL_law_181 rfl rfl ?_
  refine x_iconst C dL_law_182 ?_
  refine x_iadd C dL_law_183 ?_
  refine L_sldz (j := i + 4) C hX (by omega) (by omega) (by omega) dL_law_184 ?_
  refine x_aload_n (i := 0) C dL_law_185 rfl rfl ?_
  refine x_iload_n (i := 3) C dL_law_186 rfl rfl ?_
  refine x_iconst C dL_law_187 ?_
  refine x_iadd C dL_law_188 ?_
  refine L_sldz (j := i + 5) C hX (by omega) (by omega) (by omega) dL_law_189 ?_
  refine L_call (R := PX (wM D ad2 cA2) Y) C ⟨rfl, rfl⟩ hW.1 hW.2.1 (L_keep (X := Y) hW.2.2.2.2.1) (xq_feed (z1 := zs (i + 1)) (z2 := zs (i + 2)) (z3 := zs (i + 3)) (z4 := zs (i + 4)) (z5 := zs (i + 5)) (hz _) (hz _) (hz _) (hz _) (hz _) hHx hEx) ckL_13 im_X11_feed se_X11_feed (nlt rfl) rfl rfl rfl rfl rfl (nle rfl) ⟨nle rfl, nle rfl⟩ dL_law_190 (fun r X1 hp => ?_)
  obtain ⟨u, rfl, ru, hHx1, hEx1, dx⟩ := hp
  refine Wx_st (st' := [.int (iI u)]) rfl ?_
  refine x_pop C dL_law_193 rfl ?_
  refine x_aload_n (i := 2) C dL_law_194 rfl rfl ?_
  refine x_aload_n (i := 0) C dL_law_195 rfl rfl ?_
  refine x_iload_n (i := 3) C dL_law_196 rfl rfl ?_
  refine x_iconst C dL_law_197 ?_
  refine x_iadd C dL_law_198 ?_
  refine L_sldz (j := i + 1) C hX (by omega) (by omega) (by omega) dL_law_199 ?_
  refine x_aload_n (i := 0) C dL_law_200 rfl rfl ?_
  refine x_iload_n (i := 3) C dL_law_201 rfl rfl ?_
  refine x_iconst C dL_law_202 ?_
  refine x_iadd C dL_law_203 ?_
  refine L_sldz (j := i + 2) C hX (by omega) (by omega) (by omega) dL_law_204 ?_
  refine x_aload_n (i := 0) C dL_law_205 rfl rfl ?_
  refine x_iload_n (i := 3) C dL_law_206 rfl rfl ?_
  refine x_iconst C dL_law_207 ?_
  refine x_iadd C dL_law_208 ?_
  refine L_sldz (j := i + 3) C hX (by omega) (by omega) (by omega) dL_law_209 ?_
  refine x_aload_n (i := 0) C dL_law_210 rfl rfl ?_
  refine x_iload_n (i := 3) C dL_law_211 rfl rfl ?_
  refine x_iconst C dL_law_212 ?_
  refine x_iadd C dL_law_213 ?_
  refine L_sldz (j := i + 4) C hX (by omega) (by omega) (by omega) dL_law_214 ?_
  refine x_aload_n (i := 0) C dL_law_215 rfl rfl ?_
  refine x_iload_n (i := 3) C dL_law_216 rfl rfl ?_
  refine x_iconst C dL_law_217 ?_
  refine x_iadd C dL_law_218 ?_
  refine L_sldz (j := i + 5) C hX (by omega) (by omega) (by omega) dL_law_219 ?_
  refine Wx_PH (PH' := fun H => PX (wM D ad2 cA2) Y H ∧ PX (wX D ad cA) X1 H) (fun H h => ⟨h.2, h.1⟩) ?_
  refine L_call (R := PX (wX D ad cA) X1) C ⟨rfl, rfl⟩ hW.2.2.1 hW.2.2.2.1 (L_keep (X := X1) (fun x h h9 => hW.2.2.2.2.1 x h9 h)) (rq_feed (z1 := zs (i + 1)) (z2 := zs (i + 2)) (z3 := zs (i + 3)) (z4 := zs (i + 4)) (z5 := zs (i + 5)) (hz _) (hz _) (hz _) (hz _) (hz _) hHy hEy) ckL_17 im_X12_feed se_X12_feed (nlt rfl) rfl rfl rfl rfl rfl (nle rfl) ⟨nle rfl, nle rfl⟩ dL_law_220 (fun r Y1 hp => ?_)
  obtain ⟨v, rfl, rv, hHy1, hEy1, dy⟩ := hp
  refine Wx_st (st' := [.int (iI v)]) rfl ?_
  refine x_pop C dL_law_223 rfl ?_
  refine x_goto (tgt := 1443) C dL_law_224 (by decide) ?_
  have hR1 : TRL X1 Y1 ∧ u = v := st_feed hR hHy dx dy
  refine Wx_PH (PH' := fun H => PX (wX D ad cA) X1 H ∧ PX (wM D ad2 cA2) Y1 H) (fun H h => ⟨h.2, h.1⟩) ?_
  exact hE X1 Y1 hHx1 hEx1 hHy1 hEy1 hR1.1
set_option maxHeartbeats 4000000 in
theorem lc_1 {E : ET} {D : va_G} {ad ad2 : Nat → Nat} {cA cA2 : Nat → ClassId} {b L i : Nat} {zs : Nat → Int} (C : CX E (wI D) cL_law 4 RL (some .boolean) room_1) (hX : LAW E b L (fun j => iI (zs j))) (hz : ∀ j, inR (zs j)) (hW : LW E D ad ad2 cA cA2) (i6 : i + 6 ≤ L) (hL : L ≤ 3072) {X Y : XT} (hHx : HG vX X) (hEx : gX.2 X) (hHy : HG vM Y) (hEy : gM.2 Y) (hR : TRL X Y) (hE : ∀ X1 Y1 : XT, HG vX X1 → gX.2 X1 → HG vM Y1 → gM.2 Y1 → TRL X1 Y1 → Wx E (wI D) 4 (fun H => PX (wX D ad cA) X1 H ∧ PX (wM D ad2 cA2) Y1 H) 1443 [(3, .int (iI ((i : Int)))), (2, .ref (ad2 0)), (1, .ref (ad 0)), (0, .ref b)] []) : Wx E (wI D) 4 (fun H => PX (wX D ad cA) X H ∧ PX (wM D ad2 cA2) Y H) 227 [(3, .int (iI ((i : Int)))), (2, .ref (ad2 0)), (1, .ref (ad 0)), (0, .ref b)] [] := by
  refine x_aload_n (i := 1) C dL_law_227 rfl rfl ?_
  refine x_aload_n (i := 0) C dL_law_228 rfl rfl ?_
  refine x_iload_n (i := 3) C dL_law_229 rfl rfl ?_
  refine x_iconst C dL_law_230 ?_
  refine x_iadd C dL_law_231 ?_
  refine L_sldz (j := i + 1) C hX (by omega) (by omega) (by omega) dL_law_232 ?_
  refine L_call (R := PX (wM D ad2 cA2) Y) C ⟨rfl, rfl⟩ hW.1 hW.2.1 (L_keep (X := Y) hW.2.2.2.2.1) (xq_end (z1 := zs (i + 1)) (hz _) hHx hEx) ckL_18 im_X11_end se_X11_end (nlt rfl) rfl rfl rfl rfl rfl (nle rfl) ⟨nle rfl, nle rfl⟩ dL_law_233 (fun r X1 hp => ?_)
  obtain ⟨u, rfl, ru, hHx1, hEx1, dx⟩ := hp
  refine Wx_st (st' := [.int (iI u)]) rfl ?_
  refine x_aload_n (i := 2) C dL_law_236 rfl rfl ?_
  refine x_aload_n (i := 0) C dL_law_237 rfl rfl ?_
  refine x_iload_n (i := 3) C dL_law_238 rfl rfl ?_
  refine x_iconst C dL_law_239 ?_
  refine x_iadd C dL_law_240 ?_
  refine L_sldz (j := i + 1) C hX (by omega) (by omega) (by omega) dL_law_241 ?_
  refine Wx_PH (PH' := fun H => PX (wM D ad2 cA2) Y H ∧ PX (wX D ad cA) X1 H) (fun H h => ⟨h.2, h.1⟩) ?_
  refine L_call (R := PX (wX D ad cA) X1) C ⟨rfl, rfl⟩ hW.2.2.1 hW.2.2.2.1 (L_keep (X := X1) (fun x h h9 => hW.2.2.2.2.1 x h9 h)) (rq_end (z1 := zs (i + 1)) (hz _) hHy hEy) ckL_22 im_X12_end se_X12_end (nlt rfl) rfl rfl rfl rfl rfl (nle rfl) ⟨nle rfl, nle rfl⟩ dL_law_242 (fun r Y1 hp => ?_)
  obtain ⟨v, rfl, rv, hHy1, hEy1, dy⟩ := hp
  refine Wx_st (st' := [.int (iI v), .int (iI u)]) rfl ?_
  have hR1 : TRL X1 Y1 ∧ u = v := st_end hR hHy dx dy
  refine x_icmp_eq (tgt := 1443) C dL_law_245 (by decide) ru rv (fun _ => ?_) (fun h => absurd hR1.2 h)
  refine Wx_PH (PH' := fun H => PX (wX D ad cA) X1 H ∧ PX (wM D ad2 cA2) Y1 H) (fun H h => ⟨h.2, h.1⟩) ?_
  exact hE X1 Y1 hHx1 hEx1 hHy1 hEy1 hR1.1
set_option maxHeartbeats 4000000 in
theorem lc_2 {E : ET} {D : va_G} {ad ad2 : Nat → Nat} {cA cA2 : Nat → ClassId} {b L i : Nat} {zs : Nat → Int} (C : CX E (wI D) cL_law 4 RL (some .boolean) room_1) (hX : LAW E b L (fun j => iI (zs j))) (hz : ∀ j, inR (zs j)) (hW : LW E D ad ad2 cA cA2) (i6 : i + 6 ≤ L) (hL : L ≤ 3072) {X Y : XT} (hHx : HG vX X) (hEx : gX.2 X) (hHy : HG vM Y) (hEy : gM.2 Y) (hR : TRL X Y) (hE : ∀ X1 Y1 : XT, HG vX X1 → gX.2 X1 → HG vM Y1 → gM.2 Y1 → TRL X1 Y1 → Wx E (wI D) 4 (fun H => PX (wX D ad cA) X1 H ∧ PX (wM D ad2 cA2) Y1 H) 1443 [(3, .int (iI ((i : Int)))), (2, .ref (ad2 0)), (1, .ref (ad 0)), (0, .ref b)] []) : Wx E (wI D) 4 (fun H => PX (wX D ad cA) X H ∧ PX (wM D ad2 cA2) Y H) 250 [(3, .int (iI ((i : Int)))), (2, .ref (ad2 0)), (1, .ref (ad 0)), (0, .ref b)] [] := by
  refine x_aload_n (i := 1) C dL_law_250 rfl rfl ?_
  refine x_aload_n (i := 0) C dL_law_251 rfl rfl ?_
  refine x_iload_n (i := 3) C dL_law_252 rfl rfl ?_
  refine x_iconst C dL_law_253 ?_
  refine x_iadd C dL_law_254 ?_
  refine L_sldz (j := i + 1) C hX (by omega) (by omega) (by omega) dL_law_255 ?_
  refine x_aload_n (i := 0) C dL_law_256 rfl rfl ?_
  refine x_iload_n (i := 3) C dL_law_257 rfl rfl ?_
  refine x_iconst C dL_law_258 ?_
  refine x_iadd C dL_law_259 ?_
  refine L_sldz (j := i + 2) C hX (by omega) (by omega) (by omega) dL_law_260 ?_
  refine L_callS (R := PX (wM D ad2 cA2) Y) C ⟨rfl, rfl⟩ hW.1 hW.2.2.2.2.2 hW.2.1 (L_keep (X := Y) hW.2.2.2.2.1) (xq_text (b := fun i => Y.1 1 i % 256) (N := (Y.1 2 0).toNat) (z1 := zs (i + 1)) (z2 := zs (i + 2)) (hz _) (hz _) (tapeN hR hHy) (tapeB hR hHy) hHx hEx) ckL_23 im_X11_text se_X11_text (nlt rfl) rfl rfl rfl rfl rfl (nle rfl) ⟨nle rfl, nle rfl⟩ dL_law_261 (fun r X1 hp => ?_)
  obtain ⟨u, rfl, ru, hHx1, hEx1, dx⟩ := hp
  refine Wx_st (st' := [.int (iI u)]) rfl ?_
  refine x_pop C dL_law_264 rfl ?_
  refine x_aload_n (i := 2) C dL_law_265 rfl rfl ?_
  refine x_aload_n (i := 0) C dL_law_266 rfl rfl ?_
  refine x_iload_n (i := 3) C dL_law_267 rfl rfl ?_
  refine x_iconst C dL_law_268 ?_
  refine x_iadd C dL_law_269 ?_
  refine L_sldz (j := i + 1) C hX (by omega) (by omega) (by omega) dL_law_270 ?_
  refine x_aload_n (i := 0) C dL_law_271 rfl rfl ?_
  refine x_iload_n (i := 3) C dL_law_272 rfl rfl ?_
  refine x_iconst C dL_law_273 ?_
  refine x_iadd C dL_law_274 ?_
  refine L_sldz (j := i + 2) C hX (by omega) (by omega) (by omega) dL_law_275 ?_
  refine Wx_PH (PH' := fun H => PX (wM D ad2 cA2) Y H ∧ PX (wX D ad cA) X1 H) (fun H h => ⟨h.2, h.1⟩) ?_
  refine L_call (R := PX (wX D ad cA) X1) C ⟨rfl, rfl⟩ hW.2.2.1 hW.2.2.2.1 (L_keep (X := X1) (fun x h h9 => hW.2.2.2.2.1 x h9 h)) (rq_text (b := fun i => Y.1 1 i % 256) (N := (Y.1 2 0).toNat) (z1 := zs (i + 1)) (z2 := zs (i + 2)) (hz _) (hz _) (tapeM hHy) (fun i _ => rfl) hHy hEy) ckL_27 im_X12_text se_X12_text (nlt rfl) rfl rfl rfl rfl rfl (nle rfl) ⟨nle rfl, nle rfl⟩ dL_law_276 (fun r Y1 hp => ?_)
  obtain ⟨v, rfl, rv, hHy1, hEy1, dy⟩ := hp
  refine Wx_st (st' := [.int (iI v)]) rfl ?_
  refine x_pop C dL_law_279 rfl ?_
  refine x_goto (tgt := 1443) C dL_law_280 (by decide) ?_
  have hR1 : TRL X1 Y1 ∧ u = v := st_text hR hHy dx dy
  refine Wx_PH (PH' := fun H => PX (wX D ad cA) X1 H ∧ PX (wM D ad2 cA2) Y1 H) (fun H h => ⟨h.2, h.1⟩) ?_
  exact hE X1 Y1 hHx1 hEx1 hHy1 hEy1 hR1.1
set_option maxHeartbeats 4000000 in
theorem lc_3 {E : ET} {D : va_G} {ad ad2 : Nat → Nat} {cA cA2 : Nat → ClassId} {b L i : Nat} {zs : Nat → Int} (C : CX E (wI D) cL_law 4 RL (some .boolean) room_1) (hX : LAW E b L (fun j => iI (zs j))) (hz : ∀ j, inR (zs j)) (hW : LW E D ad ad2 cA cA2) (i6 : i + 6 ≤ L) (hL : L ≤ 3072) {X Y : XT} (hHx : HG vX X) (hEx : gX.2 X) (hHy : HG vM Y) (hEy : gM.2 Y) (hR : TRL X Y) (hE : ∀ X1 Y1 : XT, HG vX X1 → gX.2 X1 → HG vM Y1 → gM.2 Y1 → TRL X1 Y1 → Wx E (wI D) 4 (fun H => PX (wX D ad cA) X1 H ∧ PX (wM D ad2 cA2) Y1 H) 1443 [(3, .int (iI ((i : Int)))), (2, .ref (ad2 0)), (1, .ref (ad 0)), (0, .ref b)] []) : Wx E (wI D) 4 (fun H => PX (wX D ad cA) X H ∧ PX (wM D ad2 cA2) Y H) 283 [(3, .int (iI ((i : Int)))), (2, .ref (ad2 0)), (1, .ref (ad 0)), (0, .ref b)] [] := by
  refine x_aload_n (i := 1) C dL_law_283 rfl rfl ?_
  refine x_aload_n (i := 0) C dL_law_284 rfl rfl ?_
  refine x_iload_n (i := 3) C dL_law_285 rfl rfl ?_
  refine x_iconst C dL_law_286 ?_
  refine x_iadd C dL_law_287 ?_
  refine L_sldz (j := i + 1) C hX (by omega) (by omega) (by omega) dL_law_288 ?_
  refine L_call (R := PX (wM D ad2 cA2) Y) C ⟨rfl, rfl⟩ hW.1 hW.2.1 (L_keep (X := Y) hW.2.2.2.2.1) (xq_fault (z1 := zs (i + 1)) (hz _) hHx hEx) ckL_28 im_X11_fault se_X11_fault (nlt rfl) rfl rfl rfl rfl rfl (nle rfl) ⟨nle rfl, nle rfl⟩ dL_law_289 (fun r X1 hp => ?_)
  obtain ⟨u, rfl, ru, hHx1, hEx1, dx⟩ := hp
  refine Wx_st (st' := [.int (iI u)]) rfl ?_
  refine x_pop C dL_law_292 rfl ?_
  refine x_aload_n (i := 2) C dL_law_293 rfl rfl ?_
  refine x_aload_n (i := 0) C dL_law_294 rfl rfl ?_
  refine x_iload_n (i := 3) C dL_law_295 rfl rfl ?_
  refine x_iconst C dL_law_296 ?_
  refine x_iadd C dL_law_297 ?_
  refine L_sldz (j := i + 1) C hX (by omega) (by omega) (by omega) dL_law_298 ?_
  refine Wx_PH (PH' := fun H => PX (wM D ad2 cA2) Y H ∧ PX (wX D ad cA) X1 H) (fun H h => ⟨h.2, h.1⟩) ?_
  refine L_call (R := PX (wX D ad cA) X1) C ⟨rfl, rfl⟩ hW.2.2.1 hW.2.2.2.1 (L_keep (X := X1) (fun x h h9 => hW.2.2.2.2.1 x h9 h)) (rq_fault (z1 := zs (i + 1)) (hz _) hHy hEy) ckL_31 im_X12_fault se_X12_fault (nlt rfl) rfl rfl rfl rfl rfl (nle rfl) ⟨nle rfl, nle rfl⟩ dL_law_299 (fun r Y1 hp => ?_)
  obtain ⟨v, rfl, rv, hHy1, hEy1, dy⟩ := hp
  refine Wx_st (st' := [.int (iI v)]) rfl ?_
  refine x_pop C dL_law_302 rfl ?_
  refine x_goto (tgt := 1443) C dL_law_303 (by decide) ?_
  have hR1 : TRL X1 Y1 ∧ u = v := st_fault hR hHy dx dy
  refine Wx_PH (PH' := fun H => PX (wX D ad cA) X1 H ∧ PX (wM D ad2 cA2) Y1 H) (fun H h => ⟨h.2, h.1⟩) ?_
  exact hE X1 Y1 hHx1 hEx1 hHy1 hEy1 hR1.1
set_option maxHeartbeats 4000000 in
theorem lc_4 {E : ET} {D : va_G} {ad ad2 : Nat → Nat} {cA cA2 : Nat → ClassId} {b L i : Nat} {zs : Nat → Int} (C : CX E (wI D) cL_law 4 RL (some .boolean) room_1) (hX : LAW E b L (fun j => iI (zs j))) (hz : ∀ j, inR (zs j)) (hW : LW E D ad ad2 cA cA2) (i6 : i + 6 ≤ L) (hL : L ≤ 3072) {X Y : XT} (hHx : HG vX X) (hEx : gX.2 X) (hHy : HG vM Y) (hEy : gM.2 Y) (hR : TRL X Y) (hE : ∀ X1 Y1 : XT, HG vX X1 → gX.2 X1 → HG vM Y1 → gM.2 Y1 → TRL X1 Y1 → Wx E (wI D) 4 (fun H => PX (wX D ad cA) X1 H ∧ PX (wM D ad2 cA2) Y1 H) 1443 [(3, .int (iI ((i : Int)))), (2, .ref (ad2 0)), (1, .ref (ad 0)), (0, .ref b)] []) : Wx E (wI D) 4 (fun H => PX (wX D ad cA) X H ∧ PX (wM D ad2 cA2) Y H) 306 [(3, .int (iI ((i : Int)))), (2, .ref (ad2 0)), (1, .ref (ad 0)), (0, .ref b)] [] := by
  refine x_aload_n (i := 1) C dL_law_306 rfl rfl ?_
  refine x_aload_n (i := 0) C dL_law_307 rfl rfl ?_
  refine x_iload_n (i := 3) C dL_law_308 rfl rfl ?_
  refine x_iconst C dL_law_309 ?_
  refine x_iadd C dL_law_310 ?_
  refine L_sldz (j := i + 1) C hX (by omega) (by omega) (by omega) dL_law_311 ?_
  refine x_aload_n (i := 0) C dL_law_312 rfl rfl ?_
  refine x_iload_n (i := 3) C dL_law_313 rfl rfl ?_
  refine x_iconst C dL_law_314 ?_
  refine x_iadd C dL_law_315 ?_
  refine L_sldz (j := i + 2) C hX (by omega) (by omega) (by omega) dL_law_316 ?_
  refine L_call (R := PX (wM D ad2 cA2) Y) C ⟨rfl, rfl⟩ hW.1 hW.2.1 (L_keep (X := Y) hW.2.2.2.2.1) (xp_board (z1 := zs (i + 1)) (z2 := zs (i + 2)) (hz _) (hz _) hHx hEx) ckL_32 im_X11_board se_X11_board (nlt rfl) rfl rfl rfl rfl rfl (nle rfl) ⟨nle rfl, nle rfl⟩ dL_law_317 (fun r X1 hp => ?_)
  obtain ⟨⟨u, rfl⟩, hHx1, hEx1, hFx⟩ := hp
  refine Wx_st (st' := [.int u]) rfl ?_
  refine x_pop C dL_law_320 rfl ?_
  refine x_aload_n (i := 2) C dL_law_321 rfl rfl ?_
  refine x_aload_n (i := 0) C dL_law_322 rfl rfl ?_
  refine x_iload_n (i := 3) C dL_law_323 rfl rfl ?_
  refine x_iconst C dL_law_324 ?_
  refine x_iadd C dL_law_325 ?_
  refine L_sldz (j := i + 1) C hX (by omega) (by omega) (by omega) dL_law_326 ?_
  refine x_aload_n (i := 0) C dL_law_327 rfl rfl ?_
  refine x_iload_n (i := 3) C dL_law_328 rfl rfl ?_
  refine x_iconst C dL_law_329 ?_
  refine x_iadd C dL_law_330 ?_
  refine L_sldz (j := i + 2) C hX (by omega) (by omega) (by omega) dL_law_331 ?_
  refine Wx_PH (PH' := fun H => PX (wM D ad2 cA2) Y H ∧ PX (wX D ad cA) X1 H) (fun H h => ⟨h.2, h.1⟩) ?_
  refine L_call (R := PX (wX D ad cA) X1) C ⟨rfl, rfl⟩ hW.2.2.1 hW.2.2.2.1 (L_keep (X := X1) (fun x h h9 => hW.2.2.2.2.1 x h9 h)) (rp_board (z1 := zs (i + 1)) (z2 := zs (i + 2)) (hz _) (hz _) hHy hEy) ckL_35 im_X12_board se_X12_board (nlt rfl) rfl rfl rfl rfl rfl (nle rfl) ⟨nle rfl, nle rfl⟩ dL_law_332 (fun r Y1 hp => ?_)
  obtain ⟨⟨v, rfl⟩, hHy1, hEy1, hFy⟩ := hp
  refine Wx_st (st' := [.int v]) rfl ?_
  refine x_pop C dL_law_335 rfl ?_
  refine x_goto (tgt := 1443) C dL_law_336 (by decide) ?_
  have hR1 : TRL X1 Y1 := trl_fr hR hHy hFx hFy rfl rfl rfl rfl rfl rfl rfl
  refine Wx_PH (PH' := fun H => PX (wX D ad cA) X1 H ∧ PX (wM D ad2 cA2) Y1 H) (fun H h => ⟨h.2, h.1⟩) ?_
  exact hE X1 Y1 hHx1 hEx1 hHy1 hEy1 hR1
set_option maxHeartbeats 4000000 in
theorem lc_5 {E : ET} {D : va_G} {ad ad2 : Nat → Nat} {cA cA2 : Nat → ClassId} {b L i : Nat} {zs : Nat → Int} (C : CX E (wI D) cL_law 4 RL (some .boolean) room_1) (hX : LAW E b L (fun j => iI (zs j))) (hz : ∀ j, inR (zs j)) (hW : LW E D ad ad2 cA cA2) (i6 : i + 6 ≤ L) (hL : L ≤ 3072) {X Y : XT} (hHx : HG vX X) (hEx : gX.2 X) (hHy : HG vM Y) (hEy : gM.2 Y) (hR : TRL X Y) (hE : ∀ X1 Y1 : XT, HG vX X1 → gX.2 X1 → HG vM Y1 → gM.2 Y1 → TRL X1 Y1 → Wx E (wI D) 4 (fun H => PX (wX D ad cA) X1 H ∧ PX (wM D ad2 cA2) Y1 H) 1443 [(3, .int (iI ((i : Int)))), (2, .ref (ad2 0)), (1, .ref (ad 0)), (0, .ref b)] []) : Wx E (wI D) 4 (fun H => PX (wX D ad cA) X H ∧ PX (wM D ad2 cA2) Y H) 339 [(3, .int (iI ((i : Int)))), (2, .ref (ad2 0)), (1, .ref (ad 0)), (0, .ref b)] [] := by
  refine x_aload_n (i := 1) C dL_law_339 rfl rfl ?_
  refine x_aload_n (i := 0) C dL_law_340 rfl rfl ?_
  refine x_iload_n (i := 3) C dL_law_341 rfl rfl ?_
  refine x_iconst C dL_law_342 ?_
  refine x_iadd C dL_law_343 ?_
  refine L_sldz (j := i + 1) C hX (by omega) (by omega) (by omega) dL_law_344 ?_
  refine x_aload_n (i := 0) C dL_law_345 rfl rfl ?_
  refine x_iload_n (i := 3) C dL_law_346 rfl rfl ?_
  refine x_iconst C dL_law_347 ?_
  refine x_iadd C dL_law_348 ?_
  refine L_sldz (j := i + 2) C hX (by omega) (by omega) (by omega) dL_law_349 ?_
  refine L_call (R := PX (wM D ad2 cA2) Y) C ⟨rfl, rfl⟩ hW.1 hW.2.1 (L_keep (X := Y) hW.2.2.2.2.1) (xp_field (z1 := zs (i + 1)) (z2 := zs (i + 2)) (hz _) (hz _) hHx hEx) ckL_36 im_X11_field se_X11_field (nlt rfl) rfl rfl rfl rfl rfl (nle rfl) ⟨nle rfl, nle rfl⟩ dL_law_350 (fun r X1 hp => ?_)
  obtain ⟨⟨u, rfl⟩, hHx1, hEx1, hFx⟩ := hp
  refine Wx_st (st' := [.int u]) rfl ?_
  refine x_pop C dL_law_353 rfl ?_
  refine x_aload_n (i := 2) C dL_law_354 rfl rfl ?_
  refine x_aload_n (i := 0) C dL_law_355 rfl rfl ?_
  refine x_iload_n (i := 3) C dL_law_356 rfl rfl ?_
  refine x_iconst C dL_law_357 ?_
  refine x_iadd C dL_law_358 ?_
  refine L_sldz (j := i + 1) C hX (by omega) (by omega) (by omega) dL_law_359 ?_
  refine x_aload_n (i := 0) C dL_law_360 rfl rfl ?_
  refine x_iload_n (i := 3) C dL_law_361 rfl rfl ?_
  refine x_iconst C dL_law_362 ?_
  refine x_iadd C dL_law_363 ?_
  refine L_sldz (j := i + 2) C hX (by omega) (by omega) (by omega) dL_law_364 ?_
  refine Wx_PH (PH' := fun H => PX (wM D ad2 cA2) Y H ∧ PX (wX D ad cA) X1 H) (fun H h => ⟨h.2, h.1⟩) ?_
  refine L_call (R := PX (wX D ad cA) X1) C ⟨rfl, rfl⟩ hW.2.2.1 hW.2.2.2.1 (L_keep (X := X1) (fun x h h9 => hW.2.2.2.2.1 x h9 h)) (rp_field (z1 := zs (i + 1)) (z2 := zs (i + 2)) (hz _) (hz _) hHy hEy) ckL_39 im_X12_field se_X12_field (nlt rfl) rfl rfl rfl rfl rfl (nle rfl) ⟨nle rfl, nle rfl⟩ dL_law_365 (fun r Y1 hp => ?_)
  obtain ⟨⟨v, rfl⟩, hHy1, hEy1, hFy⟩ := hp
  refine Wx_st (st' := [.int v]) rfl ?_
  refine x_pop C dL_law_368 rfl ?_
  refine x_goto (tgt := 1443) C dL_law_369 (by decide) ?_
  have hR1 : TRL X1 Y1 := trl_fr hR hHy hFx hFy rfl rfl rfl rfl rfl rfl rfl
  refine Wx_PH (PH' := fun H => PX (wX D ad cA) X1 H ∧ PX (wM D ad2 cA2) Y1 H) (fun H h => ⟨h.2, h.1⟩) ?_
  exact hE X1 Y1 hHx1 hEx1 hHy1 hEy1 hR1
set_option maxHeartbeats 4000000 in
theorem lc_6 {E : ET} {D : va_G} {ad ad2 : Nat → Nat} {cA cA2 : Nat → ClassId} {b L i : Nat} {zs : Nat → Int} (C : CX E (wI D) cL_law 4 RL (some .boolean) room_1) (hX : LAW E b L (fun j => iI (zs j))) (hz : ∀ j, inR (zs j)) (hW : LW E D ad ad2 cA cA2) (i6 : i + 6 ≤ L) (hL : L ≤ 3072) {X Y : XT} (hHx : HG vX X) (hEx : gX.2 X) (hHy : HG vM Y) (hEy : gM.2 Y) (hR : TRL X Y) (hE : ∀ X1 Y1 : XT, HG vX X1 → gX.2 X1 → HG vM Y1 → gM.2 Y1 → TRL X1 Y1 → Wx E (wI D) 4 (fun H => PX (wX D ad cA) X1 H ∧ PX (wM D ad2 cA2) Y1 H) 1443 [(3, .int (iI ((i : Int)))), (2, .ref (ad2 0)), (1, .ref (ad 0)), (0, .ref b)] []) : Wx E (wI D) 4 (fun H => PX (wX D ad cA) X H ∧ PX (wM D ad2 cA2) Y H) 372 [(3, .int (iI ((i : Int)))), (2, .ref (ad2 0)), (1, .ref (ad 0)), (0, .ref b)] [] := by
  refine x_aload_n (i := 1) C dL_law_372 rfl rfl ?_
  refine x_aload_n (i := 0) C dL_law_373 rfl rfl ?_
  refine x_iload_n (i := 3) C dL_law_374 rfl rfl ?_
  refine x_iconst C dL_law_375 ?_
  refine x_iadd C dL_law_376 ?_
  refine L_sldz (j := i + 1) C hX (by omega) (by omega) (by omega) dL_law_377 ?_
  refine x_aload_n (i := 0) C dL_law_378 rfl rfl ?_
  refine x_iload_n (i := 3) C dL_law_379 rfl rfl ?_
  refine x_iconst C dL_law_380 ?_
  refine x_iadd C dL_law_381 ?_
  refine L_sldz (j := i + 2) C hX (by omega) (by omega) (by omega) dL_law_382 ?_
  refine x_aload_n (i := 0) C dL_law_383 rfl rfl ?_
  refine x_iload_n (i := 3) C dL_law_384 rfl rfl ?_
  refine x_iconst C dL_law_385 ?_
  refine x_iadd C dL_law_386 ?_
  refine L_sldz (j := i + 3) C hX (by omega) (by omega) (by omega) dL_law_387 ?_
  refine L_call (R := PX (wM D ad2 cA2) Y) C ⟨rfl, rfl⟩ hW.1 hW.2.1 (L_keep (X := Y) hW.2.2.2.2.1) (xp_man (z1 := zs (i + 1)) (z2 := zs (i + 2)) (z3 := zs (i + 3)) (hz _) (hz _) (hz _) hHx hEx) ckL_40 im_X11_man se_X11_man (nlt rfl) rfl rfl rfl rfl rfl (nle rfl) ⟨nle rfl, nle rfl⟩ dL_law_388 (fun r X1 hp => ?_)
  obtain ⟨⟨u, rfl⟩, hHx1, hEx1, hFx⟩ := hp
  refine Wx_st (st' := [.int u]) rfl ?_
  refine x_pop C dL_law_391 rfl ?_
  refine x_aload_n (i := 2) C dL_law_392 rfl rfl ?_
  refine x_aload_n (i := 0) C dL_law_393 rfl rfl ?_
  refine x_iload_n (i := 3) C dL_law_394 rfl rfl ?_
  refine x_iconst C dL_law_395 ?_
  refine x_iadd C dL_law_396 ?_
  refine L_sldz (j := i + 1) C hX (by omega) (by omega) (by omega) dL_law_397 ?_
  refine x_aload_n (i := 0) C dL_law_398 rfl rfl ?_
  refine x_iload_n (i := 3) C dL_law_399 rfl rfl ?_
  refine x_iconst C dL_law_400 ?_
  refine x_iadd C dL_law_401 ?_
  refine L_sldz (j := i + 2) C hX (by omega) (by omega) (by omega) dL_law_402 ?_
  refine x_aload_n (i := 0) C dL_law_403 rfl rfl ?_
  refine x_iload_n (i := 3) C dL_law_404 rfl rfl ?_
  refine x_iconst C dL_law_405 ?_
  refine x_iadd C dL_law_406 ?_
  refine L_sldz (j := i + 3) C hX (by omega) (by omega) (by omega) dL_law_407 ?_
  refine Wx_PH (PH' := fun H => PX (wM D ad2 cA2) Y H ∧ PX (wX D ad cA) X1 H) (fun H h => ⟨h.2, h.1⟩) ?_
  refine L_call (R := PX (wX D ad cA) X1) C ⟨rfl, rfl⟩ hW.2.2.1 hW.2.2.2.1 (L_keep (X := X1) (fun x h h9 => hW.2.2.2.2.1 x h9 h)) (rp_man (z1 := zs (i + 1)) (z2 := zs (i + 2)) (z3 := zs (i + 3)) (hz _) (hz _) (hz _) hHy hEy) ckL_44 im_X12_man se_X12_man (nlt rfl) rfl rfl rfl rfl rfl (nle rfl) ⟨nle rfl, nle rfl⟩ dL_law_408 (fun r Y1 hp => ?_)
  obtain ⟨⟨v, rfl⟩, hHy1, hEy1, hFy⟩ := hp
  refine Wx_st (st' := [.int v]) rfl ?_
  refine x_pop C dL_law_411 rfl ?_
  refine x_goto (tgt := 1443) C dL_law_412 (by decide) ?_
  have hR1 : TRL X1 Y1 := trl_fr hR hHy hFx hFy rfl rfl rfl rfl rfl rfl rfl
  refine Wx_PH (PH' := fun H => PX (wX D ad cA) X1 H ∧ PX (wM D ad2 cA2) Y1 H) (fun H h => ⟨h.2, h.1⟩) ?_
  exact hE X1 Y1 hHx1 hEx1 hHy1 hEy1 hR1
set_option maxHeartbeats 4000000 in
theorem lc_7 {E : ET} {D : va_G} {ad ad2 : Nat → Nat} {cA cA2 : Nat → ClassId} {b L i : Nat} {zs : Nat → Int} (C : CX E (wI D) cL_law 4 RL (some .boolean) room_1) (hX : LAW E b L (fun j => iI (zs j))) (hz : ∀ j, inR (zs j)) (hW : LW E D ad ad2 cA cA2) (i6 : i + 6 ≤ L) (hL : L ≤ 3072) {X Y : XT} (hHx : HG vX X) (hEx : gX.2 X) (hHy : HG vM Y) (hEy : gM.2 Y) (hR : TRL X Y) (hE : ∀ X1 Y1 : XT, HG vX X1 → gX.2 X1 → HG vM Y1 → gM.2 Y1 → TRL X1 Y1 → Wx E (wI D) 4 (fun H => PX (wX D ad cA) X1 H ∧ PX (wM D ad2 cA2) Y1 H) 1443 [(3, .int (iI ((i : Int)))), (2, .ref (ad2 0)), (1, .ref (ad 0)), (0, .ref b)] []) : Wx E (wI D) 4 (fun H => PX (wX D ad cA) X H ∧ PX (wM D ad2 cA2) Y H) 415 [(3, .int (iI ((i : Int)))), (2, .ref (ad2 0)), (1, .ref (ad 0)), (0, .ref b)] [] := by
  refine x_aload_n (i := 1) C dL_law_415 rfl rfl ?_
  refine x_aload_n (i := 0) C dL_law_416 rfl rfl ?_
  refine x_iload_n (i := 3) C dL_law_417 rfl rfl ?_
  refine x_iconst C dL_law_418 ?_
  refine x_iadd C dL_law_419 ?_
  refine L_sldz (j := i + 1) C hX (by omega) (by omega) (by omega) dL_law_420 ?_
  refine x_aload_n (i := 0) C dL_law_421 rfl rfl ?_
  refine x_iload_n (i := 3) C dL_law_422 rfl rfl ?_
  refine x_iconst C dL_law_423 ?_
  refine x_iadd C dL_law_424 ?_
  refine L_sldz (j := i + 2) C hX (by omega) (by omega) (by omega) dL_law_425 ?_
  refine L_call (R := PX (wM D ad2 cA2) Y) C ⟨rfl, rfl⟩ hW.1 hW.2.1 (L_keep (X := Y) hW.2.2.2.2.1) (xp_rule (z1 := zs (i + 1)) (z2 := zs (i + 2)) (hz _) (hz _) hHx hEx) ckL_45 im_X11_rule se_X11_rule (nlt rfl) rfl rfl rfl rfl rfl (nle rfl) ⟨nle rfl, nle rfl⟩ dL_law_426 (fun r X1 hp => ?_)
  obtain ⟨⟨u, rfl⟩, hHx1, hEx1, hFx⟩ := hp
  refine Wx_st (st' := [.int u]) rfl ?_
  refine x_pop C dL_law_429 rfl ?_
  refine x_aload_n (i := 2) C dL_law_430 rfl rfl ?_
  refine x_aload_n (i := 0) C dL_law_431 rfl rfl ?_
  refine x_iload_n (i := 3) C dL_law_432 rfl rfl ?_
  refine x_iconst C dL_law_433 ?_
  refine x_iadd C dL_law_434 ?_
  refine L_sldz (j := i + 1) C hX (by omega) (by omega) (by omega) dL_law_435 ?_
  refine x_aload_n (i := 0) C dL_law_436 rfl rfl ?_
  refine x_iload_n (i := 3) C dL_law_437 rfl rfl ?_
  refine x_iconst C dL_law_438 ?_
  refine x_iadd C dL_law_439 ?_
  refine L_sldz (j := i + 2) C hX (by omega) (by omega) (by omega) dL_law_440 ?_
  refine Wx_PH (PH' := fun H => PX (wM D ad2 cA2) Y H ∧ PX (wX D ad cA) X1 H) (fun H h => ⟨h.2, h.1⟩) ?_
  refine L_call (R := PX (wX D ad cA) X1) C ⟨rfl, rfl⟩ hW.2.2.1 hW.2.2.2.1 (L_keep (X := X1) (fun x h h9 => hW.2.2.2.2.1 x h9 h)) (rp_rule (z1 := zs (i + 1)) (z2 := zs (i + 2)) (hz _) (hz _) hHy hEy) ckL_48 im_X12_rule se_X12_rule (nlt rfl) rfl rfl rfl rfl rfl (nle rfl) ⟨nle rfl, nle rfl⟩ dL_law_441 (fun r Y1 hp => ?_)
  obtain ⟨⟨v, rfl⟩, hHy1, hEy1, hFy⟩ := hp
  refine Wx_st (st' := [.int v]) rfl ?_
  refine x_pop C dL_law_444 rfl ?_
  refine x_goto (tgt := 1443) C dL_law_445 (by decide) ?_
  have hR1 : TRL X1 Y1 := trl_fr hR hHy hFx hFy rfl rfl rfl rfl rfl rfl rfl
  refine Wx_PH (PH' := fun H => PX (wX D ad cA) X1 H ∧ PX (wM D ad2 cA2) Y1 H) (fun H h => ⟨h.2, h.1⟩) ?_
  exact hE X1 Y1 hHx1 hEx1 hHy1 hEy1 hR1
set_option maxHeartbeats 4000000 in
theorem lc_8 {E : ET} {D : va_G} {ad ad2 : Nat → Nat} {cA cA2 : Nat → ClassId} {b L i : Nat} {zs : Nat → Int} (C : CX E (wI D) cL_law 4 RL (some .boolean) room_1) (hX : LAW E b L (fun j => iI (zs j))) (hz : ∀ j, inR (zs j)) (hW : LW E D ad ad2 cA cA2) (i6 : i + 6 ≤ L) (hL : L ≤ 3072) {X Y : XT} (hHx : HG vX X) (hEx : gX.2 X) (hHy : HG vM Y) (hEy : gM.2 Y) (hR : TRL X Y) (hE : ∀ X1 Y1 : XT, HG vX X1 → gX.2 X1 → HG vM Y1 → gM.2 Y1 → TRL X1 Y1 → Wx E (wI D) 4 (fun H => PX (wX D ad cA) X1 H ∧ PX (wM D ad2 cA2) Y1 H) 1443 [(3, .int (iI ((i : Int)))), (2, .ref (ad2 0)), (1, .ref (ad 0)), (0, .ref b)] []) : Wx E (wI D) 4 (fun H => PX (wX D ad cA) X H ∧ PX (wM D ad2 cA2) Y H) 448 [(3, .int (iI ((i : Int)))), (2, .ref (ad2 0)), (1, .ref (ad 0)), (0, .ref b)] [] := by
  refine x_aload_n (i := 1) C dL_law_448 rfl rfl ?_
  refine x_aload_n (i := 0) C dL_law_449 rfl rfl ?_
  refine x_iload_n (i := 3) C dL_law_450 rfl rfl ?_
  refine x_iconst C dL_law_451 ?_
  refine x_iadd C dL_law_452 ?_
  refine L_sldz (j := i + 1) C hX (by omega) (by omega) (by omega) dL_law_453 ?_
  refine x_aload_n (i := 0) C dL_law_454 rfl rfl ?_
  refine x_iload_n (i := 3) C dL_law_455 rfl rfl ?_
  refine x_iconst C dL_law_456 ?_
  refine x_iadd C dL_law_457 ?_
  refine L_sldz (j := i + 2) C hX (by omega) (by omega) (by omega) dL_law_458 ?_
  refine x_aload_n (i := 0) C dL_law_459 rfl rfl ?_
  refine x_iload_n (i := 3) C dL_law_460 rfl rfl ?_
  refine x_iconst C dL_law_461 ?_
  refine x_iadd C dL_law_462 ?_
  refine L_sldz (j := i + 3) C hX (by omega) (by omega) (by omega) dL_law_463 ?_
  refine L_call (R := PX (wM D ad2 cA2) Y) C ⟨rfl, rfl⟩ hW.1 hW.2.1 (L_keep (X := Y) hW.2.2.2.2.1) (xp_ends (z1 := zs (i + 1)) (z2 := zs (i + 2)) (z3 := zs (i + 3)) (hz _) (hz _) (hz _) hHx hEx) ckL_49 im_X11_ends se_X11_ends (nlt rfl) rfl rfl rfl rfl rfl (nle rfl) ⟨nle rfl, nle rfl⟩ dL_law_464 (fun r X1 hp => ?_)
  obtain ⟨⟨u, rfl⟩, hHx1, hEx1, hFx⟩ := hp
  refine Wx_st (st' := [.long u]) rfl ?_
  refine L_pop2 C dL_law_467 rfl ?_
  refine x_aload_n (i := 2) C dL_law_468 rfl rfl ?_
  refine x_aload_n (i := 0) C dL_law_469 rfl rfl ?_
  refine x_iload_n (i := 3) C dL_law_470 rfl rfl ?_
  refine x_iconst C dL_law_471 ?_
  refine x_iadd C dL_law_472 ?_
  refine L_sldz (j := i + 1) C hX (by omega) (by omega) (by omega) dL_law_473 ?_
  refine x_aload_n (i := 0) C dL_law_474 rfl rfl ?_
  refine x_iload_n (i := 3) C dL_law_475 rfl rfl ?_
  refine x_iconst C dL_law_476 ?_
  refine x_iadd C dL_law_477 ?_
  refine L_sldz (j := i + 2) C hX (by omega) (by omega) (by omega) dL_law_478 ?_
  refine x_aload_n (i := 0) C dL_law_479 rfl rfl ?_
  refine x_iload_n (i := 3) C dL_law_480 rfl rfl ?_
  refine x_iconst C dL_law_481 ?_
  refine x_iadd C dL_law_482 ?_
  refine L_sldz (j := i + 3) C hX (by omega) (by omega) (by omega) dL_law_483 ?_
  refine Wx_PH (PH' := fun H => PX (wM D ad2 cA2) Y H ∧ PX (wX D ad cA) X1 H) (fun H h => ⟨h.2, h.1⟩) ?_
  refine L_call (R := PX (wX D ad cA) X1) C ⟨rfl, rfl⟩ hW.2.2.1 hW.2.2.2.1 (L_keep (X := X1) (fun x h h9 => hW.2.2.2.2.1 x h9 h)) (rp_ends (z1 := zs (i + 1)) (z2 := zs (i + 2)) (z3 := zs (i + 3)) (hz _) (hz _) (hz _) hHy hEy) ckL_53 im_X12_ends se_X12_ends (nlt rfl) rfl rfl rfl rfl rfl (nle rfl) ⟨nle rfl, nle rfl⟩ dL_law_484 (fun r Y1 hp => ?_)
  obtain ⟨⟨v, rfl⟩, hHy1, hEy1, hFy⟩ := hp
  refine Wx_st (st' := [.long v]) rfl ?_
  refine L_pop2 C dL_law_487 rfl ?_
  refine x_goto (tgt := 1443) C dL_law_488 (by decide) ?_
  have hR1 : TRL X1 Y1 := trl_fr hR hHy hFx hFy rfl rfl rfl rfl rfl rfl rfl
  refine Wx_PH (PH' := fun H => PX (wX D ad cA) X1 H ∧ PX (wM D ad2 cA2) Y1 H) (fun H h => ⟨h.2, h.1⟩) ?_
  exact hE X1 Y1 hHx1 hEx1 hHy1 hEy1 hR1
set_option maxHeartbeats 4000000 in
theorem lc_9 {E : ET} {D : va_G} {ad ad2 : Nat → Nat} {cA cA2 : Nat → ClassId} {b L i : Nat} {zs : Nat → Int} (C : CX E (wI D) cL_law 4 RL (some .boolean) room_1) (hX : LAW E b L (fun j => iI (zs j))) (hz : ∀ j, inR (zs j)) (hW : LW E D ad ad2 cA cA2) (i6 : i + 6 ≤ L) (hL : L ≤ 3072) {X Y : XT} (hHx : HG vX X) (hEx : gX.2 X) (hHy : HG vM Y) (hEy : gM.2 Y) (hR : TRL X Y) (hE : ∀ X1 Y1 : XT, HG vX X1 → gX.2 X1 → HG vM Y1 → gM.2 Y1 → TRL X1 Y1 → Wx E (wI D) 4 (fun H => PX (wX D ad cA) X1 H ∧ PX (wM D ad2 cA2) Y1 H) 1443 [(3, .int (iI ((i : Int)))), (2, .ref (ad2 0)), (1, .ref (ad 0)), (0, .ref b)] []) : Wx E (wI D) 4 (fun H => PX (wX D ad cA) X H ∧ PX (wM D ad2 cA2) Y H) 491 [(3, .int (iI ((i : Int)))), (2, .ref (ad2 0)), (1, .ref (ad 0)), (0, .ref b)] [] := by
  refine x_aload_n (i := 1) C dL_law_491 rfl rfl ?_
  refine x_aload_n (i := 0) C dL_law_492 rfl rfl ?_
  refine x_iload_n (i := 3) C dL_law_493 rfl rfl ?_
  refine x_iconst C dL_law_494 ?_
  refine x_iadd C dL_law_495 ?_
  refine L_sldz (j := i + 1) C hX (by omega) (by omega) (by omega) dL_law_496 ?_
  refine x_aload_n (i := 0) C dL_law_497 rfl rfl ?_
  refine x_iload_n (i := 3) C dL_law_498 rfl rfl ?_
  refine x_iconst C dL_law_499 ?_
  refine x_iadd C dL_law_500 ?_
  refine L_sldz (j := i + 2) C hX (by omega) (by omega) (by omega) dL_law_501 ?_
  refine x_aload_n (i := 0) C dL_law_502 rfl rfl ?_
  refine x_iload_n (i := 3) C dL_law_503 rfl rfl ?_
  refine x_iconst C dL_law_504 ?_
  refine x_iadd C dL_law_505 ?_
  refine L_sldz (j := i + 3) C hX (by omega) (by omega) (by omega) dL_law_506 ?_
  refine x_aload_n (i := 0) C dL_law_507 rfl rfl ?_
  refine x_iload_n (i := 3) C dL_law_508 rfl rfl ?_
  refine x_iconst C dL_law_509 ?_
  refine x_iadd C dL_law_510 ?_
  refine L_sldz (j := i + 4) C hX (by omega) (by omega) (by omega) dL_law_511 ?_
  refine L_call (R := PX (wM D ad2 cA2) Y) C ⟨rfl, rfl⟩ hW.1 hW.2.1 (L_keep (X := Y) hW.2.2.2.2.1) (xp_ways (z1 := zs (i + 1)) (z2 := zs (i + 2)) (z3 := zs (i + 3)) (z4 := zs (i + 4)) (hz _) (hz _) (hz _) (hz _) hHx hEx) ckL_54 im_X11_ways se_X11_ways (nlt rfl) rfl rfl rfl rfl rfl (nle rfl) ⟨nle rfl, nle rfl⟩ dL_law_512 (fun r X1 hp => ?_)
  obtain ⟨⟨u, rfl⟩, hHx1, hEx1, hFx⟩ := hp
  refine Wx_st (st' := [.int u]) rfl ?_
  refine x_pop C dL_law_515 rfl ?_
  refine x_aload_n (i := 2) C dL_law_516 rfl rfl ?_
  refine x_aload_n (i := 0) C dL_law_517 rfl rfl ?_
  refine x_iload_n (i := 3) C dL_law_518 rfl rfl ?_
  refine x_iconst C dL_law_519 ?_
  refine x_iadd C dL_law_520 ?_
  refine L_sldz (j := i + 1) C hX (by omega) (by omega) (by omega) dL_law_521 ?_
  refine x_aload_n (i := 0) C dL_law_522 rfl rfl ?_
  refine x_iload_n (i := 3) C dL_law_523 rfl rfl ?_
  refine x_iconst C dL_law_524 ?_
  refine x_iadd C dL_law_525 ?_
  refine L_sldz (j := i + 2) C hX (by omega) (by omega) (by omega) dL_law_526 ?_
  refine x_aload_n (i := 0) C dL_law_527 rfl rfl ?_
  refine x_iload_n (i := 3) C dL_law_528 rfl rfl ?_
  refine x_iconst C dL_law_529 ?_
  refine x_iadd C dL_law_530 ?_
  refine L_sldz (j := i + 3) C hX (by omega) (by omega) (by omega) dL_law_531 ?_
  refine x_aload_n (i := 0) C dL_law_532 rfl rfl ?_
  refine x_iload_n (i := 3) C dL_law_533 rfl rfl ?_
  refine x_iconst C dL_law_534 ?_
  refine x_iadd C dL_law_535 ?_
  refine L_sldz (j := i + 4) C hX (by omega) (by omega) (by omega) dL_law_536 ?_
  refine Wx_PH (PH' := fun H => PX (wM D ad2 cA2) Y H ∧ PX (wX D ad cA) X1 H) (fun H h => ⟨h.2, h.1⟩) ?_
  refine L_call (R := PX (wX D ad cA) X1) C ⟨rfl, rfl⟩ hW.2.2.1 hW.2.2.2.1 (L_keep (X := X1) (fun x h h9 => hW.2.2.2.2.1 x h9 h)) (rp_ways (z1 := zs (i + 1)) (z2 := zs (i + 2)) (z3 := zs (i + 3)) (z4 := zs (i + 4)) (hz _) (hz _) (hz _) (hz _) hHy hEy) ckL_58 im_X12_ways se_X12_ways (nlt rfl) rfl rfl rfl rfl rfl (nle rfl) ⟨nle rfl, nle rfl⟩ dL_law_537 (fun r Y1 hp => ?_)
  obtain ⟨⟨v, rfl⟩, hHy1, hEy1, hFy⟩ := hp
  refine Wx_st (st' := [.int v]) rfl ?_
  refine x_pop C dL_law_540 rfl ?_
  refine x_goto (tgt := 1443) C dL_law_541 (by decide) ?_
  have hR1 : TRL X1 Y1 := trl_fr hR hHy hFx hFy rfl rfl rfl rfl rfl rfl rfl
  refine Wx_PH (PH' := fun H => PX (wX D ad cA) X1 H ∧ PX (wM D ad2 cA2) Y1 H) (fun H h => ⟨h.2, h.1⟩) ?_
  exact hE X1 Y1 hHx1 hEx1 hHy1 hEy1 hR1
