theorem inR_1 : inR 1 := ⟨by decide, by decide⟩
/-! ===== the law on fresh objects ===== -/
theorem L_keep {w w2 : WT} {X : XT} (hd : ∀ x, AW w2 x → ¬ AW w x) : ∀ H H1 : Heap, H.size ≤ H1.size → (∀ x : Nat, x < H.size → ¬ AW w x → H1[x]? = H[x]?) → PX w2 X H → PX w2 X H1 := fun H H1 _ ho hP => hP.kept (fun k q hq => by
  have hk : k < wN w2 := by rw [← wsX_len (w := w2) (X := X)]; exact (List.getElem?_eq_some_iff.mp hq).1
  have h9 := wsX_at (X := X) hk
  rw [hq] at h9
  refine ho q.1 ((hP k q hq).lt) (hd _ ⟨k, hk, by rw [Option.some.inj h9]⟩))
theorem L_lt {w : WT} {X : XT} : ∀ H : Heap, PX w X H → ∀ q, AW w q → q < H.size := fun H hP q ⟨k, hk, e⟩ => by
  have := (hP k _ (wsX_at (X := X) hk)).lt
  rw [e]; exact this
def LW (E : ET) (D : va_G) (ad ad2 : Nat → Nat) (cA cA2 : Nat → ClassId) : Prop := EF E (wX D ad cA) ∧ (∀ x, AW (wX D ad cA) x → EA E x) ∧ EF E (wM D ad2 cA2) ∧ (∀ x, AW (wM D ad2 cA2) x → EA E x) ∧ ∀ x, AW (wM D ad2 cA2) x → ¬ AW (wX D ad cA) x
theorem L_sldz {E : ET} {nL pc : Nat} {lv : List (Nat × Value)} {st : List Value} {cc : ByteArray} {own : String} {ret : Option FieldType} {rm : Room} {D : va_G} {PH : Heap → Prop} (C : CX E (wI D) cc nL own ret rm) {b L : Nat} {zs : Nat → Int} (hX : LAW E b L (fun j => iI (zs j))) {z : Int} {j : Nat} (hj : z = (j : Int)) (h1 : j < L) (hL : L ≤ 2147483647) (hd : decode cc pc = .ok (.iaload, 1)) (kk : Wx E (wI D) nL PH (pc + 1) lv (.int (iI (zs j)) :: st)) : Wx E (wI D) nL PH pc lv (.int (iI z) :: .ref b :: st) := by
  subst hj
  exact L_sld C hX (by omega) (by omega) hL hd kk
def TXT (s p : Int) : Int := if p = -1 then (if s = 0 ∨ s = 2 then 0 else if s = 1 then -1 else -2) else -2
theorem TXT0 {p : Int} : TXT 0 p = if p = -1 then 0 else -2 := by unfold TXT; split <;> rfl
theorem TXT1 {p : Int} : TXT 1 p = if p = -1 then -1 else -2 := by unfold TXT; split <;> rfl
theorem TXT2 {p : Int} : TXT 2 p = if p = -1 then 0 else -2 := by unfold TXT; split <;> rfl
theorem TXTX {s p : Int} (h : ¬ (0 ≤ s ∧ s ≤ 2)) : TXT s p = -2 := by
  unfold TXT
  split
  · rw [if_neg (by omega), if_neg (by omega)]
  · rfl
theorem x_textA {D : va_G} {ad : Nat → Nat} {cA : Nat → ClassId} {s p : Int} (hs : inR s) (hp : inR p) : MetX (wX D ad cA) yX11_text cX11_text 4 (some .int) 10 230 [.ref 0, .int (iI (s)), .int (iI (p))] x0X (fun r _ => r = some (.int (iI (TXT s p)))) := by
  by_cases h0 : s = 0
  · subst h0; rw [TXT0]; exact x_text0 hp
  · by_cases h1 : s = 1
    · subst h1; rw [TXT1]; exact x_text1 hp
    · by_cases h2 : s = 2
      · subst h2; rw [TXT2]; exact x_text2 hp
      · rw [TXTX (by omega)]; exact x_textX hs hp (by omega)
theorem m_textA {D : va_G} {ad : Nat → Nat} {cA : Nat → ClassId} {s p : Int} (hs : inR s) (hp : inR p) : MetX (wM D ad cA) yX12_text cX12_text 4 (some .int) 7 158 [.ref 0, .int (iI (s)), .int (iI (p))] x0M (fun r _ => r = some (.int (iI (TXT s p)))) := by
  by_cases h0 : s = 0
  · subst h0; rw [TXT0]; exact m_text0 hp
  · by_cases h1 : s = 1
    · subst h1; rw [TXT1]; exact m_text1 hp
    · by_cases h2 : s = 2
      · subst h2; rw [TXT2]; exact m_text2 hp
      · rw [TXTX (by omega)]; exact m_textX hs hp (by omega)
theorem x_imageA {D : va_G} {ad : Nat → Nat} {cA : Nat → ClassId} {k : Int} (hk : inR k) : MetX (wX D ad cA) yX11_image cX11_image 2 (some .boolean) 3 103 [.ref 0, .int (iI (k))] x0X (fun r _ => r = some (.int (iI (if 0 ≤ k ∧ k ≤ 2 then 1 else 0)))) := by
  by_cases h : 0 ≤ k ∧ k ≤ 2
  · rw [if_pos h]
    rcases (show k = 0 ∨ k = 1 ∨ k = 2 by omega) with rfl | rfl | rfl
    · exact x_image0
    · exact x_image1
    · exact x_image2
  · rw [if_neg h]; exact x_imageX hk h
set_option maxHeartbeats 4000000 in
theorem lc_0 {E : ET} {D : va_G} {ad ad2 : Nat → Nat} {cA cA2 : Nat → ClassId} {b : Nat} {zs : Nat → Int} (C : CX E (wI D) cL_law 4 RL (some .boolean) room_1) (hX : LAW E b 6 (fun j => iI (zs j))) (hz : ∀ j, inR (zs j)) (hW : LW E D ad ad2 cA cA2) (hE : Wx E (wI D) 4 (fun _ => True) 1445 [(3, .int (iI 0)), (2, .ref (ad2 0)), (1, .ref (ad 0)), (0, .ref b)] []) : Wx E (wI D) 4 (fun H => PX (wX D ad cA) x0X H ∧ PX (wM D ad2 cA2) x0M H) 164 [(3, .int (iI 0)), (2, .ref (ad2 0)), (1, .ref (ad 0)), (0, .ref b)] [] := by
  have z1 := hz 1
  have z2 := hz 2
  have z3 := hz 3
  have z4 := hz 4
  have z5 := hz 5
  refine x_aload_n (i := 1) C dL_law_164 rfl rfl ?_
  refine x_aload_n (i := 0) C dL_law_165 rfl rfl ?_
  refine x_iload_n (i := 3) C dL_law_166 rfl rfl ?_
  refine x_iconst C dL_law_167 ?_
  refine x_iadd C dL_law_168 ?_
  refine L_sldz (j := 1) C hX (by decide) (by decide) (by decide) dL_law_169 ?_
  refine x_aload_n (i := 0) C dL_law_170 rfl rfl ?_
  refine x_iload_n (i := 3) C dL_law_171 rfl rfl ?_
  refine x_iconst C dL_law_172 ?_
  refine x_iadd C dL_law_173 ?_
  refine L_sldz (j := 2) C hX (by decide) (by decide) (by decide) dL_law_174 ?_
  refine x_aload_n (i := 0) C dL_law_175 rfl rfl ?_
  refine x_iload_n (i := 3) C dL_law_176 rfl rfl ?_
  refine x_iconst C dL_law_177 ?_
  refine x_iadd C dL_law_178 ?_
  refine L_sldz (j := 3) C hX (by decide) (by decide) (by decide) dL_law_179 ?_
  refine x_aload_n (i := 0) C dL_law_180 rfl rfl ?_
  refine x_iload_n (i := 3) C dL_law_181 rfl rfl ?_
  refine x_iconst C dL_law_182 ?_
  refine x_iadd C dL_law_183 ?_
  refine L_sldz (j := 4) C hX (by decide) (by decide) (by decide) dL_law_184 ?_
  refine x_aload_n (i := 0) C dL_law_185 rfl rfl ?_
  refine x_iload_n (i := 3) C dL_law_186 rfl rfl ?_
  refine x_iconst C dL_law_187 ?_
  refine x_iadd C dL_law_188 ?_
  refine L_sldz (j := 5) C hX (by decide) (by decide) (by decide) dL_law_189 ?_
  refine L_call C ⟨rfl, rfl⟩ hW.1 hW.2.1 (L_keep (X := x0M) hW.2.2.2.2) (x_feed (a := zs 1) (b := zs 2) (c := zs 3) (d := zs 4) (e := zs 5) z1 z2 z3 z4 z5) ckL_13 im_X11_feed se_X11_feed (nlt rfl) rfl rfl rfl rfl rfl (nle rfl) ⟨nle rfl, nle rfl⟩ dL_law_190 (fun r X' hp => ?_)
  subst hp
  refine Wx_PH (PH' := fun H => PX (wM D ad2 cA2) x0M H ∧ True) (fun H h => ⟨h.2, trivial⟩) ?_
  refine x_aload_n (i := 2) C dL_law_193 rfl rfl ?_
  refine x_aload_n (i := 0) C dL_law_194 rfl rfl ?_
  refine x_iload_n (i := 3) C dL_law_195 rfl rfl ?_
  refine x_iconst C dL_law_196 ?_
  refine x_iadd C dL_law_197 ?_
  refine L_sldz (j := 1) C hX (by decide) (by decide) (by decide) dL_law_198 ?_
  refine x_aload_n (i := 0) C dL_law_199 rfl rfl ?_
  refine x_iload_n (i := 3) C dL_law_200 rfl rfl ?_
  refine x_iconst C dL_law_201 ?_
  refine x_iadd C dL_law_202 ?_
  refine L_sldz (j := 2) C hX (by decide) (by decide) (by decide) dL_law_203 ?_
  refine x_aload_n (i := 0) C dL_law_204 rfl rfl ?_
  refine x_iload_n (i := 3) C dL_law_205 rfl rfl ?_
  refine x_iconst C dL_law_206 ?_
  refine x_iadd C dL_law_207 ?_
  refine L_sldz (j := 3) C hX (by decide) (by decide) (by decide) dL_law_208 ?_
  refine x_aload_n (i := 0) C dL_law_209 rfl rfl ?_
  refine x_iload_n (i := 3) C dL_law_210 rfl rfl ?_
  refine x_iconst C dL_law_211 ?_
  refine x_iadd C dL_law_212 ?_
  refine L_sldz (j := 4) C hX (by decide) (by decide) (by decide) dL_law_213 ?_
  refine x_aload_n (i := 0) C dL_law_214 rfl rfl ?_
  refine x_iload_n (i := 3) C dL_law_215 rfl rfl ?_
  refine x_iconst C dL_law_216 ?_
  refine x_iadd C dL_law_217 ?_
  refine L_sldz (j := 5) C hX (by decide) (by decide) (by decide) dL_law_218 ?_
  refine L_call C ⟨rfl, rfl⟩ hW.2.2.1 hW.2.2.2.1 (R := fun _ => True) (fun _ _ _ _ h => h) (m_feed (a := zs 1) (b := zs 2) (c := zs 3) (d := zs 4) (e := zs 5) z1 z2 z3 z4 z5) ckL_17 im_X12_feed se_X12_feed (nlt rfl) rfl rfl rfl rfl rfl (nle rfl) ⟨nle rfl, nle rfl⟩ dL_law_219 (fun r X' hp => ?_)
  subst hp
  refine x_icmp_eq (tgt := 1445) C dL_law_222 (by decide) ⟨by omega, by omega⟩ ⟨by omega, by omega⟩ (fun _ => ?_) (fun h => absurd rfl h)
  exact Wx_PH (fun H h => trivial) hE
set_option maxHeartbeats 4000000 in
theorem lc_1 {E : ET} {D : va_G} {ad ad2 : Nat → Nat} {cA cA2 : Nat → ClassId} {b : Nat} {zs : Nat → Int} (C : CX E (wI D) cL_law 4 RL (some .boolean) room_1) (hX : LAW E b 6 (fun j => iI (zs j))) (hz : ∀ j, inR (zs j)) (hW : LW E D ad ad2 cA cA2) (hE : Wx E (wI D) 4 (fun _ => True) 1445 [(3, .int (iI 0)), (2, .ref (ad2 0)), (1, .ref (ad 0)), (0, .ref b)] []) : Wx E (wI D) 4 (fun H => PX (wX D ad cA) x0X H ∧ PX (wM D ad2 cA2) x0M H) 227 [(3, .int (iI 0)), (2, .ref (ad2 0)), (1, .ref (ad 0)), (0, .ref b)] [] := by
  have z1 := hz 1
  have z2 := hz 2
  have z3 := hz 3
  have z4 := hz 4
  have z5 := hz 5
  refine x_aload_n (i := 1) C dL_law_227 rfl rfl ?_
  refine x_aload_n (i := 0) C dL_law_228 rfl rfl ?_
  refine x_iload_n (i := 3) C dL_law_229 rfl rfl ?_
  refine x_iconst C dL_law_230 ?_
  refine x_iadd C dL_law_231 ?_
  refine L_sldz (j := 1) C hX (by decide) (by decide) (by decide) dL_law_232 ?_
  refine L_call C ⟨rfl, rfl⟩ hW.1 hW.2.1 (L_keep (X := x0M) hW.2.2.2.2) (x_end (n := zs 1) z1) ckL_18 im_X11_end se_X11_end (nlt rfl) rfl rfl rfl rfl rfl (nle rfl) ⟨nle rfl, nle rfl⟩ dL_law_233 (fun r X' hp => ?_)
  subst hp
  refine Wx_PH (PH' := fun H => PX (wM D ad2 cA2) x0M H ∧ True) (fun H h => ⟨h.2, trivial⟩) ?_
  refine x_aload_n (i := 2) C dL_law_236 rfl rfl ?_
  refine x_aload_n (i := 0) C dL_law_237 rfl rfl ?_
  refine x_iload_n (i := 3) C dL_law_238 rfl rfl ?_
  refine x_iconst C dL_law_239 ?_
  refine x_iadd C dL_law_240 ?_
  refine L_sldz (j := 1) C hX (by decide) (by decide) (by decide) dL_law_241 ?_
  refine L_call C ⟨rfl, rfl⟩ hW.2.2.1 hW.2.2.2.1 (R := fun _ => True) (fun _ _ _ _ h => h) (m_end (n := zs 1) z1) ckL_22 im_X12_end se_X12_end (nlt rfl) rfl rfl rfl rfl rfl (nle rfl) ⟨nle rfl, nle rfl⟩ dL_law_242 (fun r X' hp => ?_)
  subst hp
  refine x_icmp_eq (tgt := 1445) C dL_law_245 (by decide) ⟨by split <;> omega, by split <;> omega⟩ ⟨by split <;> omega, by split <;> omega⟩ (fun _ => ?_) (fun h => absurd rfl h)
  exact Wx_PH (fun H h => trivial) hE
set_option maxHeartbeats 4000000 in
theorem lc_2 {E : ET} {D : va_G} {ad ad2 : Nat → Nat} {cA cA2 : Nat → ClassId} {b : Nat} {zs : Nat → Int} (C : CX E (wI D) cL_law 4 RL (some .boolean) room_1) (hX : LAW E b 6 (fun j => iI (zs j))) (hz : ∀ j, inR (zs j)) (hW : LW E D ad ad2 cA cA2) (hE : Wx E (wI D) 4 (fun _ => True) 1445 [(3, .int (iI 0)), (2, .ref (ad2 0)), (1, .ref (ad 0)), (0, .ref b)] []) : Wx E (wI D) 4 (fun H => PX (wX D ad cA) x0X H ∧ PX (wM D ad2 cA2) x0M H) 250 [(3, .int (iI 0)), (2, .ref (ad2 0)), (1, .ref (ad 0)), (0, .ref b)] [] := by
  have z1 := hz 1
  have z2 := hz 2
  have z3 := hz 3
  have z4 := hz 4
  have z5 := hz 5
  refine x_aload_n (i := 1) C dL_law_250 rfl rfl ?_
  refine x_aload_n (i := 0) C dL_law_251 rfl rfl ?_
  refine x_iload_n (i := 3) C dL_law_252 rfl rfl ?_
  refine x_iconst C dL_law_253 ?_
  refine x_iadd C dL_law_254 ?_
  refine L_sldz (j := 1) C hX (by decide) (by decide) (by decide) dL_law_255 ?_
  refine x_aload_n (i := 0) C dL_law_256 rfl rfl ?_
  refine x_iload_n (i := 3) C dL_law_257 rfl rfl ?_
  refine x_iconst C dL_law_258 ?_
  refine x_iadd C dL_law_259 ?_
  refine L_sldz (j := 2) C hX (by decide) (by decide) (by decide) dL_law_260 ?_
  refine L_call C ⟨rfl, rfl⟩ hW.1 hW.2.1 (L_keep (X := x0M) hW.2.2.2.2) (x_textA (s := zs 1) (p := zs 2) z1 z2) ckL_23 im_X11_text se_X11_text (nlt rfl) rfl rfl rfl rfl rfl (nle rfl) ⟨nle rfl, nle rfl⟩ dL_law_261 (fun r X' hp => ?_)
  subst hp
  refine Wx_PH (PH' := fun H => PX (wM D ad2 cA2) x0M H ∧ True) (fun H h => ⟨h.2, trivial⟩) ?_
  refine x_aload_n (i := 2) C dL_law_264 rfl rfl ?_
  refine x_aload_n (i := 0) C dL_law_265 rfl rfl ?_
  refine x_iload_n (i := 3) C dL_law_266 rfl rfl ?_
  refine x_iconst C dL_law_267 ?_
  refine x_iadd C dL_law_268 ?_
  refine L_sldz (j := 1) C hX (by decide) (by decide) (by decide) dL_law_269 ?_
  refine x_aload_n (i := 0) C dL_law_270 rfl rfl ?_
  refine x_iload_n (i := 3) C dL_law_271 rfl rfl ?_
  refine x_iconst C dL_law_272 ?_
  refine x_iadd C dL_law_273 ?_
  refine L_sldz (j := 2) C hX (by decide) (by decide) (by decide) dL_law_274 ?_
  refine L_call C ⟨rfl, rfl⟩ hW.2.2.1 hW.2.2.2.1 (R := fun _ => True) (fun _ _ _ _ h => h) (m_textA (s := zs 1) (p := zs 2) z1 z2) ckL_27 im_X12_text se_X12_text (nlt rfl) rfl rfl rfl rfl rfl (nle rfl) ⟨nle rfl, nle rfl⟩ dL_law_275 (fun r X' hp => ?_)
  subst hp
  refine x_icmp_eq (tgt := 1445) C dL_law_278 (by decide) ⟨by unfold TXT; repeat (first | omega | split), by unfold TXT; repeat (first | omega | split)⟩ ⟨by unfold TXT; repeat (first | omega | split), by unfold TXT; repeat (first | omega | split)⟩ (fun _ => ?_) (fun h => absurd rfl h)
  exact Wx_PH (fun H h => trivial) hE
set_option maxHeartbeats 4000000 in
theorem lc_3 {E : ET} {D : va_G} {ad ad2 : Nat → Nat} {cA cA2 : Nat → ClassId} {b : Nat} {zs : Nat → Int} (C : CX E (wI D) cL_law 4 RL (some .boolean) room_1) (hX : LAW E b 6 (fun j => iI (zs j))) (hz : ∀ j, inR (zs j)) (hW : LW E D ad ad2 cA cA2) (hE : Wx E (wI D) 4 (fun _ => True) 1445 [(3, .int (iI 0)), (2, .ref (ad2 0)), (1, .ref (ad 0)), (0, .ref b)] []) : Wx E (wI D) 4 (fun H => PX (wX D ad cA) x0X H ∧ PX (wM D ad2 cA2) x0M H) 283 [(3, .int (iI 0)), (2, .ref (ad2 0)), (1, .ref (ad 0)), (0, .ref b)] [] := by
  have z1 := hz 1
  have z2 := hz 2
  have z3 := hz 3
  have z4 := hz 4
  have z5 := hz 5
  refine x_aload_n (i := 1) C dL_law_283 rfl rfl ?_
  refine x_aload_n (i := 0) C dL_law_284 rfl rfl ?_
  refine x_iload_n (i := 3) C dL_law_285 rfl rfl ?_
  refine x_iconst C dL_law_286 ?_
  refine x_iadd C dL_law_287 ?_
  refine L_sldz (j := 1) C hX (by decide) (by decide) (by decide) dL_law_288 ?_
  refine L_call C ⟨rfl, rfl⟩ hW.1 hW.2.1 (L_keep (X := x0M) hW.2.2.2.2) (x_fault (q := zs 1) z1) ckL_28 im_X11_fault se_X11_fault (nlt rfl) rfl rfl rfl rfl rfl (nle rfl) ⟨nle rfl, nle rfl⟩ dL_law_289 (fun r X' hp => ?_)
  subst hp
  refine Wx_PH (PH' := fun H => PX (wM D ad2 cA2) x0M H ∧ True) (fun H h => ⟨h.2, trivial⟩) ?_
  refine x_aload_n (i := 2) C dL_law_292 rfl rfl ?_
  refine x_aload_n (i := 0) C dL_law_293 rfl rfl ?_
  refine x_iload_n (i := 3) C dL_law_294 rfl rfl ?_
  refine x_iconst C dL_law_295 ?_
  refine x_iadd C dL_law_296 ?_
  refine L_sldz (j := 1) C hX (by decide) (by decide) (by decide) dL_law_297 ?_
  refine L_call C ⟨rfl, rfl⟩ hW.2.2.1 hW.2.2.2.1 (R := fun _ => True) (fun _ _ _ _ h => h) (m_fault (q := zs 1) z1) ckL_31 im_X12_fault se_X12_fault (nlt rfl) rfl rfl rfl rfl rfl (nle rfl) ⟨nle rfl, nle rfl⟩ dL_law_298 (fun r X' hp => ?_)
  subst hp
  refine x_icmp_eq (tgt := 1445) C dL_law_301 (by decide) ⟨by split <;> omega, by split <;> omega⟩ ⟨by split <;> omega, by split <;> omega⟩ (fun _ => ?_) (fun h => absurd rfl h)
  exact Wx_PH (fun H h => trivial) hE
set_option maxHeartbeats 4000000 in
theorem lc_4 {E : ET} {D : va_G} {ad ad2 : Nat → Nat} {cA cA2 : Nat → ClassId} {b : Nat} {zs : Nat → Int} (C : CX E (wI D) cL_law 4 RL (some .boolean) room_1) (hX : LAW E b 6 (fun j => iI (zs j))) (hz : ∀ j, inR (zs j)) (hW : LW E D ad ad2 cA cA2) (hE : Wx E (wI D) 4 (fun _ => True) 1445 [(3, .int (iI 0)), (2, .ref (ad2 0)), (1, .ref (ad 0)), (0, .ref b)] []) : Wx E (wI D) 4 (fun H => PX (wX D ad cA) x0X H ∧ PX (wM D ad2 cA2) x0M H) 306 [(3, .int (iI 0)), (2, .ref (ad2 0)), (1, .ref (ad 0)), (0, .ref b)] [] := by
  have z1 := hz 1
  have z2 := hz 2
  have z3 := hz 3
  have z4 := hz 4
  have z5 := hz 5
  refine x_aload_n (i := 1) C dL_law_306 rfl rfl ?_
  refine x_aload_n (i := 0) C dL_law_307 rfl rfl ?_
  refine x_iload_n (i := 3) C dL_law_308 rfl rfl ?_
  refine x_iconst C dL_law_309 ?_
  refine x_iadd C dL_law_310 ?_
  refine L_sldz (j := 1) C hX (by decide) (by decide) (by decide) dL_law_311 ?_
  refine x_aload_n (i := 0) C dL_law_312 rfl rfl ?_
  refine x_iload_n (i := 3) C dL_law_313 rfl rfl ?_
  refine x_iconst C dL_law_314 ?_
  refine x_iadd C dL_law_315 ?_
  refine L_sldz (j := 2) C hX (by decide) (by decide) (by decide) dL_law_316 ?_
  refine L_call C ⟨rfl, rfl⟩ hW.1 hW.2.1 (L_keep (X := x0M) hW.2.2.2.2) (x_board (a := zs 1) (b := zs 2) z1 z2) ckL_32 im_X11_board se_X11_board (nlt rfl) rfl rfl rfl rfl rfl (nle rfl) ⟨nle rfl, nle rfl⟩ dL_law_317 (fun r X' hp => ?_)
  subst hp
  refine Wx_PH (PH' := fun H => PX (wM D ad2 cA2) x0M H ∧ True) (fun H h => ⟨h.2, trivial⟩) ?_
  refine x_aload_n (i := 2) C dL_law_320 rfl rfl ?_
  refine x_aload_n (i := 0) C dL_law_321 rfl rfl ?_
  refine x_iload_n (i := 3) C dL_law_322 rfl rfl ?_
  refine x_iconst C dL_law_323 ?_
  refine x_iadd C dL_law_324 ?_
  refine L_sldz (j := 1) C hX (by decide) (by decide) (by decide) dL_law_325 ?_
  refine x_aload_n (i := 0) C dL_law_326 rfl rfl ?_
  refine x_iload_n (i := 3) C dL_law_327 rfl rfl ?_
  refine x_iconst C dL_law_328 ?_
  refine x_iadd C dL_law_329 ?_
  refine L_sldz (j := 2) C hX (by decide) (by decide) (by decide) dL_law_330 ?_
  refine L_call C ⟨rfl, rfl⟩ hW.2.2.1 hW.2.2.2.1 (R := fun _ => True) (fun _ _ _ _ h => h) (m_board (a := zs 1) (b := zs 2) z1 z2) ckL_35 im_X12_board se_X12_board (nlt rfl) rfl rfl rfl rfl rfl (nle rfl) ⟨nle rfl, nle rfl⟩ dL_law_331 (fun r X' hp => ?_)
  subst hp
  refine x_icmp_eq (tgt := 1445) C dL_law_334 (by decide) ⟨by omega, by omega⟩ ⟨by omega, by omega⟩ (fun _ => ?_) (fun h => absurd rfl h)
  exact Wx_PH (fun H h => trivial) hE
set_option maxHeartbeats 4000000 in
theorem lc_5 {E : ET} {D : va_G} {ad ad2 : Nat → Nat} {cA cA2 : Nat → ClassId} {b : Nat} {zs : Nat → Int} (C : CX E (wI D) cL_law 4 RL (some .boolean) room_1) (hX : LAW E b 6 (fun j => iI (zs j))) (hz : ∀ j, inR (zs j)) (hW : LW E D ad ad2 cA cA2) (hE : Wx E (wI D) 4 (fun _ => True) 1445 [(3, .int (iI 0)), (2, .ref (ad2 0)), (1, .ref (ad 0)), (0, .ref b)] []) : Wx E (wI D) 4 (fun H => PX (wX D ad cA) x0X H ∧ PX (wM D ad2 cA2) x0M H) 339 [(3, .int (iI 0)), (2, .ref (ad2 0)), (1, .ref (ad 0)), (0, .ref b)] [] := by
  have z1 := hz 1
  have z2 := hz 2
  have z3 := hz 3
  have z4 := hz 4
  have z5 := hz 5
  refine x_aload_n (i := 1) C dL_law_339 rfl rfl ?_
  refine x_aload_n (i := 0) C dL_law_340 rfl rfl ?_
  refine x_iload_n (i := 3) C dL_law_341 rfl rfl ?_
  refine x_iconst C dL_law_342 ?_
  refine x_iadd C dL_law_343 ?_
  refine L_sldz (j := 1) C hX (by decide) (by decide) (by decide) dL_law_344 ?_
  refine x_aload_n (i := 0) C dL_law_345 rfl rfl ?_
  refine x_iload_n (i := 3) C dL_law_346 rfl rfl ?_
  refine x_iconst C dL_law_347 ?_
  refine x_iadd C dL_law_348 ?_
  refine L_sldz (j := 2) C hX (by decide) (by decide) (by decide) dL_law_349 ?_
  refine L_call C ⟨rfl, rfl⟩ hW.1 hW.2.1 (L_keep (X := x0M) hW.2.2.2.2) (x_field (a := zs 1) (b := zs 2) z1 z2) ckL_36 im_X11_field se_X11_field (nlt rfl) rfl rfl rfl rfl rfl (nle rfl) ⟨nle rfl, nle rfl⟩ dL_law_350 (fun r X' hp => ?_)
  subst hp
  refine Wx_PH (PH' := fun H => PX (wM D ad2 cA2) x0M H ∧ True) (fun H h => ⟨h.2, trivial⟩) ?_
  refine x_aload_n (i := 2) C dL_law_353 rfl rfl ?_
  refine x_aload_n (i := 0) C dL_law_354 rfl rfl ?_
  refine x_iload_n (i := 3) C dL_law_355 rfl rfl ?_
  refine x_iconst C dL_law_356 ?_
  refine x_iadd C dL_law_357 ?_
  refine L_sldz (j := 1) C hX (by decide) (by decide) (by decide) dL_law_358 ?_
  refine x_aload_n (i := 0) C dL_law_359 rfl rfl ?_
  refine x_iload_n (i := 3) C dL_law_360 rfl rfl ?_
  refine x_iconst C dL_law_361 ?_
  refine x_iadd C dL_law_362 ?_
  refine L_sldz (j := 2) C hX (by decide) (by decide) (by decide) dL_law_363 ?_
  refine L_call C ⟨rfl, rfl⟩ hW.2.2.1 hW.2.2.2.1 (R := fun _ => True) (fun _ _ _ _ h => h) (m_field (a := zs 1) (b := zs 2) z1 z2) ckL_39 im_X12_field se_X12_field (nlt rfl) rfl rfl rfl rfl rfl (nle rfl) ⟨nle rfl, nle rfl⟩ dL_law_364 (fun r X' hp => ?_)
  subst hp
  refine x_icmp_eq (tgt := 1445) C dL_law_367 (by decide) ⟨by omega, by omega⟩ ⟨by omega, by omega⟩ (fun _ => ?_) (fun h => absurd rfl h)
  exact Wx_PH (fun H h => trivial) hE
set_option maxHeartbeats 4000000 in
theorem lc_6 {E : ET} {D : va_G} {ad ad2 : Nat → Nat} {cA cA2 : Nat → ClassId} {b : Nat} {zs : Nat → Int} (C : CX E (wI D) cL_law 4 RL (some .boolean) room_1) (hX : LAW E b 6 (fun j => iI (zs j))) (hz : ∀ j, inR (zs j)) (hW : LW E D ad ad2 cA cA2) (hE : Wx E (wI D) 4 (fun _ => True) 1445 [(3, .int (iI 0)), (2, .ref (ad2 0)), (1, .ref (ad 0)), (0, .ref b)] []) : Wx E (wI D) 4 (fun H => PX (wX D ad cA) x0X H ∧ PX (wM D ad2 cA2) x0M H) 372 [(3, .int (iI 0)), (2, .ref (ad2 0)), (1, .ref (ad 0)), (0, .ref b)] [] := by
  have z1 := hz 1
  have z2 := hz 2
  have z3 := hz 3
  have z4 := hz 4
  have z5 := hz 5
  refine x_aload_n (i := 1) C dL_law_372 rfl rfl ?_
  refine x_aload_n (i := 0) C dL_law_373 rfl rfl ?_
  refine x_iload_n (i := 3) C dL_law_374 rfl rfl ?_
  refine x_iconst C dL_law_375 ?_
  refine x_iadd C dL_law_376 ?_
  refine L_sldz (j := 1) C hX (by decide) (by decide) (by decide) dL_law_377 ?_
  refine x_aload_n (i := 0) C dL_law_378 rfl rfl ?_
  refine x_iload_n (i := 3) C dL_law_379 rfl rfl ?_
  refine x_iconst C dL_law_380 ?_
  refine x_iadd C dL_law_381 ?_
  refine L_sldz (j := 2) C hX (by decide) (by decide) (by decide) dL_law_382 ?_
  refine x_aload_n (i := 0) C dL_law_383 rfl rfl ?_
  refine x_iload_n (i := 3) C dL_law_384 rfl rfl ?_
  refine x_iconst C dL_law_385 ?_
  refine x_iadd C dL_law_386 ?_
  refine L_sldz (j := 3) C hX (by decide) (by decide) (by decide) dL_law_387 ?_
  refine L_call C ⟨rfl, rfl⟩ hW.1 hW.2.1 (L_keep (X := x0M) hW.2.2.2.2) (x_man (a := zs 1) (b := zs 2) (c := zs 3) z1 z2 z3) ckL_40 im_X11_man se_X11_man (nlt rfl) rfl rfl rfl rfl rfl (nle rfl) ⟨nle rfl, nle rfl⟩ dL_law_388 (fun r X' hp => ?_)
  subst hp
  refine Wx_PH (PH' := fun H => PX (wM D ad2 cA2) x0M H ∧ True) (fun H h => ⟨h.2, trivial⟩) ?_
  refine x_aload_n (i := 2) C dL_law_391 rfl rfl ?_
  refine x_aload_n (i := 0) C dL_law_392 rfl rfl ?_
  refine x_iload_n (i := 3) C dL_law_393 rfl rfl ?_
  refine x_iconst C dL_law_394 ?_
  refine x_iadd C dL_law_395 ?_
  refine L_sldz (j := 1) C hX (by decide) (by decide) (by decide) dL_law_396 ?_
  refine x_aload_n (i := 0) C dL_law_397 rfl rfl ?_
  refine x_iload_n (i := 3) C dL_law_398 rfl rfl ?_
  refine x_iconst C dL_law_399 ?_
  refine x_iadd C dL_law_400 ?_
  refine L_sldz (j := 2) C hX (by decide) (by decide) (by decide) dL_law_401 ?_
  refine x_aload_n (i := 0) C dL_law_402 rfl rfl ?_
  refine x_iload_n (i := 3) C dL_law_403 rfl rfl ?_
  refine x_iconst C dL_law_404 ?_
  refine x_iadd C dL_law_405 ?_
  refine L_sldz (j := 3) C hX (by decide) (by decide) (by decide) dL_law_406 ?_
  refine L_call C ⟨rfl, rfl⟩ hW.2.2.1 hW.2.2.2.1 (R := fun _ => True) (fun _ _ _ _ h => h) (m_man (a := zs 1) (b := zs 2) (c := zs 3) z1 z2 z3) ckL_44 im_X12_man se_X12_man (nlt rfl) rfl rfl rfl rfl rfl (nle rfl) ⟨nle rfl, nle rfl⟩ dL_law_407 (fun r X' hp => ?_)
  subst hp
  refine x_icmp_eq (tgt := 1445) C dL_law_410 (by decide) ⟨by omega, by omega⟩ ⟨by omega, by omega⟩ (fun _ => ?_) (fun h => absurd rfl h)
  exact Wx_PH (fun H h => trivial) hE
set_option maxHeartbeats 4000000 in
theorem lc_7 {E : ET} {D : va_G} {ad ad2 : Nat → Nat} {cA cA2 : Nat → ClassId} {b : Nat} {zs : Nat → Int} (C : CX E (wI D) cL_law 4 RL (some .boolean) room_1) (hX : LAW E b 6 (fun j => iI (zs j))) (hz : ∀ j, inR (zs j)) (hW : LW E D ad ad2 cA cA2) (hE : Wx E (wI D) 4 (fun _ => True) 1445 [(3, .int (iI 0)), (2, .ref (ad2 0)), (1, .ref (ad 0)), (0, .ref b)] []) : Wx E (wI D) 4 (fun H => PX (wX D ad cA) x0X H ∧ PX (wM D ad2 cA2) x0M H) 415 [(3, .int (iI 0)), (2, .ref (ad2 0)), (1, .ref (ad 0)), (0, .ref b)] [] := by
  have z1 := hz 1
  have z2 := hz 2
  have z3 := hz 3
  have z4 := hz 4
  have z5 := hz 5
  refine x_aload_n (i := 1) C dL_law_415 rfl rfl ?_
  refine x_aload_n (i := 0) C dL_law_416 rfl rfl ?_
  refine x_iload_n (i := 3) C dL_law_417 rfl rfl ?_
  refine x_iconst C dL_law_418 ?_
  refine x_iadd C dL_law_419 ?_
  refine L_sldz (j := 1) C hX (by decide) (by decide) (by decide) dL_law_420 ?_
  refine x_aload_n (i := 0) C dL_law_421 rfl rfl ?_
  refine x_iload_n (i := 3) C dL_law_422 rfl rfl ?_
  refine x_iconst C dL_law_423 ?_
  refine x_iadd C dL_law_424 ?_
  refine L_sldz (j := 2) C hX (by decide) (by decide) (by decide) dL_law_425 ?_
  refine L_call C ⟨rfl, rfl⟩ hW.1 hW.2.1 (L_keep (X := x0M) hW.2.2.2.2) (x_rule (a := zs 1) (b := zs 2) z1 z2) ckL_45 im_X11_rule se_X11_rule (nlt rfl) rfl rfl rfl rfl rfl (nle rfl) ⟨nle rfl, nle rfl⟩ dL_law_426 (fun r X' hp => ?_)
  subst hp
  refine Wx_PH (PH' := fun H => PX (wM D ad2 cA2) x0M H ∧ True) (fun H h => ⟨h.2, trivial⟩) ?_
  refine x_aload_n (i := 2) C dL_law_429 rfl rfl ?_
  refine x_aload_n (i := 0) C dL_law_430 rfl rfl ?_
  refine x_iload_n (i := 3) C dL_law_431 rfl rfl ?_
  refine x_iconst C dL_law_432 ?_
  refine x_iadd C dL_law_433 ?_
  refine L_sldz (j := 1) C hX (by decide) (by decide) (by decide) dL_law_434 ?_
  refine x_aload_n (i := 0) C dL_law_435 rfl rfl ?_
  refine x_iload_n (i := 3) C dL_law_436 rfl rfl ?_
  refine x_iconst C dL_law_437 ?_
  refine x_iadd C dL_law_438 ?_
  refine L_sldz (j := 2) C hX (by decide) (by decide) (by decide) dL_law_439 ?_
  refine L_call C ⟨rfl, rfl⟩ hW.2.2.1 hW.2.2.2.1 (R := fun _ => True) (fun _ _ _ _ h => h) (m_rule (a := zs 1) (b := zs 2) z1 z2) ckL_48 im_X12_rule se_X12_rule (nlt rfl) rfl rfl rfl rfl rfl (nle rfl) ⟨nle rfl, nle rfl⟩ dL_law_440 (fun r X' hp => ?_)
  subst hp
  refine x_icmp_eq (tgt := 1445) C dL_law_443 (by decide) ⟨by omega, by omega⟩ ⟨by omega, by omega⟩ (fun _ => ?_) (fun h => absurd rfl h)
  exact Wx_PH (fun H h => trivial) hE
set_option maxHeartbeats 4000000 in
theorem lc_8 {E : ET} {D : va_G} {ad ad2 : Nat → Nat} {cA cA2 : Nat → ClassId} {b : Nat} {zs : Nat → Int} (C : CX E (wI D) cL_law 4 RL (some .boolean) room_1) (hX : LAW E b 6 (fun j => iI (zs j))) (hz : ∀ j, inR (zs j)) (hW : LW E D ad ad2 cA cA2) (hE : Wx E (wI D) 4 (fun _ => True) 1445 [(3, .int (iI 0)), (2, .ref (ad2 0)), (1, .ref (ad 0)), (0, .ref b)] []) : Wx E (wI D) 4 (fun H => PX (wX D ad cA) x0X H ∧ PX (wM D ad2 cA2) x0M H) 448 [(3, .int (iI 0)), (2, .ref (ad2 0)), (1, .ref (ad 0)), (0, .ref b)] [] := by
  have z1 := hz 1
  have z2 := hz 2
  have z3 := hz 3
  have z4 := hz 4
  have z5 := hz 5
  refine x_aload_n (i := 1) C dL_law_448 rfl rfl ?_
  refine x_aload_n (i := 0) C dL_law_449 rfl rfl ?_
  refine x_iload_n (i := 3) C dL_law_450 rfl rfl ?_
  refine x_iconst C dL_law_451 ?_
  refine x_iadd C dL_law_452 ?_
  refine L_sldz (j := 1) C hX (by decide) (by decide) (by decide) dL_law_453 ?_
  refine x_aload_n (i := 0) C dL_law_454 rfl rfl ?_
  refine x_iload_n (i := 3) C dL_law_455 rfl rfl ?_
  refine x_iconst C dL_law_456 ?_
  refine x_iadd C dL_law_457 ?_
  refine L_sldz (j := 2) C hX (by decide) (by decide) (by decide) dL_law_458 ?_
  refine x_aload_n (i := 0) C dL_law_459 rfl rfl ?_
  refine x_iload_n (i := 3) C dL_law_460 rfl rfl ?_
  refine x_iconst C dL_law_461 ?_
  refine x_iadd C dL_law_462 ?_
  refine L_sldz (j := 3) C hX (by decide) (by decide) (by decide) dL_law_463 ?_
  refine L_call C ⟨rfl, rfl⟩ hW.1 hW.2.1 (L_keep (X := x0M) hW.2.2.2.2) (x_ends (a := zs 1) (b := zs 2) (c := zs 3) z1 z2 z3) ckL_49 im_X11_ends se_X11_ends (nlt rfl) rfl rfl rfl rfl rfl (nle rfl) ⟨nle rfl, nle rfl⟩ dL_law_464 (fun r X' hp => ?_)
  subst hp
  refine Wx_PH (PH' := fun H => PX (wM D ad2 cA2) x0M H ∧ True) (fun H h => ⟨h.2, trivial⟩) ?_
  refine x_aload_n (i := 2) C dL_law_467 rfl rfl ?_
  refine x_aload_n (i := 0) C dL_law_468 rfl rfl ?_
  refine x_iload_n (i := 3) C dL_law_469 rfl rfl ?_
  refine x_iconst C dL_law_470 ?_
  refine x_iadd C dL_law_471 ?_
  refine L_sldz (j := 1) C hX (by decide) (by decide) (by decide) dL_law_472 ?_
  refine x_aload_n (i := 0) C dL_law_473 rfl rfl ?_
  refine x_iload_n (i := 3) C dL_law_474 rfl rfl ?_
  refine x_iconst C dL_law_475 ?_
  refine x_iadd C dL_law_476 ?_
  refine L_sldz (j := 2) C hX (by decide) (by decide) (by decide) dL_law_477 ?_
  refine x_aload_n (i := 0) C dL_law_478 rfl rfl ?_
  refine x_iload_n (i := 3) C dL_law_479 rfl rfl ?_
  refine x_iconst C dL_law_480 ?_
  refine x_iadd C dL_law_481 ?_
  refine L_sldz (j := 3) C hX (by decide) (by decide) (by decide) dL_law_482 ?_
  refine L_call C ⟨rfl, rfl⟩ hW.2.2.1 hW.2.2.2.1 (R := fun _ => True) (fun _ _ _ _ h => h) (m_ends (a := zs 1) (b := zs 2) (c := zs 3) z1 z2 z3) ckL_53 im_X12_ends se_X12_ends (nlt rfl) rfl rfl rfl rfl rfl (nle rfl) ⟨nle rfl, nle rfl⟩ dL_law_483 (fun r X' hp => ?_)
  subst hp
  refine x_lcmp C dL_law_486 ?_
  rw [show lg_cmp ((-1)) ((-1)) = iI 0 from by decide]
  refine x_if_eq (tgt := 1445) C dL_law_487 (by decide) inR_0 (fun _ => ?_) (fun h => absurd rfl h)
  exact Wx_PH (fun H h => trivial) hE
set_option maxHeartbeats 4000000 in
theorem lc_9 {E : ET} {D : va_G} {ad ad2 : Nat → Nat} {cA cA2 : Nat → ClassId} {b : Nat} {zs : Nat → Int} (C : CX E (wI D) cL_law 4 RL (some .boolean) room_1) (hX : LAW E b 6 (fun j => iI (zs j))) (hz : ∀ j, inR (zs j)) (hW : LW E D ad ad2 cA cA2) (hE : Wx E (wI D) 4 (fun _ => True) 1445 [(3, .int (iI 0)), (2, .ref (ad2 0)), (1, .ref (ad 0)), (0, .ref b)] []) : Wx E (wI D) 4 (fun H => PX (wX D ad cA) x0X H ∧ PX (wM D ad2 cA2) x0M H) 492 [(3, .int (iI 0)), (2, .ref (ad2 0)), (1, .ref (ad 0)), (0, .ref b)] [] := by
  have z1 := hz 1
  have z2 := hz 2
  have z3 := hz 3
  have z4 := hz 4
  have z5 := hz 5
  refine x_aload_n (i := 1) C dL_law_492 rfl rfl ?_
  refine x_aload_n (i := 0) C dL_law_493 rfl rfl ?_
  refine x_iload_n (i := 3) C dL_law_494 rfl rfl ?_
  refine x_iconst C dL_law_495 ?_
  refine x_iadd C dL_law_496 ?_
  refine L_sldz (j := 1) C hX (by decide) (by decide) (by decide) dL_law_497 ?_
  refine x_aload_n (i := 0) C dL_law_498 rfl rfl ?_
  refine x_iload_n (i := 3) C dL_law_499 rfl rfl ?_
  refine x_iconst C dL_law_500 ?_
  refine x_iadd C dL_law_501 ?_
  refine L_sldz (j := 2) C hX (by decide) (by decide) (by decide) dL_law_502 ?_
  refine x_aload_n (i := 0) C dL_law_503 rfl rfl ?_
  refine x_iload_n (i := 3) C dL_law_504 rfl rfl ?_
  refine x_iconst C dL_law_505 ?_
  refine x_iadd C dL_law_506 ?_
  refine L_sldz (j := 3) C hX (by decide) (by decide) (by decide) dL_law_507 ?_
  refine x_aload_n (i := 0) C dL_law_508 rfl rfl ?_
  refine x_iload_n (i := 3) C dL_law_509 rfl rfl ?_
  refine x_iconst C dL_law_510 ?_
  refine x_iadd C dL_law_511 ?_
  refine L_sldz (j := 4) C hX (by decide) (by decide) (by decide) dL_law_512 ?_
  refine L_call C ⟨rfl, rfl⟩ hW.1 hW.2.1 (L_keep (X := x0M) hW.2.2.2.2) (x_ways (a := zs 1) (b := zs 2) (c := zs 3) (d := zs 4) z1 z2 z3 z4) ckL_54 im_X11_ways se_X11_ways (nlt rfl) rfl rfl rfl rfl rfl (nle rfl) ⟨nle rfl, nle rfl⟩ dL_law_513 (fun r X' hp => ?_)
  subst hp
  refine Wx_PH (PH' := fun H => PX (wM D ad2 cA2) x0M H ∧ True) (fun H h => ⟨h.2, trivial⟩) ?_
  refine x_aload_n (i := 2) C dL_law_516 rfl rfl ?_
  refine x_aload_n (i := 0) C dL_law_517 rfl rfl ?_
  refine x_iload_n (i := 3) C dL_law_518 rfl rfl ?_
  refine x_iconst C dL_law_519 ?_
  refine x_iadd C dL_law_520 ?_
  refine L_sldz (j := 1) C hX (by decide) (by decide) (by decide) dL_law_521 ?_
  refine x_aload_n (i := 0) C dL_law_522 rfl rfl ?_
  refine x_iload_n (i := 3) C dL_law_523 rfl rfl ?_
  refine x_iconst C dL_law_524 ?_
  refine x_iadd C dL_law_525 ?_
  refine L_sldz (j := 2) C hX (by decide) (by decide) (by decide) dL_law_526 ?_
  refine x_aload_n (i := 0) C dL_law_527 rfl rfl ?_
  refine x_iload_n (i := 3) C dL_law_528 rfl rfl ?_
  refine x_iconst C dL_law_529 ?_
  refine x_iadd C dL_law_530 ?_
  refine L_sldz (j := 3) C hX (by decide) (by decide) (by decide) dL_law_531 ?_
  refine x_aload_n (i := 0) C dL_law_532 rfl rfl ?_
  refine x_iload_n (i := 3) C dL_law_533 rfl rfl ?_
  refine x_iconst C dL_law_534 ?_
  refine x_iadd C dL_law_535 ?_
  refine L_sldz (j := 4) C hX (by decide) (by decide) (by decide) dL_law_536 ?_
  refine L_call C ⟨rfl, rfl⟩ hW.2.2.1 hW.2.2.2.1 (R := fun _ => True) (fun _ _ _ _ h => h) (m_ways (a := zs 1) (b := zs 2) (c := zs 3) (d := zs 4) z1 z2 z3 z4) ckL_58 im_X12_ways se_X12_ways (nlt rfl) rfl rfl rfl rfl rfl (nle rfl) ⟨nle rfl, nle rfl⟩ dL_law_537 (fun r X' hp => ?_)
  subst hp
  refine x_icmp_eq (tgt := 1445) C dL_law_540 (by decide) ⟨by omega, by omega⟩ ⟨by omega, by omega⟩ (fun _ => ?_) (fun h => absurd rfl h)
  exact Wx_PH (fun H h => trivial) hE
set_option maxHeartbeats 4000000 in
theorem lc_10 {E : ET} {D : va_G} {ad ad2 : Nat → Nat} {cA cA2 : Nat → ClassId} {b : Nat} {zs : Nat → Int} (C : CX E (wI D) cL_law 4 RL (some .boolean) room_1) (hX : LAW E b 6 (fun j => iI (zs j))) (hz : ∀ j, inR (zs j)) (hW : LW E D ad ad2 cA cA2) (hE : Wx E (wI D) 4 (fun _ => True) 1445 [(3, .int (iI 0)), (2, .ref (ad2 0)), (1, .ref (ad 0)), (0, .ref b)] []) : Wx E (wI D) 4 (fun H => PX (wX D ad cA) x0X H ∧ PX (wM D ad2 cA2) x0M H) 545 [(3, .int (iI 0)), (2, .ref (ad2 0)), (1, .ref (ad 0)), (0, .ref b)] [] := by
  have z1 := hz 1
  have z2 := hz 2
  have z3 := hz 3
  have z4 := hz 4
  have z5 := hz 5
  refine x_aload_n (i := 1) C dL_law_545 rfl rfl ?_
  refine x_aload_n (i := 0) C dL_law_546 rfl rfl ?_
  refine x_iload_n (i := 3) C dL_law_547 rfl rfl ?_
  refine x_iconst C dL_law_548 ?_
  refine x_iadd C dL_law_549 ?_
  refine L_sldz (j := 1) C hX (by decide) (by decide) (by decide) dL_law_550 ?_
  refine x_aload_n (i := 0) C dL_law_551 rfl rfl ?_
  refine x_iload_n (i := 3) C dL_law_552 rfl rfl ?_
  refine x_iconst C dL_law_553 ?_
  refine x_iadd C dL_law_554 ?_
  refine L_sldz (j := 2) C hX (by decide) (by decide) (by decide) dL_law_555 ?_
  refine x_aload_n (i := 0) C dL_law_556 rfl rfl ?_
  refine x_iload_n (i := 3) C dL_law_557 rfl rfl ?_
  refine x_iconst C dL_law_558 ?_
  refine x_iadd C dL_law_559 ?_
  refine L_sldz (j := 3) C hX (by decide) (by decide) (by decide) dL_law_560 ?_
  refine x_aload_n (i := 0) C dL_law_561 rfl rfl ?_
  refine x_iload_n (i := 3) C dL_law_562 rfl rfl ?_
  refine x_iconst C dL_law_563 ?_
  refine x_iadd C dL_law_564 ?_
  refine L_sldz (j := 4) C hX (by decide) (by decide) (by decide) dL_law_565 ?_
  refine x_aload_n (i := 0) C dL_law_566 rfl rfl ?_
  refine x_iload_n (i := 3) C dL_law_567 rfl rfl ?_
  refine x_iconst C dL_law_568 ?_
  refine x_iadd C dL_law_569 ?_
  refine L_sldz (j := 5) C hX (by decide) (by decide) (by decide) dL_law_570 ?_
  refine L_call C ⟨rfl, rfl⟩ hW.1 hW.2.1 (L_keep (X := x0M) hW.2.2.2.2) (x_path (a := zs 1) (b := zs 2) (c := zs 3) (d := zs 4) (e := zs 5) z1 z2 z3 z4 z5) ckL_59 im_X11_path se_X11_path (nlt rfl) rfl rfl rfl rfl rfl (nle rfl) ⟨nle rfl, nle rfl⟩ dL_law_571 (fun r X' hp => ?_)
  subst hp
  refine Wx_PH (PH' := fun H => PX (wM D ad2 cA2) x0M H ∧ True) (fun H h => ⟨h.2, trivial⟩) ?_
  refine x_aload_n (i := 2) C dL_law_574 rfl rfl ?_
  refine x_aload_n (i := 0) C dL_law_575 rfl rfl ?_
  refine x_iload_n (i := 3) C dL_law_576 rfl rfl ?_
  refine x_iconst C dL_law_577 ?_
  refine x_iadd C dL_law_578 ?_
  refine L_sldz (j := 1) C hX (by decide) (by decide) (by decide) dL_law_579 ?_
  refine x_aload_n (i := 0) C dL_law_580 rfl rfl ?_
  refine x_iload_n (i := 3) C dL_law_581 rfl rfl ?_
  refine x_iconst C dL_law_582 ?_
  refine x_iadd C dL_law_583 ?_
  refine L_sldz (j := 2) C hX (by decide) (by decide) (by decide) dL_law_584 ?_
  refine x_aload_n (i := 0) C dL_law_585 rfl rfl ?_
  refine x_iload_n (i := 3) C dL_law_586 rfl rfl ?_
  refine x_iconst C dL_law_587 ?_
  refine x_iadd C dL_law_588 ?_
  refine L_sldz (j := 3) C hX (by decide) (by decide) (by decide) dL_law_589 ?_
  refine x_aload_n (i := 0) C dL_law_590 rfl rfl ?_
  refine x_iload_n (i := 3) C dL_law_591 rfl rfl ?_
  refine x_iconst C dL_law_592 ?_
  refine x_iadd C dL_law_593 ?_
  refine L_sldz (j := 4) C hX (by decide) (by decide) (by decide) dL_law_594 ?_
  refine x_aload_n (i := 0) C dL_law_595 rfl rfl ?_
  refine x_iload_n (i := 3) C dL_law_596 rfl rfl ?_
  refine x_iconst C dL_law_597 ?_
  refine x_iadd C dL_law_598 ?_
  refine L_sldz (j := 5) C hX (by decide) (by decide) (by decide) dL_law_599 ?_
  refine L_call C ⟨rfl, rfl⟩ hW.2.2.1 hW.2.2.2.1 (R := fun _ => True) (fun _ _ _ _ h => h) (m_path (a := zs 1) (b := zs 2) (c := zs 3) (d := zs 4) (e := zs 5) z1 z2 z3 z4 z5) ckL_62 im_X12_path se_X12_path (nlt rfl) rfl rfl rfl rfl rfl (nle rfl) ⟨nle rfl, nle rfl⟩ dL_law_600 (fun r X' hp => ?_)
  subst hp
  refine x_icmp_eq (tgt := 1445) C dL_law_603 (by decide) ⟨by omega, by omega⟩ ⟨by omega, by omega⟩ (fun _ => ?_) (fun h => absurd rfl h)
  exact Wx_PH (fun H h => trivial) hE
set_option maxHeartbeats 4000000 in
theorem lc_11 {E : ET} {D : va_G} {ad ad2 : Nat → Nat} {cA cA2 : Nat → ClassId} {b : Nat} {zs : Nat → Int} (C : CX E (wI D) cL_law 4 RL (some .boolean) room_1) (hX : LAW E b 6 (fun j => iI (zs j))) (hz : ∀ j, inR (zs j)) (hW : LW E D ad ad2 cA cA2) (hE : Wx E (wI D) 4 (fun _ => True) 1445 [(3, .int (iI 0)), (2, .ref (ad2 0)), (1, .ref (ad 0)), (0, .ref b)] []) : Wx E (wI D) 4 (fun H => PX (wX D ad cA) x0X H ∧ PX (wM D ad2 cA2) x0M H) 608 [(3, .int (iI 0)), (2, .ref (ad2 0)), (1, .ref (ad 0)), (0, .ref b)] [] := by
  have z1 := hz 1
  have z2 := hz 2
  have z3 := hz 3
  have z4 := hz 4
  have z5 := hz 5
  refine x_aload_n (i := 1) C dL_law_608 rfl rfl ?_
  refine x_aload_n (i := 0) C dL_law_609 rfl rfl ?_
  refine x_iload_n (i := 3) C dL_law_610 rfl rfl ?_
  refine x_iconst C dL_law_611 ?_
  refine x_iadd C dL_law_612 ?_
  refine L_sldz (j := 1) C hX (by decide) (by decide) (by decide) dL_law_613 ?_
  refine x_aload_n (i := 0) C dL_law_614 rfl rfl ?_
  refine x_iload_n (i := 3) C dL_law_615 rfl rfl ?_
  refine x_iconst C dL_law_616 ?_
  refine x_iadd C dL_law_617 ?_
  refine L_sldz (j := 2) C hX (by decide) (by decide) (by decide) dL_law_618 ?_
  refine x_aload_n (i := 0) C dL_law_619 rfl rfl ?_
  refine x_iload_n (i := 3) C dL_law_620 rfl rfl ?_
  refine x_iconst C dL_law_621 ?_
  refine x_iadd C dL_law_622 ?_
  refine L_sldz (j := 3) C hX (by decide) (by decide) (by decide) dL_law_623 ?_
  refine L_call C ⟨rfl, rfl⟩ hW.1 hW.2.1 (L_keep (X := x0M) hW.2.2.2.2) (x_move (a := zs 1) (b := zs 2) (c := zs 3) z1 z2 z3) ckL_63 im_X11_move se_X11_move (nlt rfl) rfl rfl rfl rfl rfl (nle rfl) ⟨nle rfl, nle rfl⟩ dL_law_624 (fun r X' hp => ?_)
  subst hp
  refine Wx_PH (PH' := fun H => PX (wM D ad2 cA2) x0M H ∧ True) (fun H h => ⟨h.2, trivial⟩) ?_
  refine x_aload_n (i := 2) C dL_law_627 rfl rfl ?_
  refine x_aload_n (i := 0) C dL_law_628 rfl rfl ?_
  refine x_iload_n (i := 3) C dL_law_629 rfl rfl ?_
  refine x_iconst C dL_law_630 ?_
  refine x_iadd C dL_law_631 ?_
  refine L_sldz (j := 1) C hX (by decide) (by decide) (by decide) dL_law_632 ?_
  refine x_aload_n (i := 0) C dL_law_633 rfl rfl ?_
  refine x_iload_n (i := 3) C dL_law_634 rfl rfl ?_
  refine x_iconst C dL_law_635 ?_
  refine x_iadd C dL_law_636 ?_
  refine L_sldz (j := 2) C hX (by decide) (by decide) (by decide) dL_law_637 ?_
  refine x_aload_n (i := 0) C dL_law_638 rfl rfl ?_
  refine x_iload_n (i := 3) C dL_law_639 rfl rfl ?_
  refine x_iconst C dL_law_640 ?_
  refine x_iadd C dL_law_641 ?_
  refine L_sldz (j := 3) C hX (by decide) (by decide) (by decide) dL_law_642 ?_
  refine L_call C ⟨rfl, rfl⟩ hW.2.2.1 hW.2.2.2.1 (R := fun _ => True) (fun _ _ _ _ h => h) (m_move (a := zs 1) (b := zs 2) (c := zs 3) z1 z2 z3) ckL_66 im_X12_move se_X12_move (nlt rfl) rfl rfl rfl rfl rfl (nle rfl) ⟨nle rfl, nle rfl⟩ dL_law_643 (fun r X' hp => ?_)
  subst hp
  refine x_icmp_eq (tgt := 1445) C dL_law_646 (by decide) ⟨by omega, by omega⟩ ⟨by omega, by omega⟩ (fun _ => ?_) (fun h => absurd rfl h)
  exact Wx_PH (fun H h => trivial) hE
set_option maxHeartbeats 4000000 in
theorem lc_12 {E : ET} {D : va_G} {ad ad2 : Nat → Nat} {cA cA2 : Nat → ClassId} {b : Nat} {zs : Nat → Int} (C : CX E (wI D) cL_law 4 RL (some .boolean) room_1) (hX : LAW E b 6 (fun j => iI (zs j))) (hz : ∀ j, inR (zs j)) (hW : LW E D ad ad2 cA cA2) (hE : Wx E (wI D) 4 (fun _ => True) 1445 [(3, .int (iI 0)), (2, .ref (ad2 0)), (1, .ref (ad 0)), (0, .ref b)] []) : Wx E (wI D) 4 (fun H => PX (wX D ad cA) x0X H ∧ PX (wM D ad2 cA2) x0M H) 651 [(3, .int (iI 0)), (2, .ref (ad2 0)), (1, .ref (ad 0)), (0, .ref b)] [] := by
  have z1 := hz 1
  have z2 := hz 2
  have z3 := hz 3
  have z4 := hz 4
  have z5 := hz 5
  refine x_aload_n (i := 1) C dL_law_651 rfl rfl ?_
  refine x_aload_n (i := 0) C dL_law_652 rfl rfl ?_
  refine x_iload_n (i := 3) C dL_law_653 rfl rfl ?_
  refine x_iconst C dL_law_654 ?_
  refine x_iadd C dL_law_655 ?_
  refine L_sldz (j := 1) C hX (by decide) (by decide) (by decide) dL_law_656 ?_
  refine x_aload_n (i := 0) C dL_law_657 rfl rfl ?_
  refine x_iload_n (i := 3) C dL_law_658 rfl rfl ?_
  refine x_iconst C dL_law_659 ?_
  refine x_iadd C dL_law_660 ?_
  refine L_sldz (j := 2) C hX (by decide) (by decide) (by decide) dL_law_661 ?_
  refine L_call C ⟨rfl, rfl⟩ hW.1 hW.2.1 (L_keep (X := x0M) hW.2.2.2.2) (x_stop (a := zs 1) (b := zs 2) z1 z2) ckL_67 im_X11_stop se_X11_stop (nlt rfl) rfl rfl rfl rfl rfl (nle rfl) ⟨nle rfl, nle rfl⟩ dL_law_662 (fun r X' hp => ?_)
  subst hp
  refine Wx_PH (PH' := fun H => PX (wM D ad2 cA2) x0M H ∧ True) (fun H h => ⟨h.2, trivial⟩) ?_
  refine x_aload_n (i := 2) C dL_law_665 rfl rfl ?_
  refine x_aload_n (i := 0) C dL_law_666 rfl rfl ?_
  refine x_iload_n (i := 3) C dL_law_667 rfl rfl ?_
  refine x_iconst C dL_law_668 ?_
  refine x_iadd C dL_law_669 ?_
  refine L_sldz (j := 1) C hX (by decide) (by decide) (by decide) dL_law_670 ?_
  refine x_aload_n (i := 0) C dL_law_671 rfl rfl ?_
  refine x_iload_n (i := 3) C dL_law_672 rfl rfl ?_
  refine x_iconst C dL_law_673 ?_
  refine x_iadd C dL_law_674 ?_
  refine L_sldz (j := 2) C hX (by decide) (by decide) (by decide) dL_law_675 ?_
  refine L_call C ⟨rfl, rfl⟩ hW.2.2.1 hW.2.2.2.1 (R := fun _ => True) (fun _ _ _ _ h => h) (m_stop (a := zs 1) (b := zs 2) z1 z2) ckL_70 im_X12_stop se_X12_stop (nlt rfl) rfl rfl rfl rfl rfl (nle rfl) ⟨nle rfl, nle rfl⟩ dL_law_676 (fun r X' hp => ?_)
  subst hp
  refine x_icmp_eq (tgt := 1445) C dL_law_679 (by decide) ⟨by omega, by omega⟩ ⟨by omega, by omega⟩ (fun _ => ?_) (fun h => absurd rfl h)
  exact Wx_PH (fun H h => trivial) hE
set_option maxHeartbeats 4000000 in
theorem lc_13 {E : ET} {D : va_G} {ad ad2 : Nat → Nat} {cA cA2 : Nat → ClassId} {b : Nat} {zs : Nat → Int} (C : CX E (wI D) cL_law 4 RL (some .boolean) room_1) (hX : LAW E b 6 (fun j => iI (zs j))) (hz : ∀ j, inR (zs j)) (hW : LW E D ad ad2 cA cA2) (hE : Wx E (wI D) 4 (fun _ => True) 1445 [(3, .int (iI 0)), (2, .ref (ad2 0)), (1, .ref (ad 0)), (0, .ref b)] []) : Wx E (wI D) 4 (fun H => PX (wX D ad cA) x0X H ∧ PX (wM D ad2 cA2) x0M H) 684 [(3, .int (iI 0)), (2, .ref (ad2 0)), (1, .ref (ad 0)), (0, .ref b)] [] := by
  have z1 := hz 1
  have z2 := hz 2
  have z3 := hz 3
  have z4 := hz 4
  have z5 := hz 5
  refine x_aload_n (i := 1) C dL_law_684 rfl rfl ?_
  refine x_aload_n (i := 0) C dL_law_685 rfl rfl ?_
  refine x_iload_n (i := 3) C dL_law_686 rfl rfl ?_
  refine x_iconst C dL_law_687 ?_
  refine x_iadd C dL_law_688 ?_
  refine L_sldz (j := 1) C hX (by decide) (by decide) (by decide) dL_law_689 ?_
  refine x_aload_n (i := 0) C dL_law_690 rfl rfl ?_
  refine x_iload_n (i := 3) C dL_law_691 rfl rfl ?_
  refine x_iconst C dL_law_692 ?_
  refine x_iadd C dL_law_693 ?_
  refine L_sldz (j := 2) C hX (by decide) (by decide) (by decide) dL_law_694 ?_
  refine x_aload_n (i := 0) C dL_law_695 rfl rfl ?_
  refine x_iload_n (i := 3) C dL_law_696 rfl rfl ?_
  refine x_iconst C dL_law_697 ?_
  refine x_iadd C dL_law_698 ?_
  refine L_sldz (j := 3) C hX (by decide) (by decide) (by decide) dL_law_699 ?_
  refine x_aload_n (i := 0) C dL_law_700 rfl rfl ?_
  refine x_iload_n (i := 3) C dL_law_701 rfl rfl ?_
  refine x_iconst C dL_law_702 ?_
  refine x_iadd C dL_law_703 ?_
  refine L_sldz (j := 4) C hX (by decide) (by decide) (by decide) dL_law_704 ?_
  refine L_call C ⟨rfl, rfl⟩ hW.1 hW.2.1 (L_keep (X := x0M) hW.2.2.2.2) (x_state (a := zs 1) (b := zs 2) (c := zs 3) (d := zs 4) z1 z2 z3 z4) ckL_71 im_X11_state se_X11_state (nlt rfl) rfl rfl rfl rfl rfl (nle rfl) ⟨nle rfl, nle rfl⟩ dL_law_705 (fun r X' hp => ?_)
  subst hp
  refine Wx_PH (PH' := fun H => PX (wM D ad2 cA2) x0M H ∧ True) (fun H h => ⟨h.2, trivial⟩) ?_
  refine x_aload_n (i := 2) C dL_law_708 rfl rfl ?_
  refine x_aload_n (i := 0) C dL_law_709 rfl rfl ?_
  refine x_iload_n (i := 3) C dL_law_710 rfl rfl ?_
  refine x_iconst C dL_law_711 ?_
  refine x_iadd C dL_law_712 ?_
  refine L_sldz (j := 1) C hX (by decide) (by decide) (by decide) dL_law_713 ?_
  refine x_aload_n (i := 0) C dL_law_714 rfl rfl ?_
  refine x_iload_n (i := 3) C dL_law_715 rfl rfl ?_
  refine x_iconst C dL_law_716 ?_
  refine x_iadd C dL_law_717 ?_
  refine L_sldz (j := 2) C hX (by decide) (by decide) (by decide) dL_law_718 ?_
  refine x_aload_n (i := 0) C dL_law_719 rfl rfl ?_
  refine x_iload_n (i := 3) C dL_law_720 rfl rfl ?_
  refine x_iconst C dL_law_721 ?_
  refine x_iadd C dL_law_722 ?_
  refine L_sldz (j := 3) C hX (by decide) (by decide) (by decide) dL_law_723 ?_
  refine x_aload_n (i := 0) C dL_law_724 rfl rfl ?_
  refine x_iload_n (i := 3) C dL_law_725 rfl rfl ?_
  refine x_iconst C dL_law_726 ?_
  refine x_iadd C dL_law_727 ?_
  refine L_sldz (j := 4) C hX (by decide) (by decide) (by decide) dL_law_728 ?_
  refine L_call C ⟨rfl, rfl⟩ hW.2.2.1 hW.2.2.2.1 (R := fun _ => True) (fun _ _ _ _ h => h) (m_state (a := zs 1) (b := zs 2) (c := zs 3) (d := zs 4) z1 z2 z3 z4) ckL_74 im_X12_state se_X12_state (nlt rfl) rfl rfl rfl rfl rfl (nle rfl) ⟨nle rfl, nle rfl⟩ dL_law_729 (fun r X' hp => ?_)
  subst hp
  refine x_icmp_eq (tgt := 1445) C dL_law_732 (by decide) ⟨by omega, by omega⟩ ⟨by omega, by omega⟩ (fun _ => ?_) (fun h => absurd rfl h)
  exact Wx_PH (fun H h => trivial) hE
set_option maxHeartbeats 4000000 in
theorem lc_14 {E : ET} {D : va_G} {ad ad2 : Nat → Nat} {cA cA2 : Nat → ClassId} {b : Nat} {zs : Nat → Int} (C : CX E (wI D) cL_law 4 RL (some .boolean) room_1) (hX : LAW E b 6 (fun j => iI (zs j))) (hz : ∀ j, inR (zs j)) (hW : LW E D ad ad2 cA cA2) (hE : Wx E (wI D) 4 (fun _ => True) 1445 [(3, .int (iI 0)), (2, .ref (ad2 0)), (1, .ref (ad 0)), (0, .ref b)] []) : Wx E (wI D) 4 (fun H => PX (wX D ad cA) x0X H ∧ PX (wM D ad2 cA2) x0M H) 737 [(3, .int (iI 0)), (2, .ref (ad2 0)), (1, .ref (ad 0)), (0, .ref b)] [] := by
  have z1 := hz 1
  have z2 := hz 2
  have z3 := hz 3
  have z4 := hz 4
  have z5 := hz 5
  refine x_aload_n (i := 1) C dL_law_737 rfl rfl ?_
  refine x_aload_n (i := 0) C dL_law_738 rfl rfl ?_
  refine x_iload_n (i := 3) C dL_law_739 rfl rfl ?_
  refine x_iconst C dL_law_740 ?_
  refine x_iadd C dL_law_741 ?_
  refine L_sldz (j := 1) C hX (by decide) (by decide) (by decide) dL_law_742 ?_
  refine x_aload_n (i := 0) C dL_law_743 rfl rfl ?_
  refine x_iload_n (i := 3) C dL_law_744 rfl rfl ?_
  refine x_iconst C dL_law_745 ?_
  refine x_iadd C dL_law_746 ?_
  refine L_sldz (j := 2) C hX (by decide) (by decide) (by decide) dL_law_747 ?_
  refine x_aload_n (i := 0) C dL_law_748 rfl rfl ?_
  refine x_iload_n (i := 3) C dL_law_749 rfl rfl ?_
  refine x_iconst C dL_law_750 ?_
  refine x_iadd C dL_law_751 ?_
  refine L_sldz (j := 3) C hX (by decide) (by decide) (by decide) dL_law_752 ?_
  refine x_aload_n (i := 0) C dL_law_753 rfl rfl ?_
  refine x_iload_n (i := 3) C dL_law_754 rfl rfl ?_
  refine x_iconst C dL_law_755 ?_
  refine x_iadd C dL_law_756 ?_
  refine L_sldz (j := 4) C hX (by decide) (by decide) (by decide) dL_law_757 ?_
  refine L_call C ⟨rfl, rfl⟩ hW.1 hW.2.1 (L_keep (X := x0M) hW.2.2.2.2) (x_may (a := zs 1) (b := zs 2) (c := zs 3) (d := zs 4) z1 z2 z3 z4) ckL_75 im_X11_may se_X11_may (nlt rfl) rfl rfl rfl rfl rfl (nle rfl) ⟨nle rfl, nle rfl⟩ dL_law_758 (fun r X' hp => ?_)
  subst hp
  refine Wx_PH (PH' := fun H => PX (wM D ad2 cA2) x0M H ∧ True) (fun H h => ⟨h.2, trivial⟩) ?_
  refine x_aload_n (i := 2) C dL_law_761 rfl rfl ?_
  refine x_aload_n (i := 0) C dL_law_762 rfl rfl ?_
  refine x_iload_n (i := 3) C dL_law_763 rfl rfl ?_
  refine x_iconst C dL_law_764 ?_
  refine x_iadd C dL_law_765 ?_
  refine L_sldz (j := 1) C hX (by decide) (by decide) (by decide) dL_law_766 ?_
  refine x_aload_n (i := 0) C dL_law_767 rfl rfl ?_
  refine x_iload_n (i := 3) C dL_law_768 rfl rfl ?_
  refine x_iconst C dL_law_769 ?_
  refine x_iadd C dL_law_770 ?_
  refine L_sldz (j := 2) C hX (by decide) (by decide) (by decide) dL_law_771 ?_
  refine x_aload_n (i := 0) C dL_law_772 rfl rfl ?_
  refine x_iload_n (i := 3) C dL_law_773 rfl rfl ?_
  refine x_iconst C dL_law_774 ?_
  refine x_iadd C dL_law_775 ?_
  refine L_sldz (j := 3) C hX (by decide) (by decide) (by decide) dL_law_776 ?_
  refine x_aload_n (i := 0) C dL_law_777 rfl rfl ?_
  refine x_iload_n (i := 3) C dL_law_778 rfl rfl ?_
  refine x_iconst C dL_law_779 ?_
  refine x_iadd C dL_law_780 ?_
  refine L_sldz (j := 4) C hX (by decide) (by decide) (by decide) dL_law_781 ?_
  refine L_call C ⟨rfl, rfl⟩ hW.2.2.1 hW.2.2.2.1 (R := fun _ => True) (fun _ _ _ _ h => h) (m_may (a := zs 1) (b := zs 2) (c := zs 3) (d := zs 4) z1 z2 z3 z4) ckL_79 im_X12_may se_X12_may (nlt rfl) rfl rfl rfl rfl rfl (nle rfl) ⟨nle rfl, nle rfl⟩ dL_law_782 (fun r X' hp => ?_)
  subst hp
  refine x_lcmp C dL_law_785 ?_
  rw [show lg_cmp ((-1)) ((-1)) = iI 0 from by decide]
  refine x_if_eq (tgt := 1445) C dL_law_786 (by decide) inR_0 (fun _ => ?_) (fun h => absurd rfl h)
  exact Wx_PH (fun H h => trivial) hE
set_option maxHeartbeats 4000000 in
theorem lc_15 {E : ET} {D : va_G} {ad ad2 : Nat → Nat} {cA cA2 : Nat → ClassId} {b : Nat} {zs : Nat → Int} (C : CX E (wI D) cL_law 4 RL (some .boolean) room_1) (hX : LAW E b 6 (fun j => iI (zs j))) (hz : ∀ j, inR (zs j)) (hW : LW E D ad ad2 cA cA2) (hE : Wx E (wI D) 4 (fun _ => True) 1445 [(3, .int (iI 0)), (2, .ref (ad2 0)), (1, .ref (ad 0)), (0, .ref b)] []) : Wx E (wI D) 4 (fun H => PX (wX D ad cA) x0X H ∧ PX (wM D ad2 cA2) x0M H) 791 [(3, .int (iI 0)), (2, .ref (ad2 0)), (1, .ref (ad 0)), (0, .ref b)] [] := by
  have z1 := hz 1
  have z2 := hz 2
  have z3 := hz 3
  have z4 := hz 4
  have z5 := hz 5
  refine x_aload_n (i := 1) C dL_law_791 rfl rfl ?_
  refine x_aload_n (i := 0) C dL_law_792 rfl rfl ?_
  refine x_iload_n (i := 3) C dL_law_793 rfl rfl ?_
  refine x_iconst C dL_law_794 ?_
  refine x_iadd C dL_law_795 ?_
  refine L_sldz (j := 1) C hX (by decide) (by decide) (by decide) dL_law_796 ?_
  refine x_aload_n (i := 0) C dL_law_797 rfl rfl ?_
  refine x_iload_n (i := 3) C dL_law_798 rfl rfl ?_
  refine x_iconst C dL_law_799 ?_
  refine x_iadd C dL_law_800 ?_
  refine L_sldz (j := 2) C hX (by decide) (by decide) (by decide) dL_law_801 ?_
  refine x_aload_n (i := 0) C dL_law_802 rfl rfl ?_
  refine x_iload_n (i := 3) C dL_law_803 rfl rfl ?_
  refine x_iconst C dL_law_804 ?_
  refine x_iadd C dL_law_805 ?_
  refine L_sldz (j := 3) C hX (by decide) (by decide) (by decide) dL_law_806 ?_
  refine x_aload_n (i := 0) C dL_law_807 rfl rfl ?_
  refine x_iload_n (i := 3) C dL_law_808 rfl rfl ?_
  refine x_iconst C dL_law_809 ?_
  refine x_iadd C dL_law_810 ?_
  refine L_sldz (j := 4) C hX (by decide) (by decide) (by decide) dL_law_811 ?_
  refine x_if_eq (tgt := 819) C dL_law_812 (by decide) z4 (fun h4 => ?_) (fun h4 => ?_)
  · skip
    refine x_iconst C dL_law_819 ?_
    refine L_call C ⟨rfl, rfl⟩ hW.1 hW.2.1 (L_keep (X := x0M) hW.2.2.2.2) (x_fatal (a := zs 1) (b := zs 2) (c := zs 3) (d := 0) z1 z2 z3 inR_0) ckL_80 im_X11_fatal se_X11_fatal (nlt rfl) rfl rfl rfl rfl rfl (nle rfl) ⟨nle rfl, nle rfl⟩ dL_law_820 (fun r X' hp => ?_)
    subst hp
    refine Wx_PH (PH' := fun H => PX (wM D ad2 cA2) x0M H ∧ True) (fun H h => ⟨h.2, trivial⟩) ?_
    refine x_aload_n (i := 2) C dL_law_823 rfl rfl ?_
    refine x_aload_n (i := 0) C dL_law_824 rfl rfl ?_
    refine x_iload_n (i := 3) C dL_law_825 rfl rfl ?_
    refine x_iconst C dL_law_826 ?_
    refine x_iadd C dL_law_827 ?_
    refine L_sldz (j := 1) C hX (by decide) (by decide) (by decide) dL_law_828 ?_
    refine x_aload_n (i := 0) C dL_law_829 rfl rfl ?_
    refine x_iload_n (i := 3) C dL_law_830 rfl rfl ?_
    refine x_iconst C dL_law_831 ?_
    refine x_iadd C dL_law_832 ?_
    refine L_sldz (j := 2) C hX (by decide) (by decide) (by decide) dL_law_833 ?_
    refine x_aload_n (i := 0) C dL_law_834 rfl rfl ?_
    refine x_iload_n (i := 3) C dL_law_835 rfl rfl ?_
    refine x_iconst C dL_law_836 ?_
    refine x_iadd C dL_law_837 ?_
    refine L_sldz (j := 3) C hX (by decide) (by decide) (by decide) dL_law_838 ?_
    refine x_aload_n (i := 0) C dL_law_839 rfl rfl ?_
    refine x_iload_n (i := 3) C dL_law_840 rfl rfl ?_
    refine x_iconst C dL_law_841 ?_
    refine x_iadd C dL_law_842 ?_
    refine L_sldz (j := 4) C hX (by decide) (by decide) (by decide) dL_law_843 ?_
    refine x_if_eq (tgt := 851) C dL_law_844 (by decide) z4 (fun _ => ?_) (fun h => absurd h4 h)
    refine x_iconst C dL_law_851 ?_
    refine L_call C ⟨rfl, rfl⟩ hW.2.2.1 hW.2.2.2.1 (R := fun _ => True) (fun _ _ _ _ h => h) (m_fatal (a := zs 1) (b := zs 2) (c := zs 3) (d := 0) z1 z2 z3 inR_0) ckL_84 im_X12_fatal se_X12_fatal (nlt rfl) rfl rfl rfl rfl rfl (nle rfl) ⟨nle rfl, nle rfl⟩ dL_law_852 (fun r X' hp => ?_)
    subst hp
    refine x_icmp_eq (tgt := 1445) C dL_law_855 (by decide) ⟨by omega, by omega⟩ ⟨by omega, by omega⟩ (fun _ => ?_) (fun h => absurd rfl h)
    exact Wx_PH (fun H h => trivial) hE
  · skip
    refine x_iconst C dL_law_815 ?_
    refine x_goto (tgt := 820) C dL_law_816 (by decide) ?_
    refine L_call C ⟨rfl, rfl⟩ hW.1 hW.2.1 (L_keep (X := x0M) hW.2.2.2.2) (x_fatal (a := zs 1) (b := zs 2) (c := zs 3) (d := 1) z1 z2 z3 inR_1) ckL_80 im_X11_fatal se_X11_fatal (nlt rfl) rfl rfl rfl rfl rfl (nle rfl) ⟨nle rfl, nle rfl⟩ dL_law_820 (fun r X' hp => ?_)
    subst hp
    refine Wx_PH (PH' := fun H => PX (wM D ad2 cA2) x0M H ∧ True) (fun H h => ⟨h.2, trivial⟩) ?_
    refine x_aload_n (i := 2) C dL_law_823 rfl rfl ?_
    refine x_aload_n (i := 0) C dL_law_824 rfl rfl ?_
    refine x_iload_n (i := 3) C dL_law_825 rfl rfl ?_
    refine x_iconst C dL_law_826 ?_
    refine x_iadd C dL_law_827 ?_
    refine L_sldz (j := 1) C hX (by decide) (by decide) (by decide) dL_law_828 ?_
    refine x_aload_n (i := 0) C dL_law_829 rfl rfl ?_
    refine x_iload_n (i := 3) C dL_law_830 rfl rfl ?_
    refine x_iconst C dL_law_831 ?_
    refine x_iadd C dL_law_832 ?_
    refine L_sldz (j := 2) C hX (by decide) (by decide) (by decide) dL_law_833 ?_
    refine x_aload_n (i := 0) C dL_law_834 rfl rfl ?_
    refine x_iload_n (i := 3) C dL_law_835 rfl rfl ?_
    refine x_iconst C dL_law_836 ?_
    refine x_iadd C dL_law_837 ?_
    refine L_sldz (j := 3) C hX (by decide) (by decide) (by decide) dL_law_838 ?_
    refine x_aload_n (i := 0) C dL_law_839 rfl rfl ?_
    refine x_iload_n (i := 3) C dL_law_840 rfl rfl ?_
    refine x_iconst C dL_law_841 ?_
    refine x_iadd C dL_law_842 ?_
    refine L_sldz (j := 4) C hX (by decide) (by decide) (by decide) dL_law_843 ?_
    refine x_if_eq (tgt := 851) C dL_law_844 (by decide) z4 (fun h => absurd h h4) (fun _ => ?_)
    refine x_iconst C dL_law_847 ?_
    refine x_goto (tgt := 852) C dL_law_848 (by decide) ?_
    refine L_call C ⟨rfl, rfl⟩ hW.2.2.1 hW.2.2.2.1 (R := fun _ => True) (fun _ _ _ _ h => h) (m_fatal (a := zs 1) (b := zs 2) (c := zs 3) (d := 1) z1 z2 z3 inR_1) ckL_84 im_X12_fatal se_X12_fatal (nlt rfl) rfl rfl rfl rfl rfl (nle rfl) ⟨nle rfl, nle rfl⟩ dL_law_852 (fun r X' hp => ?_)
    subst hp
    refine x_icmp_eq (tgt := 1445) C dL_law_855 (by decide) ⟨by omega, by omega⟩ ⟨by omega, by omega⟩ (fun _ => ?_) (fun h => absurd rfl h)
    exact Wx_PH (fun H h => trivial) hE
set_option maxHeartbeats 4000000 in
theorem lc_16 {E : ET} {D : va_G} {ad ad2 : Nat → Nat} {cA cA2 : Nat → ClassId} {b : Nat} {zs : Nat → Int} (C : CX E (wI D) cL_law 4 RL (some .boolean) room_1) (hX : LAW E b 6 (fun j => iI (zs j))) (hz : ∀ j, inR (zs j)) (hW : LW E D ad ad2 cA cA2) (hE : Wx E (wI D) 4 (fun _ => True) 1445 [(3, .int (iI 0)), (2, .ref (ad2 0)), (1, .ref (ad 0)), (0, .ref b)] []) : Wx E (wI D) 4 (fun H => PX (wX D ad cA) x0X H ∧ PX (wM D ad2 cA2) x0M H) 860 [(3, .int (iI 0)), (2, .ref (ad2 0)), (1, .ref (ad 0)), (0, .ref b)] [] := by
  have z1 := hz 1
  have z2 := hz 2
  have z3 := hz 3
  have z4 := hz 4
  have z5 := hz 5
  refine x_aload_n (i := 1) C dL_law_860 rfl rfl ?_
  refine x_aload_n (i := 0) C dL_law_861 rfl rfl ?_
  refine x_iload_n (i := 3) C dL_law_862 rfl rfl ?_
  refine x_iconst C dL_law_863 ?_
  refine x_iadd C dL_law_864 ?_
  refine L_sldz (j := 1) C hX (by decide) (by decide) (by decide) dL_law_865 ?_
  refine x_aload_n (i := 0) C dL_law_866 rfl rfl ?_
  refine x_iload_n (i := 3) C dL_law_867 rfl rfl ?_
  refine x_iconst C dL_law_868 ?_
  refine x_iadd C dL_law_869 ?_
  refine L_sldz (j := 2) C hX (by decide) (by decide) (by decide) dL_law_870 ?_
  refine x_aload_n (i := 0) C dL_law_871 rfl rfl ?_
  refine x_iload_n (i := 3) C dL_law_872 rfl rfl ?_
  refine x_iconst C dL_law_873 ?_
  refine x_iadd C dL_law_874 ?_
  refine L_sldz (j := 3) C hX (by decide) (by decide) (by decide) dL_law_875 ?_
  refine L_call C ⟨rfl, rfl⟩ hW.1 hW.2.1 (L_keep (X := x0M) hW.2.2.2.2) (x_loses (a := zs 1) (b := zs 2) (c := zs 3) z1 z2 z3) ckL_85 im_X11_loses se_X11_loses (nlt rfl) rfl rfl rfl rfl rfl (nle rfl) ⟨nle rfl, nle rfl⟩ dL_law_876 (fun r X' hp => ?_)
  subst hp
  refine Wx_PH (PH' := fun H => PX (wM D ad2 cA2) x0M H ∧ True) (fun H h => ⟨h.2, trivial⟩) ?_
  refine x_aload_n (i := 2) C dL_law_879 rfl rfl ?_
  refine x_aload_n (i := 0) C dL_law_880 rfl rfl ?_
  refine x_iload_n (i := 3) C dL_law_881 rfl rfl ?_
  refine x_iconst C dL_law_882 ?_
  refine x_iadd C dL_law_883 ?_
  refine L_sldz (j := 1) C hX (by decide) (by decide) (by decide) dL_law_884 ?_
  refine x_aload_n (i := 0) C dL_law_885 rfl rfl ?_
  refine x_iload_n (i := 3) C dL_law_886 rfl rfl ?_
  refine x_iconst C dL_law_887 ?_
  refine x_iadd C dL_law_888 ?_
  refine L_sldz (j := 2) C hX (by decide) (by decide) (by decide) dL_law_889 ?_
  refine x_aload_n (i := 0) C dL_law_890 rfl rfl ?_
  refine x_iload_n (i := 3) C dL_law_891 rfl rfl ?_
  refine x_iconst C dL_law_892 ?_
  refine x_iadd C dL_law_893 ?_
  refine L_sldz (j := 3) C hX (by decide) (by decide) (by decide) dL_law_894 ?_
  refine L_call C ⟨rfl, rfl⟩ hW.2.2.1 hW.2.2.2.1 (R := fun _ => True) (fun _ _ _ _ h => h) (m_loses (a := zs 1) (b := zs 2) (c := zs 3) z1 z2 z3) ckL_89 im_X12_loses se_X12_loses (nlt rfl) rfl rfl rfl rfl rfl (nle rfl) ⟨nle rfl, nle rfl⟩ dL_law_895 (fun r X' hp => ?_)
  subst hp
  refine x_icmp_eq (tgt := 1445) C dL_law_898 (by decide) ⟨by omega, by omega⟩ ⟨by omega, by omega⟩ (fun _ => ?_) (fun h => absurd rfl h)
  exact Wx_PH (fun H h => trivial) hE
set_option maxHeartbeats 4000000 in
theorem lc_17 {E : ET} {D : va_G} {ad ad2 : Nat → Nat} {cA cA2 : Nat → ClassId} {b : Nat} {zs : Nat → Int} (C : CX E (wI D) cL_law 4 RL (some .boolean) room_1) (hX : LAW E b 6 (fun j => iI (zs j))) (hz : ∀ j, inR (zs j)) (hW : LW E D ad ad2 cA cA2) (hE : Wx E (wI D) 4 (fun _ => True) 1445 [(3, .int (iI 0)), (2, .ref (ad2 0)), (1, .ref (ad 0)), (0, .ref b)] []) : Wx E (wI D) 4 (fun H => PX (wX D ad cA) x0X H ∧ PX (wM D ad2 cA2) x0M H) 903 [(3, .int (iI 0)), (2, .ref (ad2 0)), (1, .ref (ad 0)), (0, .ref b)] [] := by
  have z1 := hz 1
  have z2 := hz 2
  have z3 := hz 3
  have z4 := hz 4
  have z5 := hz 5
  refine x_aload_n (i := 1) C dL_law_903 rfl rfl ?_
  refine x_aload_n (i := 0) C dL_law_904 rfl rfl ?_
  refine x_iload_n (i := 3) C dL_law_905 rfl rfl ?_
  refine x_iconst C dL_law_906 ?_
  refine x_iadd C dL_law_907 ?_
  refine L_sldz (j := 1) C hX (by decide) (by decide) (by decide) dL_law_908 ?_
  refine x_aload_n (i := 0) C dL_law_909 rfl rfl ?_
  refine x_iload_n (i := 3) C dL_law_910 rfl rfl ?_
  refine x_iconst C dL_law_911 ?_
  refine x_iadd C dL_law_912 ?_
  refine L_sldz (j := 2) C hX (by decide) (by decide) (by decide) dL_law_913 ?_
  refine x_aload_n (i := 0) C dL_law_914 rfl rfl ?_
  refine x_iload_n (i := 3) C dL_law_915 rfl rfl ?_
  refine x_iconst C dL_law_916 ?_
  refine x_iadd C dL_law_917 ?_
  refine L_sldz (j := 3) C hX (by decide) (by decide) (by decide) dL_law_918 ?_
  refine L_call C ⟨rfl, rfl⟩ hW.1 hW.2.1 (L_keep (X := x0M) hW.2.2.2.2) (x_brave (a := zs 1) (b := zs 2) (c := zs 3) z1 z2 z3) ckL_90 im_X11_brave se_X11_brave (nlt rfl) rfl rfl rfl rfl rfl (nle rfl) ⟨nle rfl, nle rfl⟩ dL_law_919 (fun r X' hp => ?_)
  subst hp
  refine Wx_PH (PH' := fun H => PX (wM D ad2 cA2) x0M H ∧ True) (fun H h => ⟨h.2, trivial⟩) ?_
  refine x_aload_n (i := 2) C dL_law_922 rfl rfl ?_
  refine x_aload_n (i := 0) C dL_law_923 rfl rfl ?_
  refine x_iload_n (i := 3) C dL_law_924 rfl rfl ?_
  refine x_iconst C dL_law_925 ?_
  refine x_iadd C dL_law_926 ?_
  refine L_sldz (j := 1) C hX (by decide) (by decide) (by decide) dL_law_927 ?_
  refine x_aload_n (i := 0) C dL_law_928 rfl rfl ?_
  refine x_iload_n (i := 3) C dL_law_929 rfl rfl ?_
  refine x_iconst C dL_law_930 ?_
  refine x_iadd C dL_law_931 ?_
  refine L_sldz (j := 2) C hX (by decide) (by decide) (by decide) dL_law_932 ?_
  refine x_aload_n (i := 0) C dL_law_933 rfl rfl ?_
  refine x_iload_n (i := 3) C dL_law_934 rfl rfl ?_
  refine x_iconst C dL_law_935 ?_
  refine x_iadd C dL_law_936 ?_
  refine L_sldz (j := 3) C hX (by decide) (by decide) (by decide) dL_law_937 ?_
  refine L_call C ⟨rfl, rfl⟩ hW.2.2.1 hW.2.2.2.1 (R := fun _ => True) (fun _ _ _ _ h => h) (m_brave (a := zs 1) (b := zs 2) (c := zs 3) z1 z2 z3) ckL_93 im_X12_brave se_X12_brave (nlt rfl) rfl rfl rfl rfl rfl (nle rfl) ⟨nle rfl, nle rfl⟩ dL_law_938 (fun r X' hp => ?_)
  subst hp
  refine x_icmp_eq (tgt := 1445) C dL_law_941 (by decide) ⟨by omega, by omega⟩ ⟨by omega, by omega⟩ (fun _ => ?_) (fun h => absurd rfl h)
  exact Wx_PH (fun H h => trivial) hE
set_option maxHeartbeats 4000000 in
theorem lc_18 {E : ET} {D : va_G} {ad ad2 : Nat → Nat} {cA cA2 : Nat → ClassId} {b : Nat} {zs : Nat → Int} (C : CX E (wI D) cL_law 4 RL (some .boolean) room_1) (hX : LAW E b 6 (fun j => iI (zs j))) (hz : ∀ j, inR (zs j)) (hW : LW E D ad ad2 cA cA2) (hE : Wx E (wI D) 4 (fun _ => True) 1445 [(3, .int (iI 0)), (2, .ref (ad2 0)), (1, .ref (ad 0)), (0, .ref b)] []) : Wx E (wI D) 4 (fun H => PX (wX D ad cA) x0X H ∧ PX (wM D ad2 cA2) x0M H) 946 [(3, .int (iI 0)), (2, .ref (ad2 0)), (1, .ref (ad 0)), (0, .ref b)] [] := by
  have z1 := hz 1
  have z2 := hz 2
  have z3 := hz 3
  have z4 := hz 4
  have z5 := hz 5
  refine x_aload_n (i := 1) C dL_law_946 rfl rfl ?_
  refine x_aload_n (i := 0) C dL_law_947 rfl rfl ?_
  refine x_iload_n (i := 3) C dL_law_948 rfl rfl ?_
  refine x_iconst C dL_law_949 ?_
  refine x_iadd C dL_law_950 ?_
  refine L_sldz (j := 1) C hX (by decide) (by decide) (by decide) dL_law_951 ?_
  refine x_aload_n (i := 0) C dL_law_952 rfl rfl ?_
  refine x_iload_n (i := 3) C dL_law_953 rfl rfl ?_
  refine x_iconst C dL_law_954 ?_
  refine x_iadd C dL_law_955 ?_
  refine L_sldz (j := 2) C hX (by decide) (by decide) (by decide) dL_law_956 ?_
  refine x_aload_n (i := 0) C dL_law_957 rfl rfl ?_
  refine x_iload_n (i := 3) C dL_law_958 rfl rfl ?_
  refine x_iconst C dL_law_959 ?_
  refine x_iadd C dL_law_960 ?_
  refine L_sldz (j := 3) C hX (by decide) (by decide) (by decide) dL_law_961 ?_
  refine x_aload_n (i := 0) C dL_law_962 rfl rfl ?_
  refine x_iload_n (i := 3) C dL_law_963 rfl rfl ?_
  refine x_iconst C dL_law_964 ?_
  refine x_iadd C dL_law_965 ?_
  refine L_sldz (j := 4) C hX (by decide) (by decide) (by decide) dL_law_966 ?_
  refine L_call C ⟨rfl, rfl⟩ hW.1 hW.2.1 (L_keep (X := x0M) hW.2.2.2.2) (x_binds (a := zs 1) (b := zs 2) (c := zs 3) (d := zs 4) z1 z2 z3 z4) ckL_94 im_X11_binds se_X11_binds (nlt rfl) rfl rfl rfl rfl rfl (nle rfl) ⟨nle rfl, nle rfl⟩ dL_law_967 (fun r X' hp => ?_)
  subst hp
  refine Wx_PH (PH' := fun H => PX (wM D ad2 cA2) x0M H ∧ True) (fun H h => ⟨h.2, trivial⟩) ?_
  refine x_aload_n (i := 2) C dL_law_970 rfl rfl ?_
  refine x_aload_n (i := 0) C dL_law_971 rfl rfl ?_
  refine x_iload_n (i := 3) C dL_law_972 rfl rfl ?_
  refine x_iconst C dL_law_973 ?_
  refine x_iadd C dL_law_974 ?_
  refine L_sldz (j := 1) C hX (by decide) (by decide) (by decide) dL_law_975 ?_
  refine x_aload_n (i := 0) C dL_law_976 rfl rfl ?_
  refine x_iload_n (i := 3) C dL_law_977 rfl rfl ?_
  refine x_iconst C dL_law_978 ?_
  refine x_iadd C dL_law_979 ?_
  refine L_sldz (j := 2) C hX (by decide) (by decide) (by decide) dL_law_980 ?_
  refine x_aload_n (i := 0) C dL_law_981 rfl rfl ?_
  refine x_iload_n (i := 3) C dL_law_982 rfl rfl ?_
  refine x_iconst C dL_law_983 ?_
  refine x_iadd C dL_law_984 ?_
  refine L_sldz (j := 3) C hX (by decide) (by decide) (by decide) dL_law_985 ?_
  refine x_aload_n (i := 0) C dL_law_986 rfl rfl ?_
  refine x_iload_n (i := 3) C dL_law_987 rfl rfl ?_
  refine x_iconst C dL_law_988 ?_
  refine x_iadd C dL_law_989 ?_
  refine L_sldz (j := 4) C hX (by decide) (by decide) (by decide) dL_law_990 ?_
  refine L_call C ⟨rfl, rfl⟩ hW.2.2.1 hW.2.2.2.1 (R := fun _ => True) (fun _ _ _ _ h => h) (m_binds (a := zs 1) (b := zs 2) (c := zs 3) (d := zs 4) z1 z2 z3 z4) ckL_97 im_X12_binds se_X12_binds (nlt rfl) rfl rfl rfl rfl rfl (nle rfl) ⟨nle rfl, nle rfl⟩ dL_law_991 (fun r X' hp => ?_)
  subst hp
  refine x_icmp_eq (tgt := 1445) C dL_law_994 (by decide) ⟨by omega, by omega⟩ ⟨by omega, by omega⟩ (fun _ => ?_) (fun h => absurd rfl h)
  exact Wx_PH (fun H h => trivial) hE
set_option maxHeartbeats 4000000 in
theorem lc_19 {E : ET} {D : va_G} {ad ad2 : Nat → Nat} {cA cA2 : Nat → ClassId} {b : Nat} {zs : Nat → Int} (C : CX E (wI D) cL_law 4 RL (some .boolean) room_1) (hX : LAW E b 6 (fun j => iI (zs j))) (hz : ∀ j, inR (zs j)) (hW : LW E D ad ad2 cA cA2) (hE : Wx E (wI D) 4 (fun _ => True) 1445 [(3, .int (iI 0)), (2, .ref (ad2 0)), (1, .ref (ad 0)), (0, .ref b)] []) : Wx E (wI D) 4 (fun H => PX (wX D ad cA) x0X H ∧ PX (wM D ad2 cA2) x0M H) 999 [(3, .int (iI 0)), (2, .ref (ad2 0)), (1, .ref (ad 0)), (0, .ref b)] [] := by
  have z1 := hz 1
  have z2 := hz 2
  have z3 := hz 3
  have z4 := hz 4
  have z5 := hz 5
  refine x_aload_n (i := 1) C dL_law_999 rfl rfl ?_
  refine x_aload_n (i := 0) C dL_law_1000 rfl rfl ?_
  refine x_iload_n (i := 3) C dL_law_1001 rfl rfl ?_
  refine x_iconst C dL_law_1002 ?_
  refine x_iadd C dL_law_1003 ?_
  refine L_sldz (j := 1) C hX (by decide) (by decide) (by decide) dL_law_1004 ?_
  refine x_aload_n (i := 0) C dL_law_1005 rfl rfl ?_
  refine x_iload_n (i := 3) C dL_law_1006 rfl rfl ?_
  refine x_iconst C dL_law_1007 ?_
  refine x_iadd C dL_law_1008 ?_
  refine L_sldz (j := 2) C hX (by decide) (by decide) (by decide) dL_law_1009 ?_
  refine x_aload_n (i := 0) C dL_law_1010 rfl rfl ?_
  refine x_iload_n (i := 3) C dL_law_1011 rfl rfl ?_
  refine x_iconst C dL_law_1012 ?_
  refine x_iadd C dL_law_1013 ?_
  refine L_sldz (j := 3) C hX (by decide) (by decide) (by decide) dL_law_1014 ?_
  refine x_aload_n (i := 0) C dL_law_1015 rfl rfl ?_
  refine x_iload_n (i := 3) C dL_law_1016 rfl rfl ?_
  refine x_iconst C dL_law_1017 ?_
  refine x_iadd C dL_law_1018 ?_
  refine L_sldz (j := 4) C hX (by decide) (by decide) (by decide) dL_law_1019 ?_
  refine L_call C ⟨rfl, rfl⟩ hW.1 hW.2.1 (L_keep (X := x0M) hW.2.2.2.2) (x_drive (a := zs 1) (b := zs 2) (c := zs 3) (d := zs 4) z1 z2 z3 z4) ckL_98 im_X11_drive se_X11_drive (nlt rfl) rfl rfl rfl rfl rfl (nle rfl) ⟨nle rfl, nle rfl⟩ dL_law_1020 (fun r X' hp => ?_)
  subst hp
  refine Wx_PH (PH' := fun H => PX (wM D ad2 cA2) x0M H ∧ True) (fun H h => ⟨h.2, trivial⟩) ?_
  refine x_aload_n (i := 2) C dL_law_1023 rfl rfl ?_
  refine x_aload_n (i := 0) C dL_law_1024 rfl rfl ?_
  refine x_iload_n (i := 3) C dL_law_1025 rfl rfl ?_
  refine x_iconst C dL_law_1026 ?_
  refine x_iadd C dL_law_1027 ?_
  refine L_sldz (j := 1) C hX (by decide) (by decide) (by decide) dL_law_1028 ?_
  refine x_aload_n (i := 0) C dL_law_1029 rfl rfl ?_
  refine x_iload_n (i := 3) C dL_law_1030 rfl rfl ?_
  refine x_iconst C dL_law_1031 ?_
  refine x_iadd C dL_law_1032 ?_
  refine L_sldz (j := 2) C hX (by decide) (by decide) (by decide) dL_law_1033 ?_
  refine x_aload_n (i := 0) C dL_law_1034 rfl rfl ?_
  refine x_iload_n (i := 3) C dL_law_1035 rfl rfl ?_
  refine x_iconst C dL_law_1036 ?_
  refine x_iadd C dL_law_1037 ?_
  refine L_sldz (j := 3) C hX (by decide) (by decide) (by decide) dL_law_1038 ?_
  refine x_aload_n (i := 0) C dL_law_1039 rfl rfl ?_
  refine x_iload_n (i := 3) C dL_law_1040 rfl rfl ?_
  refine x_iconst C dL_law_1041 ?_
  refine x_iadd C dL_law_1042 ?_
  refine L_sldz (j := 4) C hX (by decide) (by decide) (by decide) dL_law_1043 ?_
  refine L_call C ⟨rfl, rfl⟩ hW.2.2.1 hW.2.2.2.1 (R := fun _ => True) (fun _ _ _ _ h => h) (m_drive (a := zs 1) (b := zs 2) (c := zs 3) (d := zs 4) z1 z2 z3 z4) ckL_101 im_X12_drive se_X12_drive (nlt rfl) rfl rfl rfl rfl rfl (nle rfl) ⟨nle rfl, nle rfl⟩ dL_law_1044 (fun r X' hp => ?_)
  subst hp
  refine x_icmp_eq (tgt := 1445) C dL_law_1047 (by decide) ⟨by omega, by omega⟩ ⟨by omega, by omega⟩ (fun _ => ?_) (fun h => absurd rfl h)
  exact Wx_PH (fun H h => trivial) hE
set_option maxHeartbeats 4000000 in
theorem lc_20 {E : ET} {D : va_G} {ad ad2 : Nat → Nat} {cA cA2 : Nat → ClassId} {b : Nat} {zs : Nat → Int} (C : CX E (wI D) cL_law 4 RL (some .boolean) room_1) (hX : LAW E b 6 (fun j => iI (zs j))) (hz : ∀ j, inR (zs j)) (hW : LW E D ad ad2 cA cA2) (hE : Wx E (wI D) 4 (fun _ => True) 1445 [(3, .int (iI 0)), (2, .ref (ad2 0)), (1, .ref (ad 0)), (0, .ref b)] []) : Wx E (wI D) 4 (fun H => PX (wX D ad cA) x0X H ∧ PX (wM D ad2 cA2) x0M H) 1052 [(3, .int (iI 0)), (2, .ref (ad2 0)), (1, .ref (ad 0)), (0, .ref b)] [] := by
  have z1 := hz 1
  have z2 := hz 2
  have z3 := hz 3
  have z4 := hz 4
  have z5 := hz 5
  refine x_aload_n (i := 1) C dL_law_1052 rfl rfl ?_
  refine x_aload_n (i := 0) C dL_law_1053 rfl rfl ?_
  refine x_iload_n (i := 3) C dL_law_1054 rfl rfl ?_
  refine x_iconst C dL_law_1055 ?_
  refine x_iadd C dL_law_1056 ?_
  refine L_sldz (j := 1) C hX (by decide) (by decide) (by decide) dL_law_1057 ?_
  refine x_aload_n (i := 0) C dL_law_1058 rfl rfl ?_
  refine x_iload_n (i := 3) C dL_law_1059 rfl rfl ?_
  refine x_iconst C dL_law_1060 ?_
  refine x_iadd C dL_law_1061 ?_
  refine L_sldz (j := 2) C hX (by decide) (by decide) (by decide) dL_law_1062 ?_
  refine x_aload_n (i := 0) C dL_law_1063 rfl rfl ?_
  refine x_iload_n (i := 3) C dL_law_1064 rfl rfl ?_
  refine x_iconst C dL_law_1065 ?_
  refine x_iadd C dL_law_1066 ?_
  refine L_sldz (j := 3) C hX (by decide) (by decide) (by decide) dL_law_1067 ?_
  refine x_aload_n (i := 0) C dL_law_1068 rfl rfl ?_
  refine x_iload_n (i := 3) C dL_law_1069 rfl rfl ?_
  refine x_iconst C dL_law_1070 ?_
  refine x_iadd C dL_law_1071 ?_
  refine L_sldz (j := 4) C hX (by decide) (by decide) (by decide) dL_law_1072 ?_
  refine L_call C ⟨rfl, rfl⟩ hW.1 hW.2.1 (L_keep (X := x0M) hW.2.2.2.2) (x_shorter (a := zs 1) (b := zs 2) (c := zs 3) (d := zs 4) z1 z2 z3 z4) ckL_102 im_X11_shorter se_X11_shorter (nlt rfl) rfl rfl rfl rfl rfl (nle rfl) ⟨nle rfl, nle rfl⟩ dL_law_1073 (fun r X' hp => ?_)
  subst hp
  refine Wx_PH (PH' := fun H => PX (wM D ad2 cA2) x0M H ∧ True) (fun H h => ⟨h.2, trivial⟩) ?_
  refine x_aload_n (i := 2) C dL_law_1076 rfl rfl ?_
  refine x_aload_n (i := 0) C dL_law_1077 rfl rfl ?_
  refine x_iload_n (i := 3) C dL_law_1078 rfl rfl ?_
  refine x_iconst C dL_law_1079 ?_
  refine x_iadd C dL_law_1080 ?_
  refine L_sldz (j := 1) C hX (by decide) (by decide) (by decide) dL_law_1081 ?_
  refine x_aload_n (i := 0) C dL_law_1082 rfl rfl ?_
  refine x_iload_n (i := 3) C dL_law_1083 rfl rfl ?_
  refine x_iconst C dL_law_1084 ?_
  refine x_iadd C dL_law_1085 ?_
  refine L_sldz (j := 2) C hX (by decide) (by decide) (by decide) dL_law_1086 ?_
  refine x_aload_n (i := 0) C dL_law_1087 rfl rfl ?_
  refine x_iload_n (i := 3) C dL_law_1088 rfl rfl ?_
  refine x_iconst C dL_law_1089 ?_
  refine x_iadd C dL_law_1090 ?_
  refine L_sldz (j := 3) C hX (by decide) (by decide) (by decide) dL_law_1091 ?_
  refine x_aload_n (i := 0) C dL_law_1092 rfl rfl ?_
  refine x_iload_n (i := 3) C dL_law_1093 rfl rfl ?_
  refine x_iconst C dL_law_1094 ?_
  refine x_iadd C dL_law_1095 ?_
  refine L_sldz (j := 4) C hX (by decide) (by decide) (by decide) dL_law_1096 ?_
  refine L_call C ⟨rfl, rfl⟩ hW.2.2.1 hW.2.2.2.1 (R := fun _ => True) (fun _ _ _ _ h => h) (m_shorter (a := zs 1) (b := zs 2) (c := zs 3) (d := zs 4) z1 z2 z3 z4) ckL_105 im_X12_shorter se_X12_shorter (nlt rfl) rfl rfl rfl rfl rfl (nle rfl) ⟨nle rfl, nle rfl⟩ dL_law_1097 (fun r X' hp => ?_)
  subst hp
  refine x_icmp_eq (tgt := 1445) C dL_law_1100 (by decide) ⟨by omega, by omega⟩ ⟨by omega, by omega⟩ (fun _ => ?_) (fun h => absurd rfl h)
  exact Wx_PH (fun H h => trivial) hE
set_option maxHeartbeats 4000000 in
theorem lc_21 {E : ET} {D : va_G} {ad ad2 : Nat → Nat} {cA cA2 : Nat → ClassId} {b : Nat} {zs : Nat → Int} (C : CX E (wI D) cL_law 4 RL (some .boolean) room_1) (hX : LAW E b 6 (fun j => iI (zs j))) (hz : ∀ j, inR (zs j)) (hW : LW E D ad ad2 cA cA2) (hE : Wx E (wI D) 4 (fun _ => True) 1445 [(3, .int (iI 0)), (2, .ref (ad2 0)), (1, .ref (ad 0)), (0, .ref b)] []) : Wx E (wI D) 4 (fun H => PX (wX D ad cA) x0X H ∧ PX (wM D ad2 cA2) x0M H) 1105 [(3, .int (iI 0)), (2, .ref (ad2 0)), (1, .ref (ad 0)), (0, .ref b)] [] := by
  have z1 := hz 1
  have z2 := hz 2
  have z3 := hz 3
  have z4 := hz 4
  have z5 := hz 5
  refine x_aload_n (i := 1) C dL_law_1105 rfl rfl ?_
  refine x_aload_n (i := 0) C dL_law_1106 rfl rfl ?_
  refine x_iload_n (i := 3) C dL_law_1107 rfl rfl ?_
  refine x_iconst C dL_law_1108 ?_
  refine x_iadd C dL_law_1109 ?_
  refine L_sldz (j := 1) C hX (by decide) (by decide) (by decide) dL_law_1110 ?_
  refine x_aload_n (i := 0) C dL_law_1111 rfl rfl ?_
  refine x_iload_n (i := 3) C dL_law_1112 rfl rfl ?_
  refine x_iconst C dL_law_1113 ?_
  refine x_iadd C dL_law_1114 ?_
  refine L_sldz (j := 2) C hX (by decide) (by decide) (by decide) dL_law_1115 ?_
  refine x_aload_n (i := 0) C dL_law_1116 rfl rfl ?_
  refine x_iload_n (i := 3) C dL_law_1117 rfl rfl ?_
  refine x_iconst C dL_law_1118 ?_
  refine x_iadd C dL_law_1119 ?_
  refine L_sldz (j := 3) C hX (by decide) (by decide) (by decide) dL_law_1120 ?_
  refine L_call C ⟨rfl, rfl⟩ hW.1 hW.2.1 (L_keep (X := x0M) hW.2.2.2.2) (x_alike (a := zs 1) (b := zs 2) (c := zs 3) z1 z2 z3) ckL_106 im_X11_alike se_X11_alike (nlt rfl) rfl rfl rfl rfl rfl (nle rfl) ⟨nle rfl, nle rfl⟩ dL_law_1121 (fun r X' hp => ?_)
  subst hp
  refine Wx_PH (PH' := fun H => PX (wM D ad2 cA2) x0M H ∧ True) (fun H h => ⟨h.2, trivial⟩) ?_
  refine x_aload_n (i := 2) C dL_law_1124 rfl rfl ?_
  refine x_aload_n (i := 0) C dL_law_1125 rfl rfl ?_
  refine x_iload_n (i := 3) C dL_law_1126 rfl rfl ?_
  refine x_iconst C dL_law_1127 ?_
  refine x_iadd C dL_law_1128 ?_
  refine L_sldz (j := 1) C hX (by decide) (by decide) (by decide) dL_law_1129 ?_
  refine x_aload_n (i := 0) C dL_law_1130 rfl rfl ?_
  refine x_iload_n (i := 3) C dL_law_1131 rfl rfl ?_
  refine x_iconst C dL_law_1132 ?_
  refine x_iadd C dL_law_1133 ?_
  refine L_sldz (j := 2) C hX (by decide) (by decide) (by decide) dL_law_1134 ?_
  refine x_aload_n (i := 0) C dL_law_1135 rfl rfl ?_
  refine x_iload_n (i := 3) C dL_law_1136 rfl rfl ?_
  refine x_iconst C dL_law_1137 ?_
  refine x_iadd C dL_law_1138 ?_
  refine L_sldz (j := 3) C hX (by decide) (by decide) (by decide) dL_law_1139 ?_
  refine L_call C ⟨rfl, rfl⟩ hW.2.2.1 hW.2.2.2.1 (R := fun _ => True) (fun _ _ _ _ h => h) (m_alike (a := zs 1) (b := zs 2) (c := zs 3) z1 z2 z3) ckL_109 im_X12_alike se_X12_alike (nlt rfl) rfl rfl rfl rfl rfl (nle rfl) ⟨nle rfl, nle rfl⟩ dL_law_1140 (fun r X' hp => ?_)
  subst hp
  refine x_icmp_eq (tgt := 1445) C dL_law_1143 (by decide) ⟨by omega, by omega⟩ ⟨by omega, by omega⟩ (fun _ => ?_) (fun h => absurd rfl h)
  exact Wx_PH (fun H h => trivial) hE
set_option maxHeartbeats 4000000 in
theorem lc_22 {E : ET} {D : va_G} {ad ad2 : Nat → Nat} {cA cA2 : Nat → ClassId} {b : Nat} {zs : Nat → Int} (C : CX E (wI D) cL_law 4 RL (some .boolean) room_1) (hX : LAW E b 6 (fun j => iI (zs j))) (hz : ∀ j, inR (zs j)) (hW : LW E D ad ad2 cA cA2) (hE : Wx E (wI D) 4 (fun _ => True) 1445 [(3, .int (iI 0)), (2, .ref (ad2 0)), (1, .ref (ad 0)), (0, .ref b)] []) : Wx E (wI D) 4 (fun H => PX (wX D ad cA) x0X H ∧ PX (wM D ad2 cA2) x0M H) 1148 [(3, .int (iI 0)), (2, .ref (ad2 0)), (1, .ref (ad 0)), (0, .ref b)] [] := by
  have z1 := hz 1
  have z2 := hz 2
  have z3 := hz 3
  have z4 := hz 4
  have z5 := hz 5
  refine x_aload_n (i := 1) C dL_law_1148 rfl rfl ?_
  refine x_aload_n (i := 0) C dL_law_1149 rfl rfl ?_
  refine x_iload_n (i := 3) C dL_law_1150 rfl rfl ?_
  refine x_iconst C dL_law_1151 ?_
  refine x_iadd C dL_law_1152 ?_
  refine L_sldz (j := 1) C hX (by decide) (by decide) (by decide) dL_law_1153 ?_
  refine x_aload_n (i := 0) C dL_law_1154 rfl rfl ?_
  refine x_iload_n (i := 3) C dL_law_1155 rfl rfl ?_
  refine x_iconst C dL_law_1156 ?_
  refine x_iadd C dL_law_1157 ?_
  refine L_sldz (j := 2) C hX (by decide) (by decide) (by decide) dL_law_1158 ?_
  refine x_aload_n (i := 0) C dL_law_1159 rfl rfl ?_
  refine x_iload_n (i := 3) C dL_law_1160 rfl rfl ?_
  refine x_iconst C dL_law_1161 ?_
  refine x_iadd C dL_law_1162 ?_
  refine L_sldz (j := 3) C hX (by decide) (by decide) (by decide) dL_law_1163 ?_
  refine x_aload_n (i := 0) C dL_law_1164 rfl rfl ?_
  refine x_iload_n (i := 3) C dL_law_1165 rfl rfl ?_
  refine x_iconst C dL_law_1166 ?_
  refine x_iadd C dL_law_1167 ?_
  refine L_sldz (j := 4) C hX (by decide) (by decide) (by decide) dL_law_1168 ?_
  refine x_if_eq (tgt := 1176) C dL_law_1169 (by decide) z4 (fun h4 => ?_) (fun h4 => ?_)
  · skip
    refine x_iconst C dL_law_1176 ?_
    refine L_call C ⟨rfl, rfl⟩ hW.1 hW.2.1 (L_keep (X := x0M) hW.2.2.2.2) (x_meanings (a := zs 1) (b := zs 2) (c := zs 3) (d := 0) z1 z2 z3 inR_0) ckL_110 im_X11_meanings se_X11_meanings (nlt rfl) rfl rfl rfl rfl rfl (nle rfl) ⟨nle rfl, nle rfl⟩ dL_law_1177 (fun r X' hp => ?_)
    subst hp
    refine Wx_PH (PH' := fun H => PX (wM D ad2 cA2) x0M H ∧ True) (fun H h => ⟨h.2, trivial⟩) ?_
    refine x_aload_n (i := 2) C dL_law_1180 rfl rfl ?_
    refine x_aload_n (i := 0) C dL_law_1181 rfl rfl ?_
    refine x_iload_n (i := 3) C dL_law_1182 rfl rfl ?_
    refine x_iconst C dL_law_1183 ?_
    refine x_iadd C dL_law_1184 ?_
    refine L_sldz (j := 1) C hX (by decide) (by decide) (by decide) dL_law_1185 ?_
    refine x_aload_n (i := 0) C dL_law_1186 rfl rfl ?_
    refine x_iload_n (i := 3) C dL_law_1187 rfl rfl ?_
    refine x_iconst C dL_law_1188 ?_
    refine x_iadd C dL_law_1189 ?_
    refine L_sldz (j := 2) C hX (by decide) (by decide) (by decide) dL_law_1190 ?_
    refine x_aload_n (i := 0) C dL_law_1191 rfl rfl ?_
    refine x_iload_n (i := 3) C dL_law_1192 rfl rfl ?_
    refine x_iconst C dL_law_1193 ?_
    refine x_iadd C dL_law_1194 ?_
    refine L_sldz (j := 3) C hX (by decide) (by decide) (by decide) dL_law_1195 ?_
    refine x_aload_n (i := 0) C dL_law_1196 rfl rfl ?_
    refine x_iload_n (i := 3) C dL_law_1197 rfl rfl ?_
    refine x_iconst C dL_law_1198 ?_
    refine x_iadd C dL_law_1199 ?_
    refine L_sldz (j := 4) C hX (by decide) (by decide) (by decide) dL_law_1200 ?_
    refine x_if_eq (tgt := 1208) C dL_law_1201 (by decide) z4 (fun _ => ?_) (fun h => absurd h4 h)
    refine x_iconst C dL_law_1208 ?_
    refine L_call C ⟨rfl, rfl⟩ hW.2.2.1 hW.2.2.2.1 (R := fun _ => True) (fun _ _ _ _ h => h) (m_meanings (a := zs 1) (b := zs 2) (c := zs 3) (d := 0) z1 z2 z3 inR_0) ckL_113 im_X12_meanings se_X12_meanings (nlt rfl) rfl rfl rfl rfl rfl (nle rfl) ⟨nle rfl, nle rfl⟩ dL_law_1209 (fun r X' hp => ?_)
    subst hp
    refine x_icmp_eq (tgt := 1445) C dL_law_1212 (by decide) ⟨by omega, by omega⟩ ⟨by omega, by omega⟩ (fun _ => ?_) (fun h => absurd rfl h)
    exact Wx_PH (fun H h => trivial) hE
  · skip
    refine x_iconst C dL_law_1172 ?_
    refine x_goto (tgt := 1177) C dL_law_1173 (by decide) ?_
    refine L_call C ⟨rfl, rfl⟩ hW.1 hW.2.1 (L_keep (X := x0M) hW.2.2.2.2) (x_meanings (a := zs 1) (b := zs 2) (c := zs 3) (d := 1) z1 z2 z3 inR_1) ckL_110 im_X11_meanings se_X11_meanings (nlt rfl) rfl rfl rfl rfl rfl (nle rfl) ⟨nle rfl, nle rfl⟩ dL_law_1177 (fun r X' hp => ?_)
    subst hp
    refine Wx_PH (PH' := fun H => PX (wM D ad2 cA2) x0M H ∧ True) (fun H h => ⟨h.2, trivial⟩) ?_
    refine x_aload_n (i := 2) C dL_law_1180 rfl rfl ?_
    refine x_aload_n (i := 0) C dL_law_1181 rfl rfl ?_
    refine x_iload_n (i := 3) C dL_law_1182 rfl rfl ?_
    refine x_iconst C dL_law_1183 ?_
    refine x_iadd C dL_law_1184 ?_
    refine L_sldz (j := 1) C hX (by decide) (by decide) (by decide) dL_law_1185 ?_
    refine x_aload_n (i := 0) C dL_law_1186 rfl rfl ?_
    refine x_iload_n (i := 3) C dL_law_1187 rfl rfl ?_
    refine x_iconst C dL_law_1188 ?_
    refine x_iadd C dL_law_1189 ?_
    refine L_sldz (j := 2) C hX (by decide) (by decide) (by decide) dL_law_1190 ?_
    refine x_aload_n (i := 0) C dL_law_1191 rfl rfl ?_
    refine x_iload_n (i := 3) C dL_law_1192 rfl rfl ?_
    refine x_iconst C dL_law_1193 ?_
    refine x_iadd C dL_law_1194 ?_
    refine L_sldz (j := 3) C hX (by decide) (by decide) (by decide) dL_law_1195 ?_
    refine x_aload_n (i := 0) C dL_law_1196 rfl rfl ?_
    refine x_iload_n (i := 3) C dL_law_1197 rfl rfl ?_
    refine x_iconst C dL_law_1198 ?_
    refine x_iadd C dL_law_1199 ?_
    refine L_sldz (j := 4) C hX (by decide) (by decide) (by decide) dL_law_1200 ?_
    refine x_if_eq (tgt := 1208) C dL_law_1201 (by decide) z4 (fun h => absurd h h4) (fun _ => ?_)
    refine x_iconst C dL_law_1204 ?_
    refine x_goto (tgt := 1209) C dL_law_1205 (by decide) ?_
    refine L_call C ⟨rfl, rfl⟩ hW.2.2.1 hW.2.2.2.1 (R := fun _ => True) (fun _ _ _ _ h => h) (m_meanings (a := zs 1) (b := zs 2) (c := zs 3) (d := 1) z1 z2 z3 inR_1) ckL_113 im_X12_meanings se_X12_meanings (nlt rfl) rfl rfl rfl rfl rfl (nle rfl) ⟨nle rfl, nle rfl⟩ dL_law_1209 (fun r X' hp => ?_)
    subst hp
    refine x_icmp_eq (tgt := 1445) C dL_law_1212 (by decide) ⟨by omega, by omega⟩ ⟨by omega, by omega⟩ (fun _ => ?_) (fun h => absurd rfl h)
    exact Wx_PH (fun H h => trivial) hE
set_option maxHeartbeats 4000000 in
theorem lc_23 {E : ET} {D : va_G} {ad ad2 : Nat → Nat} {cA cA2 : Nat → ClassId} {b : Nat} {zs : Nat → Int} (C : CX E (wI D) cL_law 4 RL (some .boolean) room_1) (hX : LAW E b 6 (fun j => iI (zs j))) (hz : ∀ j, inR (zs j)) (hW : LW E D ad ad2 cA cA2) (hE : Wx E (wI D) 4 (fun _ => True) 1445 [(3, .int (iI 0)), (2, .ref (ad2 0)), (1, .ref (ad 0)), (0, .ref b)] []) : Wx E (wI D) 4 (fun H => PX (wX D ad cA) x0X H ∧ PX (wM D ad2 cA2) x0M H) 1217 [(3, .int (iI 0)), (2, .ref (ad2 0)), (1, .ref (ad 0)), (0, .ref b)] [] := by
  have z1 := hz 1
  have z2 := hz 2
  have z3 := hz 3
  have z4 := hz 4
  have z5 := hz 5
  refine x_aload_n (i := 1) C dL_law_1217 rfl rfl ?_
  refine x_aload_n (i := 0) C dL_law_1218 rfl rfl ?_
  refine x_iload_n (i := 3) C dL_law_1219 rfl rfl ?_
  refine x_iconst C dL_law_1220 ?_
  refine x_iadd C dL_law_1221 ?_
  refine L_sldz (j := 1) C hX (by decide) (by decide) (by decide) dL_law_1222 ?_
  refine x_aload_n (i := 0) C dL_law_1223 rfl rfl ?_
  refine x_iload_n (i := 3) C dL_law_1224 rfl rfl ?_
  refine x_iconst C dL_law_1225 ?_
  refine x_iadd C dL_law_1226 ?_
  refine L_sldz (j := 2) C hX (by decide) (by decide) (by decide) dL_law_1227 ?_
  refine x_aload_n (i := 0) C dL_law_1228 rfl rfl ?_
  refine x_iload_n (i := 3) C dL_law_1229 rfl rfl ?_
  refine x_iconst C dL_law_1230 ?_
  refine x_iadd C dL_law_1231 ?_
  refine L_sldz (j := 3) C hX (by decide) (by decide) (by decide) dL_law_1232 ?_
  refine x_aload_n (i := 0) C dL_law_1233 rfl rfl ?_
  refine x_iload_n (i := 3) C dL_law_1234 rfl rfl ?_
  refine x_iconst C dL_law_1235 ?_
  refine x_iadd C dL_law_1236 ?_
  refine L_sldz (j := 4) C hX (by decide) (by decide) (by decide) dL_law_1237 ?_
  refine x_aload_n (i := 0) C dL_law_1238 rfl rfl ?_
  refine x_iload_n (i := 3) C dL_law_1239 rfl rfl ?_
  refine x_iconst C dL_law_1240 ?_
  refine x_iadd C dL_law_1241 ?_
  refine L_sldz (j := 5) C hX (by decide) (by decide) (by decide) dL_law_1242 ?_
  refine L_call C ⟨rfl, rfl⟩ hW.1 hW.2.1 (L_keep (X := x0M) hW.2.2.2.2) (x_wins (a := zs 1) (b := zs 2) (c := zs 3) (d := zs 4) (e := zs 5) z1 z2 z3 z4 z5) ckL_114 im_X11_wins se_X11_wins (nlt rfl) rfl rfl rfl rfl rfl (nle rfl) ⟨nle rfl, nle rfl⟩ dL_law_1243 (fun r X' hp => ?_)
  subst hp
  refine Wx_PH (PH' := fun H => PX (wM D ad2 cA2) x0M H ∧ True) (fun H h => ⟨h.2, trivial⟩) ?_
  refine x_aload_n (i := 2) C dL_law_1246 rfl rfl ?_
  refine x_aload_n (i := 0) C dL_law_1247 rfl rfl ?_
  refine x_iload_n (i := 3) C dL_law_1248 rfl rfl ?_
  refine x_iconst C dL_law_1249 ?_
  refine x_iadd C dL_law_1250 ?_
  refine L_sldz (j := 1) C hX (by decide) (by decide) (by decide) dL_law_1251 ?_
  refine x_aload_n (i := 0) C dL_law_1252 rfl rfl ?_
  refine x_iload_n (i := 3) C dL_law_1253 rfl rfl ?_
  refine x_iconst C dL_law_1254 ?_
  refine x_iadd C dL_law_1255 ?_
  refine L_sldz (j := 2) C hX (by decide) (by decide) (by decide) dL_law_1256 ?_
  refine x_aload_n (i := 0) C dL_law_1257 rfl rfl ?_
  refine x_iload_n (i := 3) C dL_law_1258 rfl rfl ?_
  refine x_iconst C dL_law_1259 ?_
  refine x_iadd C dL_law_1260 ?_
  refine L_sldz (j := 3) C hX (by decide) (by decide) (by decide) dL_law_1261 ?_
  refine x_aload_n (i := 0) C dL_law_1262 rfl rfl ?_
  refine x_iload_n (i := 3) C dL_law_1263 rfl rfl ?_
  refine x_iconst C dL_law_1264 ?_
  refine x_iadd C dL_law_1265 ?_
  refine L_sldz (j := 4) C hX (by decide) (by decide) (by decide) dL_law_1266 ?_
  refine x_aload_n (i := 0) C dL_law_1267 rfl rfl ?_
  refine x_iload_n (i := 3) C dL_law_1268 rfl rfl ?_
  refine x_iconst C dL_law_1269 ?_
  refine x_iadd C dL_law_1270 ?_
  refine L_sldz (j := 5) C hX (by decide) (by decide) (by decide) dL_law_1271 ?_
  refine L_call C ⟨rfl, rfl⟩ hW.2.2.1 hW.2.2.2.1 (R := fun _ => True) (fun _ _ _ _ h => h) (m_wins (a := zs 1) (b := zs 2) (c := zs 3) (d := zs 4) (e := zs 5) z1 z2 z3 z4 z5) ckL_117 im_X12_wins se_X12_wins (nlt rfl) rfl rfl rfl rfl rfl (nle rfl) ⟨nle rfl, nle rfl⟩ dL_law_1272 (fun r X' hp => ?_)
  subst hp
  refine x_icmp_eq (tgt := 1445) C dL_law_1275 (by decide) ⟨by omega, by omega⟩ ⟨by omega, by omega⟩ (fun _ => ?_) (fun h => absurd rfl h)
  exact Wx_PH (fun H h => trivial) hE
set_option maxHeartbeats 4000000 in
theorem lc_24 {E : ET} {D : va_G} {ad ad2 : Nat → Nat} {cA cA2 : Nat → ClassId} {b : Nat} {zs : Nat → Int} (C : CX E (wI D) cL_law 4 RL (some .boolean) room_1) (hX : LAW E b 6 (fun j => iI (zs j))) (hz : ∀ j, inR (zs j)) (hW : LW E D ad ad2 cA cA2) (hE : Wx E (wI D) 4 (fun _ => True) 1445 [(3, .int (iI 0)), (2, .ref (ad2 0)), (1, .ref (ad 0)), (0, .ref b)] []) : Wx E (wI D) 4 (fun H => PX (wX D ad cA) x0X H ∧ PX (wM D ad2 cA2) x0M H) 1280 [(3, .int (iI 0)), (2, .ref (ad2 0)), (1, .ref (ad 0)), (0, .ref b)] [] := by
  have z1 := hz 1
  have z2 := hz 2
  have z3 := hz 3
  have z4 := hz 4
  have z5 := hz 5
  refine x_aload_n (i := 1) C dL_law_1280 rfl rfl ?_
  refine x_aload_n (i := 0) C dL_law_1281 rfl rfl ?_
  refine x_iload_n (i := 3) C dL_law_1282 rfl rfl ?_
  refine x_iconst C dL_law_1283 ?_
  refine x_iadd C dL_law_1284 ?_
  refine L_sldz (j := 1) C hX (by decide) (by decide) (by decide) dL_law_1285 ?_
  refine x_aload_n (i := 0) C dL_law_1286 rfl rfl ?_
  refine x_iload_n (i := 3) C dL_law_1287 rfl rfl ?_
  refine x_iconst C dL_law_1288 ?_
  refine x_iadd C dL_law_1289 ?_
  refine L_sldz (j := 2) C hX (by decide) (by decide) (by decide) dL_law_1290 ?_
  refine x_aload_n (i := 0) C dL_law_1291 rfl rfl ?_
  refine x_iload_n (i := 3) C dL_law_1292 rfl rfl ?_
  refine x_iconst C dL_law_1293 ?_
  refine x_iadd C dL_law_1294 ?_
  refine L_sldz (j := 3) C hX (by decide) (by decide) (by decide) dL_law_1295 ?_
  refine L_call C ⟨rfl, rfl⟩ hW.1 hW.2.1 (L_keep (X := x0M) hW.2.2.2.2) (x_soonest (a := zs 1) (b := zs 2) (c := zs 3) z1 z2 z3) ckL_118 im_X11_soonest se_X11_soonest (nlt rfl) rfl rfl rfl rfl rfl (nle rfl) ⟨nle rfl, nle rfl⟩ dL_law_1296 (fun r X' hp => ?_)
  subst hp
  refine Wx_PH (PH' := fun H => PX (wM D ad2 cA2) x0M H ∧ True) (fun H h => ⟨h.2, trivial⟩) ?_
  refine x_aload_n (i := 2) C dL_law_1299 rfl rfl ?_
  refine x_aload_n (i := 0) C dL_law_1300 rfl rfl ?_
  refine x_iload_n (i := 3) C dL_law_1301 rfl rfl ?_
  refine x_iconst C dL_law_1302 ?_
  refine x_iadd C dL_law_1303 ?_
  refine L_sldz (j := 1) C hX (by decide) (by decide) (by decide) dL_law_1304 ?_
  refine x_aload_n (i := 0) C dL_law_1305 rfl rfl ?_
  refine x_iload_n (i := 3) C dL_law_1306 rfl rfl ?_
  refine x_iconst C dL_law_1307 ?_
  refine x_iadd C dL_law_1308 ?_
  refine L_sldz (j := 2) C hX (by decide) (by decide) (by decide) dL_law_1309 ?_
  refine x_aload_n (i := 0) C dL_law_1310 rfl rfl ?_
  refine x_iload_n (i := 3) C dL_law_1311 rfl rfl ?_
  refine x_iconst C dL_law_1312 ?_
  refine x_iadd C dL_law_1313 ?_
  refine L_sldz (j := 3) C hX (by decide) (by decide) (by decide) dL_law_1314 ?_
  refine L_call C ⟨rfl, rfl⟩ hW.2.2.1 hW.2.2.2.1 (R := fun _ => True) (fun _ _ _ _ h => h) (m_soonest (a := zs 1) (b := zs 2) (c := zs 3) z1 z2 z3) ckL_121 im_X12_soonest se_X12_soonest (nlt rfl) rfl rfl rfl rfl rfl (nle rfl) ⟨nle rfl, nle rfl⟩ dL_law_1315 (fun r X' hp => ?_)
  subst hp
  refine x_icmp_eq (tgt := 1445) C dL_law_1318 (by decide) ⟨by omega, by omega⟩ ⟨by omega, by omega⟩ (fun _ => ?_) (fun h => absurd rfl h)
  exact Wx_PH (fun H h => trivial) hE
set_option maxHeartbeats 4000000 in
theorem lc_25 {E : ET} {D : va_G} {ad ad2 : Nat → Nat} {cA cA2 : Nat → ClassId} {b : Nat} {zs : Nat → Int} (C : CX E (wI D) cL_law 4 RL (some .boolean) room_1) (hX : LAW E b 6 (fun j => iI (zs j))) (hz : ∀ j, inR (zs j)) (hW : LW E D ad ad2 cA cA2) (hE : Wx E (wI D) 4 (fun _ => True) 1445 [(3, .int (iI 0)), (2, .ref (ad2 0)), (1, .ref (ad 0)), (0, .ref b)] []) : Wx E (wI D) 4 (fun H => PX (wX D ad cA) x0X H ∧ PX (wM D ad2 cA2) x0M H) 1323 [(3, .int (iI 0)), (2, .ref (ad2 0)), (1, .ref (ad 0)), (0, .ref b)] [] := by
  have z1 := hz 1
  have z2 := hz 2
  have z3 := hz 3
  have z4 := hz 4
  have z5 := hz 5
  refine x_aload_n (i := 1) C dL_law_1323 rfl rfl ?_
  refine x_aload_n (i := 0) C dL_law_1324 rfl rfl ?_
  refine x_iload_n (i := 3) C dL_law_1325 rfl rfl ?_
  refine x_iconst C dL_law_1326 ?_
  refine x_iadd C dL_law_1327 ?_
  refine L_sldz (j := 1) C hX (by decide) (by decide) (by decide) dL_law_1328 ?_
  refine x_aload_n (i := 0) C dL_law_1329 rfl rfl ?_
  refine x_iload_n (i := 3) C dL_law_1330 rfl rfl ?_
  refine x_iconst C dL_law_1331 ?_
  refine x_iadd C dL_law_1332 ?_
  refine L_sldz (j := 2) C hX (by decide) (by decide) (by decide) dL_law_1333 ?_
  refine x_aload_n (i := 0) C dL_law_1334 rfl rfl ?_
  refine x_iload_n (i := 3) C dL_law_1335 rfl rfl ?_
  refine x_iconst C dL_law_1336 ?_
  refine x_iadd C dL_law_1337 ?_
  refine L_sldz (j := 3) C hX (by decide) (by decide) (by decide) dL_law_1338 ?_
  refine x_aload_n (i := 0) C dL_law_1339 rfl rfl ?_
  refine x_iload_n (i := 3) C dL_law_1340 rfl rfl ?_
  refine x_iconst C dL_law_1341 ?_
  refine x_iadd C dL_law_1342 ?_
  refine L_sldz (j := 4) C hX (by decide) (by decide) (by decide) dL_law_1343 ?_
  refine L_call C ⟨rfl, rfl⟩ hW.1 hW.2.1 (L_keep (X := x0M) hW.2.2.2.2) (x_drawn (a := zs 1) (b := zs 2) (c := zs 3) (d := zs 4) z1 z2 z3 z4) ckL_122 im_X11_drawn se_X11_drawn (nlt rfl) rfl rfl rfl rfl rfl (nle rfl) ⟨nle rfl, nle rfl⟩ dL_law_1344 (fun r X' hp => ?_)
  subst hp
  refine Wx_PH (PH' := fun H => PX (wM D ad2 cA2) x0M H ∧ True) (fun H h => ⟨h.2, trivial⟩) ?_
  refine x_aload_n (i := 2) C dL_law_1347 rfl rfl ?_
  refine x_aload_n (i := 0) C dL_law_1348 rfl rfl ?_
  refine x_iload_n (i := 3) C dL_law_1349 rfl rfl ?_
  refine x_iconst C dL_law_1350 ?_
  refine x_iadd C dL_law_1351 ?_
  refine L_sldz (j := 1) C hX (by decide) (by decide) (by decide) dL_law_1352 ?_
  refine x_aload_n (i := 0) C dL_law_1353 rfl rfl ?_
  refine x_iload_n (i := 3) C dL_law_1354 rfl rfl ?_
  refine x_iconst C dL_law_1355 ?_
  refine x_iadd C dL_law_1356 ?_
  refine L_sldz (j := 2) C hX (by decide) (by decide) (by decide) dL_law_1357 ?_
  refine x_aload_n (i := 0) C dL_law_1358 rfl rfl ?_
  refine x_iload_n (i := 3) C dL_law_1359 rfl rfl ?_
  refine x_iconst C dL_law_1360 ?_
  refine x_iadd C dL_law_1361 ?_
  refine L_sldz (j := 3) C hX (by decide) (by decide) (by decide) dL_law_1362 ?_
  refine x_aload_n (i := 0) C dL_law_1363 rfl rfl ?_
  refine x_iload_n (i := 3) C dL_law_1364 rfl rfl ?_
  refine x_iconst C dL_law_1365 ?_
  refine x_iadd C dL_law_1366 ?_
  refine L_sldz (j := 4) C hX (by decide) (by decide) (by decide) dL_law_1367 ?_
  refine L_call C ⟨rfl, rfl⟩ hW.2.2.1 hW.2.2.2.1 (R := fun _ => True) (fun _ _ _ _ h => h) (m_drawn (a := zs 1) (b := zs 2) (c := zs 3) (d := zs 4) z1 z2 z3 z4) ckL_125 im_X12_drawn se_X12_drawn (nlt rfl) rfl rfl rfl rfl rfl (nle rfl) ⟨nle rfl, nle rfl⟩ dL_law_1368 (fun r X' hp => ?_)
  subst hp
  refine x_icmp_eq (tgt := 1445) C dL_law_1371 (by decide) ⟨by omega, by omega⟩ ⟨by omega, by omega⟩ (fun _ => ?_) (fun h => absurd rfl h)
  exact Wx_PH (fun H h => trivial) hE
set_option maxHeartbeats 4000000 in
theorem lc_26 {E : ET} {D : va_G} {ad ad2 : Nat → Nat} {cA cA2 : Nat → ClassId} {b : Nat} {zs : Nat → Int} (C : CX E (wI D) cL_law 4 RL (some .boolean) room_1) (hX : LAW E b 6 (fun j => iI (zs j))) (hz : ∀ j, inR (zs j)) (hW : LW E D ad ad2 cA cA2) (hE : Wx E (wI D) 4 (fun _ => True) 1445 [(3, .int (iI 0)), (2, .ref (ad2 0)), (1, .ref (ad 0)), (0, .ref b)] []) : Wx E (wI D) 4 (fun H => PX (wX D ad cA) x0X H ∧ PX (wM D ad2 cA2) x0M H) 1376 [(3, .int (iI 0)), (2, .ref (ad2 0)), (1, .ref (ad 0)), (0, .ref b)] [] := by
  have z1 := hz 1
  have z2 := hz 2
  have z3 := hz 3
  have z4 := hz 4
  have z5 := hz 5
  refine x_aload_n (i := 1) C dL_law_1376 rfl rfl ?_
  refine x_aload_n (i := 0) C dL_law_1377 rfl rfl ?_
  refine x_iload_n (i := 3) C dL_law_1378 rfl rfl ?_
  refine x_iconst C dL_law_1379 ?_
  refine x_iadd C dL_law_1380 ?_
  refine L_sldz (j := 1) C hX (by decide) (by decide) (by decide) dL_law_1381 ?_
  refine L_call C ⟨rfl, rfl⟩ hW.1 hW.2.1 (L_keep (X := x0M) hW.2.2.2.2) (x_count (q := zs 1) z1) ckL_126 im_X11_count se_X11_count (nlt rfl) rfl rfl rfl rfl rfl (nle rfl) ⟨nle rfl, nle rfl⟩ dL_law_1382 (fun r X' hp => ?_)
  subst hp
  refine Wx_PH (PH' := fun H => PX (wM D ad2 cA2) x0M H ∧ True) (fun H h => ⟨h.2, trivial⟩) ?_
  refine x_aload_n (i := 2) C dL_law_1385 rfl rfl ?_
  refine x_aload_n (i := 0) C dL_law_1386 rfl rfl ?_
  refine x_iload_n (i := 3) C dL_law_1387 rfl rfl ?_
  refine x_iconst C dL_law_1388 ?_
  refine x_iadd C dL_law_1389 ?_
  refine L_sldz (j := 1) C hX (by decide) (by decide) (by decide) dL_law_1390 ?_
  refine L_call C ⟨rfl, rfl⟩ hW.2.2.1 hW.2.2.2.1 (R := fun _ => True) (fun _ _ _ _ h => h) (m_count (q := zs 1) z1) ckL_129 im_X12_count se_X12_count (nlt rfl) rfl rfl rfl rfl rfl (nle rfl) ⟨nle rfl, nle rfl⟩ dL_law_1391 (fun r X' hp => ?_)
  subst hp
  refine x_icmp_eq (tgt := 1445) C dL_law_1394 (by decide) ⟨by split <;> omega, by split <;> omega⟩ ⟨by split <;> omega, by split <;> omega⟩ (fun _ => ?_) (fun h => absurd rfl h)
  exact Wx_PH (fun H h => trivial) hE
set_option maxHeartbeats 4000000 in
theorem lc_27 {E : ET} {D : va_G} {ad ad2 : Nat → Nat} {cA cA2 : Nat → ClassId} {b : Nat} {zs : Nat → Int} (C : CX E (wI D) cL_law 4 RL (some .boolean) room_1) (hX : LAW E b 6 (fun j => iI (zs j))) (hz : ∀ j, inR (zs j)) (hW : LW E D ad ad2 cA cA2) (hE : Wx E (wI D) 4 (fun _ => True) 1445 [(3, .int (iI 0)), (2, .ref (ad2 0)), (1, .ref (ad 0)), (0, .ref b)] []) : Wx E (wI D) 4 (fun H => PX (wX D ad cA) x0X H ∧ PX (wM D ad2 cA2) x0M H) 1399 [(3, .int (iI 0)), (2, .ref (ad2 0)), (1, .ref (ad 0)), (0, .ref b)] [] := by
  have z1 := hz 1
  have z2 := hz 2
  have z3 := hz 3
  have z4 := hz 4
  have z5 := hz 5
  refine x_aload_n (i := 1) C dL_law_1399 rfl rfl ?_
  refine x_aload_n (i := 0) C dL_law_1400 rfl rfl ?_
  refine x_iload_n (i := 3) C dL_law_1401 rfl rfl ?_
  refine x_iconst C dL_law_1402 ?_
  refine x_iadd C dL_law_1403 ?_
  refine L_sldz (j := 1) C hX (by decide) (by decide) (by decide) dL_law_1404 ?_
  refine L_call C ⟨rfl, rfl⟩ hW.1 hW.2.1 (L_keep (X := x0M) hW.2.2.2.2) (x_imageA (k := zs 1) z1) ckL_130 im_X11_image se_X11_image (nlt rfl) rfl rfl rfl rfl rfl (nle rfl) ⟨nle rfl, nle rfl⟩ dL_law_1405 (fun r X' hp => ?_)
  subst hp
  refine Wx_PH (PH' := fun H => PX (wM D ad2 cA2) x0M H ∧ True) (fun H h => ⟨h.2, trivial⟩) ?_
  refine x_aload_n (i := 2) C dL_law_1408 rfl rfl ?_
  refine x_aload_n (i := 0) C dL_law_1409 rfl rfl ?_
  refine x_iload_n (i := 3) C dL_law_1410 rfl rfl ?_
  refine x_iconst C dL_law_1411 ?_
  refine x_iadd C dL_law_1412 ?_
  refine L_sldz (j := 1) C hX (by decide) (by decide) (by decide) dL_law_1413 ?_
  refine L_call C ⟨rfl, rfl⟩ hW.2.2.1 hW.2.2.2.1 (R := fun _ => True) (fun _ _ _ _ h => h) (m_image (k := zs 1) z1) ckL_134 im_X12_image se_X12_image (nlt rfl) rfl rfl rfl rfl rfl (nle rfl) ⟨nle rfl, nle rfl⟩ dL_law_1414 (fun r X' hp => ?_)
  subst hp
  refine x_icmp_eq (tgt := 1445) C dL_law_1417 (by decide) ⟨by split <;> omega, by split <;> omega⟩ ⟨by split <;> omega, by split <;> omega⟩ (fun _ => ?_) (fun h => absurd rfl h)
  exact Wx_PH (fun H h => trivial) hE
set_option maxHeartbeats 4000000 in
theorem lc_28 {E : ET} {D : va_G} {ad ad2 : Nat → Nat} {cA cA2 : Nat → ClassId} {b : Nat} {zs : Nat → Int} (C : CX E (wI D) cL_law 4 RL (some .boolean) room_1) (hX : LAW E b 6 (fun j => iI (zs j))) (hz : ∀ j, inR (zs j)) (hW : LW E D ad ad2 cA cA2) (hE : Wx E (wI D) 4 (fun _ => True) 1445 [(3, .int (iI 0)), (2, .ref (ad2 0)), (1, .ref (ad 0)), (0, .ref b)] []) : Wx E (wI D) 4 (fun H => PX (wX D ad cA) x0X H ∧ PX (wM D ad2 cA2) x0M H) 1422 [(3, .int (iI 0)), (2, .ref (ad2 0)), (1, .ref (ad 0)), (0, .ref b)] [] := by
  have z1 := hz 1
  have z2 := hz 2
  have z3 := hz 3
  have z4 := hz 4
  have z5 := hz 5
  refine x_aload_n (i := 1) C dL_law_1422 rfl rfl ?_
  refine x_aload_n (i := 0) C dL_law_1423 rfl rfl ?_
  refine x_iload_n (i := 3) C dL_law_1424 rfl rfl ?_
  refine x_iconst C dL_law_1425 ?_
  refine x_iadd C dL_law_1426 ?_
  refine L_sldz (j := 1) C hX (by decide) (by decide) (by decide) dL_law_1427 ?_
  refine L_call C ⟨rfl, rfl⟩ hW.1 hW.2.1 (L_keep (X := x0M) hW.2.2.2.2) (x_again (k := zs 1) z1) ckL_135 im_X11_again se_X11_again (nlt rfl) rfl rfl rfl rfl rfl (nle rfl) ⟨nle rfl, nle rfl⟩ dL_law_1428 (fun r X' hp => ?_)
  subst hp
  refine Wx_PH (PH' := fun H => PX (wM D ad2 cA2) x0M H ∧ True) (fun H h => ⟨h.2, trivial⟩) ?_
  refine x_aload_n (i := 2) C dL_law_1431 rfl rfl ?_
  refine x_aload_n (i := 0) C dL_law_1432 rfl rfl ?_
  refine x_iload_n (i := 3) C dL_law_1433 rfl rfl ?_
  refine x_iconst C dL_law_1434 ?_
  refine x_iadd C dL_law_1435 ?_
  refine L_sldz (j := 1) C hX (by decide) (by decide) (by decide) dL_law_1436 ?_
  refine L_call C ⟨rfl, rfl⟩ hW.2.2.1 hW.2.2.2.1 (R := fun _ => True) (fun _ _ _ _ h => h) (m_again (k := zs 1) z1) ckL_138 im_X12_again se_X12_again (nlt rfl) rfl rfl rfl rfl rfl (nle rfl) ⟨nle rfl, nle rfl⟩ dL_law_1437 (fun r X' hp => ?_)
  subst hp
  refine x_icmp_eq (tgt := 1445) C dL_law_1440 (by decide) ⟨by omega, by omega⟩ ⟨by omega, by omega⟩ (fun _ => ?_) (fun h => absurd rfl h)
  exact Wx_PH (fun H h => trivial) hE
theorem L_all : ∀ q ∈ vwCl, (∀ w ∈ u_ws q.1 q.2.1 q.2.2, w ∈ lw_tbl) ∧ ∃ n, Cond.instantiable q.1 n ∈ lw_tbl := List.forall_mem_cons.mpr ⟨⟨fun w hw => (List.mem_filter.mp (inX0 w hw)).1, 7, List.mem_of_getElem? (i := 155) (by decide +kernel)⟩, List.forall_mem_cons.mpr ⟨⟨fun w hw => (List.mem_filter.mp (inX1 w hw)).1, 7, List.mem_of_getElem? (i := 458) (by decide +kernel)⟩, List.forall_mem_cons.mpr ⟨⟨fun w hw => (List.mem_filter.mp (inX2 w hw)).1, 3, List.mem_of_getElem? (i := 217) (by decide +kernel)⟩, List.forall_mem_cons.mpr ⟨⟨fun w hw => (List.mem_filter.mp (inX3 w hw)).1, 5, List.mem_of_getElem? (i := 328) (by decide +kernel)⟩, List.forall_mem_cons.mpr ⟨⟨fun w hw => (List.mem_filter.mp (inX4 w hw)).1, 6, List.mem_of_getElem? (i := 464) (by decide +kernel)⟩, List.forall_mem_cons.mpr ⟨⟨fun w hw => (List.mem_filter.mp (inX5 w hw)).1, 4, List.mem_of_getElem? (i := 384) (by decide +kernel)⟩, List.forall_mem_cons.mpr ⟨⟨fun w hw => (List.mem_filter.mp (inX6 w hw)).1, 11, List.mem_of_getElem? (i := 272) (by decide +kernel)⟩, List.forall_mem_cons.mpr ⟨⟨fun w hw => (List.mem_filter.mp (inX7 w hw)).1, 5, List.mem_of_getElem? (i := 390) (by decide +kernel)⟩, List.forall_mem_cons.mpr ⟨⟨fun w hw => (List.mem_filter.mp (inX8 w hw)).1, 8, List.mem_of_getElem? (i := 146) (by decide +kernel)⟩, List.forall_mem_cons.mpr ⟨⟨fun w hw => (List.mem_filter.mp (inX9 w hw)).1, 8, List.mem_of_getElem? (i := 322) (by decide +kernel)⟩, List.forall_mem_cons.mpr ⟨⟨fun w hw => (List.mem_filter.mp (inX10 w hw)).1, 5, List.mem_of_getElem? (i := 422) (by decide +kernel)⟩, List.forall_mem_cons.mpr ⟨⟨fun w hw => (List.mem_filter.mp (inX11 w hw)).1, 8, List.mem_of_getElem? (i := 138) (by decide +kernel)⟩, List.forall_mem_cons.mpr ⟨⟨fun w hw => (List.mem_filter.mp (inX12 w hw)).1, 75, List.mem_of_getElem? (i := 1258) (by decide +kernel)⟩, fun _ h => absurd h List.not_mem_nil⟩⟩⟩⟩⟩⟩⟩⟩⟩⟩⟩⟩⟩
def LEND (E : ET) : Prop := ∀ (D : va_G) (a b' : Nat) (lv : List (Nat × Value)) {PH : Heap → Prop}, a ≤ 600000 → b' ≤ 7302250 → Wx (Ek E a b') (wI D) 4 PH (1451 + 1) lv [.int (iI 1)]
theorem LEND.k {E : ET} {a b : Nat} (h : LEND E) : LEND (Ek E a b) := by obtain ⟨p, l, e, R, s, m, args, below, meth, c, A0, k0, n0, QQ⟩ := E; exact h
set_option maxHeartbeats 4000000 in
set_option maxRecDepth 100000 in
theorem law_body {E : ET} {D : va_G} {b L : Nat} {zs : Nat → Int} (C : CX E (wI D) cL_law 4 RL (some .boolean) room_1) (hG : GA E) (hX : LAW E b L (fun j => iI (zs j))) (hz : ∀ j, inR (zs j)) (hL : L ≤ 6) (hk0 : eK E = 0) (hn0 : eN E = 0) (hEnd : LEND E) : Wx E (wI D) 4 (fun _ => True) 0 [(0, .ref b)] [] := by
  refine L_new (R := fun _ => True) (Out := fun _ => False) (B := bX D) (X := x0X) (ci := 11) (a := 1) (b := 8) C hG ⟨rfl, rfl⟩ inX11 tyX11_ok rfl rfl nwL_7.1 nwL_7.2.1 nwL_7.2.2 (fun j hj => by rcases (show j = 0 ∨ j = 1 ∨ j = 2 ∨ j = 3 ∨ j = 4 ∨ j = 5 ∨ j = 6 ∨ j = 7 by omega) with rfl | rfl | rfl | rfl | rfl | rfl | rfl | rfl <;> rfl) (fun _ _ _ h => h) (fun _ _ _ h => h.elim) (by rw [hk0]) (by rw [hn0]) (nle rfl) (nle rfl) dL_law_0 (fun q hq hqA C => ?_)
  have hG := hG.k (a := 1) (b := 8)
  have hX := hX.k (a := 1) (b := 8)
  have hqA := hqA.k (a := 1) (b := 8)
  have hEnd := hEnd.k (a := 1) (b := 8)
  refine x_dup C dL_law_3 rfl ?_
  refine L_ctor (R := fun _ => True) (Out := fun _ => False) (B := bX D) (rest := [.ref q]) (a := 158) (b' := 24177) C hG ⟨rfl, rfl⟩ rfl ct_X0 ckL_9 im_X11_init rfl (fun _ _ _ _ h => h) (fun _ _ _ h => h.elim) hq hqA rfl (nle rfl) ⟨nle rfl, nle rfl⟩ (by rw [eK.k]) (by rw [eN.k]) (nle rfl) (nle rfl) dL_law_4 (fun ad cA had _ hF hA C => ?_)
  have hG := hG.k (a := 158) (b := 24177)
  have hX := hX.k (a := 158) (b := 24177)
  have hF : EF _ (wX D ad cA) := hF.k (a := 158) (b := 24177)
  have hA : ∀ x, AW (wX D ad cA) x → EA _ x := fun x h => (hA x h).k (a := 158) (b := 24177)
  have hEnd := hEnd.k (a := 158) (b := 24177)
  subst had
  refine x_astore_n (i := 1) (lv' := [(1, .ref (ad 0)), (0, .ref b)]) C dL_law_7 rfl (nlt rfl) rfl ?_
  refine Wx_PH (PH' := PX (wX D ad cA) x0X) (fun H h => h.1) ?_
  refine L_new (R := PX (wX D ad cA) x0X) (Out := AW (wX D ad cA)) (B := bM D) (X := x0M) (ci := 12) (a := 159) (b := 24252) C hG ⟨rfl, rfl⟩ inX12 tyX12_ok rfl rfl nwL_10.1 nwL_10.2.1 nwL_10.2.2 (fun j hj => by rcases (show j = 0 ∨ j = 1 ∨ j = 2 ∨ j = 3 ∨ j = 4 ∨ j = 5 ∨ j = 6 ∨ j = 7 ∨ j = 8 ∨ j = 9 ∨ j = 10 ∨ j = 11 ∨ j = 12 ∨ j = 13 ∨ j = 14 ∨ j = 15 ∨ j = 16 ∨ j = 17 ∨ j = 18 ∨ j = 19 ∨ j = 20 ∨ j = 21 ∨ j = 22 ∨ j = 23 ∨ j = 24 ∨ j = 25 ∨ j = 26 ∨ j = 27 ∨ j = 28 ∨ j = 29 ∨ j = 30 ∨ j = 31 ∨ j = 32 ∨ j = 33 ∨ j = 34 ∨ j = 35 ∨ j = 36 ∨ j = 37 ∨ j = 38 ∨ j = 39 ∨ j = 40 ∨ j = 41 ∨ j = 42 ∨ j = 43 ∨ j = 44 ∨ j = 45 ∨ j = 46 ∨ j = 47 ∨ j = 48 ∨ j = 49 ∨ j = 50 ∨ j = 51 ∨ j = 52 ∨ j = 53 ∨ j = 54 ∨ j = 55 ∨ j = 56 ∨ j = 57 ∨ j = 58 ∨ j = 59 ∨ j = 60 ∨ j = 61 ∨ j = 62 ∨ j = 63 ∨ j = 64 ∨ j = 65 ∨ j = 66 ∨ j = 67 ∨ j = 68 ∨ j = 69 ∨ j = 70 ∨ j = 71 ∨ j = 72 ∨ j = 73 ∨ j = 74 by omega) with rfl | rfl | rfl | rfl | rfl | rfl | rfl | rfl | rfl | rfl | rfl | rfl | rfl | rfl | rfl | rfl | rfl | rfl | rfl | rfl | rfl | rfl | rfl | rfl | rfl | rfl | rfl | rfl | rfl | rfl | rfl | rfl | rfl | rfl | rfl | rfl | rfl | rfl | rfl | rfl | rfl | rfl | rfl | rfl | rfl | rfl | rfl | rfl | rfl | rfl | rfl | rfl | rfl | rfl | rfl | rfl | rfl | rfl | rfl | rfl | rfl | rfl | rfl | rfl | rfl | rfl | rfl | rfl | rfl | rfl | rfl | rfl | rfl | rfl | rfl <;> rfl) (fun H H1 ho hP => hP.kept (fun k q hq => ho q.1 ((hP k q hq).lt))) L_lt (by rw [eK.k]) (by rw [eN.k]) (nle rfl) (nle rfl) dL_law_8 (fun q hq hqA C => ?_)
  have hG := hG.k (a := 159) (b := 24252)
  have hX := hX.k (a := 159) (b := 24252)
  have hqA := hqA.k (a := 159) (b := 24252)
  have hF := hF.k (a := 159) (b := 24252)
  have hA : ∀ x, AW (wX D ad cA) x → EA _ x := fun x h => (hA x h).k (a := 159) (b := 24252)
  have hEnd := hEnd.k (a := 159) (b := 24252)
  refine x_dup C dL_law_11 rfl ?_
  refine L_ctor (R := PX (wX D ad cA) x0X) (Out := AW (wX D ad cA)) (B := bM D) (rest := [.ref q]) (a := 207) (b' := 65183) C hG ⟨rfl, rfl⟩ rfl ct_M0 ckL_12 im_X12_init rfl (fun H H1 _ ho hP => hP.kept (fun k x hx => ho x.1 ((hP k x hx).lt) (fun hh => hq (by
    have hk : k < wN (wX D ad cA) := by rw [← wsX_len (w := wX D ad cA) (X := x0X)]; exact (List.getElem?_eq_some_iff.mp hx).1
    have h9 := wsX_at (X := x0X) hk
    rw [hx] at h9
    exact ⟨k, hk, by rw [← hh, Option.some.inj h9]⟩)))) L_lt hq hqA rfl (nle rfl) ⟨nle rfl, nle rfl⟩ (by rw [eK.k]) (by rw [eN.k]) (nle rfl) (nle rfl) dL_law_12 (fun ad2 cA2 had hO hF2 hA2 C => ?_)
  have hG := hG.k (a := 207) (b := 65183)
  have hX := hX.k (a := 207) (b := 65183)
  have hF := hF.k (a := 207) (b := 65183)
  have hW : LW _ D ad ad2 cA cA2 := ⟨hF, fun x h => (hA x h).k (a := 207) (b := 65183), hF2.k (a := 207) (b := 65183), fun x h => (hA2 x h).k (a := 207) (b := 65183), hO⟩
  subst had
  refine x_astore_n (i := 2) (lv' := [(2, .ref (ad2 0)), (1, .ref (ad 0)), (0, .ref b)]) C dL_law_15 rfl (nlt rfl) rfl ?_
  refine Wx_PH (PH' := fun H => PX (wX D ad cA) x0X H ∧ PX (wM D ad2 cA2) x0M H) (fun H h => ⟨h.2, h.1⟩) ?_
  refine x_iconst C dL_law_16 ?_
  refine x_istore_n (i := 3) (lv' := [(3, .int (iI 0)), (2, .ref (ad2 0)), (1, .ref (ad 0)), (0, .ref b)]) C dL_law_17 rfl (nlt rfl) rfl ?_
  refine x_iload_n (i := 3) C dL_law_18 rfl rfl ?_
  refine x_aload_n (i := 0) C dL_law_19 rfl rfl ?_
  refine L_slen C hX dL_law_20 ?_
  refine x_bipush C dL_law_21 (by decide) ?_
  refine x_isub C dL_law_23 ?_
  refine x_icmp_gt (tgt := 1451) C dL_law_24 (by decide) ⟨by omega, by omega⟩ ⟨by omega, by omega⟩ (fun h => ?_) (fun h => ?_)
  · refine x_iconst C dL_law_1451 ?_
    exact hEnd D 207 65183 _ (nle rfl) (nle rfl)
  have hL6 : L = 6 := by omega
  subst hL6
  have hE : Wx (Ek (Ek (Ek (Ek E 1 8) 158 24177) 159 24252) 207 65183) (wI D) 4 (fun _ => True) 1445 [(3, .int (iI 0)), (2, .ref (ad2 0)), (1, .ref (ad 0)), (0, .ref b)] [] := by
    refine x_iinc (lv' := [(3, .int (iI (0 + 6))), (2, .ref (ad2 0)), (1, .ref (ad 0)), (0, .ref b)]) C dL_law_1445 rfl (nlt rfl) rfl ?_
    refine x_goto (tgt := 18) C dL_law_1448 (by decide) ?_
    refine x_iload_n (i := 3) C dL_law_18 rfl rfl ?_
    refine x_aload_n (i := 0) C dL_law_19 rfl rfl ?_
    refine L_slen C hX dL_law_20 ?_
    refine x_bipush C dL_law_21 (by decide) ?_
    refine x_isub C dL_law_23 ?_
    refine x_icmp_gt (tgt := 1451) C dL_law_24 (by decide) ⟨by omega, by omega⟩ ⟨by omega, by omega⟩ (fun h => ?_) (fun h => by exfalso; omega)
    refine x_iconst C dL_law_1451 ?_
    exact hEnd D 207 65183 _ (nle rfl) (nle rfl)
  refine x_aload_n (i := 0) C dL_law_27 rfl rfl ?_
  refine x_iload_n (i := 3) C dL_law_28 rfl rfl ?_
  refine L_sldz (j := 0) C hX (by decide) (by decide) (by decide) dL_law_29 ?_
  refine x_bipush C dL_law_30 (by decide) ?_
  refine x_iand C dL_law_32 ?_
  refine x_topi (fun z hz9 e9 => ?_)
  have hb9 := and_bd (m := 31) (by decide) (by decide) hz9 e9
  rcases (show z = 0 ∨ z = 1 ∨ z = 2 ∨ z = 3 ∨ z = 4 ∨ z = 5 ∨ z = 6 ∨ z = 7 ∨ z = 8 ∨ z = 9 ∨ z = 10 ∨ z = 11 ∨ z = 12 ∨ z = 13 ∨ z = 14 ∨ z = 15 ∨ z = 16 ∨ z = 17 ∨ z = 18 ∨ z = 19 ∨ z = 20 ∨ z = 21 ∨ z = 22 ∨ z = 23 ∨ z = 24 ∨ z = 25 ∨ z = 26 ∨ z = 27 ∨ z = 28 ∨ 28 < z by omega) with rfl | rfl | rfl | rfl | rfl | rfl | rfl | rfl | rfl | rfl | rfl | rfl | rfl | rfl | rfl | rfl | rfl | rfl | rfl | rfl | rfl | rfl | rfl | rfl | rfl | rfl | rfl | rfl | rfl | h28
  · exact L_swIn (tgt := 164) C dL_law_33 ⟨by decide, by decide⟩ (by decide) (by decide) rfl (by decide) (lc_0 C hX hz hW hE)
  · exact L_swIn (tgt := 227) C dL_law_33 ⟨by decide, by decide⟩ (by decide) (by decide) rfl (by decide) (lc_1 C hX hz hW hE)
  · exact L_swIn (tgt := 250) C dL_law_33 ⟨by decide, by decide⟩ (by decide) (by decide) rfl (by decide) (lc_2 C hX hz hW hE)
  · exact L_swIn (tgt := 283) C dL_law_33 ⟨by decide, by decide⟩ (by decide) (by decide) rfl (by decide) (lc_3 C hX hz hW hE)
  · exact L_swIn (tgt := 306) C dL_law_33 ⟨by decide, by decide⟩ (by decide) (by decide) rfl (by decide) (lc_4 C hX hz hW hE)
  · exact L_swIn (tgt := 339) C dL_law_33 ⟨by decide, by decide⟩ (by decide) (by decide) rfl (by decide) (lc_5 C hX hz hW hE)
  · exact L_swIn (tgt := 372) C dL_law_33 ⟨by decide, by decide⟩ (by decide) (by decide) rfl (by decide) (lc_6 C hX hz hW hE)
  · exact L_swIn (tgt := 415) C dL_law_33 ⟨by decide, by decide⟩ (by decide) (by decide) rfl (by decide) (lc_7 C hX hz hW hE)
  · exact L_swIn (tgt := 448) C dL_law_33 ⟨by decide, by decide⟩ (by decide) (by decide) rfl (by decide) (lc_8 C hX hz hW hE)
  · exact L_swIn (tgt := 492) C dL_law_33 ⟨by decide, by decide⟩ (by decide) (by decide) rfl (by decide) (lc_9 C hX hz hW hE)
  · exact L_swIn (tgt := 545) C dL_law_33 ⟨by decide, by decide⟩ (by decide) (by decide) rfl (by decide) (lc_10 C hX hz hW hE)
  · exact L_swIn (tgt := 608) C dL_law_33 ⟨by decide, by decide⟩ (by decide) (by decide) rfl (by decide) (lc_11 C hX hz hW hE)
  · exact L_swIn (tgt := 651) C dL_law_33 ⟨by decide, by decide⟩ (by decide) (by decide) rfl (by decide) (lc_12 C hX hz hW hE)
  · exact L_swIn (tgt := 684) C dL_law_33 ⟨by decide, by decide⟩ (by decide) (by decide) rfl (by decide) (lc_13 C hX hz hW hE)
  · exact L_swIn (tgt := 737) C dL_law_33 ⟨by decide, by decide⟩ (by decide) (by decide) rfl (by decide) (lc_14 C hX hz hW hE)
  · exact L_swIn (tgt := 791) C dL_law_33 ⟨by decide, by decide⟩ (by decide) (by decide) rfl (by decide) (lc_15 C hX hz hW hE)
  · exact L_swIn (tgt := 860) C dL_law_33 ⟨by decide, by decide⟩ (by decide) (by decide) rfl (by decide) (lc_16 C hX hz hW hE)
  · exact L_swIn (tgt := 903) C dL_law_33 ⟨by decide, by decide⟩ (by decide) (by decide) rfl (by decide) (lc_17 C hX hz hW hE)
  · exact L_swIn (tgt := 946) C dL_law_33 ⟨by decide, by decide⟩ (by decide) (by decide) rfl (by decide) (lc_18 C hX hz hW hE)
  · exact L_swIn (tgt := 999) C dL_law_33 ⟨by decide, by decide⟩ (by decide) (by decide) rfl (by decide) (lc_19 C hX hz hW hE)
  · exact L_swIn (tgt := 1052) C dL_law_33 ⟨by decide, by decide⟩ (by decide) (by decide) rfl (by decide) (lc_20 C hX hz hW hE)
  · exact L_swIn (tgt := 1105) C dL_law_33 ⟨by decide, by decide⟩ (by decide) (by decide) rfl (by decide) (lc_21 C hX hz hW hE)
  · exact L_swIn (tgt := 1148) C dL_law_33 ⟨by decide, by decide⟩ (by decide) (by decide) rfl (by decide) (lc_22 C hX hz hW hE)
  · exact L_swIn (tgt := 1217) C dL_law_33 ⟨by decide, by decide⟩ (by decide) (by decide) rfl (by decide) (lc_23 C hX hz hW hE)
  · exact L_swIn (tgt := 1280) C dL_law_33 ⟨by decide, by decide⟩ (by decide) (by decide) rfl (by decide) (lc_24 C hX hz hW hE)
  · exact L_swIn (tgt := 1323) C dL_law_33 ⟨by decide, by decide⟩ (by decide) (by decide) rfl (by decide) (lc_25 C hX hz hW hE)
  · exact L_swIn (tgt := 1376) C dL_law_33 ⟨by decide, by decide⟩ (by decide) (by decide) rfl (by decide) (lc_26 C hX hz hW hE)
  · exact L_swIn (tgt := 1399) C dL_law_33 ⟨by decide, by decide⟩ (by decide) (by decide) rfl (by decide) (lc_27 C hX hz hW hE)
  · exact L_swIn (tgt := 1422) C dL_law_33 ⟨by decide, by decide⟩ (by decide) (by decide) rfl (by decide) (lc_28 C hX hz hW hE)
  · exact L_swOut (tgt := 1445) C dL_law_33 hz9 (Or.inr h28) (by decide) (Wx_PH (fun _ _ => trivial) hE)
