/-! ===== ENGINE 6: contracts and calls ===== -/
theorem lw_good : ∀ x ∈ lw_g, goodWord x = true := fun x h => (List.mem_filter.mp h).2
theorem lw_goodIn {y : MethodName} {b : ByteArray} {mL : Nat} {rt : Option FieldType} (h : Cond.code y b mL rt ∈ lw_g) : GoodIn lw_g (Cond.code y b mL rt :: lw_g) := by
  intro x hx
  rcases List.mem_cons.mp hx with rfl | hx
  · exact ⟨h, good_of_word (lw_good _ h)⟩
  · exact ⟨hx, good_of_word (lw_good _ hx)⟩
/-- a method's contract over a world of fixed shape: from the values av and the contents X it returns, and what it answers and leaves is as 'post' says; nothing outside the world changes -/
def MetX (w : WT) (y : MethodName) (b : ByteArray) (mL : Nat) (rt : Option FieldType) (fr lo : Nat) (av : List Value) (X : XT) (post : Option Value → XT → Prop) : Prop :=
  ∀ l : Launch, Met l y (Cond.code y b mL rt :: lw_g) { frames := fr, cells := 0, slots := 0, locals := lo } (va_Pc (av.map (czV w)) (fun U => va_P (wD w) (wC w) (wsX w X) U.heap ∧ FxW w U)) (QX (AW w) w post) 0 0 (AW w)
theorem lv_args_cz (w : WT) : ∀ (av : List Value) (i : Nat), lv_args i (av.map (czV w)) = lvC w (lv_args i av)
  | [], _ => rfl
  | v :: vs, i => by
    show (i, czV w v) :: lv_args (if (czV w v).category = 2 then i + 2 else i + 1) (vs.map (czV w)) = (i, czV w v) :: lvC w (lv_args (if v.category = 2 then i + 2 else i + 1) vs)
    rw [czV_cat, lv_args_cz w vs]
theorem lg_sl_cz (w : WT) : ∀ av : List Value, (lg_sl (av.map (czV w))).length = (lg_sl av).length
  | [] => rfl
  | v :: vs => by
    have ih := lg_sl_cz w vs
    show ((if (czV w v).category = 2 then [Slot.val (czV w v), .second] else [Slot.val (czV w v)]) ++ lg_sl (vs.map (czV w))).length = ((if v.category = 2 then [Slot.val v, .second] else [Slot.val v]) ++ lg_sl vs).length
    rw [List.length_append, List.length_append, ih, czV_cat]
    split <;> rfl
theorem cat_cz (w : WT) (l : List Value) : ((l.map (czV w)).map fun v => v.category).sum = (l.map fun v => v.category).sum := by
  rw [List.map_map]
  congr 1
  exact List.map_congr_left (fun v _ => czV_cat w v)
theorem MetX.mk {w : WT} {y : MethodName} {b : ByteArray} {mL : Nat} {rt : Option FieldType} {fr lo : Nat} {av : List Value} {X : XT} {post : Option Value → XT → Prop} {own : String} (hy : plainName y.cls = true) (hown : y.cls = own) (hlen : (lg_sl av).length ≤ mL)
    (body : ∀ E : ET, CX E w b mL own rt { frames := fr, cells := 0, slots := 0, locals := lo } → EQ E w post → Wx E w mL (PX w X) 0 (lv_args 0 av) []) : MetX w y b mL rt fr lo av X post := by
  intro l
  refine Met.ofW (cc := b) (maxL := mL) (ret := rt) hy rfl ?_
  intro p e s m args below meth c s₁ B hml hv
  obtain ⟨rfl, hP, hF⟩ := hv
  have hts := atoms_spec (ws := Cond.code y b mL rt :: lw_g) B.pre
  have K := body (p, l, e, { frames := fr, cells := 0, slots := 0, locals := lo }, s, m, (av.map (czV w)).toArray, below, meth, c, AW w, 0, 0, MQ below (QX (AW w) w post) (av.map (czV w)).toArray s 0 0 (AW w)) ⟨B.exec, B.bytes, hml, by rw [← hown]; exact findClass_of_methodNamed B.named, fun x hx => hts x (List.mem_cons_of_mem _ hx), hF, B.returns, B.notSynchronized, rfl, fun _ h => h, Nat.zero_le _, Nat.zero_le _⟩ rfl
  rw [lg_entry_eq]
  have hl := lv_entry (av.map (czV w)) (n := mL) (by rw [lg_sl_cz]; exact hlen)
  rw [lv_args_cz] at hl
  exact K s.heap [] _ hP va_S.rf hl
theorem MetX.imp {w : WT} {y : MethodName} {b : ByteArray} {mL : Nat} {rt : Option FieldType} {fr lo : Nat} {av : List Value} {X : XT} {post post' : Option Value → XT → Prop} (h : ∀ r X, post r X → post' r X) (M : MetX w y b mL rt fr lo av X post) : MetX w y b mL rt fr lo av X post' := by
  intro l p e a1 a2 a3 s m args below hf a4 a5 a6
  obtain ⟨k, o, h1, h2, h3, ⟨⟨r, X1, c1, c2, c3⟩, c4⟩, d⟩ := M l p e a1 a2 a3 s m args below hf a4 a5 a6
  exact ⟨k, o, h1, h2, h3, ⟨⟨r, X1, c1, h r X1 c2, c3⟩, c4⟩, d⟩
section XC
variable {p : Program} {l : Launch} {e : Env} {R : Room} {s : State} {m : MethodId} {args : Array Value} {below : List Frame} {meth : Method} {c : Code} {H : Heap} {locs : List Loc} {Q : State → Prop} {k0 n0 : Nat}
theorem va_callX {w : WT} {post : Option Value → XT → Prop} {pc : Nat} {ls : Array Slot} {rest st0 : List Value} {a : Array Value} {A0 : Nat → Prop} {H0 : Heap} {free : Addr → Prop} (hr : va_Run p l e R s m args below meth c H locs k0 n0 0 0 (F0 m pc ls st0) rest (QX (AW w) w post a) free) (hS : va_S A0 H0 H locs) (hA : ∀ q, AW w q → A0 q) (hf : ∀ q, free q → A0 q)
    (kk : ∀ (r : Option Value) (X' : XT) (H1 : Heap) (locs1 : List Loc), post r X' → PX w X' H1 → H.size ≤ H1.size → (∀ q : Nat, q < H.size → ¬ AW w q → H1[q]? = H[q]?) → va_S A0 H0 H1 locs1 → W p l e R s m args below meth c H1 locs1 k0 n0 Q (F0 m (pc + 3) ls ((r.map (czV w)).toList ++ rest))) : W p l e R s m args below meth c H locs k0 n0 Q (F0 m pc ls st0) := by
  intro T hT X
  obtain ⟨v, st₀, t, T', L, h0, X', hL, e1, e2, ⟨⟨r, X1, hv, hp, hb⟩, hz, hk⟩, st⟩ := hr T hT X
  have hv : v = r.map (czV w) := by cases hv; rfl
  subst hv
  rw [h0] at hz hk
  obtain ⟨t2, a1, b1⟩ := kk r X1 T'.heap (locs ++ L) hp (by rw [e1]; exact hb) (by rw [e1]; exact hz) (fun q h1 h2 => by rw [e1]; exact hk q h1 h2)
    ⟨Nat.le_trans hS.1 (by rw [e1]; exact hz), fun q h1 h2 => by rw [e1, hk q (Nat.lt_of_lt_of_le h1 hS.1) (fun z => h2 (hA q z))]; exact hS.2.1 q h1 h2, fun q hq => by
      rcases List.mem_append.mp hq with h | h
      · exact hS.2.2 q h
      · exact hf _ (hL q h)⟩ T' rfl X'
  exact ⟨t2, st t2 a1, b1⟩
end XC
/-- a call's own rows in the tables -/
def CKB (own : String) (idx : Nat) (y : MethodName) (b : ByteArray) (mL : Nat) (rt : Option FieldType) (n : Nat) : Prop := Cond.code y b mL rt ∈ lw_g ∧ Cond.initialized y.cls ∈ lw_g ∧ (y.cls ≠ "java/lang/invoke/MethodHandle" ∧ y.cls ≠ "java/lang/invoke/VarHandle") ∧ (parseMethodDescriptor y.desc).map (fun d => d.parameters.length) = some n ∧ Cond.methodLink own idx y ∈ lw_g
theorem CKB.B {R : Room} {s : State} {args : Array Value} {own : String} {idx : Nat} {y : MethodName} {b : ByteArray} {mL : Nat} {rt : Option FieldType} {n fr lo : Nat} (h : CKB own idx y b mL rt n) (hts : ∀ x ∈ lw_g, x.before args s = true) (hR : fr + 1 ≤ R.frames ∧ 8 + (mL + 11) + lo ≤ R.locals) : CallB R s args own idx y b mL rt (Cond.code y b mL rt :: lw_g) { frames := fr, cells := 0, slots := 0, locals := lo } 0 0 n := by
  refine ⟨rfl, rfl, hR.1, hR.2, pay_in hts (lw_goodIn h.1), List.mem_cons_self, hts _ h.1, hts _ h.2.1, h.2.2.1, fun sig hs => ?_, hts _ h.2.2.2.2⟩
  have h2 := h.2.2.2.1
  rw [hs] at h2
  exact (Option.some.inj h2).symm
theorem blind_X {w : WT} {av : List Value} {X : XT} : FrameBlind (va_Pc (av.map (czV w)) (fun U => va_P (wD w) (wC w) (wsX w X) U.heap ∧ FxW w U)) :=
  fun a U g mk h => ⟨h.1, h.2.1, FxW.same (u := U) (U := U.calling g mk a) rfl h.2.2⟩
section XD
variable {E : ET} {w : WT} {Qp : Option Value → XT → Prop} {nL : Nat} {X : XT} {pc : Nat} {lv : List (Nat × Value)} {st : List Value} {cc : ByteArray} {own : String} {ret : Option FieldType} {rm : Room}
theorem x_callV (C : CX E w cc nL own ret rm) {y : MethodName} {b : ByteArray} {mL k ci n nn idx fr lo : Nat} {rt : Option FieldType} {Cn : String} {T : u_T} {As rest : List Value} {post : Option Value → XT → Prop} (M : MetX w y b mL rt fr lo (.ref k :: As) X post) (hw : CKB own idx y b mL rt n) (hi : Cond.instanceMethod y ∈ lw_g) (hse : Cond.selects Cn y y ∈ lw_g) (hk : k < wN w) (hs : wS w k = (0, ci, nn)) (hcl : (wC w)[ci]? = some (Cn, T, nn))
    (hst : st = As.reverse ++ .ref k :: rest) (hn : As.length = n) (hsum : (rest.map fun v => v.category).sum ≤ 8) (hR : fr + 1 ≤ rm.frames ∧ 8 + (mL + 11) + lo ≤ rm.locals) (hd : decode cc pc = .ok (.invokevirtual idx, 3)) (kk : ∀ (r : Option Value) (X' : XT), post r X' → Wx E w nL (PX w X') (pc + 3) lv (r.toList ++ rest)) : Wx E w nL (PX w X) pc lv st := by
  obtain ⟨p, l, e, R, s, m, args, below, meth, c, A0, k0, n0, QQ⟩ := E
  intro H locs ls hP hS hl
  obtain ⟨hx, hb, hml, hown, hts, hF, hret, hlk, hRm, hA, hk0, hn0⟩ := id C
  have hRm : R = rm := hRm
  subst hRm
  subst hst
  have he := wsX_at (X := X) hk
  rw [ceX_obj hs] at he
  refine va_callX (va_runV (As := As.map (czV w)) (rest := rest.map (czV w)) ⟨hx, hb, hml, hown, hts⟩ (M l) ⟨hw.B hts hR, hts _ hi, hts _ hse⟩ ⟨blind_X, va_recv hF.K0 hP hcl he, fun U hU hW => ⟨by simp [czV], by rw [hU]; exact hP, hF.warm hW⟩⟩ rfl (by rw [List.length_map]; exact hn) hl.1 (by simp [czV, List.map_reverse]) (lv_room (by rw [cat_cz]; exact hsum)) hd ⟨hk0, hn0⟩) hS hA hA (fun r X' H1 locs1 hp hP1 _ _ hS1 => ?_)
  have h := kk r X' hp H1 locs1 ls hP1 hS1 hl
  have e1 : (r.toList ++ rest).map (czV w) = (r.map (czV w)).toList ++ rest.map (czV w) := by cases r <;> rfl
  rw [e1] at h
  exact h
theorem x_callS (C : CX E w cc nL own ret rm) {y : MethodName} {b : ByteArray} {mL n idx fr lo : Nat} {rt : Option FieldType} {As rest : List Value} {post : Option Value → XT → Prop} (M : MetX w y b mL rt fr lo As X post) (hw : CKB own idx y b mL rt n) (hi : Cond.static y ∈ lw_g)
    (hst : st = As.reverse ++ rest) (hn : As.length = n) (hsum : (rest.map fun v => v.category).sum ≤ 8) (hR : fr + 1 ≤ rm.frames ∧ 8 + (mL + 11) + lo ≤ rm.locals) (hd : decode cc pc = .ok (.invokestatic idx, 3)) (kk : ∀ (r : Option Value) (X' : XT), post r X' → Wx E w nL (PX w X') (pc + 3) lv (r.toList ++ rest)) : Wx E w nL (PX w X) pc lv st := by
  obtain ⟨p, l, e, R, s, m, args, below, meth, c, A0, k0, n0, QQ⟩ := E
  intro H locs ls hP hS hl
  obtain ⟨hx, hb, hml, hown, hts, hF, hret, hlk, hRm, hA, hk0, hn0⟩ := id C
  have hRm : R = rm := hRm
  subst hRm
  subst hst
  refine va_callX (va_runS (As := As.map (czV w)) (rest := rest.map (czV w)) ⟨hx, hb, hml, hown, hts⟩ (M l) ⟨hw.B hts hR, hts _ hi⟩ ⟨blind_X, fun U hU hW => ⟨rfl, by rw [hU]; exact hP, hF.warm hW⟩⟩ rfl (by rw [List.length_map]; exact hn) hl.1 (by simp [List.map_reverse]) (lv_room (by rw [cat_cz]; exact hsum)) hd ⟨hk0, hn0⟩) hS hA hA (fun r X' H1 locs1 hp hP1 _ _ hS1 => ?_)
  have h := kk r X' hp H1 locs1 ls hP1 hS1 hl
  have e1 : (r.toList ++ rest).map (czV w) = (r.map (czV w)).toList ++ rest.map (czV w) := by cases r <;> rfl
  rw [e1] at h
  exact h
end XD
