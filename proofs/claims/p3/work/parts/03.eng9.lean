/-! ===== ENGINE 12: new T[4][n]; the block 'new T[n][m]' is TURN's own (head of NAMES.whole.lean.txt); it asks for va_AOA, which is laid here ===== -/
def va_AOA (t : FieldType) (U : State) : Prop := (Cond.arrayOver (.array t)).before #[] U = true
theorem va_AOA.use {t : FieldType} {A : Array Value} {U : State} (h : va_AOA t U) : (Cond.arrayOver (.array t)).before A U = true := h
/-! ===== BEGIN new T[n][m]: the outer array a place, the inner ones among the pooled ===== -/
/-- f, but v at every address of l -/
def vr_up {α : Type} (f : Nat → α) (l : List Nat) (v : α) : Nat → α := fun a => if a ∈ l then v else f a
theorem vr_up_in {α : Type} {f : Nat → α} {l : List Nat} {v : α} {a : Nat} (h : a ∈ l) : vr_up f l v a = v := if_pos h
theorem vr_up_ne {α : Type} {f : Nat → α} {l : List Nat} {v : α} {a : Nat} (h : a ∉ l) : vr_up f l v a = f a := if_neg h
theorem vr_rows {L l : List Nat} {f : Nat → va_E} {e : va_E} (h : ∀ a, a ∈ l → a ∉ L) : va_pl L f ++ l.map (fun a => (a, e)) = va_pl (L ++ l) (vr_up f l e) := by
  unfold va_pl
  rw [List.map_append]
  congr 1
  · apply List.map_congr_left
    intro a ha
    rw [vr_up_ne (fun q => h a q ha)]
  · apply List.map_congr_left
    intro a ha
    rw [vr_up_in ha]
theorem vr_lay {X rows : va_W} {x : Nat × va_E} {pl : va_W} {D : va_G} {cl : List vw_C} {H : Heap} (hP : va_P D cl (((X ++ pl) ++ [x]) ++ rows) H) : va_P D cl ((X ++ [x]) ++ (pl ++ rows)) H := by
  rw [List.append_assoc (X ++ pl)] at hP
  have h := va_P.swap hP
  rw [← List.append_assoc X] at h
  have h2 := va_P.swap h
  rw [List.append_assoc (X ++ [x])] at h2
  exact h2
theorem vr_layD {X rows : va_W} {x : Nat × va_E} {pl : va_W} {A : Nat → Prop} (hD : va_D A (((X ++ pl) ++ [x]) ++ rows)) : va_D A ((X ++ [x]) ++ (pl ++ rows)) := by
  rw [List.append_assoc (X ++ pl)] at hD
  have h := va_D.swap hD
  rw [← List.append_assoc X] at h
  have h2 := va_D.swap h
  rw [List.append_assoc (X ++ [x])] at h2
  exact h2
theorem vr_outer (c : ClassId) (N h0 : Nat) : ∀ i : Nat, Jvm.Free.Multi.outerC c N h0 i = arrV c N (fun j => va_rf (if j < i then some (h0 + 1 + j) else none))
  | 0 => by
    show ({ cls := c, slots := Array.replicate N .null, vm := .none } : Cell) = _
    rw [arrV_new]
    refine congrArg (arrV c N) (funext fun j => ?_)
    simp [va_rf]
  | i + 1 => by
    show (Jvm.Free.Multi.outerC c N h0 i).setSlot i (.ref (h0 + 1 + i)) = _
    rw [vr_outer c N h0 i, arrV_store]
    refine congrArg (arrV c N) (funext fun j => ?_)
    by_cases e : j = i
    · subst e
      simp [updV, va_rf]
    · by_cases h : j < i
      · simp [updV, e, h, Nat.lt_succ_of_lt h]
      · simp [updV, e, h, show ¬ j < i + 1 by omega]
section VGM
variable {p : Program} {l : Launch} {e : Env} {R : Room} {s : State} {m : MethodId} {args : Array Value} {below : List Frame} {meth : Method} {c : Code} {H : Heap} {locs : List Loc} {cells slots : Nat} {Q : State → Prop}
variable {cc : ByteArray} {pc : Nat} {ls : Array Slot} {rest : List Value} {D : va_G} {cl : List vw_C} {A : Nat → Prop} {a : Nat} {tys : List (ClassId × FieldType)} {ws : va_W} {H0 : Heap}
theorem va_mna {X : va_W} {L : List Nat} {f : Nat → va_E} {cc : ByteArray} (hexec : p.tables.exec = Jvm.exec) (hb : c.code = cc) {own : String} {index : Nat} {ty : FieldType} {cy : ClassId} (hown : s.vm.findClass own = some m.cls) (hclink : (Cond.classLink own index ("[" ++ (FieldType.array ty).toString)).before args s = true) (hover : va_AOA ty s) (harr : (Cond.arrayClass ty).before args s = true) (hcy : s.vm.findClass (FieldType.array ty).toString = some cy)
    (hK : va_K D cl tys s) (hP : va_P D cl (X ++ va_pl L f) H) (hD : va_D A (X ++ va_pl L f)) (hS : va_S A H0 H locs) (hA : ∀ q, H0.size ≤ q → A q) {n k : Int32} {N' K' : Nat} {z : vp_A} (hn : ¬ n < 0) (hk : ¬ k < 0) (hN : n.toNatClampNeg = N') (hM : k.toNatClampNeg = K')
    (hb1 : N' * 4 ≤ 536870912) (hb2 : K' * componentBytes ty ≤ 536870912) (hb3 : K' ≤ 536870912) (hdf : fits ty (defaultValue ty) = true) (hdd : (defaultValue ty).isDefault = true) (hcells : cells + (1 + N') ≤ R.cells) (hslots : slots + (N' + N' * K') ≤ R.slots) (hz : ∀ c : ClassId, Jvm.Free.Multi.innerC c K' (defaultValue ty) = vp_cell c z) (hdg : decode cc pc = .ok (.multianewarray index 2, 4))
    (kk : ∀ (q : Nat) (r : Nat → Nat) (cA : ClassId) (H1 : Heap), (∀ i j : Nat, i < N' → j < N' → r i = r j → i = j) → (∀ i : Nat, i < N' → r i ∉ L) → va_K D cl (tys ++ [(cA, .array ty)]) s →
      va_P D cl ((X ++ [(q, .inl (cA, N', .inr (.inr (.inr (.inr (fun i => if i < N' then some (r i) else none))))))]) ++ va_pl (L ++ (List.range N').map r) (vr_up f ((List.range N').map r) (.inl (cy, z)))) H1 → va_D A ((X ++ [(q, .inl (cA, N', .inr (.inr (.inr (.inr (fun i => if i < N' then some (r i) else none))))))]) ++ va_pl (L ++ (List.range N').map r) (vr_up f ((List.range N').map r) (.inl (cy, z)))) → va_S A H0 H1 locs →
      W p l e R s m args below meth c H1 locs (cells + 1 + N') (slots + N' + N' * K') Q (F0 m (pc + 4) ls (.ref q :: rest))) : W p l e R s m args below meth c H locs cells slots Q (F0 m pc ls (.int k :: .int n :: rest)) := by
  subst hN
  subst hM
  intro T hT Xs
  obtain ⟨vm₁, cA, comp, -, fA, fC, hO, -, X', step⟩ := Xs.multianewarray2F hexec hown hclink (va_AOA.use hover) harr (g := F0 m pc ls (.int k :: .int n :: rest)) rfl (by rw [hb]; exact hdg) rfl hn hk hb1 hb2 hb3 hdf hdd hcells hslots
  have ec : some cy = some comp := hcy.symm.trans fC
  cases ec
  generalize hF : Jvm.Free.Multi.fill (T.setVm vm₁) cA cy n.toNatClampNeg k.toNatClampNeg (defaultValue ty) n.toNatClampNeg = F at X' step
  have hTh : (T.setVm vm₁).heap = H := hT
  obtain ⟨f1, f2, -, -⟩ := Jvm.Free.Multi.fill_facts (T.setVm vm₁) cA cy n.toNatClampNeg k.toNatClampNeg (defaultValue ty) n.toNatClampNeg
  rw [hF, hTh] at f1 f2
  have hold : ∀ x : Nat, x < H.size → F.heap[x]? = H[x]? := fun x hx => by
    have := Jvm.Free.Multi.fill_old (T.setVm vm₁) cA cy n.toNatClampNeg k.toNatClampNeg (defaultValue ty) (a := x) (by rw [hTh]; exact hx) n.toNatClampNeg
    rw [hF, hTh] at this
    exact this
  have hrow : ∀ j : Nat, j < n.toNatClampNeg → F.heap[H.size + 1 + j]? = some (vp_cell cy z) := fun j hj => by
    have := Jvm.Free.Multi.fill_inner (T.setVm vm₁) cA cy n.toNatClampNeg k.toNatClampNeg (defaultValue ty) n.toNatClampNeg j hj
    rw [hF, hTh, hz] at this
    exact this
  have hout : Jvm.Free.Multi.outerC cA n.toNatClampNeg H.size n.toNatClampNeg = vp_cell cA (n.toNatClampNeg, .inr (.inr (.inr (.inr (fun i => if i < n.toNatClampNeg then some (H.size + 1 + i) else none))))) := by
    rw [vp_cell_q]
    exact vr_outer cA n.toNatClampNeg H.size n.toNatClampNeg
  rw [hout] at f2
  have hlt : ∀ a, a ∈ L → a < H.size := fun a ha => by
    obtain ⟨k9, hk9⟩ := va_pl_get (X := X) (f := f) ha
    exact (hP k9 _ hk9).lt
  have hnl : ∀ i : Nat, i < n.toNatClampNeg → H.size + 1 + i ∉ L := fun i _ h => by
    have := hlt _ h
    omega
  have hnm : ∀ a, a ∈ (List.range n.toNatClampNeg).map (fun i => H.size + 1 + i) → a ∉ L := fun a ha h => by
    obtain ⟨i, -, rfl⟩ := List.mem_map.mp ha
    have := hlt _ h
    omega
  have hP0 : va_P D cl (X ++ va_pl L f) F.heap := hP.kept (fun k9 x hx => hold x.1 ((hP k9 x hx).lt))
  have hP1 : va_P D cl ((X ++ va_pl L f) ++ [(H.size, .inl (cA, n.toNatClampNeg, .inr (.inr (.inr (.inr (fun i => if i < n.toNatClampNeg then some (H.size + 1 + i) else none))))))]) F.heap := hP0.app (fun k9 x hx => by
    have h0 : k9 < 1 := (List.getElem?_eq_some_iff.mp hx).1
    rw [show k9 = 0 by omega] at hx
    cases hx
    exact f2)
  have hP2 : va_P D cl (((X ++ va_pl L f) ++ [(H.size, .inl (cA, n.toNatClampNeg, .inr (.inr (.inr (.inr (fun i => if i < n.toNatClampNeg then some (H.size + 1 + i) else none))))))]) ++ ((List.range n.toNatClampNeg).map (fun i => H.size + 1 + i)).map (fun a => (a, .inl (cy, z)))) F.heap := hP1.app (fun k9 x hx => by
    obtain ⟨a, ha, rfl⟩ := List.mem_map.mp (List.mem_of_getElem? hx)
    obtain ⟨i, hi, rfl⟩ := List.mem_map.mp ha
    exact hrow i (List.mem_range.mp hi))
  have hD2 : va_D A (((X ++ va_pl L f) ++ [(H.size, .inl (cA, n.toNatClampNeg, .inr (.inr (.inr (.inr (fun i => if i < n.toNatClampNeg then some (H.size + 1 + i) else none))))))]) ++ ((List.range n.toNatClampNeg).map (fun i => H.size + 1 + i)).map (fun a => (a, .inl (cy, z)))) := by
    have hD1 := hD.push (e := .inl (cA, n.toNatClampNeg, .inr (.inr (.inr (.inr (fun i => if i < n.toNatClampNeg then some (H.size + 1 + i) else none)))))) hP rfl (hA _ hS.1)
    generalize hW1 : (X ++ va_pl L f) ++ [(H.size, .inl (cA, n.toNatClampNeg, .inr (.inr (.inr (.inr (fun i => if i < n.toNatClampNeg then some (H.size + 1 + i) else none))))))] = W1 at hD1 hP1 ⊢
    have hle : ∀ (k9 : Nat) (x : Nat × va_E), W1[k9]? = some x → x.1 ≤ H.size := fun k9 x hx => by
      rw [← hW1] at hx
      by_cases hl : k9 < (X ++ va_pl L f).length
      · rw [List.getElem?_append_left hl] at hx
        exact Nat.le_of_lt ((hP k9 x hx).lt)
      · rw [List.getElem?_append_right (by omega)] at hx
        have h0 : k9 - (X ++ va_pl L f).length < 1 := (List.getElem?_eq_some_iff.mp hx).1
        rw [show k9 - (X ++ va_pl L f).length = 0 by omega] at hx
        cases hx
        exact Nat.le_refl _
    have hr : ∀ (k9 : Nat) (x : Nat × va_E), (((List.range n.toNatClampNeg).map (fun i => H.size + 1 + i)).map (fun a => ((a, .inl (cy, z)) : Nat × va_E)))[k9]? = some x → x.1 = H.size + 1 + k9 := fun k9 x hx => by
      rw [List.getElem?_map, List.getElem?_map] at hx
      by_cases h9 : k9 < n.toNatClampNeg
      · rw [List.getElem?_range h9] at hx
        cases hx
        rfl
      · have hn0 : (List.range n.toNatClampNeg)[k9]? = none := List.getElem?_eq_none (by rw [List.length_range]; omega)
        rw [hn0] at hx
        cases hx
    refine ⟨fun i j x y hi hj hxy => ?_, fun k9 x hx => ?_⟩
    · by_cases h1 : i < W1.length <;> by_cases h2 : j < W1.length
      · rw [List.getElem?_append_left h1] at hi
        rw [List.getElem?_append_left h2] at hj
        exact hD1.1 i j x y hi hj hxy
      · rw [List.getElem?_append_left h1] at hi
        rw [List.getElem?_append_right (by omega)] at hj
        have := hle _ _ hi
        have := hr _ _ hj
        omega
      · rw [List.getElem?_append_right (by omega)] at hi
        rw [List.getElem?_append_left h2] at hj
        have := hle _ _ hj
        have := hr _ _ hi
        omega
      · rw [List.getElem?_append_right (by omega)] at hi hj
        have := hr _ _ hi
        have := hr _ _ hj
        omega
    · by_cases h1 : k9 < W1.length
      · rw [List.getElem?_append_left h1] at hx
        exact hD1.2 k9 x hx
      · rw [List.getElem?_append_right (by omega)] at hx
        have := hr _ _ hx
        exact hA _ (by have := hS.1; omega)
  have hAr : ArrOfT s cA (.array ty) := fun N9 z9 => by
    obtain ⟨-, k9, hk9, cm9, hkk9⟩ := (hO 0 0 0).1
    exact ⟨(fun q hq => by cases hq), k9, hk9, cm9, hkk9⟩
  have hK2 : va_K D cl (tys ++ [(cA, .array ty)]) s := ⟨hK.1, fun k9 x hx => by
    by_cases hl : k9 < tys.length
    · rw [List.getElem?_append_left hl] at hx
      exact hK.2 k9 x hx
    · rw [List.getElem?_append_right (by omega)] at hx
      have h0 : k9 - tys.length < 1 := (List.getElem?_eq_some_iff.mp hx).1
      rw [show k9 - tys.length = 0 by omega] at hx
      cases hx
      exact ⟨hAr, fA⟩⟩
  obtain ⟨t, a1, b1⟩ := kk H.size (fun i => H.size + 1 + i) cA F.heap (fun i j _ _ h => by have h9 : H.size + 1 + i = H.size + 1 + j := h; omega) hnl hK2 (by rw [← vr_rows hnm]; exact vr_lay hP2) (by rw [← vr_rows hnm]; exact vr_layD hD2) ⟨by rw [f1]; have := hS.1; omega, fun x h1 h2 => (hold x (Nat.lt_of_lt_of_le h1 hS.1)).trans (hS.2.1 x h1 h2), hS.2.2⟩ F rfl X'
  refine ⟨t, step t ?_, b1⟩
  have e : T.heap.size = H.size := by rw [hT]
  rw [e]
  exact a1
end VGM
/-! ===== END ===== -/
section XM
variable {E : ET} {w : WT} {nL : Nat} {X : XT} {pc : Nat} {lv : List (Nat × Value)} {st : List Value} {cc : ByteArray} {own : String} {ret : Option FieldType} {rm : Room}
theorem PX_push' {w : WT} {X : XT} {q : Nat} {c : ClassId} {e : va_E} {H1 : Heap} (hP : va_P (wD w) (wC w) (wsX w X ++ [(q, e)]) H1) (hb : rbX w X = true) (he : ceX (wup w q c) X (wN w) = e) : wsX (wup w q c) X = wsX w X ++ [(q, e)] := by
  show (List.range (wN w + 1)).map (fun k => (wA (wup w q c) k, ceX (wup w q c) X k)) = _
  rw [List.range_succ, List.map_append]
  congr 1
  · exact List.map_congr_left (fun k hk => by
      have hk := List.mem_range.mp hk
      rw [ceX_up hk hb (fun _ => rfl) (fun _ => rfl) (fun _ => rfl)]
      show (cond (Nat.beq k (wN w)) q (wA w k), _) = _
      rw [beq_ne (Nat.ne_of_lt hk)]; rfl)
  · show [(cond (Nat.beq (wN w) (wN w)) q (wA w (wN w)), ceX (wup w q c) X (wN w))] = _
    rw [beq_self, he]; rfl
/-- new T[4][k], T int (kd 1) or long (kd 2): the inner arrays come first by their numbers, then the outer one -/
theorem x_mna (C : CX E w cc nL own ret rm) (hG : GA E) {idx kd q1 kk0 j0 qj nj a b : Nat} {ty : FieldType} {z : vp_A} (h1 : Cond.classLink own idx ("[" ++ (FieldType.array ty).toString) ∈ lw_g) (h2 : ty ∈ lw_oa) (h3 : Cond.arrayClass ty ∈ lw_g) (hj : j0 < wN w) (hsj : wS w j0 = (kd, qj, nj)) (hkd : kd ≠ 0) (htj : wT w j0 = ty) (hnm : ∀ c : ClassId, va_RA (match E with | (_, _, _, _, s, _, _, _, _, _, _, _, _, _) => s) c ty → (match E with | (_, _, _, _, s, _, _, _, _, _, _, _, _, _) => s).vm.findClass (FieldType.array ty).toString = some c)
    (hz : ∀ c : ClassId, Jvm.Free.Multi.innerC c kk0 (defaultValue ty) = vp_cell c z) (hdf : fits ty (defaultValue ty) = true) (hdd : (defaultValue ty).isDefault = true) (hk31 : kk0 ≤ 2147483647) (hb2 : kk0 * componentBytes ty ≤ 536870912) (hb3 : kk0 ≤ 536870912)
    (hs0 : wS w (wN w) = (kd, q1, kk0) ∧ wS w (wN w + 1) = (kd, q1, kk0) ∧ wS w (wN w + 2) = (kd, q1, kk0) ∧ wS w (wN w + 3) = (kd, q1, kk0) ∧ wS w (wN w + 4) = (3, q1, 4)) (ht0 : wT w (wN w) = ty ∧ wT w (wN w + 1) = ty ∧ wT w (wN w + 2) = ty ∧ wT w (wN w + 3) = ty ∧ wT w (wN w + 4) = .array ty)
    (hce : ∀ (i : Nat) (c : ClassId) (fs : List Value), i < 4 → ceK kd q1 kk0 c fs (fun j => iI (X.1 (wN w + i) j)) (fun j => X.2.1 (wN w + i) j) (fun _ => none) = .inl (c, z) ∧ ∀ fr, ceK kd q1 kk0 c fs (fun j => iI (X.1 (wN w + i) j)) (fun j => X.2.1 (wN w + i) j) fr = .inl (c, z)) (hrf : ∀ i, i < 4 → X.2.2 (wN w + 4) i = some (wN w + i))
    (hb : ∀ m, m ≤ 4 → rbS (wN w + m) (wS w) X = true) (hlv : lv.all (fun x => rokV (wN w) x.2) = true) (hst : st.all (rokV (wN w)) = true) (ha : eK E + 1 + 4 = a) (hbb : eN E + 4 + 4 * kk0 = b) (hra : a ≤ rm.cells) (hrb : b ≤ rm.slots) (hd : decode cc pc = .ok (.multianewarray idx 2, 4))
    (kk : ∀ (q r0 r1 r2 r3 : Nat) (cA cy : ClassId), CX (Ek E a b) (wup (wup (wup (wup (wup w r0 cy) r1 cy) r2 cy) r3 cy) q cA) cc nL own ret rm → Wx (Ek E a b) (wup (wup (wup (wup (wup w r0 cy) r1 cy) r2 cy) r3 cy) q cA) nL (PX (wup (wup (wup (wup (wup w r0 cy) r1 cy) r2 cy) r3 cy) q cA) X) (pc + 4) lv (.ref (wN w + 4) :: st)) : Wx E w nL (PX w X) pc lv (.int (iI (kk0 : Int)) :: .int (iI 4) :: st) := by
  obtain ⟨p, l, e_1, R, s, m, args, below, meth, c, A0, k0, n0, QQ⟩ := E
  intro H locs ls hP hS hl
  obtain ⟨hx, hbc, hml, hown, hts, hF, hret, hlk, hRm, hA, hk0, hn0⟩ := id C
  have hRm : R = rm := hRm
  subst hRm
  have ha : k0 + 1 + 4 = a := ha
  have hbb : n0 + 4 + 4 * kk0 = b := hbb
  subst ha
  subst hbb
  have rk : inR (kk0 : Int) := ⟨by omega, by omega⟩
  have hcy := hF.2.1 j0 hj (by rw [hsj]; exact hkd)
  rw [htj] at hcy
  have hD0 := hF.DA hA X
  have hP0 : va_P (wD w) (wC w) (wsX w X ++ va_pl [] (fun _ => .inr (0, []))) H := by
    show va_P _ _ (wsX w X ++ []) H
    rw [List.append_nil]; exact hP
  have hD00 : va_D A0 (wsX w X ++ va_pl [] (fun _ => .inr (0, []))) := by
    show va_D A0 (wsX w X ++ [])
    rw [List.append_nil]; exact hD0
  refine va_mna (N' := 4) (K' := kk0) (cy := wY w j0) hx hbc hown (hts _ h1) (hF.2.2.2.2.2 _ h2) (hts _ h3) (hnm _ hcy.2) hF.K0 hP0 hD00 hS hG (nn_iI (by omega) (by omega)) (nn_iI (by omega) (by omega)) rfl (by rw [iI_nat rk]; rfl) (by decide) hb2 hb3 hdf hdd (by omega) (by omega) hz hd (fun q r cA H1 hinj _ qK q1P q2D q3S => ?_)
  have hq5 : ∀ v : Nat, Nat.beq v v = true := beq_self
  generalize he : (Sum.inl (wY w j0, z) : va_E) = e at q1P q2D
  generalize heo : (Sum.inl (cA, 4, .inr (.inr (.inr (.inr (fun i => if i < 4 then some (r i) else none))))) : va_E) = eo at q1P q2D
  have e1 : ∀ f0 : Nat → va_E, va_pl ([] ++ (List.range 4).map r) (vr_up f0 ((List.range 4).map r) e) = [(r 0, e), (r 1, e), (r 2, e), (r 3, e)] := by
    intro f0
    have m : ∀ i, i < 4 → vr_up f0 ((List.range 4).map r) e (r i) = e := fun i hi => vr_up_in (List.mem_map.mpr ⟨i, List.mem_range.mpr hi, rfl⟩)
    show [(r 0, vr_up f0 _ e (r 0)), (r 1, vr_up f0 _ e (r 1)), (r 2, vr_up f0 _ e (r 2)), (r 3, vr_up f0 _ e (r 3))] = _
    rw [m 0 (by decide), m 1 (by decide), m 2 (by decide), m 3 (by decide)]
  rw [e1] at q1P q2D
  -- the addresses are apart
  have g1 : ∀ k, k < wN w → ((wsX w X ++ [(q, eo)]) ++ [(r 0, e), (r 1, e), (r 2, e), (r 3, e)])[k]? = some (wA w k, ceX w X k) := fun k hk => by
    rw [List.getElem?_append_left (by rw [List.length_append, wsX_len]; exact Nat.lt_of_lt_of_le hk (Nat.le_add_right _ _)), List.getElem?_append_left (by rw [wsX_len]; exact hk)]
    exact wsX_at hk
  have g2 : ((wsX w X ++ [(q, eo)]) ++ [(r 0, e), (r 1, e), (r 2, e), (r 3, e)])[wN w]? = some (q, eo) := by
    rw [List.getElem?_append_left (by rw [List.length_append, wsX_len]; exact Nat.lt_succ_self _), List.getElem?_append_right (by rw [wsX_len]; exact Nat.le_refl _), wsX_len, Nat.sub_self]; rfl
  have g3 : ∀ i, i < 4 → ((wsX w X ++ [(q, eo)]) ++ [(r 0, e), (r 1, e), (r 2, e), (r 3, e)])[wN w + 1 + i]? = some (r i, e) := fun i hi => by
    rw [List.getElem?_append_right (by rw [List.length_append, wsX_len]; exact Nat.le_add_right _ _), List.length_append, wsX_len]
    have : wN w + 1 + i - (wN w + [(q, eo)].length) = i := by show wN w + 1 + i - (wN w + 1) = i; omega
    rw [this]
    match i, hi with
    | 0, _ => rfl
    | 1, _ => rfl
    | 2, _ => rfl
    | 3, _ => rfl
  have d1 : ∀ i, i < 4 → ∀ k, k < wN w → wA w k ≠ r i := fun i hi k hk h => by
    have := q2D.1 k (wN w + 1 + i) _ _ (g1 k hk) (g3 i hi) h; omega
  have d2 : ∀ k, k < wN w → wA w k ≠ q := fun k hk h => by
    have := q2D.1 k (wN w) _ _ (g1 k hk) g2 h; omega
  have d3 : ∀ i, i < 4 → r i ≠ q := fun i hi h => by
    have := q2D.1 (wN w + 1 + i) (wN w) _ _ (g3 i hi) g2 h; omega
  have a1 : ∀ i, i < 4 → A0 (r i) := fun i hi => q2D.2 _ _ (g3 i hi)
  have a2 : A0 q := q2D.2 _ _ g2
  -- the worlds
  generalize hcyv : wY w j0 = cy at *
  have up1 : ∀ (v : WT) (x : Nat) (c : ClassId) (k : Nat), k < wN v → wA (wup v x c) k = wA v k := fun v x c k hk => by
    show cond (Nat.beq k (wN v)) x (wA v k) = _
    rw [beq_ne (Nat.ne_of_lt hk)]; rfl
  have up2 : ∀ (v : WT) (x : Nat) (c : ClassId), wA (wup v x c) (wN v) = x := fun v x c => by
    show cond (Nat.beq (wN v) (wN v)) x _ = _
    rw [beq_self]; rfl
  have up3 : ∀ (v : WT) (x : Nat) (c : ClassId), wY (wup v x c) (wN v) = c := fun v x c => by
    show cond (Nat.beq (wN v) (wN v)) c _ = _
    rw [beq_self]; rfl
  have push : ∀ (v : WT) (x : Nat) (c : ClassId), FxW v s → (∀ k, k < wN v → wA v k ≠ x) → ((wS v (wN v)).1 ≠ 0 → ArrOfT s c (wT v (wN v)) ∧ va_RA s c (wT v (wN v))) → FxW (wup v x c) s := by
    intro v x c hv hx hn
    refine ⟨hv.1, fun k hk hs => ?_, fun i j hi hj hij => ?_, hv.2.2.2⟩
    · have hk : k < wN v + 1 := hk
      by_cases h : k = wN v
      · subst h
        rw [up3]
        exact hn hs
      · have : wY (wup v x c) k = wY v k := by
          show cond (Nat.beq k (wN v)) c (wY v k) = _
          rw [beq_ne h]; rfl
        rw [this]
        exact hv.2.1 k (by omega) hs
    · have hi : i < wN v + 1 := hi
      have hj : j < wN v + 1 := hj
      by_cases h1 : i = wN v <;> by_cases h2 : j = wN v
      · omega
      · rw [h1, up2, up1 v x c j (by omega)] at hij
        exact absurd hij.symm (hx j (by omega))
      · rw [h2, up2, up1 v x c i (by omega)] at hij
        exact absurd hij (hx i (by omega))
      · rw [up1 v x c i (by omega), up1 v x c j (by omega)] at hij
        exact hv.2.2.1 i j (by omega) (by omega) hij
  have hAo := qK.2 0 (cA, .array ty) rfl
  obtain ⟨s0, s1, s2, s3, s4⟩ := hs0
  obtain ⟨t0, t1, t2, t3, t4⟩ := ht0
  have F1 : FxW (wup w (r 0) cy) s := push w _ _ hF (d1 0 (by decide)) (fun _ => by rw [t0]; exact hcy)
  have n1 : ∀ k, k < wN (wup w (r 0) cy) → wA (wup w (r 0) cy) k ≠ r 1 := fun k hk => by
    have hk : k < wN w + 1 := hk
    by_cases h : k = wN w
    · rw [h, up2]; exact fun h => absurd (hinj 0 1 (by decide) (by decide) h) (by decide)
    · rw [up1 _ _ _ k (by omega)]; exact d1 1 (by decide) k (by omega)
  have F2 : FxW (wup (wup w (r 0) cy) (r 1) cy) s := push _ _ _ F1 n1 (fun _ => by show ArrOfT s cy (wT w (wN w + 1)) ∧ va_RA s cy (wT w (wN w + 1)); rw [t1]; exact hcy)
  have n2 : ∀ x, (∀ k, k < wN w → wA w k ≠ x) → r 0 ≠ x → r 1 ≠ x → ∀ k, k < wN (wup (wup w (r 0) cy) (r 1) cy) → wA (wup (wup w (r 0) cy) (r 1) cy) k ≠ x := fun x hx h0 h1 k hk => by
    have hk : k < wN w + 1 + 1 := hk
    by_cases h : k = wN w + 1
    · subst h; rw [show wA (wup (wup w (r 0) cy) (r 1) cy) (wN w + 1) = r 1 from up2 (wup w (r 0) cy) _ _]; exact h1
    · rw [up1 (wup w (r 0) cy) _ _ k (by show k < wN w + 1; omega)]
      by_cases h' : k = wN w
      · rw [h', up2]; exact h0
      · rw [up1 _ _ _ k (by omega)]; exact hx k (by omega)
  have F3 : FxW (wup (wup (wup w (r 0) cy) (r 1) cy) (r 2) cy) s := push _ _ _ F2 (n2 _ (d1 2 (by decide)) (fun h => absurd (hinj 0 2 (by decide) (by decide) h) (by decide)) (fun h => absurd (hinj 1 2 (by decide) (by decide) h) (by decide))) (fun _ => by show ArrOfT s cy (wT w (wN w + 2)) ∧ va_RA s cy (wT w (wN w + 2)); rw [t2]; exact hcy)
  have n3 : ∀ x, (∀ k, k < wN w → wA w k ≠ x) → r 0 ≠ x → r 1 ≠ x → r 2 ≠ x → ∀ k, k < wN (wup (wup (wup w (r 0) cy) (r 1) cy) (r 2) cy) → wA (wup (wup (wup w (r 0) cy) (r 1) cy) (r 2) cy) k ≠ x := fun x hx h0 h1 h2 k hk => by
    have hk : k < wN w + 2 + 1 := hk
    by_cases h : k = wN w + 2
    · subst h; rw [show wA (wup (wup (wup w (r 0) cy) (r 1) cy) (r 2) cy) (wN w + 2) = r 2 from up2 (wup (wup w (r 0) cy) (r 1) cy) _ _]; exact h2
    · rw [up1 (wup (wup w (r 0) cy) (r 1) cy) _ _ k (by show k < wN w + 2; omega)]
      exact n2 x hx h0 h1 k (by show k < wN w + 2; omega)
  have F4 : FxW (wup (wup (wup (wup w (r 0) cy) (r 1) cy) (r 2) cy) (r 3) cy) s := push _ _ _ F3 (n3 _ (d1 3 (by decide)) (fun h => absurd (hinj 0 3 (by decide) (by decide) h) (by decide)) (fun h => absurd (hinj 1 3 (by decide) (by decide) h) (by decide)) (fun h => absurd (hinj 2 3 (by decide) (by decide) h) (by decide))) (fun _ => by show ArrOfT s cy (wT w (wN w + 3)) ∧ va_RA s cy (wT w (wN w + 3)); rw [t3]; exact hcy)
  have n4 : ∀ k, k < wN (wup (wup (wup (wup w (r 0) cy) (r 1) cy) (r 2) cy) (r 3) cy) → wA (wup (wup (wup (wup w (r 0) cy) (r 1) cy) (r 2) cy) (r 3) cy) k ≠ q := fun k hk => by
    have hk : k < wN w + 3 + 1 := hk
    by_cases h : k = wN w + 3
    · subst h; rw [show wA (wup (wup (wup (wup w (r 0) cy) (r 1) cy) (r 2) cy) (r 3) cy) (wN w + 3) = r 3 from up2 (wup (wup (wup w (r 0) cy) (r 1) cy) (r 2) cy) _ _]; exact d3 3 (by decide)
    · rw [up1 (wup (wup (wup w (r 0) cy) (r 1) cy) (r 2) cy) _ _ k (by show k < wN w + 3; omega)]
      exact n3 q d2 (d3 0 (by decide)) (d3 1 (by decide)) (d3 2 (by decide)) k (by show k < wN w + 3; omega)
  have F5 : FxW (wup (wup (wup (wup (wup w (r 0) cy) (r 1) cy) (r 2) cy) (r 3) cy) q cA) s := push _ _ _ F4 n4 (fun _ => by show ArrOfT s cA (wT w (wN w + 4)) ∧ va_RA s cA (wT w (wN w + 4)); rw [t4]; exact hAo)
  -- contents
  have cin : ∀ (v : WT) (i : Nat), i < 4 → wN v = wN w + i → wS v = wS w → wS w (wN w + i) = (kd, q1, kk0) → ceX (wup v (r i) cy) X (wN v) = e := by
    intro v i hi hv hsv hsi
    have hw1 : wS (wup v (r i) cy) (wN v) = (kd, q1, kk0) := by show wS v (wN v) = _; rw [hsv, hv, hsi]
    unfold ceX
    rw [hw1, up3, hv, ← he]
    exact (hce i cy _ hi).2 _
  have L1 : wsX (wup w (r 0) cy) X = wsX w X ++ [(r 0, e)] := by
    show (List.range (wN w + 1)).map (fun k => (wA (wup w (r 0) cy) k, ceX (wup w (r 0) cy) X k)) = _
    rw [List.range_succ, List.map_append]
    congr 1
    · exact List.map_congr_left (fun k hk => by
        have hk := List.mem_range.mp hk
        rw [ceX_up hk (hb 0 (by decide)) (fun _ => rfl) (fun _ => rfl) (fun _ => rfl), up1 _ _ _ k hk])
    · show [(wA (wup w (r 0) cy) (wN w), ceX (wup w (r 0) cy) X (wN w))] = _
      rw [up2, cin w 0 (by decide) rfl rfl s0]
  have Lst : ∀ (v : WT) (x : Nat) (c : ClassId) (e' : va_E), rbX v X = true → ceX (wup v x c) X (wN v) = e' → wsX (wup v x c) X = wsX v X ++ [(x, e')] := by
    intro v x c e' hbv hev
    show (List.range (wN v + 1)).map (fun k => (wA (wup v x c) k, ceX (wup v x c) X k)) = _
    rw [List.range_succ, List.map_append]
    congr 1
    · exact List.map_congr_left (fun k hk => by
        have hk := List.mem_range.mp hk
        rw [ceX_up hk hbv (fun _ => rfl) (fun _ => rfl) (fun _ => rfl), up1 _ _ _ k hk])
    · show [(wA (wup v x c) (wN v), ceX (wup v x c) X (wN v))] = _
      rw [up2, hev]
  have L2 := Lst (wup w (r 0) cy) (r 1) cy e (hb 1 (by decide)) (cin _ 1 (by decide) rfl rfl s1)
  have L3 := Lst (wup (wup w (r 0) cy) (r 1) cy) (r 2) cy e (hb 2 (by decide)) (cin _ 2 (by decide) rfl rfl s2)
  have L4 := Lst (wup (wup (wup w (r 0) cy) (r 1) cy) (r 2) cy) (r 3) cy e (hb 3 (by decide)) (cin _ 3 (by decide) rfl rfl s3)
  have co : ceX (wup (wup (wup (wup (wup w (r 0) cy) (r 1) cy) (r 2) cy) (r 3) cy) q cA) X (wN w + 4) = eo := by
    rw [ceX_arrR (w := wup (wup (wup (wup (wup w (r 0) cy) (r 1) cy) (r 2) cy) (r 3) cy) q cA) s4, ← heo]
    have hy : wY (wup (wup (wup (wup (wup w (r 0) cy) (r 1) cy) (r 2) cy) (r 3) cy) q cA) (wN w + 4) = cA := up3 (wup (wup (wup (wup w (r 0) cy) (r 1) cy) (r 2) cy) (r 3) cy) q cA
    have b3 : wA (wup (wup (wup (wup (wup w (r 0) cy) (r 1) cy) (r 2) cy) (r 3) cy) q cA) (wN w + 3) = r 3 := (up1 (wup (wup (wup (wup w (r 0) cy) (r 1) cy) (r 2) cy) (r 3) cy) q cA (wN w + 3) (by show wN w + 3 < wN w + 4; omega)).trans (up2 (wup (wup (wup w (r 0) cy) (r 1) cy) (r 2) cy) _ _)
    have b2 : wA (wup (wup (wup (wup (wup w (r 0) cy) (r 1) cy) (r 2) cy) (r 3) cy) q cA) (wN w + 2) = r 2 := (up1 (wup (wup (wup (wup w (r 0) cy) (r 1) cy) (r 2) cy) (r 3) cy) q cA (wN w + 2) (by show wN w + 2 < wN w + 4; omega)).trans ((up1 (wup (wup (wup w (r 0) cy) (r 1) cy) (r 2) cy) _ _ (wN w + 2) (by show wN w + 2 < wN w + 3; omega)).trans (up2 (wup (wup w (r 0) cy) (r 1) cy) _ _))
    have b1 : wA (wup (wup (wup (wup (wup w (r 0) cy) (r 1) cy) (r 2) cy) (r 3) cy) q cA) (wN w + 1) = r 1 := (up1 (wup (wup (wup (wup w (r 0) cy) (r 1) cy) (r 2) cy) (r 3) cy) q cA (wN w + 1) (by show wN w + 1 < wN w + 4; omega)).trans ((up1 (wup (wup (wup w (r 0) cy) (r 1) cy) (r 2) cy) _ _ (wN w + 1) (by show wN w + 1 < wN w + 3; omega)).trans ((up1 (wup (wup w (r 0) cy) (r 1) cy) _ _ (wN w + 1) (by show wN w + 1 < wN w + 2; omega)).trans (up2 (wup w (r 0) cy) _ _)))
    have b0 : wA (wup (wup (wup (wup (wup w (r 0) cy) (r 1) cy) (r 2) cy) (r 3) cy) q cA) (wN w + 0) = r 0 := (up1 (wup (wup (wup (wup w (r 0) cy) (r 1) cy) (r 2) cy) (r 3) cy) q cA (wN w + 0) (by show wN w + 0 < wN w + 4; omega)).trans ((up1 (wup (wup (wup w (r 0) cy) (r 1) cy) (r 2) cy) _ _ (wN w + 0) (by show wN w + 0 < wN w + 3; omega)).trans ((up1 (wup (wup w (r 0) cy) (r 1) cy) _ _ (wN w + 0) (by show wN w + 0 < wN w + 2; omega)).trans ((up1 (wup w (r 0) cy) _ _ (wN w + 0) (by show wN w + 0 < wN w + 1; omega)).trans (up2 w _ _))))
    rw [hy]
    have e2 : (fun i => cond (Nat.blt i 4) ((X.2.2 (wN w + 4) i).map (wA (wup (wup (wup (wup (wup w (r 0) cy) (r 1) cy) (r 2) cy) (r 3) cy) q cA))) none) = (fun i => if i < 4 then some (r i) else none) := by
      funext i
      by_cases hi : i < 4
      · rw [if_pos hi, hrf i hi, show Nat.blt i 4 = true from Nat.ble_eq_true_of_le hi]
        match i, hi with
        | 0, _ => exact congrArg some b0
        | 1, _ => exact congrArg some b1
        | 2, _ => exact congrArg some b2
        | 3, _ => exact congrArg some b3
      · rw [if_neg hi]
        cases hbl : Nat.blt i 4 with
        | false => rfl
        | true => exact absurd (Nat.le_of_ble_eq_true hbl) hi
    rw [e2]
  have L5 := Lst (wup (wup (wup (wup w (r 0) cy) (r 1) cy) (r 2) cy) (r 3) cy) q cA eo (hb 4 (by decide)) co
  have hP5 : PX (wup (wup (wup (wup (wup w (r 0) cy) (r 1) cy) (r 2) cy) (r 3) cy) q cA) X H1 := by
    show va_P (wD w) (wC w) (wsX _ X) H1
    rw [L5, L4, L3, L2, L1]
    intro k x hk
    have hx : x ∈ (wsX w X ++ [(q, eo)]) ++ [(r 0, e), (r 1, e), (r 2, e), (r 3, e)] := by
      have := List.mem_of_getElem? hk
      simp only [List.mem_append, List.mem_cons, List.not_mem_nil, or_false] at this ⊢
      rcases this with ((((h | h) | h) | h) | h) | h
      · exact Or.inl (Or.inl h)
      · exact Or.inr (Or.inl h)
      · exact Or.inr (Or.inr (Or.inl h))
      · exact Or.inr (Or.inr (Or.inr (Or.inl h)))
      · exact Or.inr (Or.inr (Or.inr (Or.inr h)))
      · exact Or.inl (Or.inr h)
    obtain ⟨k', hk'⟩ := List.getElem?_of_mem hx
    exact q1P k' x hk'
  have hAw : ∀ x, AW (wup (wup (wup (wup (wup w (r 0) cy) (r 1) cy) (r 2) cy) (r 3) cy) q cA) x → A0 x := AW_push (AW_push (AW_push (AW_push (AW_push hA (a1 0 (by decide))) (a1 1 (by decide))) (a1 2 (by decide))) (a1 3 (by decide))) a2
  have hC : CX (p, l, e_1, R, s, m, args, below, meth, c, A0, k0 + 1 + 4, n0 + 4 + 4 * kk0, QQ) (wup (wup (wup (wup (wup w (r 0) cy) (r 1) cy) (r 2) cy) (r 3) cy) q cA) cc nL own ret R := ⟨hx, hbc, hml, hown, hts, F5, hret, hlk, rfl, hAw, hra, hrb⟩
  have agw : ∀ k, k < wN w → wA (wup (wup (wup (wup (wup w (r 0) cy) (r 1) cy) (r 2) cy) (r 3) cy) q cA) k = wA w k := fun k hk =>
    (up1 (wup (wup (wup (wup w (r 0) cy) (r 1) cy) (r 2) cy) (r 3) cy) q cA k (by show k < wN w + 4; omega)).trans ((up1 (wup (wup (wup w (r 0) cy) (r 1) cy) (r 2) cy) _ _ k (by show k < wN w + 3; omega)).trans ((up1 (wup (wup w (r 0) cy) (r 1) cy) _ _ k (by show k < wN w + 2; omega)).trans ((up1 (wup w (r 0) cy) _ _ k (by show k < wN w + 1; omega)).trans (up1 w _ _ k hk))))
  have K := kk q (r 0) (r 1) (r 2) (r 3) cA cy hC H1 locs ls hP5 q3S (by rw [lvC_ag agw hlv]; exact hl)
  have e3 : ((.ref (wN w + 4) :: st : List Value).map (czV (wup (wup (wup (wup (wup w (r 0) cy) (r 1) cy) (r 2) cy) (r 3) cy) q cA))) = .ref q :: st.map (czV w) := by
    show czV _ (.ref (wN w + 4)) :: st.map _ = _
    rw [st_ag agw hst]
    show Value.ref (wA (wup (wup (wup (wup (wup w (r 0) cy) (r 1) cy) (r 2) cy) (r 3) cy) q cA) (wN w + 4)) :: _ = _
    rw [show wA (wup (wup (wup (wup (wup w (r 0) cy) (r 1) cy) (r 2) cy) (r 3) cy) q cA) (wN w + 4) = q from up2 (wup (wup (wup (wup w (r 0) cy) (r 1) cy) (r 2) cy) (r 3) cy) q cA]
  rw [e3] at K
  exact K
end XM
/-! ===== ENGINE 13 ===== -/
theorem SBc_upR {k a i : Nat} {v : Option Nat} {X Y : XT} (h : SB k X Y) : SB k (upR X a i v) (upR Y a i v) := fun j hj => ⟨(h j hj).1, (h j hj).2.1, fun b => by
  show cond (Nat.beq j a && Nat.beq b i) v (X.2.2 j b) = cond (Nat.beq j a && Nat.beq b i) v (Y.2.2 j b)
  rw [(h j hj).2.2 b]⟩
