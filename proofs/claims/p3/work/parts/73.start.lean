/-! ===== the reader's texts at the start ===== -/
theorem L_texts {args : Array Value} {s : State} (hgv : (Jvm.Cond.and given_1 narrow_1).before args s = true) (hts : ∀ w ∈ lw_tbl, w.before args s = true) : ∃ adS : Nat → Nat, ∀ w : WT, (∀ k, 900 ≤ k → wA w k = adS k) → SF w (fun q => s.heap.size ≤ q) s s.heap := by
  have hs := flat_of_before _ hgv
  have hA : ∀ a : Nat, a < s.heap.size → ¬ s.heap.size ≤ a := fun a h => Nat.not_le_of_lt h
  have k1 : ∀ i : Nat, i < 7 → (Cond.exactly (Term.string RX6 (sIdx.getD i 0)) "java/lang/String").before args s = true := fun i hi => match i, hi with
    | 0, _ => hs _ (by decide +kernel)
    | 1, _ => hs _ (by decide +kernel)
    | 2, _ => hs _ (by decide +kernel)
    | 3, _ => hs _ (by decide +kernel)
    | 4, _ => hs _ (by decide +kernel)
    | 5, _ => hs _ (by decide +kernel)
    | 6, _ => hs _ (by decide +kernel)
    | i + 7, h => absurd h (by omega)
  have k2 : ∀ i : Nat, i < 7 → (Cond.eq (.field (Term.string RX6 (sIdx.getD i 0)) "java/lang/String" "coder" "B") (.int 0)).before args s = true := fun i hi => match i, hi with
    | 0, _ => hs _ (by decide +kernel)
    | 1, _ => hs _ (by decide +kernel)
    | 2, _ => hs _ (by decide +kernel)
    | 3, _ => hs _ (by decide +kernel)
    | 4, _ => hs _ (by decide +kernel)
    | 5, _ => hs _ (by decide +kernel)
    | 6, _ => hs _ (by decide +kernel)
    | i + 7, h => absurd h (by omega)
  have k3 : ∀ i : Nat, i < 7 → (Cond.arrayOf (.field (Term.string RX6 (sIdx.getD i 0)) "java/lang/String" "value" "[B") .byte).before args s = true := fun i hi => match i, hi with
    | 0, _ => hs _ (by decide +kernel)
    | 1, _ => hs _ (by decide +kernel)
    | 2, _ => hs _ (by decide +kernel)
    | 3, _ => hs _ (by decide +kernel)
    | 4, _ => hs _ (by decide +kernel)
    | 5, _ => hs _ (by decide +kernel)
    | 6, _ => hs _ (by decide +kernel)
    | i + 7, h => absurd h (by omega)
  have k4 : ∀ i : Nat, i < 7 → (Cond.eq (.length (.field (Term.string RX6 (sIdx.getD i 0)) "java/lang/String" "value" "[B")) (.int (Int32.ofNat (tzL.getD i 0)))).before args s = true := fun i hi => match i, hi with
    | 0, _ => hs _ (by decide +kernel)
    | 1, _ => hs _ (by decide +kernel)
    | 2, _ => hs _ (by decide +kernel)
    | 3, _ => hs _ (by decide +kernel)
    | 4, _ => hs _ (by decide +kernel)
    | 5, _ => hs _ (by decide +kernel)
    | 6, _ => hs _ (by decide +kernel)
    | i + 7, h => absurd h (by omega)
  have k5 : ∀ i : Nat, i < 7 → ∀ j : Nat, j < tzL.getD i 0 → (Cond.eq (.elem (.field (Term.string RX6 (sIdx.getD i 0)) "java/lang/String" "value" "[B") (.int (Int32.ofNat j))) (.int ((sByt.getD i []).getD j 0))).before args s = true := fun i hi j hj => match i, j, hi, hj with
    | 0, 0, _, _ => hs _ (by decide +kernel)
    | 0, 1, _, _ => hs _ (by decide +kernel)
    | 0, 2, _, _ => hs _ (by decide +kernel)
    | 0, 3, _, _ => hs _ (by decide +kernel)
    | 0, j + 4, _, h => absurd (show j + 4 < 4 from h) (by omega)
    | 1, 0, _, _ => hs _ (by decide +kernel)
    | 1, 1, _, _ => hs _ (by decide +kernel)
    | 1, 2, _, _ => hs _ (by decide +kernel)
    | 1, j + 3, _, h => absurd (show j + 3 < 3 from h) (by omega)
    | 2, 0, _, _ => hs _ (by decide +kernel)
    | 2, 1, _, _ => hs _ (by decide +kernel)
    | 2, 2, _, _ => hs _ (by decide +kernel)
    | 2, 3, _, _ => hs _ (by decide +kernel)
    | 2, j + 4, _, h => absurd (show j + 4 < 4 from h) (by omega)
    | 3, 0, _, _ => hs _ (by decide +kernel)
    | 3, 1, _, _ => hs _ (by decide +kernel)
    | 3, 2, _, _ => hs _ (by decide +kernel)
    | 3, j + 3, _, h => absurd (show j + 3 < 3 from h) (by omega)
    | 4, 0, _, _ => hs _ (by decide +kernel)
    | 4, 1, _, _ => hs _ (by decide +kernel)
    | 4, 2, _, _ => hs _ (by decide +kernel)
    | 4, j + 3, _, h => absurd (show j + 3 < 3 from h) (by omega)
    | 5, 0, _, _ => hs _ (by decide +kernel)
    | 5, 1, _, _ => hs _ (by decide +kernel)
    | 5, j + 2, _, h => absurd (show j + 2 < 2 from h) (by omega)
    | 6, 0, _, _ => hs _ (by decide +kernel)
    | 6, 1, _, _ => hs _ (by decide +kernel)
    | 6, 2, _, _ => hs _ (by decide +kernel)
    | 6, 3, _, _ => hs _ (by decide +kernel)
    | 6, 4, _, _ => hs _ (by decide +kernel)
    | 6, 5, _, _ => hs _ (by decide +kernel)
    | 6, 6, _, _ => hs _ (by decide +kernel)
    | 6, 7, _, _ => hs _ (by decide +kernel)
    | 6, 8, _, _ => hs _ (by decide +kernel)
    | 6, 9, _, _ => hs _ (by decide +kernel)
    | 6, 10, _, _ => hs _ (by decide +kernel)
    | 6, j + 11, _, h => absurd (show j + 11 < 11 from h) (by omega)
    | i + 7, _, h, _ => absurd h (by omega)
  have k6 : ∀ i j : Nat, i < 7 → j < 7 → i ≠ j → (Cond.not (Cond.eq (Term.string RX6 (sIdx.getD i 0)) (Term.string RX6 (sIdx.getD j 0)))).before args s = true ∨ (Cond.not (Cond.eq (Term.string RX6 (sIdx.getD j 0)) (Term.string RX6 (sIdx.getD i 0)))).before args s = true := fun i j hi hj hn => match i, j, hi, hj, hn with
    | 0, 0, _, _, h => absurd rfl h
    | 0, 1, _, _, _ => .inl (hs _ (by decide +kernel))
    | 0, 2, _, _, _ => .inl (hs _ (by decide +kernel))
    | 0, 3, _, _, _ => .inl (hs _ (by decide +kernel))
    | 0, 4, _, _, _ => .inl (hs _ (by decide +kernel))
    | 0, 5, _, _, _ => .inl (hs _ (by decide +kernel))
    | 0, 6, _, _, _ => .inr (hs _ (by decide +kernel))
    | 0, j + 7, _, h, _ => absurd h (by omega)
    | 1, 0, _, _, _ => .inr (hs _ (by decide +kernel))
    | 1, 1, _, _, h => absurd rfl h
    | 1, 2, _, _, _ => .inl (hs _ (by decide +kernel))
    | 1, 3, _, _, _ => .inl (hs _ (by decide +kernel))
    | 1, 4, _, _, _ => .inl (hs _ (by decide +kernel))
    | 1, 5, _, _, _ => .inl (hs _ (by decide +kernel))
    | 1, 6, _, _, _ => .inr (hs _ (by decide +kernel))
    | 1, j + 7, _, h, _ => absurd h (by omega)
    | 2, 0, _, _, _ => .inr (hs _ (by decide +kernel))
    | 2, 1, _, _, _ => .inr (hs _ (by decide +kernel))
    | 2, 2, _, _, h => absurd rfl h
    | 2, 3, _, _, _ => .inl (hs _ (by decide +kernel))
    | 2, 4, _, _, _ => .inl (hs _ (by decide +kernel))
    | 2, 5, _, _, _ => .inl (hs _ (by decide +kernel))
    | 2, 6, _, _, _ => .inr (hs _ (by decide +kernel))
    | 2, j + 7, _, h, _ => absurd h (by omega)
    | 3, 0, _, _, _ => .inr (hs _ (by decide +kernel))
    | 3, 1, _, _, _ => .inr (hs _ (by decide +kernel))
    | 3, 2, _, _, _ => .inr (hs _ (by decide +kernel))
    | 3, 3, _, _, h => absurd rfl h
    | 3, 4, _, _, _ => .inl (hs _ (by decide +kernel))
    | 3, 5, _, _, _ => .inl (hs _ (by decide +kernel))
    | 3, 6, _, _, _ => .inr (hs _ (by decide +kernel))
    | 3, j + 7, _, h, _ => absurd h (by omega)
    | 4, 0, _, _, _ => .inr (hs _ (by decide +kernel))
    | 4, 1, _, _, _ => .inr (hs _ (by decide +kernel))
    | 4, 2, _, _, _ => .inr (hs _ (by decide +kernel))
    | 4, 3, _, _, _ => .inr (hs _ (by decide +kernel))
    | 4, 4, _, _, h => absurd rfl h
    | 4, 5, _, _, _ => .inl (hs _ (by decide +kernel))
    | 4, 6, _, _, _ => .inr (hs _ (by decide +kernel))
    | 4, j + 7, _, h, _ => absurd h (by omega)
    | 5, 0, _, _, _ => .inr (hs _ (by decide +kernel))
    | 5, 1, _, _, _ => .inr (hs _ (by decide +kernel))
    | 5, 2, _, _, _ => .inr (hs _ (by decide +kernel))
    | 5, 3, _, _, _ => .inr (hs _ (by decide +kernel))
    | 5, 4, _, _, _ => .inr (hs _ (by decide +kernel))
    | 5, 5, _, _, h => absurd rfl h
    | 5, 6, _, _, _ => .inr (hs _ (by decide +kernel))
    | 5, j + 7, _, h, _ => absurd h (by omega)
    | 6, 0, _, _, _ => .inl (hs _ (by decide +kernel))
    | 6, 1, _, _, _ => .inl (hs _ (by decide +kernel))
    | 6, 2, _, _, _ => .inl (hs _ (by decide +kernel))
    | 6, 3, _, _, _ => .inl (hs _ (by decide +kernel))
    | 6, 4, _, _, _ => .inl (hs _ (by decide +kernel))
    | 6, 5, _, _, _ => .inl (hs _ (by decide +kernel))
    | 6, 6, _, _, h => absurd rfl h
    | 6, j + 7, _, h, _ => absurd h (by omega)
    | i + 7, _, h, _, _ => absurd h (by omega)
  have k7 : ∀ i : Nat, i < 7 → tzL.getD i 0 < 2 ^ 31 := fun i hi => Nat.lt_of_le_of_lt (tzL_bd i hi).2 (by decide)
  obtain ⟨adK, adV, hvk, hev⟩ := vk_Sof (tm := fun i => (Term.string RX6 (sIdx.getD i 0))) k7 k1 k2 k3 k4 k5 k6 hA
  have hcs : va_Z RJ0 "COMPACT_STRINGS" "Z" (.int 1) (fun q => s.heap.size ≤ q) s s.heap := va_Zof (hts _ (by decide +kernel)) (hts _ (by decide +kernel)) (va_eqt (hs (Cond.eq (.static RJ0 "COMPACT_STRINGS" "Z") (.int 1)) (by decide +kernel))) hA
  have hfm := va_Zqof (C := RJ3) (n := "SIOOBE_FORMATTER") (d := fmtD) (hts _ (by decide +kernel)) (hts _ (by decide +kernel)) (hs _ (by decide +kernel)) hA
  have hsr : ∀ i : Nat, i < 7 → vk_R RX6 (sIdx.getD i 0) (sTx.getD i "") (adK i) s := fun i hi => vk_R.of ((show ∀ i : Nat, i < 7 → (Cond.stringRef RX6 (sIdx.getD i 0) (sTx.getD i "")).before args s = true from fun i hi => match i, hi with
    | 0, _ => hts _ (by decide +kernel)
    | 1, _ => hts _ (by decide +kernel)
    | 2, _ => hts _ (by decide +kernel)
    | 3, _ => hts _ (by decide +kernel)
    | 4, _ => hts _ (by decide +kernel)
    | 5, _ => hts _ (by decide +kernel)
    | 6, _ => hts _ (by decide +kernel)
    | i + 7, h => absurd h (by omega)) i hi) (hev i hi)
  have hfin : ∃ t : Nat, va_Z RJ3 "SIOOBE_FORMATTER" fmtD .null (fun q => s.heap.size ≤ q) s s.heap ∨ va_Z RJ3 "SIOOBE_FORMATTER" fmtD (.ref t) (fun q => s.heap.size ≤ q) s s.heap := by
    rcases hfm with h | ⟨t, h⟩
    · exact ⟨0, .inl h⟩
    · exact ⟨t, .inr h⟩
  obtain ⟨t, ht⟩ := hfin
  refine ⟨fun k => if k < 910 then adK (k - 900) else if k < 920 then adV (k - 910) else t, fun w hw => ?_⟩
  have hw : ∀ k, 900 ≤ k → wA w k = (if k < 910 then adK (k - 900) else if k < 920 then adV (k - 910) else t) := hw
  have e1 : ∀ i : Nat, i < 7 → wA w (900 + i) = adK i := fun i hi => by
    rw [hw (900 + i) (by omega), if_pos (by omega), show 900 + i - 900 = i by omega]
  have e2 : ∀ i : Nat, i < 7 → wA w (910 + i) = adV i := fun i hi => by
    rw [hw (910 + i) (by omega), if_neg (by omega), if_pos (by omega), show 910 + i - 910 = i by omega]
  have e3 : wA w 920 = t := by
    rw [hw 920 (by omega), if_neg (by omega), if_neg (by omega)]
  refine ⟨⟨fun i hi => ?_, fun i j hi hj e => ?_⟩, hcs, ?_, fun i hi => ?_⟩
  · have q := hvk.1 i hi
    show va_O _ (wA w (900 + i)) _ _ _ ∧ va_OF _ _ _ _ (wA w (900 + i)) _ _ _ ∧ va_OF _ _ _ (.ref (wA w (910 + i))) (wA w (900 + i)) _ _ _ ∧ va_T _ (wA w (910 + i)) _ _ _ _ _
    rw [e1 i hi, e2 i hi]
    exact q
  · have e : wA w (900 + i) = wA w (900 + j) := e
    rw [e1 i hi, e1 j hj] at e
    exact hvk.2 i j hi hj e
  · rw [e3]
    exact ht
  · rw [e1 i hi]
    exact hsr i hi
theorem whole_start {p : Program} {e : Env} {s : State} {m : MethodId} {below : List Frame} {meth : Method} {c : Code} (l : Launch) (hflags : l.flags = flags0) {b L : Nat} {xs : Nat → Int32} (hL : L ≤ 3072) (C0 : lw_At p s m meth c b L xs) : W p l e room_1 s m #[Value.ref b] below meth c s.heap [] 0 0 (lw_Z below #[Value.ref b] s) (entryFrame m ([Value.ref b] : List Value).toArray 4) := by
  obtain ⟨hx, hb, hr, hml, hown, hts, hX, hbl, hlk, hgv⟩ := C0
  obtain ⟨D, hD⟩ := L_known hts L_all
  obtain ⟨adS, hS⟩ := L_texts hgv hts
  have hX' : va_X b L (fun j => iI ((xs j).toInt)) s s.heap := by
    rw [show (fun j => iI ((xs j).toInt)) = xs from funext (fun j => iI_of _)]
    exact hX
  have C : CX (p, l, e, room_1, s, m, #[Value.ref b], below, meth, c, (fun q => s.heap.size ≤ q), 0, 0, lw_Z below #[Value.ref b] s) (wI D) cL_law 4 RL (some .boolean) room_1 := ⟨hx, hb, hml, hown, fun x h => hts x (List.mem_filter.mp h).1, L_Fx hts hD, hr, hlk, rfl, fun q ⟨k, hk, _⟩ => absurd hk (Nat.not_lt_zero k), Nat.zero_le _, Nat.zero_le _⟩
  have hEnd : LEND (p, l, e, room_1, s, m, #[Value.ref b], below, meth, c, (fun q => s.heap.size ≤ q), 0, 0, lw_Z below #[Value.ref b] s) := by
    intro D a b' lv PH ha hb' H locs ls hP hS hl
    exact va_forget (fun q hq => hS.2.2 q hq) (W.widen ha hb' (lw_ret hx hb hr hlk dL_law_1450))
  have K := law_body (zs := fun j => (xs j).toInt) (adS := adS) C (fun q h => h) ⟨hX', hbl, fun h => Nat.lt_irrefl _ (Nat.lt_of_lt_of_le hbl h)⟩ (fun j => inR_toInt _) hL rfl rfl hEnd (fun w hw => hS w hw)
  rw [lg_entry_eq]
  have hl := lv_entry ([Value.ref b]) (n := 4) (Nat.le_of_ble_eq_true rfl)
  have K2 := K s.heap [] _ trivial va_S.rf (by rw [lvI]; exact hl)
  exact K2
