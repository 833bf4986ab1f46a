theorem whole_start {p : Program} {e : Env} {s : State} {m : MethodId} {below : List Frame} {meth : Method} {c : Code} (l : Launch) (hflags : l.flags = flags0) {b L : Nat} {xs : Nat → Int32} (hL : L ≤ 6) (C0 : lw_At p s m meth c b L xs) : W p l e room_1 s m #[Value.ref b] below meth c s.heap [] 0 0 (lw_Z below #[Value.ref b] s) (entryFrame m ([Value.ref b] : List Value).toArray 4) := by
  obtain ⟨hx, hb, hr, hml, hown, hts, hX, hbl, hlk, hgv⟩ := C0
  obtain ⟨D, hD⟩ := L_known hts L_all
  have hX' : va_X b L (fun j => iI ((xs j).toInt)) s s.heap := by
    rw [show (fun j => iI ((xs j).toInt)) = xs from funext (fun j => iI_of _)]
    exact hX
  have C : CX (p, l, e, room_1, s, m, #[Value.ref b], below, meth, c, (fun q => s.heap.size ≤ q), 0, 0, lw_Z below #[Value.ref b] s) (wI D) cL_law 4 RL (some .boolean) room_1 := ⟨hx, hb, hml, hown, fun x h => hts x (List.mem_filter.mp h).1, L_Fx hts hD, hr, hlk, rfl, fun q ⟨k, hk, _⟩ => absurd hk (Nat.not_lt_zero k), Nat.zero_le _, Nat.zero_le _⟩
  have hEnd : LEND (p, l, e, room_1, s, m, #[Value.ref b], below, meth, c, (fun q => s.heap.size ≤ q), 0, 0, lw_Z below #[Value.ref b] s) := by
    intro D a b' lv PH ha hb' H locs ls hP hS hl
    exact va_forget (fun q hq => hS.2.2 q hq) (W.widen ha hb' (lw_ret hx hb hr hlk dL_law_1452))
  have K := law_body (zs := fun j => (xs j).toInt) C (fun q h => h) ⟨hX', hbl, fun h => Nat.lt_irrefl _ (Nat.lt_of_lt_of_le hbl h)⟩ (fun j => inR_toInt _) hL rfl rfl hEnd
  rw [lg_entry_eq]
  have hl := lv_entry ([Value.ref b]) (n := 4) (Nat.le_of_ble_eq_true rfl)
  have K2 := K s.heap [] _ trivial va_S.rf (by rw [lvI]; exact hl)
  exact K2
