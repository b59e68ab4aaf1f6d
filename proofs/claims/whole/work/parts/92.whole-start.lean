/-- YOUR PART: from the entry, for every script of at most 1538 ints, the law comes to its end with true -/
theorem whole_start {p : Program} {e : Env} {s : State} {m : MethodId} {below : List Frame} {meth : Method} {c : Code} (l : Launch) {b L : Nat} {xs : Nat → Int32} (hL : L ≤ 1538) (C0 : lw_At p s m meth c b L xs) : W p l e room_1 s m #[Value.ref b] below meth c s.heap [] 0 0 (lw_Z below #[Value.ref b] s) (entryFrame m ([Value.ref b] : List Value).toArray 4) := by
  obtain ⟨hx, hb, hr, hml, hown, hts, hXs, hbl, hlk, hgv⟩ := C0
  have hall : ∀ w ∈ ts_all, w.before #[Value.ref b] s = true := fun w hw => hts w (List.mem_filter.mp hw).1
  obtain ⟨cI, hI1, hI2⟩ := tl_arr (hall _ tn_arrI) (Or.inl rfl)
  obtain ⟨cB, hB1, hB2⟩ := tl_arr (hall _ tn_arrZ) (Or.inr rfl)
  obtain ⟨D, hD⟩ := tl_D hall
  have hK : va_K D vwCl [(cI, .int), (cB, .boolean)] s := by
    refine ⟨hD, fun k q hk => ?_⟩
    rcases k with _ | _ | k
    · cases hk; exact ⟨hI1, hI2⟩
    · cases hk; exact ⟨hB1, hB2⟩
    · cases hk
  have V := tl_head (l, D, cI, cB, s.heap.size, b, L, xs) (p, e, s, m, #[Value.ref b], below, meth, c) meth.name (lw_Z below #[Value.ref b] s) hL (fun c9 S9 M9 => tl_end meth.name _ _)
  rw [lg_entry_eq]
  exact V ⟨hx, hb, hml, hown, hr, hlk, rfl, hall, hK, fun q hq => va_Nw.of rfl (hts _ (tn_nest q hq)), Nat.le_refl _, hXs, hbl⟩ rfl s.heap [] _ (ts_lz_entry (vs := [Value.ref b]) (n := 4) (fun w hw => by rw [List.mem_singleton.mp hw]; rfl) (Nat.le_of_ble_eq_true rfl)) (fun k q hk => by cases hk) va_S.rf
