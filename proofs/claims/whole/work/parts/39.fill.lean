/-! Arrays.fill on a new row of 16; the law's cell. -/
theorem ts_set_same {h : List va_E} {i : Nat} {e : va_E} (hi : h[i]? = some e) : h.set i e = h := by
  apply List.ext_getElem?
  intro j
  by_cases hj : i = j
  · subst hj
    rw [List.getElem?_set_self (List.getElem?_eq_some_iff.mp hi).1, hi]
  · rw [List.getElem?_set_ne hj]
def tc_fill (v : Int32) (c : Nat) : Nat → Int32 := fun j => if j < c then v else 0
theorem tc_fill_up {v : Int32} {c : Nat} (hc : c < 16) : upd (tc_fill v c) (nI c).toNatClampNeg v = tc_fill v (c + 1) := by
  rw [nI_clamp (by omega)]
  funext j
  unfold upd tc_fill
  by_cases h1 : j = c
  · subst h1
    rw [if_pos rfl, if_pos (by omega)]
  · rw [if_neg h1]
    by_cases h2 : j < c
    · rw [if_pos h2, if_pos (by omega)]
    · rw [if_neg h2, if_neg (by omega)]
set_option maxHeartbeats 4000000 in
set_option maxRecDepth 100000 in
theorem cJA_fill_loop (G : ts_GX) (h : List va_E) (i : Nat) (hi : i < h.length) (v : Int32) (X : ts_VX) : ∀ (n c : Nat), c + n = 16 → ts_V G X YJA_fill (ts_QX G X none (h.set i (.inl (ts_gI G, 16, .inl (tc_fill v 16)))) 0 0) 0 0 5 [.ref (i + 1), .int v, .int (nI c), .int (nI 16)] [] (h.set i (.inl (ts_gI G, 16, .inl (tc_fill v c)))) := by
  intro n
  induction n with
  | zero =>
    intro c hc
    obtain rfl : c = 16 := by omega
    refine ts_iload_n dJA_fill_5 rfl rfl ?_
    refine ts_iload_n dJA_fill_6 rfl rfl ?_
    refine ts_icmp_ge (tgt := 20) dJA_fill_7 rfl (fun _ => ?_) (fun hq => absurd hq (by decide))
    exact ts_vret dJA_fill_20 rfl rfl rfl
  | succ n ih =>
    intro c hc
    refine ts_iload_n dJA_fill_5 rfl rfl ?_
    refine ts_iload_n dJA_fill_6 rfl rfl ?_
    refine ts_icmp_ge (tgt := 20) dJA_fill_7 rfl (fun hq => absurd hq (nI_ge (by omega) (by omega))) (fun _ => ?_)
    refine ts_aload_n dJA_fill_10 rfl rfl ?_
    refine ts_iload_n dJA_fill_11 rfl rfl ?_
    refine ts_iload_n dJA_fill_12 rfl rfl ?_
    refine ts_iast dJA_fill_13 (List.getElem?_set_self hi) (vp_in_nI (by omega) (by omega)) (h' := h.set i (.inl (ts_gI G, 16, .inl (tc_fill v (c + 1))))) (by rw [tc_fill_up (by omega), List.set_set]) ?_
    refine ts_iinc (v := nI (c + 1)) (lo' := [.ref (i + 1), .int v, .int (nI (c + 1)), .int (nI 16)]) dJA_fill_14 rfl (nI_succ c).symm (Nat.le_of_ble_eq_true rfl) rfl ?_
    refine ts_goto (tgt := 5) dJA_fill_17 rfl ?_
    exact ih (c + 1) (by omega)
set_option maxHeartbeats 4000000 in
set_option maxRecDepth 100000 in
theorem cJA_fill (G : ts_GX) (i : Nat) (h : List va_E) (hi : h[i]? = some (.inl (ts_gI G, 16, .inl (fun _ => 0)))) (v : Int32) : ts_M G yJA_fill YJA_fill [.ref (i + 1), .int v] h none (h.set i (.inl (ts_gI G, 16, .inl (tc_fill v 16)))) 0 0 := by
  refine ts_of rfl rfl rfl List.length_set rfl rfl (Nat.le_of_ble_eq_true rfl) (ts_cat1 rfl) (fun X => ?_)
  refine ts_iconst (v := 0) dJA_fill_0 (by decide) ?_
  refine ts_istore_n (lo' := [.ref (i + 1), .int v, .int 0]) dJA_fill_1 rfl (Nat.le_of_ble_eq_true rfl) (Nat.le_of_ble_eq_true rfl) rfl ?_
  refine ts_aload_n dJA_fill_2 rfl rfl ?_
  refine ts_alen (v := nI 16) dJA_fill_3 hi rfl ?_
  refine ts_istore_n (lo' := [.ref (i + 1), .int v, .int 0, .int (nI 16)]) dJA_fill_4 rfl (Nat.le_of_ble_eq_true rfl) (Nat.le_of_ble_eq_true rfl) rfl ?_
  have e0 : tc_fill v 0 = fun _ => 0 := by
    funext j
    exact if_neg (Nat.not_lt_zero j)
  have k := cJA_fill_loop G h i (List.getElem?_eq_some_iff.mp hi).1 v X 16 0 rfl
  rw [e0, ts_set_same hi] at k
  exact k
/-- the script's place k, 0 behind its end -/
def tl_cell (G : ts_GX) (k : Nat) : Int32 := if k < ts_gL G then ts_gx G k else 0
set_option maxHeartbeats 4000000 in
set_option maxRecDepth 100000 in
theorem cLW_cell (G : ts_GX) (h : List va_E) (k : Nat) (hk : k < 2 ^ 31) (hL : ts_gL G < 2 ^ 31) : ts_M G yLW_cell YLW_cell [.ref 0, .int (nI k)] h (some (.int (tl_cell G k))) h 0 0 := by
  refine ts_of rfl rfl rfl rfl rfl rfl (Nat.le_of_ble_eq_true rfl) (ts_cat1 rfl) (fun X => ?_)
  refine ts_iload_n dLW_cell_0 rfl rfl ?_
  refine ts_aload_n dLW_cell_1 rfl rfl ?_
  refine ts_slen dLW_cell_2 ?_
  refine ts_icmp_ge (tgt := 12) dLW_cell_3 rfl (fun (h3 : nI (ts_gL G) ≤ nI k) => ?_) (fun (h3 : ¬ nI (ts_gL G) ≤ nI k) => ?_)
  · refine ts_iconst (v := 0) dLW_cell_12 (by decide) ?_
    have e : tl_cell G k = 0 := if_neg (Nat.not_lt.mpr ((nI_leI hL hk).mp h3))
    exact ts_iret dLW_cell_13 rfl (by rw [e]) rfl
  · have h4 : k < ts_gL G := Nat.not_le.mp (fun q => h3 ((nI_leI hL hk).mpr q))
    refine ts_aload_n dLW_cell_6 rfl rfl ?_
    refine ts_iload_n dLW_cell_7 rfl rfl ?_
    refine ts_sld dLW_cell_8 (vp_in_nI h4 hL) ?_
    refine ts_goto (tgt := 13) dLW_cell_9 rfl ?_
    have e : tl_cell G k = ts_gx G (nI k).toNatClampNeg := by
      rw [nI_clamp hk]
      exact if_pos h4
    exact ts_iret dLW_cell_13 rfl (by rw [e]) rfl
