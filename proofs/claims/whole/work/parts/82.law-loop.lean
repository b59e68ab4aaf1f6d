/-! The law's loop, its head, its end. -/
set_option maxHeartbeats 4000000 in
set_option maxRecDepth 100000 in
theorem tl_loop (G : ts_GX) (X : ts_VX) (nm : String) (Q : State → Prop) (hL : ts_gL G ≤ 1538) (E : ∀ (c : Nat) (S9 M9 : tc_S), ts_V G X (YLW_law nm) Q 30 4185 449 [.ref 0, .ref 1, .ref 17, .int (nI c)] [] (tc_h G S9 ++ tm_h G M9)) :
    ∀ (f c N : Nat) (S M : tc_S), ts_gL G < c + 3 + 3 * f → c = 2 + 3 * N → c + 3 * f < 10000 → Sim N S M → ts_V G X (YLW_law nm) Q 30 4185 38 [.ref 0, .ref 1, .ref 17, .int (nI c)] [] (tc_h G S ++ tm_h G M) := by
  intro f
  induction f with
  | zero =>
    intro c N S M hf hc hb hs
    refine ts_iload_n dLW_law_38 rfl rfl ?_
    refine ts_aload_n dLW_law_39 rfl rfl ?_
    refine ts_slen dLW_law_40 ?_
    refine ts_iconst (v := 3) dLW_law_41 (by decide) ?_
    refine ts_isub dLW_law_42 ?_
    refine ts_icmp_gt (tgt := 449) dLW_law_43 rfl (fun _ => ?_) (fun hq => absurd (tl_gt (L := ts_gL G) (c := c) (by omega) hL (by omega)) hq)
    exact E c S M
  | succ f ih =>
    intro c N S M hf hc hb hs
    refine ts_iload_n dLW_law_38 rfl rfl ?_
    refine ts_aload_n dLW_law_39 rfl rfl ?_
    refine ts_slen dLW_law_40 ?_
    refine ts_iconst (v := 3) dLW_law_41 (by decide) ?_
    refine ts_isub dLW_law_42 ?_
    refine ts_icmp_gt (tgt := 449) dLW_law_43 rfl (fun _ => E c S M) (fun (hq : ¬ nI (ts_gL G) - 3 < nI c) => ?_)
    have hc3 : c + 3 ≤ ts_gL G := tl_le hL hq (by omega)
    refine ts_aload_n dLW_law_46 rfl rfl ?_
    refine ts_iload_n dLW_law_47 rfl rfl ?_
    refine ts_sld dLW_law_48 (vp_in_nI (by omega) (by omega)) ?_
    refine ts_bipush (v := 15) dLW_law_49 (by decide) ?_
    refine ts_iand dLW_law_51 ?_
    refine tl_case G X nm Q c hc3 hL S M N (by omega) hs (fun S9 M9 hs9 => ?_) _
    refine ts_iinc (v := nI (c + 3)) (lo' := [.ref 0, .ref 1, .ref 17, .int (nI (c + 3))]) dLW_law_443 rfl (nI_add c 3) (Nat.le_of_ble_eq_true rfl) rfl ?_
    refine ts_goto (tgt := 38) dLW_law_446 rfl ?_
    exact ih (c + 3) (N + 1) S9 M9 (by omega) (by omega) (by omega) hs9
theorem tl_h0 (G : ts_GX) (m u : Int32) : ([.inr (4, [.int m, .int u, .ref 2, .ref 3, .ref 5, .int 0, .int 0, .int 0, .int 0, .int 0, .int 1, .int 0, .ref 11, .ref 14, .int 0, .int 0, .int 0]), .inr (1, [.int 0, .int 0, .int 0, .int 0]), .inr (0, [.int 1, .int 0, .ref 4]), .inl (ts_gI G, 16, .inl (tc_fill (-1) 16)), .inr (2, [.ref 6, .ref 7, .ref 8, .ref 9, .ref 10]), .inl (ts_gI G, 400, .inl (fun _ => 0)), .inl (ts_gI G, 400, .inl (fun _ => 0)), .inl (ts_gI G, 400, .inl (fun _ => 0)), .inl (ts_gI G, 400, .inl (fun _ => 0)), .inl (ts_gB G, 400, .inl (fun _ => 0)), .inr (3, [.int 0, .int 0, .int 0, .int 0, .ref 12]), .inr (0, [.int 1, .int 0, .ref 13]), .inl (ts_gI G, 16, .inl (tc_fill (-1) 16)), .inr (3, [.int 0, .int 0, .int 0, .int 0, .ref 15]), .inr (0, [.int 1, .int 0, .ref 16]), .inl (ts_gI G, 16, .inl (tc_fill (-1) 16))] : List va_E) = tc_h G (tc_init m u) := rfl
