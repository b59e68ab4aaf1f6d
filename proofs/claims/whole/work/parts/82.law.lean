/-! The law's loop, its head, its end. -/
set_option maxHeartbeats 4000000 in
set_option maxRecDepth 100000 in
theorem tl_loop (G : ts_GX) (X : ts_VX) (nm : String) (Q : State → Prop) (hL : ts_gL G ≤ 1538) (E : ∀ (c : Nat) (S9 M9 : tc_S), ts_V G X (YLW_law nm) Q 30 4185 449 [.ref 0, .ref 1, .ref 17, .int (nI c)] [] (tc_h G S9 ++ tm_h G M9)) :
    ∀ (f c N : Nat) (S M : tc_S), ts_gL G < c + 3 + 3 * f → c = 2 + 3 * N → c + 3 * f < 10000 → Sim N S M → ts_V G X (YLW_law nm) Q 30 4185 38 [.ref 0, .ref 1, .ref 17, .int (nI c)] [] (tc_h G S ++ tm_h G M) := by
  intro f
  induction f with
  | zero =>
    intro c N S M hf hc hb hs
    refine ts_iload_n dLW_law_38 rfl rfl ?_
    refine ts_aload_n dLW_law_39 rfl rfl ?_
    refine ts_slen dLW_law_40 ?_
    refine ts_iconst (v := 3) dLW_law_41 (by decide) ?_
    refine ts_isub dLW_law_42 ?_
    refine ts_icmp_gt (tgt := 449) dLW_law_43 rfl (fun _ => ?_) (fun hq => absurd (tl_gt (L := ts_gL G) (c := c) (by omega) hL (by omega)) hq)
    exact E c S M
  | succ f ih =>
    intro c N S M hf hc hb hs
    refine ts_iload_n dLW_law_38 rfl rfl ?_
    refine ts_aload_n dLW_law_39 rfl rfl ?_
    refine ts_slen dLW_law_40 ?_
    refine ts_iconst (v := 3) dLW_law_41 (by decide) ?_
    refine ts_isub dLW_law_42 ?_
    refine ts_icmp_gt (tgt := 449) dLW_law_43 rfl (fun _ => E c S M) (fun (hq : ¬ nI (ts_gL G) - 3 < nI c) => ?_)
    have hc3 : c + 3 ≤ ts_gL G := tl_le hL hq (by omega)
    refine ts_aload_n dLW_law_46 rfl rfl ?_
    refine ts_iload_n dLW_law_47 rfl rfl ?_
    refine ts_sld dLW_law_48 (vp_in_nI (by omega) (by omega)) ?_
    refine ts_bipush (v := 15) dLW_law_49 (by decide) ?_
    refine ts_iand dLW_law_51 ?_
    refine tl_case G X nm Q c hc3 hL S M N (by omega) hs (fun S9 M9 hs9 => ?_) _
    refine ts_iinc (v := nI (c + 3)) (lo' := [.ref 0, .ref 1, .ref 17, .int (nI (c + 3))]) dLW_law_443 rfl (nI_add c 3) (Nat.le_of_ble_eq_true rfl) rfl ?_
    refine ts_goto (tgt := 38) dLW_law_446 rfl ?_
    exact ih (c + 3) (N + 1) S9 M9 (by omega) (by omega) (by omega) hs9
set_option maxHeartbeats 4000000 in
set_option maxRecDepth 100000 in
theorem tl_head (G : ts_GX) (X : ts_VX) (nm : String) (Q : State → Prop) (hL : ts_gL G ≤ 1538) (E : ∀ (c : Nat) (S9 M9 : tc_S), ts_V G X (YLW_law nm) Q 30 4185 449 [.ref 0, .ref 1, .ref 17, .int (nI c)] [] (tc_h G S9 ++ tm_h G M9)) : ts_V G X (YLW_law nm) Q 0 0 0 [.ref 0] [] [] := by
  refine ts_new (q := 1) (h' := [.inr (4, [.int 0, .int 0, .null, .null, .null, .int 0, .int 0, .int 0, .int 0, .int 0, .int 0, .int 0, .null, .null, .int 0, .int 0, .int 0])]) pLW_N7 (Nat.le_of_ble_eq_true rfl) (Nat.le_of_ble_eq_true rfl) dLW_law_0 rfl rfl ?_
  refine ts_dup dLW_law_3 rfl ?_
  refine ts_aload_n dLW_law_4 rfl rfl ?_
  refine ts_iconst (v := 0) dLW_law_5 (by decide) ?_
  refine ts_callS (cLW_cell G _ 0 (by decide) (by omega)) pLW_C9.1 pLW_C9.2 rfl rfl ⟨Nat.le_of_ble_eq_true rfl, Nat.le_of_ble_eq_true rfl⟩ ⟨Nat.le_of_ble_eq_true rfl, Nat.le_of_ble_eq_true rfl⟩ rfl (Nat.le_of_ble_eq_true rfl) dLW_law_6 ?_
  refine ts_conv (lo' := [.ref 0]) (st' := [.int (tl_cell G 0), .ref 1, .ref 1]) (h' := [.inr (4, [.int 0, .int 0, .null, .null, .null, .int 0, .int 0, .int 0, .int 0, .int 0, .int 0, .int 0, .null, .null, .int 0, .int 0, .int 0])]) rfl rfl rfl ?_
  refine ts_aload_n dLW_law_9 rfl rfl ?_
  refine ts_iconst (v := 1) dLW_law_10 (by decide) ?_
  refine ts_callS (cLW_cell G _ 1 (by decide) (by omega)) pLW_C9.1 pLW_C9.2 rfl rfl ⟨Nat.le_of_ble_eq_true rfl, Nat.le_of_ble_eq_true rfl⟩ ⟨Nat.le_of_ble_eq_true rfl, Nat.le_of_ble_eq_true rfl⟩ rfl (Nat.le_of_ble_eq_true rfl) dLW_law_11 ?_
  refine ts_conv (lo' := [.ref 0]) (st' := [.int (tl_cell G 1), .int (tl_cell G 0), .ref 1, .ref 1]) (h' := [.inr (4, [.int 0, .int 0, .null, .null, .null, .int 0, .int 0, .int 0, .int 0, .int 0, .int 0, .int 0, .null, .null, .int 0, .int 0, .int 0])]) rfl rfl rfl ?_
  refine ts_callI (cTS_init G (tl_cell G 0) (tl_cell G 1)) pLW_C15.1 rfl pLW_C15.2 rfl (fun q hq => hq) ⟨Nat.le_of_ble_eq_true rfl, Nat.le_of_ble_eq_true rfl⟩ ⟨Nat.le_of_ble_eq_true rfl, Nat.le_of_ble_eq_true rfl⟩ rfl (Nat.le_of_ble_eq_true rfl) dLW_law_14 ?_
  refine ts_conv (lo' := [.ref 0]) (st' := [.ref 1]) (h' := tc_h G (tc_init (tc_max 3 (tc_min 8 (tl_cell G 0))) (tc_max 1 (tc_min (tc_max 3 (tc_min 8 (tl_cell G 0)) - 2) (tl_cell G 1))))) rfl rfl rfl ?_
  rw [tc_mem_eq, tc_mut_eq]
  generalize hS : tc_init (tm_mem (tl_cell G 0)) (tm_mut (tl_cell G 0) (tl_cell G 1)) = S0
  refine ts_astore_n (lo' := [.ref 0, .ref 1]) dLW_law_17 rfl (Nat.le_of_ble_eq_true rfl) (Nat.le_of_ble_eq_true rfl) rfl ?_
  refine ts_new (q := 17) (h' := tc_h G S0 ++ [.inr (5, [.int 0, .int 0, .null, .null, .null, .null, .null, .int 0, .int 0, .int 0, .int 0, .int 0, .int 0, .int 0, .null, .int 0, .int 0, .int 0, .int 0, .int 0, .int 0, .int 0, .int 0, .int 0, .int 0, .null, .null, .null, .null, .null, .null, .null])]) pLW_N18 (Nat.le_of_ble_eq_true rfl) (Nat.le_of_ble_eq_true rfl) dLW_law_18 rfl rfl ?_
  refine ts_dup dLW_law_21 rfl ?_
  refine ts_aload_n dLW_law_22 rfl rfl ?_
  refine ts_iconst (v := 0) dLW_law_23 (by decide) ?_
  refine ts_callS (cLW_cell G _ 0 (by decide) (by omega)) pLW_C9.1 pLW_C9.2 rfl rfl ⟨Nat.le_of_ble_eq_true rfl, Nat.le_of_ble_eq_true rfl⟩ ⟨Nat.le_of_ble_eq_true rfl, Nat.le_of_ble_eq_true rfl⟩ rfl (Nat.le_of_ble_eq_true rfl) dLW_law_24 ?_
  refine ts_aload_n dLW_law_27 rfl rfl ?_
  refine ts_iconst (v := 1) dLW_law_28 (by decide) ?_
  refine ts_callS (cLW_cell G _ 1 (by decide) (by omega)) pLW_C9.1 pLW_C9.2 rfl rfl ⟨Nat.le_of_ble_eq_true rfl, Nat.le_of_ble_eq_true rfl⟩ ⟨Nat.le_of_ble_eq_true rfl, Nat.le_of_ble_eq_true rfl⟩ rfl (Nat.le_of_ble_eq_true rfl) dLW_law_29 ?_
  refine ts_callI (cMO_init G S0 (tl_cell G 0) (tl_cell G 1)) pLW_C20.1 rfl pLW_C20.2 rfl (fun q hq => by cases hq) ⟨Nat.le_of_ble_eq_true rfl, Nat.le_of_ble_eq_true rfl⟩ ⟨Nat.le_of_ble_eq_true rfl, Nat.le_of_ble_eq_true rfl⟩ rfl (Nat.le_of_ble_eq_true rfl) dLW_law_32 ?_
  refine ts_conv (lo' := [.ref 0, .ref 1]) (st' := [.ref 17]) (h' := tc_h G S0 ++ tm_h G (tm_init (tl_cell G 0) (tl_cell G 1))) rfl rfl rfl ?_
  refine ts_astore_n (lo' := [.ref 0, .ref 1, .ref 17]) dLW_law_35 rfl (Nat.le_of_ble_eq_true rfl) (Nat.le_of_ble_eq_true rfl) rfl ?_
  refine ts_iconst (v := 2) dLW_law_36 (by decide) ?_
  refine ts_istore_n (lo' := [.ref 0, .ref 1, .ref 17, .int (nI 2)]) dLW_law_37 rfl (Nat.le_of_ble_eq_true rfl) (Nat.le_of_ble_eq_true rfl) rfl ?_
  exact tl_loop G X nm Q hL E 600 2 0 S0 _ (by omega) rfl (by omega) (by rw [← hS]; exact sim_init _ _)
