set_option maxHeartbeats 4000000 in
set_option maxRecDepth 100000 in
theorem tl_head (G : ts_GX) (X : ts_VX) (nm : String) (Q : State → Prop) (hL : ts_gL G ≤ 1538) (E : ∀ (c : Nat) (S9 M9 : tc_S), ts_V G X (YLW_law nm) Q 30 4185 449 [.ref 0, .ref 1, .ref 17, .int (nI c)] [] (tc_h G S9 ++ tm_h G M9)) : ts_V G X (YLW_law nm) Q 0 0 0 [.ref 0] [] [] := by
  refine ts_new (q := 1) (h' := [.inr (4, [.int 0, .int 0, .null, .null, .null, .int 0, .int 0, .int 0, .int 0, .int 0, .int 0, .int 0, .null, .null, .int 0, .int 0, .int 0])]) pLW_N7 (Nat.le_of_ble_eq_true rfl) (Nat.le_of_ble_eq_true rfl) dLW_law_0 rfl rfl ?_
  refine ts_dup dLW_law_3 rfl ?_
  refine ts_aload_n dLW_law_4 rfl rfl ?_
  refine ts_iconst (v := 0) dLW_law_5 (by decide) ?_
  refine ts_callS (cLW_cell G _ 0 (by decide) (by omega)) pLW_C9.1 pLW_C9.2 rfl rfl ⟨Nat.le_of_ble_eq_true rfl, Nat.le_of_ble_eq_true rfl⟩ ⟨Nat.le_of_ble_eq_true rfl, Nat.le_of_ble_eq_true rfl⟩ rfl (Nat.le_of_ble_eq_true rfl) dLW_law_6 ?_
  refine ts_conv (lo' := [.ref 0]) (st' := [.int (tl_cell G 0), .ref 1, .ref 1]) (h' := [.inr (4, [.int 0, .int 0, .null, .null, .null, .int 0, .int 0, .int 0, .int 0, .int 0, .int 0, .int 0, .null, .null, .int 0, .int 0, .int 0])]) rfl rfl rfl ?_
  refine ts_aload_n dLW_law_9 rfl rfl ?_
  refine ts_iconst (v := 1) dLW_law_10 (by decide) ?_
  refine ts_callS (cLW_cell G _ 1 (by decide) (by omega)) pLW_C9.1 pLW_C9.2 rfl rfl ⟨Nat.le_of_ble_eq_true rfl, Nat.le_of_ble_eq_true rfl⟩ ⟨Nat.le_of_ble_eq_true rfl, Nat.le_of_ble_eq_true rfl⟩ rfl (Nat.le_of_ble_eq_true rfl) dLW_law_11 ?_
  refine ts_conv (lo' := [.ref 0]) (st' := [.int (tl_cell G 1), .int (tl_cell G 0), .ref 1, .ref 1]) (h' := [.inr (4, [.int 0, .int 0, .null, .null, .null, .int 0, .int 0, .int 0, .int 0, .int 0, .int 0, .int 0, .null, .null, .int 0, .int 0, .int 0])]) rfl rfl rfl ?_
  refine ts_callI (cTS_init G (tl_cell G 0) (tl_cell G 1)) pLW_C15.1 rfl pLW_C15.2 rfl (fun q hq => hq) ⟨Nat.le_of_ble_eq_true rfl, Nat.le_of_ble_eq_true rfl⟩ ⟨Nat.le_of_ble_eq_true rfl, Nat.le_of_ble_eq_true rfl⟩ rfl (Nat.le_of_ble_eq_true rfl) dLW_law_14 ?_
  refine ts_conv (lo' := [.ref 0]) (st' := [.ref 1]) (h' := tc_h G (tc_init (tc_max 3 (tc_min 8 (tl_cell G 0))) (tc_max 1 (tc_min (tc_max 3 (tc_min 8 (tl_cell G 0)) - 2) (tl_cell G 1))))) rfl rfl (tl_h0 G _ _) ?_
  rw [tc_mem_eq, tc_mut_eq]
  generalize hS : tc_init (tm_mem (tl_cell G 0)) (tm_mut (tl_cell G 0) (tl_cell G 1)) = S0
  refine ts_astore_n (lo' := [.ref 0, .ref 1]) dLW_law_17 rfl (Nat.le_of_ble_eq_true rfl) (Nat.le_of_ble_eq_true rfl) rfl ?_
  refine ts_new (q := 17) (h' := tc_h G S0 ++ [.inr (5, [.int 0, .int 0, .null, .null, .null, .null, .null, .int 0, .int 0, .int 0, .int 0, .int 0, .int 0, .int 0, .null, .int 0, .int 0, .int 0, .int 0, .int 0, .int 0, .int 0, .int 0, .int 0, .int 0, .null, .null, .null, .null, .null, .null, .null])]) pLW_N18 (Nat.le_of_ble_eq_true rfl) (Nat.le_of_ble_eq_true rfl) dLW_law_18 rfl rfl ?_
  refine ts_dup dLW_law_21 rfl ?_
  refine ts_aload_n dLW_law_22 rfl rfl ?_
  refine ts_iconst (v := 0) dLW_law_23 (by decide) ?_
  refine ts_callS (cLW_cell G _ 0 (by decide) (by omega)) pLW_C9.1 pLW_C9.2 rfl rfl ⟨Nat.le_of_ble_eq_true rfl, Nat.le_of_ble_eq_true rfl⟩ ⟨Nat.le_of_ble_eq_true rfl, Nat.le_of_ble_eq_true rfl⟩ rfl (Nat.le_of_ble_eq_true rfl) dLW_law_24 ?_
  refine ts_aload_n dLW_law_27 rfl rfl ?_
  refine ts_iconst (v := 1) dLW_law_28 (by decide) ?_
  refine ts_callS (cLW_cell G _ 1 (by decide) (by omega)) pLW_C9.1 pLW_C9.2 rfl rfl ⟨Nat.le_of_ble_eq_true rfl, Nat.le_of_ble_eq_true rfl⟩ ⟨Nat.le_of_ble_eq_true rfl, Nat.le_of_ble_eq_true rfl⟩ rfl (Nat.le_of_ble_eq_true rfl) dLW_law_29 ?_
  refine ts_callI (cMO_init G S0 (tl_cell G 0) (tl_cell G 1)) pLW_C20.1 rfl pLW_C20.2 rfl (fun q hq => by cases hq) ⟨Nat.le_of_ble_eq_true rfl, Nat.le_of_ble_eq_true rfl⟩ ⟨Nat.le_of_ble_eq_true rfl, Nat.le_of_ble_eq_true rfl⟩ rfl (Nat.le_of_ble_eq_true rfl) dLW_law_32 ?_
  refine ts_conv (lo' := [.ref 0, .ref 1]) (st' := [.ref 17]) (h' := tc_h G S0 ++ tm_h G (tm_init (tl_cell G 0) (tl_cell G 1))) rfl rfl rfl ?_
  refine ts_astore_n (lo' := [.ref 0, .ref 1, .ref 17]) dLW_law_35 rfl (Nat.le_of_ble_eq_true rfl) (Nat.le_of_ble_eq_true rfl) rfl ?_
  refine ts_iconst (v := 2) dLW_law_36 (by decide) ?_
  refine ts_istore_n (lo' := [.ref 0, .ref 1, .ref 17, .int (nI 2)]) dLW_law_37 rfl (Nat.le_of_ble_eq_true rfl) (Nat.le_of_ble_eq_true rfl) rfl ?_
  exact tl_loop G X nm Q hL E 600 2 0 S0 _ (by omega) rfl (by omega) (by rw [← hS]; exact sim_init _ _)
