set_option maxHeartbeats 4000000 in
set_option maxRecDepth 100000 in
theorem cMO_delete (G : ts_GX) (S : tc_S) (M : tc_S) (key : Int32) (hJ : tj M) : ts_M G yMO_delete YMO_delete [.ref 17, .int key] (tc_h G S ++ tm_h G M) (some (.int (tc_delete M key).1)) (tc_h G S ++ tm_h G ((tc_delete M key).2)) 0 0 := by
  refine ts_of rfl rfl rfl rfl rfl rfl (Nat.le_of_ble_eq_true rfl) (ts_cat1 rfl) (fun X => ?_)
  refine ts_aload_n dMO_delete_0 rfl rfl ?_
  refine ts_get pMO_F100 dMO_delete_1 rfl rfl ?_
  refine ts_if_eq (tgt := 10) dMO_delete_4 rfl (fun (h4 : (M.1 12) = 0) => ?_) (fun (h4 : ¬ (M.1 12) = 0) => ?_)
  · refine ts_iload_n dMO_delete_10 rfl rfl ?_
    refine ts_callS (cMO_isKey G S M key) pMO_C122.1 pMO_C122.2 rfl rfl ⟨Nat.le_of_ble_eq_true rfl, Nat.le_of_ble_eq_true rfl⟩ ⟨Nat.le_of_ble_eq_true rfl, Nat.le_of_ble_eq_true rfl⟩ rfl (Nat.le_of_ble_eq_true rfl) dMO_delete_11 ?_
    refine ts_conv (lo' := [.ref 17, .int key]) (st' := [.int (tc_isKey key)]) (h' := tc_h G S ++ tm_h G M) rfl rfl rfl ?_
    refine ts_if_ne (tgt := 19) dMO_delete_14 rfl (fun (h14 : ¬ (tc_isKey key) = 0) => ?_) (fun (h14 : (tc_isKey key) = 0) => ?_)
    · refine ts_aload_n dMO_delete_19 rfl rfl ?_
      refine ts_iload_n dMO_delete_20 rfl rfl ?_
      refine ts_iconst (v := 1) dMO_delete_21 (by decide) ?_
      refine ts_callV (cMO_find G S M key 1 hJ (tc_keyOf h14)) pMO_C125.1 pMO_C125.2 rfl rfl rfl rfl ⟨Nat.le_of_ble_eq_true rfl, Nat.le_of_ble_eq_true rfl⟩ ⟨Nat.le_of_ble_eq_true rfl, Nat.le_of_ble_eq_true rfl⟩ rfl (Nat.le_of_ble_eq_true rfl) dMO_delete_22 ?_
      refine ts_conv (lo' := [.ref 17, .int key]) (st' := [.int ((tc_find M key 1).1)]) (h' := tc_h G S ++ tm_h G ((tc_find M key 1).2)) rfl rfl rfl ?_
      refine ts_istore_n (lo' := [.ref 17, .int key, .int ((tc_find M key 1).1)]) dMO_delete_25 rfl (Nat.le_of_ble_eq_true rfl) (Nat.le_of_ble_eq_true rfl) rfl ?_
      refine ts_iload_n dMO_delete_26 rfl rfl ?_
      refine ts_if_lt (tgt := 39) dMO_delete_27 rfl (fun (h27 : ((tc_find M key 1).1) < 0) => ?_) (fun (h27 : ¬ ((tc_find M key 1).1) < 0) => ?_)
      · refine ts_iconst (v := 0) dMO_delete_39 (by decide) ?_
        refine ts_goto (tgt := 51) dMO_delete_40 rfl ?_
        have e : tc_delete M key = (0, (tc_find M key 1).2) := by simp only [tc_delete, ← tm_hv_eq (tm_find_o hJ (tc_keyOf h14)), tm_hv, tm_10, h4, h14, h27, ↓reduceIte]
        exact ts_iret dMO_delete_51 rfl (tc_e1 e) (tm_e2 e)
      · refine ts_aload_n dMO_delete_30 rfl rfl ?_
        refine ts_get pMO_F22 dMO_delete_31 rfl rfl ?_
        refine ts_iload_n dMO_delete_34 rfl rfl ?_
        refine ts_zald dMO_delete_35 rfl (tm_find_in hJ (tc_keyOf h14) h27) ?_
        refine ts_if_eq (tgt := 43) dMO_delete_36 rfl (fun (h36 : (tc_r ((tc_find M key 1).2) 5 ((tc_find M key 1).1)) = 0) => ?_) (fun (h36 : ¬ (tc_r ((tc_find M key 1).2) 5 ((tc_find M key 1).1)) = 0) => ?_)
        · refine ts_aload_n dMO_delete_43 rfl rfl ?_
          refine ts_iload_n dMO_delete_44 rfl rfl ?_
          refine ts_iload_n dMO_delete_45 rfl rfl ?_
          refine ts_iconst (v := 0) dMO_delete_46 (by decide) ?_
          refine ts_iconst (v := 1) dMO_delete_47 (by decide) ?_
          refine ts_callV (cMO_set G S ((tc_find M key 1).2) key ((tc_find M key 1).1) 0 1 (tc_find_I hJ) h4 (tc_find_T hJ (tc_keyOf h14)) (tc_keyOf h14) (Or.inr rfl)) pMO_C129.1 pMO_C129.2 rfl rfl rfl rfl ⟨Nat.le_of_ble_eq_true rfl, Nat.le_of_ble_eq_true rfl⟩ ⟨Nat.le_of_ble_eq_true rfl, Nat.le_of_ble_eq_true rfl⟩ rfl (Nat.le_of_ble_eq_true rfl) dMO_delete_48 ?_
          refine ts_conv (lo' := [.ref 17, .int key, .int ((tc_find M key 1).1)]) (st' := [.int ((tc_change ((tc_find M key 1).2) ((tc_find M key 1).1) key 0 1).1)]) (h' := tc_h G S ++ tm_h G ((tc_change ((tc_find M key 1).2) ((tc_find M key 1).1) key 0 1).2)) rfl rfl rfl ?_
          have e : tc_delete M key = ((tc_change ((tc_find M key 1).2) ((tc_find M key 1).1) key 0 1).1, (tc_change ((tc_find M key 1).2) ((tc_find M key 1).1) key 0 1).2) := by simp only [tc_delete, ← tm_hv_eq (tm_find_o hJ (tc_keyOf h14)), tm_hv, tm_10, h4, h14, h27, h36, ↓reduceIte]
          exact ts_iret dMO_delete_51 rfl (tc_e1 e) (tm_e2 e)
        · refine ts_iconst (v := 0) dMO_delete_39 (by decide) ?_
          refine ts_goto (tgt := 51) dMO_delete_40 rfl ?_
          have e : tc_delete M key = (0, (tc_find M key 1).2) := by simp only [tc_delete, ← tm_hv_eq (tm_find_o hJ (tc_keyOf h14)), tm_hv, tm_10, h4, h14, h27, h36, ↓reduceIte]
          exact ts_iret dMO_delete_51 rfl (tc_e1 e) (tm_e2 e)
    · refine ts_iconst (v := -1) dMO_delete_17 (by decide) ?_
      have e : tc_delete M key = ((-1), M) := by simp only [tc_delete, h4, h14, ↓reduceIte]
      exact ts_iret dMO_delete_18 rfl (tc_e1 e) (tm_e2 e)
  · refine ts_bipush (v := -9) dMO_delete_7 (by decide) ?_
    have e : tc_delete M key = ((-9), M) := by simp only [tc_delete, h4, ↓reduceIte]
    exact ts_iret dMO_delete_9 rfl (tc_e1 e) (tm_e2 e)
