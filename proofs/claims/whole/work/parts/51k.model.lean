set_option maxHeartbeats 4000000 in
set_option maxRecDepth 100000 in
theorem cMO_read (G : ts_GX) (S : tc_S) (M : tc_S) (key : Int32) (hJ : tj M) : ts_M G yMO_read YMO_read [.ref 17, .int key] (tc_h G S ++ tm_h G M) (some (.int (tc_read M key).1)) (tc_h G S ++ tm_h G ((tc_read M key).2)) 0 0 := by
  refine ts_of rfl rfl rfl rfl rfl rfl (Nat.le_of_ble_eq_true rfl) (ts_cat1 rfl) (fun X => ?_)
  refine ts_aload_n dMO_read_0 rfl rfl ?_
  refine ts_get pMO_F100 dMO_read_1 rfl rfl ?_
  refine ts_if_eq (tgt := 10) dMO_read_4 rfl (fun (h4 : (M.1 12) = 0) => ?_) (fun (h4 : ¬ (M.1 12) = 0) => ?_)
  · refine ts_iload_n dMO_read_10 rfl rfl ?_
    refine ts_callS (cMO_isKey G S M key) pMO_C122.1 pMO_C122.2 rfl rfl ⟨Nat.le_of_ble_eq_true rfl, Nat.le_of_ble_eq_true rfl⟩ ⟨Nat.le_of_ble_eq_true rfl, Nat.le_of_ble_eq_true rfl⟩ rfl (Nat.le_of_ble_eq_true rfl) dMO_read_11 ?_
    refine ts_conv (lo' := [.ref 17, .int key]) (st' := [.int (tc_isKey key)]) (h' := tc_h G S ++ tm_h G M) rfl rfl rfl ?_
    refine ts_if_ne (tgt := 19) dMO_read_14 rfl (fun (h14 : ¬ (tc_isKey key) = 0) => ?_) (fun (h14 : (tc_isKey key) = 0) => ?_)
    · refine ts_aload_n dMO_read_19 rfl rfl ?_
      refine ts_iload_n dMO_read_20 rfl rfl ?_
      refine ts_iconst (v := 1) dMO_read_21 (by decide) ?_
      refine ts_callV (cMO_find G S M key 1 hJ (tc_keyOf h14)) pMO_C125.1 pMO_C125.2 rfl rfl rfl rfl ⟨Nat.le_of_ble_eq_true rfl, Nat.le_of_ble_eq_true rfl⟩ ⟨Nat.le_of_ble_eq_true rfl, Nat.le_of_ble_eq_true rfl⟩ rfl (Nat.le_of_ble_eq_true rfl) dMO_read_22 ?_
      refine ts_conv (lo' := [.ref 17, .int key]) (st' := [.int ((tc_find M key 1).1)]) (h' := tc_h G S ++ tm_h G ((tc_find M key 1).2)) rfl rfl rfl ?_
      refine ts_istore_n (lo' := [.ref 17, .int key, .int ((tc_find M key 1).1)]) dMO_read_25 rfl (Nat.le_of_ble_eq_true rfl) (Nat.le_of_ble_eq_true rfl) rfl ?_
      refine ts_iload_n dMO_read_26 rfl rfl ?_
      refine ts_if_lt (tgt := 39) dMO_read_27 rfl (fun (h27 : ((tc_find M key 1).1) < 0) => ?_) (fun (h27 : ¬ ((tc_find M key 1).1) < 0) => ?_)
      · refine ts_iconst (v := 0) dMO_read_39 (by decide) ?_
        have e : tc_read M key = (0, (tc_find M key 1).2) := by simp only [tc_read, ← tm_hv_eq (tm_find_o hJ (tc_keyOf h14)), tm_hv, tm_10, h4, h14, h27, ↓reduceIte]
        exact ts_iret dMO_read_40 rfl (tc_e1 e) (tm_e2 e)
      · refine ts_aload_n dMO_read_30 rfl rfl ?_
        refine ts_get pMO_F22 dMO_read_31 rfl rfl ?_
        refine ts_iload_n dMO_read_34 rfl rfl ?_
        refine ts_zald dMO_read_35 rfl (tm_find_in hJ (tc_keyOf h14) h27) ?_
        refine ts_if_eq (tgt := 41) dMO_read_36 rfl (fun (h36 : (tc_r ((tc_find M key 1).2) 5 ((tc_find M key 1).1)) = 0) => ?_) (fun (h36 : ¬ (tc_r ((tc_find M key 1).2) 5 ((tc_find M key 1).1)) = 0) => ?_)
        · refine ts_aload_n dMO_read_41 rfl rfl ?_
          refine ts_aload_n dMO_read_42 rfl rfl ?_
          refine ts_get pMO_F13 dMO_read_43 rfl rfl ?_
          refine ts_iload_n dMO_read_46 rfl rfl ?_
          refine ts_iald dMO_read_47 rfl (tm_find_in hJ (tc_keyOf h14) h27) ?_
          refine ts_put pMO_P133 dMO_read_48 rfl (Nat.le_of_ble_eq_true rfl) rfl rfl (h' := tc_h G S ++ tm_h G (tc_f ((tc_find M key 1).2) 8 (tc_r ((tc_find M key 1).2) 2 ((tc_find M key 1).1)))) (tn_f8 _ _ _ _) ?_
          refine ts_iload_n dMO_read_51 rfl rfl ?_
          refine ts_aload_n dMO_read_52 rfl rfl ?_
          refine ts_get pMO_F72 dMO_read_53 rfl rfl ?_
          refine ts_icmp_lt (tgt := 63) dMO_read_56 rfl (fun (h56 : ((tc_find M key 1).1) < (((tc_find M key 1).2).1 5)) => ?_) (fun (h56 : ¬ ((tc_find M key 1).1) < (((tc_find M key 1).2).1 5)) => ?_)
          · refine ts_iload_n dMO_read_63 rfl rfl ?_
            refine ts_aload_n dMO_read_64 rfl rfl ?_
            refine ts_get pMO_F66 dMO_read_65 rfl rfl ?_
            refine ts_icmp_lt (tgt := 75) dMO_read_68 rfl (fun (h68 : ((tc_find M key 1).1) < (((tc_find M key 1).2).1 3)) => ?_) (fun (h68 : ¬ ((tc_find M key 1).1) < (((tc_find M key 1).2).1 3)) => ?_)
            · refine ts_iconst (v := 3) dMO_read_75 (by decide) ?_
              have e : tc_read M key = (3, tc_f ((tc_find M key 1).2) 8 (tc_r ((tc_find M key 1).2) 2 ((tc_find M key 1).1))) := by simp only [tc_read, ← tm_hv_eq (tm_find_o hJ (tc_keyOf h14)), tm_hv, tm_10, h4, h14, h27, h36, h56, h68, ↓reduceIte]
              exact ts_iret dMO_read_76 rfl (tc_e1 e) (tm_e2 e)
            · refine ts_iconst (v := 2) dMO_read_71 (by decide) ?_
              refine ts_goto (tgt := 76) dMO_read_72 rfl ?_
              have e : tc_read M key = (2, tc_f ((tc_find M key 1).2) 8 (tc_r ((tc_find M key 1).2) 2 ((tc_find M key 1).1))) := by simp only [tc_read, ← tm_hv_eq (tm_find_o hJ (tc_keyOf h14)), tm_hv, tm_10, h4, h14, h27, h36, h56, h68, ↓reduceIte]
              exact ts_iret dMO_read_76 rfl (tc_e1 e) (tm_e2 e)
          · refine ts_iconst (v := 1) dMO_read_59 (by decide) ?_
            refine ts_goto (tgt := 76) dMO_read_60 rfl ?_
            have e : tc_read M key = (1, tc_f ((tc_find M key 1).2) 8 (tc_r ((tc_find M key 1).2) 2 ((tc_find M key 1).1))) := by simp only [tc_read, ← tm_hv_eq (tm_find_o hJ (tc_keyOf h14)), tm_hv, tm_10, h4, h14, h27, h36, h56, ↓reduceIte]
            exact ts_iret dMO_read_76 rfl (tc_e1 e) (tm_e2 e)
        · refine ts_iconst (v := 0) dMO_read_39 (by decide) ?_
          have e : tc_read M key = (0, (tc_find M key 1).2) := by simp only [tc_read, ← tm_hv_eq (tm_find_o hJ (tc_keyOf h14)), tm_hv, tm_10, h4, h14, h27, h36, ↓reduceIte]
          exact ts_iret dMO_read_40 rfl (tc_e1 e) (tm_e2 e)
    · refine ts_iconst (v := -1) dMO_read_17 (by decide) ?_
      have e : tc_read M key = ((-1), M) := by simp only [tc_read, h4, h14, ↓reduceIte]
      exact ts_iret dMO_read_18 rfl (tc_e1 e) (tm_e2 e)
  · refine ts_bipush (v := -9) dMO_read_7 (by decide) ?_
    have e : tc_read M key = ((-9), M) := by simp only [tc_read, h4, ↓reduceIte]
    exact ts_iret dMO_read_9 rfl (tc_e1 e) (tm_e2 e)
