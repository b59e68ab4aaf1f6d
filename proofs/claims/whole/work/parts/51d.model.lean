set_option maxHeartbeats 4000000 in
set_option maxRecDepth 100000 in
theorem cMO_block (G : ts_GX) (S : tc_S) (M : tc_S) (hJ : tj M) (h12 : M.1 12 = 0) : ts_M G yMO_block YMO_block [.ref 17] (tc_h G S ++ tm_h G M) (some (.int (tc_writeBlock M).1)) (tc_h G S ++ tm_h G ((tc_writeBlock M).2)) 0 0 := by
  refine ts_of rfl rfl rfl rfl rfl rfl (Nat.le_of_ble_eq_true rfl) (ts_cat1 rfl) (fun X => ?_)
  refine ts_aload_n dMO_block_0 rfl rfl ?_
  refine ts_dup dMO_block_1 rfl ?_
  refine ts_get pMO_F94 dMO_block_2 rfl rfl ?_
  refine ts_iconst (v := 1) dMO_block_5 (by decide) ?_
  refine ts_iadd dMO_block_6 ?_
  refine ts_put pMO_P94 dMO_block_7 rfl (Nat.le_of_ble_eq_true rfl) rfl rfl (h' := tc_h G S ++ tm_h G (tc_f M 14 ((M.1 14) + 1))) (tn_f14 _ _ _ _) ?_
  refine ts_aload_n dMO_block_10 rfl rfl ?_
  refine ts_get pMO_F97 dMO_block_11 rfl rfl ?_
  refine ts_iconst (v := 1) dMO_block_14 (by decide) ?_
  refine ts_icmp_ne (tgt := 22) dMO_block_15 rfl (fun (h15 : ¬ (M.1 13) = 1) => ?_) (fun (h15 : (M.1 13) = 1) => ?_)
  · refine ts_iconst (v := 0) dMO_block_22 (by decide) ?_
    refine ts_istore_n (lo' := [.ref 17, .int 0]) dMO_block_23 rfl (Nat.le_of_ble_eq_true rfl) (Nat.le_of_ble_eq_true rfl) rfl ?_
    refine ts_aload_n dMO_block_24 rfl rfl ?_
    refine ts_aload_n dMO_block_25 rfl rfl ?_
    refine ts_get pMO_F97 dMO_block_26 rfl rfl ?_
    refine ts_if_le (tgt := 41) dMO_block_29 rfl (fun (h29 : (M.1 13) ≤ 0) => ?_) (fun (h29 : ¬ (M.1 13) ≤ 0) => ?_)
    · refine ts_iconst (v := 0) dMO_block_41 (by decide) ?_
      refine ts_put pMO_P97 dMO_block_42 rfl (Nat.le_of_ble_eq_true rfl) rfl rfl (h' := tc_h G S ++ tm_h G (tc_f (tc_f M 14 ((M.1 14) + 1)) 13 0)) (tn_f13 _ _ _ _) ?_
      refine ts_aload_n dMO_block_45 rfl rfl ?_
      refine ts_aload_n dMO_block_46 rfl rfl ?_
      refine ts_get pMO_F100 dMO_block_47 rfl rfl ?_
      refine ts_if_ne (tgt := 57) dMO_block_50 rfl (fun (hq : ¬ (M.1 12) = 0) => absurd hq (fun q => q h12)) (fun _ => ?_)
      refine ts_iload_n dMO_block_53 rfl rfl ?_
      refine ts_if_eq (tgt := 61) dMO_block_54 rfl (fun _ => ?_) (fun (hq : ¬ (0 : Int32) = 0) => absurd hq (by decide))
      refine ts_iconst (v := 0) dMO_block_61 (by decide) ?_
      refine ts_put pMO_P100 dMO_block_62 rfl (Nat.le_of_ble_eq_true rfl) rfl rfl (h' := tc_h G S ++ tm_h G (tc_f (tc_f (tc_f M 14 ((M.1 14) + 1)) 13 0) 12 0)) (tn_f12 _ _ _ _) ?_
      refine ts_iload_n dMO_block_65 rfl rfl ?_
      refine ts_if_ne (tgt := 73) dMO_block_66 rfl (fun (hq : ¬ (0 : Int32) = 0) => absurd hq (by decide)) (fun _ => ?_)
      refine ts_iconst (v := 1) dMO_block_69 (by decide) ?_
      refine ts_goto (tgt := 74) dMO_block_70 rfl ?_
      have e : tc_writeBlock M = (1, tc_f (tc_f (tc_f M 14 ((M.1 14) + 1)) 13 0) 12 0) := by simp only [tc_writeBlock]; rw [if_pos h29, if_pos h12, tm_wb2 h12 (tm_f0 hJ h29)]
      exact ts_zret dMO_block_74 rfl (by decide) (tc_e1 e) (tm_e2 e)
    · refine ts_aload_n dMO_block_32 rfl rfl ?_
      refine ts_get pMO_F97 dMO_block_33 rfl rfl ?_
      refine ts_iconst (v := 1) dMO_block_36 (by decide) ?_
      refine ts_isub dMO_block_37 ?_
      refine ts_goto (tgt := 42) dMO_block_38 rfl ?_
      refine ts_put pMO_P97 dMO_block_42 rfl (Nat.le_of_ble_eq_true rfl) rfl rfl (h' := tc_h G S ++ tm_h G (tc_f (tc_f M 14 ((M.1 14) + 1)) 13 ((M.1 13) - 1))) (tn_f13 _ _ _ _) ?_
      refine ts_aload_n dMO_block_45 rfl rfl ?_
      refine ts_aload_n dMO_block_46 rfl rfl ?_
      refine ts_get pMO_F100 dMO_block_47 rfl rfl ?_
      refine ts_if_ne (tgt := 57) dMO_block_50 rfl (fun (hq : ¬ (M.1 12) = 0) => absurd hq (fun q => q h12)) (fun _ => ?_)
      refine ts_iload_n dMO_block_53 rfl rfl ?_
      refine ts_if_eq (tgt := 61) dMO_block_54 rfl (fun _ => ?_) (fun (hq : ¬ (0 : Int32) = 0) => absurd hq (by decide))
      refine ts_iconst (v := 0) dMO_block_61 (by decide) ?_
      refine ts_put pMO_P100 dMO_block_62 rfl (Nat.le_of_ble_eq_true rfl) rfl rfl (h' := tc_h G S ++ tm_h G (tc_f (tc_f (tc_f M 14 ((M.1 14) + 1)) 13 ((M.1 13) - 1)) 12 0)) (tn_f12 _ _ _ _) ?_
      refine ts_iload_n dMO_block_65 rfl rfl ?_
      refine ts_if_ne (tgt := 73) dMO_block_66 rfl (fun (hq : ¬ (0 : Int32) = 0) => absurd hq (by decide)) (fun _ => ?_)
      refine ts_iconst (v := 1) dMO_block_69 (by decide) ?_
      refine ts_goto (tgt := 74) dMO_block_70 rfl ?_
      have e : tc_writeBlock M = (1, tc_f (tc_f (tc_f M 14 ((M.1 14) + 1)) 13 ((M.1 13) - 1)) 12 0) := by simp only [tc_writeBlock]; rw [if_neg h29, if_neg (fun q => h15 (tm_one q))]
      exact ts_zret dMO_block_74 rfl (by decide) (tc_e1 e) (tm_e2 e)
  · refine ts_iconst (v := 1) dMO_block_18 (by decide) ?_
    refine ts_goto (tgt := 23) dMO_block_19 rfl ?_
    refine ts_istore_n (lo' := [.ref 17, .int 1]) dMO_block_23 rfl (Nat.le_of_ble_eq_true rfl) (Nat.le_of_ble_eq_true rfl) rfl ?_
    refine ts_aload_n dMO_block_24 rfl rfl ?_
    refine ts_aload_n dMO_block_25 rfl rfl ?_
    refine ts_get pMO_F97 dMO_block_26 rfl rfl ?_
    refine ts_if_le (tgt := 41) dMO_block_29 rfl (fun (hq : (M.1 13) ≤ 0) => absurd hq (by rw [h15]; decide)) (fun _ => ?_)
    refine ts_aload_n dMO_block_32 rfl rfl ?_
    refine ts_get pMO_F97 dMO_block_33 rfl rfl ?_
    refine ts_iconst (v := 1) dMO_block_36 (by decide) ?_
    refine ts_isub dMO_block_37 ?_
    refine ts_goto (tgt := 42) dMO_block_38 rfl ?_
    refine ts_put pMO_P97 dMO_block_42 rfl (Nat.le_of_ble_eq_true rfl) rfl rfl (h' := tc_h G S ++ tm_h G (tc_f (tc_f M 14 ((M.1 14) + 1)) 13 ((M.1 13) - 1))) (tn_f13 _ _ _ _) ?_
    refine ts_aload_n dMO_block_45 rfl rfl ?_
    refine ts_aload_n dMO_block_46 rfl rfl ?_
    refine ts_get pMO_F100 dMO_block_47 rfl rfl ?_
    refine ts_if_ne (tgt := 57) dMO_block_50 rfl (fun (hq : ¬ (M.1 12) = 0) => absurd hq (fun q => q h12)) (fun _ => ?_)
    refine ts_iload_n dMO_block_53 rfl rfl ?_
    refine ts_if_eq (tgt := 61) dMO_block_54 rfl (fun (hq : (1 : Int32) = 0) => absurd hq (by decide)) (fun _ => ?_)
    refine ts_iconst (v := 1) dMO_block_57 (by decide) ?_
    refine ts_goto (tgt := 62) dMO_block_58 rfl ?_
    refine ts_put pMO_P100 dMO_block_62 rfl (Nat.le_of_ble_eq_true rfl) rfl rfl (h' := tc_h G S ++ tm_h G (tc_f (tc_f (tc_f M 14 ((M.1 14) + 1)) 13 ((M.1 13) - 1)) 12 1)) (tn_f12 _ _ _ _) ?_
    refine ts_iload_n dMO_block_65 rfl rfl ?_
    refine ts_if_ne (tgt := 73) dMO_block_66 rfl (fun _ => ?_) (fun (hq : (1 : Int32) = 0) => absurd hq (by decide))
    refine ts_iconst (v := 0) dMO_block_73 (by decide) ?_
    have e : tc_writeBlock M = (0, tc_f (tc_f (tc_f M 14 ((M.1 14) + 1)) 13 ((M.1 13) - 1)) 12 1) := by simp only [tc_writeBlock]; rw [h15, if_neg (by decide), if_pos (by decide)]
    exact ts_zret dMO_block_74 rfl (by decide) (tc_e1 e) (tm_e2 e)
