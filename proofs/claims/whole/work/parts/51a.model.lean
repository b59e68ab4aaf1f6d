set_option maxHeartbeats 4000000 in
set_option maxRecDepth 100000 in
theorem cMO_isKey (G : ts_GX) (S : tc_S) (M : tc_S) (key : Int32) : ts_M G yMO_isKey YMO_isKey [.int key] (tc_h G S ++ tm_h G M) (some (.int (tc_isKey key))) (tc_h G S ++ tm_h G M) 0 0 := by
  refine ts_of rfl rfl rfl rfl rfl rfl (Nat.le_of_ble_eq_true rfl) (ts_cat1 rfl) (fun X => ?_)
  refine ts_iload_n dMO_isKey_0 rfl rfl ?_
  refine ts_if_lt (tgt := 14) dMO_isKey_1 rfl (fun (h1 : key < 0) => ?_) (fun (h1 : ¬ key < 0) => ?_)
  · refine ts_iconst (v := 0) dMO_isKey_14 (by decide) ?_
    have e : tc_isKey key = 0 := by simp only [tc_isKey, h1, ↓reduceIte]
    exact ts_zret dMO_isKey_15 rfl (by decide) (tc_e1v e) rfl
  · refine ts_iload_n dMO_isKey_4 rfl rfl ?_
    refine ts_bipush (v := 32) dMO_isKey_5 (by decide) ?_
    refine ts_icmp_ge (tgt := 14) dMO_isKey_7 rfl (fun (h7 : 32 ≤ key) => ?_) (fun (h7 : ¬ 32 ≤ key) => ?_)
    · refine ts_iconst (v := 0) dMO_isKey_14 (by decide) ?_
      have e : tc_isKey key = 0 := by simp only [tc_isKey, h1, h7, ↓reduceIte]
      exact ts_zret dMO_isKey_15 rfl (by decide) (tc_e1v e) rfl
    · refine ts_iconst (v := 1) dMO_isKey_10 (by decide) ?_
      refine ts_goto (tgt := 15) dMO_isKey_11 rfl ?_
      have e : tc_isKey key = 1 := by simp only [tc_isKey, h1, h7, ↓reduceIte]
      exact ts_zret dMO_isKey_15 rfl (by decide) (tc_e1v e) rfl
set_option maxHeartbeats 4000000 in
set_option maxRecDepth 100000 in
theorem cMO_pageEnd (G : ts_GX) (S : tc_S) (M : tc_S) (a : Int32) : ts_M G yMO_pageEnd YMO_pageEnd [.int a] (tc_h G S ++ tm_h G M) (some (.int (tc_pageEnd a))) (tc_h G S ++ tm_h G M) 0 0 := by
  refine ts_of rfl rfl rfl rfl rfl rfl (Nat.le_of_ble_eq_true rfl) (ts_cat1 rfl) (fun X => ?_)
  refine ts_iload_n dMO_pageEnd_0 rfl rfl ?_
  refine ts_iload_n dMO_pageEnd_1 rfl rfl ?_
  refine ts_iconst (v := 4) dMO_pageEnd_2 (by decide) ?_
  refine ts_irem dMO_pageEnd_3 (by decide) ?_
  refine ts_isub dMO_pageEnd_4 ?_
  refine ts_iconst (v := 4) dMO_pageEnd_5 (by decide) ?_
  refine ts_iadd dMO_pageEnd_6 ?_
  have e : tc_pageEnd a = (a - (tc_rem a 4)) + 4 := rfl
  exact ts_iret dMO_pageEnd_7 rfl (tc_e1v e) rfl
set_option maxHeartbeats 4000000 in
set_option maxRecDepth 100000 in
theorem cMO_bucketCount (G : ts_GX) (S : tc_S) (M : tc_S)  : ts_M G yMO_bucketCount YMO_bucketCount [.ref 17] (tc_h G S ++ tm_h G M) (some (.int (tc_count M))) (tc_h G S ++ tm_h G M) 0 0 := by
  refine ts_of rfl rfl rfl rfl rfl rfl (Nat.le_of_ble_eq_true rfl) (ts_cat1 rfl) (fun X => ?_)
  refine ts_iconst (v := 1) dMO_bucketCount_0 (by decide) ?_
  refine ts_aload_n dMO_bucketCount_1 rfl rfl ?_
  refine ts_get pMO_F78 dMO_bucketCount_2 rfl rfl ?_
  refine ts_ishl dMO_bucketCount_5 ?_
  refine ts_aload_n dMO_bucketCount_6 rfl rfl ?_
  refine ts_get pMO_F81 dMO_bucketCount_7 rfl rfl ?_
  refine ts_iadd dMO_bucketCount_10 ?_
  have e : tc_count M = (tc_two (M.1 16)) + (M.1 17) := rfl
  exact ts_iret dMO_bucketCount_11 rfl (tc_e1v e) rfl
set_option maxHeartbeats 4000000 in
set_option maxRecDepth 100000 in
theorem cMO_bucketOf (G : ts_GX) (S : tc_S) (M : tc_S) (key : Int32) (hJ : tj M) : ts_M G yMO_bucketOf YMO_bucketOf [.ref 17, .int key] (tc_h G S ++ tm_h G M) (some (.int (tc_bucketOf M key))) (tc_h G S ++ tm_h G M) 0 0 := by
  refine ts_of rfl rfl rfl rfl rfl rfl (Nat.le_of_ble_eq_true rfl) (ts_cat1 rfl) (fun X => ?_)
  refine ts_bipush (v := 13) dMO_bucketOf_0 (by decide) ?_
  refine ts_iload_n dMO_bucketOf_2 rfl rfl ?_
  refine ts_imul dMO_bucketOf_3 ?_
  refine ts_iconst (v := 5) dMO_bucketOf_4 (by decide) ?_
  refine ts_iadd dMO_bucketOf_5 ?_
  refine ts_bipush (v := 32) dMO_bucketOf_6 (by decide) ?_
  refine ts_irem dMO_bucketOf_8 (by decide) ?_
  refine ts_istore_n (lo' := [.ref 17, .int key, .int (tc_rem ((13 * key) + 5) 32)]) dMO_bucketOf_9 rfl (Nat.le_of_ble_eq_true rfl) (Nat.le_of_ble_eq_true rfl) rfl ?_
  refine ts_iload_n dMO_bucketOf_10 rfl rfl ?_
  refine ts_iconst (v := 1) dMO_bucketOf_11 (by decide) ?_
  refine ts_aload_n dMO_bucketOf_12 rfl rfl ?_
  refine ts_get pMO_F78 dMO_bucketOf_13 rfl rfl ?_
  refine ts_ishl dMO_bucketOf_16 ?_
  refine ts_irem dMO_bucketOf_17 (tc_nz hJ) ?_
  refine ts_istore_n (lo' := [.ref 17, .int key, .int (tc_rem ((13 * key) + 5) 32), .int (tc_rem (tc_rem ((13 * key) + 5) 32) (tc_two (M.1 16)))]) dMO_bucketOf_18 rfl (Nat.le_of_ble_eq_true rfl) (Nat.le_of_ble_eq_true rfl) rfl ?_
  refine ts_iload_n dMO_bucketOf_19 rfl rfl ?_
  refine ts_aload_n dMO_bucketOf_20 rfl rfl ?_
  refine ts_get pMO_F81 dMO_bucketOf_21 rfl rfl ?_
  refine ts_icmp_ge (tgt := 38) dMO_bucketOf_24 rfl (fun (h24 : (M.1 17) ≤ (tc_rem (tc_rem ((13 * key) + 5) 32) (tc_two (M.1 16)))) => ?_) (fun (h24 : ¬ (M.1 17) ≤ (tc_rem (tc_rem ((13 * key) + 5) 32) (tc_two (M.1 16)))) => ?_)
  · refine ts_iload_n dMO_bucketOf_38 rfl rfl ?_
    have e : tc_bucketOf M key = tc_rem (tc_rem ((13 * key) + 5) 32) (tc_two (M.1 16)) := by simp only [tc_bucketOf, tc_low, tc_hash, h24, ↓reduceIte]
    exact ts_iret dMO_bucketOf_39 rfl (tc_e1v e) rfl
  · refine ts_iload_n dMO_bucketOf_27 rfl rfl ?_
    refine ts_iconst (v := 2) dMO_bucketOf_28 (by decide) ?_
    refine ts_aload_n dMO_bucketOf_29 rfl rfl ?_
    refine ts_get pMO_F78 dMO_bucketOf_30 rfl rfl ?_
    refine ts_ishl dMO_bucketOf_33 ?_
    refine ts_conv (lo' := [.ref 17, .int key, .int (tc_rem ((13 * key) + 5) 32), .int (tc_rem (tc_rem ((13 * key) + 5) 32) (tc_two (M.1 16)))]) (st' := [.int (tc_two (M.1 16 + 1)), .int (tc_rem ((13 * key) + 5) 32)]) (h' := tc_h G S ++ tm_h G M) rfl (by rw [tm_two hJ]) rfl ?_
    refine ts_irem dMO_bucketOf_34 (tc_nz1 hJ) ?_
    refine ts_goto (tgt := 39) dMO_bucketOf_35 rfl ?_
    have e : tc_bucketOf M key = tc_rem (tc_rem ((13 * key) + 5) 32) (tc_two (M.1 16 + 1)) := by simp only [tc_bucketOf, tc_low, tc_hash, h24, ↓reduceIte]
    exact ts_iret dMO_bucketOf_39 rfl (tc_e1v e) rfl
set_option maxHeartbeats 4000000 in
set_option maxRecDepth 100000 in
theorem cMO_value (G : ts_GX) (S : tc_S) (M : tc_S)  : ts_M G yMO_value YMO_value [.ref 17] (tc_h G S ++ tm_h G M) (some (.int (M.1 8))) (tc_h G S ++ tm_h G M) 0 0 := by
  refine ts_of rfl rfl rfl rfl rfl rfl (Nat.le_of_ble_eq_true rfl) (ts_cat1 rfl) (fun X => ?_)
  refine ts_aload_n dMO_value_0 rfl rfl ?_
  refine ts_get pMO_F133 dMO_value_1 rfl rfl ?_
  have e : M.1 8 = M.1 8 := rfl
  exact ts_iret dMO_value_4 rfl (tc_e1v e) rfl
