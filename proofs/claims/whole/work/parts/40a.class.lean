set_option maxHeartbeats 4000000 in
set_option maxRecDepth 100000 in
theorem cTS_isKey (G : ts_GX) (T : List va_E) (S : tc_S) (key : Int32) : ts_M G yTS_isKey YTS_isKey [.int key] (tc_h G S ++ T) (some (.int (tc_isKey key))) (tc_h G S ++ T) 0 0 := by
  refine ts_of rfl rfl rfl rfl rfl rfl (Nat.le_of_ble_eq_true rfl) (ts_cat1 rfl) (fun X => ?_)
  refine ts_iload_n dTS_isKey_0 rfl rfl ?_
  refine ts_if_lt (tgt := 14) dTS_isKey_1 rfl (fun (h1 : key < 0) => ?_) (fun (h1 : ¬ key < 0) => ?_)
  · refine ts_iconst (v := 0) dTS_isKey_14 (by decide) ?_
    have e : tc_isKey key = 0 := by simp only [tc_isKey, h1, ↓reduceIte]
    exact ts_zret dTS_isKey_15 rfl (by decide) (tc_e1v e) rfl
  · refine ts_iload_n dTS_isKey_4 rfl rfl ?_
    refine ts_bipush (v := 32) dTS_isKey_5 (by decide) ?_
    refine ts_icmp_ge (tgt := 14) dTS_isKey_7 rfl (fun (h7 : 32 ≤ key) => ?_) (fun (h7 : ¬ 32 ≤ key) => ?_)
    · refine ts_iconst (v := 0) dTS_isKey_14 (by decide) ?_
      have e : tc_isKey key = 0 := by simp only [tc_isKey, h1, h7, ↓reduceIte]
      exact ts_zret dTS_isKey_15 rfl (by decide) (tc_e1v e) rfl
    · refine ts_iconst (v := 1) dTS_isKey_10 (by decide) ?_
      refine ts_goto (tgt := 15) dTS_isKey_11 rfl ?_
      have e : tc_isKey key = 1 := by simp only [tc_isKey, h1, h7, ↓reduceIte]
      exact ts_zret dTS_isKey_15 rfl (by decide) (tc_e1v e) rfl
set_option maxHeartbeats 4000000 in
set_option maxRecDepth 100000 in
theorem cTS_pageEnd (G : ts_GX) (T : List va_E) (S : tc_S) (a : Int32) : ts_M G yTS_pageEnd YTS_pageEnd [.int a] (tc_h G S ++ T) (some (.int (tc_pageEnd a))) (tc_h G S ++ T) 0 0 := by
  refine ts_of rfl rfl rfl rfl rfl rfl (Nat.le_of_ble_eq_true rfl) (ts_cat1 rfl) (fun X => ?_)
  refine ts_iload_n dTS_pageEnd_0 rfl rfl ?_
  refine ts_iload_n dTS_pageEnd_1 rfl rfl ?_
  refine ts_iconst (v := 4) dTS_pageEnd_2 (by decide) ?_
  refine ts_irem dTS_pageEnd_3 (by decide) ?_
  refine ts_isub dTS_pageEnd_4 ?_
  refine ts_iconst (v := 4) dTS_pageEnd_5 (by decide) ?_
  refine ts_iadd dTS_pageEnd_6 ?_
  have e : tc_pageEnd a = (a - (tc_rem a 4)) + 4 := rfl
  exact ts_iret dTS_pageEnd_7 rfl (tc_e1v e) rfl
set_option maxHeartbeats 4000000 in
set_option maxRecDepth 100000 in
theorem cIX_count (G : ts_GX) (T : List va_E) (S : tc_S) : ts_M G yIX_count YIX_count [.ref 3] (tc_h G S ++ T) (some (.int (tc_count S))) (tc_h G S ++ T) 0 0 := by
  refine ts_of rfl rfl rfl rfl rfl rfl (Nat.le_of_ble_eq_true rfl) (ts_cat1 rfl) (fun X => ?_)
  refine ts_iconst (v := 1) dIX_count_0 (by decide) ?_
  refine ts_aload_n dIX_count_1 rfl rfl ?_
  refine ts_get pIX_F9 dIX_count_2 rfl rfl ?_
  refine ts_ishl dIX_count_5 ?_
  refine ts_aload_n dIX_count_6 rfl rfl ?_
  refine ts_get pIX_F25 dIX_count_7 rfl rfl ?_
  refine ts_iadd dIX_count_10 ?_
  have e : tc_count S = (tc_two (S.1 16)) + (S.1 17) := rfl
  exact ts_iret dIX_count_11 rfl (tc_e1v e) rfl
set_option maxHeartbeats 4000000 in
set_option maxRecDepth 100000 in
theorem cIX_bucketOf (G : ts_GX) (T : List va_E) (S : tc_S) (key : Int32) (hz : ¬ tc_two (S.1 16) = 0) (hz1 : ¬ tc_two (S.1 16 + 1) = 0) : ts_M G yIX_bucketOf YIX_bucketOf [.ref 3, .int key] (tc_h G S ++ T) (some (.int (tc_bucketOf S key))) (tc_h G S ++ T) 0 0 := by
  refine ts_of rfl rfl rfl rfl rfl rfl (Nat.le_of_ble_eq_true rfl) (ts_cat1 rfl) (fun X => ?_)
  refine ts_bipush (v := 13) dIX_bucketOf_0 (by decide) ?_
  refine ts_iload_n dIX_bucketOf_2 rfl rfl ?_
  refine ts_imul dIX_bucketOf_3 ?_
  refine ts_iconst (v := 5) dIX_bucketOf_4 (by decide) ?_
  refine ts_iadd dIX_bucketOf_5 ?_
  refine ts_bipush (v := 32) dIX_bucketOf_6 (by decide) ?_
  refine ts_irem dIX_bucketOf_8 (by decide) ?_
  refine ts_istore_n (lo' := [.ref 3, .int key, .int (tc_rem ((13 * key) + 5) 32)]) dIX_bucketOf_9 rfl (Nat.le_of_ble_eq_true rfl) (Nat.le_of_ble_eq_true rfl) rfl ?_
  refine ts_iload_n dIX_bucketOf_10 rfl rfl ?_
  refine ts_iconst (v := 1) dIX_bucketOf_11 (by decide) ?_
  refine ts_aload_n dIX_bucketOf_12 rfl rfl ?_
  refine ts_get pIX_F9 dIX_bucketOf_13 rfl rfl ?_
  refine ts_ishl dIX_bucketOf_16 ?_
  refine ts_irem dIX_bucketOf_17 hz ?_
  refine ts_istore_n (lo' := [.ref 3, .int key, .int (tc_rem ((13 * key) + 5) 32), .int (tc_rem (tc_rem ((13 * key) + 5) 32) (tc_two (S.1 16)))]) dIX_bucketOf_18 rfl (Nat.le_of_ble_eq_true rfl) (Nat.le_of_ble_eq_true rfl) rfl ?_
  refine ts_iload_n dIX_bucketOf_19 rfl rfl ?_
  refine ts_aload_n dIX_bucketOf_20 rfl rfl ?_
  refine ts_get pIX_F25 dIX_bucketOf_21 rfl rfl ?_
  refine ts_icmp_ge (tgt := 40) dIX_bucketOf_24 rfl (fun (h24 : (S.1 17) ≤ (tc_rem (tc_rem ((13 * key) + 5) 32) (tc_two (S.1 16)))) => ?_) (fun (h24 : ¬ (S.1 17) ≤ (tc_rem (tc_rem ((13 * key) + 5) 32) (tc_two (S.1 16)))) => ?_)
  · refine ts_iload_n dIX_bucketOf_40 rfl rfl ?_
    have e : tc_bucketOf S key = tc_rem (tc_rem ((13 * key) + 5) 32) (tc_two (S.1 16)) := by simp only [tc_bucketOf, tc_low, tc_hash, h24, ↓reduceIte]
    exact ts_iret dIX_bucketOf_41 rfl (tc_e1v e) rfl
  · refine ts_iload_n dIX_bucketOf_27 rfl rfl ?_
    refine ts_iconst (v := 1) dIX_bucketOf_28 (by decide) ?_
    refine ts_aload_n dIX_bucketOf_29 rfl rfl ?_
    refine ts_get pIX_F9 dIX_bucketOf_30 rfl rfl ?_
    refine ts_iconst (v := 1) dIX_bucketOf_33 (by decide) ?_
    refine ts_iadd dIX_bucketOf_34 ?_
    refine ts_ishl dIX_bucketOf_35 ?_
    refine ts_irem dIX_bucketOf_36 hz1 ?_
    refine ts_goto (tgt := 41) dIX_bucketOf_37 rfl ?_
    have e : tc_bucketOf S key = tc_rem (tc_rem ((13 * key) + 5) 32) (tc_two ((S.1 16) + 1)) := by simp only [tc_bucketOf, tc_low, tc_hash, h24, ↓reduceIte]
    exact ts_iret dIX_bucketOf_41 rfl (tc_e1v e) rfl
set_option maxHeartbeats 4000000 in
set_option maxRecDepth 100000 in
theorem cIX_twin (G : ts_GX) (T : List va_E) (S : tc_S) (hI : tj S) (hc : tc_count S < 16) : ts_M G yIX_twin YIX_twin [.ref 3] (tc_h G S ++ T) none (tc_h G (tc_twin S) ++ T) 0 0 := by
  refine ts_of rfl rfl rfl rfl rfl rfl (Nat.le_of_ble_eq_true rfl) (ts_cat1 rfl) (fun X => ?_)
  refine ts_aload_n dIX_twin_0 rfl rfl ?_
  refine ts_get pIX_F15 dIX_twin_1 rfl rfl ?_
  refine ts_aload_n dIX_twin_4 rfl rfl ?_
  refine ts_callV (cIX_count G T S) pIX_C28.1 pIX_C28.2 rfl rfl rfl rfl ⟨Nat.le_of_ble_eq_true rfl, Nat.le_of_ble_eq_true rfl⟩ ⟨Nat.le_of_ble_eq_true rfl, Nat.le_of_ble_eq_true rfl⟩ rfl (Nat.le_of_ble_eq_true rfl) dIX_twin_5 ?_
  refine ts_conv (lo' := [.ref 3]) (st' := [.int (tc_count S), .ref 4]) (h' := tc_h G S ++ T) rfl rfl rfl ?_
  refine ts_aload_n dIX_twin_8 rfl rfl ?_
  refine ts_get pIX_F15 dIX_twin_9 rfl rfl ?_
  refine ts_aload_n dIX_twin_12 rfl rfl ?_
  refine ts_get pIX_F25 dIX_twin_13 rfl rfl ?_
  refine ts_iald dIX_twin_16 rfl (tc_inSplit hI) ?_
  refine ts_iast dIX_twin_17 rfl (tc_inCount hI hc) (h' := tc_h G (tc_a S 0 (tc_count S) (tc_r S 0 (S.1 17))) ++ T) (th_a0 _ _ _ _ _) ?_
  refine ts_aload_n dIX_twin_18 rfl rfl ?_
  refine ts_dup dIX_twin_19 rfl ?_
  refine ts_get pIX_F25 dIX_twin_20 rfl rfl ?_
  refine ts_iconst (v := 1) dIX_twin_23 (by decide) ?_
  refine ts_iadd dIX_twin_24 ?_
  refine ts_put pIX_P25 dIX_twin_25 rfl (Nat.le_of_ble_eq_true rfl) rfl rfl (h' := tc_h G (tc_f (tc_a S 0 (tc_count S) (tc_r S 0 (S.1 17))) 17 ((S.1 17) + 1)) ++ T) (th_f17 _ _ _ _) ?_
  refine ts_aload_n dIX_twin_28 rfl rfl ?_
  refine ts_get pIX_F25 dIX_twin_29 rfl rfl ?_
  refine ts_iconst (v := 1) dIX_twin_32 (by decide) ?_
  refine ts_aload_n dIX_twin_33 rfl rfl ?_
  refine ts_get pIX_F9 dIX_twin_34 rfl rfl ?_
  refine ts_ishl dIX_twin_37 ?_
  refine ts_icmp_ne (tgt := 56) dIX_twin_38 rfl (fun (h38 : ¬ ((S.1 17) + 1) = (tc_two (S.1 16))) => ?_) (fun (h38 : ((S.1 17) + 1) = (tc_two (S.1 16))) => ?_)
  · have e : tc_twin S = tc_f (tc_a S 0 (tc_count S) (tc_r S 0 (S.1 17))) 17 ((S.1 17) + 1) := by simp only [tc_twin, h38, ↓reduceIte]
    exact ts_vret dIX_twin_56 rfl rfl (tc_e3 e)
  · refine ts_aload_n dIX_twin_41 rfl rfl ?_
    refine ts_dup dIX_twin_42 rfl ?_
    refine ts_get pIX_F9 dIX_twin_43 rfl rfl ?_
    refine ts_iconst (v := 1) dIX_twin_46 (by decide) ?_
    refine ts_iadd dIX_twin_47 ?_
    refine ts_put pIX_P9 dIX_twin_48 rfl (Nat.le_of_ble_eq_true rfl) rfl rfl (h' := tc_h G (tc_f (tc_f (tc_a S 0 (tc_count S) (tc_r S 0 (S.1 17))) 17 ((S.1 17) + 1)) 16 ((S.1 16) + 1)) ++ T) (th_f16 _ _ _ _) ?_
    refine ts_aload_n dIX_twin_51 rfl rfl ?_
    refine ts_iconst (v := 0) dIX_twin_52 (by decide) ?_
    refine ts_put pIX_P25 dIX_twin_53 rfl (Nat.le_of_ble_eq_true rfl) rfl rfl (h' := tc_h G (tc_f (tc_f (tc_f (tc_a S 0 (tc_count S) (tc_r S 0 (S.1 17))) 17 ((S.1 17) + 1)) 16 ((S.1 16) + 1)) 17 0) ++ T) (th_f17 _ _ _ _) ?_
    have e : tc_twin S = tc_f (tc_f (tc_f (tc_a S 0 (tc_count S) (tc_r S 0 (S.1 17))) 17 ((S.1 17) + 1)) 16 ((S.1 16) + 1)) 17 0 := by simp only [tc_twin, h38, ↓reduceIte]
    exact ts_vret dIX_twin_56 rfl rfl (tc_e3 e)
