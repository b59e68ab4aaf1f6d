set_option maxHeartbeats 4000000 in
set_option maxRecDepth 100000 in
theorem cTS_isKey (G : ts_GX) (T : List va_E) (S : tc_S) (key : Int32) : ts_M G yTS_isKey YTS_isKey [.int key] (tc_h G S ++ T) (some (.int (tc_isKey key))) (tc_h G S ++ T) 0 0 := by
  refine ts_of rfl rfl rfl rfl rfl rfl (Nat.le_of_ble_eq_true rfl) (ts_cat1 rfl) (fun X => ?_)
  refine ts_iload_n dTS_isKey_0 rfl rfl ?_
  refine ts_if_lt (tgt := 14) dTS_isKey_1 rfl (fun (h1 : key < 0) => ?_) (fun (h1 : ¬ key < 0) => ?_)
  · refine ts_iconst (v := 0) dTS_isKey_14 (by decide) ?_
    have e : tc_isKey key = 0 := by simp only [tc_isKey, h1, ↓reduceIte]
    exact ts_zret dTS_isKey_15 rfl (by decide) (tc_e1v e) rfl
  · refine ts_iload_n dTS_isKey_4 rfl rfl ?_
    refine ts_bipush (v := 32) dTS_isKey_5 (by decide) ?_
    refine ts_icmp_ge (tgt := 14) dTS_isKey_7 rfl (fun (h7 : 32 ≤ key) => ?_) (fun (h7 : ¬ 32 ≤ key) => ?_)
    · refine ts_iconst (v := 0) dTS_isKey_14 (by decide) ?_
      have e : tc_isKey key = 0 := by simp only [tc_isKey, h1, h7, ↓reduceIte]
      exact ts_zret dTS_isKey_15 rfl (by decide) (tc_e1v e) rfl
    · refine ts_iconst (v := 1) dTS_isKey_10 (by decide) ?_
      refine ts_goto (tgt := 15) dTS_isKey_11 rfl ?_
      have e : tc_isKey key = 1 := by simp only [tc_isKey, h1, h7, ↓reduceIte]
      exact ts_zret dTS_isKey_15 rfl (by decide) (tc_e1v e) rfl
set_option maxHeartbeats 4000000 in
set_option maxRecDepth 100000 in
theorem cTS_pageEnd (G : ts_GX) (T : List va_E) (S : tc_S) (a : Int32) : ts_M G yTS_pageEnd YTS_pageEnd [.int a] (tc_h G S ++ T) (some (.int (tc_pageEnd a))) (tc_h G S ++ T) 0 0 := by
  refine ts_of rfl rfl rfl rfl rfl rfl (Nat.le_of_ble_eq_true rfl) (ts_cat1 rfl) (fun X => ?_)
  refine ts_iload_n dTS_pageEnd_0 rfl rfl ?_
  refine ts_iload_n dTS_pageEnd_1 rfl rfl ?_
  refine ts_iconst (v := 4) dTS_pageEnd_2 (by decide) ?_
  refine ts_irem dTS_pageEnd_3 (by decide) ?_
  refine ts_isub dTS_pageEnd_4 ?_
  refine ts_iconst (v := 4) dTS_pageEnd_5 (by decide) ?_
  refine ts_iadd dTS_pageEnd_6 ?_
  have e : tc_pageEnd a = (a - (tc_rem a 4)) + 4 := rfl
  exact ts_iret dTS_pageEnd_7 rfl (tc_e1v e) rfl
set_option maxHeartbeats 4000000 in
set_option maxRecDepth 100000 in
theorem cIX_count (G : ts_GX) (T : List va_E) (S : tc_S) : ts_M G yIX_count YIX_count [.ref 3] (tc_h G S ++ T) (some (.int (tc_count S))) (tc_h G S ++ T) 0 0 := by
  refine ts_of rfl rfl rfl rfl rfl rfl (Nat.le_of_ble_eq_true rfl) (ts_cat1 rfl) (fun X => ?_)
  refine ts_iconst (v := 1) dIX_count_0 (by decide) ?_
  refine ts_aload_n dIX_count_1 rfl rfl ?_
  refine ts_get pIX_F9 dIX_count_2 rfl rfl ?_
  refine ts_ishl dIX_count_5 ?_
  refine ts_aload_n dIX_count_6 rfl rfl ?_
  refine ts_get pIX_F25 dIX_count_7 rfl rfl ?_
  refine ts_iadd dIX_count_10 ?_
  have e : tc_count S = (tc_two (S.1 16)) + (S.1 17) := rfl
  exact ts_iret dIX_count_11 rfl (tc_e1v e) rfl
set_option maxHeartbeats 4000000 in
set_option maxRecDepth 100000 in
theorem cIX_bucketOf (G : ts_GX) (T : List va_E) (S : tc_S) (key : Int32) (hz : ¬ tc_two (S.1 16) = 0) (hz1 : ¬ tc_two (S.1 16 + 1) = 0) : ts_M G yIX_bucketOf YIX_bucketOf [.ref 3, .int key] (tc_h G S ++ T) (some (.int (tc_bucketOf S key))) (tc_h G S ++ T) 0 0 := by
  refine ts_of rfl rfl rfl rfl rfl rfl (Nat.le_of_ble_eq_true rfl) (ts_cat1 rfl) (fun X => ?_)
  refine ts_bipush (v := 13) dIX_bucketOf_0 (by decide) ?_
  refine ts_iload_n dIX_bucketOf_2 rfl rfl ?_
  refine ts_imul dIX_bucketOf_3 ?_
  refine ts_iconst (v := 5) dIX_bucketOf_4 (by decide) ?_
  refine ts_iadd dIX_bucketOf_5 ?_
  refine ts_bipush (v := 32) dIX_bucketOf_6 (by decide) ?_
  refine ts_irem dIX_bucketOf_8 (by decide) ?_
  refine ts_istore_n (lo' := [.ref 3, .int key, .int (tc_rem ((13 * key) + 5) 32)]) dIX_bucketOf_9 rfl (Nat.le_of_ble_eq_true rfl) (Nat.le_of_ble_eq_true rfl) rfl ?_
  refine ts_iload_n dIX_bucketOf_10 rfl rfl ?_
  refine ts_iconst (v := 1) dIX_bucketOf_11 (by decide) ?_
  refine ts_aload_n dIX_bucketOf_12 rfl rfl ?_
  refine ts_get pIX_F9 dIX_bucketOf_13 rfl rfl ?_
  refine ts_ishl dIX_bucketOf_16 ?_
  refine ts_irem dIX_bucketOf_17 hz ?_
  refine ts_istore_n (lo' := [.ref 3, .int key, .int (tc_rem ((13 * key) + 5) 32), .int (tc_rem (tc_rem ((13 * key) + 5) 32) (tc_two (S.1 16)))]) dIX_bucketOf_18 rfl (Nat.le_of_ble_eq_true rfl) (Nat.le_of_ble_eq_true rfl) rfl ?_
  refine ts_iload_n dIX_bucketOf_19 rfl rfl ?_
  refine ts_aload_n dIX_bucketOf_20 rfl rfl ?_
  refine ts_get pIX_F25 dIX_bucketOf_21 rfl rfl ?_
  refine ts_icmp_ge (tgt := 40) dIX_bucketOf_24 rfl (fun (h24 : (S.1 17) ≤ (tc_rem (tc_rem ((13 * key) + 5) 32) (tc_two (S.1 16)))) => ?_) (fun (h24 : ¬ (S.1 17) ≤ (tc_rem (tc_rem ((13 * key) + 5) 32) (tc_two (S.1 16)))) => ?_)
  · refine ts_iload_n dIX_bucketOf_40 rfl rfl ?_
    have e : tc_bucketOf S key = tc_rem (tc_rem ((13 * key) + 5) 32) (tc_two (S.1 16)) := by simp only [tc_bucketOf, tc_low, tc_hash, h24, ↓reduceIte]
    exact ts_iret dIX_bucketOf_41 rfl (tc_e1v e) rfl
  · refine ts_iload_n dIX_bucketOf_27 rfl rfl ?_
    refine ts_iconst (v := 1) dIX_bucketOf_28 (by decide) ?_
    refine ts_aload_n dIX_bucketOf_29 rfl rfl ?_
    refine ts_get pIX_F9 dIX_bucketOf_30 rfl rfl ?_
    refine ts_iconst (v := 1) dIX_bucketOf_33 (by decide) ?_
    refine ts_iadd dIX_bucketOf_34 ?_
    refine ts_ishl dIX_bucketOf_35 ?_
    refine ts_irem dIX_bucketOf_36 hz1 ?_
    refine ts_goto (tgt := 41) dIX_bucketOf_37 rfl ?_
    have e : tc_bucketOf S key = tc_rem (tc_rem ((13 * key) + 5) 32) (tc_two ((S.1 16) + 1)) := by simp only [tc_bucketOf, tc_low, tc_hash, h24, ↓reduceIte]
    exact ts_iret dIX_bucketOf_41 rfl (tc_e1v e) rfl
set_option maxHeartbeats 4000000 in
set_option maxRecDepth 100000 in
theorem cIX_twin (G : ts_GX) (T : List va_E) (S : tc_S) (hI : tj S) (hc : tc_count S < 16) : ts_M G yIX_twin YIX_twin [.ref 3] (tc_h G S ++ T) none (tc_h G (tc_twin S) ++ T) 0 0 := by
  refine ts_of rfl rfl rfl rfl rfl rfl (Nat.le_of_ble_eq_true rfl) (ts_cat1 rfl) (fun X => ?_)
  refine ts_aload_n dIX_twin_0 rfl rfl ?_
  refine ts_get pIX_F15 dIX_twin_1 rfl rfl ?_
  refine ts_aload_n dIX_twin_4 rfl rfl ?_
  refine ts_callV (cIX_count G T S) pIX_C28.1 pIX_C28.2 rfl rfl rfl rfl ⟨Nat.le_of_ble_eq_true rfl, Nat.le_of_ble_eq_true rfl⟩ ⟨Nat.le_of_ble_eq_true rfl, Nat.le_of_ble_eq_true rfl⟩ rfl (Nat.le_of_ble_eq_true rfl) dIX_twin_5 ?_
  refine ts_conv (lo' := [.ref 3]) (st' := [.int (tc_count S), .ref 4]) (h' := tc_h G S ++ T) rfl rfl rfl ?_
  refine ts_aload_n dIX_twin_8 rfl rfl ?_
  refine ts_get pIX_F15 dIX_twin_9 rfl rfl ?_
  refine ts_aload_n dIX_twin_12 rfl rfl ?_
  refine ts_get pIX_F25 dIX_twin_13 rfl rfl ?_
  refine ts_iald dIX_twin_16 rfl (tc_inSplit hI) ?_
  refine ts_iast dIX_twin_17 rfl (tc_inCount hI hc) (h' := tc_h G (tc_a S 0 (tc_count S) (tc_r S 0 (S.1 17))) ++ T) rfl ?_
  refine ts_aload_n dIX_twin_18 rfl rfl ?_
  refine ts_dup dIX_twin_19 rfl ?_
  refine ts_get pIX_F25 dIX_twin_20 rfl rfl ?_
  refine ts_iconst (v := 1) dIX_twin_23 (by decide) ?_
  refine ts_iadd dIX_twin_24 ?_
  refine ts_put pIX_P25 dIX_twin_25 rfl (Nat.le_of_ble_eq_true rfl) rfl rfl (h' := tc_h G (tc_f (tc_a S 0 (tc_count S) (tc_r S 0 (S.1 17))) 17 ((S.1 17) + 1)) ++ T) rfl ?_
  refine ts_aload_n dIX_twin_28 rfl rfl ?_
  refine ts_get pIX_F25 dIX_twin_29 rfl rfl ?_
  refine ts_iconst (v := 1) dIX_twin_32 (by decide) ?_
  refine ts_aload_n dIX_twin_33 rfl rfl ?_
  refine ts_get pIX_F9 dIX_twin_34 rfl rfl ?_
  refine ts_ishl dIX_twin_37 ?_
  refine ts_icmp_ne (tgt := 56) dIX_twin_38 rfl (fun (h38 : ¬ ((S.1 17) + 1) = (tc_two (S.1 16))) => ?_) (fun (h38 : ((S.1 17) + 1) = (tc_two (S.1 16))) => ?_)
  · have e : tc_twin S = tc_f (tc_a S 0 (tc_count S) (tc_r S 0 (S.1 17))) 17 ((S.1 17) + 1) := by simp only [tc_twin, h38, ↓reduceIte]
    exact ts_vret dIX_twin_56 rfl rfl (tc_e3 e)
  · refine ts_aload_n dIX_twin_41 rfl rfl ?_
    refine ts_dup dIX_twin_42 rfl ?_
    refine ts_get pIX_F9 dIX_twin_43 rfl rfl ?_
    refine ts_iconst (v := 1) dIX_twin_46 (by decide) ?_
    refine ts_iadd dIX_twin_47 ?_
    refine ts_put pIX_P9 dIX_twin_48 rfl (Nat.le_of_ble_eq_true rfl) rfl rfl (h' := tc_h G (tc_f (tc_f (tc_a S 0 (tc_count S) (tc_r S 0 (S.1 17))) 17 ((S.1 17) + 1)) 16 ((S.1 16) + 1)) ++ T) rfl ?_
    refine ts_aload_n dIX_twin_51 rfl rfl ?_
    refine ts_iconst (v := 0) dIX_twin_52 (by decide) ?_
    refine ts_put pIX_P25 dIX_twin_53 rfl (Nat.le_of_ble_eq_true rfl) rfl rfl (h' := tc_h G (tc_f (tc_f (tc_a S 0 (tc_count S) (tc_r S 0 (S.1 17))) 16 ((S.1 16) + 1)) 17 0) ++ T) rfl ?_
    have e : tc_twin S = tc_f (tc_f (tc_a S 0 (tc_count S) (tc_r S 0 (S.1 17))) 16 ((S.1 16) + 1)) 17 0 := by simp only [tc_twin, h38, ↓reduceIte]
    exact ts_vret dIX_twin_56 rfl rfl (tc_e3 e)
set_option maxHeartbeats 4000000 in
set_option maxRecDepth 100000 in
theorem cMA_writeBlock (G : ts_GX) (T : List va_E) (S : tc_S) : ts_M G yMA_writeBlock YMA_writeBlock [.ref 2] (tc_h G S ++ T) (some (.int (tc_writeBlock S).1)) (tc_h G (tc_writeBlock S).2 ++ T) 0 0 := by
  refine ts_of rfl rfl rfl rfl rfl rfl (Nat.le_of_ble_eq_true rfl) (ts_cat1 rfl) (fun X => ?_)
  refine ts_aload_n dMA_writeBlock_0 rfl rfl ?_
  refine ts_dup dMA_writeBlock_1 rfl ?_
  refine ts_get pMA_F7 dMA_writeBlock_2 rfl rfl ?_
  refine ts_iconst (v := 1) dMA_writeBlock_5 (by decide) ?_
  refine ts_iadd dMA_writeBlock_6 ?_
  refine ts_put pMA_P7 dMA_writeBlock_7 rfl (Nat.le_of_ble_eq_true rfl) rfl rfl (h' := tc_h G (tc_f S 14 ((S.1 14) + 1)) ++ T) rfl ?_
  refine ts_aload_n dMA_writeBlock_10 rfl rfl ?_
  refine ts_get pMA_F13 dMA_writeBlock_11 rfl rfl ?_
  refine ts_if_le (tgt := 43) dMA_writeBlock_14 rfl (fun (h14 : (S.1 13) ≤ 0) => ?_) (fun (h14 : ¬ (S.1 13) ≤ 0) => ?_)
  · refine ts_aload_n dMA_writeBlock_43 rfl rfl ?_
    refine ts_get pMA_F16 dMA_writeBlock_44 rfl rfl ?_
    refine ts_if_ne (tgt := 54) dMA_writeBlock_47 rfl (fun (h47 : ¬ (S.1 12) = 0) => ?_) (fun (h47 : (S.1 12) = 0) => ?_)
    · refine ts_iconst (v := 0) dMA_writeBlock_54 (by decide) ?_
      have e : tc_writeBlock S = (0, tc_f S 14 ((S.1 14) + 1)) := by simp only [tc_writeBlock, h14, h47, ↓reduceIte]
      exact ts_zret dMA_writeBlock_55 rfl (by decide) (tc_e1 e) (tc_e2 e)
    · refine ts_iconst (v := 1) dMA_writeBlock_50 (by decide) ?_
      refine ts_goto (tgt := 55) dMA_writeBlock_51 rfl ?_
      have e : tc_writeBlock S = (1, tc_f S 14 ((S.1 14) + 1)) := by simp only [tc_writeBlock, h14, h47, ↓reduceIte]
      exact ts_zret dMA_writeBlock_55 rfl (by decide) (tc_e1 e) (tc_e2 e)
  · refine ts_aload_n dMA_writeBlock_17 rfl rfl ?_
    refine ts_dup dMA_writeBlock_18 rfl ?_
    refine ts_get pMA_F13 dMA_writeBlock_19 rfl rfl ?_
    refine ts_iconst (v := 1) dMA_writeBlock_22 (by decide) ?_
    refine ts_isub dMA_writeBlock_23 ?_
    refine ts_put pMA_P13 dMA_writeBlock_24 rfl (Nat.le_of_ble_eq_true rfl) rfl rfl (h' := tc_h G (tc_f (tc_f S 14 ((S.1 14) + 1)) 13 ((S.1 13) - 1)) ++ T) rfl ?_
    refine ts_aload_n dMA_writeBlock_27 rfl rfl ?_
    refine ts_aload_n dMA_writeBlock_28 rfl rfl ?_
    refine ts_get pMA_F13 dMA_writeBlock_29 rfl rfl ?_
    refine ts_if_ne (tgt := 39) dMA_writeBlock_32 rfl (fun (h32 : ¬ ((S.1 13) - 1) = 0) => ?_) (fun (h32 : ((S.1 13) - 1) = 0) => ?_)
    · refine ts_iconst (v := 0) dMA_writeBlock_39 (by decide) ?_
      refine ts_put pMA_P16 dMA_writeBlock_40 rfl (Nat.le_of_ble_eq_true rfl) rfl rfl (h' := tc_h G (tc_f (tc_f (tc_f S 14 ((S.1 14) + 1)) 13 ((S.1 13) - 1)) 12 0) ++ T) rfl ?_
      refine ts_aload_n dMA_writeBlock_43 rfl rfl ?_
      refine ts_get pMA_F16 dMA_writeBlock_44 rfl rfl ?_
      refine ts_if_ne (tgt := 54) dMA_writeBlock_47 rfl (fun (hq : ¬ (0 : Int32) = 0) => absurd hq (by decide)) (fun _ => ?_)
      refine ts_iconst (v := 1) dMA_writeBlock_50 (by decide) ?_
      refine ts_goto (tgt := 55) dMA_writeBlock_51 rfl ?_
      have e : tc_writeBlock S = (1, tc_f (tc_f (tc_f S 14 ((S.1 14) + 1)) 13 ((S.1 13) - 1)) 12 0) := by simp only [tc_writeBlock, h14, h32, ↓reduceIte]
      exact ts_zret dMA_writeBlock_55 rfl (by decide) (tc_e1 e) (tc_e2 e)
    · refine ts_iconst (v := 1) dMA_writeBlock_35 (by decide) ?_
      refine ts_goto (tgt := 40) dMA_writeBlock_36 rfl ?_
      refine ts_put pMA_P16 dMA_writeBlock_40 rfl (Nat.le_of_ble_eq_true rfl) rfl rfl (h' := tc_h G (tc_f (tc_f (tc_f S 14 ((S.1 14) + 1)) 13 ((S.1 13) - 1)) 12 1) ++ T) rfl ?_
      refine ts_aload_n dMA_writeBlock_43 rfl rfl ?_
      refine ts_get pMA_F16 dMA_writeBlock_44 rfl rfl ?_
      refine ts_if_ne (tgt := 54) dMA_writeBlock_47 rfl (fun _ => ?_) (fun (hq : (1 : Int32) = 0) => absurd hq (by decide))
      refine ts_iconst (v := 0) dMA_writeBlock_54 (by decide) ?_
      have e : tc_writeBlock S = (0, tc_f (tc_f (tc_f S 14 ((S.1 14) + 1)) 13 ((S.1 13) - 1)) 12 1) := by simp only [tc_writeBlock, h14, h32, ↓reduceIte]
      exact ts_zret dMA_writeBlock_55 rfl (by decide) (tc_e1 e) (tc_e2 e)
set_option maxHeartbeats 4000000 in
set_option maxRecDepth 100000 in
theorem cTS_hasValue (G : ts_GX) (T : List va_E) (S : tc_S) (a : Int32) (ha : ¬ a = -1 → vp_in a 400) : ts_M G yTS_hasValue YTS_hasValue [.ref 1, .int a] (tc_h G S ++ T) (some (.int (tc_hasValue S a))) (tc_h G S ++ T) 0 0 := by
  refine ts_of rfl rfl rfl rfl rfl rfl (Nat.le_of_ble_eq_true rfl) (ts_cat1 rfl) (fun X => ?_)
  refine ts_iload_n dTS_hasValue_0 rfl rfl ?_
  refine ts_iconst (v := -1) dTS_hasValue_1 (by decide) ?_
  refine ts_icmp_eq (tgt := 21) dTS_hasValue_2 rfl (fun (h2 : a = (-1)) => ?_) (fun (h2 : ¬ a = (-1)) => ?_)
  · refine ts_iconst (v := 0) dTS_hasValue_21 (by decide) ?_
    have e : tc_hasValue S a = 0 := by simp only [tc_hasValue, h2, ↓reduceIte]
    exact ts_zret dTS_hasValue_22 rfl (by decide) (tc_e1v e) rfl
  · refine ts_aload_n dTS_hasValue_5 rfl rfl ?_
    refine ts_get pTS_F26 dTS_hasValue_6 rfl rfl ?_
    refine ts_get pTS_F172 dTS_hasValue_9 rfl rfl ?_
    refine ts_iload_n dTS_hasValue_12 rfl rfl ?_
    refine ts_zald dTS_hasValue_13 rfl (ha h2) ?_
    refine ts_if_ne (tgt := 21) dTS_hasValue_14 rfl (fun (h14 : ¬ (tc_r S 5 a) = 0) => ?_) (fun (h14 : (tc_r S 5 a) = 0) => ?_)
    · refine ts_iconst (v := 0) dTS_hasValue_21 (by decide) ?_
      have e : tc_hasValue S a = 0 := by simp only [tc_hasValue, h2, h14, ↓reduceIte]
      exact ts_zret dTS_hasValue_22 rfl (by decide) (tc_e1v e) rfl
    · refine ts_iconst (v := 1) dTS_hasValue_17 (by decide) ?_
      refine ts_goto (tgt := 22) dTS_hasValue_18 rfl ?_
      have e : tc_hasValue S a = 1 := by simp only [tc_hasValue, h2, h14, ↓reduceIte]
      exact ts_zret dTS_hasValue_22 rfl (by decide) (tc_e1v e) rfl
set_option maxHeartbeats 4000000 in
set_option maxRecDepth 100000 in
theorem cTS_value (G : ts_GX) (T : List va_E) (S : tc_S) : ts_M G yTS_value YTS_value [.ref 1] (tc_h G S ++ T) (some (.int (S.1 8))) (tc_h G S ++ T) 0 0 := by
  refine ts_of rfl rfl rfl rfl rfl rfl (Nat.le_of_ble_eq_true rfl) (ts_cat1 rfl) (fun X => ?_)
  refine ts_aload_n dTS_value_0 rfl rfl ?_
  refine ts_get pTS_F85 dTS_value_1 rfl rfl ?_
  have e : S.1 8 = S.1 8 := rfl
  exact ts_iret dTS_value_4 rfl (tc_e1v e) rfl
set_option maxHeartbeats 4000000 in
set_option maxRecDepth 100000 in
theorem cTS_fuse (G : ts_GX) (T : List va_E) (S : tc_S) (n : Int32) : ts_M G yTS_fuse YTS_fuse [.ref 1, .int n] (tc_h G S ++ T) (some (.int (tc_fuse S n).1)) (tc_h G (tc_fuse S n).2 ++ T) 0 0 := by
  refine ts_of rfl rfl rfl rfl rfl rfl (Nat.le_of_ble_eq_true rfl) (ts_cat1 rfl) (fun X => ?_)
  refine ts_aload_n dTS_fuse_0 rfl rfl ?_
  refine ts_get pTS_F12 dTS_fuse_1 rfl rfl ?_
  refine ts_get pTS_F62 dTS_fuse_4 rfl rfl ?_
  refine ts_if_ne (tgt := 21) dTS_fuse_7 rfl (fun (h7 : ¬ (S.1 12) = 0) => ?_) (fun (h7 : (S.1 12) = 0) => ?_)
  · refine ts_iconst (v := 0) dTS_fuse_21 (by decide) ?_
    have e : tc_fuse S n = (0, S) := by simp only [tc_fuse, h7, ↓reduceIte]
    exact ts_zret dTS_fuse_22 rfl (by decide) (tc_e1 e) (tc_e2 e)
  · refine ts_iload_n dTS_fuse_10 rfl rfl ?_
    refine ts_iconst (v := 1) dTS_fuse_11 (by decide) ?_
    refine ts_icmp_lt (tgt := 21) dTS_fuse_12 rfl (fun (h12 : n < 1) => ?_) (fun (h12 : ¬ n < 1) => ?_)
    · refine ts_iconst (v := 0) dTS_fuse_21 (by decide) ?_
      have e : tc_fuse S n = (0, S) := by simp only [tc_fuse, h7, h12, ↓reduceIte]
      exact ts_zret dTS_fuse_22 rfl (by decide) (tc_e1 e) (tc_e2 e)
    · refine ts_iload_n dTS_fuse_15 rfl rfl ?_
      refine ts_bipush (v := 50) dTS_fuse_16 (by decide) ?_
      refine ts_icmp_le (tgt := 23) dTS_fuse_18 rfl (fun (h18 : n ≤ 50) => ?_) (fun (h18 : ¬ n ≤ 50) => ?_)
      · refine ts_aload_n dTS_fuse_23 rfl rfl ?_
        refine ts_get pTS_F12 dTS_fuse_24 rfl rfl ?_
        refine ts_iload_n dTS_fuse_27 rfl rfl ?_
        refine ts_put pTS_P154 dTS_fuse_28 rfl (Nat.le_of_ble_eq_true rfl) rfl rfl (h' := tc_h G (tc_f S 13 n) ++ T) rfl ?_
        refine ts_iconst (v := 1) dTS_fuse_31 (by decide) ?_
        have e : tc_fuse S n = (1, tc_f S 13 n) := by simp only [tc_fuse, h7, h12, h18, ↓reduceIte]
        exact ts_zret dTS_fuse_32 rfl (by decide) (tc_e1 e) (tc_e2 e)
      · refine ts_iconst (v := 0) dTS_fuse_21 (by decide) ?_
        have e : tc_fuse S n = (0, S) := by simp only [tc_fuse, h7, h12, h18, ↓reduceIte]
        exact ts_zret dTS_fuse_22 rfl (by decide) (tc_e1 e) (tc_e2 e)
set_option maxHeartbeats 4000000 in
set_option maxRecDepth 100000 in
theorem cTS_address (G : ts_GX) (T : List va_E) (S : tc_S) (w : Int32) : ts_M G yTS_address YTS_address [.ref 1, .int w] (tc_h G S ++ T) (some (.int (tc_address S w))) (tc_h G S ++ T) 0 0 := by
  refine ts_of rfl rfl rfl rfl rfl rfl (Nat.le_of_ble_eq_true rfl) (ts_cat1 rfl) (fun X => ?_)
  refine ts_aload_n dTS_address_0 rfl rfl ?_
  refine ts_get pTS_F12 dTS_address_1 rfl rfl ?_
  refine ts_get pTS_F62 dTS_address_4 rfl rfl ?_
  refine ts_if_eq (tgt := 13) dTS_address_7 rfl (fun (h7 : (S.1 12) = 0) => ?_) (fun (h7 : ¬ (S.1 12) = 0) => ?_)
  · refine ts_iload_n dTS_address_13 rfl rfl ?_
    by_cases h14_0 : w = 0
    · refine ts_tableIn (tgt := 48) dTS_address_14 (by rw [h14_0]; decide) (by rw [h14_0]; decide) (by rw [h14_0]; rfl) rfl ?_
      refine ts_aload_n dTS_address_48 rfl rfl ?_
      refine ts_get pTS_F95 dTS_address_49 rfl rfl ?_
      have e : tc_address S w = S.1 2 := by simp only [tc_address, tz_d10, tz_d20, tz_d21, tz_d30, tz_d31, tz_d32, tz_d40, tz_d41, tz_d42, tz_d43, h7, h14_0, ↓reduceIte]
      exact ts_iret dTS_address_52 rfl (tc_e1v e) rfl
    by_cases h14_1 : w = 1
    · refine ts_tableIn (tgt := 53) dTS_address_14 (by rw [h14_1]; decide) (by rw [h14_1]; decide) (by rw [h14_1]; rfl) rfl ?_
      refine ts_aload_n dTS_address_53 rfl rfl ?_
      refine ts_get pTS_F91 dTS_address_54 rfl rfl ?_
      have e : tc_address S w = S.1 3 := by simp only [tc_address, tz_d10, tz_d20, tz_d21, tz_d30, tz_d31, tz_d32, tz_d40, tz_d41, tz_d42, tz_d43, h7, h14_1, ↓reduceIte]
      exact ts_iret dTS_address_57 rfl (tc_e1v e) rfl
    by_cases h14_2 : w = 2
    · refine ts_tableIn (tgt := 58) dTS_address_14 (by rw [h14_2]; decide) (by rw [h14_2]; decide) (by rw [h14_2]; rfl) rfl ?_
      refine ts_aload_n dTS_address_58 rfl rfl ?_
      refine ts_get pTS_F160 dTS_address_59 rfl rfl ?_
      have e : tc_address S w = S.1 4 := by simp only [tc_address, tz_d10, tz_d20, tz_d21, tz_d30, tz_d31, tz_d32, tz_d40, tz_d41, tz_d42, tz_d43, h7, h14_2, ↓reduceIte]
      exact ts_iret dTS_address_62 rfl (tc_e1v e) rfl
    by_cases h14_3 : w = 3
    · refine ts_tableIn (tgt := 63) dTS_address_14 (by rw [h14_3]; decide) (by rw [h14_3]; decide) (by rw [h14_3]; rfl) rfl ?_
      refine ts_aload_n dTS_address_63 rfl rfl ?_
      refine ts_get pTS_F88 dTS_address_64 rfl rfl ?_
      have e : tc_address S w = S.1 5 := by simp only [tc_address, tz_d10, tz_d20, tz_d21, tz_d30, tz_d31, tz_d32, tz_d40, tz_d41, tz_d42, tz_d43, h7, h14_3, ↓reduceIte]
      exact ts_iret dTS_address_67 rfl (tc_e1v e) rfl
    by_cases h14_4 : w = 4
    · refine ts_tableIn (tgt := 68) dTS_address_14 (by rw [h14_4]; decide) (by rw [h14_4]; decide) (by rw [h14_4]; rfl) rfl ?_
      refine ts_aload_n dTS_address_68 rfl rfl ?_
      refine ts_get pTS_F99 dTS_address_69 rfl rfl ?_
      have e : tc_address S w = S.1 6 := by simp only [tc_address, tz_d10, tz_d20, tz_d21, tz_d30, tz_d31, tz_d32, tz_d40, tz_d41, tz_d42, tz_d43, h7, h14_4, ↓reduceIte]
      exact ts_iret dTS_address_72 rfl (tc_e1v e) rfl
    refine ts_tableOut (tgt := 73) dTS_address_14 (by have := lv_neT h14_0 (by decide : (0 : Int32).toInt = 0) ; have := lv_neT h14_1 (by decide : (1 : Int32).toInt = 1) ; have := lv_neT h14_2 (by decide : (2 : Int32).toInt = 2) ; have := lv_neT h14_3 (by decide : (3 : Int32).toInt = 3) ; have := lv_neT h14_4 (by decide : (4 : Int32).toInt = 4); omega) rfl ?_
    refine ts_iconst (v := -1) dTS_address_73 (by decide) ?_
    have e : tc_address S w = (-1) := by simp only [tc_address, tz_d10, tz_d20, tz_d21, tz_d30, tz_d31, tz_d32, tz_d40, tz_d41, tz_d42, tz_d43, h7, h14_0, h14_1, h14_2, h14_3, h14_4, ↓reduceIte]
    exact ts_iret dTS_address_74 rfl (tc_e1v e) rfl
  · refine ts_bipush (v := -9) dTS_address_10 (by decide) ?_
    have e : tc_address S w = (-9) := by simp only [tc_address, tz_d10, tz_d20, tz_d21, tz_d30, tz_d31, tz_d32, tz_d40, tz_d41, tz_d42, tz_d43, h7, ↓reduceIte]
    exact ts_iret dTS_address_12 rfl (tc_e1v e) rfl
set_option maxHeartbeats 4000000 in
set_option maxRecDepth 100000 in
theorem cTS_find_loop (G : ts_GX) (T : List va_E) (S : tc_S) (key cnt : Int32) (hI : tj S) (X : ts_VX) : ∀ (n : Nat) (a r : Int32), n ≤ 400 → a.toInt < (S.1 6).toInt → ts_V G X YTS_find (ts_QX G X (some (.int (tc_findGo S key cnt n a r).1)) (tc_h G (tc_f S 15 (tc_findGo S key cnt n a r).2) ++ T) 0 0) 0 0 20 [.ref 1, .int key, .int cnt, .int a, .int (nI (400 - n))] [] (tc_h G (tc_f S 15 r) ++ T) := by
  intro n
  induction n with
  | zero =>
    intro a r hn ha
    refine ts_iload dTS_find_20 rfl ?_
    refine ts_sipush (v := 400) dTS_find_22 (by decide) ?_
    refine ts_icmp_ge (tgt := 92) dTS_find_25 rfl (fun _ => ?_) (fun hq => absurd (by decide) hq)
    refine ts_iconst (v := -1) dTS_find_92 (by decide) ?_
    exact ts_iret dTS_find_93 rfl rfl rfl
  | succ n ih =>
    intro a r hn ha
    refine ts_iload dTS_find_20 rfl ?_
    refine ts_sipush (v := 400) dTS_find_22 (by decide) ?_
    refine ts_icmp_ge (tgt := 92) dTS_find_25 rfl (fun hq => absurd hq (tc_nge (k := 400) (by omega) (by omega))) (fun _ => ?_)
    refine ts_iload_n dTS_find_28 rfl rfl ?_
    refine ts_aload_n dTS_find_29 rfl rfl ?_
    refine ts_get pTS_F95 dTS_find_30 rfl rfl ?_
    refine ts_icmp_lt (tgt := 92) dTS_find_33 rfl (fun (h33 : a < (S.1 2)) => ?_) (fun (h33 : ¬ a < (S.1 2)) => ?_)
    · refine ts_iconst (v := -1) dTS_find_92 (by decide) ?_
      have e : tc_findGo S key cnt (n + 1) a r = ((-1), r) := by simp only [tc_findGo, h33, ↓reduceIte]
      exact ts_iret dTS_find_93 rfl (tc_e1 e) (tc_e4 e)
    · refine ts_iload_n dTS_find_36 rfl rfl ?_
      refine ts_if_eq (tgt := 61) dTS_find_37 rfl (fun (h37 : cnt = 0) => ?_) (fun (h37 : ¬ cnt = 0) => ?_)
      · refine ts_aload_n dTS_find_61 rfl rfl ?_
        refine ts_get pTS_F26 dTS_find_62 rfl rfl ?_
        refine ts_get pTS_F147 dTS_find_65 rfl rfl ?_
        refine ts_iload_n dTS_find_68 rfl rfl ?_
        refine ts_iald dTS_find_69 rfl (tc_inB hI ha h33) ?_
        refine ts_iload_n dTS_find_70 rfl rfl ?_
        refine ts_icmp_ne (tgt := 76) dTS_find_71 rfl (fun (h71 : ¬ (tc_r S 1 a) = key) => ?_) (fun (h71 : (tc_r S 1 a) = key) => ?_)
        · refine ts_aload_n dTS_find_76 rfl rfl ?_
          refine ts_get pTS_F26 dTS_find_77 rfl rfl ?_
          refine ts_get pTS_F166 dTS_find_80 rfl rfl ?_
          refine ts_iload_n dTS_find_83 rfl rfl ?_
          refine ts_iald dTS_find_84 rfl (tc_inB hI ha h33) ?_
          refine ts_istore_n (lo' := [.ref 1, .int key, .int cnt, .int (tc_r S 3 a), .int (nI (400 - (n + 1)))]) dTS_find_85 rfl (Nat.le_of_ble_eq_true rfl) (Nat.le_of_ble_eq_true rfl) rfl ?_
          refine ts_iinc (v := nI (400 - n)) (lo' := [.ref 1, .int key, .int cnt, .int (tc_r S 3 a), .int (nI (400 - n))]) dTS_find_86 rfl (tc_up (by omega)) (Nat.le_of_ble_eq_true rfl) rfl ?_
          refine ts_goto (tgt := 20) dTS_find_89 rfl ?_
          have e : tc_findGo S key cnt (n + 1) a r = tc_findGo S key cnt n (tc_r S 3 a) r := by simp only [tc_findGo, h33, h37, h71, ↓reduceIte]
          rw [e]
          exact ih _ _ (by omega) (tc_prevT hI ha h33)
        · refine ts_iload_n dTS_find_74 rfl rfl ?_
          have e : tc_findGo S key cnt (n + 1) a r = (a, r) := by simp only [tc_findGo, h33, h37, h71, ↓reduceIte]
          exact ts_iret dTS_find_75 rfl (tc_e1 e) (tc_e4 e)
      · refine ts_iload_n dTS_find_40 rfl rfl ?_
        refine ts_aload_n dTS_find_41 rfl rfl ?_
        refine ts_get pTS_F91 dTS_find_42 rfl rfl ?_
        refine ts_icmp_ge (tgt := 61) dTS_find_45 rfl (fun (h45 : (S.1 3) ≤ a) => ?_) (fun (h45 : ¬ (S.1 3) ≤ a) => ?_)
        · refine ts_aload_n dTS_find_61 rfl rfl ?_
          refine ts_get pTS_F26 dTS_find_62 rfl rfl ?_
          refine ts_get pTS_F147 dTS_find_65 rfl rfl ?_
          refine ts_iload_n dTS_find_68 rfl rfl ?_
          refine ts_iald dTS_find_69 rfl (tc_inB hI ha h33) ?_
          refine ts_iload_n dTS_find_70 rfl rfl ?_
          refine ts_icmp_ne (tgt := 76) dTS_find_71 rfl (fun (h71 : ¬ (tc_r S 1 a) = key) => ?_) (fun (h71 : (tc_r S 1 a) = key) => ?_)
          · refine ts_aload_n dTS_find_76 rfl rfl ?_
            refine ts_get pTS_F26 dTS_find_77 rfl rfl ?_
            refine ts_get pTS_F166 dTS_find_80 rfl rfl ?_
            refine ts_iload_n dTS_find_83 rfl rfl ?_
            refine ts_iald dTS_find_84 rfl (tc_inB hI ha h33) ?_
            refine ts_istore_n (lo' := [.ref 1, .int key, .int cnt, .int (tc_r S 3 a), .int (nI (400 - (n + 1)))]) dTS_find_85 rfl (Nat.le_of_ble_eq_true rfl) (Nat.le_of_ble_eq_true rfl) rfl ?_
            refine ts_iinc (v := nI (400 - n)) (lo' := [.ref 1, .int key, .int cnt, .int (tc_r S 3 a), .int (nI (400 - n))]) dTS_find_86 rfl (tc_up (by omega)) (Nat.le_of_ble_eq_true rfl) rfl ?_
            refine ts_goto (tgt := 20) dTS_find_89 rfl ?_
            have e : tc_findGo S key cnt (n + 1) a r = tc_findGo S key cnt n (tc_r S 3 a) r := by simp only [tc_findGo, h33, h37, h45, h71, ↓reduceIte]
            rw [e]
            exact ih _ _ (by omega) (tc_prevT hI ha h33)
          · refine ts_iload_n dTS_find_74 rfl rfl ?_
            have e : tc_findGo S key cnt (n + 1) a r = (a, r) := by simp only [tc_findGo, h33, h37, h45, h71, ↓reduceIte]
            exact ts_iret dTS_find_75 rfl (tc_e1 e) (tc_e4 e)
        · refine ts_aload_n dTS_find_48 rfl rfl ?_
          refine ts_get pTS_F12 dTS_find_49 rfl rfl ?_
          refine ts_dup dTS_find_52 rfl ?_
          refine ts_get pTS_F141 dTS_find_53 rfl rfl ?_
          refine ts_iconst (v := 1) dTS_find_56 (by decide) ?_
          refine ts_iadd dTS_find_57 ?_
          refine ts_put pTS_P141 dTS_find_58 rfl (Nat.le_of_ble_eq_true rfl) rfl rfl (h' := tc_h G (tc_f S 15 (r + 1)) ++ T) rfl ?_
          refine ts_aload_n dTS_find_61 rfl rfl ?_
          refine ts_get pTS_F26 dTS_find_62 rfl rfl ?_
          refine ts_get pTS_F147 dTS_find_65 rfl rfl ?_
          refine ts_iload_n dTS_find_68 rfl rfl ?_
          refine ts_iald dTS_find_69 rfl (tc_inB hI ha h33) ?_
          refine ts_iload_n dTS_find_70 rfl rfl ?_
          refine ts_icmp_ne (tgt := 76) dTS_find_71 rfl (fun (h71 : ¬ (tc_r S 1 a) = key) => ?_) (fun (h71 : (tc_r S 1 a) = key) => ?_)
          · refine ts_aload_n dTS_find_76 rfl rfl ?_
            refine ts_get pTS_F26 dTS_find_77 rfl rfl ?_
            refine ts_get pTS_F166 dTS_find_80 rfl rfl ?_
            refine ts_iload_n dTS_find_83 rfl rfl ?_
            refine ts_iald dTS_find_84 rfl (tc_inB hI ha h33) ?_
            refine ts_istore_n (lo' := [.ref 1, .int key, .int cnt, .int (tc_r S 3 a), .int (nI (400 - (n + 1)))]) dTS_find_85 rfl (Nat.le_of_ble_eq_true rfl) (Nat.le_of_ble_eq_true rfl) rfl ?_
            refine ts_iinc (v := nI (400 - n)) (lo' := [.ref 1, .int key, .int cnt, .int (tc_r S 3 a), .int (nI (400 - n))]) dTS_find_86 rfl (tc_up (by omega)) (Nat.le_of_ble_eq_true rfl) rfl ?_
            refine ts_goto (tgt := 20) dTS_find_89 rfl ?_
            have e : tc_findGo S key cnt (n + 1) a r = tc_findGo S key cnt n (tc_r S 3 a) (r + 1) := by simp only [tc_findGo, h33, h37, h45, h71, ↓reduceIte]
            rw [e]
            exact ih _ _ (by omega) (tc_prevT hI ha h33)
          · refine ts_iload_n dTS_find_74 rfl rfl ?_
            have e : tc_findGo S key cnt (n + 1) a r = (a, r + 1) := by simp only [tc_findGo, h33, h37, h45, h71, ↓reduceIte]
            exact ts_iret dTS_find_75 rfl (tc_e1 e) (tc_e4 e)
set_option maxHeartbeats 4000000 in
set_option maxRecDepth 100000 in
theorem cTS_find (G : ts_GX) (T : List va_E) (S : tc_S) (key cnt : Int32) (hI : tj S) (hk : tc_key key) : ts_M G yTS_find YTS_find [.ref 1, .int key, .int cnt] (tc_h G S ++ T) (some (.int (tc_find S key cnt).1)) (tc_h G (tc_find S key cnt).2 ++ T) 0 0 := by
  refine ts_of rfl rfl rfl rfl rfl rfl (Nat.le_of_ble_eq_true rfl) (ts_cat1 rfl) (fun X => ?_)
  refine ts_aload_n dTS_find_0 rfl rfl ?_
  refine ts_get pTS_F19 dTS_find_1 rfl rfl ?_
  refine ts_get pTS_F176 dTS_find_4 rfl rfl ?_
  refine ts_aload_n dTS_find_7 rfl rfl ?_
  refine ts_get pTS_F19 dTS_find_8 rfl rfl ?_
  refine ts_iload_n dTS_find_11 rfl rfl ?_
  refine ts_callV (cIX_bucketOf G T S key (tc_nz hI) (tc_nz1 hI)) pTS_C185.1 pTS_C185.2 rfl rfl rfl rfl ⟨Nat.le_of_ble_eq_true rfl, Nat.le_of_ble_eq_true rfl⟩ ⟨Nat.le_of_ble_eq_true rfl, Nat.le_of_ble_eq_true rfl⟩ rfl (Nat.le_of_ble_eq_true rfl) dTS_find_12 ?_
  refine ts_conv (lo' := [.ref 1, .int key, .int cnt]) (st' := [.int (tc_bucketOf S key), .ref 4]) (h' := tc_h G S ++ T) rfl rfl rfl ?_
  refine ts_iald dTS_find_15 rfl (tc_inBucket hI hk) ?_
  refine ts_istore_n (lo' := [.ref 1, .int key, .int cnt, .int (tc_r S 0 (tc_bucketOf S key))]) dTS_find_16 rfl (Nat.le_of_ble_eq_true rfl) (Nat.le_of_ble_eq_true rfl) rfl ?_
  refine ts_iconst (v := 0) dTS_find_17 (by decide) ?_
  refine ts_istore (lo' := [.ref 1, .int key, .int cnt, .int (tc_r S 0 (tc_bucketOf S key)), .int 0]) dTS_find_18 (Nat.le_of_ble_eq_true rfl) (Nat.le_of_ble_eq_true rfl) rfl ?_
  exact cTS_find_loop G T S key cnt hI X 400 _ _ (Nat.le_refl _) (tc_bk hI hk)
