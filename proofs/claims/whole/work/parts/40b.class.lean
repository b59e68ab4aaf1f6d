set_option maxHeartbeats 4000000 in
set_option maxRecDepth 100000 in
theorem cMA_writeBlock (G : ts_GX) (T : List va_E) (S : tc_S) : ts_M G yMA_writeBlock YMA_writeBlock [.ref 2] (tc_h G S ++ T) (some (.int (tc_writeBlock S).1)) (tc_h G (tc_writeBlock S).2 ++ T) 0 0 := by
  refine ts_of rfl rfl rfl rfl rfl rfl (Nat.le_of_ble_eq_true rfl) (ts_cat1 rfl) (fun X => ?_)
  refine ts_aload_n dMA_writeBlock_0 rfl rfl ?_
  refine ts_dup dMA_writeBlock_1 rfl ?_
  refine ts_get pMA_F7 dMA_writeBlock_2 rfl rfl ?_
  refine ts_iconst (v := 1) dMA_writeBlock_5 (by decide) ?_
  refine ts_iadd dMA_writeBlock_6 ?_
  refine ts_put pMA_P7 dMA_writeBlock_7 rfl (Nat.le_of_ble_eq_true rfl) rfl rfl (h' := tc_h G (tc_f S 14 ((S.1 14) + 1)) ++ T) (th_f14 _ _ _ _) ?_
  refine ts_aload_n dMA_writeBlock_10 rfl rfl ?_
  refine ts_get pMA_F13 dMA_writeBlock_11 rfl rfl ?_
  refine ts_if_le (tgt := 43) dMA_writeBlock_14 rfl (fun (h14 : (S.1 13) ≤ 0) => ?_) (fun (h14 : ¬ (S.1 13) ≤ 0) => ?_)
  · refine ts_aload_n dMA_writeBlock_43 rfl rfl ?_
    refine ts_get pMA_F16 dMA_writeBlock_44 rfl rfl ?_
    refine ts_if_ne (tgt := 54) dMA_writeBlock_47 rfl (fun (h47 : ¬ (S.1 12) = 0) => ?_) (fun (h47 : (S.1 12) = 0) => ?_)
    · refine ts_iconst (v := 0) dMA_writeBlock_54 (by decide) ?_
      have e : tc_writeBlock S = (0, tc_f S 14 ((S.1 14) + 1)) := by simp only [tc_writeBlock, h14, h47, ↓reduceIte]
      exact ts_zret dMA_writeBlock_55 rfl (by decide) (tc_e1 e) (tc_e2 e)
    · refine ts_iconst (v := 1) dMA_writeBlock_50 (by decide) ?_
      refine ts_goto (tgt := 55) dMA_writeBlock_51 rfl ?_
      have e : tc_writeBlock S = (1, tc_f S 14 ((S.1 14) + 1)) := by simp only [tc_writeBlock, h14, h47, ↓reduceIte]
      exact ts_zret dMA_writeBlock_55 rfl (by decide) (tc_e1 e) (tc_e2 e)
  · refine ts_aload_n dMA_writeBlock_17 rfl rfl ?_
    refine ts_dup dMA_writeBlock_18 rfl ?_
    refine ts_get pMA_F13 dMA_writeBlock_19 rfl rfl ?_
    refine ts_iconst (v := 1) dMA_writeBlock_22 (by decide) ?_
    refine ts_isub dMA_writeBlock_23 ?_
    refine ts_put pMA_P13 dMA_writeBlock_24 rfl (Nat.le_of_ble_eq_true rfl) rfl rfl (h' := tc_h G (tc_f (tc_f S 14 ((S.1 14) + 1)) 13 ((S.1 13) - 1)) ++ T) (th_f13 _ _ _ _) ?_
    refine ts_aload_n dMA_writeBlock_27 rfl rfl ?_
    refine ts_aload_n dMA_writeBlock_28 rfl rfl ?_
    refine ts_get pMA_F13 dMA_writeBlock_29 rfl rfl ?_
    refine ts_if_ne (tgt := 39) dMA_writeBlock_32 rfl (fun (h32 : ¬ ((S.1 13) - 1) = 0) => ?_) (fun (h32 : ((S.1 13) - 1) = 0) => ?_)
    · refine ts_iconst (v := 0) dMA_writeBlock_39 (by decide) ?_
      refine ts_put pMA_P16 dMA_writeBlock_40 rfl (Nat.le_of_ble_eq_true rfl) rfl rfl (h' := tc_h G (tc_f (tc_f (tc_f S 14 ((S.1 14) + 1)) 13 ((S.1 13) - 1)) 12 0) ++ T) (th_f12 _ _ _ _) ?_
      refine ts_aload_n dMA_writeBlock_43 rfl rfl ?_
      refine ts_get pMA_F16 dMA_writeBlock_44 rfl rfl ?_
      refine ts_if_ne (tgt := 54) dMA_writeBlock_47 rfl (fun (hq : ¬ (0 : Int32) = 0) => absurd hq (by decide)) (fun _ => ?_)
      refine ts_iconst (v := 1) dMA_writeBlock_50 (by decide) ?_
      refine ts_goto (tgt := 55) dMA_writeBlock_51 rfl ?_
      have e : tc_writeBlock S = (1, tc_f (tc_f (tc_f S 14 ((S.1 14) + 1)) 13 ((S.1 13) - 1)) 12 0) := by simp only [tc_writeBlock, h14, h32, ↓reduceIte]
      exact ts_zret dMA_writeBlock_55 rfl (by decide) (tc_e1 e) (tc_e2 e)
    · refine ts_iconst (v := 1) dMA_writeBlock_35 (by decide) ?_
      refine ts_goto (tgt := 40) dMA_writeBlock_36 rfl ?_
      refine ts_put pMA_P16 dMA_writeBlock_40 rfl (Nat.le_of_ble_eq_true rfl) rfl rfl (h' := tc_h G (tc_f (tc_f (tc_f S 14 ((S.1 14) + 1)) 13 ((S.1 13) - 1)) 12 1) ++ T) (th_f12 _ _ _ _) ?_
      refine ts_aload_n dMA_writeBlock_43 rfl rfl ?_
      refine ts_get pMA_F16 dMA_writeBlock_44 rfl rfl ?_
      refine ts_if_ne (tgt := 54) dMA_writeBlock_47 rfl (fun _ => ?_) (fun (hq : (1 : Int32) = 0) => absurd hq (by decide))
      refine ts_iconst (v := 0) dMA_writeBlock_54 (by decide) ?_
      have e : tc_writeBlock S = (0, tc_f (tc_f (tc_f S 14 ((S.1 14) + 1)) 13 ((S.1 13) - 1)) 12 1) := by simp only [tc_writeBlock, h14, h32, ↓reduceIte]
      exact ts_zret dMA_writeBlock_55 rfl (by decide) (tc_e1 e) (tc_e2 e)
set_option maxHeartbeats 4000000 in
set_option maxRecDepth 100000 in
theorem cTS_hasValue (G : ts_GX) (T : List va_E) (S : tc_S) (a : Int32) (ha : ¬ a = -1 → vp_in a 400) : ts_M G yTS_hasValue YTS_hasValue [.ref 1, .int a] (tc_h G S ++ T) (some (.int (tc_hasValue S a))) (tc_h G S ++ T) 0 0 := by
  refine ts_of rfl rfl rfl rfl rfl rfl (Nat.le_of_ble_eq_true rfl) (ts_cat1 rfl) (fun X => ?_)
  refine ts_iload_n dTS_hasValue_0 rfl rfl ?_
  refine ts_iconst (v := -1) dTS_hasValue_1 (by decide) ?_
  refine ts_icmp_eq (tgt := 21) dTS_hasValue_2 rfl (fun (h2 : a = (-1)) => ?_) (fun (h2 : ¬ a = (-1)) => ?_)
  · refine ts_iconst (v := 0) dTS_hasValue_21 (by decide) ?_
    have e : tc_hasValue S a = 0 := by simp only [tc_hasValue, h2, ↓reduceIte]
    exact ts_zret dTS_hasValue_22 rfl (by decide) (tc_e1v e) rfl
  · refine ts_aload_n dTS_hasValue_5 rfl rfl ?_
    refine ts_get pTS_F26 dTS_hasValue_6 rfl rfl ?_
    refine ts_get pTS_F172 dTS_hasValue_9 rfl rfl ?_
    refine ts_iload_n dTS_hasValue_12 rfl rfl ?_
    refine ts_zald dTS_hasValue_13 rfl (ha h2) ?_
    refine ts_if_ne (tgt := 21) dTS_hasValue_14 rfl (fun (h14 : ¬ (tc_r S 5 a) = 0) => ?_) (fun (h14 : (tc_r S 5 a) = 0) => ?_)
    · refine ts_iconst (v := 0) dTS_hasValue_21 (by decide) ?_
      have e : tc_hasValue S a = 0 := by simp only [tc_hasValue, h2, h14, ↓reduceIte]
      exact ts_zret dTS_hasValue_22 rfl (by decide) (tc_e1v e) rfl
    · refine ts_iconst (v := 1) dTS_hasValue_17 (by decide) ?_
      refine ts_goto (tgt := 22) dTS_hasValue_18 rfl ?_
      have e : tc_hasValue S a = 1 := by simp only [tc_hasValue, h2, h14, ↓reduceIte]
      exact ts_zret dTS_hasValue_22 rfl (by decide) (tc_e1v e) rfl
set_option maxHeartbeats 4000000 in
set_option maxRecDepth 100000 in
theorem cTS_value (G : ts_GX) (T : List va_E) (S : tc_S) : ts_M G yTS_value YTS_value [.ref 1] (tc_h G S ++ T) (some (.int (S.1 8))) (tc_h G S ++ T) 0 0 := by
  refine ts_of rfl rfl rfl rfl rfl rfl (Nat.le_of_ble_eq_true rfl) (ts_cat1 rfl) (fun X => ?_)
  refine ts_aload_n dTS_value_0 rfl rfl ?_
  refine ts_get pTS_F85 dTS_value_1 rfl rfl ?_
  have e : S.1 8 = S.1 8 := rfl
  exact ts_iret dTS_value_4 rfl (tc_e1v e) rfl
set_option maxHeartbeats 4000000 in
set_option maxRecDepth 100000 in
theorem cTS_fuse (G : ts_GX) (T : List va_E) (S : tc_S) (n : Int32) : ts_M G yTS_fuse YTS_fuse [.ref 1, .int n] (tc_h G S ++ T) (some (.int (tc_fuse S n).1)) (tc_h G (tc_fuse S n).2 ++ T) 0 0 := by
  refine ts_of rfl rfl rfl rfl rfl rfl (Nat.le_of_ble_eq_true rfl) (ts_cat1 rfl) (fun X => ?_)
  refine ts_aload_n dTS_fuse_0 rfl rfl ?_
  refine ts_get pTS_F12 dTS_fuse_1 rfl rfl ?_
  refine ts_get pTS_F62 dTS_fuse_4 rfl rfl ?_
  refine ts_if_ne (tgt := 21) dTS_fuse_7 rfl (fun (h7 : ¬ (S.1 12) = 0) => ?_) (fun (h7 : (S.1 12) = 0) => ?_)
  · refine ts_iconst (v := 0) dTS_fuse_21 (by decide) ?_
    have e : tc_fuse S n = (0, S) := by simp only [tc_fuse, h7, ↓reduceIte]
    exact ts_zret dTS_fuse_22 rfl (by decide) (tc_e1 e) (tc_e2 e)
  · refine ts_iload_n dTS_fuse_10 rfl rfl ?_
    refine ts_iconst (v := 1) dTS_fuse_11 (by decide) ?_
    refine ts_icmp_lt (tgt := 21) dTS_fuse_12 rfl (fun (h12 : n < 1) => ?_) (fun (h12 : ¬ n < 1) => ?_)
    · refine ts_iconst (v := 0) dTS_fuse_21 (by decide) ?_
      have e : tc_fuse S n = (0, S) := by simp only [tc_fuse, h7, h12, ↓reduceIte]
      exact ts_zret dTS_fuse_22 rfl (by decide) (tc_e1 e) (tc_e2 e)
    · refine ts_iload_n dTS_fuse_15 rfl rfl ?_
      refine ts_bipush (v := 50) dTS_fuse_16 (by decide) ?_
      refine ts_icmp_le (tgt := 23) dTS_fuse_18 rfl (fun (h18 : n ≤ 50) => ?_) (fun (h18 : ¬ n ≤ 50) => ?_)
      · refine ts_aload_n dTS_fuse_23 rfl rfl ?_
        refine ts_get pTS_F12 dTS_fuse_24 rfl rfl ?_
        refine ts_iload_n dTS_fuse_27 rfl rfl ?_
        refine ts_put pTS_P154 dTS_fuse_28 rfl (Nat.le_of_ble_eq_true rfl) rfl rfl (h' := tc_h G (tc_f S 13 n) ++ T) (th_f13 _ _ _ _) ?_
        refine ts_iconst (v := 1) dTS_fuse_31 (by decide) ?_
        have e : tc_fuse S n = (1, tc_f S 13 n) := by simp only [tc_fuse, h7, h12, h18, ↓reduceIte]
        exact ts_zret dTS_fuse_32 rfl (by decide) (tc_e1 e) (tc_e2 e)
      · refine ts_iconst (v := 0) dTS_fuse_21 (by decide) ?_
        have e : tc_fuse S n = (0, S) := by simp only [tc_fuse, h7, h12, h18, ↓reduceIte]
        exact ts_zret dTS_fuse_22 rfl (by decide) (tc_e1 e) (tc_e2 e)
set_option maxHeartbeats 4000000 in
set_option maxRecDepth 100000 in
theorem cTS_address (G : ts_GX) (T : List va_E) (S : tc_S) (w : Int32) : ts_M G yTS_address YTS_address [.ref 1, .int w] (tc_h G S ++ T) (some (.int (tc_address S w))) (tc_h G S ++ T) 0 0 := by
  refine ts_of rfl rfl rfl rfl rfl rfl (Nat.le_of_ble_eq_true rfl) (ts_cat1 rfl) (fun X => ?_)
  refine ts_aload_n dTS_address_0 rfl rfl ?_
  refine ts_get pTS_F12 dTS_address_1 rfl rfl ?_
  refine ts_get pTS_F62 dTS_address_4 rfl rfl ?_
  refine ts_if_eq (tgt := 13) dTS_address_7 rfl (fun (h7 : (S.1 12) = 0) => ?_) (fun (h7 : ¬ (S.1 12) = 0) => ?_)
  · refine ts_iload_n dTS_address_13 rfl rfl ?_
    by_cases h14_0 : w = 0
    · refine ts_tableIn (tgt := 48) dTS_address_14 (by rw [h14_0]; decide) (by rw [h14_0]; decide) (by rw [h14_0]; rfl) rfl ?_
      refine ts_aload_n dTS_address_48 rfl rfl ?_
      refine ts_get pTS_F95 dTS_address_49 rfl rfl ?_
      have e : tc_address S w = S.1 2 := by simp only [tc_address, tz_d10, tz_d20, tz_d21, tz_d30, tz_d31, tz_d32, tz_d40, tz_d41, tz_d42, tz_d43, h7, h14_0, ↓reduceIte]
      exact ts_iret dTS_address_52 rfl (tc_e1v e) rfl
    by_cases h14_1 : w = 1
    · refine ts_tableIn (tgt := 53) dTS_address_14 (by rw [h14_1]; decide) (by rw [h14_1]; decide) (by rw [h14_1]; rfl) rfl ?_
      refine ts_aload_n dTS_address_53 rfl rfl ?_
      refine ts_get pTS_F91 dTS_address_54 rfl rfl ?_
      have e : tc_address S w = S.1 3 := by simp only [tc_address, tz_d10, tz_d20, tz_d21, tz_d30, tz_d31, tz_d32, tz_d40, tz_d41, tz_d42, tz_d43, h7, h14_1, ↓reduceIte]
      exact ts_iret dTS_address_57 rfl (tc_e1v e) rfl
    by_cases h14_2 : w = 2
    · refine ts_tableIn (tgt := 58) dTS_address_14 (by rw [h14_2]; decide) (by rw [h14_2]; decide) (by rw [h14_2]; rfl) rfl ?_
      refine ts_aload_n dTS_address_58 rfl rfl ?_
      refine ts_get pTS_F160 dTS_address_59 rfl rfl ?_
      have e : tc_address S w = S.1 4 := by simp only [tc_address, tz_d10, tz_d20, tz_d21, tz_d30, tz_d31, tz_d32, tz_d40, tz_d41, tz_d42, tz_d43, h7, h14_2, ↓reduceIte]
      exact ts_iret dTS_address_62 rfl (tc_e1v e) rfl
    by_cases h14_3 : w = 3
    · refine ts_tableIn (tgt := 63) dTS_address_14 (by rw [h14_3]; decide) (by rw [h14_3]; decide) (by rw [h14_3]; rfl) rfl ?_
      refine ts_aload_n dTS_address_63 rfl rfl ?_
      refine ts_get pTS_F88 dTS_address_64 rfl rfl ?_
      have e : tc_address S w = S.1 5 := by simp only [tc_address, tz_d10, tz_d20, tz_d21, tz_d30, tz_d31, tz_d32, tz_d40, tz_d41, tz_d42, tz_d43, h7, h14_3, ↓reduceIte]
      exact ts_iret dTS_address_67 rfl (tc_e1v e) rfl
    by_cases h14_4 : w = 4
    · refine ts_tableIn (tgt := 68) dTS_address_14 (by rw [h14_4]; decide) (by rw [h14_4]; decide) (by rw [h14_4]; rfl) rfl ?_
      refine ts_aload_n dTS_address_68 rfl rfl ?_
      refine ts_get pTS_F99 dTS_address_69 rfl rfl ?_
      have e : tc_address S w = S.1 6 := by simp only [tc_address, tz_d10, tz_d20, tz_d21, tz_d30, tz_d31, tz_d32, tz_d40, tz_d41, tz_d42, tz_d43, h7, h14_4, ↓reduceIte]
      exact ts_iret dTS_address_72 rfl (tc_e1v e) rfl
    refine ts_tableOut (tgt := 73) dTS_address_14 (by have := lv_neT h14_0 (by decide : (0 : Int32).toInt = 0) ; have := lv_neT h14_1 (by decide : (1 : Int32).toInt = 1) ; have := lv_neT h14_2 (by decide : (2 : Int32).toInt = 2) ; have := lv_neT h14_3 (by decide : (3 : Int32).toInt = 3) ; have := lv_neT h14_4 (by decide : (4 : Int32).toInt = 4); omega) rfl ?_
    refine ts_iconst (v := -1) dTS_address_73 (by decide) ?_
    have e : tc_address S w = (-1) := by simp only [tc_address, tz_d10, tz_d20, tz_d21, tz_d30, tz_d31, tz_d32, tz_d40, tz_d41, tz_d42, tz_d43, h7, h14_0, h14_1, h14_2, h14_3, h14_4, ↓reduceIte]
    exact ts_iret dTS_address_74 rfl (tc_e1v e) rfl
  · refine ts_bipush (v := -9) dTS_address_10 (by decide) ?_
    have e : tc_address S w = (-9) := by simp only [tc_address, tz_d10, tz_d20, tz_d21, tz_d30, tz_d31, tz_d32, tz_d40, tz_d41, tz_d42, tz_d43, h7, ↓reduceIte]
    exact ts_iret dTS_address_12 rfl (tc_e1v e) rfl
