set_option maxHeartbeats 4000000 in
set_option maxRecDepth 100000 in
theorem cTS_grow (G : ts_GX) (T : List va_E) (S : tc_S) (hI : tj S) : ts_M G yTS_grow YTS_grow [.ref 1] (tc_h G S ++ T) (some (.int (tc_grow S).1)) (tc_h G (tc_grow S).2 ++ T) 0 0 := by
  refine ts_of rfl rfl rfl rfl rfl rfl (Nat.le_of_ble_eq_true rfl) (ts_cat1 rfl) (fun X => ?_)
  refine ts_aload_n dTS_grow_0 rfl rfl ?_
  refine ts_get pTS_F12 dTS_grow_1 rfl rfl ?_
  refine ts_get pTS_F62 dTS_grow_4 rfl rfl ?_
  refine ts_if_eq (tgt := 13) dTS_grow_7 rfl (fun (h7 : (S.1 12) = 0) => ?_) (fun (h7 : ¬ (S.1 12) = 0) => ?_)
  · refine ts_aload_n dTS_grow_13 rfl rfl ?_
    refine ts_get pTS_F44 dTS_grow_14 rfl rfl ?_
    refine ts_if_ne (tgt := 32) dTS_grow_17 rfl (fun (h17 : ¬ (S.1 9) = 0) => ?_) (fun (h17 : (S.1 9) = 0) => ?_)
    · refine ts_bipush (v := -3) dTS_grow_32 (by decide) ?_
      have e : tc_grow S = ((-3), S) := by simp only [tc_grow, h7, h17, ↓reduceIte]
      exact ts_iret dTS_grow_34 rfl (tc_e1 e) (tc_e2 e)
    · refine ts_aload_n dTS_grow_20 rfl rfl ?_
      refine ts_get pTS_F19 dTS_grow_21 rfl rfl ?_
      refine ts_callV (cIX_count G T S) pTS_C130.1 pTS_C130.2 rfl rfl rfl rfl ⟨Nat.le_of_ble_eq_true rfl, Nat.le_of_ble_eq_true rfl⟩ ⟨Nat.le_of_ble_eq_true rfl, Nat.le_of_ble_eq_true rfl⟩ rfl (Nat.le_of_ble_eq_true rfl) dTS_grow_24 ?_
      refine ts_conv (lo' := [.ref 1]) (st' := [.int (tc_count S)]) (h' := tc_h G S ++ T) rfl rfl rfl ?_
      refine ts_bipush (v := 16) dTS_grow_27 (by decide) ?_
      refine ts_icmp_lt (tgt := 35) dTS_grow_29 rfl (fun (h29 : (tc_count S) < 16) => ?_) (fun (h29 : ¬ (tc_count S) < 16) => ?_)
      · refine ts_aload_n dTS_grow_35 rfl rfl ?_
        refine ts_get pTS_F19 dTS_grow_36 rfl rfl ?_
        refine ts_callV (cIX_twin G T S hI h29) pTS_C134.1 pTS_C134.2 rfl rfl rfl rfl ⟨Nat.le_of_ble_eq_true rfl, Nat.le_of_ble_eq_true rfl⟩ ⟨Nat.le_of_ble_eq_true rfl, Nat.le_of_ble_eq_true rfl⟩ rfl (Nat.le_of_ble_eq_true rfl) dTS_grow_39 ?_
        refine ts_conv (lo' := [.ref 1]) (st' := []) (h' := tc_h G (tc_twin S) ++ T) rfl rfl rfl ?_
        refine ts_aload_n dTS_grow_42 rfl rfl ?_
        refine ts_get pTS_F19 dTS_grow_43 rfl rfl ?_
        refine ts_callV (cIX_count G T (tc_twin S)) pTS_C130.1 pTS_C130.2 rfl rfl rfl rfl ⟨Nat.le_of_ble_eq_true rfl, Nat.le_of_ble_eq_true rfl⟩ ⟨Nat.le_of_ble_eq_true rfl, Nat.le_of_ble_eq_true rfl⟩ rfl (Nat.le_of_ble_eq_true rfl) dTS_grow_46 ?_
        refine ts_conv (lo' := [.ref 1]) (st' := [.int (tc_count (tc_twin S))]) (h' := tc_h G (tc_twin S) ++ T) rfl rfl rfl ?_
        have e : tc_grow S = (tc_count (tc_twin S), tc_twin S) := by simp only [tc_grow, h7, h17, h29, ↓reduceIte]
        exact ts_iret dTS_grow_49 rfl (tc_e1 e) (tc_e2 e)
      · refine ts_bipush (v := -3) dTS_grow_32 (by decide) ?_
        have e : tc_grow S = ((-3), S) := by simp only [tc_grow, h7, h17, h29, ↓reduceIte]
        exact ts_iret dTS_grow_34 rfl (tc_e1 e) (tc_e2 e)
  · refine ts_bipush (v := -9) dTS_grow_10 (by decide) ?_
    have e : tc_grow S = ((-9), S) := by simp only [tc_grow, h7, ↓reduceIte]
    exact ts_iret dTS_grow_12 rfl (tc_e1 e) (tc_e2 e)
set_option maxHeartbeats 4000000 in
set_option maxRecDepth 100000 in
theorem cTS_entry (G : ts_GX) (T : List va_E) (S : tc_S) (a w : Int32) (hI : tj S) : ts_M G yTS_entry YTS_entry [.ref 1, .int a, .int w] (tc_h G S ++ T) (some (.int (tc_entry S a w))) (tc_h G S ++ T) 0 0 := by
  refine ts_of rfl rfl rfl rfl rfl rfl (Nat.le_of_ble_eq_true rfl) (ts_cat1 rfl) (fun X => ?_)
  refine ts_aload_n dTS_entry_0 rfl rfl ?_
  refine ts_get pTS_F12 dTS_entry_1 rfl rfl ?_
  refine ts_get pTS_F62 dTS_entry_4 rfl rfl ?_
  refine ts_if_ne (tgt := 26) dTS_entry_7 rfl (fun (h7 : ¬ (S.1 12) = 0) => ?_) (fun (h7 : (S.1 12) = 0) => ?_)
  · refine ts_iconst (v := 0) dTS_entry_26 (by decide) ?_
    have e : tc_entry S a w = 0 := by simp only [tc_entry, tz_d10, tz_d20, tz_d21, tz_d30, tz_d31, tz_d32, tz_d40, tz_d41, tz_d42, tz_d43, h7, ↓reduceIte]
    exact ts_iret dTS_entry_27 rfl (tc_e1v e) rfl
  · refine ts_iload_n dTS_entry_10 rfl rfl ?_
    refine ts_aload_n dTS_entry_11 rfl rfl ?_
    refine ts_get pTS_F95 dTS_entry_12 rfl rfl ?_
    refine ts_icmp_lt (tgt := 26) dTS_entry_15 rfl (fun (h15 : a < (S.1 2)) => ?_) (fun (h15 : ¬ a < (S.1 2)) => ?_)
    · refine ts_iconst (v := 0) dTS_entry_26 (by decide) ?_
      have e : tc_entry S a w = 0 := by simp only [tc_entry, tz_d10, tz_d20, tz_d21, tz_d30, tz_d31, tz_d32, tz_d40, tz_d41, tz_d42, tz_d43, h7, h15, ↓reduceIte]
      exact ts_iret dTS_entry_27 rfl (tc_e1v e) rfl
    · refine ts_iload_n dTS_entry_18 rfl rfl ?_
      refine ts_aload_n dTS_entry_19 rfl rfl ?_
      refine ts_get pTS_F99 dTS_entry_20 rfl rfl ?_
      refine ts_icmp_lt (tgt := 28) dTS_entry_23 rfl (fun (h23 : a < (S.1 6)) => ?_) (fun (h23 : ¬ a < (S.1 6)) => ?_)
      · refine ts_iload_n dTS_entry_28 rfl rfl ?_
        by_cases h29_0 : w = 0
        · refine ts_tableIn (tgt := 64) dTS_entry_29 (by rw [h29_0]; decide) (by rw [h29_0]; decide) (by rw [h29_0]; rfl) rfl ?_
          refine ts_aload_n dTS_entry_64 rfl rfl ?_
          refine ts_get pTS_F26 dTS_entry_65 rfl rfl ?_
          refine ts_get pTS_F147 dTS_entry_68 rfl rfl ?_
          refine ts_iload_n dTS_entry_71 rfl rfl ?_
          refine ts_iald dTS_entry_72 rfl (tc_inEntry hI h15 h23) ?_
          have e : tc_entry S a w = tc_r S 1 a := by simp only [tc_entry, tz_d10, tz_d20, tz_d21, tz_d30, tz_d31, tz_d32, tz_d40, tz_d41, tz_d42, tz_d43, h7, h15, h23, h29_0, ↓reduceIte]
          exact ts_iret dTS_entry_73 rfl (tc_e1v e) rfl
        by_cases h29_1 : w = 1
        · refine ts_tableIn (tgt := 74) dTS_entry_29 (by rw [h29_1]; decide) (by rw [h29_1]; decide) (by rw [h29_1]; rfl) rfl ?_
          refine ts_aload_n dTS_entry_74 rfl rfl ?_
          refine ts_get pTS_F26 dTS_entry_75 rfl rfl ?_
          refine ts_get pTS_F81 dTS_entry_78 rfl rfl ?_
          refine ts_iload_n dTS_entry_81 rfl rfl ?_
          refine ts_iald dTS_entry_82 rfl (tc_inEntry hI h15 h23) ?_
          have e : tc_entry S a w = tc_r S 2 a := by simp only [tc_entry, tz_d10, tz_d20, tz_d21, tz_d30, tz_d31, tz_d32, tz_d40, tz_d41, tz_d42, tz_d43, h7, h15, h23, h29_1, ↓reduceIte]
          exact ts_iret dTS_entry_83 rfl (tc_e1v e) rfl
        by_cases h29_2 : w = 2
        · refine ts_tableIn (tgt := 84) dTS_entry_29 (by rw [h29_2]; decide) (by rw [h29_2]; decide) (by rw [h29_2]; rfl) rfl ?_
          refine ts_aload_n dTS_entry_84 rfl rfl ?_
          refine ts_get pTS_F26 dTS_entry_85 rfl rfl ?_
          refine ts_get pTS_F166 dTS_entry_88 rfl rfl ?_
          refine ts_iload_n dTS_entry_91 rfl rfl ?_
          refine ts_iald dTS_entry_92 rfl (tc_inEntry hI h15 h23) ?_
          have e : tc_entry S a w = tc_r S 3 a := by simp only [tc_entry, tz_d10, tz_d20, tz_d21, tz_d30, tz_d31, tz_d32, tz_d40, tz_d41, tz_d42, tz_d43, h7, h15, h23, h29_2, ↓reduceIte]
          exact ts_iret dTS_entry_93 rfl (tc_e1v e) rfl
        by_cases h29_3 : w = 3
        · refine ts_tableIn (tgt := 94) dTS_entry_29 (by rw [h29_3]; decide) (by rw [h29_3]; decide) (by rw [h29_3]; rfl) rfl ?_
          refine ts_aload_n dTS_entry_94 rfl rfl ?_
          refine ts_get pTS_F26 dTS_entry_95 rfl rfl ?_
          refine ts_get pTS_F169 dTS_entry_98 rfl rfl ?_
          refine ts_iload_n dTS_entry_101 rfl rfl ?_
          refine ts_iald dTS_entry_102 rfl (tc_inEntry hI h15 h23) ?_
          have e : tc_entry S a w = tc_r S 4 a := by simp only [tc_entry, tz_d10, tz_d20, tz_d21, tz_d30, tz_d31, tz_d32, tz_d40, tz_d41, tz_d42, tz_d43, h7, h15, h23, h29_3, ↓reduceIte]
          exact ts_iret dTS_entry_103 rfl (tc_e1v e) rfl
        by_cases h29_4 : w = 4
        · refine ts_tableIn (tgt := 104) dTS_entry_29 (by rw [h29_4]; decide) (by rw [h29_4]; decide) (by rw [h29_4]; rfl) rfl ?_
          refine ts_aload_n dTS_entry_104 rfl rfl ?_
          refine ts_get pTS_F26 dTS_entry_105 rfl rfl ?_
          refine ts_get pTS_F172 dTS_entry_108 rfl rfl ?_
          refine ts_iload_n dTS_entry_111 rfl rfl ?_
          refine ts_zald dTS_entry_112 rfl (tc_inEntry hI h15 h23) ?_
          refine ts_if_eq (tgt := 120) dTS_entry_113 rfl (fun (h113 : (tc_r S 5 a) = 0) => ?_) (fun (h113 : ¬ (tc_r S 5 a) = 0) => ?_)
          · refine ts_iconst (v := 0) dTS_entry_120 (by decide) ?_
            have e : tc_entry S a w = 0 := by simp only [tc_entry, tz_d10, tz_d20, tz_d21, tz_d30, tz_d31, tz_d32, tz_d40, tz_d41, tz_d42, tz_d43, h7, h15, h23, h29_4, h113, ↓reduceIte]
            exact ts_iret dTS_entry_121 rfl (tc_e1v e) rfl
          · refine ts_iconst (v := 1) dTS_entry_116 (by decide) ?_
            refine ts_goto (tgt := 121) dTS_entry_117 rfl ?_
            have e : tc_entry S a w = 1 := by simp only [tc_entry, tz_d10, tz_d20, tz_d21, tz_d30, tz_d31, tz_d32, tz_d40, tz_d41, tz_d42, tz_d43, h7, h15, h23, h29_4, h113, ↓reduceIte]
            exact ts_iret dTS_entry_121 rfl (tc_e1v e) rfl
        refine ts_tableOut (tgt := 122) dTS_entry_29 (by have := lv_neT h29_0 (by decide : (0 : Int32).toInt = 0) ; have := lv_neT h29_1 (by decide : (1 : Int32).toInt = 1) ; have := lv_neT h29_2 (by decide : (2 : Int32).toInt = 2) ; have := lv_neT h29_3 (by decide : (3 : Int32).toInt = 3) ; have := lv_neT h29_4 (by decide : (4 : Int32).toInt = 4); omega) rfl ?_
        refine ts_iconst (v := 0) dTS_entry_122 (by decide) ?_
        have e : tc_entry S a w = 0 := by simp only [tc_entry, tz_d10, tz_d20, tz_d21, tz_d30, tz_d31, tz_d32, tz_d40, tz_d41, tz_d42, tz_d43, h7, h15, h23, h29_0, h29_1, h29_2, h29_3, h29_4, ↓reduceIte]
        exact ts_iret dTS_entry_123 rfl (tc_e1v e) rfl
      · refine ts_iconst (v := 0) dTS_entry_26 (by decide) ?_
        have e : tc_entry S a w = 0 := by simp only [tc_entry, tz_d10, tz_d20, tz_d21, tz_d30, tz_d31, tz_d32, tz_d40, tz_d41, tz_d42, tz_d43, h7, h15, h23, ↓reduceIte]
        exact ts_iret dTS_entry_27 rfl (tc_e1v e) rfl
set_option maxHeartbeats 4000000 in
set_option maxRecDepth 100000 in
theorem cTS_bucket (G : ts_GX) (T : List va_E) (S : tc_S) (k : Int32) (hI : tj S) : ts_M G yTS_bucket YTS_bucket [.ref 1, .int k] (tc_h G S ++ T) (some (.int (tc_bucket S k))) (tc_h G S ++ T) 0 0 := by
  refine ts_of rfl rfl rfl rfl rfl rfl (Nat.le_of_ble_eq_true rfl) (ts_cat1 rfl) (fun X => ?_)
  refine ts_aload_n dTS_bucket_0 rfl rfl ?_
  refine ts_get pTS_F12 dTS_bucket_1 rfl rfl ?_
  refine ts_get pTS_F62 dTS_bucket_4 rfl rfl ?_
  refine ts_if_eq (tgt := 13) dTS_bucket_7 rfl (fun (h7 : (S.1 12) = 0) => ?_) (fun (h7 : ¬ (S.1 12) = 0) => ?_)
  · refine ts_iload_n dTS_bucket_13 rfl rfl ?_
    refine ts_if_lt (tgt := 28) dTS_bucket_14 rfl (fun (h14 : k < 0) => ?_) (fun (h14 : ¬ k < 0) => ?_)
    · refine ts_iconst (v := -1) dTS_bucket_28 (by decide) ?_
      have e : tc_bucket S k = (-1) := by simp only [tc_bucket, h7, h14, ↓reduceIte]
      exact ts_iret dTS_bucket_29 rfl (tc_e1v e) rfl
    · refine ts_iload_n dTS_bucket_17 rfl rfl ?_
      refine ts_aload_n dTS_bucket_18 rfl rfl ?_
      refine ts_get pTS_F19 dTS_bucket_19 rfl rfl ?_
      refine ts_callV (cIX_count G T S) pTS_C130.1 pTS_C130.2 rfl rfl rfl rfl ⟨Nat.le_of_ble_eq_true rfl, Nat.le_of_ble_eq_true rfl⟩ ⟨Nat.le_of_ble_eq_true rfl, Nat.le_of_ble_eq_true rfl⟩ rfl (Nat.le_of_ble_eq_true rfl) dTS_bucket_22 ?_
      refine ts_conv (lo' := [.ref 1, .int k]) (st' := [.int (tc_count S), .int k]) (h' := tc_h G S ++ T) rfl rfl rfl ?_
      refine ts_icmp_lt (tgt := 30) dTS_bucket_25 rfl (fun (h25 : k < (tc_count S)) => ?_) (fun (h25 : ¬ k < (tc_count S)) => ?_)
      · refine ts_aload_n dTS_bucket_30 rfl rfl ?_
        refine ts_get pTS_F19 dTS_bucket_31 rfl rfl ?_
        refine ts_get pTS_F176 dTS_bucket_34 rfl rfl ?_
        refine ts_iload_n dTS_bucket_37 rfl rfl ?_
        refine ts_iald dTS_bucket_38 rfl (tc_inIx hI h14 h25) ?_
        have e : tc_bucket S k = tc_r S 0 k := by simp only [tc_bucket, h7, h14, h25, ↓reduceIte]
        exact ts_iret dTS_bucket_39 rfl (tc_e1v e) rfl
      · refine ts_iconst (v := -1) dTS_bucket_28 (by decide) ?_
        have e : tc_bucket S k = (-1) := by simp only [tc_bucket, h7, h14, h25, ↓reduceIte]
        exact ts_iret dTS_bucket_29 rfl (tc_e1v e) rfl
  · refine ts_bipush (v := -9) dTS_bucket_10 (by decide) ?_
    have e : tc_bucket S k = (-9) := by simp only [tc_bucket, h7, ↓reduceIte]
    exact ts_iret dTS_bucket_12 rfl (tc_e1v e) rfl
