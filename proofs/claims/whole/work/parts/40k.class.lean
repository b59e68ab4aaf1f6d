set_option maxHeartbeats 4000000 in
set_option maxRecDepth 100000 in
theorem cTS_size (G : ts_GX) (T : List va_E) (S : tc_S) (w : Int32) (hI : tj S) : ts_M G yTS_size YTS_size [.ref 1, .int w] (tc_h G S ++ T) (some (.int (tc_size S w))) (tc_h G S ++ T) 0 0 := by
  refine ts_of rfl rfl rfl rfl rfl rfl (Nat.le_of_ble_eq_true rfl) (ts_cat1 rfl) (fun X => ?_)
  refine ts_aload_n dTS_size_0 rfl rfl ?_
  refine ts_get pTS_F12 dTS_size_1 rfl rfl ?_
  refine ts_get pTS_F62 dTS_size_4 rfl rfl ?_
  refine ts_if_ne (tgt := 14) dTS_size_7 rfl (fun (h7 : ¬ (S.1 12) = 0) => ?_) (fun (h7 : (S.1 12) = 0) => ?_)
  · refine ts_iconst (v := 0) dTS_size_14 (by decide) ?_
    refine ts_istore_n (lo' := [.ref 1, .int w, .int 0]) dTS_size_15 rfl (Nat.le_of_ble_eq_true rfl) (Nat.le_of_ble_eq_true rfl) rfl ?_
    refine ts_iload_n dTS_size_16 rfl rfl ?_
    by_cases h17_0 : w = 0
    · refine ts_tableIn (tgt := 60) dTS_size_17 (by rw [h17_0]; decide) (by rw [h17_0]; decide) (by rw [h17_0]; rfl) rfl ?_
      refine ts_iload_n dTS_size_60 rfl rfl ?_
      refine ts_if_eq (tgt := 74) dTS_size_61 rfl (fun _ => ?_) (fun (hq : ¬ (0 : Int32) = 0) => absurd hq (by decide))
      refine ts_iconst (v := 0) dTS_size_74 (by decide) ?_
      have e : tc_size S w = 0 := by simp only [tc_size, tz_d10, tz_d20, tz_d21, tz_d30, tz_d31, tz_d32, tz_d40, tz_d41, tz_d42, tz_d43, tz_d50, tz_d51, tz_d52, tz_d53, tz_d54, tz_d60, tz_d61, tz_d62, tz_d63, tz_d64, tz_d65, h7, h17_0, ↓reduceIte]
      exact ts_iret dTS_size_75 rfl (tc_e1v e) rfl
    by_cases h17_1 : w = 1
    · refine ts_tableIn (tgt := 76) dTS_size_17 (by rw [h17_1]; decide) (by rw [h17_1]; decide) (by rw [h17_1]; rfl) rfl ?_
      refine ts_iload_n dTS_size_76 rfl rfl ?_
      refine ts_if_eq (tgt := 87) dTS_size_77 rfl (fun _ => ?_) (fun (hq : ¬ (0 : Int32) = 0) => absurd hq (by decide))
      refine ts_iconst (v := 0) dTS_size_87 (by decide) ?_
      have e : tc_size S w = 0 := by simp only [tc_size, tz_d10, tz_d20, tz_d21, tz_d30, tz_d31, tz_d32, tz_d40, tz_d41, tz_d42, tz_d43, tz_d50, tz_d51, tz_d52, tz_d53, tz_d54, tz_d60, tz_d61, tz_d62, tz_d63, tz_d64, tz_d65, h7, h17_1, ↓reduceIte]
      exact ts_iret dTS_size_88 rfl (tc_e1v e) rfl
    by_cases h17_2 : w = 2
    · refine ts_tableIn (tgt := 89) dTS_size_17 (by rw [h17_2]; decide) (by rw [h17_2]; decide) (by rw [h17_2]; rfl) rfl ?_
      refine ts_aload_n dTS_size_89 rfl rfl ?_
      refine ts_get pTS_F12 dTS_size_90 rfl rfl ?_
      refine ts_get pTS_F179 dTS_size_93 rfl rfl ?_
      have e : tc_size S w = S.1 14 := by simp only [tc_size, tz_d10, tz_d20, tz_d21, tz_d30, tz_d31, tz_d32, tz_d40, tz_d41, tz_d42, tz_d43, tz_d50, tz_d51, tz_d52, tz_d53, tz_d54, tz_d60, tz_d61, tz_d62, tz_d63, tz_d64, tz_d65, h7, h17_2, ↓reduceIte]
      exact ts_iret dTS_size_96 rfl (tc_e1v e) rfl
    by_cases h17_3 : w = 3
    · refine ts_tableIn (tgt := 97) dTS_size_17 (by rw [h17_3]; decide) (by rw [h17_3]; decide) (by rw [h17_3]; rfl) rfl ?_
      refine ts_aload_n dTS_size_97 rfl rfl ?_
      refine ts_get pTS_F12 dTS_size_98 rfl rfl ?_
      refine ts_get pTS_F141 dTS_size_101 rfl rfl ?_
      have e : tc_size S w = S.1 15 := by simp only [tc_size, tz_d10, tz_d20, tz_d21, tz_d30, tz_d31, tz_d32, tz_d40, tz_d41, tz_d42, tz_d43, tz_d50, tz_d51, tz_d52, tz_d53, tz_d54, tz_d60, tz_d61, tz_d62, tz_d63, tz_d64, tz_d65, h7, h17_3, ↓reduceIte]
      exact ts_iret dTS_size_104 rfl (tc_e1v e) rfl
    by_cases h17_4 : w = 4
    · refine ts_tableIn (tgt := 105) dTS_size_17 (by rw [h17_4]; decide) (by rw [h17_4]; decide) (by rw [h17_4]; rfl) rfl ?_
      refine ts_iload_n dTS_size_105 rfl rfl ?_
      refine ts_if_eq (tgt := 116) dTS_size_106 rfl (fun _ => ?_) (fun (hq : ¬ (0 : Int32) = 0) => absurd hq (by decide))
      refine ts_iconst (v := 0) dTS_size_116 (by decide) ?_
      have e : tc_size S w = 0 := by simp only [tc_size, tz_d10, tz_d20, tz_d21, tz_d30, tz_d31, tz_d32, tz_d40, tz_d41, tz_d42, tz_d43, tz_d50, tz_d51, tz_d52, tz_d53, tz_d54, tz_d60, tz_d61, tz_d62, tz_d63, tz_d64, tz_d65, h7, h17_4, ↓reduceIte]
      exact ts_iret dTS_size_117 rfl (tc_e1v e) rfl
    by_cases h17_5 : w = 5
    · refine ts_tableIn (tgt := 118) dTS_size_17 (by rw [h17_5]; decide) (by rw [h17_5]; decide) (by rw [h17_5]; rfl) rfl ?_
      refine ts_iload_n dTS_size_118 rfl rfl ?_
      refine ts_if_eq (tgt := 126) dTS_size_119 rfl (fun _ => ?_) (fun (hq : ¬ (0 : Int32) = 0) => absurd hq (by decide))
      refine ts_iconst (v := 1) dTS_size_126 (by decide) ?_
      have e : tc_size S w = 1 := by simp only [tc_size, tz_d10, tz_d20, tz_d21, tz_d30, tz_d31, tz_d32, tz_d40, tz_d41, tz_d42, tz_d43, tz_d50, tz_d51, tz_d52, tz_d53, tz_d54, tz_d60, tz_d61, tz_d62, tz_d63, tz_d64, tz_d65, h7, h17_5, ↓reduceIte]
      exact ts_iret dTS_size_127 rfl (tc_e1v e) rfl
    by_cases h17_6 : w = 6
    · refine ts_tableIn (tgt := 128) dTS_size_17 (by rw [h17_6]; decide) (by rw [h17_6]; decide) (by rw [h17_6]; rfl) rfl ?_
      refine ts_iload_n dTS_size_128 rfl rfl ?_
      refine ts_if_eq (tgt := 139) dTS_size_129 rfl (fun _ => ?_) (fun (hq : ¬ (0 : Int32) = 0) => absurd hq (by decide))
      refine ts_iconst (v := 0) dTS_size_139 (by decide) ?_
      have e : tc_size S w = 0 := by simp only [tc_size, tz_d10, tz_d20, tz_d21, tz_d30, tz_d31, tz_d32, tz_d40, tz_d41, tz_d42, tz_d43, tz_d50, tz_d51, tz_d52, tz_d53, tz_d54, tz_d60, tz_d61, tz_d62, tz_d63, tz_d64, tz_d65, h7, h17_6, ↓reduceIte]
      exact ts_iret dTS_size_140 rfl (tc_e1v e) rfl
    refine ts_tableOut (tgt := 141) dTS_size_17 (by have := lv_neT h17_0 (by decide : (0 : Int32).toInt = 0) ; have := lv_neT h17_1 (by decide : (1 : Int32).toInt = 1) ; have := lv_neT h17_2 (by decide : (2 : Int32).toInt = 2) ; have := lv_neT h17_3 (by decide : (3 : Int32).toInt = 3) ; have := lv_neT h17_4 (by decide : (4 : Int32).toInt = 4) ; have := lv_neT h17_5 (by decide : (5 : Int32).toInt = 5) ; have := lv_neT h17_6 (by decide : (6 : Int32).toInt = 6); omega) rfl ?_
    refine ts_iconst (v := -1) dTS_size_141 (by decide) ?_
    have e : tc_size S w = (-1) := by simp only [tc_size, tz_d10, tz_d20, tz_d21, tz_d30, tz_d31, tz_d32, tz_d40, tz_d41, tz_d42, tz_d43, tz_d50, tz_d51, tz_d52, tz_d53, tz_d54, tz_d60, tz_d61, tz_d62, tz_d63, tz_d64, tz_d65, h7, h17_0, h17_1, h17_2, h17_3, h17_4, h17_5, h17_6, ↓reduceIte]
    exact ts_iret dTS_size_142 rfl (tc_e1v e) rfl
  · refine ts_iconst (v := 1) dTS_size_10 (by decide) ?_
    refine ts_goto (tgt := 15) dTS_size_11 rfl ?_
    refine ts_istore_n (lo' := [.ref 1, .int w, .int 1]) dTS_size_15 rfl (Nat.le_of_ble_eq_true rfl) (Nat.le_of_ble_eq_true rfl) rfl ?_
    refine ts_iload_n dTS_size_16 rfl rfl ?_
    by_cases h17_0 : w = 0
    · refine ts_tableIn (tgt := 60) dTS_size_17 (by rw [h17_0]; decide) (by rw [h17_0]; decide) (by rw [h17_0]; rfl) rfl ?_
      refine ts_iload_n dTS_size_60 rfl rfl ?_
      refine ts_if_eq (tgt := 74) dTS_size_61 rfl (fun (hq : (1 : Int32) = 0) => absurd hq (by decide)) (fun _ => ?_)
      refine ts_aload_n dTS_size_64 rfl rfl ?_
      refine ts_get pTS_F19 dTS_size_65 rfl rfl ?_
      refine ts_callV (cIX_count G T S) pTS_C130.1 pTS_C130.2 rfl rfl rfl rfl ⟨Nat.le_of_ble_eq_true rfl, Nat.le_of_ble_eq_true rfl⟩ ⟨Nat.le_of_ble_eq_true rfl, Nat.le_of_ble_eq_true rfl⟩ rfl (Nat.le_of_ble_eq_true rfl) dTS_size_68 ?_
      refine ts_conv (lo' := [.ref 1, .int w, .int 1]) (st' := [.int (tc_count S)]) (h' := tc_h G S ++ T) rfl rfl rfl ?_
      refine ts_goto (tgt := 75) dTS_size_71 rfl ?_
      have e : tc_size S w = tc_count S := by simp only [tc_size, tz_d10, tz_d20, tz_d21, tz_d30, tz_d31, tz_d32, tz_d40, tz_d41, tz_d42, tz_d43, tz_d50, tz_d51, tz_d52, tz_d53, tz_d54, tz_d60, tz_d61, tz_d62, tz_d63, tz_d64, tz_d65, h7, h17_0, ↓reduceIte]
      exact ts_iret dTS_size_75 rfl (tc_e1v e) rfl
    by_cases h17_1 : w = 1
    · refine ts_tableIn (tgt := 76) dTS_size_17 (by rw [h17_1]; decide) (by rw [h17_1]; decide) (by rw [h17_1]; rfl) rfl ?_
      refine ts_iload_n dTS_size_76 rfl rfl ?_
      refine ts_if_eq (tgt := 87) dTS_size_77 rfl (fun (hq : (1 : Int32) = 0) => absurd hq (by decide)) (fun _ => ?_)
      refine ts_aload_n dTS_size_80 rfl rfl ?_
      refine ts_get pTS_F30 dTS_size_81 rfl rfl ?_
      refine ts_goto (tgt := 88) dTS_size_84 rfl ?_
      have e : tc_size S w = S.1 7 := by simp only [tc_size, tz_d10, tz_d20, tz_d21, tz_d30, tz_d31, tz_d32, tz_d40, tz_d41, tz_d42, tz_d43, tz_d50, tz_d51, tz_d52, tz_d53, tz_d54, tz_d60, tz_d61, tz_d62, tz_d63, tz_d64, tz_d65, h7, h17_1, ↓reduceIte]
      exact ts_iret dTS_size_88 rfl (tc_e1v e) rfl
    by_cases h17_2 : w = 2
    · refine ts_tableIn (tgt := 89) dTS_size_17 (by rw [h17_2]; decide) (by rw [h17_2]; decide) (by rw [h17_2]; rfl) rfl ?_
      refine ts_aload_n dTS_size_89 rfl rfl ?_
      refine ts_get pTS_F12 dTS_size_90 rfl rfl ?_
      refine ts_get pTS_F179 dTS_size_93 rfl rfl ?_
      have e : tc_size S w = S.1 14 := by simp only [tc_size, tz_d10, tz_d20, tz_d21, tz_d30, tz_d31, tz_d32, tz_d40, tz_d41, tz_d42, tz_d43, tz_d50, tz_d51, tz_d52, tz_d53, tz_d54, tz_d60, tz_d61, tz_d62, tz_d63, tz_d64, tz_d65, h7, h17_2, ↓reduceIte]
      exact ts_iret dTS_size_96 rfl (tc_e1v e) rfl
    by_cases h17_3 : w = 3
    · refine ts_tableIn (tgt := 97) dTS_size_17 (by rw [h17_3]; decide) (by rw [h17_3]; decide) (by rw [h17_3]; rfl) rfl ?_
      refine ts_aload_n dTS_size_97 rfl rfl ?_
      refine ts_get pTS_F12 dTS_size_98 rfl rfl ?_
      refine ts_get pTS_F141 dTS_size_101 rfl rfl ?_
      have e : tc_size S w = S.1 15 := by simp only [tc_size, tz_d10, tz_d20, tz_d21, tz_d30, tz_d31, tz_d32, tz_d40, tz_d41, tz_d42, tz_d43, tz_d50, tz_d51, tz_d52, tz_d53, tz_d54, tz_d60, tz_d61, tz_d62, tz_d63, tz_d64, tz_d65, h7, h17_3, ↓reduceIte]
      exact ts_iret dTS_size_104 rfl (tc_e1v e) rfl
    by_cases h17_4 : w = 4
    · refine ts_tableIn (tgt := 105) dTS_size_17 (by rw [h17_4]; decide) (by rw [h17_4]; decide) (by rw [h17_4]; rfl) rfl ?_
      refine ts_iload_n dTS_size_105 rfl rfl ?_
      refine ts_if_eq (tgt := 116) dTS_size_106 rfl (fun (hq : (1 : Int32) = 0) => absurd hq (by decide)) (fun _ => ?_)
      refine ts_aload_n dTS_size_109 rfl rfl ?_
      refine ts_get pTS_F44 dTS_size_110 rfl rfl ?_
      refine ts_goto (tgt := 117) dTS_size_113 rfl ?_
      have e : tc_size S w = S.1 9 := by simp only [tc_size, tz_d10, tz_d20, tz_d21, tz_d30, tz_d31, tz_d32, tz_d40, tz_d41, tz_d42, tz_d43, tz_d50, tz_d51, tz_d52, tz_d53, tz_d54, tz_d60, tz_d61, tz_d62, tz_d63, tz_d64, tz_d65, h7, h17_4, ↓reduceIte]
      exact ts_iret dTS_size_117 rfl (tc_e1v e) rfl
    by_cases h17_5 : w = 5
    · refine ts_tableIn (tgt := 118) dTS_size_17 (by rw [h17_5]; decide) (by rw [h17_5]; decide) (by rw [h17_5]; rfl) rfl ?_
      refine ts_iload_n dTS_size_118 rfl rfl ?_
      refine ts_if_eq (tgt := 126) dTS_size_119 rfl (fun (hq : (1 : Int32) = 0) => absurd hq (by decide)) (fun _ => ?_)
      refine ts_iconst (v := 0) dTS_size_122 (by decide) ?_
      refine ts_goto (tgt := 127) dTS_size_123 rfl ?_
      have e : tc_size S w = 0 := by simp only [tc_size, tz_d10, tz_d20, tz_d21, tz_d30, tz_d31, tz_d32, tz_d40, tz_d41, tz_d42, tz_d43, tz_d50, tz_d51, tz_d52, tz_d53, tz_d54, tz_d60, tz_d61, tz_d62, tz_d63, tz_d64, tz_d65, h7, h17_5, ↓reduceIte]
      exact ts_iret dTS_size_127 rfl (tc_e1v e) rfl
    by_cases h17_6 : w = 6
    · refine ts_tableIn (tgt := 128) dTS_size_17 (by rw [h17_6]; decide) (by rw [h17_6]; decide) (by rw [h17_6]; rfl) rfl ?_
      refine ts_iload_n dTS_size_128 rfl rfl ?_
      refine ts_if_eq (tgt := 139) dTS_size_129 rfl (fun (hq : (1 : Int32) = 0) => absurd hq (by decide)) (fun _ => ?_)
      refine ts_aload_n dTS_size_132 rfl rfl ?_
      refine ts_callV (cTS_keysWithValue G T S hI) pTS_C182.1 pTS_C182.2 rfl rfl rfl rfl ⟨Nat.le_of_ble_eq_true rfl, Nat.le_of_ble_eq_true rfl⟩ ⟨Nat.le_of_ble_eq_true rfl, Nat.le_of_ble_eq_true rfl⟩ rfl (Nat.le_of_ble_eq_true rfl) dTS_size_133 ?_
      refine ts_conv (lo' := [.ref 1, .int w, .int 1]) (st' := [.int (tc_keys S)]) (h' := tc_h G S ++ T) rfl rfl rfl ?_
      refine ts_goto (tgt := 140) dTS_size_136 rfl ?_
      have e : tc_size S w = tc_keys S := by simp only [tc_size, tz_d10, tz_d20, tz_d21, tz_d30, tz_d31, tz_d32, tz_d40, tz_d41, tz_d42, tz_d43, tz_d50, tz_d51, tz_d52, tz_d53, tz_d54, tz_d60, tz_d61, tz_d62, tz_d63, tz_d64, tz_d65, h7, h17_6, ↓reduceIte]
      exact ts_iret dTS_size_140 rfl (tc_e1v e) rfl
    refine ts_tableOut (tgt := 141) dTS_size_17 (by have := lv_neT h17_0 (by decide : (0 : Int32).toInt = 0) ; have := lv_neT h17_1 (by decide : (1 : Int32).toInt = 1) ; have := lv_neT h17_2 (by decide : (2 : Int32).toInt = 2) ; have := lv_neT h17_3 (by decide : (3 : Int32).toInt = 3) ; have := lv_neT h17_4 (by decide : (4 : Int32).toInt = 4) ; have := lv_neT h17_5 (by decide : (5 : Int32).toInt = 5) ; have := lv_neT h17_6 (by decide : (6 : Int32).toInt = 6); omega) rfl ?_
    refine ts_iconst (v := -1) dTS_size_141 (by decide) ?_
    have e : tc_size S w = (-1) := by simp only [tc_size, tz_d10, tz_d20, tz_d21, tz_d30, tz_d31, tz_d32, tz_d40, tz_d41, tz_d42, tz_d43, tz_d50, tz_d51, tz_d52, tz_d53, tz_d54, tz_d60, tz_d61, tz_d62, tz_d63, tz_d64, tz_d65, h7, h17_0, h17_1, h17_2, h17_3, h17_4, h17_5, h17_6, ↓reduceIte]
    exact ts_iret dTS_size_142 rfl (tc_e1v e) rfl
