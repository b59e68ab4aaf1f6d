set_option maxHeartbeats 4000000 in
set_option maxRecDepth 100000 in
theorem cMO_size (G : ts_GX) (S : tc_S) (M : tc_S) (w : Int32) (hJ : tj M) : ts_M G yMO_size YMO_size [.ref 17, .int w] (tc_h G S ++ tm_h G M) (some (.int (tc_size M w))) (tc_h G S ++ tm_h G M) 0 0 := by
  refine ts_of rfl rfl rfl rfl rfl rfl (Nat.le_of_ble_eq_true rfl) (ts_cat1 rfl) (fun X => ?_)
  refine ts_iload_n dMO_size_0 rfl rfl ?_
  by_cases h1_0 : w = 0
  · refine ts_tableIn (tgt := 44) dMO_size_1 (by rw [h1_0]; decide) (by rw [h1_0]; decide) (by rw [h1_0]; rfl) rfl ?_
    refine ts_aload_n dMO_size_44 rfl rfl ?_
    refine ts_get pMO_F100 dMO_size_45 rfl rfl ?_
    refine ts_if_eq (tgt := 55) dMO_size_48 rfl (fun (h48 : (M.1 12) = 0) => ?_) (fun (h48 : ¬ (M.1 12) = 0) => ?_)
    · refine ts_aload_n dMO_size_55 rfl rfl ?_
      refine ts_callV (cMO_bucketCount G S M) pMO_C145.1 pMO_C145.2 rfl rfl rfl rfl ⟨Nat.le_of_ble_eq_true rfl, Nat.le_of_ble_eq_true rfl⟩ ⟨Nat.le_of_ble_eq_true rfl, Nat.le_of_ble_eq_true rfl⟩ rfl (Nat.le_of_ble_eq_true rfl) dMO_size_56 ?_
      refine ts_conv (lo' := [.ref 17, .int w]) (st' := [.int (tc_count M)]) (h' := tc_h G S ++ tm_h G M) rfl rfl rfl ?_
      have e : tc_size M w = tc_count M := by simp only [tc_size, tz_d10, tz_d20, tz_d21, tz_d30, tz_d31, tz_d32, tz_d40, tz_d41, tz_d42, tz_d43, tz_d50, tz_d51, tz_d52, tz_d53, tz_d54, tz_d60, tz_d61, tz_d62, tz_d63, tz_d64, tz_d65, h1_0, h48, ↓reduceIte]
      exact ts_iret dMO_size_59 rfl (tc_e1v e) rfl
    · refine ts_iconst (v := 0) dMO_size_51 (by decide) ?_
      refine ts_goto (tgt := 59) dMO_size_52 rfl ?_
      have e : tc_size M w = 0 := by simp only [tc_size, tz_d10, tz_d20, tz_d21, tz_d30, tz_d31, tz_d32, tz_d40, tz_d41, tz_d42, tz_d43, tz_d50, tz_d51, tz_d52, tz_d53, tz_d54, tz_d60, tz_d61, tz_d62, tz_d63, tz_d64, tz_d65, h1_0, h48, ↓reduceIte]
      exact ts_iret dMO_size_59 rfl (tc_e1v e) rfl
  by_cases h1_1 : w = 1
  · refine ts_tableIn (tgt := 60) dMO_size_1 (by rw [h1_1]; decide) (by rw [h1_1]; decide) (by rw [h1_1]; rfl) rfl ?_
    refine ts_aload_n dMO_size_60 rfl rfl ?_
    refine ts_get pMO_F100 dMO_size_61 rfl rfl ?_
    refine ts_if_eq (tgt := 71) dMO_size_64 rfl (fun (h64 : (M.1 12) = 0) => ?_) (fun (h64 : ¬ (M.1 12) = 0) => ?_)
    · refine ts_aload_n dMO_size_71 rfl rfl ?_
      refine ts_get pMO_F84 dMO_size_72 rfl rfl ?_
      have e : tc_size M w = M.1 7 := by simp only [tc_size, tz_d10, tz_d20, tz_d21, tz_d30, tz_d31, tz_d32, tz_d40, tz_d41, tz_d42, tz_d43, tz_d50, tz_d51, tz_d52, tz_d53, tz_d54, tz_d60, tz_d61, tz_d62, tz_d63, tz_d64, tz_d65, h1_1, h64, ↓reduceIte]
      exact ts_iret dMO_size_75 rfl (tc_e1v e) rfl
    · refine ts_iconst (v := 0) dMO_size_67 (by decide) ?_
      refine ts_goto (tgt := 75) dMO_size_68 rfl ?_
      have e : tc_size M w = 0 := by simp only [tc_size, tz_d10, tz_d20, tz_d21, tz_d30, tz_d31, tz_d32, tz_d40, tz_d41, tz_d42, tz_d43, tz_d50, tz_d51, tz_d52, tz_d53, tz_d54, tz_d60, tz_d61, tz_d62, tz_d63, tz_d64, tz_d65, h1_1, h64, ↓reduceIte]
      exact ts_iret dMO_size_75 rfl (tc_e1v e) rfl
  by_cases h1_2 : w = 2
  · refine ts_tableIn (tgt := 76) dMO_size_1 (by rw [h1_2]; decide) (by rw [h1_2]; decide) (by rw [h1_2]; rfl) rfl ?_
    refine ts_aload_n dMO_size_76 rfl rfl ?_
    refine ts_get pMO_F94 dMO_size_77 rfl rfl ?_
    have e : tc_size M w = M.1 14 := by simp only [tc_size, tz_d10, tz_d20, tz_d21, tz_d30, tz_d31, tz_d32, tz_d40, tz_d41, tz_d42, tz_d43, tz_d50, tz_d51, tz_d52, tz_d53, tz_d54, tz_d60, tz_d61, tz_d62, tz_d63, tz_d64, tz_d65, h1_2, ↓reduceIte]
    exact ts_iret dMO_size_80 rfl (tc_e1v e) rfl
  by_cases h1_3 : w = 3
  · refine ts_tableIn (tgt := 81) dMO_size_1 (by rw [h1_3]; decide) (by rw [h1_3]; decide) (by rw [h1_3]; rfl) rfl ?_
    refine ts_aload_n dMO_size_81 rfl rfl ?_
    refine ts_get pMO_F91 dMO_size_82 rfl rfl ?_
    have e : tc_size M w = M.1 15 := by simp only [tc_size, tz_d10, tz_d20, tz_d21, tz_d30, tz_d31, tz_d32, tz_d40, tz_d41, tz_d42, tz_d43, tz_d50, tz_d51, tz_d52, tz_d53, tz_d54, tz_d60, tz_d61, tz_d62, tz_d63, tz_d64, tz_d65, h1_3, ↓reduceIte]
    exact ts_iret dMO_size_85 rfl (tc_e1v e) rfl
  by_cases h1_4 : w = 4
  · refine ts_tableIn (tgt := 86) dMO_size_1 (by rw [h1_4]; decide) (by rw [h1_4]; decide) (by rw [h1_4]; rfl) rfl ?_
    refine ts_aload_n dMO_size_86 rfl rfl ?_
    refine ts_get pMO_F100 dMO_size_87 rfl rfl ?_
    refine ts_if_eq (tgt := 97) dMO_size_90 rfl (fun (h90 : (M.1 12) = 0) => ?_) (fun (h90 : ¬ (M.1 12) = 0) => ?_)
    · refine ts_aload_n dMO_size_97 rfl rfl ?_
      refine ts_get pMO_F136 dMO_size_98 rfl rfl ?_
      have e : tc_size M w = M.1 9 := by simp only [tc_size, tz_d10, tz_d20, tz_d21, tz_d30, tz_d31, tz_d32, tz_d40, tz_d41, tz_d42, tz_d43, tz_d50, tz_d51, tz_d52, tz_d53, tz_d54, tz_d60, tz_d61, tz_d62, tz_d63, tz_d64, tz_d65, h1_4, h90, ↓reduceIte]
      exact ts_iret dMO_size_101 rfl (tc_e1v e) rfl
    · refine ts_iconst (v := 0) dMO_size_93 (by decide) ?_
      refine ts_goto (tgt := 101) dMO_size_94 rfl ?_
      have e : tc_size M w = 0 := by simp only [tc_size, tz_d10, tz_d20, tz_d21, tz_d30, tz_d31, tz_d32, tz_d40, tz_d41, tz_d42, tz_d43, tz_d50, tz_d51, tz_d52, tz_d53, tz_d54, tz_d60, tz_d61, tz_d62, tz_d63, tz_d64, tz_d65, h1_4, h90, ↓reduceIte]
      exact ts_iret dMO_size_101 rfl (tc_e1v e) rfl
  by_cases h1_5 : w = 5
  · refine ts_tableIn (tgt := 102) dMO_size_1 (by rw [h1_5]; decide) (by rw [h1_5]; decide) (by rw [h1_5]; rfl) rfl ?_
    refine ts_aload_n dMO_size_102 rfl rfl ?_
    refine ts_get pMO_F100 dMO_size_103 rfl rfl ?_
    refine ts_if_eq (tgt := 113) dMO_size_106 rfl (fun (h106 : (M.1 12) = 0) => ?_) (fun (h106 : ¬ (M.1 12) = 0) => ?_)
    · refine ts_iconst (v := 0) dMO_size_113 (by decide) ?_
      have e : tc_size M w = 0 := by simp only [tc_size, tz_d10, tz_d20, tz_d21, tz_d30, tz_d31, tz_d32, tz_d40, tz_d41, tz_d42, tz_d43, tz_d50, tz_d51, tz_d52, tz_d53, tz_d54, tz_d60, tz_d61, tz_d62, tz_d63, tz_d64, tz_d65, h1_5, h106, ↓reduceIte]
      exact ts_iret dMO_size_114 rfl (tc_e1v e) rfl
    · refine ts_iconst (v := 1) dMO_size_109 (by decide) ?_
      refine ts_goto (tgt := 114) dMO_size_110 rfl ?_
      have e : tc_size M w = 1 := by simp only [tc_size, tz_d10, tz_d20, tz_d21, tz_d30, tz_d31, tz_d32, tz_d40, tz_d41, tz_d42, tz_d43, tz_d50, tz_d51, tz_d52, tz_d53, tz_d54, tz_d60, tz_d61, tz_d62, tz_d63, tz_d64, tz_d65, h1_5, h106, ↓reduceIte]
      exact ts_iret dMO_size_114 rfl (tc_e1v e) rfl
  by_cases h1_6 : w = 6
  · refine ts_tableIn (tgt := 115) dMO_size_1 (by rw [h1_6]; decide) (by rw [h1_6]; decide) (by rw [h1_6]; rfl) rfl ?_
    refine ts_aload_n dMO_size_115 rfl rfl ?_
    refine ts_get pMO_F100 dMO_size_116 rfl rfl ?_
    refine ts_if_eq (tgt := 126) dMO_size_119 rfl (fun (h119 : (M.1 12) = 0) => ?_) (fun (h119 : ¬ (M.1 12) = 0) => ?_)
    · refine ts_aload_n dMO_size_126 rfl rfl ?_
      refine ts_callV (cMO_living G S M hJ) pMO_C158.1 pMO_C158.2 rfl rfl rfl rfl ⟨Nat.le_of_ble_eq_true rfl, Nat.le_of_ble_eq_true rfl⟩ ⟨Nat.le_of_ble_eq_true rfl, Nat.le_of_ble_eq_true rfl⟩ rfl (Nat.le_of_ble_eq_true rfl) dMO_size_127 ?_
      refine ts_conv (lo' := [.ref 17, .int w]) (st' := [.int (tc_keys M)]) (h' := tc_h G S ++ tm_h G M) rfl rfl rfl ?_
      have e : tc_size M w = tc_keys M := by simp only [tc_size, tz_d10, tz_d20, tz_d21, tz_d30, tz_d31, tz_d32, tz_d40, tz_d41, tz_d42, tz_d43, tz_d50, tz_d51, tz_d52, tz_d53, tz_d54, tz_d60, tz_d61, tz_d62, tz_d63, tz_d64, tz_d65, h1_6, h119, ↓reduceIte]
      exact ts_iret dMO_size_130 rfl (tc_e1v e) rfl
    · refine ts_iconst (v := 0) dMO_size_122 (by decide) ?_
      refine ts_goto (tgt := 130) dMO_size_123 rfl ?_
      have e : tc_size M w = 0 := by simp only [tc_size, tz_d10, tz_d20, tz_d21, tz_d30, tz_d31, tz_d32, tz_d40, tz_d41, tz_d42, tz_d43, tz_d50, tz_d51, tz_d52, tz_d53, tz_d54, tz_d60, tz_d61, tz_d62, tz_d63, tz_d64, tz_d65, h1_6, h119, ↓reduceIte]
      exact ts_iret dMO_size_130 rfl (tc_e1v e) rfl
  refine ts_tableOut (tgt := 131) dMO_size_1 (by have := lv_neT h1_0 (by decide : (0 : Int32).toInt = 0) ; have := lv_neT h1_1 (by decide : (1 : Int32).toInt = 1) ; have := lv_neT h1_2 (by decide : (2 : Int32).toInt = 2) ; have := lv_neT h1_3 (by decide : (3 : Int32).toInt = 3) ; have := lv_neT h1_4 (by decide : (4 : Int32).toInt = 4) ; have := lv_neT h1_5 (by decide : (5 : Int32).toInt = 5) ; have := lv_neT h1_6 (by decide : (6 : Int32).toInt = 6); omega) rfl ?_
  refine ts_iconst (v := -1) dMO_size_131 (by decide) ?_
  have e : tc_size M w = (-1) := by simp only [tc_size, tz_d10, tz_d20, tz_d21, tz_d30, tz_d31, tz_d32, tz_d40, tz_d41, tz_d42, tz_d43, tz_d50, tz_d51, tz_d52, tz_d53, tz_d54, tz_d60, tz_d61, tz_d62, tz_d63, tz_d64, tz_d65, h1_0, h1_1, h1_2, h1_3, h1_4, h1_5, h1_6, ↓reduceIte]
  exact ts_iret dMO_size_132 rfl (tc_e1v e) rfl
