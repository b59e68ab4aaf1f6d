set_option maxHeartbeats 4000000 in
set_option maxRecDepth 100000 in
theorem cMO_entry (G : ts_GX) (S : tc_S) (M : tc_S) (a w : Int32) (hJ : tj M) : ts_M G yMO_entry YMO_entry [.ref 17, .int a, .int w] (tc_h G S ++ tm_h G M) (some (.int (tm_entry M a w))) (tc_h G S ++ tm_h G M) 0 0 := by
  refine ts_of rfl rfl rfl rfl rfl rfl (Nat.le_of_ble_eq_true rfl) (ts_cat1 rfl) (fun X => ?_)
  refine ts_aload_n dMO_entry_0 rfl rfl ?_
  refine ts_get pMO_F100 dMO_entry_1 rfl rfl ?_
  refine ts_if_ne (tgt := 23) dMO_entry_4 rfl (fun (h4 : ¬ (M.1 12) = 0) => ?_) (fun (h4 : (M.1 12) = 0) => ?_)
  · refine ts_iconst (v := 0) dMO_entry_23 (by decide) ?_
    have e : tm_entry M a w = 0 := by simp only [tm_entry, tz_d10, tz_d20, tz_d21, tz_d30, tz_d31, tz_d32, tz_d40, tz_d41, tz_d42, tz_d43, h4, ↓reduceIte]
    exact ts_iret dMO_entry_24 rfl (tc_e1v e) rfl
  · refine ts_iload_n dMO_entry_7 rfl rfl ?_
    refine ts_aload_n dMO_entry_8 rfl rfl ?_
    refine ts_get pMO_F63 dMO_entry_9 rfl rfl ?_
    refine ts_icmp_lt (tgt := 23) dMO_entry_12 rfl (fun (h12 : a < (M.1 2)) => ?_) (fun (h12 : ¬ a < (M.1 2)) => ?_)
    · refine ts_iconst (v := 0) dMO_entry_23 (by decide) ?_
      have e : tm_entry M a w = 0 := by simp only [tm_entry, tz_d10, tz_d20, tz_d21, tz_d30, tz_d31, tz_d32, tz_d40, tz_d41, tz_d42, tz_d43, h4, h12, ↓reduceIte]
      exact ts_iret dMO_entry_24 rfl (tc_e1v e) rfl
    · refine ts_iload_n dMO_entry_15 rfl rfl ?_
      refine ts_aload_n dMO_entry_16 rfl rfl ?_
      refine ts_get pMO_F75 dMO_entry_17 rfl rfl ?_
      refine ts_icmp_lt (tgt := 25) dMO_entry_20 rfl (fun (h20 : a < (M.1 6)) => ?_) (fun (h20 : ¬ a < (M.1 6)) => ?_)
      · refine ts_iload_n dMO_entry_25 rfl rfl ?_
        by_cases h26_0 : w = 0
        · refine ts_tableIn (tgt := 60) dMO_entry_26 (by rw [h26_0]; decide) (by rw [h26_0]; decide) (by rw [h26_0]; rfl) rfl ?_
          refine ts_aload_n dMO_entry_60 rfl rfl ?_
          refine ts_get pMO_F7 dMO_entry_61 rfl rfl ?_
          refine ts_iload_n dMO_entry_64 rfl rfl ?_
          refine ts_iald dMO_entry_65 rfl (tc_inEntry hJ h12 h20) ?_
          have e : tm_entry M a w = tc_r M 1 a := by simp only [tm_entry, tz_d10, tz_d20, tz_d21, tz_d30, tz_d31, tz_d32, tz_d40, tz_d41, tz_d42, tz_d43, h4, h12, h20, h26_0, ↓reduceIte]
          exact ts_iret dMO_entry_66 rfl (tc_e1v e) rfl
        by_cases h26_1 : w = 1
        · refine ts_tableIn (tgt := 67) dMO_entry_26 (by rw [h26_1]; decide) (by rw [h26_1]; decide) (by rw [h26_1]; rfl) rfl ?_
          refine ts_aload_n dMO_entry_67 rfl rfl ?_
          refine ts_get pMO_F22 dMO_entry_68 rfl rfl ?_
          refine ts_iload_n dMO_entry_71 rfl rfl ?_
          refine ts_zald dMO_entry_72 rfl (tc_inEntry hJ h12 h20) ?_
          refine ts_if_eq (tgt := 80) dMO_entry_73 rfl (fun (h73 : (tc_r M 5 a) = 0) => ?_) (fun (h73 : ¬ (tc_r M 5 a) = 0) => ?_)
          · refine ts_aload_n dMO_entry_80 rfl rfl ?_
            refine ts_get pMO_F13 dMO_entry_81 rfl rfl ?_
            refine ts_iload_n dMO_entry_84 rfl rfl ?_
            refine ts_iald dMO_entry_85 rfl (tc_inEntry hJ h12 h20) ?_
            have e : tm_entry M a w = tc_r M 2 a := by simp only [tm_entry, tz_d10, tz_d20, tz_d21, tz_d30, tz_d31, tz_d32, tz_d40, tz_d41, tz_d42, tz_d43, h4, h12, h20, h26_1, h73, ↓reduceIte]
            exact ts_iret dMO_entry_86 rfl (tc_e1v e) rfl
          · refine ts_iconst (v := 0) dMO_entry_76 (by decide) ?_
            refine ts_goto (tgt := 86) dMO_entry_77 rfl ?_
            have e : tm_entry M a w = 0 := by simp only [tm_entry, tz_d10, tz_d20, tz_d21, tz_d30, tz_d31, tz_d32, tz_d40, tz_d41, tz_d42, tz_d43, h4, h12, h20, h26_1, h73, ↓reduceIte]
            exact ts_iret dMO_entry_86 rfl (tc_e1v e) rfl
        by_cases h26_2 : w = 2
        · refine ts_tableIn (tgt := 87) dMO_entry_26 (by rw [h26_2]; decide) (by rw [h26_2]; decide) (by rw [h26_2]; rfl) rfl ?_
          refine ts_aload_n dMO_entry_87 rfl rfl ?_
          refine ts_get pMO_F16 dMO_entry_88 rfl rfl ?_
          refine ts_iload_n dMO_entry_91 rfl rfl ?_
          refine ts_iald dMO_entry_92 rfl (tc_inEntry hJ h12 h20) ?_
          have e : tm_entry M a w = tc_r M 3 a := by simp only [tm_entry, tz_d10, tz_d20, tz_d21, tz_d30, tz_d31, tz_d32, tz_d40, tz_d41, tz_d42, tz_d43, h4, h12, h20, h26_2, ↓reduceIte]
          exact ts_iret dMO_entry_93 rfl (tc_e1v e) rfl
        by_cases h26_3 : w = 3
        · refine ts_tableIn (tgt := 94) dMO_entry_26 (by rw [h26_3]; decide) (by rw [h26_3]; decide) (by rw [h26_3]; rfl) rfl ?_
          refine ts_aload_n dMO_entry_94 rfl rfl ?_
          refine ts_get pMO_F19 dMO_entry_95 rfl rfl ?_
          refine ts_iload_n dMO_entry_98 rfl rfl ?_
          refine ts_iald dMO_entry_99 rfl (tc_inEntry hJ h12 h20) ?_
          have e : tm_entry M a w = tc_r M 4 a := by simp only [tm_entry, tz_d10, tz_d20, tz_d21, tz_d30, tz_d31, tz_d32, tz_d40, tz_d41, tz_d42, tz_d43, h4, h12, h20, h26_3, ↓reduceIte]
          exact ts_iret dMO_entry_100 rfl (tc_e1v e) rfl
        by_cases h26_4 : w = 4
        · refine ts_tableIn (tgt := 101) dMO_entry_26 (by rw [h26_4]; decide) (by rw [h26_4]; decide) (by rw [h26_4]; rfl) rfl ?_
          refine ts_aload_n dMO_entry_101 rfl rfl ?_
          refine ts_get pMO_F22 dMO_entry_102 rfl rfl ?_
          refine ts_iload_n dMO_entry_105 rfl rfl ?_
          refine ts_zald dMO_entry_106 rfl (tc_inEntry hJ h12 h20) ?_
          refine ts_if_eq (tgt := 114) dMO_entry_107 rfl (fun (h107 : (tc_r M 5 a) = 0) => ?_) (fun (h107 : ¬ (tc_r M 5 a) = 0) => ?_)
          · refine ts_iconst (v := 0) dMO_entry_114 (by decide) ?_
            have e : tm_entry M a w = 0 := by simp only [tm_entry, tz_d10, tz_d20, tz_d21, tz_d30, tz_d31, tz_d32, tz_d40, tz_d41, tz_d42, tz_d43, h4, h12, h20, h26_4, h107, ↓reduceIte]
            exact ts_iret dMO_entry_115 rfl (tc_e1v e) rfl
          · refine ts_iconst (v := 1) dMO_entry_110 (by decide) ?_
            refine ts_goto (tgt := 115) dMO_entry_111 rfl ?_
            have e : tm_entry M a w = 1 := by simp only [tm_entry, tz_d10, tz_d20, tz_d21, tz_d30, tz_d31, tz_d32, tz_d40, tz_d41, tz_d42, tz_d43, h4, h12, h20, h26_4, h107, ↓reduceIte]
            exact ts_iret dMO_entry_115 rfl (tc_e1v e) rfl
        refine ts_tableOut (tgt := 116) dMO_entry_26 (by have := lv_neT h26_0 (by decide : (0 : Int32).toInt = 0) ; have := lv_neT h26_1 (by decide : (1 : Int32).toInt = 1) ; have := lv_neT h26_2 (by decide : (2 : Int32).toInt = 2) ; have := lv_neT h26_3 (by decide : (3 : Int32).toInt = 3) ; have := lv_neT h26_4 (by decide : (4 : Int32).toInt = 4); omega) rfl ?_
        refine ts_iconst (v := 0) dMO_entry_116 (by decide) ?_
        have e : tm_entry M a w = 0 := by simp only [tm_entry, tz_d10, tz_d20, tz_d21, tz_d30, tz_d31, tz_d32, tz_d40, tz_d41, tz_d42, tz_d43, h4, h12, h20, h26_0, h26_1, h26_2, h26_3, h26_4, ↓reduceIte]
        exact ts_iret dMO_entry_117 rfl (tc_e1v e) rfl
      · refine ts_iconst (v := 0) dMO_entry_23 (by decide) ?_
        have e : tm_entry M a w = 0 := by simp only [tm_entry, tz_d10, tz_d20, tz_d21, tz_d30, tz_d31, tz_d32, tz_d40, tz_d41, tz_d42, tz_d43, h4, h12, h20, ↓reduceIte]
        exact ts_iret dMO_entry_24 rfl (tc_e1v e) rfl
