set_option maxHeartbeats 4000000 in
set_option maxRecDepth 100000 in
theorem cTS_checkpoint (G : ts_GX) (T : List va_E) (S : tc_S) : ts_M G yTS_checkpoint YTS_checkpoint [.ref 1] (tc_h G S ++ T) (some (.int (tc_checkpoint S).1)) (tc_h G (tc_checkpoint S).2 ++ T) 0 0 := by
  refine ts_of rfl rfl rfl rfl rfl rfl (Nat.le_of_ble_eq_true rfl) (ts_cat1 rfl) (fun X => ?_)
  obtain ⟨F, A, sw⟩ := S
  cases sw with
  | false =>
    refine ts_aload_n dTS_checkpoint_0 rfl rfl ?_
    refine ts_get pTS_F12 dTS_checkpoint_1 rfl rfl ?_
    refine ts_get pTS_F62 dTS_checkpoint_4 rfl rfl ?_
    refine ts_if_eq (tgt := 13) dTS_checkpoint_7 rfl (fun (h7 : (F 12) = 0) => ?_) (fun (h7 : ¬ (F 12) = 0) => ?_)
    · refine ts_aload_n dTS_checkpoint_13 rfl rfl ?_
      refine ts_get pTS_F44 dTS_checkpoint_14 rfl rfl ?_
      refine ts_if_eq (tgt := 23) dTS_checkpoint_17 rfl (fun (h17 : (F 9) = 0) => ?_) (fun (h17 : ¬ (F 9) = 0) => ?_)
      · refine ts_aload_n dTS_checkpoint_23 rfl rfl ?_
        refine ts_get pTS_F41 dTS_checkpoint_24 rfl rfl ?_
        refine ts_aload_n dTS_checkpoint_27 rfl rfl ?_
        refine ts_get pTS_F30 dTS_checkpoint_28 rfl rfl ?_
        refine ts_put pTS_P94 dTS_checkpoint_31 rfl (Nat.le_of_ble_eq_true rfl) rfl rfl (h' := tc_h G (tc_f (F, A, false) 24 (F 7)) ++ T) (th_f24_0 _ _ _ _ rfl) ?_
        refine ts_aload_n dTS_checkpoint_34 rfl rfl ?_
        refine ts_get pTS_F41 dTS_checkpoint_35 rfl rfl ?_
        refine ts_aload_n dTS_checkpoint_38 rfl rfl ?_
        refine ts_get pTS_F95 dTS_checkpoint_39 rfl rfl ?_
        refine ts_put pTS_P98 dTS_checkpoint_42 rfl (Nat.le_of_ble_eq_true rfl) rfl rfl (h' := tc_h G (tc_f (tc_f (F, A, false) 24 (F 7)) 25 (F 2)) ++ T) (th_f25_0 _ _ _ _ rfl) ?_
        refine ts_aload_n dTS_checkpoint_45 rfl rfl ?_
        refine ts_get pTS_F41 dTS_checkpoint_46 rfl rfl ?_
        refine ts_aload_n dTS_checkpoint_49 rfl rfl ?_
        refine ts_get pTS_F99 dTS_checkpoint_50 rfl rfl ?_
        refine ts_put pTS_P102 dTS_checkpoint_53 rfl (Nat.le_of_ble_eq_true rfl) rfl rfl (h' := tc_h G (tc_f (tc_f (tc_f (F, A, false) 24 (F 7)) 25 (F 2)) 26 (F 6)) ++ T) (th_f26_0 _ _ _ _ rfl) ?_
        refine ts_aload_n dTS_checkpoint_56 rfl rfl ?_
        refine ts_get pTS_F41 dTS_checkpoint_57 rfl rfl ?_
        refine ts_get pTS_F105 dTS_checkpoint_60 rfl rfl ?_
        refine ts_aload_n dTS_checkpoint_63 rfl rfl ?_
        refine ts_get pTS_F19 dTS_checkpoint_64 rfl rfl ?_
        refine ts_get pTS_F108 dTS_checkpoint_67 rfl rfl ?_
        refine ts_put pTS_P108 dTS_checkpoint_70 rfl (Nat.le_of_ble_eq_true rfl) rfl rfl (h' := tc_h G (tc_f (tc_f (tc_f (tc_f (F, A, false) 24 (F 7)) 25 (F 2)) 26 (F 6)) 28 (F 16)) ++ T) (th_f28_0 _ _ _ _ rfl) ?_
        refine ts_aload_n dTS_checkpoint_73 rfl rfl ?_
        refine ts_get pTS_F41 dTS_checkpoint_74 rfl rfl ?_
        refine ts_get pTS_F105 dTS_checkpoint_77 rfl rfl ?_
        refine ts_aload_n dTS_checkpoint_80 rfl rfl ?_
        refine ts_get pTS_F19 dTS_checkpoint_81 rfl rfl ?_
        refine ts_get pTS_F111 dTS_checkpoint_84 rfl rfl ?_
        refine ts_put pTS_P111 dTS_checkpoint_87 rfl (Nat.le_of_ble_eq_true rfl) rfl rfl (h' := tc_h G (tc_f (tc_f (tc_f (tc_f (tc_f (F, A, false) 24 (F 7)) 25 (F 2)) 26 (F 6)) 28 (F 16)) 29 (F 17)) ++ T) (th_f29_0 _ _ _ _ rfl) ?_
        refine ts_aload_n dTS_checkpoint_90 rfl rfl ?_
        refine ts_dup dTS_checkpoint_91 rfl ?_
        refine ts_get pTS_F30 dTS_checkpoint_92 rfl rfl ?_
        refine ts_iconst (v := 1) dTS_checkpoint_95 (by decide) ?_
        refine ts_iadd dTS_checkpoint_96 ?_
        refine ts_put pTS_P30 dTS_checkpoint_97 rfl (Nat.le_of_ble_eq_true rfl) rfl rfl (h' := tc_h G (tc_f (tc_f (tc_f (tc_f (tc_f (tc_f (F, A, false) 24 (F 7)) 25 (F 2)) 26 (F 6)) 28 (F 16)) 29 (F 17)) 7 ((F 7) + 1)) ++ T) (th_f7 _ _ _ _) ?_
        refine ts_aload_n dTS_checkpoint_100 rfl rfl ?_
        refine ts_iconst (v := 0) dTS_checkpoint_101 (by decide) ?_
        refine ts_put pTS_P114 dTS_checkpoint_102 rfl (Nat.le_of_ble_eq_true rfl) rfl rfl (h' := tc_h G (tc_f (tc_f (tc_f (tc_f (tc_f (tc_f (tc_f (F, A, false) 24 (F 7)) 25 (F 2)) 26 (F 6)) 28 (F 16)) 29 (F 17)) 7 ((F 7) + 1)) 10 0) ++ T) (th_f10 _ _ _ _) ?_
        refine ts_aload_n dTS_checkpoint_105 rfl rfl ?_
        refine ts_iconst (v := 0) dTS_checkpoint_106 (by decide) ?_
        refine ts_put pTS_P117 dTS_checkpoint_107 rfl (Nat.le_of_ble_eq_true rfl) rfl rfl (h' := tc_h G (tc_f (tc_f (tc_f (tc_f (tc_f (tc_f (tc_f (tc_f (F, A, false) 24 (F 7)) 25 (F 2)) 26 (F 6)) 28 (F 16)) 29 (F 17)) 7 ((F 7) + 1)) 10 0) 11 0) ++ T) (th_f11 _ _ _ _) ?_
        refine ts_aload_n dTS_checkpoint_110 rfl rfl ?_
        refine ts_iconst (v := 1) dTS_checkpoint_111 (by decide) ?_
        refine ts_put pTS_P44 dTS_checkpoint_112 rfl (Nat.le_of_ble_eq_true rfl) rfl rfl (h' := tc_h G (tc_f (tc_f (tc_f (tc_f (tc_f (tc_f (tc_f (tc_f (tc_f (F, A, false) 24 (F 7)) 25 (F 2)) 26 (F 6)) 28 (F 16)) 29 (F 17)) 7 ((F 7) + 1)) 10 0) 11 0) 9 1) ++ T) (th_f9 _ _ _ _) ?_
        refine ts_aload_n dTS_checkpoint_115 rfl rfl ?_
        refine ts_get pTS_F41 dTS_checkpoint_116 rfl rfl ?_
        refine ts_get pTS_F94 dTS_checkpoint_119 rfl rfl ?_
        have e : tc_checkpoint (F, A, false) = (F 7, tc_f (tc_f (tc_f (tc_f (tc_f (tc_f (tc_f (tc_f (tc_f (F, A, false) 24 (F 7)) 25 (F 2)) 26 (F 6)) 28 (F 16)) 29 (F 17)) 7 ((F 7) + 1)) 10 0) 11 0) 9 1) := by simp only [tc_checkpoint, h7, h17, ↓reduceIte]
        exact ts_iret dTS_checkpoint_122 rfl (tc_e1 e) (tc_e2 e)
      · refine ts_bipush (v := -3) dTS_checkpoint_20 (by decide) ?_
        have e : tc_checkpoint (F, A, false) = ((-3), (F, A, false)) := by simp only [tc_checkpoint, h7, h17, ↓reduceIte]
        exact ts_iret dTS_checkpoint_22 rfl (tc_e1 e) (tc_e2 e)
    · refine ts_bipush (v := -9) dTS_checkpoint_10 (by decide) ?_
      have e : tc_checkpoint (F, A, false) = ((-9), (F, A, false)) := by simp only [tc_checkpoint, h7, ↓reduceIte]
      exact ts_iret dTS_checkpoint_12 rfl (tc_e1 e) (tc_e2 e)
  | true =>
    refine ts_aload_n dTS_checkpoint_0 rfl rfl ?_
    refine ts_get pTS_F12 dTS_checkpoint_1 rfl rfl ?_
    refine ts_get pTS_F62 dTS_checkpoint_4 rfl rfl ?_
    refine ts_if_eq (tgt := 13) dTS_checkpoint_7 rfl (fun (h7 : (F 12) = 0) => ?_) (fun (h7 : ¬ (F 12) = 0) => ?_)
    · refine ts_aload_n dTS_checkpoint_13 rfl rfl ?_
      refine ts_get pTS_F44 dTS_checkpoint_14 rfl rfl ?_
      refine ts_if_eq (tgt := 23) dTS_checkpoint_17 rfl (fun (h17 : (F 9) = 0) => ?_) (fun (h17 : ¬ (F 9) = 0) => ?_)
      · refine ts_aload_n dTS_checkpoint_23 rfl rfl ?_
        refine ts_get pTS_F41 dTS_checkpoint_24 rfl rfl ?_
        refine ts_aload_n dTS_checkpoint_27 rfl rfl ?_
        refine ts_get pTS_F30 dTS_checkpoint_28 rfl rfl ?_
        refine ts_put pTS_P94 dTS_checkpoint_31 rfl (Nat.le_of_ble_eq_true rfl) rfl rfl (h' := tc_h G (tc_f (F, A, true) 24 (F 7)) ++ T) (th_f24_1 _ _ _ _ rfl) ?_
        refine ts_aload_n dTS_checkpoint_34 rfl rfl ?_
        refine ts_get pTS_F41 dTS_checkpoint_35 rfl rfl ?_
        refine ts_aload_n dTS_checkpoint_38 rfl rfl ?_
        refine ts_get pTS_F95 dTS_checkpoint_39 rfl rfl ?_
        refine ts_put pTS_P98 dTS_checkpoint_42 rfl (Nat.le_of_ble_eq_true rfl) rfl rfl (h' := tc_h G (tc_f (tc_f (F, A, true) 24 (F 7)) 25 (F 2)) ++ T) (th_f25_1 _ _ _ _ rfl) ?_
        refine ts_aload_n dTS_checkpoint_45 rfl rfl ?_
        refine ts_get pTS_F41 dTS_checkpoint_46 rfl rfl ?_
        refine ts_aload_n dTS_checkpoint_49 rfl rfl ?_
        refine ts_get pTS_F99 dTS_checkpoint_50 rfl rfl ?_
        refine ts_put pTS_P102 dTS_checkpoint_53 rfl (Nat.le_of_ble_eq_true rfl) rfl rfl (h' := tc_h G (tc_f (tc_f (tc_f (F, A, true) 24 (F 7)) 25 (F 2)) 26 (F 6)) ++ T) (th_f26_1 _ _ _ _ rfl) ?_
        refine ts_aload_n dTS_checkpoint_56 rfl rfl ?_
        refine ts_get pTS_F41 dTS_checkpoint_57 rfl rfl ?_
        refine ts_get pTS_F105 dTS_checkpoint_60 rfl rfl ?_
        refine ts_aload_n dTS_checkpoint_63 rfl rfl ?_
        refine ts_get pTS_F19 dTS_checkpoint_64 rfl rfl ?_
        refine ts_get pTS_F108 dTS_checkpoint_67 rfl rfl ?_
        refine ts_put pTS_P108 dTS_checkpoint_70 rfl (Nat.le_of_ble_eq_true rfl) rfl rfl (h' := tc_h G (tc_f (tc_f (tc_f (tc_f (F, A, true) 24 (F 7)) 25 (F 2)) 26 (F 6)) 28 (F 16)) ++ T) (th_f28_1 _ _ _ _ rfl) ?_
        refine ts_aload_n dTS_checkpoint_73 rfl rfl ?_
        refine ts_get pTS_F41 dTS_checkpoint_74 rfl rfl ?_
        refine ts_get pTS_F105 dTS_checkpoint_77 rfl rfl ?_
        refine ts_aload_n dTS_checkpoint_80 rfl rfl ?_
        refine ts_get pTS_F19 dTS_checkpoint_81 rfl rfl ?_
        refine ts_get pTS_F111 dTS_checkpoint_84 rfl rfl ?_
        refine ts_put pTS_P111 dTS_checkpoint_87 rfl (Nat.le_of_ble_eq_true rfl) rfl rfl (h' := tc_h G (tc_f (tc_f (tc_f (tc_f (tc_f (F, A, true) 24 (F 7)) 25 (F 2)) 26 (F 6)) 28 (F 16)) 29 (F 17)) ++ T) (th_f29_1 _ _ _ _ rfl) ?_
        refine ts_aload_n dTS_checkpoint_90 rfl rfl ?_
        refine ts_dup dTS_checkpoint_91 rfl ?_
        refine ts_get pTS_F30 dTS_checkpoint_92 rfl rfl ?_
        refine ts_iconst (v := 1) dTS_checkpoint_95 (by decide) ?_
        refine ts_iadd dTS_checkpoint_96 ?_
        refine ts_put pTS_P30 dTS_checkpoint_97 rfl (Nat.le_of_ble_eq_true rfl) rfl rfl (h' := tc_h G (tc_f (tc_f (tc_f (tc_f (tc_f (tc_f (F, A, true) 24 (F 7)) 25 (F 2)) 26 (F 6)) 28 (F 16)) 29 (F 17)) 7 ((F 7) + 1)) ++ T) (th_f7 _ _ _ _) ?_
        refine ts_aload_n dTS_checkpoint_100 rfl rfl ?_
        refine ts_iconst (v := 0) dTS_checkpoint_101 (by decide) ?_
        refine ts_put pTS_P114 dTS_checkpoint_102 rfl (Nat.le_of_ble_eq_true rfl) rfl rfl (h' := tc_h G (tc_f (tc_f (tc_f (tc_f (tc_f (tc_f (tc_f (F, A, true) 24 (F 7)) 25 (F 2)) 26 (F 6)) 28 (F 16)) 29 (F 17)) 7 ((F 7) + 1)) 10 0) ++ T) (th_f10 _ _ _ _) ?_
        refine ts_aload_n dTS_checkpoint_105 rfl rfl ?_
        refine ts_iconst (v := 0) dTS_checkpoint_106 (by decide) ?_
        refine ts_put pTS_P117 dTS_checkpoint_107 rfl (Nat.le_of_ble_eq_true rfl) rfl rfl (h' := tc_h G (tc_f (tc_f (tc_f (tc_f (tc_f (tc_f (tc_f (tc_f (F, A, true) 24 (F 7)) 25 (F 2)) 26 (F 6)) 28 (F 16)) 29 (F 17)) 7 ((F 7) + 1)) 10 0) 11 0) ++ T) (th_f11 _ _ _ _) ?_
        refine ts_aload_n dTS_checkpoint_110 rfl rfl ?_
        refine ts_iconst (v := 1) dTS_checkpoint_111 (by decide) ?_
        refine ts_put pTS_P44 dTS_checkpoint_112 rfl (Nat.le_of_ble_eq_true rfl) rfl rfl (h' := tc_h G (tc_f (tc_f (tc_f (tc_f (tc_f (tc_f (tc_f (tc_f (tc_f (F, A, true) 24 (F 7)) 25 (F 2)) 26 (F 6)) 28 (F 16)) 29 (F 17)) 7 ((F 7) + 1)) 10 0) 11 0) 9 1) ++ T) (th_f9 _ _ _ _) ?_
        refine ts_aload_n dTS_checkpoint_115 rfl rfl ?_
        refine ts_get pTS_F41 dTS_checkpoint_116 rfl rfl ?_
        refine ts_get pTS_F94 dTS_checkpoint_119 rfl rfl ?_
        have e : tc_checkpoint (F, A, true) = (F 7, tc_f (tc_f (tc_f (tc_f (tc_f (tc_f (tc_f (tc_f (tc_f (F, A, true) 24 (F 7)) 25 (F 2)) 26 (F 6)) 28 (F 16)) 29 (F 17)) 7 ((F 7) + 1)) 10 0) 11 0) 9 1) := by simp only [tc_checkpoint, h7, h17, ↓reduceIte]
        exact ts_iret dTS_checkpoint_122 rfl (tc_e1 e) (tc_e2 e)
      · refine ts_bipush (v := -3) dTS_checkpoint_20 (by decide) ?_
        have e : tc_checkpoint (F, A, true) = ((-3), (F, A, true)) := by simp only [tc_checkpoint, h7, h17, ↓reduceIte]
        exact ts_iret dTS_checkpoint_22 rfl (tc_e1 e) (tc_e2 e)
    · refine ts_bipush (v := -9) dTS_checkpoint_10 (by decide) ?_
      have e : tc_checkpoint (F, A, true) = ((-9), (F, A, true)) := by simp only [tc_checkpoint, h7, ↓reduceIte]
      exact ts_iret dTS_checkpoint_12 rfl (tc_e1 e) (tc_e2 e)
