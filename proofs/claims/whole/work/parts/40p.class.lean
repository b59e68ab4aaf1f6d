set_option maxHeartbeats 4000000 in
set_option maxRecDepth 100000 in
theorem cTS_recover (G : ts_GX) (T : List va_E) (S : tc_S) (hV : tc_Rv S) : ts_M G yTS_recover YTS_recover [.ref 1] (tc_h G S ++ T) (some (.int (tc_recover S).1)) (tc_h G (tc_recover S).2 ++ T) 0 0 := by
  refine ts_of rfl rfl rfl rfl rfl rfl (Nat.le_of_ble_eq_true rfl) (ts_cat1 rfl) (fun X => ?_)
  obtain ⟨F, A, sw⟩ := S
  cases sw with
  | false =>
    refine ts_aload_n dTS_recover_0 rfl rfl ?_
    refine ts_get pTS_F12 dTS_recover_1 rfl rfl ?_
    refine ts_get pTS_F62 dTS_recover_4 rfl rfl ?_
    refine ts_if_ne (tgt := 13) dTS_recover_7 rfl (fun (h7 : ¬ (F 12) = 0) => ?_) (fun (h7 : (F 12) = 0) => ?_)
    · refine ts_aload_n dTS_recover_13 rfl rfl ?_
      refine ts_get pTS_F12 dTS_recover_14 rfl rfl ?_
      refine ts_iconst (v := 0) dTS_recover_17 (by decide) ?_
      refine ts_put pTS_P62 dTS_recover_18 rfl (Nat.le_of_ble_eq_true rfl) rfl rfl (h' := tc_h G (tc_f (F, A, false) 12 0) ++ T) (th_f12 _ _ _ _) ?_
      refine ts_aload_n dTS_recover_21 rfl rfl ?_
      refine ts_iconst (v := 0) dTS_recover_22 (by decide) ?_
      refine ts_put pTS_P44 dTS_recover_23 rfl (Nat.le_of_ble_eq_true rfl) rfl rfl (h' := tc_h G (tc_f (tc_f (F, A, false) 12 0) 9 0) ++ T) (th_f9 _ _ _ _) ?_
      refine ts_aload_n dTS_recover_26 rfl rfl ?_
      refine ts_aload_n dTS_recover_27 rfl rfl ?_
      refine ts_get pTS_F37 dTS_recover_28 rfl rfl ?_
      refine ts_get pTS_F98 dTS_recover_31 rfl rfl ?_
      refine ts_put pTS_P95 dTS_recover_34 rfl (Nat.le_of_ble_eq_true rfl) rfl rfl (h' := tc_h G (tc_f (tc_f (tc_f (F, A, false) 12 0) 9 0) 2 (F 19)) ++ T) (th_f2 _ _ _ _) ?_
      refine ts_aload_n dTS_recover_37 rfl rfl ?_
      refine ts_aload_n dTS_recover_38 rfl rfl ?_
      refine ts_get pTS_F37 dTS_recover_39 rfl rfl ?_
      refine ts_get pTS_F157 dTS_recover_42 rfl rfl ?_
      refine ts_put pTS_P91 dTS_recover_45 rfl (Nat.le_of_ble_eq_true rfl) rfl rfl (h' := tc_h G (tc_f (tc_f (tc_f (tc_f (F, A, false) 12 0) 9 0) 2 (F 19)) 3 (F 21)) ++ T) (th_f3 _ _ _ _) ?_
      refine ts_aload_n dTS_recover_48 rfl rfl ?_
      refine ts_aload_n dTS_recover_49 rfl rfl ?_
      refine ts_get pTS_F37 dTS_recover_50 rfl rfl ?_
      refine ts_get pTS_F157 dTS_recover_53 rfl rfl ?_
      refine ts_put pTS_P160 dTS_recover_56 rfl (Nat.le_of_ble_eq_true rfl) rfl rfl (h' := tc_h G (tc_f (tc_f (tc_f (tc_f (tc_f (F, A, false) 12 0) 9 0) 2 (F 19)) 3 (F 21)) 4 (F 21)) ++ T) (th_f4 _ _ _ _) ?_
      refine ts_aload_n dTS_recover_59 rfl rfl ?_
      refine ts_aload_n dTS_recover_60 rfl rfl ?_
      refine ts_get pTS_F37 dTS_recover_61 rfl rfl ?_
      refine ts_get pTS_F157 dTS_recover_64 rfl rfl ?_
      refine ts_put pTS_P88 dTS_recover_67 rfl (Nat.le_of_ble_eq_true rfl) rfl rfl (h' := tc_h G (tc_f (tc_f (tc_f (tc_f (tc_f (tc_f (F, A, false) 12 0) 9 0) 2 (F 19)) 3 (F 21)) 4 (F 21)) 5 (F 21)) ++ T) (th_f5 _ _ _ _) ?_
      refine ts_aload_n dTS_recover_70 rfl rfl ?_
      refine ts_aload_n dTS_recover_71 rfl rfl ?_
      refine ts_get pTS_F37 dTS_recover_72 rfl rfl ?_
      refine ts_get pTS_F157 dTS_recover_75 rfl rfl ?_
      refine ts_put pTS_P99 dTS_recover_78 rfl (Nat.le_of_ble_eq_true rfl) rfl rfl (h' := tc_h G (tc_f (tc_f (tc_f (tc_f (tc_f (tc_f (tc_f (F, A, false) 12 0) 9 0) 2 (F 19)) 3 (F 21)) 4 (F 21)) 5 (F 21)) 6 (F 21)) ++ T) (th_f6 _ _ _ _) ?_
      refine ts_aload_n dTS_recover_81 rfl rfl ?_
      refine ts_callV (cTS_restoreIndex G T (tc_f (tc_f (tc_f (tc_f (tc_f (tc_f (tc_f (F, A, false) 12 0) 9 0) 2 (F 19)) 3 (F 21)) 4 (F 21)) 5 (F 21)) 6 (F 21)) hV.1 hV.2.1 hV.2.2) pTS_C163.1 pTS_C163.2 rfl rfl rfl rfl ⟨Nat.le_of_ble_eq_true rfl, Nat.le_of_ble_eq_true rfl⟩ ⟨Nat.le_of_ble_eq_true rfl, Nat.le_of_ble_eq_true rfl⟩ rfl (Nat.le_of_ble_eq_true rfl) dTS_recover_82 ?_
      obtain ⟨F1, A1, w1, hq⟩ : ∃ (F1 : Nat → Int32) (A1 : Nat → Nat → Int32) (w1 : Bool), tc_restore (tc_f (tc_f (tc_f (tc_f (tc_f (tc_f (tc_f (F, A, false) 12 0) 9 0) 2 (F 19)) 3 (F 21)) 4 (F 21)) 5 (F 21)) 6 (F 21)) = (F1, A1, w1) := ⟨_, _, _, rfl⟩
      have hw1 : w1 = false := by have h9 := tc_restore_sw (tc_f (tc_f (tc_f (tc_f (tc_f (tc_f (tc_f (F, A, false) 12 0) 9 0) 2 (F 19)) 3 (F 21)) 4 (F 21)) 5 (F 21)) 6 (F 21)); rw [hq] at h9; exact h9
      subst hw1
      rw [hq]
      refine ts_conv (lo' := [.ref 1]) (st' := []) (h' := tc_h G (F1, A1, false) ++ T) rfl rfl rfl ?_
      refine ts_aload_n dTS_recover_85 rfl rfl ?_
      refine ts_aload_n dTS_recover_86 rfl rfl ?_
      refine ts_get pTS_F37 dTS_recover_87 rfl rfl ?_
      refine ts_get pTS_F94 dTS_recover_90 rfl rfl ?_
      refine ts_if_ne (tgt := 100) dTS_recover_93 rfl (fun (h93 : ¬ (F1 18) = 0) => ?_) (fun (h93 : (F1 18) = 0) => ?_)
      · refine ts_aload_n dTS_recover_100 rfl rfl ?_
        refine ts_get pTS_F37 dTS_recover_101 rfl rfl ?_
        refine ts_get pTS_F94 dTS_recover_104 rfl rfl ?_
        refine ts_iconst (v := 2) dTS_recover_107 (by decide) ?_
        refine ts_iadd dTS_recover_108 ?_
        refine ts_put pTS_P30 dTS_recover_109 rfl (Nat.le_of_ble_eq_true rfl) rfl rfl (h' := tc_h G (tc_f (F1, A1, false) 7 ((F1 18) + 2)) ++ T) (th_f7 _ _ _ _) ?_
        refine ts_aload_n dTS_recover_112 rfl rfl ?_
        refine ts_get pTS_F37 dTS_recover_113 rfl rfl ?_
        refine ts_get pTS_F94 dTS_recover_116 rfl rfl ?_
        have e9 : tc_recover (F, A, false) = (F1 18, tc_f (F1, A1, false) 7 ((F1 18) + 2)) := by simp only [tc_recover, tc_rec1, h7, hq, h93, ↓reduceIte]
        exact ts_iret dTS_recover_119 rfl (tc_e1 e9) (tc_e2 e9)
      · refine ts_iconst (v := 1) dTS_recover_96 (by decide) ?_
        refine ts_goto (tgt := 109) dTS_recover_97 rfl ?_
        refine ts_put pTS_P30 dTS_recover_109 rfl (Nat.le_of_ble_eq_true rfl) rfl rfl (h' := tc_h G (tc_f (F1, A1, false) 7 1) ++ T) (th_f7 _ _ _ _) ?_
        refine ts_aload_n dTS_recover_112 rfl rfl ?_
        refine ts_get pTS_F37 dTS_recover_113 rfl rfl ?_
        refine ts_get pTS_F94 dTS_recover_116 rfl rfl ?_
        have e9 : tc_recover (F, A, false) = (F1 18, tc_f (F1, A1, false) 7 1) := by simp only [tc_recover, tc_rec1, h7, hq, h93, ↓reduceIte]
        exact ts_iret dTS_recover_119 rfl (tc_e1 e9) (tc_e2 e9)
    · refine ts_bipush (v := -3) dTS_recover_10 (by decide) ?_
      have e9 : tc_recover (F, A, false) = ((-3), (F, A, false)) := by simp only [tc_recover, tc_rec1, h7, ↓reduceIte]
      exact ts_iret dTS_recover_12 rfl (tc_e1 e9) (tc_e2 e9)
  | true =>
    refine ts_aload_n dTS_recover_0 rfl rfl ?_
    refine ts_get pTS_F12 dTS_recover_1 rfl rfl ?_
    refine ts_get pTS_F62 dTS_recover_4 rfl rfl ?_
    refine ts_if_ne (tgt := 13) dTS_recover_7 rfl (fun (h7 : ¬ (F 12) = 0) => ?_) (fun (h7 : (F 12) = 0) => ?_)
    · refine ts_aload_n dTS_recover_13 rfl rfl ?_
      refine ts_get pTS_F12 dTS_recover_14 rfl rfl ?_
      refine ts_iconst (v := 0) dTS_recover_17 (by decide) ?_
      refine ts_put pTS_P62 dTS_recover_18 rfl (Nat.le_of_ble_eq_true rfl) rfl rfl (h' := tc_h G (tc_f (F, A, true) 12 0) ++ T) (th_f12 _ _ _ _) ?_
      refine ts_aload_n dTS_recover_21 rfl rfl ?_
      refine ts_iconst (v := 0) dTS_recover_22 (by decide) ?_
      refine ts_put pTS_P44 dTS_recover_23 rfl (Nat.le_of_ble_eq_true rfl) rfl rfl (h' := tc_h G (tc_f (tc_f (F, A, true) 12 0) 9 0) ++ T) (th_f9 _ _ _ _) ?_
      refine ts_aload_n dTS_recover_26 rfl rfl ?_
      refine ts_aload_n dTS_recover_27 rfl rfl ?_
      refine ts_get pTS_F37 dTS_recover_28 rfl rfl ?_
      refine ts_get pTS_F98 dTS_recover_31 rfl rfl ?_
      refine ts_put pTS_P95 dTS_recover_34 rfl (Nat.le_of_ble_eq_true rfl) rfl rfl (h' := tc_h G (tc_f (tc_f (tc_f (F, A, true) 12 0) 9 0) 2 (F 19)) ++ T) (th_f2 _ _ _ _) ?_
      refine ts_aload_n dTS_recover_37 rfl rfl ?_
      refine ts_aload_n dTS_recover_38 rfl rfl ?_
      refine ts_get pTS_F37 dTS_recover_39 rfl rfl ?_
      refine ts_get pTS_F157 dTS_recover_42 rfl rfl ?_
      refine ts_put pTS_P91 dTS_recover_45 rfl (Nat.le_of_ble_eq_true rfl) rfl rfl (h' := tc_h G (tc_f (tc_f (tc_f (tc_f (F, A, true) 12 0) 9 0) 2 (F 19)) 3 (F 21)) ++ T) (th_f3 _ _ _ _) ?_
      refine ts_aload_n dTS_recover_48 rfl rfl ?_
      refine ts_aload_n dTS_recover_49 rfl rfl ?_
      refine ts_get pTS_F37 dTS_recover_50 rfl rfl ?_
      refine ts_get pTS_F157 dTS_recover_53 rfl rfl ?_
      refine ts_put pTS_P160 dTS_recover_56 rfl (Nat.le_of_ble_eq_true rfl) rfl rfl (h' := tc_h G (tc_f (tc_f (tc_f (tc_f (tc_f (F, A, true) 12 0) 9 0) 2 (F 19)) 3 (F 21)) 4 (F 21)) ++ T) (th_f4 _ _ _ _) ?_
      refine ts_aload_n dTS_recover_59 rfl rfl ?_
      refine ts_aload_n dTS_recover_60 rfl rfl ?_
      refine ts_get pTS_F37 dTS_recover_61 rfl rfl ?_
      refine ts_get pTS_F157 dTS_recover_64 rfl rfl ?_
      refine ts_put pTS_P88 dTS_recover_67 rfl (Nat.le_of_ble_eq_true rfl) rfl rfl (h' := tc_h G (tc_f (tc_f (tc_f (tc_f (tc_f (tc_f (F, A, true) 12 0) 9 0) 2 (F 19)) 3 (F 21)) 4 (F 21)) 5 (F 21)) ++ T) (th_f5 _ _ _ _) ?_
      refine ts_aload_n dTS_recover_70 rfl rfl ?_
      refine ts_aload_n dTS_recover_71 rfl rfl ?_
      refine ts_get pTS_F37 dTS_recover_72 rfl rfl ?_
      refine ts_get pTS_F157 dTS_recover_75 rfl rfl ?_
      refine ts_put pTS_P99 dTS_recover_78 rfl (Nat.le_of_ble_eq_true rfl) rfl rfl (h' := tc_h G (tc_f (tc_f (tc_f (tc_f (tc_f (tc_f (tc_f (F, A, true) 12 0) 9 0) 2 (F 19)) 3 (F 21)) 4 (F 21)) 5 (F 21)) 6 (F 21)) ++ T) (th_f6 _ _ _ _) ?_
      refine ts_aload_n dTS_recover_81 rfl rfl ?_
      refine ts_callV (cTS_restoreIndex G T (tc_f (tc_f (tc_f (tc_f (tc_f (tc_f (tc_f (F, A, true) 12 0) 9 0) 2 (F 19)) 3 (F 21)) 4 (F 21)) 5 (F 21)) 6 (F 21)) hV.1 hV.2.1 hV.2.2) pTS_C163.1 pTS_C163.2 rfl rfl rfl rfl ⟨Nat.le_of_ble_eq_true rfl, Nat.le_of_ble_eq_true rfl⟩ ⟨Nat.le_of_ble_eq_true rfl, Nat.le_of_ble_eq_true rfl⟩ rfl (Nat.le_of_ble_eq_true rfl) dTS_recover_82 ?_
      obtain ⟨F1, A1, w1, hq⟩ : ∃ (F1 : Nat → Int32) (A1 : Nat → Nat → Int32) (w1 : Bool), tc_restore (tc_f (tc_f (tc_f (tc_f (tc_f (tc_f (tc_f (F, A, true) 12 0) 9 0) 2 (F 19)) 3 (F 21)) 4 (F 21)) 5 (F 21)) 6 (F 21)) = (F1, A1, w1) := ⟨_, _, _, rfl⟩
      have hw1 : w1 = true := by have h9 := tc_restore_sw (tc_f (tc_f (tc_f (tc_f (tc_f (tc_f (tc_f (F, A, true) 12 0) 9 0) 2 (F 19)) 3 (F 21)) 4 (F 21)) 5 (F 21)) 6 (F 21)); rw [hq] at h9; exact h9
      subst hw1
      rw [hq]
      refine ts_conv (lo' := [.ref 1]) (st' := []) (h' := tc_h G (F1, A1, true) ++ T) rfl rfl rfl ?_
      refine ts_aload_n dTS_recover_85 rfl rfl ?_
      refine ts_aload_n dTS_recover_86 rfl rfl ?_
      refine ts_get pTS_F37 dTS_recover_87 rfl rfl ?_
      refine ts_get pTS_F94 dTS_recover_90 rfl rfl ?_
      refine ts_if_ne (tgt := 100) dTS_recover_93 rfl (fun (h93 : ¬ (F1 18) = 0) => ?_) (fun (h93 : (F1 18) = 0) => ?_)
      · refine ts_aload_n dTS_recover_100 rfl rfl ?_
        refine ts_get pTS_F37 dTS_recover_101 rfl rfl ?_
        refine ts_get pTS_F94 dTS_recover_104 rfl rfl ?_
        refine ts_iconst (v := 2) dTS_recover_107 (by decide) ?_
        refine ts_iadd dTS_recover_108 ?_
        refine ts_put pTS_P30 dTS_recover_109 rfl (Nat.le_of_ble_eq_true rfl) rfl rfl (h' := tc_h G (tc_f (F1, A1, true) 7 ((F1 18) + 2)) ++ T) (th_f7 _ _ _ _) ?_
        refine ts_aload_n dTS_recover_112 rfl rfl ?_
        refine ts_get pTS_F37 dTS_recover_113 rfl rfl ?_
        refine ts_get pTS_F94 dTS_recover_116 rfl rfl ?_
        have e9 : tc_recover (F, A, true) = (F1 18, tc_f (F1, A1, true) 7 ((F1 18) + 2)) := by simp only [tc_recover, tc_rec1, h7, hq, h93, ↓reduceIte]
        exact ts_iret dTS_recover_119 rfl (tc_e1 e9) (tc_e2 e9)
      · refine ts_iconst (v := 1) dTS_recover_96 (by decide) ?_
        refine ts_goto (tgt := 109) dTS_recover_97 rfl ?_
        refine ts_put pTS_P30 dTS_recover_109 rfl (Nat.le_of_ble_eq_true rfl) rfl rfl (h' := tc_h G (tc_f (F1, A1, true) 7 1) ++ T) (th_f7 _ _ _ _) ?_
        refine ts_aload_n dTS_recover_112 rfl rfl ?_
        refine ts_get pTS_F37 dTS_recover_113 rfl rfl ?_
        refine ts_get pTS_F94 dTS_recover_116 rfl rfl ?_
        have e9 : tc_recover (F, A, true) = (F1 18, tc_f (F1, A1, true) 7 1) := by simp only [tc_recover, tc_rec1, h7, hq, h93, ↓reduceIte]
        exact ts_iret dTS_recover_119 rfl (tc_e1 e9) (tc_e2 e9)
    · refine ts_bipush (v := -3) dTS_recover_10 (by decide) ?_
      have e9 : tc_recover (F, A, true) = ((-3), (F, A, true)) := by simp only [tc_recover, tc_rec1, h7, ↓reduceIte]
      exact ts_iret dTS_recover_12 rfl (tc_e1 e9) (tc_e2 e9)
