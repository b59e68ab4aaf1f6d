set_option maxHeartbeats 4000000 in
set_option maxRecDepth 100000 in
theorem cMO_recover_mid (G : ts_GX) (S : tc_S) (M : tc_S) (h0 : 0 ≤ M.1 18 → M.1 18 = 0 ∨ M.1 18 = 1) (hV : 0 ≤ M.1 18 → tc_lv ((tm_rec1 M).1 16) ((tm_rec1 M).1 17) ∧ tm_Rc (tm_rec1 M) ∧ tm_Ri (tm_rec1 M) (tc_count (tm_rec1 M))) (X : ts_VX) : ts_V G X YMO_recover (ts_QX G X (some (.int (tm_recE M).1)) (tc_h G S ++ tm_h G ((tm_recE M).2)) 0 0) 0 0 24 [.ref 17] [] (tc_h G S ++ tm_h G M) := by
  refine ts_aload_n dMO_recover_24 rfl rfl ?_
  refine ts_get pMO_F57 dMO_recover_25 rfl rfl ?_
  refine ts_if_ge (tgt := 33) dMO_recover_28 rfl (fun (h28 : 0 ≤ (M.1 18)) => ?_) (fun (h28 : ¬ 0 ≤ (M.1 18)) => ?_)
  · have hs := h0 h28
    refine ts_aload_n dMO_recover_33 rfl rfl ?_
    refine ts_aload_n dMO_recover_34 rfl rfl ?_
    refine ts_get pMO_F32 dMO_recover_35 rfl rfl ?_
    refine ts_aload_n dMO_recover_38 rfl rfl ?_
    refine ts_get pMO_F57 dMO_recover_39 rfl rfl ?_
    refine ts_iald dMO_recover_42 rfl (tm_in2 hs) ?_
    refine ts_put pMO_P63 dMO_recover_43 rfl (Nat.le_of_ble_eq_true rfl) rfl rfl (h' := tc_h G S ++ tm_h G (tc_f M 2 (tc_r M 7 (M.1 18)))) (tn_f2 _ _ _ _) ?_
    refine ts_aload_n dMO_recover_46 rfl rfl ?_
    refine ts_aload_n dMO_recover_47 rfl rfl ?_
    refine ts_get pMO_F38 dMO_recover_48 rfl rfl ?_
    refine ts_aload_n dMO_recover_51 rfl rfl ?_
    refine ts_get pMO_F57 dMO_recover_52 rfl rfl ?_
    refine ts_iald dMO_recover_55 rfl (tm_in2 hs) ?_
    refine ts_put pMO_P66 dMO_recover_56 rfl (Nat.le_of_ble_eq_true rfl) rfl rfl (h' := tc_h G S ++ tm_h G (tc_f (tc_f M 2 (tc_r M 7 (M.1 18))) 3 (tc_r M 9 (M.1 18)))) (tn_f3 _ _ _ _) ?_
    refine ts_aload_n dMO_recover_59 rfl rfl ?_
    refine ts_aload_n dMO_recover_60 rfl rfl ?_
    refine ts_get pMO_F66 dMO_recover_61 rfl rfl ?_
    refine ts_put pMO_P69 dMO_recover_64 rfl (Nat.le_of_ble_eq_true rfl) rfl rfl (h' := tc_h G S ++ tm_h G (tc_f (tc_f (tc_f M 2 (tc_r M 7 (M.1 18))) 3 (tc_r M 9 (M.1 18))) 4 (tc_r M 9 (M.1 18)))) (tn_f4 _ _ _ _) ?_
    refine ts_aload_n dMO_recover_67 rfl rfl ?_
    refine ts_aload_n dMO_recover_68 rfl rfl ?_
    refine ts_get pMO_F66 dMO_recover_69 rfl rfl ?_
    refine ts_put pMO_P72 dMO_recover_72 rfl (Nat.le_of_ble_eq_true rfl) rfl rfl (h' := tc_h G S ++ tm_h G (tc_f (tc_f (tc_f (tc_f M 2 (tc_r M 7 (M.1 18))) 3 (tc_r M 9 (M.1 18))) 4 (tc_r M 9 (M.1 18))) 5 (tc_r M 9 (M.1 18)))) (tn_f5 _ _ _ _) ?_
    refine ts_aload_n dMO_recover_75 rfl rfl ?_
    refine ts_aload_n dMO_recover_76 rfl rfl ?_
    refine ts_get pMO_F66 dMO_recover_77 rfl rfl ?_
    refine ts_put pMO_P75 dMO_recover_80 rfl (Nat.le_of_ble_eq_true rfl) rfl rfl (h' := tc_h G S ++ tm_h G (tc_f (tc_f (tc_f (tc_f (tc_f M 2 (tc_r M 7 (M.1 18))) 3 (tc_r M 9 (M.1 18))) 4 (tc_r M 9 (M.1 18))) 5 (tc_r M 9 (M.1 18))) 6 (tc_r M 9 (M.1 18)))) (tn_f6 _ _ _ _) ?_
    refine ts_aload_n dMO_recover_83 rfl rfl ?_
    refine ts_aload_n dMO_recover_84 rfl rfl ?_
    refine ts_get pMO_F41 dMO_recover_85 rfl rfl ?_
    refine ts_aload_n dMO_recover_88 rfl rfl ?_
    refine ts_get pMO_F57 dMO_recover_89 rfl rfl ?_
    refine ts_iald dMO_recover_92 rfl (tm_in2 hs) ?_
    refine ts_put pMO_P78 dMO_recover_93 rfl (Nat.le_of_ble_eq_true rfl) rfl rfl (h' := tc_h G S ++ tm_h G (tc_f (tc_f (tc_f (tc_f (tc_f (tc_f M 2 (tc_r M 7 (M.1 18))) 3 (tc_r M 9 (M.1 18))) 4 (tc_r M 9 (M.1 18))) 5 (tc_r M 9 (M.1 18))) 6 (tc_r M 9 (M.1 18))) 16 (tc_r M 10 (M.1 18)))) (tn_f16 _ _ _ _) ?_
    refine ts_aload_n dMO_recover_96 rfl rfl ?_
    refine ts_aload_n dMO_recover_97 rfl rfl ?_
    refine ts_get pMO_F44 dMO_recover_98 rfl rfl ?_
    refine ts_aload_n dMO_recover_101 rfl rfl ?_
    refine ts_get pMO_F57 dMO_recover_102 rfl rfl ?_
    refine ts_iald dMO_recover_105 rfl (tm_in2 hs) ?_
    refine ts_put pMO_P81 dMO_recover_106 rfl (Nat.le_of_ble_eq_true rfl) rfl rfl (h' := tc_h G S ++ tm_h G (tc_f (tc_f (tc_f (tc_f (tc_f (tc_f (tc_f M 2 (tc_r M 7 (M.1 18))) 3 (tc_r M 9 (M.1 18))) 4 (tc_r M 9 (M.1 18))) 5 (tc_r M 9 (M.1 18))) 6 (tc_r M 9 (M.1 18))) 16 (tc_r M 10 (M.1 18))) 17 (tc_r M 11 (M.1 18)))) (tn_f17 _ _ _ _) ?_
    refine ts_iconst (v := 0) dMO_recover_109 (by decide) ?_
    refine ts_istore_n (lo' := [.ref 17, .int 0]) dMO_recover_110 rfl (Nat.le_of_ble_eq_true rfl) (Nat.le_of_ble_eq_true rfl) rfl ?_
    have e9 : tm_recE M = tm_rec2 (tm_restGo 17 (tm_rec1 M) 0) := by simp only [tm_recE, h28, ↓reduceIte]
    rw [e9]
    exact cMO_recover_loop G S X 17 (tm_rec1 M) 0 (hV h28).1 (hV h28).2.1 (hV h28).2.2 (by decide) (tc_cn17 (tc_count_16 (hV h28).1).2)
  · refine ts_iconst (v := 0) dMO_recover_31 (by decide) ?_
    have e : tm_recE M = (0, M) := by simp only [tm_recE, h28, ↓reduceIte]
    exact ts_iret dMO_recover_32 rfl (tc_e1 e) (tm_e2 e)
set_option maxHeartbeats 4000000 in
set_option maxRecDepth 100000 in
theorem cMO_recover (G : ts_GX) (S : tc_S) (M : tc_S) (hV : tm_Rv M) : ts_M G yMO_recover YMO_recover [.ref 17] (tc_h G S ++ tm_h G M) (some (.int (tm_recover M).1)) (tc_h G S ++ tm_h G ((tm_recover M).2)) 0 0 := by
  refine ts_of rfl rfl rfl rfl rfl rfl (Nat.le_of_ble_eq_true rfl) (ts_cat1 rfl) (fun X => ?_)
  refine ts_aload_n dMO_recover_0 rfl rfl ?_
  refine ts_get pMO_F100 dMO_recover_1 rfl rfl ?_
  refine ts_if_ne (tgt := 10) dMO_recover_4 rfl (fun (h4 : ¬ (M.1 12) = 0) => ?_) (fun (h4 : (M.1 12) = 0) => ?_)
  · refine ts_aload_n dMO_recover_10 rfl rfl ?_
    refine ts_iconst (v := 0) dMO_recover_11 (by decide) ?_
    refine ts_put pMO_P100 dMO_recover_12 rfl (Nat.le_of_ble_eq_true rfl) rfl rfl (h' := tc_h G S ++ tm_h G (tc_f M 12 0)) (tn_f12 _ _ _ _) ?_
    refine ts_aload_n dMO_recover_15 rfl rfl ?_
    refine ts_iconst (v := 0) dMO_recover_16 (by decide) ?_
    refine ts_put pMO_P136 dMO_recover_17 rfl (Nat.le_of_ble_eq_true rfl) rfl rfl (h' := tc_h G S ++ tm_h G (tc_f (tc_f M 12 0) 9 0)) (tn_f9 _ _ _ _) ?_
    refine ts_aload_n dMO_recover_20 rfl rfl ?_
    refine ts_callV (cMO_empty G S (tc_f (tc_f M 12 0) 9 0)) pMO_C60.1 pMO_C60.2 rfl rfl rfl rfl ⟨Nat.le_of_ble_eq_true rfl, Nat.le_of_ble_eq_true rfl⟩ ⟨Nat.le_of_ble_eq_true rfl, Nat.le_of_ble_eq_true rfl⟩ rfl (Nat.le_of_ble_eq_true rfl) dMO_recover_21 ?_
    refine ts_conv (lo' := [.ref 17]) (st' := []) (h' := tc_h G S ++ tm_h G (tm_rec0 M)) rfl rfl rfl ?_
    rw [tm_recE_eq h4]
    exact cMO_recover_mid G S (tm_rec0 M) (tm_rec_s hV.1) hV.2 X
  · refine ts_bipush (v := -3) dMO_recover_7 (by decide) ?_
    have e : tm_recover M = ((-3), M) := by simp only [tm_recover, h4, ↓reduceIte]
    exact ts_iret dMO_recover_9 rfl (tc_e1 e) (tm_e2 e)
