set_option maxHeartbeats 4000000 in
set_option maxRecDepth 100000 in
theorem cMO_step (G : ts_GX) (S : tc_S) (M : tc_S) (hJ : tj M) (hP : tm_P M) : ts_M G yMO_step YMO_step [.ref 17] (tc_h G S ++ tm_h G M) (some (.int (tm_step M).1)) (tc_h G S ++ tm_h G ((tm_step M).2)) 0 0 := by
  refine ts_of rfl rfl rfl rfl rfl rfl (Nat.le_of_ble_eq_true rfl) (ts_cat1 rfl) (fun X => ?_)
  refine ts_aload_n dMO_step_0 rfl rfl ?_
  refine ts_get pMO_F100 dMO_step_1 rfl rfl ?_
  refine ts_if_eq (tgt := 10) dMO_step_4 rfl (fun (h4 : (M.1 12) = 0) => ?_) (fun (h4 : ¬ (M.1 12) = 0) => ?_)
  · refine ts_aload_n dMO_step_10 rfl rfl ?_
    refine ts_get pMO_F136 dMO_step_11 rfl rfl ?_
    refine ts_iconst (v := 1) dMO_step_14 (by decide) ?_
    refine ts_icmp_ne (tgt := 23) dMO_step_15 rfl (fun (h15 : ¬ (M.1 9) = 1) => ?_) (fun (h15 : (M.1 9) = 1) => ?_)
    · refine ts_aload_n dMO_step_23 rfl rfl ?_
      refine ts_get pMO_F136 dMO_step_24 rfl rfl ?_
      refine ts_iconst (v := 2) dMO_step_27 (by decide) ?_
      refine ts_icmp_ne (tgt := 36) dMO_step_28 rfl (fun (h28 : ¬ (M.1 9) = 2) => ?_) (fun (h28 : (M.1 9) = 2) => ?_)
      · refine ts_aload_n dMO_step_36 rfl rfl ?_
        refine ts_get pMO_F136 dMO_step_37 rfl rfl ?_
        refine ts_if_ne (tgt := 46) dMO_step_40 rfl (fun (h40 : ¬ (M.1 9) = 0) => ?_) (fun (h40 : (M.1 9) = 0) => ?_)
        · refine ts_aload_n dMO_step_46 rfl rfl ?_
          refine ts_aload_n dMO_step_47 rfl rfl ?_
          refine ts_callV (cMO_writing G S M) pMO_C149.1 pMO_C149.2 rfl rfl rfl rfl ⟨Nat.le_of_ble_eq_true rfl, Nat.le_of_ble_eq_true rfl⟩ ⟨Nat.le_of_ble_eq_true rfl, Nat.le_of_ble_eq_true rfl⟩ rfl (Nat.le_of_ble_eq_true rfl) dMO_step_48 ?_
          refine ts_conv (lo' := [.ref 17]) (st' := [.int (tm_to M), .ref 17]) (h' := tc_h G S ++ tm_h G M) rfl rfl rfl ?_
          refine ts_put pMO_P57 dMO_step_51 rfl (Nat.le_of_ble_eq_true rfl) rfl rfl (h' := tc_h G S ++ tm_h G (tc_f M 18 (tm_to M))) (tn_f18 _ _ _ _) ?_
          refine ts_aload_n dMO_step_54 rfl rfl ?_
          refine ts_iconst (v := 0) dMO_step_55 (by decide) ?_
          refine ts_put pMO_P136 dMO_step_56 rfl (Nat.le_of_ble_eq_true rfl) rfl rfl (h' := tc_h G S ++ tm_h G (tc_f (tc_f M 18 (tm_to M)) 9 0)) (tn_f9 _ _ _ _) ?_
          refine ts_aload_n dMO_step_59 rfl rfl ?_
          refine ts_callV (cMO_block G S (tm_settle M) (tj_settle hJ) h4) pMO_C107.1 pMO_C107.2 rfl rfl rfl rfl ⟨Nat.le_of_ble_eq_true rfl, Nat.le_of_ble_eq_true rfl⟩ ⟨Nat.le_of_ble_eq_true rfl, Nat.le_of_ble_eq_true rfl⟩ rfl (Nat.le_of_ble_eq_true rfl) dMO_step_60 ?_
          refine ts_conv (lo' := [.ref 17]) (st' := [.int ((tc_writeBlock (tm_settle M)).1)]) (h' := tc_h G S ++ tm_h G ((tc_writeBlock (tm_settle M)).2)) rfl rfl rfl ?_
          refine ts_if_eq (tgt := 70) dMO_step_63 rfl (fun (h63 : ((tc_writeBlock (tm_settle M)).1) = 0) => ?_) (fun (h63 : ¬ ((tc_writeBlock (tm_settle M)).1) = 0) => ?_)
          · refine ts_bipush (v := -9) dMO_step_70 (by decide) ?_
            have e : tm_step M = ((-9), (tc_writeBlock (tm_settle M)).2) := by simp only [tm_step, (by decide : ¬ (0 : Int32) = 1), (by decide : ¬ (0 : Int32) = 2), tz_d10, tz_d20, tz_d21, tz_d30, tz_d31, tz_d32, h4, h15, h28, h40, h63, ↓reduceIte]
            exact ts_iret dMO_step_72 rfl (tc_e1 e) (tm_e2 e)
          · refine ts_iconst (v := 3) dMO_step_66 (by decide) ?_
            refine ts_goto (tgt := 72) dMO_step_67 rfl ?_
            have e : tm_step M = (3, (tc_writeBlock (tm_settle M)).2) := by simp only [tm_step, (by decide : ¬ (0 : Int32) = 1), (by decide : ¬ (0 : Int32) = 2), tz_d10, tz_d20, tz_d21, tz_d30, tz_d31, tz_d32, h4, h15, h28, h40, h63, ↓reduceIte]
            exact ts_iret dMO_step_72 rfl (tc_e1 e) (tm_e2 e)
        · refine ts_bipush (v := -3) dMO_step_43 (by decide) ?_
          have e : tm_step M = ((-3), M) := by simp only [tm_step, (by decide : ¬ (0 : Int32) = 1), (by decide : ¬ (0 : Int32) = 2), tz_d10, tz_d20, tz_d21, tz_d30, tz_d31, tz_d32, h4, h15, h28, h40, ↓reduceIte]
          exact ts_iret dMO_step_45 rfl (tc_e1 e) (tm_e2 e)
      · refine ts_aload_n dMO_step_31 rfl rfl ?_
        refine ts_callV (cMO_flushing G S M hJ hP h4) pMO_C155.1 pMO_C155.2 rfl rfl rfl rfl ⟨Nat.le_of_ble_eq_true rfl, Nat.le_of_ble_eq_true rfl⟩ ⟨Nat.le_of_ble_eq_true rfl, Nat.le_of_ble_eq_true rfl⟩ rfl (Nat.le_of_ble_eq_true rfl) dMO_step_32 ?_
        refine ts_conv (lo' := [.ref 17]) (st' := [.int ((tm_flushing M).1)]) (h' := tc_h G S ++ tm_h G ((tm_flushing M).2)) rfl rfl rfl ?_
        have e : tm_step M = ((tm_flushing M).1, (tm_flushing M).2) := by simp only [tm_step, (by decide : ¬ (0 : Int32) = 1), (by decide : ¬ (0 : Int32) = 2), tz_d10, tz_d20, tz_d21, tz_d30, tz_d31, tz_d32, h4, h15, h28, ↓reduceIte]
        exact ts_iret dMO_step_35 rfl (tc_e1 e) (tm_e2 e)
    · refine ts_aload_n dMO_step_18 rfl rfl ?_
      refine ts_callV (cMO_image G S M hJ hP h4) pMO_C152.1 pMO_C152.2 rfl rfl rfl rfl ⟨Nat.le_of_ble_eq_true rfl, Nat.le_of_ble_eq_true rfl⟩ ⟨Nat.le_of_ble_eq_true rfl, Nat.le_of_ble_eq_true rfl⟩ rfl (Nat.le_of_ble_eq_true rfl) dMO_step_19 ?_
      refine ts_conv (lo' := [.ref 17]) (st' := [.int ((tm_image M).1)]) (h' := tc_h G S ++ tm_h G ((tm_image M).2)) rfl rfl rfl ?_
      have e : tm_step M = ((tm_image M).1, (tm_image M).2) := by simp only [tm_step, (by decide : ¬ (0 : Int32) = 1), (by decide : ¬ (0 : Int32) = 2), tz_d10, tz_d20, tz_d21, tz_d30, tz_d31, tz_d32, h4, h15, ↓reduceIte]
      exact ts_iret dMO_step_22 rfl (tc_e1 e) (tm_e2 e)
  · refine ts_bipush (v := -9) dMO_step_7 (by decide) ?_
    have e : tm_step M = ((-9), M) := by simp only [tm_step, (by decide : ¬ (0 : Int32) = 1), (by decide : ¬ (0 : Int32) = 2), tz_d10, tz_d20, tz_d21, tz_d30, tz_d31, tz_d32, h4, ↓reduceIte]
    exact ts_iret dMO_step_9 rfl (tc_e1 e) (tm_e2 e)
