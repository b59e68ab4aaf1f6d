set_option maxHeartbeats 4000000 in
set_option maxRecDepth 100000 in
theorem cMO_set0 (G : ts_GX) (S : tc_S) (M : tc_S) (key a value stone : Int32) (hJ : tj M) (h12 : M.1 12 = 0) (ha : a = -1 ∨ (0 ≤ a.toInt ∧ a.toInt < (M.1 6).toInt)) (hk : tc_key key) (hs : stone = 0 ∨ stone = 1) : ts_M G yMO_set YMO_set [.ref 17, .int key, .int a, .int value, .int stone] (tc_h G S ++ tm_h G M) (some (.int (tm_set M key a value stone).1)) (tc_h G S ++ tm_h G ((tm_set M key a value stone).2)) 0 0 := by
  refine ts_of rfl rfl rfl rfl rfl rfl (Nat.le_of_ble_eq_true rfl) (ts_cat1 rfl) (fun X => ?_)
  refine ts_iload_n dMO_set_0 rfl rfl ?_
  refine ts_if_lt (tgt := 42) dMO_set_1 rfl (fun (h1 : a < 0) => ?_) (fun (h1 : ¬ a < 0) => ?_)
  · refine ts_aload_n dMO_set_42 rfl rfl ?_
    refine ts_get pMO_F75 dMO_set_43 rfl rfl ?_
    refine ts_sipush (v := 400) dMO_set_46 (by decide) ?_
    refine ts_icmp_ne (tgt := 55) dMO_set_49 rfl (fun (h49 : ¬ (M.1 6) = 400) => ?_) (fun (h49 : (M.1 6) = 400) => ?_)
    · refine ts_aload_n dMO_set_55 rfl rfl ?_
      refine ts_iload_n dMO_set_56 rfl rfl ?_
      refine ts_iload_n dMO_set_57 rfl rfl ?_
      refine ts_iload dMO_set_58 rfl ?_
      refine ts_callV (cMO_append G S M key value stone hJ h12 hk hs (tm_not400 hJ h49)) pMO_C118.1 pMO_C118.2 rfl rfl rfl rfl ⟨Nat.le_of_ble_eq_true rfl, Nat.le_of_ble_eq_true rfl⟩ ⟨Nat.le_of_ble_eq_true rfl, Nat.le_of_ble_eq_true rfl⟩ rfl (Nat.le_of_ble_eq_true rfl) dMO_set_60 ?_
      refine ts_conv (lo' := [.ref 17, .int key, .int a, .int value, .int stone]) (st' := [.int ((tc_append M key value stone).1)]) (h' := tc_h G S ++ tm_h G ((tc_append M key value stone).2)) rfl rfl rfl ?_
      refine ts_if_eq (tgt := 70) dMO_set_63 rfl (fun (h63 : ((tc_append M key value stone).1) = 0) => ?_) (fun (h63 : ¬ ((tc_append M key value stone).1) = 0) => ?_)
      · refine ts_bipush (v := -9) dMO_set_70 (by decide) ?_
        have e : tm_set M key a value stone = ((-9), (tc_append M key value stone).2) := by simp only [tm_set, tm_set1, h1, h49, h63, ↓reduceIte]
        exact ts_iret dMO_set_72 rfl (tc_e1 e) (tm_e2 e)
      · refine ts_iconst (v := 2) dMO_set_66 (by decide) ?_
        refine ts_goto (tgt := 72) dMO_set_67 rfl ?_
        have e : tm_set M key a value stone = (2, (tc_append M key value stone).2) := by simp only [tm_set, tm_set1, h1, h49, h63, ↓reduceIte]
        exact ts_iret dMO_set_72 rfl (tc_e1 e) (tm_e2 e)
    · refine ts_bipush (v := -2) dMO_set_52 (by decide) ?_
      have e : tm_set M key a value stone = ((-2), M) := by simp only [tm_set, tm_set1, h1, h49, ↓reduceIte]
      exact ts_iret dMO_set_54 rfl (tc_e1 e) (tm_e2 e)
  · refine ts_iload_n dMO_set_4 rfl rfl ?_
    refine ts_aload_n dMO_set_5 rfl rfl ?_
    refine ts_get pMO_F72 dMO_set_6 rfl rfl ?_
    refine ts_icmp_lt (tgt := 42) dMO_set_9 rfl (fun (h9 : a < (M.1 5)) => ?_) (fun (h9 : ¬ a < (M.1 5)) => ?_)
    · refine ts_aload_n dMO_set_42 rfl rfl ?_
      refine ts_get pMO_F75 dMO_set_43 rfl rfl ?_
      refine ts_sipush (v := 400) dMO_set_46 (by decide) ?_
      refine ts_icmp_ne (tgt := 55) dMO_set_49 rfl (fun (h49 : ¬ (M.1 6) = 400) => ?_) (fun (h49 : (M.1 6) = 400) => ?_)
      · refine ts_aload_n dMO_set_55 rfl rfl ?_
        refine ts_iload_n dMO_set_56 rfl rfl ?_
        refine ts_iload_n dMO_set_57 rfl rfl ?_
        refine ts_iload dMO_set_58 rfl ?_
        refine ts_callV (cMO_append G S M key value stone hJ h12 hk hs (tm_not400 hJ h49)) pMO_C118.1 pMO_C118.2 rfl rfl rfl rfl ⟨Nat.le_of_ble_eq_true rfl, Nat.le_of_ble_eq_true rfl⟩ ⟨Nat.le_of_ble_eq_true rfl, Nat.le_of_ble_eq_true rfl⟩ rfl (Nat.le_of_ble_eq_true rfl) dMO_set_60 ?_
        refine ts_conv (lo' := [.ref 17, .int key, .int a, .int value, .int stone]) (st' := [.int ((tc_append M key value stone).1)]) (h' := tc_h G S ++ tm_h G ((tc_append M key value stone).2)) rfl rfl rfl ?_
        refine ts_if_eq (tgt := 70) dMO_set_63 rfl (fun (h63 : ((tc_append M key value stone).1) = 0) => ?_) (fun (h63 : ¬ ((tc_append M key value stone).1) = 0) => ?_)
        · refine ts_bipush (v := -9) dMO_set_70 (by decide) ?_
          have e : tm_set M key a value stone = ((-9), (tc_append M key value stone).2) := by simp only [tm_set, tm_set1, h1, h9, h49, h63, ↓reduceIte]
          exact ts_iret dMO_set_72 rfl (tc_e1 e) (tm_e2 e)
        · refine ts_iconst (v := 2) dMO_set_66 (by decide) ?_
          refine ts_goto (tgt := 72) dMO_set_67 rfl ?_
          have e : tm_set M key a value stone = (2, (tc_append M key value stone).2) := by simp only [tm_set, tm_set1, h1, h9, h49, h63, ↓reduceIte]
          exact ts_iret dMO_set_72 rfl (tc_e1 e) (tm_e2 e)
      · refine ts_bipush (v := -2) dMO_set_52 (by decide) ?_
        have e : tm_set M key a value stone = ((-2), M) := by simp only [tm_set, tm_set1, h1, h9, h49, ↓reduceIte]
        exact ts_iret dMO_set_54 rfl (tc_e1 e) (tm_e2 e)
    · refine ts_aload_n dMO_set_12 rfl rfl ?_
      refine ts_get pMO_F19 dMO_set_13 rfl rfl ?_
      refine ts_iload_n dMO_set_16 rfl rfl ?_
      refine ts_iald dMO_set_17 rfl (tm_seti hJ ha h1) ?_
      refine ts_aload_n dMO_set_18 rfl rfl ?_
      refine ts_get pMO_F84 dMO_set_19 rfl rfl ?_
      refine ts_icmp_ne (tgt := 42) dMO_set_22 rfl (fun (h22 : ¬ (tc_r M 4 a) = (M.1 7)) => ?_) (fun (h22 : (tc_r M 4 a) = (M.1 7)) => ?_)
      · refine ts_aload_n dMO_set_42 rfl rfl ?_
        refine ts_get pMO_F75 dMO_set_43 rfl rfl ?_
        refine ts_sipush (v := 400) dMO_set_46 (by decide) ?_
        refine ts_icmp_ne (tgt := 55) dMO_set_49 rfl (fun (h49 : ¬ (M.1 6) = 400) => ?_) (fun (h49 : (M.1 6) = 400) => ?_)
        · refine ts_aload_n dMO_set_55 rfl rfl ?_
          refine ts_iload_n dMO_set_56 rfl rfl ?_
          refine ts_iload_n dMO_set_57 rfl rfl ?_
          refine ts_iload dMO_set_58 rfl ?_
          refine ts_callV (cMO_append G S M key value stone hJ h12 hk hs (tm_not400 hJ h49)) pMO_C118.1 pMO_C118.2 rfl rfl rfl rfl ⟨Nat.le_of_ble_eq_true rfl, Nat.le_of_ble_eq_true rfl⟩ ⟨Nat.le_of_ble_eq_true rfl, Nat.le_of_ble_eq_true rfl⟩ rfl (Nat.le_of_ble_eq_true rfl) dMO_set_60 ?_
          refine ts_conv (lo' := [.ref 17, .int key, .int a, .int value, .int stone]) (st' := [.int ((tc_append M key value stone).1)]) (h' := tc_h G S ++ tm_h G ((tc_append M key value stone).2)) rfl rfl rfl ?_
          refine ts_if_eq (tgt := 70) dMO_set_63 rfl (fun (h63 : ((tc_append M key value stone).1) = 0) => ?_) (fun (h63 : ¬ ((tc_append M key value stone).1) = 0) => ?_)
          · refine ts_bipush (v := -9) dMO_set_70 (by decide) ?_
            have e : tm_set M key a value stone = ((-9), (tc_append M key value stone).2) := by simp only [tm_set, tm_set1, h1, h9, h22, h49, h63, ↓reduceIte]
            exact ts_iret dMO_set_72 rfl (tc_e1 e) (tm_e2 e)
          · refine ts_iconst (v := 2) dMO_set_66 (by decide) ?_
            refine ts_goto (tgt := 72) dMO_set_67 rfl ?_
            have e : tm_set M key a value stone = (2, (tc_append M key value stone).2) := by simp only [tm_set, tm_set1, h1, h9, h22, h49, h63, ↓reduceIte]
            exact ts_iret dMO_set_72 rfl (tc_e1 e) (tm_e2 e)
        · refine ts_bipush (v := -2) dMO_set_52 (by decide) ?_
          have e : tm_set M key a value stone = ((-2), M) := by simp only [tm_set, tm_set1, h1, h9, h22, h49, ↓reduceIte]
          exact ts_iret dMO_set_54 rfl (tc_e1 e) (tm_e2 e)
      · refine ts_aload_n dMO_set_25 rfl rfl ?_
        refine ts_get pMO_F13 dMO_set_26 rfl rfl ?_
        refine ts_iload_n dMO_set_29 rfl rfl ?_
        refine ts_iload_n dMO_set_30 rfl rfl ?_
        refine ts_iast dMO_set_31 rfl (tm_seti hJ ha h1) (h' := tc_h G S ++ tm_h G (tc_a M 2 a value)) (tn_a2 _ _ _ _ _) ?_
        refine ts_aload_n dMO_set_32 rfl rfl ?_
        refine ts_get pMO_F22 dMO_set_33 rfl rfl ?_
        refine ts_iload_n dMO_set_36 rfl rfl ?_
        refine ts_iload dMO_set_37 rfl ?_
        refine ts_zast dMO_set_39 rfl (tm_seti hJ ha h1) (h' := tc_h G S ++ tm_h G (tc_a (tc_a M 2 a value) 5 a stone)) (by rw [tc_nar hs]; exact tn_a5 _ _ _ _ _) ?_
        refine ts_iconst (v := 1) dMO_set_40 (by decide) ?_
        have e : tm_set M key a value stone = (1, tc_a (tc_a M 2 a value) 5 a stone) := by simp only [tm_set, tm_set1, h1, h9, h22, ↓reduceIte]
        exact ts_iret dMO_set_41 rfl (tc_e1 e) (tm_e2 e)
theorem cMO_set (G : ts_GX) (S : tc_S) (M : tc_S) (key a value stone : Int32) (hJ : tj M) (h12 : M.1 12 = 0) (ha : a = -1 ∨ (0 ≤ a.toInt ∧ a.toInt < (M.1 6).toInt)) (hk : tc_key key) (hs : stone = 0 ∨ stone = 1) : ts_M G yMO_set YMO_set [.ref 17, .int key, .int a, .int value, .int stone] (tc_h G S ++ tm_h G M) (some (.int (tc_change M a key value stone).1)) (tc_h G S ++ tm_h G ((tc_change M a key value stone).2)) 0 0 := by
  rw [← tm_set_eq hJ (ha.imp id And.left)]
  exact cMO_set0 G S M key a value stone hJ h12 ha hk hs
