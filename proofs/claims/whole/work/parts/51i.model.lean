set_option maxHeartbeats 4000000 in
set_option maxRecDepth 100000 in
theorem cMO_put (G : ts_GX) (S : tc_S) (M : tc_S) (key value : Int32) (hJ : tj M) : ts_M G yMO_put YMO_put [.ref 17, .int key, .int value] (tc_h G S ++ tm_h G M) (some (.int (tc_put M key value).1)) (tc_h G S ++ tm_h G ((tc_put M key value).2)) 0 0 := by
  refine ts_of rfl rfl rfl rfl rfl rfl (Nat.le_of_ble_eq_true rfl) (ts_cat1 rfl) (fun X => ?_)
  refine ts_aload_n dMO_put_0 rfl rfl ?_
  refine ts_get pMO_F100 dMO_put_1 rfl rfl ?_
  refine ts_if_eq (tgt := 10) dMO_put_4 rfl (fun (h4 : (M.1 12) = 0) => ?_) (fun (h4 : ¬ (M.1 12) = 0) => ?_)
  · refine ts_iload_n dMO_put_10 rfl rfl ?_
    refine ts_callS (cMO_isKey G S M key) pMO_C122.1 pMO_C122.2 rfl rfl ⟨Nat.le_of_ble_eq_true rfl, Nat.le_of_ble_eq_true rfl⟩ ⟨Nat.le_of_ble_eq_true rfl, Nat.le_of_ble_eq_true rfl⟩ rfl (Nat.le_of_ble_eq_true rfl) dMO_put_11 ?_
    refine ts_conv (lo' := [.ref 17, .int key, .int value]) (st' := [.int (tc_isKey key)]) (h' := tc_h G S ++ tm_h G M) rfl rfl rfl ?_
    refine ts_if_ne (tgt := 19) dMO_put_14 rfl (fun (h14 : ¬ (tc_isKey key) = 0) => ?_) (fun (h14 : (tc_isKey key) = 0) => ?_)
    · refine ts_aload_n dMO_put_19 rfl rfl ?_
      refine ts_iload_n dMO_put_20 rfl rfl ?_
      refine ts_iconst (v := 1) dMO_put_21 (by decide) ?_
      refine ts_callV (cMO_find G S M key 1 hJ (tc_keyOf h14)) pMO_C125.1 pMO_C125.2 rfl rfl rfl rfl ⟨Nat.le_of_ble_eq_true rfl, Nat.le_of_ble_eq_true rfl⟩ ⟨Nat.le_of_ble_eq_true rfl, Nat.le_of_ble_eq_true rfl⟩ rfl (Nat.le_of_ble_eq_true rfl) dMO_put_22 ?_
      refine ts_conv (lo' := [.ref 17, .int key, .int value]) (st' := [.int ((tc_find M key 1).1)]) (h' := tc_h G S ++ tm_h G ((tc_find M key 1).2)) rfl rfl rfl ?_
      refine ts_istore_n (lo' := [.ref 17, .int key, .int value, .int ((tc_find M key 1).1)]) dMO_put_25 rfl (Nat.le_of_ble_eq_true rfl) (Nat.le_of_ble_eq_true rfl) rfl ?_
      refine ts_aload_n dMO_put_26 rfl rfl ?_
      refine ts_iload_n dMO_put_27 rfl rfl ?_
      refine ts_iload_n dMO_put_28 rfl rfl ?_
      refine ts_iload_n dMO_put_29 rfl rfl ?_
      refine ts_iconst (v := 0) dMO_put_30 (by decide) ?_
      refine ts_callV (cMO_set G S ((tc_find M key 1).2) key ((tc_find M key 1).1) value 0 (tc_find_I hJ) h4 (tc_find_T hJ (tc_keyOf h14)) (tc_keyOf h14) (Or.inl rfl)) pMO_C129.1 pMO_C129.2 rfl rfl rfl rfl ⟨Nat.le_of_ble_eq_true rfl, Nat.le_of_ble_eq_true rfl⟩ ⟨Nat.le_of_ble_eq_true rfl, Nat.le_of_ble_eq_true rfl⟩ rfl (Nat.le_of_ble_eq_true rfl) dMO_put_31 ?_
      refine ts_conv (lo' := [.ref 17, .int key, .int value, .int ((tc_find M key 1).1)]) (st' := [.int ((tc_change ((tc_find M key 1).2) ((tc_find M key 1).1) key value 0).1)]) (h' := tc_h G S ++ tm_h G ((tc_change ((tc_find M key 1).2) ((tc_find M key 1).1) key value 0).2)) rfl rfl rfl ?_
      have e : tc_put M key value = ((tc_change ((tc_find M key 1).2) ((tc_find M key 1).1) key value 0).1, (tc_change ((tc_find M key 1).2) ((tc_find M key 1).1) key value 0).2) := by simp only [tc_put, h4, h14, ↓reduceIte]
      exact ts_iret dMO_put_34 rfl (tc_e1 e) (tm_e2 e)
    · refine ts_iconst (v := -1) dMO_put_17 (by decide) ?_
      have e : tc_put M key value = ((-1), M) := by simp only [tc_put, h4, h14, ↓reduceIte]
      exact ts_iret dMO_put_18 rfl (tc_e1 e) (tm_e2 e)
  · refine ts_bipush (v := -9) dMO_put_7 (by decide) ?_
    have e : tc_put M key value = ((-9), M) := by simp only [tc_put, h4, ↓reduceIte]
    exact ts_iret dMO_put_9 rfl (tc_e1 e) (tm_e2 e)
set_option maxHeartbeats 4000000 in
set_option maxRecDepth 100000 in
theorem cMO_add (G : ts_GX) (S : tc_S) (M : tc_S) (key delta : Int32) (hJ : tj M) : ts_M G yMO_add YMO_add [.ref 17, .int key, .int delta] (tc_h G S ++ tm_h G M) (some (.int (tc_add M key delta).1)) (tc_h G S ++ tm_h G ((tc_add M key delta).2)) 0 0 := by
  refine ts_of rfl rfl rfl rfl rfl rfl (Nat.le_of_ble_eq_true rfl) (ts_cat1 rfl) (fun X => ?_)
  refine ts_aload_n dMO_add_0 rfl rfl ?_
  refine ts_get pMO_F100 dMO_add_1 rfl rfl ?_
  refine ts_if_eq (tgt := 10) dMO_add_4 rfl (fun (h4 : (M.1 12) = 0) => ?_) (fun (h4 : ¬ (M.1 12) = 0) => ?_)
  · refine ts_iload_n dMO_add_10 rfl rfl ?_
    refine ts_callS (cMO_isKey G S M key) pMO_C122.1 pMO_C122.2 rfl rfl ⟨Nat.le_of_ble_eq_true rfl, Nat.le_of_ble_eq_true rfl⟩ ⟨Nat.le_of_ble_eq_true rfl, Nat.le_of_ble_eq_true rfl⟩ rfl (Nat.le_of_ble_eq_true rfl) dMO_add_11 ?_
    refine ts_conv (lo' := [.ref 17, .int key, .int delta]) (st' := [.int (tc_isKey key)]) (h' := tc_h G S ++ tm_h G M) rfl rfl rfl ?_
    refine ts_if_ne (tgt := 19) dMO_add_14 rfl (fun (h14 : ¬ (tc_isKey key) = 0) => ?_) (fun (h14 : (tc_isKey key) = 0) => ?_)
    · refine ts_aload_n dMO_add_19 rfl rfl ?_
      refine ts_iload_n dMO_add_20 rfl rfl ?_
      refine ts_iconst (v := 1) dMO_add_21 (by decide) ?_
      refine ts_callV (cMO_find G S M key 1 hJ (tc_keyOf h14)) pMO_C125.1 pMO_C125.2 rfl rfl rfl rfl ⟨Nat.le_of_ble_eq_true rfl, Nat.le_of_ble_eq_true rfl⟩ ⟨Nat.le_of_ble_eq_true rfl, Nat.le_of_ble_eq_true rfl⟩ rfl (Nat.le_of_ble_eq_true rfl) dMO_add_22 ?_
      refine ts_conv (lo' := [.ref 17, .int key, .int delta]) (st' := [.int ((tc_find M key 1).1)]) (h' := tc_h G S ++ tm_h G ((tc_find M key 1).2)) rfl rfl rfl ?_
      refine ts_istore_n (lo' := [.ref 17, .int key, .int delta, .int ((tc_find M key 1).1)]) dMO_add_25 rfl (Nat.le_of_ble_eq_true rfl) (Nat.le_of_ble_eq_true rfl) rfl ?_
      refine ts_iload_n dMO_add_26 rfl rfl ?_
      obtain ⟨v27, g27⟩ : ∃ v : Int32, v = tm_had (tc_find M key 1).2 (tc_find M key 1).1 := ⟨_, rfl⟩
      refine ts_join (j := 49) (lo' := [.ref 17, .int key, .int delta, .int ((tc_find M key 1).1)]) (st' := [.int v27]) (h' := tc_h G S ++ tm_h G ((tc_find M key 1).2)) (fun K => ?_) ?_
      · refine ts_if_lt (tgt := 48) dMO_add_27 rfl (fun (h27 : ((tc_find M key 1).1) < 0) => ?_) (fun (h27 : ¬ ((tc_find M key 1).1) < 0) => ?_)
        · refine ts_iconst (v := 0) dMO_add_48 (by decide) ?_
          exact ts_conv rfl (by rw [g27]; exact congrArg (fun z : Int32 => (Value.int z :: [] : List Value)) (show 0 = tm_had (tc_find M key 1).2 (tc_find M key 1).1 by simp only [tm_had, h4, h14, h27, ↓reduceIte])) rfl K
        · refine ts_aload_n dMO_add_30 rfl rfl ?_
          refine ts_get pMO_F22 dMO_add_31 rfl rfl ?_
          refine ts_iload_n dMO_add_34 rfl rfl ?_
          refine ts_zald dMO_add_35 rfl (tm_find_in hJ (tc_keyOf h14) h27) ?_
          refine ts_if_ne (tgt := 48) dMO_add_36 rfl (fun (h36 : ¬ (tc_r ((tc_find M key 1).2) 5 ((tc_find M key 1).1)) = 0) => ?_) (fun (h36 : (tc_r ((tc_find M key 1).2) 5 ((tc_find M key 1).1)) = 0) => ?_)
          · refine ts_iconst (v := 0) dMO_add_48 (by decide) ?_
            exact ts_conv rfl (by rw [g27]; exact congrArg (fun z : Int32 => (Value.int z :: [] : List Value)) (show 0 = tm_had (tc_find M key 1).2 (tc_find M key 1).1 by simp only [tm_had, h4, h14, h27, h36, ↓reduceIte])) rfl K
          · refine ts_aload_n dMO_add_39 rfl rfl ?_
            refine ts_get pMO_F13 dMO_add_40 rfl rfl ?_
            refine ts_iload_n dMO_add_43 rfl rfl ?_
            refine ts_iald dMO_add_44 rfl (tm_find_in hJ (tc_keyOf h14) h27) ?_
            refine ts_goto (tgt := 49) dMO_add_45 rfl ?_
            exact ts_conv rfl (by rw [g27]; exact congrArg (fun z : Int32 => (Value.int z :: [] : List Value)) (show tc_r ((tc_find M key 1).2) 2 ((tc_find M key 1).1) = tm_had (tc_find M key 1).2 (tc_find M key 1).1 by simp only [tm_had, h4, h14, h27, h36, ↓reduceIte])) rfl K
      refine ts_istore (lo' := [.ref 17, .int key, .int delta, .int ((tc_find M key 1).1), .int v27]) dMO_add_49 (Nat.le_of_ble_eq_true rfl) (Nat.le_of_ble_eq_true rfl) rfl ?_
      refine ts_aload_n dMO_add_51 rfl rfl ?_
      refine ts_iload_n dMO_add_52 rfl rfl ?_
      refine ts_iload_n dMO_add_53 rfl rfl ?_
      refine ts_iload dMO_add_54 rfl ?_
      refine ts_iload_n dMO_add_56 rfl rfl ?_
      refine ts_iadd dMO_add_57 ?_
      refine ts_conv (lo' := [.ref 17, .int key, .int delta, .int ((tc_find M key 1).1), .int v27]) (st' := [.int (tc_sum (tc_find M key 1).2 (tc_find M key 1).1 delta), .int ((tc_find M key 1).1), .int key, .ref 17]) (h' := tc_h G S ++ tm_h G ((tc_find M key 1).2)) rfl (by rw [g27, tm_had_eq (tm_find_o hJ (tc_keyOf h14))]) rfl ?_
      refine ts_iconst (v := 0) dMO_add_58 (by decide) ?_
      refine ts_callV (cMO_set G S ((tc_find M key 1).2) key ((tc_find M key 1).1) (tc_sum (tc_find M key 1).2 (tc_find M key 1).1 delta) 0 (tc_find_I hJ) h4 (tc_find_T hJ (tc_keyOf h14)) (tc_keyOf h14) (Or.inl rfl)) pMO_C129.1 pMO_C129.2 rfl rfl rfl rfl ⟨Nat.le_of_ble_eq_true rfl, Nat.le_of_ble_eq_true rfl⟩ ⟨Nat.le_of_ble_eq_true rfl, Nat.le_of_ble_eq_true rfl⟩ rfl (Nat.le_of_ble_eq_true rfl) dMO_add_59 ?_
      refine ts_conv (lo' := [.ref 17, .int key, .int delta, .int ((tc_find M key 1).1), .int v27]) (st' := [.int ((tc_change ((tc_find M key 1).2) ((tc_find M key 1).1) key (tc_sum (tc_find M key 1).2 (tc_find M key 1).1 delta) 0).1)]) (h' := tc_h G S ++ tm_h G ((tc_change ((tc_find M key 1).2) ((tc_find M key 1).1) key (tc_sum (tc_find M key 1).2 (tc_find M key 1).1 delta) 0).2)) rfl rfl rfl ?_
      subst g27
      have e : tc_add M key delta = ((tc_change ((tc_find M key 1).2) ((tc_find M key 1).1) key (tc_sum (tc_find M key 1).2 (tc_find M key 1).1 delta) 0).1, (tc_change ((tc_find M key 1).2) ((tc_find M key 1).1) key (tc_sum (tc_find M key 1).2 (tc_find M key 1).1 delta) 0).2) := by simp only [tc_add, h4, h14, ↓reduceIte]
      exact ts_iret dMO_add_62 rfl (tc_e1 e) (tm_e2 e)
    · refine ts_iconst (v := -1) dMO_add_17 (by decide) ?_
      have e : tc_add M key delta = ((-1), M) := by simp only [tc_add, h4, h14, ↓reduceIte]
      exact ts_iret dMO_add_18 rfl (tc_e1 e) (tm_e2 e)
  · refine ts_bipush (v := -9) dMO_add_7 (by decide) ?_
    have e : tc_add M key delta = ((-9), M) := by simp only [tc_add, h4, ↓reduceIte]
    exact ts_iret dMO_add_9 rfl (tc_e1 e) (tm_e2 e)
