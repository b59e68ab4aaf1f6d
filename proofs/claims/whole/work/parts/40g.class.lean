set_option maxHeartbeats 4000000 in
set_option maxRecDepth 100000 in
theorem cTS_add (G : ts_GX) (T : List va_E) (S : tc_S) (key delta : Int32) (hI : tj S) : ts_M G yTS_add YTS_add [.ref 1, .int key, .int delta] (tc_h G S ++ T) (some (.int (tc_add S key delta).1)) (tc_h G (tc_add S key delta).2 ++ T) 0 0 := by
  refine ts_of rfl rfl rfl rfl rfl rfl (Nat.le_of_ble_eq_true rfl) (ts_cat1 rfl) (fun X => ?_)
  refine ts_aload_n dTS_add_0 rfl rfl ?_
  refine ts_get pTS_F12 dTS_add_1 rfl rfl ?_
  refine ts_get pTS_F62 dTS_add_4 rfl rfl ?_
  refine ts_if_eq (tgt := 13) dTS_add_7 rfl (fun (h7 : (S.1 12) = 0) => ?_) (fun (h7 : ¬ (S.1 12) = 0) => ?_)
  · refine ts_iload_n dTS_add_13 rfl rfl ?_
    refine ts_callS (cTS_isKey G T S key) pTS_C66.1 pTS_C66.2 rfl rfl ⟨Nat.le_of_ble_eq_true rfl, Nat.le_of_ble_eq_true rfl⟩ ⟨Nat.le_of_ble_eq_true rfl, Nat.le_of_ble_eq_true rfl⟩ rfl (Nat.le_of_ble_eq_true rfl) dTS_add_14 ?_
    refine ts_conv (lo' := [.ref 1, .int key, .int delta]) (st' := [.int (tc_isKey key)]) (h' := tc_h G S ++ T) rfl rfl rfl ?_
    refine ts_if_ne (tgt := 22) dTS_add_17 rfl (fun (h17 : ¬ (tc_isKey key) = 0) => ?_) (fun (h17 : (tc_isKey key) = 0) => ?_)
    · refine ts_aload_n dTS_add_22 rfl rfl ?_
      refine ts_iload_n dTS_add_23 rfl rfl ?_
      refine ts_iconst (v := 1) dTS_add_24 (by decide) ?_
      refine ts_callV (cTS_find G T S key 1 hI (tc_keyOf h17)) pTS_C70.1 pTS_C70.2 rfl rfl rfl rfl ⟨Nat.le_of_ble_eq_true rfl, Nat.le_of_ble_eq_true rfl⟩ ⟨Nat.le_of_ble_eq_true rfl, Nat.le_of_ble_eq_true rfl⟩ rfl (Nat.le_of_ble_eq_true rfl) dTS_add_25 ?_
      refine ts_conv (lo' := [.ref 1, .int key, .int delta]) (st' := [.int ((tc_find S key 1).1)]) (h' := tc_h G ((tc_find S key 1).2) ++ T) rfl rfl rfl ?_
      refine ts_istore_n (lo' := [.ref 1, .int key, .int delta, .int ((tc_find S key 1).1)]) dTS_add_28 rfl (Nat.le_of_ble_eq_true rfl) (Nat.le_of_ble_eq_true rfl) rfl ?_
      refine ts_aload_n dTS_add_29 rfl rfl ?_
      refine ts_iload_n dTS_add_30 rfl rfl ?_
      refine ts_callV (cTS_hasValue G T ((tc_find S key 1).2) ((tc_find S key 1).1) (tc_find_in hI (tc_keyOf h17))) pTS_C78.1 pTS_C78.2 rfl rfl rfl rfl ⟨Nat.le_of_ble_eq_true rfl, Nat.le_of_ble_eq_true rfl⟩ ⟨Nat.le_of_ble_eq_true rfl, Nat.le_of_ble_eq_true rfl⟩ rfl (Nat.le_of_ble_eq_true rfl) dTS_add_31 ?_
      refine ts_conv (lo' := [.ref 1, .int key, .int delta, .int ((tc_find S key 1).1)]) (st' := [.int (tc_hasValue ((tc_find S key 1).2) ((tc_find S key 1).1))]) (h' := tc_h G ((tc_find S key 1).2) ++ T) rfl rfl rfl ?_
      refine ts_if_eq (tgt := 51) dTS_add_34 rfl (fun (h34 : (tc_hasValue ((tc_find S key 1).2) ((tc_find S key 1).1)) = 0) => ?_) (fun (h34 : ¬ (tc_hasValue ((tc_find S key 1).2) ((tc_find S key 1).1)) = 0) => ?_)
      · refine ts_iload_n dTS_add_51 rfl rfl ?_
        refine ts_istore (lo' := [.ref 1, .int key, .int delta, .int ((tc_find S key 1).1), .int delta]) dTS_add_52 (Nat.le_of_ble_eq_true rfl) (Nat.le_of_ble_eq_true rfl) rfl ?_
        refine ts_aload_n dTS_add_54 rfl rfl ?_
        refine ts_iload_n dTS_add_55 rfl rfl ?_
        refine ts_iload_n dTS_add_56 rfl rfl ?_
        refine ts_iload dTS_add_57 rfl ?_
        refine ts_iconst (v := 0) dTS_add_59 (by decide) ?_
        refine ts_callV (cTS_change G T ((tc_find S key 1).2) ((tc_find S key 1).1) key delta 0 (tc_find_I hI) (tc_find_in hI (tc_keyOf h17)) (tc_keyOf h17) (Or.inl rfl)) pTS_C74.1 pTS_C74.2 rfl rfl rfl rfl ⟨Nat.le_of_ble_eq_true rfl, Nat.le_of_ble_eq_true rfl⟩ ⟨Nat.le_of_ble_eq_true rfl, Nat.le_of_ble_eq_true rfl⟩ rfl (Nat.le_of_ble_eq_true rfl) dTS_add_60 ?_
        refine ts_conv (lo' := [.ref 1, .int key, .int delta, .int ((tc_find S key 1).1), .int delta]) (st' := [.int ((tc_change ((tc_find S key 1).2) ((tc_find S key 1).1) key delta 0).1)]) (h' := tc_h G ((tc_change ((tc_find S key 1).2) ((tc_find S key 1).1) key delta 0).2) ++ T) rfl rfl rfl ?_
        have e : tc_add S key delta = ((tc_change ((tc_find S key 1).2) ((tc_find S key 1).1) key delta 0).1, (tc_change ((tc_find S key 1).2) ((tc_find S key 1).1) key delta 0).2) := by simp only [tc_add, tc_sum, h7, h17, h34, ↓reduceIte]
        exact ts_iret dTS_add_63 rfl (tc_e1 e) (tc_e2 e)
      · refine ts_aload_n dTS_add_37 rfl rfl ?_
        refine ts_get pTS_F26 dTS_add_38 rfl rfl ?_
        refine ts_get pTS_F81 dTS_add_41 rfl rfl ?_
        refine ts_iload_n dTS_add_44 rfl rfl ?_
        refine ts_iald dTS_add_45 rfl (tc_find_in hI (tc_keyOf h17) (tc_hv h34)) ?_
        refine ts_iload_n dTS_add_46 rfl rfl ?_
        refine ts_iadd dTS_add_47 ?_
        refine ts_goto (tgt := 52) dTS_add_48 rfl ?_
        refine ts_istore (lo' := [.ref 1, .int key, .int delta, .int ((tc_find S key 1).1), .int ((tc_r ((tc_find S key 1).2) 2 ((tc_find S key 1).1)) + delta)]) dTS_add_52 (Nat.le_of_ble_eq_true rfl) (Nat.le_of_ble_eq_true rfl) rfl ?_
        refine ts_aload_n dTS_add_54 rfl rfl ?_
        refine ts_iload_n dTS_add_55 rfl rfl ?_
        refine ts_iload_n dTS_add_56 rfl rfl ?_
        refine ts_iload dTS_add_57 rfl ?_
        refine ts_iconst (v := 0) dTS_add_59 (by decide) ?_
        refine ts_callV (cTS_change G T ((tc_find S key 1).2) ((tc_find S key 1).1) key ((tc_r ((tc_find S key 1).2) 2 ((tc_find S key 1).1)) + delta) 0 (tc_find_I hI) (tc_find_in hI (tc_keyOf h17)) (tc_keyOf h17) (Or.inl rfl)) pTS_C74.1 pTS_C74.2 rfl rfl rfl rfl ⟨Nat.le_of_ble_eq_true rfl, Nat.le_of_ble_eq_true rfl⟩ ⟨Nat.le_of_ble_eq_true rfl, Nat.le_of_ble_eq_true rfl⟩ rfl (Nat.le_of_ble_eq_true rfl) dTS_add_60 ?_
        refine ts_conv (lo' := [.ref 1, .int key, .int delta, .int ((tc_find S key 1).1), .int ((tc_r ((tc_find S key 1).2) 2 ((tc_find S key 1).1)) + delta)]) (st' := [.int ((tc_change ((tc_find S key 1).2) ((tc_find S key 1).1) key ((tc_r ((tc_find S key 1).2) 2 ((tc_find S key 1).1)) + delta) 0).1)]) (h' := tc_h G ((tc_change ((tc_find S key 1).2) ((tc_find S key 1).1) key ((tc_r ((tc_find S key 1).2) 2 ((tc_find S key 1).1)) + delta) 0).2) ++ T) rfl rfl rfl ?_
        have e : tc_add S key delta = ((tc_change ((tc_find S key 1).2) ((tc_find S key 1).1) key ((tc_r ((tc_find S key 1).2) 2 ((tc_find S key 1).1)) + delta) 0).1, (tc_change ((tc_find S key 1).2) ((tc_find S key 1).1) key ((tc_r ((tc_find S key 1).2) 2 ((tc_find S key 1).1)) + delta) 0).2) := by simp only [tc_add, tc_sum, h7, h17, h34, ↓reduceIte]
        exact ts_iret dTS_add_63 rfl (tc_e1 e) (tc_e2 e)
    · refine ts_iconst (v := -1) dTS_add_20 (by decide) ?_
      have e : tc_add S key delta = ((-1), S) := by simp only [tc_add, tc_sum, h7, h17, ↓reduceIte]
      exact ts_iret dTS_add_21 rfl (tc_e1 e) (tc_e2 e)
  · refine ts_bipush (v := -9) dTS_add_10 (by decide) ?_
    have e : tc_add S key delta = ((-9), S) := by simp only [tc_add, tc_sum, h7, ↓reduceIte]
    exact ts_iret dTS_add_12 rfl (tc_e1 e) (tc_e2 e)
set_option maxHeartbeats 4000000 in
set_option maxRecDepth 100000 in
theorem cTS_delete (G : ts_GX) (T : List va_E) (S : tc_S) (key : Int32) (hI : tj S) : ts_M G yTS_delete YTS_delete [.ref 1, .int key] (tc_h G S ++ T) (some (.int (tc_delete S key).1)) (tc_h G (tc_delete S key).2 ++ T) 0 0 := by
  refine ts_of rfl rfl rfl rfl rfl rfl (Nat.le_of_ble_eq_true rfl) (ts_cat1 rfl) (fun X => ?_)
  refine ts_aload_n dTS_delete_0 rfl rfl ?_
  refine ts_get pTS_F12 dTS_delete_1 rfl rfl ?_
  refine ts_get pTS_F62 dTS_delete_4 rfl rfl ?_
  refine ts_if_eq (tgt := 13) dTS_delete_7 rfl (fun (h7 : (S.1 12) = 0) => ?_) (fun (h7 : ¬ (S.1 12) = 0) => ?_)
  · refine ts_iload_n dTS_delete_13 rfl rfl ?_
    refine ts_callS (cTS_isKey G T S key) pTS_C66.1 pTS_C66.2 rfl rfl ⟨Nat.le_of_ble_eq_true rfl, Nat.le_of_ble_eq_true rfl⟩ ⟨Nat.le_of_ble_eq_true rfl, Nat.le_of_ble_eq_true rfl⟩ rfl (Nat.le_of_ble_eq_true rfl) dTS_delete_14 ?_
    refine ts_conv (lo' := [.ref 1, .int key]) (st' := [.int (tc_isKey key)]) (h' := tc_h G S ++ T) rfl rfl rfl ?_
    refine ts_if_ne (tgt := 22) dTS_delete_17 rfl (fun (h17 : ¬ (tc_isKey key) = 0) => ?_) (fun (h17 : (tc_isKey key) = 0) => ?_)
    · refine ts_aload_n dTS_delete_22 rfl rfl ?_
      refine ts_iload_n dTS_delete_23 rfl rfl ?_
      refine ts_iconst (v := 1) dTS_delete_24 (by decide) ?_
      refine ts_callV (cTS_find G T S key 1 hI (tc_keyOf h17)) pTS_C70.1 pTS_C70.2 rfl rfl rfl rfl ⟨Nat.le_of_ble_eq_true rfl, Nat.le_of_ble_eq_true rfl⟩ ⟨Nat.le_of_ble_eq_true rfl, Nat.le_of_ble_eq_true rfl⟩ rfl (Nat.le_of_ble_eq_true rfl) dTS_delete_25 ?_
      refine ts_conv (lo' := [.ref 1, .int key]) (st' := [.int ((tc_find S key 1).1)]) (h' := tc_h G ((tc_find S key 1).2) ++ T) rfl rfl rfl ?_
      refine ts_istore_n (lo' := [.ref 1, .int key, .int ((tc_find S key 1).1)]) dTS_delete_28 rfl (Nat.le_of_ble_eq_true rfl) (Nat.le_of_ble_eq_true rfl) rfl ?_
      refine ts_aload_n dTS_delete_29 rfl rfl ?_
      refine ts_iload_n dTS_delete_30 rfl rfl ?_
      refine ts_callV (cTS_hasValue G T ((tc_find S key 1).2) ((tc_find S key 1).1) (tc_find_in hI (tc_keyOf h17))) pTS_C78.1 pTS_C78.2 rfl rfl rfl rfl ⟨Nat.le_of_ble_eq_true rfl, Nat.le_of_ble_eq_true rfl⟩ ⟨Nat.le_of_ble_eq_true rfl, Nat.le_of_ble_eq_true rfl⟩ rfl (Nat.le_of_ble_eq_true rfl) dTS_delete_31 ?_
      refine ts_conv (lo' := [.ref 1, .int key, .int ((tc_find S key 1).1)]) (st' := [.int (tc_hasValue ((tc_find S key 1).2) ((tc_find S key 1).1))]) (h' := tc_h G ((tc_find S key 1).2) ++ T) rfl rfl rfl ?_
      refine ts_if_eq (tgt := 48) dTS_delete_34 rfl (fun (h34 : (tc_hasValue ((tc_find S key 1).2) ((tc_find S key 1).1)) = 0) => ?_) (fun (h34 : ¬ (tc_hasValue ((tc_find S key 1).2) ((tc_find S key 1).1)) = 0) => ?_)
      · refine ts_iconst (v := 0) dTS_delete_48 (by decide) ?_
        have e : tc_delete S key = (0, (tc_find S key 1).2) := by simp only [tc_delete, h7, h17, h34, ↓reduceIte]
        exact ts_iret dTS_delete_49 rfl (tc_e1 e) (tc_e2 e)
      · refine ts_aload_n dTS_delete_37 rfl rfl ?_
        refine ts_iload_n dTS_delete_38 rfl rfl ?_
        refine ts_iload_n dTS_delete_39 rfl rfl ?_
        refine ts_iconst (v := 0) dTS_delete_40 (by decide) ?_
        refine ts_iconst (v := 1) dTS_delete_41 (by decide) ?_
        refine ts_callV (cTS_change G T ((tc_find S key 1).2) ((tc_find S key 1).1) key 0 1 (tc_find_I hI) (tc_find_in hI (tc_keyOf h17)) (tc_keyOf h17) (Or.inr rfl)) pTS_C74.1 pTS_C74.2 rfl rfl rfl rfl ⟨Nat.le_of_ble_eq_true rfl, Nat.le_of_ble_eq_true rfl⟩ ⟨Nat.le_of_ble_eq_true rfl, Nat.le_of_ble_eq_true rfl⟩ rfl (Nat.le_of_ble_eq_true rfl) dTS_delete_42 ?_
        refine ts_conv (lo' := [.ref 1, .int key, .int ((tc_find S key 1).1)]) (st' := [.int ((tc_change ((tc_find S key 1).2) ((tc_find S key 1).1) key 0 1).1)]) (h' := tc_h G ((tc_change ((tc_find S key 1).2) ((tc_find S key 1).1) key 0 1).2) ++ T) rfl rfl rfl ?_
        refine ts_goto (tgt := 49) dTS_delete_45 rfl ?_
        have e : tc_delete S key = ((tc_change ((tc_find S key 1).2) ((tc_find S key 1).1) key 0 1).1, (tc_change ((tc_find S key 1).2) ((tc_find S key 1).1) key 0 1).2) := by simp only [tc_delete, h7, h17, h34, ↓reduceIte]
        exact ts_iret dTS_delete_49 rfl (tc_e1 e) (tc_e2 e)
    · refine ts_iconst (v := -1) dTS_delete_20 (by decide) ?_
      have e : tc_delete S key = ((-1), S) := by simp only [tc_delete, h7, h17, ↓reduceIte]
      exact ts_iret dTS_delete_21 rfl (tc_e1 e) (tc_e2 e)
  · refine ts_bipush (v := -9) dTS_delete_10 (by decide) ?_
    have e : tc_delete S key = ((-9), S) := by simp only [tc_delete, h7, ↓reduceIte]
    exact ts_iret dTS_delete_12 rfl (tc_e1 e) (tc_e2 e)
set_option maxHeartbeats 4000000 in
set_option maxRecDepth 100000 in
theorem cTS_read (G : ts_GX) (T : List va_E) (S : tc_S) (key : Int32) (hI : tj S) : ts_M G yTS_read YTS_read [.ref 1, .int key] (tc_h G S ++ T) (some (.int (tc_read S key).1)) (tc_h G (tc_read S key).2 ++ T) 0 0 := by
  refine ts_of rfl rfl rfl rfl rfl rfl (Nat.le_of_ble_eq_true rfl) (ts_cat1 rfl) (fun X => ?_)
  refine ts_aload_n dTS_read_0 rfl rfl ?_
  refine ts_get pTS_F12 dTS_read_1 rfl rfl ?_
  refine ts_get pTS_F62 dTS_read_4 rfl rfl ?_
  refine ts_if_eq (tgt := 13) dTS_read_7 rfl (fun (h7 : (S.1 12) = 0) => ?_) (fun (h7 : ¬ (S.1 12) = 0) => ?_)
  · refine ts_iload_n dTS_read_13 rfl rfl ?_
    refine ts_callS (cTS_isKey G T S key) pTS_C66.1 pTS_C66.2 rfl rfl ⟨Nat.le_of_ble_eq_true rfl, Nat.le_of_ble_eq_true rfl⟩ ⟨Nat.le_of_ble_eq_true rfl, Nat.le_of_ble_eq_true rfl⟩ rfl (Nat.le_of_ble_eq_true rfl) dTS_read_14 ?_
    refine ts_conv (lo' := [.ref 1, .int key]) (st' := [.int (tc_isKey key)]) (h' := tc_h G S ++ T) rfl rfl rfl ?_
    refine ts_if_ne (tgt := 22) dTS_read_17 rfl (fun (h17 : ¬ (tc_isKey key) = 0) => ?_) (fun (h17 : (tc_isKey key) = 0) => ?_)
    · refine ts_aload_n dTS_read_22 rfl rfl ?_
      refine ts_iload_n dTS_read_23 rfl rfl ?_
      refine ts_iconst (v := 1) dTS_read_24 (by decide) ?_
      refine ts_callV (cTS_find G T S key 1 hI (tc_keyOf h17)) pTS_C70.1 pTS_C70.2 rfl rfl rfl rfl ⟨Nat.le_of_ble_eq_true rfl, Nat.le_of_ble_eq_true rfl⟩ ⟨Nat.le_of_ble_eq_true rfl, Nat.le_of_ble_eq_true rfl⟩ rfl (Nat.le_of_ble_eq_true rfl) dTS_read_25 ?_
      refine ts_conv (lo' := [.ref 1, .int key]) (st' := [.int ((tc_find S key 1).1)]) (h' := tc_h G ((tc_find S key 1).2) ++ T) rfl rfl rfl ?_
      refine ts_istore_n (lo' := [.ref 1, .int key, .int ((tc_find S key 1).1)]) dTS_read_28 rfl (Nat.le_of_ble_eq_true rfl) (Nat.le_of_ble_eq_true rfl) rfl ?_
      refine ts_aload_n dTS_read_29 rfl rfl ?_
      refine ts_iload_n dTS_read_30 rfl rfl ?_
      refine ts_callV (cTS_hasValue G T ((tc_find S key 1).2) ((tc_find S key 1).1) (tc_find_in hI (tc_keyOf h17))) pTS_C78.1 pTS_C78.2 rfl rfl rfl rfl ⟨Nat.le_of_ble_eq_true rfl, Nat.le_of_ble_eq_true rfl⟩ ⟨Nat.le_of_ble_eq_true rfl, Nat.le_of_ble_eq_true rfl⟩ rfl (Nat.le_of_ble_eq_true rfl) dTS_read_31 ?_
      refine ts_conv (lo' := [.ref 1, .int key, .int ((tc_find S key 1).1)]) (st' := [.int (tc_hasValue ((tc_find S key 1).2) ((tc_find S key 1).1))]) (h' := tc_h G ((tc_find S key 1).2) ++ T) rfl rfl rfl ?_
      refine ts_if_ne (tgt := 39) dTS_read_34 rfl (fun (h34 : ¬ (tc_hasValue ((tc_find S key 1).2) ((tc_find S key 1).1)) = 0) => ?_) (fun (h34 : (tc_hasValue ((tc_find S key 1).2) ((tc_find S key 1).1)) = 0) => ?_)
      · refine ts_aload_n dTS_read_39 rfl rfl ?_
        refine ts_aload_n dTS_read_40 rfl rfl ?_
        refine ts_get pTS_F26 dTS_read_41 rfl rfl ?_
        refine ts_get pTS_F81 dTS_read_44 rfl rfl ?_
        refine ts_iload_n dTS_read_47 rfl rfl ?_
        refine ts_iald dTS_read_48 rfl (tc_find_in hI (tc_keyOf h17) (tc_hv h34)) ?_
        refine ts_put pTS_P85 dTS_read_49 rfl (Nat.le_of_ble_eq_true rfl) rfl rfl (h' := tc_h G (tc_f ((tc_find S key 1).2) 8 (tc_r ((tc_find S key 1).2) 2 ((tc_find S key 1).1))) ++ T) (th_f8 _ _ _ _) ?_
        refine ts_iload_n dTS_read_52 rfl rfl ?_
        refine ts_aload_n dTS_read_53 rfl rfl ?_
        refine ts_get pTS_F88 dTS_read_54 rfl rfl ?_
        refine ts_icmp_lt (tgt := 64) dTS_read_57 rfl (fun (h57 : ((tc_find S key 1).1) < (((tc_find S key 1).2).1 5)) => ?_) (fun (h57 : ¬ ((tc_find S key 1).1) < (((tc_find S key 1).2).1 5)) => ?_)
        · refine ts_iload_n dTS_read_64 rfl rfl ?_
          refine ts_aload_n dTS_read_65 rfl rfl ?_
          refine ts_get pTS_F91 dTS_read_66 rfl rfl ?_
          refine ts_icmp_lt (tgt := 76) dTS_read_69 rfl (fun (h69 : ((tc_find S key 1).1) < (((tc_find S key 1).2).1 3)) => ?_) (fun (h69 : ¬ ((tc_find S key 1).1) < (((tc_find S key 1).2).1 3)) => ?_)
          · refine ts_iconst (v := 3) dTS_read_76 (by decide) ?_
            have e : tc_read S key = (3, tc_f ((tc_find S key 1).2) 8 (tc_r ((tc_find S key 1).2) 2 ((tc_find S key 1).1))) := by simp only [tc_read, h7, h17, h34, h57, h69, ↓reduceIte]
            exact ts_iret dTS_read_77 rfl (tc_e1 e) (tc_e2 e)
          · refine ts_iconst (v := 2) dTS_read_72 (by decide) ?_
            refine ts_goto (tgt := 77) dTS_read_73 rfl ?_
            have e : tc_read S key = (2, tc_f ((tc_find S key 1).2) 8 (tc_r ((tc_find S key 1).2) 2 ((tc_find S key 1).1))) := by simp only [tc_read, h7, h17, h34, h57, h69, ↓reduceIte]
            exact ts_iret dTS_read_77 rfl (tc_e1 e) (tc_e2 e)
        · refine ts_iconst (v := 1) dTS_read_60 (by decide) ?_
          refine ts_goto (tgt := 77) dTS_read_61 rfl ?_
          have e : tc_read S key = (1, tc_f ((tc_find S key 1).2) 8 (tc_r ((tc_find S key 1).2) 2 ((tc_find S key 1).1))) := by simp only [tc_read, h7, h17, h34, h57, ↓reduceIte]
          exact ts_iret dTS_read_77 rfl (tc_e1 e) (tc_e2 e)
      · refine ts_iconst (v := 0) dTS_read_37 (by decide) ?_
        have e : tc_read S key = (0, (tc_find S key 1).2) := by simp only [tc_read, h7, h17, h34, ↓reduceIte]
        exact ts_iret dTS_read_38 rfl (tc_e1 e) (tc_e2 e)
    · refine ts_iconst (v := -1) dTS_read_20 (by decide) ?_
      have e : tc_read S key = ((-1), S) := by simp only [tc_read, h7, h17, ↓reduceIte]
      exact ts_iret dTS_read_21 rfl (tc_e1 e) (tc_e2 e)
  · refine ts_bipush (v := -9) dTS_read_10 (by decide) ?_
    have e : tc_read S key = ((-9), S) := by simp only [tc_read, h7, ↓reduceIte]
    exact ts_iret dTS_read_12 rfl (tc_e1 e) (tc_e2 e)
