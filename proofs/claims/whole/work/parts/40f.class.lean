set_option maxHeartbeats 4000000 in
set_option maxRecDepth 100000 in
theorem cTS_append (G : ts_GX) (T : List va_E) (S : tc_S) (key value stone : Int32) (hI : tj S) (hk : tc_key key) (hs : stone = 0 ∨ stone = 1) (ht : ¬ 400 ≤ S.1 6) : ts_M G yTS_append YTS_append [.ref 1, .int key, .int value, .int stone] (tc_h G S ++ T) (some (.int (tc_append S key value stone).1)) (tc_h G (tc_append S key value stone).2 ++ T) 0 0 := by
  refine ts_of rfl rfl rfl rfl rfl rfl (Nat.le_of_ble_eq_true rfl) (ts_cat1 rfl) (fun X => ?_)
  refine ts_aload_n dTS_append_0 rfl rfl ?_
  refine ts_get pTS_F99 dTS_append_1 rfl rfl ?_
  refine ts_iconst (v := 4) dTS_append_4 (by decide) ?_
  refine ts_irem dTS_append_5 (by decide) ?_
  refine ts_if_ne (tgt := 18) dTS_append_6 rfl (fun (h6 : ¬ (tc_rem (S.1 6) 4) = 0) => ?_) (fun (h6 : (tc_rem (S.1 6) 4) = 0) => ?_)
  · have e : tc_append S key value stone = (1, tc_record S key value stone) := by simp only [tc_append, h6, ↓reduceIte]
    rw [e]
    exact cTS_append_rec G T S key value stone hI hk hs ht X
  · refine ts_aload_n dTS_append_9 rfl rfl ?_
    refine ts_callV (cTS_openPage G T S) pTS_C188.1 pTS_C188.2 rfl rfl rfl rfl ⟨Nat.le_of_ble_eq_true rfl, Nat.le_of_ble_eq_true rfl⟩ ⟨Nat.le_of_ble_eq_true rfl, Nat.le_of_ble_eq_true rfl⟩ rfl (Nat.le_of_ble_eq_true rfl) dTS_append_10 ?_
    refine ts_conv (lo' := [.ref 1, .int key, .int value, .int stone]) (st' := [.int ((tc_openPage S).1)]) (h' := tc_h G ((tc_openPage S).2) ++ T) rfl rfl rfl ?_
    refine ts_if_ne (tgt := 18) dTS_append_13 rfl (fun (h13 : ¬ ((tc_openPage S).1) = 0) => ?_) (fun (h13 : ((tc_openPage S).1) = 0) => ?_)
    · have e : tc_append S key value stone = (1, tc_record ((tc_openPage S).2) key value stone) := by simp only [tc_append, h6, h13, ↓reduceIte]
      rw [e]
      exact cTS_append_rec G T ((tc_openPage S).2) key value stone (tc_open_I hI) hk hs (tc_open_t ht) X
    · refine ts_iconst (v := 0) dTS_append_16 (by decide) ?_
      have e : tc_append S key value stone = (0, (tc_openPage S).2) := by simp only [tc_append, h6, h13, ↓reduceIte]
      exact ts_zret dTS_append_17 rfl (by decide) (tc_e1 e) (tc_e2 e)
set_option maxHeartbeats 4000000 in
set_option maxRecDepth 100000 in
theorem cTS_change (G : ts_GX) (T : List va_E) (S : tc_S) (a key value stone : Int32) (hI : tj S) (ha : ¬ a = -1 → vp_in a 400) (hk : tc_key key) (hs : stone = 0 ∨ stone = 1) : ts_M G yTS_change YTS_change [.ref 1, .int a, .int key, .int value, .int stone] (tc_h G S ++ T) (some (.int (tc_change S a key value stone).1)) (tc_h G (tc_change S a key value stone).2 ++ T) 0 0 := by
  refine ts_of rfl rfl rfl rfl rfl rfl (Nat.le_of_ble_eq_true rfl) (ts_cat1 rfl) (fun X => ?_)
  refine ts_iload_n dTS_change_0 rfl rfl ?_
  refine ts_iconst (v := -1) dTS_change_1 (by decide) ?_
  refine ts_icmp_eq (tgt := 52) dTS_change_2 rfl (fun (h2 : a = (-1)) => ?_) (fun (h2 : ¬ a = (-1)) => ?_)
  · refine ts_aload_n dTS_change_52 rfl rfl ?_
    refine ts_get pTS_F99 dTS_change_53 rfl rfl ?_
    refine ts_sipush (v := 400) dTS_change_56 (by decide) ?_
    refine ts_icmp_lt (tgt := 65) dTS_change_59 rfl (fun (h59 : (S.1 6) < 400) => ?_) (fun (h59 : ¬ (S.1 6) < 400) => ?_)
    · refine ts_aload_n dTS_change_65 rfl rfl ?_
      refine ts_iload_n dTS_change_66 rfl rfl ?_
      refine ts_iload_n dTS_change_67 rfl rfl ?_
      refine ts_iload dTS_change_68 rfl ?_
      refine ts_callV (cTS_append G T S key value stone hI hk hs (tc_nle h59)) pTS_C150.1 pTS_C150.2 rfl rfl rfl rfl ⟨Nat.le_of_ble_eq_true rfl, Nat.le_of_ble_eq_true rfl⟩ ⟨Nat.le_of_ble_eq_true rfl, Nat.le_of_ble_eq_true rfl⟩ rfl (Nat.le_of_ble_eq_true rfl) dTS_change_70 ?_
      refine ts_conv (lo' := [.ref 1, .int a, .int key, .int value, .int stone]) (st' := [.int ((tc_append S key value stone).1)]) (h' := tc_h G ((tc_append S key value stone).2) ++ T) rfl rfl rfl ?_
      refine ts_if_eq (tgt := 80) dTS_change_73 rfl (fun (h73 : ((tc_append S key value stone).1) = 0) => ?_) (fun (h73 : ¬ ((tc_append S key value stone).1) = 0) => ?_)
      · refine ts_bipush (v := -9) dTS_change_80 (by decide) ?_
        have e : tc_change S a key value stone = ((-9), (tc_append S key value stone).2) := by simp only [tc_change, tc_change1, h2, h59, h73, ↓reduceIte]
        exact ts_iret dTS_change_82 rfl (tc_e1 e) (tc_e2 e)
      · refine ts_iconst (v := 2) dTS_change_76 (by decide) ?_
        refine ts_goto (tgt := 82) dTS_change_77 rfl ?_
        have e : tc_change S a key value stone = (2, (tc_append S key value stone).2) := by simp only [tc_change, tc_change1, h2, h59, h73, ↓reduceIte]
        exact ts_iret dTS_change_82 rfl (tc_e1 e) (tc_e2 e)
    · refine ts_bipush (v := -2) dTS_change_62 (by decide) ?_
      have e : tc_change S a key value stone = ((-2), S) := by simp only [tc_change, tc_change1, h2, h59, ↓reduceIte]
      exact ts_iret dTS_change_64 rfl (tc_e1 e) (tc_e2 e)
  · refine ts_iload_n dTS_change_5 rfl rfl ?_
    refine ts_aload_n dTS_change_6 rfl rfl ?_
    refine ts_get pTS_F88 dTS_change_7 rfl rfl ?_
    refine ts_icmp_lt (tgt := 52) dTS_change_10 rfl (fun (h10 : a < (S.1 5)) => ?_) (fun (h10 : ¬ a < (S.1 5)) => ?_)
    · refine ts_aload_n dTS_change_52 rfl rfl ?_
      refine ts_get pTS_F99 dTS_change_53 rfl rfl ?_
      refine ts_sipush (v := 400) dTS_change_56 (by decide) ?_
      refine ts_icmp_lt (tgt := 65) dTS_change_59 rfl (fun (h59 : (S.1 6) < 400) => ?_) (fun (h59 : ¬ (S.1 6) < 400) => ?_)
      · refine ts_aload_n dTS_change_65 rfl rfl ?_
        refine ts_iload_n dTS_change_66 rfl rfl ?_
        refine ts_iload_n dTS_change_67 rfl rfl ?_
        refine ts_iload dTS_change_68 rfl ?_
        refine ts_callV (cTS_append G T S key value stone hI hk hs (tc_nle h59)) pTS_C150.1 pTS_C150.2 rfl rfl rfl rfl ⟨Nat.le_of_ble_eq_true rfl, Nat.le_of_ble_eq_true rfl⟩ ⟨Nat.le_of_ble_eq_true rfl, Nat.le_of_ble_eq_true rfl⟩ rfl (Nat.le_of_ble_eq_true rfl) dTS_change_70 ?_
        refine ts_conv (lo' := [.ref 1, .int a, .int key, .int value, .int stone]) (st' := [.int ((tc_append S key value stone).1)]) (h' := tc_h G ((tc_append S key value stone).2) ++ T) rfl rfl rfl ?_
        refine ts_if_eq (tgt := 80) dTS_change_73 rfl (fun (h73 : ((tc_append S key value stone).1) = 0) => ?_) (fun (h73 : ¬ ((tc_append S key value stone).1) = 0) => ?_)
        · refine ts_bipush (v := -9) dTS_change_80 (by decide) ?_
          have e : tc_change S a key value stone = ((-9), (tc_append S key value stone).2) := by simp only [tc_change, tc_change1, h2, h10, h59, h73, ↓reduceIte]
          exact ts_iret dTS_change_82 rfl (tc_e1 e) (tc_e2 e)
        · refine ts_iconst (v := 2) dTS_change_76 (by decide) ?_
          refine ts_goto (tgt := 82) dTS_change_77 rfl ?_
          have e : tc_change S a key value stone = (2, (tc_append S key value stone).2) := by simp only [tc_change, tc_change1, h2, h10, h59, h73, ↓reduceIte]
          exact ts_iret dTS_change_82 rfl (tc_e1 e) (tc_e2 e)
      · refine ts_bipush (v := -2) dTS_change_62 (by decide) ?_
        have e : tc_change S a key value stone = ((-2), S) := by simp only [tc_change, tc_change1, h2, h10, h59, ↓reduceIte]
        exact ts_iret dTS_change_64 rfl (tc_e1 e) (tc_e2 e)
    · refine ts_aload_n dTS_change_13 rfl rfl ?_
      refine ts_get pTS_F26 dTS_change_14 rfl rfl ?_
      refine ts_get pTS_F169 dTS_change_17 rfl rfl ?_
      refine ts_iload_n dTS_change_20 rfl rfl ?_
      refine ts_iald dTS_change_21 rfl (ha h2) ?_
      refine ts_aload_n dTS_change_22 rfl rfl ?_
      refine ts_get pTS_F30 dTS_change_23 rfl rfl ?_
      refine ts_icmp_ne (tgt := 52) dTS_change_26 rfl (fun (h26 : ¬ (tc_r S 4 a) = (S.1 7)) => ?_) (fun (h26 : (tc_r S 4 a) = (S.1 7)) => ?_)
      · refine ts_aload_n dTS_change_52 rfl rfl ?_
        refine ts_get pTS_F99 dTS_change_53 rfl rfl ?_
        refine ts_sipush (v := 400) dTS_change_56 (by decide) ?_
        refine ts_icmp_lt (tgt := 65) dTS_change_59 rfl (fun (h59 : (S.1 6) < 400) => ?_) (fun (h59 : ¬ (S.1 6) < 400) => ?_)
        · refine ts_aload_n dTS_change_65 rfl rfl ?_
          refine ts_iload_n dTS_change_66 rfl rfl ?_
          refine ts_iload_n dTS_change_67 rfl rfl ?_
          refine ts_iload dTS_change_68 rfl ?_
          refine ts_callV (cTS_append G T S key value stone hI hk hs (tc_nle h59)) pTS_C150.1 pTS_C150.2 rfl rfl rfl rfl ⟨Nat.le_of_ble_eq_true rfl, Nat.le_of_ble_eq_true rfl⟩ ⟨Nat.le_of_ble_eq_true rfl, Nat.le_of_ble_eq_true rfl⟩ rfl (Nat.le_of_ble_eq_true rfl) dTS_change_70 ?_
          refine ts_conv (lo' := [.ref 1, .int a, .int key, .int value, .int stone]) (st' := [.int ((tc_append S key value stone).1)]) (h' := tc_h G ((tc_append S key value stone).2) ++ T) rfl rfl rfl ?_
          refine ts_if_eq (tgt := 80) dTS_change_73 rfl (fun (h73 : ((tc_append S key value stone).1) = 0) => ?_) (fun (h73 : ¬ ((tc_append S key value stone).1) = 0) => ?_)
          · refine ts_bipush (v := -9) dTS_change_80 (by decide) ?_
            have e : tc_change S a key value stone = ((-9), (tc_append S key value stone).2) := by simp only [tc_change, tc_change1, h2, h10, h26, h59, h73, ↓reduceIte]
            exact ts_iret dTS_change_82 rfl (tc_e1 e) (tc_e2 e)
          · refine ts_iconst (v := 2) dTS_change_76 (by decide) ?_
            refine ts_goto (tgt := 82) dTS_change_77 rfl ?_
            have e : tc_change S a key value stone = (2, (tc_append S key value stone).2) := by simp only [tc_change, tc_change1, h2, h10, h26, h59, h73, ↓reduceIte]
            exact ts_iret dTS_change_82 rfl (tc_e1 e) (tc_e2 e)
        · refine ts_bipush (v := -2) dTS_change_62 (by decide) ?_
          have e : tc_change S a key value stone = ((-2), S) := by simp only [tc_change, tc_change1, h2, h10, h26, h59, ↓reduceIte]
          exact ts_iret dTS_change_64 rfl (tc_e1 e) (tc_e2 e)
      · refine ts_aload_n dTS_change_29 rfl rfl ?_
        refine ts_get pTS_F26 dTS_change_30 rfl rfl ?_
        refine ts_get pTS_F81 dTS_change_33 rfl rfl ?_
        refine ts_iload_n dTS_change_36 rfl rfl ?_
        refine ts_iload_n dTS_change_37 rfl rfl ?_
        refine ts_iast dTS_change_38 rfl (ha h2) (h' := tc_h G (tc_a S 2 a value) ++ T) (th_a2 _ _ _ _ _) ?_
        refine ts_aload_n dTS_change_39 rfl rfl ?_
        refine ts_get pTS_F26 dTS_change_40 rfl rfl ?_
        refine ts_get pTS_F172 dTS_change_43 rfl rfl ?_
        refine ts_iload_n dTS_change_46 rfl rfl ?_
        refine ts_iload dTS_change_47 rfl ?_
        refine ts_zast dTS_change_49 rfl (ha h2) (h' := tc_h G (tc_a (tc_a S 2 a value) 5 a stone) ++ T) (by rw [tc_nar hs]; exact th_a5 _ _ _ _ _) ?_
        refine ts_iconst (v := 1) dTS_change_50 (by decide) ?_
        have e : tc_change S a key value stone = (1, tc_a (tc_a S 2 a value) 5 a stone) := by simp only [tc_change, tc_change1, h2, h10, h26, ↓reduceIte]
        exact ts_iret dTS_change_51 rfl (tc_e1 e) (tc_e2 e)
set_option maxHeartbeats 4000000 in
set_option maxRecDepth 100000 in
theorem cTS_put (G : ts_GX) (T : List va_E) (S : tc_S) (key value : Int32) (hI : tj S) : ts_M G yTS_put YTS_put [.ref 1, .int key, .int value] (tc_h G S ++ T) (some (.int (tc_put S key value).1)) (tc_h G (tc_put S key value).2 ++ T) 0 0 := by
  refine ts_of rfl rfl rfl rfl rfl rfl (Nat.le_of_ble_eq_true rfl) (ts_cat1 rfl) (fun X => ?_)
  refine ts_aload_n dTS_put_0 rfl rfl ?_
  refine ts_get pTS_F12 dTS_put_1 rfl rfl ?_
  refine ts_get pTS_F62 dTS_put_4 rfl rfl ?_
  refine ts_if_eq (tgt := 13) dTS_put_7 rfl (fun (h7 : (S.1 12) = 0) => ?_) (fun (h7 : ¬ (S.1 12) = 0) => ?_)
  · refine ts_iload_n dTS_put_13 rfl rfl ?_
    refine ts_callS (cTS_isKey G T S key) pTS_C66.1 pTS_C66.2 rfl rfl ⟨Nat.le_of_ble_eq_true rfl, Nat.le_of_ble_eq_true rfl⟩ ⟨Nat.le_of_ble_eq_true rfl, Nat.le_of_ble_eq_true rfl⟩ rfl (Nat.le_of_ble_eq_true rfl) dTS_put_14 ?_
    refine ts_conv (lo' := [.ref 1, .int key, .int value]) (st' := [.int (tc_isKey key)]) (h' := tc_h G S ++ T) rfl rfl rfl ?_
    refine ts_if_ne (tgt := 22) dTS_put_17 rfl (fun (h17 : ¬ (tc_isKey key) = 0) => ?_) (fun (h17 : (tc_isKey key) = 0) => ?_)
    · refine ts_aload_n dTS_put_22 rfl rfl ?_
      refine ts_aload_n dTS_put_23 rfl rfl ?_
      refine ts_iload_n dTS_put_24 rfl rfl ?_
      refine ts_iconst (v := 1) dTS_put_25 (by decide) ?_
      refine ts_callV (cTS_find G T S key 1 hI (tc_keyOf h17)) pTS_C70.1 pTS_C70.2 rfl rfl rfl rfl ⟨Nat.le_of_ble_eq_true rfl, Nat.le_of_ble_eq_true rfl⟩ ⟨Nat.le_of_ble_eq_true rfl, Nat.le_of_ble_eq_true rfl⟩ rfl (Nat.le_of_ble_eq_true rfl) dTS_put_26 ?_
      refine ts_conv (lo' := [.ref 1, .int key, .int value]) (st' := [.int ((tc_find S key 1).1), .ref 1]) (h' := tc_h G ((tc_find S key 1).2) ++ T) rfl rfl rfl ?_
      refine ts_iload_n dTS_put_29 rfl rfl ?_
      refine ts_iload_n dTS_put_30 rfl rfl ?_
      refine ts_iconst (v := 0) dTS_put_31 (by decide) ?_
      refine ts_callV (cTS_change G T ((tc_find S key 1).2) ((tc_find S key 1).1) key value 0 (tc_find_I hI) (tc_find_in hI (tc_keyOf h17)) (tc_keyOf h17) (Or.inl rfl)) pTS_C74.1 pTS_C74.2 rfl rfl rfl rfl ⟨Nat.le_of_ble_eq_true rfl, Nat.le_of_ble_eq_true rfl⟩ ⟨Nat.le_of_ble_eq_true rfl, Nat.le_of_ble_eq_true rfl⟩ rfl (Nat.le_of_ble_eq_true rfl) dTS_put_32 ?_
      refine ts_conv (lo' := [.ref 1, .int key, .int value]) (st' := [.int ((tc_change ((tc_find S key 1).2) ((tc_find S key 1).1) key value 0).1)]) (h' := tc_h G ((tc_change ((tc_find S key 1).2) ((tc_find S key 1).1) key value 0).2) ++ T) rfl rfl rfl ?_
      have e : tc_put S key value = ((tc_change ((tc_find S key 1).2) ((tc_find S key 1).1) key value 0).1, (tc_change ((tc_find S key 1).2) ((tc_find S key 1).1) key value 0).2) := by simp only [tc_put, h7, h17, ↓reduceIte]
      exact ts_iret dTS_put_35 rfl (tc_e1 e) (tc_e2 e)
    · refine ts_iconst (v := -1) dTS_put_20 (by decide) ?_
      have e : tc_put S key value = ((-1), S) := by simp only [tc_put, h7, h17, ↓reduceIte]
      exact ts_iret dTS_put_21 rfl (tc_e1 e) (tc_e2 e)
  · refine ts_bipush (v := -9) dTS_put_10 (by decide) ?_
    have e : tc_put S key value = ((-9), S) := by simp only [tc_put, h7, ↓reduceIte]
    exact ts_iret dTS_put_12 rfl (tc_e1 e) (tc_e2 e)
