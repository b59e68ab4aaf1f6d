set_option maxHeartbeats 4000000 in
set_option maxRecDepth 100000 in
theorem cTS_restoreIndex_loop (G : ts_GX) (T : List va_E) (e : Int32) (he : e.toInt ≤ 16) (X : ts_VX) : ∀ (n : Nat) (S : tc_S) (k : Int32), tc_Rc S → tc_Ri S e → 0 ≤ k.toInt → e.toInt ≤ k.toInt + n → ts_V G X YTS_restoreIndex (ts_QX G X none (tc_h G (tc_restGo n S k e) ++ T) 0 0) 0 0 44 [.ref 1, .int e, .int k] [] (tc_h G S ++ T) := by
  intro n
  induction n with
  | zero =>
    intro S k hR him hk hn
    obtain ⟨F, A, sw⟩ := S
    cases sw with
    | false =>
      refine ts_iload_n dTS_restoreIndex_44 rfl rfl ?_
      refine ts_iload_n dTS_restoreIndex_45 rfl rfl ?_
      refine ts_icmp_ge (tgt := 80) dTS_restoreIndex_46 rfl (fun _ => ?_) (fun hq => absurd (tc_kz hn) hq)
      exact ts_vret dTS_restoreIndex_80 rfl rfl rfl
    | true =>
      refine ts_iload_n dTS_restoreIndex_44 rfl rfl ?_
      refine ts_iload_n dTS_restoreIndex_45 rfl rfl ?_
      refine ts_icmp_ge (tgt := 80) dTS_restoreIndex_46 rfl (fun _ => ?_) (fun hq => absurd (tc_kz hn) hq)
      exact ts_vret dTS_restoreIndex_80 rfl rfl rfl
  | succ n ih =>
    intro S k hR him hk hn
    obtain ⟨F, A, sw⟩ := S
    cases sw with
    | false =>
      refine ts_iload_n dTS_restoreIndex_44 rfl rfl ?_
      refine ts_iload_n dTS_restoreIndex_45 rfl rfl ?_
      refine ts_icmp_ge (tgt := 80) dTS_restoreIndex_46 rfl (fun (h46 : e ≤ k) => ?_) (fun (h46 : ¬ e ≤ k) => ?_)
      · have e9 : tc_restGo (n + 1) (F, A, false) k e = (F, A, false) := by simp only [tc_restGo, h46, ↓reduceIte]
        exact ts_vret dTS_restoreIndex_80 rfl rfl (tc_e3 e9)
      · refine ts_aload_n dTS_restoreIndex_49 rfl rfl ?_
        refine ts_get pTS_F19 dTS_restoreIndex_50 rfl rfl ?_
        refine ts_get pTS_F176 dTS_restoreIndex_53 rfl rfl ?_
        refine ts_iload_n dTS_restoreIndex_56 rfl rfl ?_
        refine ts_aload_n dTS_restoreIndex_57 rfl rfl ?_
        refine ts_aload_n dTS_restoreIndex_58 rfl rfl ?_
        refine ts_get pTS_F37 dTS_restoreIndex_59 rfl rfl ?_
        refine ts_get pTS_F105 dTS_restoreIndex_62 rfl rfl ?_
        refine ts_get pTS_F176 dTS_restoreIndex_65 rfl rfl ?_
        refine ts_iload_n dTS_restoreIndex_68 rfl rfl ?_
        refine ts_iald dTS_restoreIndex_69 rfl (tc_in16 hk he h46) ?_
        refine ts_callV (cTS_lastBelowCut G T (F, A, false) (tc_r (F, A, false) 6 k) hR (tc_imC him hk h46)) pTS_C200.1 pTS_C200.2 rfl rfl rfl rfl ⟨Nat.le_of_ble_eq_true rfl, Nat.le_of_ble_eq_true rfl⟩ ⟨Nat.le_of_ble_eq_true rfl, Nat.le_of_ble_eq_true rfl⟩ rfl (Nat.le_of_ble_eq_true rfl) dTS_restoreIndex_70 ?_
        refine ts_conv (lo' := [.ref 1, .int e, .int k]) (st' := [.int ((tc_cut (F, A, false) (tc_r (F, A, false) 6 k)).1), .int k, .ref 4]) (h' := tc_h G ((tc_cut (F, A, false) (tc_r (F, A, false) 6 k)).2) ++ T) rfl rfl rfl ?_
        refine ts_iast dTS_restoreIndex_73 rfl (tc_in16 hk he h46) (h' := tc_h G (tc_a ((tc_cut (F, A, false) (tc_r (F, A, false) 6 k)).2) 0 k ((tc_cut (F, A, false) (tc_r (F, A, false) 6 k)).1)) ++ T) (th_a0 _ _ _ _ _) ?_
        refine ts_iinc (v := k + 1) (lo' := [.ref 1, .int e, .int (k + 1)]) dTS_restoreIndex_74 rfl rfl (Nat.le_of_ble_eq_true rfl) rfl ?_
        refine ts_goto (tgt := 44) dTS_restoreIndex_77 rfl ?_
        have e9 : tc_restGo (n + 1) (F, A, false) k e = tc_restGo n (tc_a (tc_cut (F, A, false) (tc_r (F, A, false) 6 k)).2 0 k (tc_cut (F, A, false) (tc_r (F, A, false) 6 k)).1) (k + 1) e := by simp only [tc_restGo, h46, ↓reduceIte]
        rw [e9]
        exact ih (tc_a (tc_cut (F, A, false) (tc_r (F, A, false) 6 k)).2 0 k (tc_cut (F, A, false) (tc_r (F, A, false) 6 k)).1) (k + 1) hR him (tc_kb hk h46) (tc_kn he hn h46)
    | true =>
      refine ts_iload_n dTS_restoreIndex_44 rfl rfl ?_
      refine ts_iload_n dTS_restoreIndex_45 rfl rfl ?_
      refine ts_icmp_ge (tgt := 80) dTS_restoreIndex_46 rfl (fun (h46 : e ≤ k) => ?_) (fun (h46 : ¬ e ≤ k) => ?_)
      · have e9 : tc_restGo (n + 1) (F, A, true) k e = (F, A, true) := by simp only [tc_restGo, h46, ↓reduceIte]
        exact ts_vret dTS_restoreIndex_80 rfl rfl (tc_e3 e9)
      · refine ts_aload_n dTS_restoreIndex_49 rfl rfl ?_
        refine ts_get pTS_F19 dTS_restoreIndex_50 rfl rfl ?_
        refine ts_get pTS_F176 dTS_restoreIndex_53 rfl rfl ?_
        refine ts_iload_n dTS_restoreIndex_56 rfl rfl ?_
        refine ts_aload_n dTS_restoreIndex_57 rfl rfl ?_
        refine ts_aload_n dTS_restoreIndex_58 rfl rfl ?_
        refine ts_get pTS_F37 dTS_restoreIndex_59 rfl rfl ?_
        refine ts_get pTS_F105 dTS_restoreIndex_62 rfl rfl ?_
        refine ts_get pTS_F176 dTS_restoreIndex_65 rfl rfl ?_
        refine ts_iload_n dTS_restoreIndex_68 rfl rfl ?_
        refine ts_iald dTS_restoreIndex_69 rfl (tc_in16 hk he h46) ?_
        refine ts_callV (cTS_lastBelowCut G T (F, A, true) (tc_r (F, A, true) 6 k) hR (tc_imC him hk h46)) pTS_C200.1 pTS_C200.2 rfl rfl rfl rfl ⟨Nat.le_of_ble_eq_true rfl, Nat.le_of_ble_eq_true rfl⟩ ⟨Nat.le_of_ble_eq_true rfl, Nat.le_of_ble_eq_true rfl⟩ rfl (Nat.le_of_ble_eq_true rfl) dTS_restoreIndex_70 ?_
        refine ts_conv (lo' := [.ref 1, .int e, .int k]) (st' := [.int ((tc_cut (F, A, true) (tc_r (F, A, true) 6 k)).1), .int k, .ref 4]) (h' := tc_h G ((tc_cut (F, A, true) (tc_r (F, A, true) 6 k)).2) ++ T) rfl rfl rfl ?_
        refine ts_iast dTS_restoreIndex_73 rfl (tc_in16 hk he h46) (h' := tc_h G (tc_a ((tc_cut (F, A, true) (tc_r (F, A, true) 6 k)).2) 0 k ((tc_cut (F, A, true) (tc_r (F, A, true) 6 k)).1)) ++ T) (th_a0 _ _ _ _ _) ?_
        refine ts_iinc (v := k + 1) (lo' := [.ref 1, .int e, .int (k + 1)]) dTS_restoreIndex_74 rfl rfl (Nat.le_of_ble_eq_true rfl) rfl ?_
        refine ts_goto (tgt := 44) dTS_restoreIndex_77 rfl ?_
        have e9 : tc_restGo (n + 1) (F, A, true) k e = tc_restGo n (tc_a (tc_cut (F, A, true) (tc_r (F, A, true) 6 k)).2 0 k (tc_cut (F, A, true) (tc_r (F, A, true) 6 k)).1) (k + 1) e := by simp only [tc_restGo, h46, ↓reduceIte]
        rw [e9]
        exact ih (tc_a (tc_cut (F, A, true) (tc_r (F, A, true) 6 k)).2 0 k (tc_cut (F, A, true) (tc_r (F, A, true) 6 k)).1) (k + 1) hR him (tc_kb hk h46) (tc_kn he hn h46)
set_option maxHeartbeats 4000000 in
set_option maxRecDepth 100000 in
theorem cTS_restoreIndex (G : ts_GX) (T : List va_E) (S : tc_S) (hl : tc_lv (S.1 22) (S.1 23)) (hR : tc_Rc (tc_rest1 S)) (him : tc_Ri (tc_rest1 S) (tc_count (tc_rest1 S))) : ts_M G yTS_restoreIndex YTS_restoreIndex [.ref 1] (tc_h G S ++ T) none (tc_h G (tc_restore S) ++ T) 0 0 := by
  refine ts_of rfl rfl rfl rfl rfl rfl (Nat.le_of_ble_eq_true rfl) (ts_cat1 rfl) (fun X => ?_)
  obtain ⟨F, A, sw⟩ := S
  cases sw with
  | false =>
    refine ts_aload_n dTS_restoreIndex_0 rfl rfl ?_
    refine ts_get pTS_F19 dTS_restoreIndex_1 rfl rfl ?_
    refine ts_aload_n dTS_restoreIndex_4 rfl rfl ?_
    refine ts_get pTS_F37 dTS_restoreIndex_5 rfl rfl ?_
    refine ts_get pTS_F105 dTS_restoreIndex_8 rfl rfl ?_
    refine ts_get pTS_F108 dTS_restoreIndex_11 rfl rfl ?_
    refine ts_put pTS_P108 dTS_restoreIndex_14 rfl (Nat.le_of_ble_eq_true rfl) rfl rfl (h' := tc_h G (tc_f (F, A, false) 16 (F 22)) ++ T) (th_f16 _ _ _ _) ?_
    refine ts_aload_n dTS_restoreIndex_17 rfl rfl ?_
    refine ts_get pTS_F19 dTS_restoreIndex_18 rfl rfl ?_
    refine ts_aload_n dTS_restoreIndex_21 rfl rfl ?_
    refine ts_get pTS_F37 dTS_restoreIndex_22 rfl rfl ?_
    refine ts_get pTS_F105 dTS_restoreIndex_25 rfl rfl ?_
    refine ts_get pTS_F111 dTS_restoreIndex_28 rfl rfl ?_
    refine ts_put pTS_P111 dTS_restoreIndex_31 rfl (Nat.le_of_ble_eq_true rfl) rfl rfl (h' := tc_h G (tc_f (tc_f (F, A, false) 16 (F 22)) 17 (F 23)) ++ T) (th_f17 _ _ _ _) ?_
    refine ts_aload_n dTS_restoreIndex_34 rfl rfl ?_
    refine ts_get pTS_F19 dTS_restoreIndex_35 rfl rfl ?_
    refine ts_callV (cIX_count G T (tc_f (tc_f (F, A, false) 16 (F 22)) 17 (F 23))) pTS_C130.1 pTS_C130.2 rfl rfl rfl rfl ⟨Nat.le_of_ble_eq_true rfl, Nat.le_of_ble_eq_true rfl⟩ ⟨Nat.le_of_ble_eq_true rfl, Nat.le_of_ble_eq_true rfl⟩ rfl (Nat.le_of_ble_eq_true rfl) dTS_restoreIndex_38 ?_
    refine ts_conv (lo' := [.ref 1]) (st' := [.int (tc_count (tc_f (tc_f (F, A, false) 16 (F 22)) 17 (F 23)))]) (h' := tc_h G (tc_f (tc_f (F, A, false) 16 (F 22)) 17 (F 23)) ++ T) rfl rfl rfl ?_
    refine ts_istore_n (lo' := [.ref 1, .int (tc_count (tc_f (tc_f (F, A, false) 16 (F 22)) 17 (F 23)))]) dTS_restoreIndex_41 rfl (Nat.le_of_ble_eq_true rfl) (Nat.le_of_ble_eq_true rfl) rfl ?_
    refine ts_iconst (v := 0) dTS_restoreIndex_42 (by decide) ?_
    refine ts_istore_n (lo' := [.ref 1, .int (tc_count (tc_f (tc_f (F, A, false) 16 (F 22)) 17 (F 23))), .int 0]) dTS_restoreIndex_43 rfl (Nat.le_of_ble_eq_true rfl) (Nat.le_of_ble_eq_true rfl) rfl ?_
    exact cTS_restoreIndex_loop G T _ (tc_count_16 (S := tc_rest1 (F, A, false)) hl).2 X 17 _ 0 hR him (by decide) (tc_cn17 (tc_count_16 (S := tc_rest1 (F, A, false)) hl).2)
  | true =>
    refine ts_aload_n dTS_restoreIndex_0 rfl rfl ?_
    refine ts_get pTS_F19 dTS_restoreIndex_1 rfl rfl ?_
    refine ts_aload_n dTS_restoreIndex_4 rfl rfl ?_
    refine ts_get pTS_F37 dTS_restoreIndex_5 rfl rfl ?_
    refine ts_get pTS_F105 dTS_restoreIndex_8 rfl rfl ?_
    refine ts_get pTS_F108 dTS_restoreIndex_11 rfl rfl ?_
    refine ts_put pTS_P108 dTS_restoreIndex_14 rfl (Nat.le_of_ble_eq_true rfl) rfl rfl (h' := tc_h G (tc_f (F, A, true) 16 (F 22)) ++ T) (th_f16 _ _ _ _) ?_
    refine ts_aload_n dTS_restoreIndex_17 rfl rfl ?_
    refine ts_get pTS_F19 dTS_restoreIndex_18 rfl rfl ?_
    refine ts_aload_n dTS_restoreIndex_21 rfl rfl ?_
    refine ts_get pTS_F37 dTS_restoreIndex_22 rfl rfl ?_
    refine ts_get pTS_F105 dTS_restoreIndex_25 rfl rfl ?_
    refine ts_get pTS_F111 dTS_restoreIndex_28 rfl rfl ?_
    refine ts_put pTS_P111 dTS_restoreIndex_31 rfl (Nat.le_of_ble_eq_true rfl) rfl rfl (h' := tc_h G (tc_f (tc_f (F, A, true) 16 (F 22)) 17 (F 23)) ++ T) (th_f17 _ _ _ _) ?_
    refine ts_aload_n dTS_restoreIndex_34 rfl rfl ?_
    refine ts_get pTS_F19 dTS_restoreIndex_35 rfl rfl ?_
    refine ts_callV (cIX_count G T (tc_f (tc_f (F, A, true) 16 (F 22)) 17 (F 23))) pTS_C130.1 pTS_C130.2 rfl rfl rfl rfl ⟨Nat.le_of_ble_eq_true rfl, Nat.le_of_ble_eq_true rfl⟩ ⟨Nat.le_of_ble_eq_true rfl, Nat.le_of_ble_eq_true rfl⟩ rfl (Nat.le_of_ble_eq_true rfl) dTS_restoreIndex_38 ?_
    refine ts_conv (lo' := [.ref 1]) (st' := [.int (tc_count (tc_f (tc_f (F, A, true) 16 (F 22)) 17 (F 23)))]) (h' := tc_h G (tc_f (tc_f (F, A, true) 16 (F 22)) 17 (F 23)) ++ T) rfl rfl rfl ?_
    refine ts_istore_n (lo' := [.ref 1, .int (tc_count (tc_f (tc_f (F, A, true) 16 (F 22)) 17 (F 23)))]) dTS_restoreIndex_41 rfl (Nat.le_of_ble_eq_true rfl) (Nat.le_of_ble_eq_true rfl) rfl ?_
    refine ts_iconst (v := 0) dTS_restoreIndex_42 (by decide) ?_
    refine ts_istore_n (lo' := [.ref 1, .int (tc_count (tc_f (tc_f (F, A, true) 16 (F 22)) 17 (F 23))), .int 0]) dTS_restoreIndex_43 rfl (Nat.le_of_ble_eq_true rfl) (Nat.le_of_ble_eq_true rfl) rfl ?_
    exact cTS_restoreIndex_loop G T _ (tc_count_16 (S := tc_rest1 (F, A, true)) hl).2 X 17 _ 0 hR him (by decide) (tc_cn17 (tc_count_16 (S := tc_rest1 (F, A, true)) hl).2)
