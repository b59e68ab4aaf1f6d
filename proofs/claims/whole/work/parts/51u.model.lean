set_option maxHeartbeats 4000000 in
set_option maxRecDepth 100000 in
theorem cMO_recover_loop (G : ts_GX) (S : tc_S) (X : ts_VX) : ∀ (n : Nat) (M : tc_S) (k : Int32), tc_lv (M.1 16) (M.1 17) → tm_Rc M → tm_Ri M (tc_count M) → 0 ≤ k.toInt → (tc_count M).toInt ≤ k.toInt + n → ts_V G X YMO_recover (ts_QX G X (some (.int (tm_rec2 (tm_restGo n M k)).1)) (tc_h G S ++ tm_h G ((tm_rec2 (tm_restGo n M k)).2)) 0 0) 0 0 111 [.ref 17, .int k] [] (tc_h G S ++ tm_h G M) := by
  intro n
  induction n with
  | zero =>
    intro M k hl hR him hk hn
    refine ts_iload_n dMO_recover_111 rfl rfl ?_
    refine ts_aload_n dMO_recover_112 rfl rfl ?_
    refine ts_callV (cMO_bucketCount G S M) pMO_C145.1 pMO_C145.2 rfl rfl rfl rfl ⟨Nat.le_of_ble_eq_true rfl, Nat.le_of_ble_eq_true rfl⟩ ⟨Nat.le_of_ble_eq_true rfl, Nat.le_of_ble_eq_true rfl⟩ rfl (Nat.le_of_ble_eq_true rfl) dMO_recover_113 ?_
    refine ts_conv (lo' := [.ref 17, .int k]) (st' := [.int (tc_count M), .int k]) (h' := tc_h G S ++ tm_h G M) rfl rfl rfl ?_
    refine ts_icmp_ge (tgt := 180) dMO_recover_116 rfl (fun _ => ?_) (fun (hq : ¬ (tc_count M) ≤ k) => absurd (tc_kz hn) hq)
    refine ts_aload_n dMO_recover_180 rfl rfl ?_
    refine ts_aload_n dMO_recover_181 rfl rfl ?_
    refine ts_get pMO_F29 dMO_recover_182 rfl rfl ?_
    refine ts_aload_n dMO_recover_185 rfl rfl ?_
    refine ts_get pMO_F57 dMO_recover_186 rfl rfl ?_
    refine ts_iald dMO_recover_189 rfl (tm_in2 hR.1) ?_
    refine ts_iconst (v := 2) dMO_recover_190 (by decide) ?_
    refine ts_iadd dMO_recover_191 ?_
    refine ts_put pMO_P84 dMO_recover_192 rfl (Nat.le_of_ble_eq_true rfl) rfl rfl (h' := tc_h G S ++ tm_h G (tc_f M 7 ((tc_r M 6 (M.1 18)) + 2))) (tn_f7 _ _ _ _) ?_
    refine ts_aload_n dMO_recover_195 rfl rfl ?_
    refine ts_get pMO_F29 dMO_recover_196 rfl rfl ?_
    refine ts_aload_n dMO_recover_199 rfl rfl ?_
    refine ts_get pMO_F57 dMO_recover_200 rfl rfl ?_
    refine ts_iald dMO_recover_203 rfl (tm_in2 hR.1) ?_
    exact ts_iret dMO_recover_204 rfl rfl rfl
  | succ n ih =>
    intro M k hl hR him hk hn
    refine ts_iload_n dMO_recover_111 rfl rfl ?_
    refine ts_aload_n dMO_recover_112 rfl rfl ?_
    refine ts_callV (cMO_bucketCount G S M) pMO_C145.1 pMO_C145.2 rfl rfl rfl rfl ⟨Nat.le_of_ble_eq_true rfl, Nat.le_of_ble_eq_true rfl⟩ ⟨Nat.le_of_ble_eq_true rfl, Nat.le_of_ble_eq_true rfl⟩ rfl (Nat.le_of_ble_eq_true rfl) dMO_recover_113 ?_
    refine ts_conv (lo' := [.ref 17, .int k]) (st' := [.int (tc_count M), .int k]) (h' := tc_h G S ++ tm_h G M) rfl rfl rfl ?_
    refine ts_icmp_ge (tgt := 180) dMO_recover_116 rfl (fun (h116 : (tc_count M) ≤ k) => ?_) (fun (h116 : ¬ (tc_count M) ≤ k) => ?_)
    · refine ts_aload_n dMO_recover_180 rfl rfl ?_
      refine ts_aload_n dMO_recover_181 rfl rfl ?_
      refine ts_get pMO_F29 dMO_recover_182 rfl rfl ?_
      refine ts_aload_n dMO_recover_185 rfl rfl ?_
      refine ts_get pMO_F57 dMO_recover_186 rfl rfl ?_
      refine ts_iald dMO_recover_189 rfl (tm_in2 hR.1) ?_
      refine ts_iconst (v := 2) dMO_recover_190 (by decide) ?_
      refine ts_iadd dMO_recover_191 ?_
      refine ts_put pMO_P84 dMO_recover_192 rfl (Nat.le_of_ble_eq_true rfl) rfl rfl (h' := tc_h G S ++ tm_h G (tc_f M 7 ((tc_r M 6 (M.1 18)) + 2))) (tn_f7 _ _ _ _) ?_
      refine ts_aload_n dMO_recover_195 rfl rfl ?_
      refine ts_get pMO_F29 dMO_recover_196 rfl rfl ?_
      refine ts_aload_n dMO_recover_199 rfl rfl ?_
      refine ts_get pMO_F57 dMO_recover_200 rfl rfl ?_
      refine ts_iald dMO_recover_203 rfl (tm_in2 hR.1) ?_
      have e9 : tm_restGo (n + 1) M k = M := by simp only [tm_restGo, h116, ↓reduceIte]
      rw [e9]
      exact ts_iret dMO_recover_204 rfl rfl rfl
    · refine ts_aload_n dMO_recover_119 rfl rfl ?_
      refine ts_get pMO_F47 dMO_recover_120 rfl rfl ?_
      refine ts_bipush (v := 16) dMO_recover_123 (by decide) ?_
      refine ts_aload_n dMO_recover_125 rfl rfl ?_
      refine ts_get pMO_F57 dMO_recover_126 rfl rfl ?_
      refine ts_imul dMO_recover_129 ?_
      refine ts_iload_n dMO_recover_130 rfl rfl ?_
      refine ts_iadd dMO_recover_131 ?_
      refine ts_iald dMO_recover_132 rfl (tm_ix hR.1 hk (tc_count_16 hl).2 h116) ?_
      refine ts_istore_n (lo' := [.ref 17, .int k, .int (tc_r M 12 ((16 * (M.1 18)) + k))]) dMO_recover_133 rfl (Nat.le_of_ble_eq_true rfl) (Nat.le_of_ble_eq_true rfl) rfl ?_
      refine cMO_recover_cut G S M k hR X _ 400 (tc_r M 12 (16 * M.1 18 + k)) (M.1 15) (tm_lt4 hR (tm_imC him hk h116)) (tm_imC him hk h116) ?_
      refine ts_aload_n dMO_recover_167 rfl rfl ?_
      refine ts_get pMO_F26 dMO_recover_168 rfl rfl ?_
      refine ts_iload_n dMO_recover_171 rfl rfl ?_
      refine ts_iload_n dMO_recover_172 rfl rfl ?_
      refine ts_iast dMO_recover_173 rfl (tc_in16 hk (tc_count_16 hl).2 h116) (h' := tc_h G S ++ tm_h G (tc_a (tc_f M 15 ((tm_cutGo M 400 (tc_r M 12 (16 * M.1 18 + k)) (M.1 15)).2)) 0 k ((tm_cutGo M 400 (tc_r M 12 (16 * M.1 18 + k)) (M.1 15)).1))) (tn_a0 _ _ _ _ _) ?_
      refine ts_iinc (v := k + 1) (lo' := [.ref 17, .int (k + 1), .int ((tm_cutGo M 400 (tc_r M 12 (16 * M.1 18 + k)) (M.1 15)).1)]) dMO_recover_174 rfl rfl (Nat.le_of_ble_eq_true rfl) rfl ?_
      refine ts_goto (tgt := 111) dMO_recover_177 rfl ?_
      refine ts_less 2 rfl ?_
      have e9 : tm_restGo (n + 1) M k = tm_restGo n (tm_rest1 M k) (k + 1) := by simp only [tm_restGo, h116, ↓reduceIte]
      rw [e9]
      exact ih (tm_rest1 M k) (k + 1) hl hR him (tc_kb hk h116) (tc_kn (tc_count_16 hl).2 hn h116)
