set_option maxHeartbeats 4000000 in
set_option maxRecDepth 100000 in
theorem cMO_compact_loop (G : ts_GX) (S : tc_S) (e : Int32) (he : e.toInt ≤ 400) (X : ts_VX) : ∀ (n : Nat) (M : tc_S) (a c : Int32), tj M → M.1 12 = 0 → 0 ≤ a.toInt → a.toInt ≤ e.toInt → e.toInt < a.toInt + n → (M.1 6).toInt + (e.toInt - a.toInt) ≤ 400 → ts_V G X YMO_compact (ts_QX G X (some (.int (tc_compactGo n M a e c).1)) (tc_h G S ++ tm_h G ((tc_compactGo n M a e c).2)) 0 0) 0 0 49 [.ref 17, .int e, .int c, .int a] [] (tc_h G S ++ tm_h G M) := by
  intro n
  induction n with
  | zero =>
    intro M a c hJ h12 ha hae hn ht
    exact absurd hn (by omega)
  | succ n ih =>
    intro M a c hJ h12 ha hae hn ht
    refine ts_iload_n dMO_compact_49 rfl rfl ?_
    refine ts_iload_n dMO_compact_50 rfl rfl ?_
    refine ts_icmp_ge (tgt := 120) dMO_compact_51 rfl (fun (h51 : e ≤ a) => ?_) (fun (h51 : ¬ e ≤ a) => ?_)
    · refine ts_aload_n dMO_compact_120 rfl rfl ?_
      refine ts_iload_n dMO_compact_121 rfl rfl ?_
      refine ts_put pMO_P63 dMO_compact_122 rfl (Nat.le_of_ble_eq_true rfl) rfl rfl (h' := tc_h G S ++ tm_h G (tc_f M 2 e)) (tn_f2 _ _ _ _) ?_
      refine ts_iload_n dMO_compact_125 rfl rfl ?_
      have e9 : tc_compactGo (n + 1) M a e c = (c, tc_f M 2 e) := by simp only [tc_compactGo, tm_il ha, tm_10, h51, ↓reduceIte]
      exact ts_iret dMO_compact_126 rfl (tc_e1 e9) (tm_e2 e9)
    · refine ts_aload_n dMO_compact_54 rfl rfl ?_
      refine ts_dup dMO_compact_55 rfl ?_
      refine ts_get pMO_F91 dMO_compact_56 rfl rfl ?_
      refine ts_iconst (v := 1) dMO_compact_59 (by decide) ?_
      refine ts_iadd dMO_compact_60 ?_
      refine ts_put pMO_P91 dMO_compact_61 rfl (Nat.le_of_ble_eq_true rfl) rfl rfl (h' := tc_h G S ++ tm_h G (tc_f M 15 ((M.1 15) + 1))) (tn_f15 _ _ _ _) ?_
      refine ts_aload_n dMO_compact_64 rfl rfl ?_
      refine ts_aload_n dMO_compact_65 rfl rfl ?_
      refine ts_get pMO_F7 dMO_compact_66 rfl rfl ?_
      refine ts_iload_n dMO_compact_69 rfl rfl ?_
      refine ts_iald dMO_compact_70 rfl (tc_inP ha he h51) ?_
      refine ts_iconst (v := 0) dMO_compact_71 (by decide) ?_
      refine ts_callV (cMO_find G S (tc_f M 15 ((M.1 15) + 1)) (tc_r M 1 a) 0 (tc_rd_I hJ) (hJ.ky _)) pMO_C125.1 pMO_C125.2 rfl rfl rfl rfl ⟨Nat.le_of_ble_eq_true rfl, Nat.le_of_ble_eq_true rfl⟩ ⟨Nat.le_of_ble_eq_true rfl, Nat.le_of_ble_eq_true rfl⟩ rfl (Nat.le_of_ble_eq_true rfl) dMO_compact_72 ?_
      refine ts_conv (lo' := [.ref 17, .int e, .int c, .int a]) (st' := [.int ((tc_find0 (tc_f M 15 ((M.1 15) + 1)) (tc_r M 1 a) 0).1)]) (h' := tc_h G S ++ tm_h G (tc_f M 15 ((M.1 15) + 1))) rfl rfl (by rw [tc_find_same]) ?_
      refine ts_iload_n dMO_compact_75 rfl rfl ?_
      refine ts_icmp_ne (tgt := 114) dMO_compact_76 rfl (fun (h76 : ¬ ((tc_find0 (tc_f M 15 ((M.1 15) + 1)) (tc_r M 1 a) 0).1) = a) => ?_) (fun (h76 : ((tc_find0 (tc_f M 15 ((M.1 15) + 1)) (tc_r M 1 a) 0).1) = a) => ?_)
      · refine ts_iinc (v := a + 1) (lo' := [.ref 17, .int e, .int c, .int (a + 1)]) dMO_compact_114 rfl rfl (Nat.le_of_ble_eq_true rfl) rfl ?_
        refine ts_goto (tgt := 49) dMO_compact_117 rfl ?_
        have e9 : tc_compactGo (n + 1) M a e c = tc_compactGo n (tc_f M 15 ((M.1 15) + 1)) (a + 1) e c := by simp only [tc_compactGo, tm_il ha, tm_10, h51, h76, ↓reduceIte]
        rw [e9]
        exact ih _ _ _ (tc_rd_I hJ) h12 (tc_kb ha h51) (tc_ka h51) (tc_cn hn h51) (tc_ct1 ht h51)
      · refine ts_aload_n dMO_compact_79 rfl rfl ?_
        refine ts_get pMO_F22 dMO_compact_80 rfl rfl ?_
        refine ts_iload_n dMO_compact_83 rfl rfl ?_
        refine ts_zald dMO_compact_84 rfl (tc_inP ha he h51) ?_
        refine ts_if_ne (tgt := 114) dMO_compact_85 rfl (fun (h85 : ¬ (tc_r M 5 a) = 0) => ?_) (fun (h85 : (tc_r M 5 a) = 0) => ?_)
        · refine ts_iinc (v := a + 1) (lo' := [.ref 17, .int e, .int c, .int (a + 1)]) dMO_compact_114 rfl rfl (Nat.le_of_ble_eq_true rfl) rfl ?_
          refine ts_goto (tgt := 49) dMO_compact_117 rfl ?_
          have e9 : tc_compactGo (n + 1) M a e c = tc_compactGo n (tc_f M 15 ((M.1 15) + 1)) (a + 1) e c := by simp only [tc_compactGo, tm_il ha, tm_10, h51, h76, h85, ↓reduceIte]
          rw [e9]
          exact ih _ _ _ (tc_rd_I hJ) h12 (tc_kb ha h51) (tc_ka h51) (tc_cn hn h51) (tc_ct1 ht h51)
        · refine ts_aload_n dMO_compact_88 rfl rfl ?_
          refine ts_aload_n dMO_compact_89 rfl rfl ?_
          refine ts_get pMO_F7 dMO_compact_90 rfl rfl ?_
          refine ts_iload_n dMO_compact_93 rfl rfl ?_
          refine ts_iald dMO_compact_94 rfl (tc_inP ha he h51) ?_
          refine ts_aload_n dMO_compact_95 rfl rfl ?_
          refine ts_get pMO_F13 dMO_compact_96 rfl rfl ?_
          refine ts_iload_n dMO_compact_99 rfl rfl ?_
          refine ts_iald dMO_compact_100 rfl (tc_inP ha he h51) ?_
          refine ts_iconst (v := 0) dMO_compact_101 (by decide) ?_
          refine ts_callV (cMO_append G S (tc_f M 15 ((M.1 15) + 1)) (tc_r M 1 a) (tc_r M 2 a) 0 (tc_rd_I hJ) h12 (hJ.ky _) (Or.inl rfl) (tc_ct (S := M) ht h51)) pMO_C118.1 pMO_C118.2 rfl rfl rfl rfl ⟨Nat.le_of_ble_eq_true rfl, Nat.le_of_ble_eq_true rfl⟩ ⟨Nat.le_of_ble_eq_true rfl, Nat.le_of_ble_eq_true rfl⟩ rfl (Nat.le_of_ble_eq_true rfl) dMO_compact_102 ?_
          refine ts_conv (lo' := [.ref 17, .int e, .int c, .int a]) (st' := [.int ((tc_append (tc_f M 15 ((M.1 15) + 1)) (tc_r M 1 a) (tc_r M 2 a) 0).1)]) (h' := tc_h G S ++ tm_h G ((tc_append (tc_f M 15 ((M.1 15) + 1)) (tc_r M 1 a) (tc_r M 2 a) 0).2)) rfl rfl rfl ?_
          refine ts_if_ne (tgt := 111) dMO_compact_105 rfl (fun (h105 : ¬ ((tc_append (tc_f M 15 ((M.1 15) + 1)) (tc_r M 1 a) (tc_r M 2 a) 0).1) = 0) => ?_) (fun (h105 : ((tc_append (tc_f M 15 ((M.1 15) + 1)) (tc_r M 1 a) (tc_r M 2 a) 0).1) = 0) => ?_)
          · refine ts_iinc (v := c + 1) (lo' := [.ref 17, .int e, .int (c + 1), .int a]) dMO_compact_111 rfl rfl (Nat.le_of_ble_eq_true rfl) rfl ?_
            refine ts_iinc (v := a + 1) (lo' := [.ref 17, .int e, .int (c + 1), .int (a + 1)]) dMO_compact_114 rfl rfl (Nat.le_of_ble_eq_true rfl) rfl ?_
            refine ts_goto (tgt := 49) dMO_compact_117 rfl ?_
            have e9 : tc_compactGo (n + 1) M a e c = tc_compactGo n ((tc_append (tc_f M 15 ((M.1 15) + 1)) (tc_r M 1 a) (tc_r M 2 a) 0).2) (a + 1) e (c + 1) := by simp only [tc_compactGo, tm_il ha, tm_10, h51, h76, h85, h105, ↓reduceIte]
            rw [e9]
            exact ih _ _ _ (tj_append (tc_rd_I hJ) (hJ.ky _) (tc_ct (S := M) ht h51) (fun q => absurd rfl q)) (tm_app_up h12 h105) (tc_kb ha h51) (tc_ka h51) (tc_cn hn h51) (tc_ct2 ht h51)
          · refine ts_bipush (v := -9) dMO_compact_108 (by decide) ?_
            have e9 : tc_compactGo (n + 1) M a e c = ((-9), (tc_append (tc_f M 15 ((M.1 15) + 1)) (tc_r M 1 a) (tc_r M 2 a) 0).2) := by simp only [tc_compactGo, tm_il ha, tm_10, h51, h76, h85, h105, ↓reduceIte]
            exact ts_iret dMO_compact_110 rfl (tc_e1 e9) (tm_e2 e9)
