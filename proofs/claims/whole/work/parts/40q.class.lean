set_option maxHeartbeats 4000000 in
set_option maxRecDepth 100000 in
theorem cTS_compact_loop (G : ts_GX) (T : List va_E) (e : Int32) (he : e.toInt ≤ 400) (X : ts_VX) : ∀ (n : Nat) (S : tc_S) (a c : Int32), tj S → 0 ≤ a.toInt → a.toInt ≤ e.toInt → e.toInt < a.toInt + n → (S.1 6).toInt + (e.toInt - a.toInt) ≤ 400 → ts_V G X YTS_compact (ts_QX G X (some (.int (tc_compactGo n S a e c).1)) (tc_h G (tc_compactGo n S a e c).2 ++ T) 0 0) 0 0 52 [.ref 1, .int e, .int c, .int a] [] (tc_h G S ++ T) := by
  intro n
  induction n with
  | zero =>
    intro S a c hI ha hae hn ht
    exact absurd hn (by omega)
  | succ n ih =>
    intro S a c hI ha hae hn ht
    refine ts_iload_n dTS_compact_52 rfl rfl ?_
    refine ts_iload_n dTS_compact_53 rfl rfl ?_
    refine ts_icmp_ge (tgt := 116) dTS_compact_54 rfl (fun (h54 : e ≤ a) => ?_) (fun (h54 : ¬ e ≤ a) => ?_)
    · refine ts_aload_n dTS_compact_116 rfl rfl ?_
      refine ts_iload_n dTS_compact_117 rfl rfl ?_
      refine ts_put pTS_P95 dTS_compact_118 rfl (Nat.le_of_ble_eq_true rfl) rfl rfl (h' := tc_h G (tc_f S 2 e) ++ T) (th_f2 _ _ _ _) ?_
      refine ts_iload_n dTS_compact_121 rfl rfl ?_
      have e9 : tc_compactGo (n + 1) S a e c = (c, tc_f S 2 e) := by simp only [tc_compactGo, h54, ↓reduceIte]
      exact ts_iret dTS_compact_122 rfl (tc_e1 e9) (tc_e2 e9)
    · refine ts_aload_n dTS_compact_57 rfl rfl ?_
      refine ts_get pTS_F12 dTS_compact_58 rfl rfl ?_
      refine ts_dup dTS_compact_61 rfl ?_
      refine ts_get pTS_F141 dTS_compact_62 rfl rfl ?_
      refine ts_iconst (v := 1) dTS_compact_65 (by decide) ?_
      refine ts_iadd dTS_compact_66 ?_
      refine ts_put pTS_P141 dTS_compact_67 rfl (Nat.le_of_ble_eq_true rfl) rfl rfl (h' := tc_h G (tc_f S 15 ((S.1 15) + 1)) ++ T) (th_f15 _ _ _ _) ?_
      refine ts_aload_n dTS_compact_70 rfl rfl ?_
      refine ts_iload_n dTS_compact_71 rfl rfl ?_
      refine ts_callV (cTS_isLatest G T (tc_f S 15 ((S.1 15) + 1)) a (tc_rd_I hI) (tc_inP ha he h54)) pTS_C144.1 pTS_C144.2 rfl rfl rfl rfl ⟨Nat.le_of_ble_eq_true rfl, Nat.le_of_ble_eq_true rfl⟩ ⟨Nat.le_of_ble_eq_true rfl, Nat.le_of_ble_eq_true rfl⟩ rfl (Nat.le_of_ble_eq_true rfl) dTS_compact_72 ?_
      refine ts_conv (lo' := [.ref 1, .int e, .int c, .int a]) (st' := [.int (tc_isLatest (tc_f S 15 ((S.1 15) + 1)) a)]) (h' := tc_h G (tc_f S 15 ((S.1 15) + 1)) ++ T) rfl rfl rfl ?_
      refine ts_if_eq (tgt := 110) dTS_compact_75 rfl (fun (h75 : (tc_isLatest (tc_f S 15 ((S.1 15) + 1)) a) = 0) => ?_) (fun (h75 : ¬ (tc_isLatest (tc_f S 15 ((S.1 15) + 1)) a) = 0) => ?_)
      · refine ts_iinc (v := a + 1) (lo' := [.ref 1, .int e, .int c, .int (a + 1)]) dTS_compact_110 rfl rfl (Nat.le_of_ble_eq_true rfl) rfl ?_
        refine ts_goto (tgt := 52) dTS_compact_113 rfl ?_
        have e9 : tc_compactGo (n + 1) S a e c = tc_compactGo n (tc_f S 15 ((S.1 15) + 1)) (a + 1) e c := by simp only [tc_compactGo, h54, h75, ↓reduceIte]
        rw [e9]
        exact ih _ _ _ (tc_rd_I hI) (tc_kb ha h54) (tc_ka h54) (tc_cn hn h54) (tc_ct1 ht h54)
      · refine ts_aload_n dTS_compact_78 rfl rfl ?_
        refine ts_aload_n dTS_compact_79 rfl rfl ?_
        refine ts_get pTS_F26 dTS_compact_80 rfl rfl ?_
        refine ts_get pTS_F147 dTS_compact_83 rfl rfl ?_
        refine ts_iload_n dTS_compact_86 rfl rfl ?_
        refine ts_iald dTS_compact_87 rfl (tc_inP ha he h54) ?_
        refine ts_aload_n dTS_compact_88 rfl rfl ?_
        refine ts_get pTS_F26 dTS_compact_89 rfl rfl ?_
        refine ts_get pTS_F81 dTS_compact_92 rfl rfl ?_
        refine ts_iload_n dTS_compact_95 rfl rfl ?_
        refine ts_iald dTS_compact_96 rfl (tc_inP ha he h54) ?_
        refine ts_iconst (v := 0) dTS_compact_97 (by decide) ?_
        refine ts_callV (cTS_append G T (tc_f S 15 ((S.1 15) + 1)) (tc_r S 1 a) (tc_r S 2 a) 0 (tc_rd_I hI) (hI.ky _) (Or.inl rfl) (tc_ct (S := S) ht h54)) pTS_C150.1 pTS_C150.2 rfl rfl rfl rfl ⟨Nat.le_of_ble_eq_true rfl, Nat.le_of_ble_eq_true rfl⟩ ⟨Nat.le_of_ble_eq_true rfl, Nat.le_of_ble_eq_true rfl⟩ rfl (Nat.le_of_ble_eq_true rfl) dTS_compact_98 ?_
        refine ts_conv (lo' := [.ref 1, .int e, .int c, .int a]) (st' := [.int ((tc_append (tc_f S 15 ((S.1 15) + 1)) (tc_r S 1 a) (tc_r S 2 a) 0).1)]) (h' := tc_h G ((tc_append (tc_f S 15 ((S.1 15) + 1)) (tc_r S 1 a) (tc_r S 2 a) 0).2) ++ T) rfl rfl rfl ?_
        refine ts_if_ne (tgt := 107) dTS_compact_101 rfl (fun (h101 : ¬ ((tc_append (tc_f S 15 ((S.1 15) + 1)) (tc_r S 1 a) (tc_r S 2 a) 0).1) = 0) => ?_) (fun (h101 : ((tc_append (tc_f S 15 ((S.1 15) + 1)) (tc_r S 1 a) (tc_r S 2 a) 0).1) = 0) => ?_)
        · refine ts_iinc (v := c + 1) (lo' := [.ref 1, .int e, .int (c + 1), .int a]) dTS_compact_107 rfl rfl (Nat.le_of_ble_eq_true rfl) rfl ?_
          refine ts_iinc (v := a + 1) (lo' := [.ref 1, .int e, .int (c + 1), .int (a + 1)]) dTS_compact_110 rfl rfl (Nat.le_of_ble_eq_true rfl) rfl ?_
          refine ts_goto (tgt := 52) dTS_compact_113 rfl ?_
          have e9 : tc_compactGo (n + 1) S a e c = tc_compactGo n ((tc_append (tc_f S 15 ((S.1 15) + 1)) (tc_r S 1 a) (tc_r S 2 a) 0).2) (a + 1) e (c + 1) := by simp only [tc_compactGo, h54, h75, h101, ↓reduceIte]
          rw [e9]
          exact ih _ _ _ (tj_append (tc_rd_I hI) (hI.ky _) (tc_ct (S := S) ht h54) (fun q => absurd rfl q)) (tc_kb ha h54) (tc_ka h54) (tc_cn hn h54) (tc_ct2 ht h54)
        · refine ts_bipush (v := -9) dTS_compact_104 (by decide) ?_
          have e9 : tc_compactGo (n + 1) S a e c = ((-9), (tc_append (tc_f S 15 ((S.1 15) + 1)) (tc_r S 1 a) (tc_r S 2 a) 0).2) := by simp only [tc_compactGo, h54, h75, h101, ↓reduceIte]
          exact ts_iret dTS_compact_106 rfl (tc_e1 e9) (tc_e2 e9)
set_option maxHeartbeats 4000000 in
set_option maxRecDepth 100000 in
theorem cTS_compact (G : ts_GX) (T : List va_E) (S : tc_S) (hI : tj S) : ts_M G yTS_compact YTS_compact [.ref 1] (tc_h G S ++ T) (some (.int (tc_compact S).1)) (tc_h G (tc_compact S).2 ++ T) 0 0 := by
  refine ts_of rfl rfl rfl rfl rfl rfl (Nat.le_of_ble_eq_true rfl) (ts_cat1 rfl) (fun X => ?_)
  refine ts_aload_n dTS_compact_0 rfl rfl ?_
  refine ts_get pTS_F12 dTS_compact_1 rfl rfl ?_
  refine ts_get pTS_F62 dTS_compact_4 rfl rfl ?_
  refine ts_if_eq (tgt := 13) dTS_compact_7 rfl (fun (h7 : (S.1 12) = 0) => ?_) (fun (h7 : ¬ (S.1 12) = 0) => ?_)
  · refine ts_aload_n dTS_compact_13 rfl rfl ?_
    refine ts_get pTS_F95 dTS_compact_14 rfl rfl ?_
    refine ts_callS (cTS_pageEnd G T S (S.1 2)) pTS_C137.1 pTS_C137.2 rfl rfl ⟨Nat.le_of_ble_eq_true rfl, Nat.le_of_ble_eq_true rfl⟩ ⟨Nat.le_of_ble_eq_true rfl, Nat.le_of_ble_eq_true rfl⟩ rfl (Nat.le_of_ble_eq_true rfl) dTS_compact_17 ?_
    refine ts_conv (lo' := [.ref 1]) (st' := [.int (tc_pageEnd (S.1 2))]) (h' := tc_h G S ++ T) rfl rfl rfl ?_
    refine ts_istore_n (lo' := [.ref 1, .int (tc_pageEnd (S.1 2))]) dTS_compact_20 rfl (Nat.le_of_ble_eq_true rfl) (Nat.le_of_ble_eq_true rfl) rfl ?_
    refine ts_iload_n dTS_compact_21 rfl rfl ?_
    refine ts_aload_n dTS_compact_22 rfl rfl ?_
    refine ts_get pTS_F91 dTS_compact_23 rfl rfl ?_
    refine ts_icmp_le (tgt := 32) dTS_compact_26 rfl (fun (h26 : (tc_pageEnd (S.1 2)) ≤ (S.1 3)) => ?_) (fun (h26 : ¬ (tc_pageEnd (S.1 2)) ≤ (S.1 3)) => ?_)
    · refine ts_aload_n dTS_compact_32 rfl rfl ?_
      refine ts_get pTS_F99 dTS_compact_33 rfl rfl ?_
      refine ts_sipush (v := 396) dTS_compact_36 (by decide) ?_
      refine ts_icmp_le (tgt := 45) dTS_compact_39 rfl (fun (h39 : (S.1 6) ≤ 396) => ?_) (fun (h39 : ¬ (S.1 6) ≤ 396) => ?_)
      · refine ts_iconst (v := 0) dTS_compact_45 (by decide) ?_
        refine ts_istore_n (lo' := [.ref 1, .int (tc_pageEnd (S.1 2)), .int 0]) dTS_compact_46 rfl (Nat.le_of_ble_eq_true rfl) (Nat.le_of_ble_eq_true rfl) rfl ?_
        refine ts_aload_n dTS_compact_47 rfl rfl ?_
        refine ts_get pTS_F95 dTS_compact_48 rfl rfl ?_
        refine ts_istore_n (lo' := [.ref 1, .int (tc_pageEnd (S.1 2)), .int 0, .int (S.1 2)]) dTS_compact_51 rfl (Nat.le_of_ble_eq_true rfl) (Nat.le_of_ble_eq_true rfl) rfl ?_
        have e9 : tc_compact S = tc_compactGo 5 S (S.1 2) (tc_pageEnd (S.1 2)) 0 := by simp only [tc_compact, h7, h26, h39, ↓reduceIte]
        rw [e9]
        exact cTS_compact_loop G T _ (tc_pe400 hI h26) X 5 S _ _ hI (tc_begin0 hI) (tc_pe0 hI) (tc_pe5 hI) (tc_pe396 hI h39)
      · refine ts_bipush (v := -2) dTS_compact_42 (by decide) ?_
        have e : tc_compact S = ((-2), S) := by simp only [tc_compact, h7, h26, h39, ↓reduceIte]
        exact ts_iret dTS_compact_44 rfl (tc_e1 e) (tc_e2 e)
    · refine ts_bipush (v := -3) dTS_compact_29 (by decide) ?_
      have e : tc_compact S = ((-3), S) := by simp only [tc_compact, h7, h26, ↓reduceIte]
      exact ts_iret dTS_compact_31 rfl (tc_e1 e) (tc_e2 e)
  · refine ts_bipush (v := -9) dTS_compact_10 (by decide) ?_
    have e : tc_compact S = ((-9), S) := by simp only [tc_compact, h7, ↓reduceIte]
    exact ts_iret dTS_compact_12 rfl (tc_e1 e) (tc_e2 e)
set_option maxHeartbeats 4000000 in
set_option maxRecDepth 100000 in
theorem cTS_step (G : ts_GX) (T : List va_E) (S : tc_S) (hI : tj S) : ts_M G yTS_step YTS_step [.ref 1] (tc_h G S ++ T) (some (.int (tc_step S).1)) (tc_h G (tc_step S).2 ++ T) 0 0 := by
  refine ts_of rfl rfl rfl rfl rfl rfl (Nat.le_of_ble_eq_true rfl) (ts_cat1 rfl) (fun X => ?_)
  refine ts_aload_n dTS_step_0 rfl rfl ?_
  refine ts_get pTS_F12 dTS_step_1 rfl rfl ?_
  refine ts_get pTS_F62 dTS_step_4 rfl rfl ?_
  refine ts_if_eq (tgt := 13) dTS_step_7 rfl (fun (h7 : (S.1 12) = 0) => ?_) (fun (h7 : ¬ (S.1 12) = 0) => ?_)
  · refine ts_aload_n dTS_step_13 rfl rfl ?_
    refine ts_get pTS_F44 dTS_step_14 rfl rfl ?_
    refine ts_istore_n (lo' := [.ref 1, .int (S.1 9)]) dTS_step_17 rfl (Nat.le_of_ble_eq_true rfl) (Nat.le_of_ble_eq_true rfl) rfl ?_
    refine ts_iload_n dTS_step_18 rfl rfl ?_
    by_cases h19_1 : (S.1 9) = 1
    · refine ts_tableIn (tgt := 44) dTS_step_19 (by rw [h19_1]; decide) (by rw [h19_1]; decide) (by rw [h19_1]; rfl) rfl ?_
      refine ts_aload_n dTS_step_44 rfl rfl ?_
      refine ts_callV (cTS_writeImageBlock G T S hI) pTS_C120.1 pTS_C120.2 rfl rfl rfl rfl ⟨Nat.le_of_ble_eq_true rfl, Nat.le_of_ble_eq_true rfl⟩ ⟨Nat.le_of_ble_eq_true rfl, Nat.le_of_ble_eq_true rfl⟩ rfl (Nat.le_of_ble_eq_true rfl) dTS_step_45 ?_
      refine ts_conv (lo' := [.ref 1, .int (S.1 9)]) (st' := [.int ((tc_writeImage S).1)]) (h' := tc_h G ((tc_writeImage S).2) ++ T) rfl rfl rfl ?_
      refine ts_if_eq (tgt := 55) dTS_step_48 rfl (fun (h48 : ((tc_writeImage S).1) = 0) => ?_) (fun (h48 : ¬ ((tc_writeImage S).1) = 0) => ?_)
      · refine ts_bipush (v := -9) dTS_step_55 (by decide) ?_
        have e : tc_step S = ((-9), (tc_writeImage S).2) := by simp only [tc_step, tz_d10, tz_d20, tz_d21, tz_d30, tz_d31, tz_d32, h7, h19_1, h48, ↓reduceIte]
        exact ts_iret dTS_step_57 rfl (tc_e1 e) (tc_e2 e)
      · refine ts_iload_n dTS_step_51 rfl rfl ?_
        refine ts_goto (tgt := 57) dTS_step_52 rfl ?_
        have e : tc_step S = (S.1 9, (tc_writeImage S).2) := by simp only [tc_step, tz_d10, tz_d20, tz_d21, tz_d30, tz_d31, tz_d32, h7, h19_1, h48, ↓reduceIte]
        exact ts_iret dTS_step_57 rfl (tc_e1 e) (tc_e2 e)
    by_cases h19_2 : (S.1 9) = 2
    · refine ts_tableIn (tgt := 58) dTS_step_19 (by rw [h19_2]; decide) (by rw [h19_2]; decide) (by rw [h19_2]; rfl) rfl ?_
      refine ts_aload_n dTS_step_58 rfl rfl ?_
      refine ts_callV (cTS_flushTowardsEnd G T S) pTS_C124.1 pTS_C124.2 rfl rfl rfl rfl ⟨Nat.le_of_ble_eq_true rfl, Nat.le_of_ble_eq_true rfl⟩ ⟨Nat.le_of_ble_eq_true rfl, Nat.le_of_ble_eq_true rfl⟩ rfl (Nat.le_of_ble_eq_true rfl) dTS_step_59 ?_
      refine ts_conv (lo' := [.ref 1, .int (S.1 9)]) (st' := [.int ((tc_flushEnd S).1)]) (h' := tc_h G ((tc_flushEnd S).2) ++ T) rfl rfl rfl ?_
      refine ts_if_eq (tgt := 69) dTS_step_62 rfl (fun (h62 : ((tc_flushEnd S).1) = 0) => ?_) (fun (h62 : ¬ ((tc_flushEnd S).1) = 0) => ?_)
      · refine ts_bipush (v := -9) dTS_step_69 (by decide) ?_
        have e : tc_step S = ((-9), (tc_flushEnd S).2) := by simp only [tc_step, tz_d10, tz_d20, tz_d21, tz_d30, tz_d31, tz_d32, h7, h19_2, h62, ↓reduceIte]
        exact ts_iret dTS_step_71 rfl (tc_e1 e) (tc_e2 e)
      · refine ts_iload_n dTS_step_65 rfl rfl ?_
        refine ts_goto (tgt := 71) dTS_step_66 rfl ?_
        have e : tc_step S = (S.1 9, (tc_flushEnd S).2) := by simp only [tc_step, tz_d10, tz_d20, tz_d21, tz_d30, tz_d31, tz_d32, h7, h19_2, h62, ↓reduceIte]
        exact ts_iret dTS_step_71 rfl (tc_e1 e) (tc_e2 e)
    by_cases h19_3 : (S.1 9) = 3
    · refine ts_tableIn (tgt := 72) dTS_step_19 (by rw [h19_3]; decide) (by rw [h19_3]; decide) (by rw [h19_3]; rfl) rfl ?_
      refine ts_aload_n dTS_step_72 rfl rfl ?_
      refine ts_callV (cTS_settle G T S) pTS_C127.1 pTS_C127.2 rfl rfl rfl rfl ⟨Nat.le_of_ble_eq_true rfl, Nat.le_of_ble_eq_true rfl⟩ ⟨Nat.le_of_ble_eq_true rfl, Nat.le_of_ble_eq_true rfl⟩ rfl (Nat.le_of_ble_eq_true rfl) dTS_step_73 ?_
      refine ts_conv (lo' := [.ref 1, .int (S.1 9)]) (st' := [.int ((tc_settle S).1)]) (h' := tc_h G ((tc_settle S).2) ++ T) rfl rfl rfl ?_
      refine ts_if_eq (tgt := 83) dTS_step_76 rfl (fun (h76 : ((tc_settle S).1) = 0) => ?_) (fun (h76 : ¬ ((tc_settle S).1) = 0) => ?_)
      · refine ts_bipush (v := -9) dTS_step_83 (by decide) ?_
        have e : tc_step S = ((-9), (tc_settle S).2) := by simp only [tc_step, tz_d10, tz_d20, tz_d21, tz_d30, tz_d31, tz_d32, h7, h19_3, h76, ↓reduceIte]
        exact ts_iret dTS_step_85 rfl (tc_e1 e) (tc_e2 e)
      · refine ts_iload_n dTS_step_79 rfl rfl ?_
        refine ts_goto (tgt := 85) dTS_step_80 rfl ?_
        have e : tc_step S = (S.1 9, (tc_settle S).2) := by simp only [tc_step, tz_d10, tz_d20, tz_d21, tz_d30, tz_d31, tz_d32, h7, h19_3, h76, ↓reduceIte]
        exact ts_iret dTS_step_85 rfl (tc_e1 e) (tc_e2 e)
    refine ts_tableOut (tgt := 86) dTS_step_19 (by have := lv_neT h19_1 (by decide : (1 : Int32).toInt = 1) ; have := lv_neT h19_2 (by decide : (2 : Int32).toInt = 2) ; have := lv_neT h19_3 (by decide : (3 : Int32).toInt = 3); omega) rfl ?_
    refine ts_bipush (v := -3) dTS_step_86 (by decide) ?_
    have e : tc_step S = ((-3), S) := by simp only [tc_step, tz_d10, tz_d20, tz_d21, tz_d30, tz_d31, tz_d32, h7, h19_1, h19_2, h19_3, ↓reduceIte]
    exact ts_iret dTS_step_88 rfl (tc_e1 e) (tc_e2 e)
  · refine ts_bipush (v := -9) dTS_step_10 (by decide) ?_
    have e : tc_step S = ((-9), S) := by simp only [tc_step, tz_d10, tz_d20, tz_d21, tz_d30, tz_d31, tz_d32, h7, ↓reduceIte]
    exact ts_iret dTS_step_12 rfl (tc_e1 e) (tc_e2 e)
