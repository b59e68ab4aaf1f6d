set_option maxHeartbeats 4000000 in
set_option maxRecDepth 100000 in
theorem cMO_recover_cut (G : ts_GX) (S : tc_S) (M : tc_S) (k : Int32) (hR : tm_Rc M) (X : ts_VX) (Q : State → Prop) : ∀ (n : Nat) (a r : Int32), a.toInt < (n : Nat) → a.toInt < (M.1 6).toInt → ts_V G X YMO_recover Q 0 0 167 [.ref 17, .int k, .int ((tm_cutGo M n a r).1)] [] (tc_h G S ++ tm_h G (tc_f M 15 (tm_cutGo M n a r).2)) → ts_V G X YMO_recover Q 0 0 134 [.ref 17, .int k, .int a] [] (tc_h G S ++ tm_h G (tc_f M 15 r)) := by
  intro n
  induction n with
  | zero =>
    intro a r hn ha K
    refine ts_iload_n dMO_recover_134 rfl rfl ?_
    refine ts_aload_n dMO_recover_135 rfl rfl ?_
    refine ts_get pMO_F35 dMO_recover_136 rfl rfl ?_
    refine ts_aload_n dMO_recover_139 rfl rfl ?_
    refine ts_get pMO_F57 dMO_recover_140 rfl rfl ?_
    refine ts_iald dMO_recover_143 rfl (tm_in2 hR.1) ?_
    refine ts_icmp_lt (tgt := 167) dMO_recover_144 rfl (fun _ => ?_) (fun (hq : ¬ a < (tc_r M 8 (M.1 18))) => absurd (tm_cutZ hR hn) hq)
    exact K
  | succ n ih =>
    intro a r hn ha K
    refine ts_iload_n dMO_recover_134 rfl rfl ?_
    refine ts_aload_n dMO_recover_135 rfl rfl ?_
    refine ts_get pMO_F35 dMO_recover_136 rfl rfl ?_
    refine ts_aload_n dMO_recover_139 rfl rfl ?_
    refine ts_get pMO_F57 dMO_recover_140 rfl rfl ?_
    refine ts_iald dMO_recover_143 rfl (tm_in2 hR.1) ?_
    refine ts_icmp_lt (tgt := 167) dMO_recover_144 rfl (fun (h144 : a < (tc_r M 8 (M.1 18))) => ?_) (fun (h144 : ¬ a < (tc_r M 8 (M.1 18))) => ?_)
    · have e9 : tm_cutGo M (n + 1) a r = (a, r) := by simp only [tm_cutGo, h144, ↓reduceIte]
      rw [e9] at K
      exact K
    · refine ts_aload_n dMO_recover_147 rfl rfl ?_
      refine ts_dup dMO_recover_148 rfl ?_
      refine ts_get pMO_F91 dMO_recover_149 rfl rfl ?_
      refine ts_iconst (v := 1) dMO_recover_152 (by decide) ?_
      refine ts_iadd dMO_recover_153 ?_
      refine ts_put pMO_P91 dMO_recover_154 rfl (Nat.le_of_ble_eq_true rfl) rfl rfl (h' := tc_h G S ++ tm_h G (tc_f M 15 (r + 1))) ((tn_f15 _ _ _ _).trans (congrArg (fun z => tc_h G S ++ tm_h G z) (tc_ff _ _ _ _))) ?_
      refine ts_aload_n dMO_recover_157 rfl rfl ?_
      refine ts_get pMO_F16 dMO_recover_158 rfl rfl ?_
      refine ts_iload_n dMO_recover_161 rfl rfl ?_
      refine ts_iald dMO_recover_162 rfl (tm_inC hR ha h144) ?_
      refine ts_istore_n (lo' := [.ref 17, .int k, .int (tc_r M 3 a)]) dMO_recover_163 rfl (Nat.le_of_ble_eq_true rfl) (Nat.le_of_ble_eq_true rfl) rfl ?_
      refine ts_goto (tgt := 134) dMO_recover_164 rfl ?_
      refine ih _ _ (tm_prevN hR ha h144 hn) (tm_prevT hR ha h144) ?_
      have e9 : tm_cutGo M (n + 1) a r = tm_cutGo M n (tc_r M 3 a) (r + 1) := by simp only [tm_cutGo, h144, ↓reduceIte]
      rw [← e9]
      exact K
