set_option maxHeartbeats 4000000 in
set_option maxRecDepth 100000 in
theorem cMO_image_loop (G : ts_GX) (S : tc_S) (e : Int32) (he : e.toInt ≤ 16) (X : ts_VX) (Q : State → Prop) : ∀ (n : Nat) (M : tc_S) (k : Int32), 0 ≤ k.toInt → e.toInt ≤ k.toInt + n → tm_P M → (∀ k9 : Int32, ts_V G X YMO_image Q 0 0 63 [.ref 17, .int e, .int k9] [] (tc_h G S ++ tm_h G (tm_copyGo n M k e))) → ts_V G X YMO_image Q 0 0 32 [.ref 17, .int e, .int k] [] (tc_h G S ++ tm_h G M) := by
  intro n
  induction n with
  | zero =>
    intro M k hk hn hP K
    refine ts_iload_n dMO_image_32 rfl rfl ?_
    refine ts_iload_n dMO_image_33 rfl rfl ?_
    refine ts_icmp_ge (tgt := 63) dMO_image_34 rfl (fun _ => ?_) (fun (hq : ¬ e ≤ k) => absurd (tc_kz hn) hq)
    exact K _
  | succ n ih =>
    intro M k hk hn hP K
    refine ts_iload_n dMO_image_32 rfl rfl ?_
    refine ts_iload_n dMO_image_33 rfl rfl ?_
    refine ts_icmp_ge (tgt := 63) dMO_image_34 rfl (fun (h34 : e ≤ k) => ?_) (fun (h34 : ¬ e ≤ k) => ?_)
    · have e9 : tm_copyGo (n + 1) M k e = M := by simp only [tm_copyGo, h34, ↓reduceIte]
      rw [e9] at K
      exact K _
    · refine ts_aload_n dMO_image_37 rfl rfl ?_
      refine ts_get pMO_F47 dMO_image_38 rfl rfl ?_
      refine ts_bipush (v := 16) dMO_image_41 (by decide) ?_
      refine ts_aload_n dMO_image_43 rfl rfl ?_
      refine ts_callV (cMO_writing G S M) pMO_C149.1 pMO_C149.2 rfl rfl rfl rfl ⟨Nat.le_of_ble_eq_true rfl, Nat.le_of_ble_eq_true rfl⟩ ⟨Nat.le_of_ble_eq_true rfl, Nat.le_of_ble_eq_true rfl⟩ rfl (Nat.le_of_ble_eq_true rfl) dMO_image_44 ?_
      refine ts_conv (lo' := [.ref 17, .int e, .int k]) (st' := [.int (tm_to M), .int 16, .ref 30]) (h' := tc_h G S ++ tm_h G M) rfl rfl rfl ?_
      refine ts_imul dMO_image_47 ?_
      refine ts_iload_n dMO_image_48 rfl rfl ?_
      refine ts_iadd dMO_image_49 ?_
      refine ts_aload_n dMO_image_50 rfl rfl ?_
      refine ts_get pMO_F26 dMO_image_51 rfl rfl ?_
      refine ts_iload_n dMO_image_54 rfl rfl ?_
      refine ts_iald dMO_image_55 rfl (tc_in16 hk he h34) ?_
      refine ts_iast dMO_image_56 rfl (tm_ix (tm_to_01 hP) hk he h34) (h' := tc_h G S ++ tm_h G (tc_a M 12 ((16 * (tm_to M)) + k) (tc_r M 0 k))) (tn_a12 _ _ _ _ _) ?_
      refine ts_iinc (v := k + 1) (lo' := [.ref 17, .int e, .int (k + 1)]) dMO_image_57 rfl rfl (Nat.le_of_ble_eq_true rfl) rfl ?_
      refine ts_goto (tgt := 32) dMO_image_60 rfl ?_
      refine ih (tc_a M 12 ((16 * (tm_to M)) + k) (tc_r M 0 k)) (k + 1) (tc_kb hk h34) (tc_kn he hn h34) hP ?_
      have e9 : tm_copyGo (n + 1) M k e = tm_copyGo n (tc_a M 12 ((16 * (tm_to M)) + k) (tc_r M 0 k)) (k + 1) e := by simp only [tm_copyGo, h34, ↓reduceIte]
      rw [← e9]
      exact K
set_option maxHeartbeats 4000000 in
set_option maxRecDepth 100000 in
theorem cMO_image_end (G : ts_GX) (S : tc_S) (M : tc_S) (e k9 : Int32) (hb : tj (tm_image2 M e)) (h12 : (tm_image2 M e).1 12 = 0) (X : ts_VX) : ts_V G X YMO_image (ts_QX G X (some (.int (tm_imgE M e).1)) (tc_h G S ++ tm_h G ((tm_imgE M e).2)) 0 0) 0 0 63 [.ref 17, .int e, .int k9] [] (tc_h G S ++ tm_h G M) := by
  refine ts_aload_n dMO_image_63 rfl rfl ?_
  refine ts_iload_n dMO_image_64 rfl rfl ?_
  refine ts_put pMO_P139 dMO_image_65 rfl (Nat.le_of_ble_eq_true rfl) rfl rfl (h' := tc_h G S ++ tm_h G (tc_f M 10 e)) (tn_f10 _ _ _ _) ?_
  refine ts_aload_n dMO_image_68 rfl rfl ?_
  refine ts_aload_n dMO_image_69 rfl rfl ?_
  refine ts_get pMO_F139 dMO_image_70 rfl rfl ?_
  refine ts_aload_n dMO_image_73 rfl rfl ?_
  refine ts_callV (cMO_bucketCount G S (tc_f M 10 e)) pMO_C145.1 pMO_C145.2 rfl rfl rfl rfl ⟨Nat.le_of_ble_eq_true rfl, Nat.le_of_ble_eq_true rfl⟩ ⟨Nat.le_of_ble_eq_true rfl, Nat.le_of_ble_eq_true rfl⟩ rfl (Nat.le_of_ble_eq_true rfl) dMO_image_74 ?_
  refine ts_conv (lo' := [.ref 17, .int e, .int k9]) (st' := [.int (tc_count M), .int e, .ref 17]) (h' := tc_h G S ++ tm_h G (tc_f M 10 e)) rfl rfl rfl ?_
  obtain ⟨v77, g77⟩ : ∃ v : Int32, v = if e = tc_count M then 2 else 1 := ⟨_, rfl⟩
  refine ts_join (j := 85) (lo' := [.ref 17, .int e, .int k9]) (st' := [.int v77, .ref 17]) (h' := tc_h G S ++ tm_h G (tc_f M 10 e)) (fun K => ?_) ?_
  · refine ts_icmp_ne (tgt := 84) dMO_image_77 rfl (fun (h77 : ¬ e = (tc_count M)) => ?_) (fun (h77 : e = (tc_count M)) => ?_)
    · refine ts_iconst (v := 1) dMO_image_84 (by decide) ?_
      exact ts_conv rfl (by rw [g77]; exact congrArg (fun z : Int32 => (Value.int z :: [.ref 17] : List Value)) (show 1 = if e = tc_count M then 2 else 1 by simp only [ite_self, h77, ↓reduceIte])) rfl K
    · refine ts_iconst (v := 2) dMO_image_80 (by decide) ?_
      refine ts_goto (tgt := 85) dMO_image_81 rfl ?_
      exact ts_conv rfl (by rw [g77]; exact congrArg (fun z : Int32 => (Value.int z :: [.ref 17] : List Value)) (show 2 = if e = tc_count M then 2 else 1 by simp only [ite_self, h77, ↓reduceIte])) rfl K
  refine ts_put pMO_P136 dMO_image_85 rfl (Nat.le_of_ble_eq_true rfl) rfl rfl (h' := tc_h G S ++ tm_h G (tc_f (tc_f M 10 e) 9 v77)) (tn_f9 _ _ _ _) ?_
  refine ts_aload_n dMO_image_88 rfl rfl ?_
  refine ts_callV (cMO_block G S (tc_f (tc_f M 10 e) 9 v77) (by subst g77; exact hb) (by subst g77; exact h12)) pMO_C107.1 pMO_C107.2 rfl rfl rfl rfl ⟨Nat.le_of_ble_eq_true rfl, Nat.le_of_ble_eq_true rfl⟩ ⟨Nat.le_of_ble_eq_true rfl, Nat.le_of_ble_eq_true rfl⟩ rfl (Nat.le_of_ble_eq_true rfl) dMO_image_89 ?_
  refine ts_conv (lo' := [.ref 17, .int e, .int k9]) (st' := [.int ((tc_writeBlock (tc_f (tc_f M 10 e) 9 v77)).1)]) (h' := tc_h G S ++ tm_h G ((tc_writeBlock (tc_f (tc_f M 10 e) 9 v77)).2)) rfl rfl rfl ?_
  refine ts_if_eq (tgt := 99) dMO_image_92 rfl (fun (h92 : ((tc_writeBlock (tc_f (tc_f M 10 e) 9 v77)).1) = 0) => ?_) (fun (h92 : ¬ ((tc_writeBlock (tc_f (tc_f M 10 e) 9 v77)).1) = 0) => ?_)
  · refine ts_bipush (v := -9) dMO_image_99 (by decide) ?_
    subst g77
    have e : tm_imgE M e = ((-9), (tc_writeBlock (tc_f (tc_f M 10 e) 9 (if e = tc_count M then 2 else 1))).2) := by simp only [tm_imgE, tm_image2, h92, ↓reduceIte]
    exact ts_iret dMO_image_101 rfl (tc_e1 e) (tm_e2 e)
  · refine ts_iconst (v := 1) dMO_image_95 (by decide) ?_
    refine ts_goto (tgt := 101) dMO_image_96 rfl ?_
    subst g77
    have e : tm_imgE M e = (1, (tc_writeBlock (tc_f (tc_f M 10 e) 9 (if e = tc_count M then 2 else 1))).2) := by simp only [tm_imgE, tm_image2, h92, ↓reduceIte]
    exact ts_iret dMO_image_101 rfl (tc_e1 e) (tm_e2 e)
